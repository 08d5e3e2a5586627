abbrev rL : Room := { frames := 9, cells := 1, slots := 6, locals := 180 }
set_option maxHeartbeats 4000000 in
set_option maxRecDepth 100000 in
theorem kL_reach0 (l : Launch) (E : rE) (a : Nat → Nat) (X X1 : DS) (p1 p2 : Int) (M : rM l yX5_reach sX5_reach rX5_reach E (dk E a X) [.ref (a 0), .int (iI p1), .int (iI p2)] none (fun _ : Unit => dk E a X1)) : rMZ xW l yL_reach sL_reach rL E (dk E a X) [.ref (a 0), .int (iI p1), .int (iI p2)] (some (.int (iI 0))) (fun _ : Unit => dk E a X1) := by
  refine rMW.of (cc := cL_reach) (maxL := 4) (ret := some FieldType.int) (hh := [(0, 6, 9, 13), (0, 6, 12, 15), (0, 6, 15, 17)]) (by decide) rfl (Nat.le_of_ble_eq_true rfl) (fun w h => List.mem_cons_of_mem _ h) ?_
  intro p e s m args below meth c A Q hz hP0 hA hQ C hr hlk ht
  have C : rC p s m args c E A 4 cL_reach sL_reach RL := C
  show rG p l e rL s m args below meth c E A 4 0 0 Q (dk E a X) 0 [(0, .ref (a 0)), (1, .int (iI p1)), (2, .int (iI p2))] []
  refine rg_aload_n C 0 dL_reach_0 rfl rfl ?_
  refine rg_iload_n C 1 dL_reach_1 rfl rfl ?_
  refine rg_iload_n C 2 dL_reach_2 rfl rfl ?_
  refine rg_callV (As := [.int (iI p1), .int (iI p2)]) (rest := []) (wr := []) (w' := fun _ => dk E a X1) C M (rcwV C mX5_reach w_339 ⟨Nat.le_of_ble_eq_true rfl, Nat.le_of_ble_eq_true rfl⟩) [0, 1, 2, 3, 4, 5, 6, 7, 8, 9, 10, 11, 12, 13, 14, 15, 16, 17, 18, 19, 20, 21, 22, 23, 24, 25, 26, 27, 28, 29, 30] [] [0, 1, 2, 3, 4, 5, 6, 7, 8, 9, 10, 11, 12, 13, 14, 15, 16, 17, 18, 19, 20, 21, 22, 23, 24, 25, 26, 27, 28, 29, 30] rfl rfl (by decide) (by decide) (by decide) (fun _ => rfl) (by decide) 0 rfl rfl rfl rfl (Nat.le_of_ble_eq_true rfl) dL_reach_3 ⟨Nat.le_of_ble_eq_true rfl, Nat.le_of_ble_eq_true rfl⟩ (fun _ => ?_)
  refine rg_goto (tgt := 18) C dL_reach_6 (by decide) ?_
  refine rg_iconst C dL_reach_18 ?_
  refine rG.wide (k := 1) (n := 6) (Nat.le_of_ble_eq_true rfl) (Nat.le_of_ble_eq_true rfl) ?_
  exact rg_iret C hA hQ hr hlk () rfl rfl dL_reach_19
set_option maxHeartbeats 4000000 in
set_option maxRecDepth 100000 in
theorem kL_reach1 (l : Launch) (E : rE) (a : Nat → Nat) (X : DS) (p1 p2 : Int) (M : rX xZ l yX5_reach sX5_reach rxX5_reach E (dk E a X) [.ref (a 0), .int (iI p1), .int (iI p2)] xIo) : rMZ xW l yL_reach sL_reach rL E (dk E a X) [.ref (a 0), .int (iI p1), .int (iI p2)] (some (.int (iI 1))) (fun _ : Unit => dk E a X) := by
  refine rMW.of (cc := cL_reach) (maxL := 4) (ret := some FieldType.int) (hh := [(0, 6, 9, 13), (0, 6, 12, 15), (0, 6, 15, 17)]) (by decide) rfl (Nat.le_of_ble_eq_true rfl) (fun w h => List.mem_cons_of_mem _ h) ?_
  intro p e s m args below meth c A Q hz hP0 hA hQ C hr hlk ht
  have C : rC p s m args c E A 4 cL_reach sL_reach RL := C
  show rG p l e rL s m args below meth c E A 4 0 0 Q (dk E a X) 0 [(0, .ref (a 0)), (1, .int (iI p1)), (2, .int (iI p2))] []
  refine rg_aload_n C 0 dL_reach_0 rfl rfl ?_
  refine rg_iload_n C 1 dL_reach_1 rfl rfl ?_
  refine rg_iload_n C 2 dL_reach_2 rfl rfl ?_
  refine rg_callVC (As := [.int (iI p1), .int (iI p2)]) (rest := []) (wr := []) (cin := dk E a X) C M (rcwV C mX5_reach w_339 ⟨Nat.le_of_ble_eq_true rfl, Nat.le_of_ble_eq_true rfl⟩) hz.1 hP0 hA [0, 1, 2, 3, 4, 5, 6, 7, 8, 9, 10, 11, 12, 13, 14, 15, 16, 17, 18, 19, 20, 21, 22, 23, 24, 25, 26, 27, 28, 29, 30] [] [0, 1, 2, 3, 4, 5, 6, 7, 8, 9, 10, 11, 12, 13, 14, 15, 16, 17, 18, 19, 20, 21, 22, 23, 24, 25, 26, 27, 28, 29, 30] rfl rfl (by decide) (by decide) (by decide) rfl (by decide) 0 rfl rfl rfl rfl (Nat.le_of_ble_eq_true rfl) dL_reach_3 ⟨Nat.le_of_ble_eq_true rfl, Nat.le_of_ble_eq_true rfl⟩ [] ⟨0, 6, 9, 13⟩ [⟨0, 6, 12, 15⟩, ⟨0, 6, 15, 17⟩] ht (fun z hz1 => ?_) ⟨⟨by decide, by decide⟩, w_336⟩ (fun q => ?_)
  · cases hz1
  · skip
    refine rg_astore_n C dL_reach_9 rfl (by decide) rfl ?_
    refine rg_iconst C dL_reach_10 ?_
    exact rg_iret C hA hQ hr hlk () rfl rfl dL_reach_11
set_option maxHeartbeats 4000000 in
set_option maxRecDepth 100000 in
theorem kL_reach2 (l : Launch) (E : rE) (a : Nat → Nat) (X : DS) (p1 p2 : Int) (M : rX xZ l yX5_reach sX5_reach rxX5_reach E (dk E a X) [.ref (a 0), .int (iI p1), .int (iI p2)] xNo) : rMZ xW l yL_reach sL_reach rL E (dk E a X) [.ref (a 0), .int (iI p1), .int (iI p2)] (some (.int (iI 2))) (fun _ : Unit => dk E a X) := by
  refine rMW.of (cc := cL_reach) (maxL := 4) (ret := some FieldType.int) (hh := [(0, 6, 9, 13), (0, 6, 12, 15), (0, 6, 15, 17)]) (by decide) rfl (Nat.le_of_ble_eq_true rfl) (fun w h => List.mem_cons_of_mem _ h) ?_
  intro p e s m args below meth c A Q hz hP0 hA hQ C hr hlk ht
  have C : rC p s m args c E A 4 cL_reach sL_reach RL := C
  show rG p l e rL s m args below meth c E A 4 0 0 Q (dk E a X) 0 [(0, .ref (a 0)), (1, .int (iI p1)), (2, .int (iI p2))] []
  refine rg_aload_n C 0 dL_reach_0 rfl rfl ?_
  refine rg_iload_n C 1 dL_reach_1 rfl rfl ?_
  refine rg_iload_n C 2 dL_reach_2 rfl rfl ?_
  refine rg_callVC (As := [.int (iI p1), .int (iI p2)]) (rest := []) (wr := []) (cin := dk E a X) C M (rcwV C mX5_reach w_339 ⟨Nat.le_of_ble_eq_true rfl, Nat.le_of_ble_eq_true rfl⟩) hz.1 hP0 hA [0, 1, 2, 3, 4, 5, 6, 7, 8, 9, 10, 11, 12, 13, 14, 15, 16, 17, 18, 19, 20, 21, 22, 23, 24, 25, 26, 27, 28, 29, 30] [] [0, 1, 2, 3, 4, 5, 6, 7, 8, 9, 10, 11, 12, 13, 14, 15, 16, 17, 18, 19, 20, 21, 22, 23, 24, 25, 26, 27, 28, 29, 30] rfl rfl (by decide) (by decide) (by decide) rfl (by decide) 0 rfl rfl rfl rfl (Nat.le_of_ble_eq_true rfl) dL_reach_3 ⟨Nat.le_of_ble_eq_true rfl, Nat.le_of_ble_eq_true rfl⟩ [⟨0, 6, 9, 13⟩] ⟨0, 6, 12, 15⟩ [⟨0, 6, 15, 17⟩] ht (fun z hz1 => ?_) ⟨⟨by decide, by decide⟩, w_337⟩ (fun q => ?_)
  · rcases List.mem_cons.mp hz1 with rfl | hz1
    · exact ⟨⟨by decide, by decide⟩, xIo, w_336, hz.2.1⟩
    cases hz1
  · skip
    refine rg_astore_n C dL_reach_12 rfl (by decide) rfl ?_
    refine rg_iconst C dL_reach_13 ?_
    exact rg_iret C hA hQ hr hlk () rfl rfl dL_reach_14
set_option maxHeartbeats 4000000 in
set_option maxRecDepth 100000 in
theorem kL_reach3 (l : Launch) (E : rE) (a : Nat → Nat) (X : DS) (p1 p2 : Int) (M : rX xZ l yX5_reach sX5_reach rxX5_reach E (dk E a X) [.ref (a 0), .int (iI p1), .int (iI p2)] xIl) : rMZ xW l yL_reach sL_reach rL E (dk E a X) [.ref (a 0), .int (iI p1), .int (iI p2)] (some (.int (iI 3))) (fun _ : Unit => dk E a X) := by
  refine rMW.of (cc := cL_reach) (maxL := 4) (ret := some FieldType.int) (hh := [(0, 6, 9, 13), (0, 6, 12, 15), (0, 6, 15, 17)]) (by decide) rfl (Nat.le_of_ble_eq_true rfl) (fun w h => List.mem_cons_of_mem _ h) ?_
  intro p e s m args below meth c A Q hz hP0 hA hQ C hr hlk ht
  have C : rC p s m args c E A 4 cL_reach sL_reach RL := C
  show rG p l e rL s m args below meth c E A 4 0 0 Q (dk E a X) 0 [(0, .ref (a 0)), (1, .int (iI p1)), (2, .int (iI p2))] []
  refine rg_aload_n C 0 dL_reach_0 rfl rfl ?_
  refine rg_iload_n C 1 dL_reach_1 rfl rfl ?_
  refine rg_iload_n C 2 dL_reach_2 rfl rfl ?_
  refine rg_callVC (As := [.int (iI p1), .int (iI p2)]) (rest := []) (wr := []) (cin := dk E a X) C M (rcwV C mX5_reach w_339 ⟨Nat.le_of_ble_eq_true rfl, Nat.le_of_ble_eq_true rfl⟩) hz.1 hP0 hA [0, 1, 2, 3, 4, 5, 6, 7, 8, 9, 10, 11, 12, 13, 14, 15, 16, 17, 18, 19, 20, 21, 22, 23, 24, 25, 26, 27, 28, 29, 30] [] [0, 1, 2, 3, 4, 5, 6, 7, 8, 9, 10, 11, 12, 13, 14, 15, 16, 17, 18, 19, 20, 21, 22, 23, 24, 25, 26, 27, 28, 29, 30] rfl rfl (by decide) (by decide) (by decide) rfl (by decide) 0 rfl rfl rfl rfl (Nat.le_of_ble_eq_true rfl) dL_reach_3 ⟨Nat.le_of_ble_eq_true rfl, Nat.le_of_ble_eq_true rfl⟩ [⟨0, 6, 9, 13⟩, ⟨0, 6, 12, 15⟩] ⟨0, 6, 15, 17⟩ [] ht (fun z hz1 => ?_) ⟨⟨by decide, by decide⟩, w_338⟩ (fun q => ?_)
  · rcases List.mem_cons.mp hz1 with rfl | hz1
    · exact ⟨⟨by decide, by decide⟩, xIo, w_336, hz.2.2.2.2.1⟩
    rcases List.mem_cons.mp hz1 with rfl | hz1
    · exact ⟨⟨by decide, by decide⟩, xNo, w_337, hz.2.2.2.2.2.1⟩
    cases hz1
  · skip
    refine rg_astore_n C dL_reach_15 rfl (by decide) rfl ?_
    refine rg_iconst C dL_reach_16 ?_
    exact rg_iret C hA hQ hr hlk () rfl rfl dL_reach_17
set_option maxHeartbeats 4000000 in
set_option maxRecDepth 100000 in
theorem kL_reservoir0 (l : Launch) (E : rE) (a : Nat → Nat) (X X1 : DS) (p1 p2 p3 : Int) (M : rM l yX5_reservoir sX5_reservoir rX5_reservoir E (dk E a X) [.ref (a 0), .int (iI p1), .int (iI p2), .int (iI p3)] none (fun _ : Unit => dk E a X1)) : rMZ xW l yL_reservoir sL_reservoir rL E (dk E a X) [.ref (a 0), .int (iI p1), .int (iI p2), .int (iI p3)] (some (.int (iI 0))) (fun _ : Unit => dk E a X1) := by
  refine rMW.of (cc := cL_reservoir) (maxL := 5) (ret := some FieldType.int) (hh := [(0, 7, 10, 13), (0, 7, 14, 15), (0, 7, 18, 23), (0, 7, 22, 17)]) (by decide) rfl (Nat.le_of_ble_eq_true rfl) (fun w h => List.mem_cons_of_mem _ h) ?_
  intro p e s m args below meth c A Q hz hP0 hA hQ C hr hlk ht
  have C : rC p s m args c E A 5 cL_reservoir sL_reservoir RL := C
  show rG p l e rL s m args below meth c E A 5 0 0 Q (dk E a X) 0 [(0, .ref (a 0)), (1, .int (iI p1)), (2, .int (iI p2)), (3, .int (iI p3))] []
  refine rg_aload_n C 0 dL_reservoir_0 rfl rfl ?_
  refine rg_iload_n C 1 dL_reservoir_1 rfl rfl ?_
  refine rg_iload_n C 2 dL_reservoir_2 rfl rfl ?_
  refine rg_iload_n C 3 dL_reservoir_3 rfl rfl ?_
  refine rg_callV (As := [.int (iI p1), .int (iI p2), .int (iI p3)]) (rest := []) (wr := []) (w' := fun _ => dk E a X1) C M (rcwV C mX5_reservoir w_461 ⟨Nat.le_of_ble_eq_true rfl, Nat.le_of_ble_eq_true rfl⟩) [0, 1, 2, 3, 4, 5, 6, 7, 8, 9, 10, 11, 12, 13, 14, 15, 16, 17, 18, 19, 20, 21, 22, 23, 24, 25, 26, 27, 28, 29, 30] [] [0, 1, 2, 3, 4, 5, 6, 7, 8, 9, 10, 11, 12, 13, 14, 15, 16, 17, 18, 19, 20, 21, 22, 23, 24, 25, 26, 27, 28, 29, 30] rfl rfl (by decide) (by decide) (by decide) (fun _ => rfl) (by decide) 0 rfl rfl rfl rfl (Nat.le_of_ble_eq_true rfl) dL_reservoir_4 ⟨Nat.le_of_ble_eq_true rfl, Nat.le_of_ble_eq_true rfl⟩ (fun _ => ?_)
  refine rg_goto (tgt := 26) C dL_reservoir_7 (by decide) ?_
  refine rg_iconst C dL_reservoir_26 ?_
  refine rG.wide (k := 1) (n := 6) (Nat.le_of_ble_eq_true rfl) (Nat.le_of_ble_eq_true rfl) ?_
  exact rg_iret C hA hQ hr hlk () rfl rfl dL_reservoir_27
set_option maxHeartbeats 4000000 in
set_option maxRecDepth 100000 in
theorem kL_reservoir1 (l : Launch) (E : rE) (a : Nat → Nat) (X : DS) (p1 p2 p3 : Int) (M : rX xZ l yX5_reservoir sX5_reservoir rxX5_reservoir E (dk E a X) [.ref (a 0), .int (iI p1), .int (iI p2), .int (iI p3)] xIo) : rMZ xW l yL_reservoir sL_reservoir rL E (dk E a X) [.ref (a 0), .int (iI p1), .int (iI p2), .int (iI p3)] (some (.int (iI 1))) (fun _ : Unit => dk E a X) := by
  refine rMW.of (cc := cL_reservoir) (maxL := 5) (ret := some FieldType.int) (hh := [(0, 7, 10, 13), (0, 7, 14, 15), (0, 7, 18, 23), (0, 7, 22, 17)]) (by decide) rfl (Nat.le_of_ble_eq_true rfl) (fun w h => List.mem_cons_of_mem _ h) ?_
  intro p e s m args below meth c A Q hz hP0 hA hQ C hr hlk ht
  have C : rC p s m args c E A 5 cL_reservoir sL_reservoir RL := C
  show rG p l e rL s m args below meth c E A 5 0 0 Q (dk E a X) 0 [(0, .ref (a 0)), (1, .int (iI p1)), (2, .int (iI p2)), (3, .int (iI p3))] []
  refine rg_aload_n C 0 dL_reservoir_0 rfl rfl ?_
  refine rg_iload_n C 1 dL_reservoir_1 rfl rfl ?_
  refine rg_iload_n C 2 dL_reservoir_2 rfl rfl ?_
  refine rg_iload_n C 3 dL_reservoir_3 rfl rfl ?_
  refine rg_callVC (As := [.int (iI p1), .int (iI p2), .int (iI p3)]) (rest := []) (wr := []) (cin := dk E a X) C M (rcwV C mX5_reservoir w_461 ⟨Nat.le_of_ble_eq_true rfl, Nat.le_of_ble_eq_true rfl⟩) hz.1 hP0 hA [0, 1, 2, 3, 4, 5, 6, 7, 8, 9, 10, 11, 12, 13, 14, 15, 16, 17, 18, 19, 20, 21, 22, 23, 24, 25, 26, 27, 28, 29, 30] [] [0, 1, 2, 3, 4, 5, 6, 7, 8, 9, 10, 11, 12, 13, 14, 15, 16, 17, 18, 19, 20, 21, 22, 23, 24, 25, 26, 27, 28, 29, 30] rfl rfl (by decide) (by decide) (by decide) rfl (by decide) 0 rfl rfl rfl rfl (Nat.le_of_ble_eq_true rfl) dL_reservoir_4 ⟨Nat.le_of_ble_eq_true rfl, Nat.le_of_ble_eq_true rfl⟩ [] ⟨0, 7, 10, 13⟩ [⟨0, 7, 14, 15⟩, ⟨0, 7, 18, 23⟩, ⟨0, 7, 22, 17⟩] ht (fun z hz1 => ?_) ⟨⟨by decide, by decide⟩, w_336⟩ (fun q => ?_)
  · cases hz1
  · skip
    refine rg_astore C dL_reservoir_10 (by decide) rfl ?_
    refine rg_iconst C dL_reservoir_12 ?_
    exact rg_iret C hA hQ hr hlk () rfl rfl dL_reservoir_13
set_option maxHeartbeats 4000000 in
set_option maxRecDepth 100000 in
theorem kL_reservoir2 (l : Launch) (E : rE) (a : Nat → Nat) (X : DS) (p1 p2 p3 : Int) (M : rX xZ l yX5_reservoir sX5_reservoir rxX5_reservoir E (dk E a X) [.ref (a 0), .int (iI p1), .int (iI p2), .int (iI p3)] xNo) : rMZ xW l yL_reservoir sL_reservoir rL E (dk E a X) [.ref (a 0), .int (iI p1), .int (iI p2), .int (iI p3)] (some (.int (iI 2))) (fun _ : Unit => dk E a X) := by
  refine rMW.of (cc := cL_reservoir) (maxL := 5) (ret := some FieldType.int) (hh := [(0, 7, 10, 13), (0, 7, 14, 15), (0, 7, 18, 23), (0, 7, 22, 17)]) (by decide) rfl (Nat.le_of_ble_eq_true rfl) (fun w h => List.mem_cons_of_mem _ h) ?_
  intro p e s m args below meth c A Q hz hP0 hA hQ C hr hlk ht
  have C : rC p s m args c E A 5 cL_reservoir sL_reservoir RL := C
  show rG p l e rL s m args below meth c E A 5 0 0 Q (dk E a X) 0 [(0, .ref (a 0)), (1, .int (iI p1)), (2, .int (iI p2)), (3, .int (iI p3))] []
  refine rg_aload_n C 0 dL_reservoir_0 rfl rfl ?_
  refine rg_iload_n C 1 dL_reservoir_1 rfl rfl ?_
  refine rg_iload_n C 2 dL_reservoir_2 rfl rfl ?_
  refine rg_iload_n C 3 dL_reservoir_3 rfl rfl ?_
  refine rg_callVC (As := [.int (iI p1), .int (iI p2), .int (iI p3)]) (rest := []) (wr := []) (cin := dk E a X) C M (rcwV C mX5_reservoir w_461 ⟨Nat.le_of_ble_eq_true rfl, Nat.le_of_ble_eq_true rfl⟩) hz.1 hP0 hA [0, 1, 2, 3, 4, 5, 6, 7, 8, 9, 10, 11, 12, 13, 14, 15, 16, 17, 18, 19, 20, 21, 22, 23, 24, 25, 26, 27, 28, 29, 30] [] [0, 1, 2, 3, 4, 5, 6, 7, 8, 9, 10, 11, 12, 13, 14, 15, 16, 17, 18, 19, 20, 21, 22, 23, 24, 25, 26, 27, 28, 29, 30] rfl rfl (by decide) (by decide) (by decide) rfl (by decide) 0 rfl rfl rfl rfl (Nat.le_of_ble_eq_true rfl) dL_reservoir_4 ⟨Nat.le_of_ble_eq_true rfl, Nat.le_of_ble_eq_true rfl⟩ [⟨0, 7, 10, 13⟩] ⟨0, 7, 14, 15⟩ [⟨0, 7, 18, 23⟩, ⟨0, 7, 22, 17⟩] ht (fun z hz1 => ?_) ⟨⟨by decide, by decide⟩, w_337⟩ (fun q => ?_)
  · rcases List.mem_cons.mp hz1 with rfl | hz1
    · exact ⟨⟨by decide, by decide⟩, xIo, w_336, hz.2.1⟩
    cases hz1
  · skip
    refine rg_astore C dL_reservoir_14 (by decide) rfl ?_
    refine rg_iconst C dL_reservoir_16 ?_
    exact rg_iret C hA hQ hr hlk () rfl rfl dL_reservoir_17
set_option maxHeartbeats 4000000 in
set_option maxRecDepth 100000 in
theorem kL_reservoir3 (l : Launch) (E : rE) (a : Nat → Nat) (X : DS) (p1 p2 p3 : Int) (M : rX xZ l yX5_reservoir sX5_reservoir rxX5_reservoir E (dk E a X) [.ref (a 0), .int (iI p1), .int (iI p2), .int (iI p3)] xAr) : rMZ xW l yL_reservoir sL_reservoir rL E (dk E a X) [.ref (a 0), .int (iI p1), .int (iI p2), .int (iI p3)] (some (.int (iI 3))) (fun _ : Unit => dk E a X) := by
  refine rMW.of (cc := cL_reservoir) (maxL := 5) (ret := some FieldType.int) (hh := [(0, 7, 10, 13), (0, 7, 14, 15), (0, 7, 18, 23), (0, 7, 22, 17)]) (by decide) rfl (Nat.le_of_ble_eq_true rfl) (fun w h => List.mem_cons_of_mem _ h) ?_
  intro p e s m args below meth c A Q hz hP0 hA hQ C hr hlk ht
  have C : rC p s m args c E A 5 cL_reservoir sL_reservoir RL := C
  show rG p l e rL s m args below meth c E A 5 0 0 Q (dk E a X) 0 [(0, .ref (a 0)), (1, .int (iI p1)), (2, .int (iI p2)), (3, .int (iI p3))] []
  refine rg_aload_n C 0 dL_reservoir_0 rfl rfl ?_
  refine rg_iload_n C 1 dL_reservoir_1 rfl rfl ?_
  refine rg_iload_n C 2 dL_reservoir_2 rfl rfl ?_
  refine rg_iload_n C 3 dL_reservoir_3 rfl rfl ?_
  refine rg_callVC (As := [.int (iI p1), .int (iI p2), .int (iI p3)]) (rest := []) (wr := []) (cin := dk E a X) C M (rcwV C mX5_reservoir w_461 ⟨Nat.le_of_ble_eq_true rfl, Nat.le_of_ble_eq_true rfl⟩) hz.1 hP0 hA [0, 1, 2, 3, 4, 5, 6, 7, 8, 9, 10, 11, 12, 13, 14, 15, 16, 17, 18, 19, 20, 21, 22, 23, 24, 25, 26, 27, 28, 29, 30] [] [0, 1, 2, 3, 4, 5, 6, 7, 8, 9, 10, 11, 12, 13, 14, 15, 16, 17, 18, 19, 20, 21, 22, 23, 24, 25, 26, 27, 28, 29, 30] rfl rfl (by decide) (by decide) (by decide) rfl (by decide) 0 rfl rfl rfl rfl (Nat.le_of_ble_eq_true rfl) dL_reservoir_4 ⟨Nat.le_of_ble_eq_true rfl, Nat.le_of_ble_eq_true rfl⟩ [⟨0, 7, 10, 13⟩, ⟨0, 7, 14, 15⟩] ⟨0, 7, 18, 23⟩ [⟨0, 7, 22, 17⟩] ht (fun z hz1 => ?_) ⟨⟨by decide, by decide⟩, w_460⟩ (fun q => ?_)
  · rcases List.mem_cons.mp hz1 with rfl | hz1
    · exact ⟨⟨by decide, by decide⟩, xIo, w_336, hz.2.2.1⟩
    rcases List.mem_cons.mp hz1 with rfl | hz1
    · exact ⟨⟨by decide, by decide⟩, xNo, w_337, hz.2.2.2.1⟩
    cases hz1
  · skip
    refine rg_astore C dL_reservoir_18 (by decide) rfl ?_
    refine rg_iconst C dL_reservoir_20 ?_
    exact rg_iret C hA hQ hr hlk () rfl rfl dL_reservoir_21
set_option maxHeartbeats 4000000 in
set_option maxRecDepth 100000 in
theorem kL_reservoir4 (l : Launch) (E : rE) (a : Nat → Nat) (X : DS) (p1 p2 p3 : Int) (M : rX xZ l yX5_reservoir sX5_reservoir rxX5_reservoir E (dk E a X) [.ref (a 0), .int (iI p1), .int (iI p2), .int (iI p3)] xIl) : rMZ xW l yL_reservoir sL_reservoir rL E (dk E a X) [.ref (a 0), .int (iI p1), .int (iI p2), .int (iI p3)] (some (.int (iI 4))) (fun _ : Unit => dk E a X) := by
  refine rMW.of (cc := cL_reservoir) (maxL := 5) (ret := some FieldType.int) (hh := [(0, 7, 10, 13), (0, 7, 14, 15), (0, 7, 18, 23), (0, 7, 22, 17)]) (by decide) rfl (Nat.le_of_ble_eq_true rfl) (fun w h => List.mem_cons_of_mem _ h) ?_
  intro p e s m args below meth c A Q hz hP0 hA hQ C hr hlk ht
  have C : rC p s m args c E A 5 cL_reservoir sL_reservoir RL := C
  show rG p l e rL s m args below meth c E A 5 0 0 Q (dk E a X) 0 [(0, .ref (a 0)), (1, .int (iI p1)), (2, .int (iI p2)), (3, .int (iI p3))] []
  refine rg_aload_n C 0 dL_reservoir_0 rfl rfl ?_
  refine rg_iload_n C 1 dL_reservoir_1 rfl rfl ?_
  refine rg_iload_n C 2 dL_reservoir_2 rfl rfl ?_
  refine rg_iload_n C 3 dL_reservoir_3 rfl rfl ?_
  refine rg_callVC (As := [.int (iI p1), .int (iI p2), .int (iI p3)]) (rest := []) (wr := []) (cin := dk E a X) C M (rcwV C mX5_reservoir w_461 ⟨Nat.le_of_ble_eq_true rfl, Nat.le_of_ble_eq_true rfl⟩) hz.1 hP0 hA [0, 1, 2, 3, 4, 5, 6, 7, 8, 9, 10, 11, 12, 13, 14, 15, 16, 17, 18, 19, 20, 21, 22, 23, 24, 25, 26, 27, 28, 29, 30] [] [0, 1, 2, 3, 4, 5, 6, 7, 8, 9, 10, 11, 12, 13, 14, 15, 16, 17, 18, 19, 20, 21, 22, 23, 24, 25, 26, 27, 28, 29, 30] rfl rfl (by decide) (by decide) (by decide) rfl (by decide) 0 rfl rfl rfl rfl (Nat.le_of_ble_eq_true rfl) dL_reservoir_4 ⟨Nat.le_of_ble_eq_true rfl, Nat.le_of_ble_eq_true rfl⟩ [⟨0, 7, 10, 13⟩, ⟨0, 7, 14, 15⟩, ⟨0, 7, 18, 23⟩] ⟨0, 7, 22, 17⟩ [] ht (fun z hz1 => ?_) ⟨⟨by decide, by decide⟩, w_338⟩ (fun q => ?_)
  · rcases List.mem_cons.mp hz1 with rfl | hz1
    · exact ⟨⟨by decide, by decide⟩, xIo, w_336, hz.2.2.2.2.1⟩
    rcases List.mem_cons.mp hz1 with rfl | hz1
    · exact ⟨⟨by decide, by decide⟩, xNo, w_337, hz.2.2.2.2.2.1⟩
    rcases List.mem_cons.mp hz1 with rfl | hz1
    · exact ⟨⟨by decide, by decide⟩, xAr, w_460, hz.2.2.2.2.2.2⟩
    cases hz1
  · skip
    refine rg_astore C dL_reservoir_22 (by decide) rfl ?_
    refine rg_iconst C dL_reservoir_24 ?_
    exact rg_iret C hA hQ hr hlk () rfl rfl dL_reservoir_25
set_option maxHeartbeats 4000000 in
set_option maxRecDepth 100000 in
theorem kL_right0 (l : Launch) (E : rE) (a : Nat → Nat) (X X1 : DS) (p1 p2 p3 p4 p5 p6 : Int) (M : rM l yX5_right sX5_right rX5_right E (dk E a X) [.ref (a 0), .int (iI p1), .int (iI p2), .int (iI p3), .int (iI p4), .int (iI p5), .int (iI p6)] none (fun _ : Unit => dk E a X1)) : rMZ xW l yL_right sL_right rL E (dk E a X) [.ref (a 0), .int (iI p1), .int (iI p2), .int (iI p3), .int (iI p4), .int (iI p5), .int (iI p6)] (some (.int (iI 0))) (fun _ : Unit => dk E a X1) := by
  refine rMW.of (cc := cL_right) (maxL := 8) (ret := some FieldType.int) (hh := [(0, 13, 16, 13), (0, 13, 20, 15), (0, 13, 24, 23), (0, 13, 28, 17)]) (by decide) rfl (Nat.le_of_ble_eq_true rfl) (fun w h => List.mem_cons_of_mem _ h) ?_
  intro p e s m args below meth c A Q hz hP0 hA hQ C hr hlk ht
  have C : rC p s m args c E A 8 cL_right sL_right RL := C
  show rG p l e rL s m args below meth c E A 8 0 0 Q (dk E a X) 0 [(0, .ref (a 0)), (1, .int (iI p1)), (2, .int (iI p2)), (3, .int (iI p3)), (4, .int (iI p4)), (5, .int (iI p5)), (6, .int (iI p6))] []
  refine rg_aload_n C 0 dL_right_0 rfl rfl ?_
  refine rg_iload_n C 1 dL_right_1 rfl rfl ?_
  refine rg_iload_n C 2 dL_right_2 rfl rfl ?_
  refine rg_iload_n C 3 dL_right_3 rfl rfl ?_
  refine rg_iload C 4 dL_right_4 rfl ?_
  refine rg_iload C 5 dL_right_6 rfl ?_
  refine rg_iload C 6 dL_right_8 rfl ?_
  refine rg_callV (As := [.int (iI p1), .int (iI p2), .int (iI p3), .int (iI p4), .int (iI p5), .int (iI p6)]) (rest := []) (wr := []) (w' := fun _ => dk E a X1) C M (rcwV C mX5_right w_492 ⟨Nat.le_of_ble_eq_true rfl, Nat.le_of_ble_eq_true rfl⟩) [0, 1, 2, 3, 4, 5, 6, 7, 8, 9, 10, 11, 12, 13, 14, 15, 16, 17, 18, 19, 20, 21, 22, 23, 24, 25, 26, 27, 28, 29, 30] [] [0, 1, 2, 3, 4, 5, 6, 7, 8, 9, 10, 11, 12, 13, 14, 15, 16, 17, 18, 19, 20, 21, 22, 23, 24, 25, 26, 27, 28, 29, 30] rfl rfl (by decide) (by decide) (by decide) (fun _ => rfl) (by decide) 0 rfl rfl rfl rfl (Nat.le_of_ble_eq_true rfl) dL_right_10 ⟨Nat.le_of_ble_eq_true rfl, Nat.le_of_ble_eq_true rfl⟩ (fun _ => ?_)
  refine rg_goto (tgt := 32) C dL_right_13 (by decide) ?_
  refine rg_iconst C dL_right_32 ?_
  refine rG.wide (k := 1) (n := 6) (Nat.le_of_ble_eq_true rfl) (Nat.le_of_ble_eq_true rfl) ?_
  exact rg_iret C hA hQ hr hlk () rfl rfl dL_right_33
set_option maxHeartbeats 4000000 in
set_option maxRecDepth 100000 in
theorem kL_right1 (l : Launch) (E : rE) (a : Nat → Nat) (X : DS) (p1 p2 p3 p4 p5 p6 : Int) (M : rX xZ l yX5_right sX5_right rxX5_right E (dk E a X) [.ref (a 0), .int (iI p1), .int (iI p2), .int (iI p3), .int (iI p4), .int (iI p5), .int (iI p6)] xIo) : rMZ xW l yL_right sL_right rL E (dk E a X) [.ref (a 0), .int (iI p1), .int (iI p2), .int (iI p3), .int (iI p4), .int (iI p5), .int (iI p6)] (some (.int (iI 1))) (fun _ : Unit => dk E a X) := by
  refine rMW.of (cc := cL_right) (maxL := 8) (ret := some FieldType.int) (hh := [(0, 13, 16, 13), (0, 13, 20, 15), (0, 13, 24, 23), (0, 13, 28, 17)]) (by decide) rfl (Nat.le_of_ble_eq_true rfl) (fun w h => List.mem_cons_of_mem _ h) ?_
  intro p e s m args below meth c A Q hz hP0 hA hQ C hr hlk ht
  have C : rC p s m args c E A 8 cL_right sL_right RL := C
  show rG p l e rL s m args below meth c E A 8 0 0 Q (dk E a X) 0 [(0, .ref (a 0)), (1, .int (iI p1)), (2, .int (iI p2)), (3, .int (iI p3)), (4, .int (iI p4)), (5, .int (iI p5)), (6, .int (iI p6))] []
  refine rg_aload_n C 0 dL_right_0 rfl rfl ?_
  refine rg_iload_n C 1 dL_right_1 rfl rfl ?_
  refine rg_iload_n C 2 dL_right_2 rfl rfl ?_
  refine rg_iload_n C 3 dL_right_3 rfl rfl ?_
  refine rg_iload C 4 dL_right_4 rfl ?_
  refine rg_iload C 5 dL_right_6 rfl ?_
  refine rg_iload C 6 dL_right_8 rfl ?_
  refine rg_callVC (As := [.int (iI p1), .int (iI p2), .int (iI p3), .int (iI p4), .int (iI p5), .int (iI p6)]) (rest := []) (wr := []) (cin := dk E a X) C M (rcwV C mX5_right w_492 ⟨Nat.le_of_ble_eq_true rfl, Nat.le_of_ble_eq_true rfl⟩) hz.1 hP0 hA [0, 1, 2, 3, 4, 5, 6, 7, 8, 9, 10, 11, 12, 13, 14, 15, 16, 17, 18, 19, 20, 21, 22, 23, 24, 25, 26, 27, 28, 29, 30] [] [0, 1, 2, 3, 4, 5, 6, 7, 8, 9, 10, 11, 12, 13, 14, 15, 16, 17, 18, 19, 20, 21, 22, 23, 24, 25, 26, 27, 28, 29, 30] rfl rfl (by decide) (by decide) (by decide) rfl (by decide) 0 rfl rfl rfl rfl (Nat.le_of_ble_eq_true rfl) dL_right_10 ⟨Nat.le_of_ble_eq_true rfl, Nat.le_of_ble_eq_true rfl⟩ [] ⟨0, 13, 16, 13⟩ [⟨0, 13, 20, 15⟩, ⟨0, 13, 24, 23⟩, ⟨0, 13, 28, 17⟩] ht (fun z hz1 => ?_) ⟨⟨by decide, by decide⟩, w_336⟩ (fun q => ?_)
  · cases hz1
  · skip
    refine rg_astore C dL_right_16 (by decide) rfl ?_
    refine rg_iconst C dL_right_18 ?_
    exact rg_iret C hA hQ hr hlk () rfl rfl dL_right_19
set_option maxHeartbeats 4000000 in
set_option maxRecDepth 100000 in
theorem kL_right2 (l : Launch) (E : rE) (a : Nat → Nat) (X : DS) (p1 p2 p3 p4 p5 p6 : Int) (M : rX xZ l yX5_right sX5_right rxX5_right E (dk E a X) [.ref (a 0), .int (iI p1), .int (iI p2), .int (iI p3), .int (iI p4), .int (iI p5), .int (iI p6)] xNo) : rMZ xW l yL_right sL_right rL E (dk E a X) [.ref (a 0), .int (iI p1), .int (iI p2), .int (iI p3), .int (iI p4), .int (iI p5), .int (iI p6)] (some (.int (iI 2))) (fun _ : Unit => dk E a X) := by
  refine rMW.of (cc := cL_right) (maxL := 8) (ret := some FieldType.int) (hh := [(0, 13, 16, 13), (0, 13, 20, 15), (0, 13, 24, 23), (0, 13, 28, 17)]) (by decide) rfl (Nat.le_of_ble_eq_true rfl) (fun w h => List.mem_cons_of_mem _ h) ?_
  intro p e s m args below meth c A Q hz hP0 hA hQ C hr hlk ht
  have C : rC p s m args c E A 8 cL_right sL_right RL := C
  show rG p l e rL s m args below meth c E A 8 0 0 Q (dk E a X) 0 [(0, .ref (a 0)), (1, .int (iI p1)), (2, .int (iI p2)), (3, .int (iI p3)), (4, .int (iI p4)), (5, .int (iI p5)), (6, .int (iI p6))] []
  refine rg_aload_n C 0 dL_right_0 rfl rfl ?_
  refine rg_iload_n C 1 dL_right_1 rfl rfl ?_
  refine rg_iload_n C 2 dL_right_2 rfl rfl ?_
  refine rg_iload_n C 3 dL_right_3 rfl rfl ?_
  refine rg_iload C 4 dL_right_4 rfl ?_
  refine rg_iload C 5 dL_right_6 rfl ?_
  refine rg_iload C 6 dL_right_8 rfl ?_
  refine rg_callVC (As := [.int (iI p1), .int (iI p2), .int (iI p3), .int (iI p4), .int (iI p5), .int (iI p6)]) (rest := []) (wr := []) (cin := dk E a X) C M (rcwV C mX5_right w_492 ⟨Nat.le_of_ble_eq_true rfl, Nat.le_of_ble_eq_true rfl⟩) hz.1 hP0 hA [0, 1, 2, 3, 4, 5, 6, 7, 8, 9, 10, 11, 12, 13, 14, 15, 16, 17, 18, 19, 20, 21, 22, 23, 24, 25, 26, 27, 28, 29, 30] [] [0, 1, 2, 3, 4, 5, 6, 7, 8, 9, 10, 11, 12, 13, 14, 15, 16, 17, 18, 19, 20, 21, 22, 23, 24, 25, 26, 27, 28, 29, 30] rfl rfl (by decide) (by decide) (by decide) rfl (by decide) 0 rfl rfl rfl rfl (Nat.le_of_ble_eq_true rfl) dL_right_10 ⟨Nat.le_of_ble_eq_true rfl, Nat.le_of_ble_eq_true rfl⟩ [⟨0, 13, 16, 13⟩] ⟨0, 13, 20, 15⟩ [⟨0, 13, 24, 23⟩, ⟨0, 13, 28, 17⟩] ht (fun z hz1 => ?_) ⟨⟨by decide, by decide⟩, w_337⟩ (fun q => ?_)
  · rcases List.mem_cons.mp hz1 with rfl | hz1
    · exact ⟨⟨by decide, by decide⟩, xIo, w_336, hz.2.1⟩
    cases hz1
  · skip
    refine rg_astore C dL_right_20 (by decide) rfl ?_
    refine rg_iconst C dL_right_22 ?_
    exact rg_iret C hA hQ hr hlk () rfl rfl dL_right_23
set_option maxHeartbeats 4000000 in
set_option maxRecDepth 100000 in
theorem kL_right3 (l : Launch) (E : rE) (a : Nat → Nat) (X : DS) (p1 p2 p3 p4 p5 p6 : Int) (M : rX xZ l yX5_right sX5_right rxX5_right E (dk E a X) [.ref (a 0), .int (iI p1), .int (iI p2), .int (iI p3), .int (iI p4), .int (iI p5), .int (iI p6)] xAr) : rMZ xW l yL_right sL_right rL E (dk E a X) [.ref (a 0), .int (iI p1), .int (iI p2), .int (iI p3), .int (iI p4), .int (iI p5), .int (iI p6)] (some (.int (iI 3))) (fun _ : Unit => dk E a X) := by
  refine rMW.of (cc := cL_right) (maxL := 8) (ret := some FieldType.int) (hh := [(0, 13, 16, 13), (0, 13, 20, 15), (0, 13, 24, 23), (0, 13, 28, 17)]) (by decide) rfl (Nat.le_of_ble_eq_true rfl) (fun w h => List.mem_cons_of_mem _ h) ?_
  intro p e s m args below meth c A Q hz hP0 hA hQ C hr hlk ht
  have C : rC p s m args c E A 8 cL_right sL_right RL := C
  show rG p l e rL s m args below meth c E A 8 0 0 Q (dk E a X) 0 [(0, .ref (a 0)), (1, .int (iI p1)), (2, .int (iI p2)), (3, .int (iI p3)), (4, .int (iI p4)), (5, .int (iI p5)), (6, .int (iI p6))] []
  refine rg_aload_n C 0 dL_right_0 rfl rfl ?_
  refine rg_iload_n C 1 dL_right_1 rfl rfl ?_
  refine rg_iload_n C 2 dL_right_2 rfl rfl ?_
  refine rg_iload_n C 3 dL_right_3 rfl rfl ?_
  refine rg_iload C 4 dL_right_4 rfl ?_
  refine rg_iload C 5 dL_right_6 rfl ?_
  refine rg_iload C 6 dL_right_8 rfl ?_
  refine rg_callVC (As := [.int (iI p1), .int (iI p2), .int (iI p3), .int (iI p4), .int (iI p5), .int (iI p6)]) (rest := []) (wr := []) (cin := dk E a X) C M (rcwV C mX5_right w_492 ⟨Nat.le_of_ble_eq_true rfl, Nat.le_of_ble_eq_true rfl⟩) hz.1 hP0 hA [0, 1, 2, 3, 4, 5, 6, 7, 8, 9, 10, 11, 12, 13, 14, 15, 16, 17, 18, 19, 20, 21, 22, 23, 24, 25, 26, 27, 28, 29, 30] [] [0, 1, 2, 3, 4, 5, 6, 7, 8, 9, 10, 11, 12, 13, 14, 15, 16, 17, 18, 19, 20, 21, 22, 23, 24, 25, 26, 27, 28, 29, 30] rfl rfl (by decide) (by decide) (by decide) rfl (by decide) 0 rfl rfl rfl rfl (Nat.le_of_ble_eq_true rfl) dL_right_10 ⟨Nat.le_of_ble_eq_true rfl, Nat.le_of_ble_eq_true rfl⟩ [⟨0, 13, 16, 13⟩, ⟨0, 13, 20, 15⟩] ⟨0, 13, 24, 23⟩ [⟨0, 13, 28, 17⟩] ht (fun z hz1 => ?_) ⟨⟨by decide, by decide⟩, w_460⟩ (fun q => ?_)
  · rcases List.mem_cons.mp hz1 with rfl | hz1
    · exact ⟨⟨by decide, by decide⟩, xIo, w_336, hz.2.2.1⟩
    rcases List.mem_cons.mp hz1 with rfl | hz1
    · exact ⟨⟨by decide, by decide⟩, xNo, w_337, hz.2.2.2.1⟩
    cases hz1
  · skip
    refine rg_astore C dL_right_24 (by decide) rfl ?_
    refine rg_iconst C dL_right_26 ?_
    exact rg_iret C hA hQ hr hlk () rfl rfl dL_right_27
set_option maxHeartbeats 4000000 in
set_option maxRecDepth 100000 in
theorem kL_right4 (l : Launch) (E : rE) (a : Nat → Nat) (X : DS) (p1 p2 p3 p4 p5 p6 : Int) (M : rX xZ l yX5_right sX5_right rxX5_right E (dk E a X) [.ref (a 0), .int (iI p1), .int (iI p2), .int (iI p3), .int (iI p4), .int (iI p5), .int (iI p6)] xIl) : rMZ xW l yL_right sL_right rL E (dk E a X) [.ref (a 0), .int (iI p1), .int (iI p2), .int (iI p3), .int (iI p4), .int (iI p5), .int (iI p6)] (some (.int (iI 4))) (fun _ : Unit => dk E a X) := by
  refine rMW.of (cc := cL_right) (maxL := 8) (ret := some FieldType.int) (hh := [(0, 13, 16, 13), (0, 13, 20, 15), (0, 13, 24, 23), (0, 13, 28, 17)]) (by decide) rfl (Nat.le_of_ble_eq_true rfl) (fun w h => List.mem_cons_of_mem _ h) ?_
  intro p e s m args below meth c A Q hz hP0 hA hQ C hr hlk ht
  have C : rC p s m args c E A 8 cL_right sL_right RL := C
  show rG p l e rL s m args below meth c E A 8 0 0 Q (dk E a X) 0 [(0, .ref (a 0)), (1, .int (iI p1)), (2, .int (iI p2)), (3, .int (iI p3)), (4, .int (iI p4)), (5, .int (iI p5)), (6, .int (iI p6))] []
  refine rg_aload_n C 0 dL_right_0 rfl rfl ?_
  refine rg_iload_n C 1 dL_right_1 rfl rfl ?_
  refine rg_iload_n C 2 dL_right_2 rfl rfl ?_
  refine rg_iload_n C 3 dL_right_3 rfl rfl ?_
  refine rg_iload C 4 dL_right_4 rfl ?_
  refine rg_iload C 5 dL_right_6 rfl ?_
  refine rg_iload C 6 dL_right_8 rfl ?_
  refine rg_callVC (As := [.int (iI p1), .int (iI p2), .int (iI p3), .int (iI p4), .int (iI p5), .int (iI p6)]) (rest := []) (wr := []) (cin := dk E a X) C M (rcwV C mX5_right w_492 ⟨Nat.le_of_ble_eq_true rfl, Nat.le_of_ble_eq_true rfl⟩) hz.1 hP0 hA [0, 1, 2, 3, 4, 5, 6, 7, 8, 9, 10, 11, 12, 13, 14, 15, 16, 17, 18, 19, 20, 21, 22, 23, 24, 25, 26, 27, 28, 29, 30] [] [0, 1, 2, 3, 4, 5, 6, 7, 8, 9, 10, 11, 12, 13, 14, 15, 16, 17, 18, 19, 20, 21, 22, 23, 24, 25, 26, 27, 28, 29, 30] rfl rfl (by decide) (by decide) (by decide) rfl (by decide) 0 rfl rfl rfl rfl (Nat.le_of_ble_eq_true rfl) dL_right_10 ⟨Nat.le_of_ble_eq_true rfl, Nat.le_of_ble_eq_true rfl⟩ [⟨0, 13, 16, 13⟩, ⟨0, 13, 20, 15⟩, ⟨0, 13, 24, 23⟩] ⟨0, 13, 28, 17⟩ [] ht (fun z hz1 => ?_) ⟨⟨by decide, by decide⟩, w_338⟩ (fun q => ?_)
  · rcases List.mem_cons.mp hz1 with rfl | hz1
    · exact ⟨⟨by decide, by decide⟩, xIo, w_336, hz.2.2.2.2.1⟩
    rcases List.mem_cons.mp hz1 with rfl | hz1
    · exact ⟨⟨by decide, by decide⟩, xNo, w_337, hz.2.2.2.2.2.1⟩
    rcases List.mem_cons.mp hz1 with rfl | hz1
    · exact ⟨⟨by decide, by decide⟩, xAr, w_460, hz.2.2.2.2.2.2⟩
    cases hz1
  · skip
    refine rg_astore C dL_right_28 (by decide) rfl ?_
    refine rg_iconst C dL_right_30 ?_
    exact rg_iret C hA hQ hr hlk () rfl rfl dL_right_31
set_option maxHeartbeats 4000000 in
set_option maxRecDepth 100000 in
theorem kL_storage0 (l : Launch) (E : rE) (a : Nat → Nat) (X X1 : DS) (p1 p2 p3 p4 p5 : Int) (M : rM l yX5_storage sX5_storage rX5_storage E (dk E a X) [.ref (a 0), .int (iI p1), .int (iI p2), .int (iI p3), .int (iI p4), .int (iI p5)] none (fun _ : Unit => dk E a X1)) : rMZ xW l yL_storage sL_storage rL E (dk E a X) [.ref (a 0), .int (iI p1), .int (iI p2), .int (iI p3), .int (iI p4), .int (iI p5)] (some (.int (iI 0))) (fun _ : Unit => dk E a X1) := by
  refine rMW.of (cc := cL_storage) (maxL := 7) (ret := some FieldType.int) (hh := [(0, 11, 14, 13), (0, 11, 18, 15), (0, 11, 22, 23), (0, 11, 26, 17)]) (by decide) rfl (Nat.le_of_ble_eq_true rfl) (fun w h => List.mem_cons_of_mem _ h) ?_
  intro p e s m args below meth c A Q hz hP0 hA hQ C hr hlk ht
  have C : rC p s m args c E A 7 cL_storage sL_storage RL := C
  show rG p l e rL s m args below meth c E A 7 0 0 Q (dk E a X) 0 [(0, .ref (a 0)), (1, .int (iI p1)), (2, .int (iI p2)), (3, .int (iI p3)), (4, .int (iI p4)), (5, .int (iI p5))] []
  refine rg_aload_n C 0 dL_storage_0 rfl rfl ?_
  refine rg_iload_n C 1 dL_storage_1 rfl rfl ?_
  refine rg_iload_n C 2 dL_storage_2 rfl rfl ?_
  refine rg_iload_n C 3 dL_storage_3 rfl rfl ?_
  refine rg_iload C 4 dL_storage_4 rfl ?_
  refine rg_iload C 5 dL_storage_6 rfl ?_
  refine rg_callV (As := [.int (iI p1), .int (iI p2), .int (iI p3), .int (iI p4), .int (iI p5)]) (rest := []) (wr := []) (w' := fun _ => dk E a X1) C M (rcwV C mX5_storage w_521 ⟨Nat.le_of_ble_eq_true rfl, Nat.le_of_ble_eq_true rfl⟩) [0, 1, 2, 3, 4, 5, 6, 7, 8, 9, 10, 11, 12, 13, 14, 15, 16, 17, 18, 19, 20, 21, 22, 23, 24, 25, 26, 27, 28, 29, 30] [] [0, 1, 2, 3, 4, 5, 6, 7, 8, 9, 10, 11, 12, 13, 14, 15, 16, 17, 18, 19, 20, 21, 22, 23, 24, 25, 26, 27, 28, 29, 30] rfl rfl (by decide) (by decide) (by decide) (fun _ => rfl) (by decide) 0 rfl rfl rfl rfl (Nat.le_of_ble_eq_true rfl) dL_storage_8 ⟨Nat.le_of_ble_eq_true rfl, Nat.le_of_ble_eq_true rfl⟩ (fun _ => ?_)
  refine rg_goto (tgt := 30) C dL_storage_11 (by decide) ?_
  refine rg_iconst C dL_storage_30 ?_
  refine rG.wide (k := 1) (n := 6) (Nat.le_of_ble_eq_true rfl) (Nat.le_of_ble_eq_true rfl) ?_
  exact rg_iret C hA hQ hr hlk () rfl rfl dL_storage_31
set_option maxHeartbeats 4000000 in
set_option maxRecDepth 100000 in
theorem kL_storage1 (l : Launch) (E : rE) (a : Nat → Nat) (X : DS) (p1 p2 p3 p4 p5 : Int) (M : rX xZ l yX5_storage sX5_storage rxX5_storage E (dk E a X) [.ref (a 0), .int (iI p1), .int (iI p2), .int (iI p3), .int (iI p4), .int (iI p5)] xIo) : rMZ xW l yL_storage sL_storage rL E (dk E a X) [.ref (a 0), .int (iI p1), .int (iI p2), .int (iI p3), .int (iI p4), .int (iI p5)] (some (.int (iI 1))) (fun _ : Unit => dk E a X) := by
  refine rMW.of (cc := cL_storage) (maxL := 7) (ret := some FieldType.int) (hh := [(0, 11, 14, 13), (0, 11, 18, 15), (0, 11, 22, 23), (0, 11, 26, 17)]) (by decide) rfl (Nat.le_of_ble_eq_true rfl) (fun w h => List.mem_cons_of_mem _ h) ?_
  intro p e s m args below meth c A Q hz hP0 hA hQ C hr hlk ht
  have C : rC p s m args c E A 7 cL_storage sL_storage RL := C
  show rG p l e rL s m args below meth c E A 7 0 0 Q (dk E a X) 0 [(0, .ref (a 0)), (1, .int (iI p1)), (2, .int (iI p2)), (3, .int (iI p3)), (4, .int (iI p4)), (5, .int (iI p5))] []
  refine rg_aload_n C 0 dL_storage_0 rfl rfl ?_
  refine rg_iload_n C 1 dL_storage_1 rfl rfl ?_
  refine rg_iload_n C 2 dL_storage_2 rfl rfl ?_
  refine rg_iload_n C 3 dL_storage_3 rfl rfl ?_
  refine rg_iload C 4 dL_storage_4 rfl ?_
  refine rg_iload C 5 dL_storage_6 rfl ?_
  refine rg_callVC (As := [.int (iI p1), .int (iI p2), .int (iI p3), .int (iI p4), .int (iI p5)]) (rest := []) (wr := []) (cin := dk E a X) C M (rcwV C mX5_storage w_521 ⟨Nat.le_of_ble_eq_true rfl, Nat.le_of_ble_eq_true rfl⟩) hz.1 hP0 hA [0, 1, 2, 3, 4, 5, 6, 7, 8, 9, 10, 11, 12, 13, 14, 15, 16, 17, 18, 19, 20, 21, 22, 23, 24, 25, 26, 27, 28, 29, 30] [] [0, 1, 2, 3, 4, 5, 6, 7, 8, 9, 10, 11, 12, 13, 14, 15, 16, 17, 18, 19, 20, 21, 22, 23, 24, 25, 26, 27, 28, 29, 30] rfl rfl (by decide) (by decide) (by decide) rfl (by decide) 0 rfl rfl rfl rfl (Nat.le_of_ble_eq_true rfl) dL_storage_8 ⟨Nat.le_of_ble_eq_true rfl, Nat.le_of_ble_eq_true rfl⟩ [] ⟨0, 11, 14, 13⟩ [⟨0, 11, 18, 15⟩, ⟨0, 11, 22, 23⟩, ⟨0, 11, 26, 17⟩] ht (fun z hz1 => ?_) ⟨⟨by decide, by decide⟩, w_336⟩ (fun q => ?_)
  · cases hz1
  · skip
    refine rg_astore C dL_storage_14 (by decide) rfl ?_
    refine rg_iconst C dL_storage_16 ?_
    exact rg_iret C hA hQ hr hlk () rfl rfl dL_storage_17
set_option maxHeartbeats 4000000 in
set_option maxRecDepth 100000 in
theorem kL_storage2 (l : Launch) (E : rE) (a : Nat → Nat) (X : DS) (p1 p2 p3 p4 p5 : Int) (M : rX xZ l yX5_storage sX5_storage rxX5_storage E (dk E a X) [.ref (a 0), .int (iI p1), .int (iI p2), .int (iI p3), .int (iI p4), .int (iI p5)] xNo) : rMZ xW l yL_storage sL_storage rL E (dk E a X) [.ref (a 0), .int (iI p1), .int (iI p2), .int (iI p3), .int (iI p4), .int (iI p5)] (some (.int (iI 2))) (fun _ : Unit => dk E a X) := by
  refine rMW.of (cc := cL_storage) (maxL := 7) (ret := some FieldType.int) (hh := [(0, 11, 14, 13), (0, 11, 18, 15), (0, 11, 22, 23), (0, 11, 26, 17)]) (by decide) rfl (Nat.le_of_ble_eq_true rfl) (fun w h => List.mem_cons_of_mem _ h) ?_
  intro p e s m args below meth c A Q hz hP0 hA hQ C hr hlk ht
  have C : rC p s m args c E A 7 cL_storage sL_storage RL := C
  show rG p l e rL s m args below meth c E A 7 0 0 Q (dk E a X) 0 [(0, .ref (a 0)), (1, .int (iI p1)), (2, .int (iI p2)), (3, .int (iI p3)), (4, .int (iI p4)), (5, .int (iI p5))] []
  refine rg_aload_n C 0 dL_storage_0 rfl rfl ?_
  refine rg_iload_n C 1 dL_storage_1 rfl rfl ?_
  refine rg_iload_n C 2 dL_storage_2 rfl rfl ?_
  refine rg_iload_n C 3 dL_storage_3 rfl rfl ?_
  refine rg_iload C 4 dL_storage_4 rfl ?_
  refine rg_iload C 5 dL_storage_6 rfl ?_
  refine rg_callVC (As := [.int (iI p1), .int (iI p2), .int (iI p3), .int (iI p4), .int (iI p5)]) (rest := []) (wr := []) (cin := dk E a X) C M (rcwV C mX5_storage w_521 ⟨Nat.le_of_ble_eq_true rfl, Nat.le_of_ble_eq_true rfl⟩) hz.1 hP0 hA [0, 1, 2, 3, 4, 5, 6, 7, 8, 9, 10, 11, 12, 13, 14, 15, 16, 17, 18, 19, 20, 21, 22, 23, 24, 25, 26, 27, 28, 29, 30] [] [0, 1, 2, 3, 4, 5, 6, 7, 8, 9, 10, 11, 12, 13, 14, 15, 16, 17, 18, 19, 20, 21, 22, 23, 24, 25, 26, 27, 28, 29, 30] rfl rfl (by decide) (by decide) (by decide) rfl (by decide) 0 rfl rfl rfl rfl (Nat.le_of_ble_eq_true rfl) dL_storage_8 ⟨Nat.le_of_ble_eq_true rfl, Nat.le_of_ble_eq_true rfl⟩ [⟨0, 11, 14, 13⟩] ⟨0, 11, 18, 15⟩ [⟨0, 11, 22, 23⟩, ⟨0, 11, 26, 17⟩] ht (fun z hz1 => ?_) ⟨⟨by decide, by decide⟩, w_337⟩ (fun q => ?_)
  · rcases List.mem_cons.mp hz1 with rfl | hz1
    · exact ⟨⟨by decide, by decide⟩, xIo, w_336, hz.2.1⟩
    cases hz1
  · skip
    refine rg_astore C dL_storage_18 (by decide) rfl ?_
    refine rg_iconst C dL_storage_20 ?_
    exact rg_iret C hA hQ hr hlk () rfl rfl dL_storage_21
set_option maxHeartbeats 4000000 in
set_option maxRecDepth 100000 in
theorem kL_storage3 (l : Launch) (E : rE) (a : Nat → Nat) (X : DS) (p1 p2 p3 p4 p5 : Int) (M : rX xZ l yX5_storage sX5_storage rxX5_storage E (dk E a X) [.ref (a 0), .int (iI p1), .int (iI p2), .int (iI p3), .int (iI p4), .int (iI p5)] xAr) : rMZ xW l yL_storage sL_storage rL E (dk E a X) [.ref (a 0), .int (iI p1), .int (iI p2), .int (iI p3), .int (iI p4), .int (iI p5)] (some (.int (iI 3))) (fun _ : Unit => dk E a X) := by
  refine rMW.of (cc := cL_storage) (maxL := 7) (ret := some FieldType.int) (hh := [(0, 11, 14, 13), (0, 11, 18, 15), (0, 11, 22, 23), (0, 11, 26, 17)]) (by decide) rfl (Nat.le_of_ble_eq_true rfl) (fun w h => List.mem_cons_of_mem _ h) ?_
  intro p e s m args below meth c A Q hz hP0 hA hQ C hr hlk ht
  have C : rC p s m args c E A 7 cL_storage sL_storage RL := C
  show rG p l e rL s m args below meth c E A 7 0 0 Q (dk E a X) 0 [(0, .ref (a 0)), (1, .int (iI p1)), (2, .int (iI p2)), (3, .int (iI p3)), (4, .int (iI p4)), (5, .int (iI p5))] []
  refine rg_aload_n C 0 dL_storage_0 rfl rfl ?_
  refine rg_iload_n C 1 dL_storage_1 rfl rfl ?_
  refine rg_iload_n C 2 dL_storage_2 rfl rfl ?_
  refine rg_iload_n C 3 dL_storage_3 rfl rfl ?_
  refine rg_iload C 4 dL_storage_4 rfl ?_
  refine rg_iload C 5 dL_storage_6 rfl ?_
  refine rg_callVC (As := [.int (iI p1), .int (iI p2), .int (iI p3), .int (iI p4), .int (iI p5)]) (rest := []) (wr := []) (cin := dk E a X) C M (rcwV C mX5_storage w_521 ⟨Nat.le_of_ble_eq_true rfl, Nat.le_of_ble_eq_true rfl⟩) hz.1 hP0 hA [0, 1, 2, 3, 4, 5, 6, 7, 8, 9, 10, 11, 12, 13, 14, 15, 16, 17, 18, 19, 20, 21, 22, 23, 24, 25, 26, 27, 28, 29, 30] [] [0, 1, 2, 3, 4, 5, 6, 7, 8, 9, 10, 11, 12, 13, 14, 15, 16, 17, 18, 19, 20, 21, 22, 23, 24, 25, 26, 27, 28, 29, 30] rfl rfl (by decide) (by decide) (by decide) rfl (by decide) 0 rfl rfl rfl rfl (Nat.le_of_ble_eq_true rfl) dL_storage_8 ⟨Nat.le_of_ble_eq_true rfl, Nat.le_of_ble_eq_true rfl⟩ [⟨0, 11, 14, 13⟩, ⟨0, 11, 18, 15⟩] ⟨0, 11, 22, 23⟩ [⟨0, 11, 26, 17⟩] ht (fun z hz1 => ?_) ⟨⟨by decide, by decide⟩, w_460⟩ (fun q => ?_)
  · rcases List.mem_cons.mp hz1 with rfl | hz1
    · exact ⟨⟨by decide, by decide⟩, xIo, w_336, hz.2.2.1⟩
    rcases List.mem_cons.mp hz1 with rfl | hz1
    · exact ⟨⟨by decide, by decide⟩, xNo, w_337, hz.2.2.2.1⟩
    cases hz1
  · skip
    refine rg_astore C dL_storage_22 (by decide) rfl ?_
    refine rg_iconst C dL_storage_24 ?_
    exact rg_iret C hA hQ hr hlk () rfl rfl dL_storage_25
set_option maxHeartbeats 4000000 in
set_option maxRecDepth 100000 in
theorem kL_storage4 (l : Launch) (E : rE) (a : Nat → Nat) (X : DS) (p1 p2 p3 p4 p5 : Int) (M : rX xZ l yX5_storage sX5_storage rxX5_storage E (dk E a X) [.ref (a 0), .int (iI p1), .int (iI p2), .int (iI p3), .int (iI p4), .int (iI p5)] xIl) : rMZ xW l yL_storage sL_storage rL E (dk E a X) [.ref (a 0), .int (iI p1), .int (iI p2), .int (iI p3), .int (iI p4), .int (iI p5)] (some (.int (iI 4))) (fun _ : Unit => dk E a X) := by
  refine rMW.of (cc := cL_storage) (maxL := 7) (ret := some FieldType.int) (hh := [(0, 11, 14, 13), (0, 11, 18, 15), (0, 11, 22, 23), (0, 11, 26, 17)]) (by decide) rfl (Nat.le_of_ble_eq_true rfl) (fun w h => List.mem_cons_of_mem _ h) ?_
  intro p e s m args below meth c A Q hz hP0 hA hQ C hr hlk ht
  have C : rC p s m args c E A 7 cL_storage sL_storage RL := C
  show rG p l e rL s m args below meth c E A 7 0 0 Q (dk E a X) 0 [(0, .ref (a 0)), (1, .int (iI p1)), (2, .int (iI p2)), (3, .int (iI p3)), (4, .int (iI p4)), (5, .int (iI p5))] []
  refine rg_aload_n C 0 dL_storage_0 rfl rfl ?_
  refine rg_iload_n C 1 dL_storage_1 rfl rfl ?_
  refine rg_iload_n C 2 dL_storage_2 rfl rfl ?_
  refine rg_iload_n C 3 dL_storage_3 rfl rfl ?_
  refine rg_iload C 4 dL_storage_4 rfl ?_
  refine rg_iload C 5 dL_storage_6 rfl ?_
  refine rg_callVC (As := [.int (iI p1), .int (iI p2), .int (iI p3), .int (iI p4), .int (iI p5)]) (rest := []) (wr := []) (cin := dk E a X) C M (rcwV C mX5_storage w_521 ⟨Nat.le_of_ble_eq_true rfl, Nat.le_of_ble_eq_true rfl⟩) hz.1 hP0 hA [0, 1, 2, 3, 4, 5, 6, 7, 8, 9, 10, 11, 12, 13, 14, 15, 16, 17, 18, 19, 20, 21, 22, 23, 24, 25, 26, 27, 28, 29, 30] [] [0, 1, 2, 3, 4, 5, 6, 7, 8, 9, 10, 11, 12, 13, 14, 15, 16, 17, 18, 19, 20, 21, 22, 23, 24, 25, 26, 27, 28, 29, 30] rfl rfl (by decide) (by decide) (by decide) rfl (by decide) 0 rfl rfl rfl rfl (Nat.le_of_ble_eq_true rfl) dL_storage_8 ⟨Nat.le_of_ble_eq_true rfl, Nat.le_of_ble_eq_true rfl⟩ [⟨0, 11, 14, 13⟩, ⟨0, 11, 18, 15⟩, ⟨0, 11, 22, 23⟩] ⟨0, 11, 26, 17⟩ [] ht (fun z hz1 => ?_) ⟨⟨by decide, by decide⟩, w_338⟩ (fun q => ?_)
  · rcases List.mem_cons.mp hz1 with rfl | hz1
    · exact ⟨⟨by decide, by decide⟩, xIo, w_336, hz.2.2.2.2.1⟩
    rcases List.mem_cons.mp hz1 with rfl | hz1
    · exact ⟨⟨by decide, by decide⟩, xNo, w_337, hz.2.2.2.2.2.1⟩
    rcases List.mem_cons.mp hz1 with rfl | hz1
    · exact ⟨⟨by decide, by decide⟩, xAr, w_460, hz.2.2.2.2.2.2⟩
    cases hz1
  · skip
    refine rg_astore C dL_storage_26 (by decide) rfl ?_
    refine rg_iconst C dL_storage_28 ?_
    exact rg_iret C hA hQ hr hlk () rfl rfl dL_storage_29
set_option maxHeartbeats 4000000 in
set_option maxRecDepth 100000 in
theorem kL_drop0 (l : Launch) (E : rE) (a : Nat → Nat) (X X1 : DS) (p1 : Int) (M : rM l yX5_drop sX5_drop rX5_drop E (dk E a X) [.ref (a 0), .int (iI p1)] none (fun _ : Unit => dk E a X1)) : rMZ xW l yL_drop sL_drop rL E (dk E a X) [.ref (a 0), .int (iI p1)] (some (.int (iI 0))) (fun _ : Unit => dk E a X1) := by
  refine rMW.of (cc := cL_drop) (maxL := 3) (ret := some FieldType.int) (hh := [(0, 5, 8, 13), (0, 5, 11, 15)]) (by decide) rfl (Nat.le_of_ble_eq_true rfl) (fun w h => List.mem_cons_of_mem _ h) ?_
  intro p e s m args below meth c A Q hz hP0 hA hQ C hr hlk ht
  have C : rC p s m args c E A 3 cL_drop sL_drop RL := C
  show rG p l e rL s m args below meth c E A 3 0 0 Q (dk E a X) 0 [(0, .ref (a 0)), (1, .int (iI p1))] []
  refine rg_aload_n C 0 dL_drop_0 rfl rfl ?_
  refine rg_iload_n C 1 dL_drop_1 rfl rfl ?_
  refine rg_callV (As := [.int (iI p1)]) (rest := []) (wr := []) (w' := fun _ => dk E a X1) C M (rcwV C mX5_drop w_532 ⟨Nat.le_of_ble_eq_true rfl, Nat.le_of_ble_eq_true rfl⟩) [0, 1, 2, 3, 4, 5, 6, 7, 8, 9, 10, 11, 12, 13, 14, 15, 16, 17, 18, 19, 20, 21, 22, 23, 24, 25, 26, 27, 28, 29, 30] [] [0, 1, 2, 3, 4, 5, 6, 7, 8, 9, 10, 11, 12, 13, 14, 15, 16, 17, 18, 19, 20, 21, 22, 23, 24, 25, 26, 27, 28, 29, 30] rfl rfl (by decide) (by decide) (by decide) (fun _ => rfl) (by decide) 0 rfl rfl rfl rfl (Nat.le_of_ble_eq_true rfl) dL_drop_2 ⟨Nat.le_of_ble_eq_true rfl, Nat.le_of_ble_eq_true rfl⟩ (fun _ => ?_)
  refine rg_goto (tgt := 14) C dL_drop_5 (by decide) ?_
  refine rg_iconst C dL_drop_14 ?_
  refine rG.wide (k := 1) (n := 6) (Nat.le_of_ble_eq_true rfl) (Nat.le_of_ble_eq_true rfl) ?_
  exact rg_iret C hA hQ hr hlk () rfl rfl dL_drop_15
set_option maxHeartbeats 4000000 in
set_option maxRecDepth 100000 in
theorem kL_drop1 (l : Launch) (E : rE) (a : Nat → Nat) (X : DS) (p1 : Int) (M : rX xZ l yX5_drop sX5_drop rxX5_drop E (dk E a X) [.ref (a 0), .int (iI p1)] xIo) : rMZ xW l yL_drop sL_drop rL E (dk E a X) [.ref (a 0), .int (iI p1)] (some (.int (iI 1))) (fun _ : Unit => dk E a X) := by
  refine rMW.of (cc := cL_drop) (maxL := 3) (ret := some FieldType.int) (hh := [(0, 5, 8, 13), (0, 5, 11, 15)]) (by decide) rfl (Nat.le_of_ble_eq_true rfl) (fun w h => List.mem_cons_of_mem _ h) ?_
  intro p e s m args below meth c A Q hz hP0 hA hQ C hr hlk ht
  have C : rC p s m args c E A 3 cL_drop sL_drop RL := C
  show rG p l e rL s m args below meth c E A 3 0 0 Q (dk E a X) 0 [(0, .ref (a 0)), (1, .int (iI p1))] []
  refine rg_aload_n C 0 dL_drop_0 rfl rfl ?_
  refine rg_iload_n C 1 dL_drop_1 rfl rfl ?_
  refine rg_callVC (As := [.int (iI p1)]) (rest := []) (wr := []) (cin := dk E a X) C M (rcwV C mX5_drop w_532 ⟨Nat.le_of_ble_eq_true rfl, Nat.le_of_ble_eq_true rfl⟩) hz.1 hP0 hA [0, 1, 2, 3, 4, 5, 6, 7, 8, 9, 10, 11, 12, 13, 14, 15, 16, 17, 18, 19, 20, 21, 22, 23, 24, 25, 26, 27, 28, 29, 30] [] [0, 1, 2, 3, 4, 5, 6, 7, 8, 9, 10, 11, 12, 13, 14, 15, 16, 17, 18, 19, 20, 21, 22, 23, 24, 25, 26, 27, 28, 29, 30] rfl rfl (by decide) (by decide) (by decide) rfl (by decide) 0 rfl rfl rfl rfl (Nat.le_of_ble_eq_true rfl) dL_drop_2 ⟨Nat.le_of_ble_eq_true rfl, Nat.le_of_ble_eq_true rfl⟩ [] ⟨0, 5, 8, 13⟩ [⟨0, 5, 11, 15⟩] ht (fun z hz1 => ?_) ⟨⟨by decide, by decide⟩, w_336⟩ (fun q => ?_)
  · cases hz1
  · skip
    refine rg_astore_n C dL_drop_8 rfl (by decide) rfl ?_
    refine rg_iconst C dL_drop_9 ?_
    exact rg_iret C hA hQ hr hlk () rfl rfl dL_drop_10
set_option maxHeartbeats 4000000 in
set_option maxRecDepth 100000 in
theorem kL_drop2 (l : Launch) (E : rE) (a : Nat → Nat) (X : DS) (p1 : Int) (M : rX xZ l yX5_drop sX5_drop rxX5_drop E (dk E a X) [.ref (a 0), .int (iI p1)] xNo) : rMZ xW l yL_drop sL_drop rL E (dk E a X) [.ref (a 0), .int (iI p1)] (some (.int (iI 2))) (fun _ : Unit => dk E a X) := by
  refine rMW.of (cc := cL_drop) (maxL := 3) (ret := some FieldType.int) (hh := [(0, 5, 8, 13), (0, 5, 11, 15)]) (by decide) rfl (Nat.le_of_ble_eq_true rfl) (fun w h => List.mem_cons_of_mem _ h) ?_
  intro p e s m args below meth c A Q hz hP0 hA hQ C hr hlk ht
  have C : rC p s m args c E A 3 cL_drop sL_drop RL := C
  show rG p l e rL s m args below meth c E A 3 0 0 Q (dk E a X) 0 [(0, .ref (a 0)), (1, .int (iI p1))] []
  refine rg_aload_n C 0 dL_drop_0 rfl rfl ?_
  refine rg_iload_n C 1 dL_drop_1 rfl rfl ?_
  refine rg_callVC (As := [.int (iI p1)]) (rest := []) (wr := []) (cin := dk E a X) C M (rcwV C mX5_drop w_532 ⟨Nat.le_of_ble_eq_true rfl, Nat.le_of_ble_eq_true rfl⟩) hz.1 hP0 hA [0, 1, 2, 3, 4, 5, 6, 7, 8, 9, 10, 11, 12, 13, 14, 15, 16, 17, 18, 19, 20, 21, 22, 23, 24, 25, 26, 27, 28, 29, 30] [] [0, 1, 2, 3, 4, 5, 6, 7, 8, 9, 10, 11, 12, 13, 14, 15, 16, 17, 18, 19, 20, 21, 22, 23, 24, 25, 26, 27, 28, 29, 30] rfl rfl (by decide) (by decide) (by decide) rfl (by decide) 0 rfl rfl rfl rfl (Nat.le_of_ble_eq_true rfl) dL_drop_2 ⟨Nat.le_of_ble_eq_true rfl, Nat.le_of_ble_eq_true rfl⟩ [⟨0, 5, 8, 13⟩] ⟨0, 5, 11, 15⟩ [] ht (fun z hz1 => ?_) ⟨⟨by decide, by decide⟩, w_337⟩ (fun q => ?_)
  · rcases List.mem_cons.mp hz1 with rfl | hz1
    · exact ⟨⟨by decide, by decide⟩, xIo, w_336, hz.2.1⟩
    cases hz1
  · skip
    refine rg_astore_n C dL_drop_11 rfl (by decide) rfl ?_
    refine rg_iconst C dL_drop_12 ?_
    exact rg_iret C hA hQ hr hlk () rfl rfl dL_drop_13
set_option maxHeartbeats 4000000 in
set_option maxRecDepth 100000 in
theorem kL_want0 (l : Launch) (E : rE) (a : Nat → Nat) (X X1 : DS) (p1 p2 : Int) (M : rM l yX5_want sX5_want rX5_want E (dk E a X) [.ref (a 0), .int (iI p1), .int (iI p2)] none (fun _ : Unit => dk E a X1)) : rMZ xW l yL_want sL_want rL E (dk E a X) [.ref (a 0), .int (iI p1), .int (iI p2)] (some (.int (iI 0))) (fun _ : Unit => dk E a X1) := by
  refine rMW.of (cc := cL_want) (maxL := 4) (ret := some FieldType.int) (hh := [(0, 6, 9, 13), (0, 6, 12, 15), (0, 6, 15, 23)]) (by decide) rfl (Nat.le_of_ble_eq_true rfl) (fun w h => List.mem_cons_of_mem _ h) ?_
  intro p e s m args below meth c A Q hz hP0 hA hQ C hr hlk ht
  have C : rC p s m args c E A 4 cL_want sL_want RL := C
  show rG p l e rL s m args below meth c E A 4 0 0 Q (dk E a X) 0 [(0, .ref (a 0)), (1, .int (iI p1)), (2, .int (iI p2))] []
  refine rg_aload_n C 0 dL_want_0 rfl rfl ?_
  refine rg_iload_n C 1 dL_want_1 rfl rfl ?_
  refine rg_iload_n C 2 dL_want_2 rfl rfl ?_
  refine rg_callV (As := [.int (iI p1), .int (iI p2)]) (rest := []) (wr := []) (w' := fun _ => dk E a X1) C M (rcwV C mX5_want w_547 ⟨Nat.le_of_ble_eq_true rfl, Nat.le_of_ble_eq_true rfl⟩) [0, 1, 2, 3, 4, 5, 6, 7, 8, 9, 10, 11, 12, 13, 14, 15, 16, 17, 18, 19, 20, 21, 22, 23, 24, 25, 26, 27, 28, 29, 30] [] [0, 1, 2, 3, 4, 5, 6, 7, 8, 9, 10, 11, 12, 13, 14, 15, 16, 17, 18, 19, 20, 21, 22, 23, 24, 25, 26, 27, 28, 29, 30] rfl rfl (by decide) (by decide) (by decide) (fun _ => rfl) (by decide) 0 rfl rfl rfl rfl (Nat.le_of_ble_eq_true rfl) dL_want_3 ⟨Nat.le_of_ble_eq_true rfl, Nat.le_of_ble_eq_true rfl⟩ (fun _ => ?_)
  refine rg_goto (tgt := 18) C dL_want_6 (by decide) ?_
  refine rg_iconst C dL_want_18 ?_
  refine rG.wide (k := 1) (n := 6) (Nat.le_of_ble_eq_true rfl) (Nat.le_of_ble_eq_true rfl) ?_
  exact rg_iret C hA hQ hr hlk () rfl rfl dL_want_19
set_option maxHeartbeats 4000000 in
set_option maxRecDepth 100000 in
theorem kL_want1 (l : Launch) (E : rE) (a : Nat → Nat) (X : DS) (p1 p2 : Int) (M : rX xZ l yX5_want sX5_want rxX5_want E (dk E a X) [.ref (a 0), .int (iI p1), .int (iI p2)] xIo) : rMZ xW l yL_want sL_want rL E (dk E a X) [.ref (a 0), .int (iI p1), .int (iI p2)] (some (.int (iI 1))) (fun _ : Unit => dk E a X) := by
  refine rMW.of (cc := cL_want) (maxL := 4) (ret := some FieldType.int) (hh := [(0, 6, 9, 13), (0, 6, 12, 15), (0, 6, 15, 23)]) (by decide) rfl (Nat.le_of_ble_eq_true rfl) (fun w h => List.mem_cons_of_mem _ h) ?_
  intro p e s m args below meth c A Q hz hP0 hA hQ C hr hlk ht
  have C : rC p s m args c E A 4 cL_want sL_want RL := C
  show rG p l e rL s m args below meth c E A 4 0 0 Q (dk E a X) 0 [(0, .ref (a 0)), (1, .int (iI p1)), (2, .int (iI p2))] []
  refine rg_aload_n C 0 dL_want_0 rfl rfl ?_
  refine rg_iload_n C 1 dL_want_1 rfl rfl ?_
  refine rg_iload_n C 2 dL_want_2 rfl rfl ?_
  refine rg_callVC (As := [.int (iI p1), .int (iI p2)]) (rest := []) (wr := []) (cin := dk E a X) C M (rcwV C mX5_want w_547 ⟨Nat.le_of_ble_eq_true rfl, Nat.le_of_ble_eq_true rfl⟩) hz.1 hP0 hA [0, 1, 2, 3, 4, 5, 6, 7, 8, 9, 10, 11, 12, 13, 14, 15, 16, 17, 18, 19, 20, 21, 22, 23, 24, 25, 26, 27, 28, 29, 30] [] [0, 1, 2, 3, 4, 5, 6, 7, 8, 9, 10, 11, 12, 13, 14, 15, 16, 17, 18, 19, 20, 21, 22, 23, 24, 25, 26, 27, 28, 29, 30] rfl rfl (by decide) (by decide) (by decide) rfl (by decide) 0 rfl rfl rfl rfl (Nat.le_of_ble_eq_true rfl) dL_want_3 ⟨Nat.le_of_ble_eq_true rfl, Nat.le_of_ble_eq_true rfl⟩ [] ⟨0, 6, 9, 13⟩ [⟨0, 6, 12, 15⟩, ⟨0, 6, 15, 23⟩] ht (fun z hz1 => ?_) ⟨⟨by decide, by decide⟩, w_336⟩ (fun q => ?_)
  · cases hz1
  · skip
    refine rg_astore_n C dL_want_9 rfl (by decide) rfl ?_
    refine rg_iconst C dL_want_10 ?_
    exact rg_iret C hA hQ hr hlk () rfl rfl dL_want_11
set_option maxHeartbeats 4000000 in
set_option maxRecDepth 100000 in
theorem kL_want2 (l : Launch) (E : rE) (a : Nat → Nat) (X : DS) (p1 p2 : Int) (M : rX xZ l yX5_want sX5_want rxX5_want E (dk E a X) [.ref (a 0), .int (iI p1), .int (iI p2)] xNo) : rMZ xW l yL_want sL_want rL E (dk E a X) [.ref (a 0), .int (iI p1), .int (iI p2)] (some (.int (iI 2))) (fun _ : Unit => dk E a X) := by
  refine rMW.of (cc := cL_want) (maxL := 4) (ret := some FieldType.int) (hh := [(0, 6, 9, 13), (0, 6, 12, 15), (0, 6, 15, 23)]) (by decide) rfl (Nat.le_of_ble_eq_true rfl) (fun w h => List.mem_cons_of_mem _ h) ?_
  intro p e s m args below meth c A Q hz hP0 hA hQ C hr hlk ht
  have C : rC p s m args c E A 4 cL_want sL_want RL := C
  show rG p l e rL s m args below meth c E A 4 0 0 Q (dk E a X) 0 [(0, .ref (a 0)), (1, .int (iI p1)), (2, .int (iI p2))] []
  refine rg_aload_n C 0 dL_want_0 rfl rfl ?_
  refine rg_iload_n C 1 dL_want_1 rfl rfl ?_
  refine rg_iload_n C 2 dL_want_2 rfl rfl ?_
  refine rg_callVC (As := [.int (iI p1), .int (iI p2)]) (rest := []) (wr := []) (cin := dk E a X) C M (rcwV C mX5_want w_547 ⟨Nat.le_of_ble_eq_true rfl, Nat.le_of_ble_eq_true rfl⟩) hz.1 hP0 hA [0, 1, 2, 3, 4, 5, 6, 7, 8, 9, 10, 11, 12, 13, 14, 15, 16, 17, 18, 19, 20, 21, 22, 23, 24, 25, 26, 27, 28, 29, 30] [] [0, 1, 2, 3, 4, 5, 6, 7, 8, 9, 10, 11, 12, 13, 14, 15, 16, 17, 18, 19, 20, 21, 22, 23, 24, 25, 26, 27, 28, 29, 30] rfl rfl (by decide) (by decide) (by decide) rfl (by decide) 0 rfl rfl rfl rfl (Nat.le_of_ble_eq_true rfl) dL_want_3 ⟨Nat.le_of_ble_eq_true rfl, Nat.le_of_ble_eq_true rfl⟩ [⟨0, 6, 9, 13⟩] ⟨0, 6, 12, 15⟩ [⟨0, 6, 15, 23⟩] ht (fun z hz1 => ?_) ⟨⟨by decide, by decide⟩, w_337⟩ (fun q => ?_)
  · rcases List.mem_cons.mp hz1 with rfl | hz1
    · exact ⟨⟨by decide, by decide⟩, xIo, w_336, hz.2.1⟩
    cases hz1
  · skip
    refine rg_astore_n C dL_want_12 rfl (by decide) rfl ?_
    refine rg_iconst C dL_want_13 ?_
    exact rg_iret C hA hQ hr hlk () rfl rfl dL_want_14
set_option maxHeartbeats 4000000 in
set_option maxRecDepth 100000 in
theorem kL_want3 (l : Launch) (E : rE) (a : Nat → Nat) (X : DS) (p1 p2 : Int) (M : rX xZ l yX5_want sX5_want rxX5_want E (dk E a X) [.ref (a 0), .int (iI p1), .int (iI p2)] xAr) : rMZ xW l yL_want sL_want rL E (dk E a X) [.ref (a 0), .int (iI p1), .int (iI p2)] (some (.int (iI 3))) (fun _ : Unit => dk E a X) := by
  refine rMW.of (cc := cL_want) (maxL := 4) (ret := some FieldType.int) (hh := [(0, 6, 9, 13), (0, 6, 12, 15), (0, 6, 15, 23)]) (by decide) rfl (Nat.le_of_ble_eq_true rfl) (fun w h => List.mem_cons_of_mem _ h) ?_
  intro p e s m args below meth c A Q hz hP0 hA hQ C hr hlk ht
  have C : rC p s m args c E A 4 cL_want sL_want RL := C
  show rG p l e rL s m args below meth c E A 4 0 0 Q (dk E a X) 0 [(0, .ref (a 0)), (1, .int (iI p1)), (2, .int (iI p2))] []
  refine rg_aload_n C 0 dL_want_0 rfl rfl ?_
  refine rg_iload_n C 1 dL_want_1 rfl rfl ?_
  refine rg_iload_n C 2 dL_want_2 rfl rfl ?_
  refine rg_callVC (As := [.int (iI p1), .int (iI p2)]) (rest := []) (wr := []) (cin := dk E a X) C M (rcwV C mX5_want w_547 ⟨Nat.le_of_ble_eq_true rfl, Nat.le_of_ble_eq_true rfl⟩) hz.1 hP0 hA [0, 1, 2, 3, 4, 5, 6, 7, 8, 9, 10, 11, 12, 13, 14, 15, 16, 17, 18, 19, 20, 21, 22, 23, 24, 25, 26, 27, 28, 29, 30] [] [0, 1, 2, 3, 4, 5, 6, 7, 8, 9, 10, 11, 12, 13, 14, 15, 16, 17, 18, 19, 20, 21, 22, 23, 24, 25, 26, 27, 28, 29, 30] rfl rfl (by decide) (by decide) (by decide) rfl (by decide) 0 rfl rfl rfl rfl (Nat.le_of_ble_eq_true rfl) dL_want_3 ⟨Nat.le_of_ble_eq_true rfl, Nat.le_of_ble_eq_true rfl⟩ [⟨0, 6, 9, 13⟩, ⟨0, 6, 12, 15⟩] ⟨0, 6, 15, 23⟩ [] ht (fun z hz1 => ?_) ⟨⟨by decide, by decide⟩, w_460⟩ (fun q => ?_)
  · rcases List.mem_cons.mp hz1 with rfl | hz1
    · exact ⟨⟨by decide, by decide⟩, xIo, w_336, hz.2.2.1⟩
    rcases List.mem_cons.mp hz1 with rfl | hz1
    · exact ⟨⟨by decide, by decide⟩, xNo, w_337, hz.2.2.2.1⟩
    cases hz1
  · skip
    refine rg_astore_n C dL_want_15 rfl (by decide) rfl ?_
    refine rg_iconst C dL_want_16 ?_
    exact rg_iret C hA hQ hr hlk () rfl rfl dL_want_17
set_option maxHeartbeats 4000000 in
set_option maxRecDepth 100000 in
theorem kL_inflow0 (l : Launch) (E : rE) (a : Nat → Nat) (X X1 : DS) (p1 p2 : Int) (M : rM l yX5_inflow sX5_inflow rX5_inflow E (dk E a X) [.ref (a 0), .int (iI p1), .int (iI p2)] none (fun _ : Unit => dk E a X1)) : rMZ xW l yL_inflow sL_inflow rL E (dk E a X) [.ref (a 0), .int (iI p1), .int (iI p2)] (some (.int (iI 0))) (fun _ : Unit => dk E a X1) := by
  refine rMW.of (cc := cL_inflow) (maxL := 4) (ret := some FieldType.int) (hh := [(0, 6, 9, 13), (0, 6, 12, 15), (0, 6, 15, 23)]) (by decide) rfl (Nat.le_of_ble_eq_true rfl) (fun w h => List.mem_cons_of_mem _ h) ?_
  intro p e s m args below meth c A Q hz hP0 hA hQ C hr hlk ht
  have C : rC p s m args c E A 4 cL_inflow sL_inflow RL := C
  show rG p l e rL s m args below meth c E A 4 0 0 Q (dk E a X) 0 [(0, .ref (a 0)), (1, .int (iI p1)), (2, .int (iI p2))] []
  refine rg_aload_n C 0 dL_inflow_0 rfl rfl ?_
  refine rg_iload_n C 1 dL_inflow_1 rfl rfl ?_
  refine rg_iload_n C 2 dL_inflow_2 rfl rfl ?_
  refine rg_callV (As := [.int (iI p1), .int (iI p2)]) (rest := []) (wr := []) (w' := fun _ => dk E a X1) C M (rcwV C mX5_inflow w_554 ⟨Nat.le_of_ble_eq_true rfl, Nat.le_of_ble_eq_true rfl⟩) [0, 1, 2, 3, 4, 5, 6, 7, 8, 9, 10, 11, 12, 13, 14, 15, 16, 17, 18, 19, 20, 21, 22, 23, 24, 25, 26, 27, 28, 29, 30] [] [0, 1, 2, 3, 4, 5, 6, 7, 8, 9, 10, 11, 12, 13, 14, 15, 16, 17, 18, 19, 20, 21, 22, 23, 24, 25, 26, 27, 28, 29, 30] rfl rfl (by decide) (by decide) (by decide) (fun _ => rfl) (by decide) 0 rfl rfl rfl rfl (Nat.le_of_ble_eq_true rfl) dL_inflow_3 ⟨Nat.le_of_ble_eq_true rfl, Nat.le_of_ble_eq_true rfl⟩ (fun _ => ?_)
  refine rg_goto (tgt := 18) C dL_inflow_6 (by decide) ?_
  refine rg_iconst C dL_inflow_18 ?_
  refine rG.wide (k := 1) (n := 6) (Nat.le_of_ble_eq_true rfl) (Nat.le_of_ble_eq_true rfl) ?_
  exact rg_iret C hA hQ hr hlk () rfl rfl dL_inflow_19
set_option maxHeartbeats 4000000 in
set_option maxRecDepth 100000 in
theorem kL_inflow1 (l : Launch) (E : rE) (a : Nat → Nat) (X : DS) (p1 p2 : Int) (M : rX xZ l yX5_inflow sX5_inflow rxX5_inflow E (dk E a X) [.ref (a 0), .int (iI p1), .int (iI p2)] xIo) : rMZ xW l yL_inflow sL_inflow rL E (dk E a X) [.ref (a 0), .int (iI p1), .int (iI p2)] (some (.int (iI 1))) (fun _ : Unit => dk E a X) := by
  refine rMW.of (cc := cL_inflow) (maxL := 4) (ret := some FieldType.int) (hh := [(0, 6, 9, 13), (0, 6, 12, 15), (0, 6, 15, 23)]) (by decide) rfl (Nat.le_of_ble_eq_true rfl) (fun w h => List.mem_cons_of_mem _ h) ?_
  intro p e s m args below meth c A Q hz hP0 hA hQ C hr hlk ht
  have C : rC p s m args c E A 4 cL_inflow sL_inflow RL := C
  show rG p l e rL s m args below meth c E A 4 0 0 Q (dk E a X) 0 [(0, .ref (a 0)), (1, .int (iI p1)), (2, .int (iI p2))] []
  refine rg_aload_n C 0 dL_inflow_0 rfl rfl ?_
  refine rg_iload_n C 1 dL_inflow_1 rfl rfl ?_
  refine rg_iload_n C 2 dL_inflow_2 rfl rfl ?_
  refine rg_callVC (As := [.int (iI p1), .int (iI p2)]) (rest := []) (wr := []) (cin := dk E a X) C M (rcwV C mX5_inflow w_554 ⟨Nat.le_of_ble_eq_true rfl, Nat.le_of_ble_eq_true rfl⟩) hz.1 hP0 hA [0, 1, 2, 3, 4, 5, 6, 7, 8, 9, 10, 11, 12, 13, 14, 15, 16, 17, 18, 19, 20, 21, 22, 23, 24, 25, 26, 27, 28, 29, 30] [] [0, 1, 2, 3, 4, 5, 6, 7, 8, 9, 10, 11, 12, 13, 14, 15, 16, 17, 18, 19, 20, 21, 22, 23, 24, 25, 26, 27, 28, 29, 30] rfl rfl (by decide) (by decide) (by decide) rfl (by decide) 0 rfl rfl rfl rfl (Nat.le_of_ble_eq_true rfl) dL_inflow_3 ⟨Nat.le_of_ble_eq_true rfl, Nat.le_of_ble_eq_true rfl⟩ [] ⟨0, 6, 9, 13⟩ [⟨0, 6, 12, 15⟩, ⟨0, 6, 15, 23⟩] ht (fun z hz1 => ?_) ⟨⟨by decide, by decide⟩, w_336⟩ (fun q => ?_)
  · cases hz1
  · skip
    refine rg_astore_n C dL_inflow_9 rfl (by decide) rfl ?_
    refine rg_iconst C dL_inflow_10 ?_
    exact rg_iret C hA hQ hr hlk () rfl rfl dL_inflow_11
set_option maxHeartbeats 4000000 in
set_option maxRecDepth 100000 in
theorem kL_inflow2 (l : Launch) (E : rE) (a : Nat → Nat) (X : DS) (p1 p2 : Int) (M : rX xZ l yX5_inflow sX5_inflow rxX5_inflow E (dk E a X) [.ref (a 0), .int (iI p1), .int (iI p2)] xNo) : rMZ xW l yL_inflow sL_inflow rL E (dk E a X) [.ref (a 0), .int (iI p1), .int (iI p2)] (some (.int (iI 2))) (fun _ : Unit => dk E a X) := by
  refine rMW.of (cc := cL_inflow) (maxL := 4) (ret := some FieldType.int) (hh := [(0, 6, 9, 13), (0, 6, 12, 15), (0, 6, 15, 23)]) (by decide) rfl (Nat.le_of_ble_eq_true rfl) (fun w h => List.mem_cons_of_mem _ h) ?_
  intro p e s m args below meth c A Q hz hP0 hA hQ C hr hlk ht
  have C : rC p s m args c E A 4 cL_inflow sL_inflow RL := C
  show rG p l e rL s m args below meth c E A 4 0 0 Q (dk E a X) 0 [(0, .ref (a 0)), (1, .int (iI p1)), (2, .int (iI p2))] []
  refine rg_aload_n C 0 dL_inflow_0 rfl rfl ?_
  refine rg_iload_n C 1 dL_inflow_1 rfl rfl ?_
  refine rg_iload_n C 2 dL_inflow_2 rfl rfl ?_
  refine rg_callVC (As := [.int (iI p1), .int (iI p2)]) (rest := []) (wr := []) (cin := dk E a X) C M (rcwV C mX5_inflow w_554 ⟨Nat.le_of_ble_eq_true rfl, Nat.le_of_ble_eq_true rfl⟩) hz.1 hP0 hA [0, 1, 2, 3, 4, 5, 6, 7, 8, 9, 10, 11, 12, 13, 14, 15, 16, 17, 18, 19, 20, 21, 22, 23, 24, 25, 26, 27, 28, 29, 30] [] [0, 1, 2, 3, 4, 5, 6, 7, 8, 9, 10, 11, 12, 13, 14, 15, 16, 17, 18, 19, 20, 21, 22, 23, 24, 25, 26, 27, 28, 29, 30] rfl rfl (by decide) (by decide) (by decide) rfl (by decide) 0 rfl rfl rfl rfl (Nat.le_of_ble_eq_true rfl) dL_inflow_3 ⟨Nat.le_of_ble_eq_true rfl, Nat.le_of_ble_eq_true rfl⟩ [⟨0, 6, 9, 13⟩] ⟨0, 6, 12, 15⟩ [⟨0, 6, 15, 23⟩] ht (fun z hz1 => ?_) ⟨⟨by decide, by decide⟩, w_337⟩ (fun q => ?_)
  · rcases List.mem_cons.mp hz1 with rfl | hz1
    · exact ⟨⟨by decide, by decide⟩, xIo, w_336, hz.2.1⟩
    cases hz1
  · skip
    refine rg_astore_n C dL_inflow_12 rfl (by decide) rfl ?_
    refine rg_iconst C dL_inflow_13 ?_
    exact rg_iret C hA hQ hr hlk () rfl rfl dL_inflow_14
set_option maxHeartbeats 4000000 in
set_option maxRecDepth 100000 in
theorem kL_inflow3 (l : Launch) (E : rE) (a : Nat → Nat) (X : DS) (p1 p2 : Int) (M : rX xZ l yX5_inflow sX5_inflow rxX5_inflow E (dk E a X) [.ref (a 0), .int (iI p1), .int (iI p2)] xAr) : rMZ xW l yL_inflow sL_inflow rL E (dk E a X) [.ref (a 0), .int (iI p1), .int (iI p2)] (some (.int (iI 3))) (fun _ : Unit => dk E a X) := by
  refine rMW.of (cc := cL_inflow) (maxL := 4) (ret := some FieldType.int) (hh := [(0, 6, 9, 13), (0, 6, 12, 15), (0, 6, 15, 23)]) (by decide) rfl (Nat.le_of_ble_eq_true rfl) (fun w h => List.mem_cons_of_mem _ h) ?_
  intro p e s m args below meth c A Q hz hP0 hA hQ C hr hlk ht
  have C : rC p s m args c E A 4 cL_inflow sL_inflow RL := C
  show rG p l e rL s m args below meth c E A 4 0 0 Q (dk E a X) 0 [(0, .ref (a 0)), (1, .int (iI p1)), (2, .int (iI p2))] []
  refine rg_aload_n C 0 dL_inflow_0 rfl rfl ?_
  refine rg_iload_n C 1 dL_inflow_1 rfl rfl ?_
  refine rg_iload_n C 2 dL_inflow_2 rfl rfl ?_
  refine rg_callVC (As := [.int (iI p1), .int (iI p2)]) (rest := []) (wr := []) (cin := dk E a X) C M (rcwV C mX5_inflow w_554 ⟨Nat.le_of_ble_eq_true rfl, Nat.le_of_ble_eq_true rfl⟩) hz.1 hP0 hA [0, 1, 2, 3, 4, 5, 6, 7, 8, 9, 10, 11, 12, 13, 14, 15, 16, 17, 18, 19, 20, 21, 22, 23, 24, 25, 26, 27, 28, 29, 30] [] [0, 1, 2, 3, 4, 5, 6, 7, 8, 9, 10, 11, 12, 13, 14, 15, 16, 17, 18, 19, 20, 21, 22, 23, 24, 25, 26, 27, 28, 29, 30] rfl rfl (by decide) (by decide) (by decide) rfl (by decide) 0 rfl rfl rfl rfl (Nat.le_of_ble_eq_true rfl) dL_inflow_3 ⟨Nat.le_of_ble_eq_true rfl, Nat.le_of_ble_eq_true rfl⟩ [⟨0, 6, 9, 13⟩, ⟨0, 6, 12, 15⟩] ⟨0, 6, 15, 23⟩ [] ht (fun z hz1 => ?_) ⟨⟨by decide, by decide⟩, w_460⟩ (fun q => ?_)
  · rcases List.mem_cons.mp hz1 with rfl | hz1
    · exact ⟨⟨by decide, by decide⟩, xIo, w_336, hz.2.2.1⟩
    rcases List.mem_cons.mp hz1 with rfl | hz1
    · exact ⟨⟨by decide, by decide⟩, xNo, w_337, hz.2.2.2.1⟩
    cases hz1
  · skip
    refine rg_astore_n C dL_inflow_15 rfl (by decide) rfl ?_
    refine rg_iconst C dL_inflow_16 ?_
    exact rg_iret C hA hQ hr hlk () rfl rfl dL_inflow_17
set_option maxHeartbeats 4000000 in
set_option maxRecDepth 100000 in
theorem kL_release0 (l : Launch) (E : rE) (a : Nat → Nat) (X X1 : DS) (oa : Nat) (o : Nat → Int) (p1 p2 p3 : Int) (v : Int) (hv : inI v) (M : rM l yX5_release sX5_release rX5_release E (dk E a X) [.ref (a 0), .int (iI p1), .int (iI p2), .int (iI p3)] (some (.int (iI v))) (fun _ : Unit => dk E a X1)) : rMZ xW l yL_release sL_release rL E (dk E a X ++ [cJ E oa 1 o]) [.ref (a 0), .int (iI p1), .int (iI p2), .int (iI p3), .ref oa] (some (.int (iI 0))) (fun _ : Unit => dk E a X1 ++ [cJ E oa 1 (uZ o 0 v)]) := by
  refine rMW.of (cc := cL_release) (maxL := 6) (ret := some FieldType.int) (hh := [(0, 12, 15, 13), (0, 12, 19, 15), (0, 12, 23, 23), (0, 12, 27, 17)]) (by decide) rfl (Nat.le_of_ble_eq_true rfl) (fun w h => List.mem_cons_of_mem _ h) ?_
  intro p e s m args below meth c A Q hz hP0 hA hQ C hr hlk ht
  have C : rC p s m args c E A 6 cL_release sL_release RL := C
  show rG p l e rL s m args below meth c E A 6 0 0 Q (dk E a X ++ [cJ E oa 1 o]) 0 [(0, .ref (a 0)), (1, .int (iI p1)), (2, .int (iI p2)), (3, .int (iI p3)), (4, .ref oa)] []
  refine rg_aload C 4 dL_release_0 rfl ?_
  refine rg_iconst C dL_release_2 ?_
  refine rg_aload_n C 0 dL_release_3 rfl rfl ?_
  refine rg_iload_n C 1 dL_release_4 rfl rfl ?_
  refine rg_iload_n C 2 dL_release_5 rfl rfl ?_
  refine rg_iload_n C 3 dL_release_6 rfl rfl ?_
  refine rg_callV (As := [.int (iI p1), .int (iI p2), .int (iI p3)]) (rest := [.int (iI 0), .ref oa]) (wr := [cJ E oa 1 o]) (w' := fun _ => dk E a X1 ++ [cJ E oa 1 o]) C M (rcwV C mX5_release w_565 ⟨Nat.le_of_ble_eq_true rfl, Nat.le_of_ble_eq_true rfl⟩) [0, 1, 2, 3, 4, 5, 6, 7, 8, 9, 10, 11, 12, 13, 14, 15, 16, 17, 18, 19, 20, 21, 22, 23, 24, 25, 26, 27, 28, 29, 30] [31] [1, 2, 3, 4, 5, 6, 7, 8, 9, 10, 11, 12, 13, 14, 15, 16, 17, 18, 19, 20, 21, 22, 23, 24, 25, 26, 27, 28, 29, 30, 31, 0] rfl rfl (by decide) (by decide) (by decide) (fun _ => rfl) (by decide) 0 rfl rfl rfl rfl (Nat.le_of_ble_eq_true rfl) dL_release_7 ⟨Nat.le_of_ble_eq_true rfl, Nat.le_of_ble_eq_true rfl⟩ (fun _ => ?_)
  refine rg_i2l C hv dL_release_10 ?_
  refine rg_last (ws' := dk E a X1 ++ [cJ E oa 1 (uZ o 0 v)]) C 31 rfl (by decide) (by decide) (by decide) dL_release_11 rfl ?_
  refine rg_goto (tgt := 31) C dL_release_12 (by decide) ?_
  refine rg_iconst C dL_release_31 ?_
  refine rG.wide (k := 1) (n := 6) (Nat.le_of_ble_eq_true rfl) (Nat.le_of_ble_eq_true rfl) ?_
  exact rg_iret C hA hQ hr hlk () rfl rfl dL_release_32
set_option maxHeartbeats 4000000 in
set_option maxRecDepth 100000 in
theorem kL_release1 (l : Launch) (E : rE) (a : Nat → Nat) (X : DS) (oa : Nat) (o : Nat → Int) (p1 p2 p3 : Int) (M : rX xZ l yX5_release sX5_release rxX5_release E (dk E a X) [.ref (a 0), .int (iI p1), .int (iI p2), .int (iI p3)] xIo) : rMZ xW l yL_release sL_release rL E (dk E a X ++ [cJ E oa 1 o]) [.ref (a 0), .int (iI p1), .int (iI p2), .int (iI p3), .ref oa] (some (.int (iI 1))) (fun _ : Unit => dk E a X ++ [cJ E oa 1 o]) := by
  refine rMW.of (cc := cL_release) (maxL := 6) (ret := some FieldType.int) (hh := [(0, 12, 15, 13), (0, 12, 19, 15), (0, 12, 23, 23), (0, 12, 27, 17)]) (by decide) rfl (Nat.le_of_ble_eq_true rfl) (fun w h => List.mem_cons_of_mem _ h) ?_
  intro p e s m args below meth c A Q hz hP0 hA hQ C hr hlk ht
  have C : rC p s m args c E A 6 cL_release sL_release RL := C
  show rG p l e rL s m args below meth c E A 6 0 0 Q (dk E a X ++ [cJ E oa 1 o]) 0 [(0, .ref (a 0)), (1, .int (iI p1)), (2, .int (iI p2)), (3, .int (iI p3)), (4, .ref oa)] []
  refine rg_aload C 4 dL_release_0 rfl ?_
  refine rg_iconst C dL_release_2 ?_
  refine rg_aload_n C 0 dL_release_3 rfl rfl ?_
  refine rg_iload_n C 1 dL_release_4 rfl rfl ?_
  refine rg_iload_n C 2 dL_release_5 rfl rfl ?_
  refine rg_iload_n C 3 dL_release_6 rfl rfl ?_
  refine rg_callVC (As := [.int (iI p1), .int (iI p2), .int (iI p3)]) (rest := [.int (iI 0), .ref oa]) (wr := [cJ E oa 1 o]) (cin := dk E a X ++ [cJ E oa 1 o]) C M (rcwV C mX5_release w_565 ⟨Nat.le_of_ble_eq_true rfl, Nat.le_of_ble_eq_true rfl⟩) hz.1 hP0 hA [0, 1, 2, 3, 4, 5, 6, 7, 8, 9, 10, 11, 12, 13, 14, 15, 16, 17, 18, 19, 20, 21, 22, 23, 24, 25, 26, 27, 28, 29, 30] [31] [1, 2, 3, 4, 5, 6, 7, 8, 9, 10, 11, 12, 13, 14, 15, 16, 17, 18, 19, 20, 21, 22, 23, 24, 25, 26, 27, 28, 29, 30, 31, 0] rfl rfl (by decide) (by decide) (by decide) rfl (by decide) 0 rfl rfl rfl rfl (Nat.le_of_ble_eq_true rfl) dL_release_7 ⟨Nat.le_of_ble_eq_true rfl, Nat.le_of_ble_eq_true rfl⟩ [] ⟨0, 12, 15, 13⟩ [⟨0, 12, 19, 15⟩, ⟨0, 12, 23, 23⟩, ⟨0, 12, 27, 17⟩] ht (fun z hz1 => ?_) ⟨⟨by decide, by decide⟩, w_336⟩ (fun q => ?_)
  · cases hz1
  · skip
    refine rg_astore C dL_release_15 (by decide) rfl ?_
    refine rg_iconst C dL_release_17 ?_
    exact rg_iret C hA hQ hr hlk () rfl rfl dL_release_18
set_option maxHeartbeats 4000000 in
set_option maxRecDepth 100000 in
theorem kL_release2 (l : Launch) (E : rE) (a : Nat → Nat) (X : DS) (oa : Nat) (o : Nat → Int) (p1 p2 p3 : Int) (M : rX xZ l yX5_release sX5_release rxX5_release E (dk E a X) [.ref (a 0), .int (iI p1), .int (iI p2), .int (iI p3)] xNo) : rMZ xW l yL_release sL_release rL E (dk E a X ++ [cJ E oa 1 o]) [.ref (a 0), .int (iI p1), .int (iI p2), .int (iI p3), .ref oa] (some (.int (iI 2))) (fun _ : Unit => dk E a X ++ [cJ E oa 1 o]) := by
  refine rMW.of (cc := cL_release) (maxL := 6) (ret := some FieldType.int) (hh := [(0, 12, 15, 13), (0, 12, 19, 15), (0, 12, 23, 23), (0, 12, 27, 17)]) (by decide) rfl (Nat.le_of_ble_eq_true rfl) (fun w h => List.mem_cons_of_mem _ h) ?_
  intro p e s m args below meth c A Q hz hP0 hA hQ C hr hlk ht
  have C : rC p s m args c E A 6 cL_release sL_release RL := C
  show rG p l e rL s m args below meth c E A 6 0 0 Q (dk E a X ++ [cJ E oa 1 o]) 0 [(0, .ref (a 0)), (1, .int (iI p1)), (2, .int (iI p2)), (3, .int (iI p3)), (4, .ref oa)] []
  refine rg_aload C 4 dL_release_0 rfl ?_
  refine rg_iconst C dL_release_2 ?_
  refine rg_aload_n C 0 dL_release_3 rfl rfl ?_
  refine rg_iload_n C 1 dL_release_4 rfl rfl ?_
  refine rg_iload_n C 2 dL_release_5 rfl rfl ?_
  refine rg_iload_n C 3 dL_release_6 rfl rfl ?_
  refine rg_callVC (As := [.int (iI p1), .int (iI p2), .int (iI p3)]) (rest := [.int (iI 0), .ref oa]) (wr := [cJ E oa 1 o]) (cin := dk E a X ++ [cJ E oa 1 o]) C M (rcwV C mX5_release w_565 ⟨Nat.le_of_ble_eq_true rfl, Nat.le_of_ble_eq_true rfl⟩) hz.1 hP0 hA [0, 1, 2, 3, 4, 5, 6, 7, 8, 9, 10, 11, 12, 13, 14, 15, 16, 17, 18, 19, 20, 21, 22, 23, 24, 25, 26, 27, 28, 29, 30] [31] [1, 2, 3, 4, 5, 6, 7, 8, 9, 10, 11, 12, 13, 14, 15, 16, 17, 18, 19, 20, 21, 22, 23, 24, 25, 26, 27, 28, 29, 30, 31, 0] rfl rfl (by decide) (by decide) (by decide) rfl (by decide) 0 rfl rfl rfl rfl (Nat.le_of_ble_eq_true rfl) dL_release_7 ⟨Nat.le_of_ble_eq_true rfl, Nat.le_of_ble_eq_true rfl⟩ [⟨0, 12, 15, 13⟩] ⟨0, 12, 19, 15⟩ [⟨0, 12, 23, 23⟩, ⟨0, 12, 27, 17⟩] ht (fun z hz1 => ?_) ⟨⟨by decide, by decide⟩, w_337⟩ (fun q => ?_)
  · rcases List.mem_cons.mp hz1 with rfl | hz1
    · exact ⟨⟨by decide, by decide⟩, xIo, w_336, hz.2.1⟩
    cases hz1
  · skip
    refine rg_astore C dL_release_19 (by decide) rfl ?_
    refine rg_iconst C dL_release_21 ?_
    exact rg_iret C hA hQ hr hlk () rfl rfl dL_release_22
set_option maxHeartbeats 4000000 in
set_option maxRecDepth 100000 in
theorem kL_release3 (l : Launch) (E : rE) (a : Nat → Nat) (X : DS) (oa : Nat) (o : Nat → Int) (p1 p2 p3 : Int) (M : rX xZ l yX5_release sX5_release rxX5_release E (dk E a X) [.ref (a 0), .int (iI p1), .int (iI p2), .int (iI p3)] xAr) : rMZ xW l yL_release sL_release rL E (dk E a X ++ [cJ E oa 1 o]) [.ref (a 0), .int (iI p1), .int (iI p2), .int (iI p3), .ref oa] (some (.int (iI 3))) (fun _ : Unit => dk E a X ++ [cJ E oa 1 o]) := by
  refine rMW.of (cc := cL_release) (maxL := 6) (ret := some FieldType.int) (hh := [(0, 12, 15, 13), (0, 12, 19, 15), (0, 12, 23, 23), (0, 12, 27, 17)]) (by decide) rfl (Nat.le_of_ble_eq_true rfl) (fun w h => List.mem_cons_of_mem _ h) ?_
  intro p e s m args below meth c A Q hz hP0 hA hQ C hr hlk ht
  have C : rC p s m args c E A 6 cL_release sL_release RL := C
  show rG p l e rL s m args below meth c E A 6 0 0 Q (dk E a X ++ [cJ E oa 1 o]) 0 [(0, .ref (a 0)), (1, .int (iI p1)), (2, .int (iI p2)), (3, .int (iI p3)), (4, .ref oa)] []
  refine rg_aload C 4 dL_release_0 rfl ?_
  refine rg_iconst C dL_release_2 ?_
  refine rg_aload_n C 0 dL_release_3 rfl rfl ?_
  refine rg_iload_n C 1 dL_release_4 rfl rfl ?_
  refine rg_iload_n C 2 dL_release_5 rfl rfl ?_
  refine rg_iload_n C 3 dL_release_6 rfl rfl ?_
  refine rg_callVC (As := [.int (iI p1), .int (iI p2), .int (iI p3)]) (rest := [.int (iI 0), .ref oa]) (wr := [cJ E oa 1 o]) (cin := dk E a X ++ [cJ E oa 1 o]) C M (rcwV C mX5_release w_565 ⟨Nat.le_of_ble_eq_true rfl, Nat.le_of_ble_eq_true rfl⟩) hz.1 hP0 hA [0, 1, 2, 3, 4, 5, 6, 7, 8, 9, 10, 11, 12, 13, 14, 15, 16, 17, 18, 19, 20, 21, 22, 23, 24, 25, 26, 27, 28, 29, 30] [31] [1, 2, 3, 4, 5, 6, 7, 8, 9, 10, 11, 12, 13, 14, 15, 16, 17, 18, 19, 20, 21, 22, 23, 24, 25, 26, 27, 28, 29, 30, 31, 0] rfl rfl (by decide) (by decide) (by decide) rfl (by decide) 0 rfl rfl rfl rfl (Nat.le_of_ble_eq_true rfl) dL_release_7 ⟨Nat.le_of_ble_eq_true rfl, Nat.le_of_ble_eq_true rfl⟩ [⟨0, 12, 15, 13⟩, ⟨0, 12, 19, 15⟩] ⟨0, 12, 23, 23⟩ [⟨0, 12, 27, 17⟩] ht (fun z hz1 => ?_) ⟨⟨by decide, by decide⟩, w_460⟩ (fun q => ?_)
  · rcases List.mem_cons.mp hz1 with rfl | hz1
    · exact ⟨⟨by decide, by decide⟩, xIo, w_336, hz.2.2.1⟩
    rcases List.mem_cons.mp hz1 with rfl | hz1
    · exact ⟨⟨by decide, by decide⟩, xNo, w_337, hz.2.2.2.1⟩
    cases hz1
  · skip
    refine rg_astore C dL_release_23 (by decide) rfl ?_
    refine rg_iconst C dL_release_25 ?_
    exact rg_iret C hA hQ hr hlk () rfl rfl dL_release_26
set_option maxHeartbeats 4000000 in
set_option maxRecDepth 100000 in
theorem kL_release4 (l : Launch) (E : rE) (a : Nat → Nat) (X : DS) (oa : Nat) (o : Nat → Int) (p1 p2 p3 : Int) (M : rX xZ l yX5_release sX5_release rxX5_release E (dk E a X) [.ref (a 0), .int (iI p1), .int (iI p2), .int (iI p3)] xIl) : rMZ xW l yL_release sL_release rL E (dk E a X ++ [cJ E oa 1 o]) [.ref (a 0), .int (iI p1), .int (iI p2), .int (iI p3), .ref oa] (some (.int (iI 4))) (fun _ : Unit => dk E a X ++ [cJ E oa 1 o]) := by
  refine rMW.of (cc := cL_release) (maxL := 6) (ret := some FieldType.int) (hh := [(0, 12, 15, 13), (0, 12, 19, 15), (0, 12, 23, 23), (0, 12, 27, 17)]) (by decide) rfl (Nat.le_of_ble_eq_true rfl) (fun w h => List.mem_cons_of_mem _ h) ?_
  intro p e s m args below meth c A Q hz hP0 hA hQ C hr hlk ht
  have C : rC p s m args c E A 6 cL_release sL_release RL := C
  show rG p l e rL s m args below meth c E A 6 0 0 Q (dk E a X ++ [cJ E oa 1 o]) 0 [(0, .ref (a 0)), (1, .int (iI p1)), (2, .int (iI p2)), (3, .int (iI p3)), (4, .ref oa)] []
  refine rg_aload C 4 dL_release_0 rfl ?_
  refine rg_iconst C dL_release_2 ?_
  refine rg_aload_n C 0 dL_release_3 rfl rfl ?_
  refine rg_iload_n C 1 dL_release_4 rfl rfl ?_
  refine rg_iload_n C 2 dL_release_5 rfl rfl ?_
  refine rg_iload_n C 3 dL_release_6 rfl rfl ?_
  refine rg_callVC (As := [.int (iI p1), .int (iI p2), .int (iI p3)]) (rest := [.int (iI 0), .ref oa]) (wr := [cJ E oa 1 o]) (cin := dk E a X ++ [cJ E oa 1 o]) C M (rcwV C mX5_release w_565 ⟨Nat.le_of_ble_eq_true rfl, Nat.le_of_ble_eq_true rfl⟩) hz.1 hP0 hA [0, 1, 2, 3, 4, 5, 6, 7, 8, 9, 10, 11, 12, 13, 14, 15, 16, 17, 18, 19, 20, 21, 22, 23, 24, 25, 26, 27, 28, 29, 30] [31] [1, 2, 3, 4, 5, 6, 7, 8, 9, 10, 11, 12, 13, 14, 15, 16, 17, 18, 19, 20, 21, 22, 23, 24, 25, 26, 27, 28, 29, 30, 31, 0] rfl rfl (by decide) (by decide) (by decide) rfl (by decide) 0 rfl rfl rfl rfl (Nat.le_of_ble_eq_true rfl) dL_release_7 ⟨Nat.le_of_ble_eq_true rfl, Nat.le_of_ble_eq_true rfl⟩ [⟨0, 12, 15, 13⟩, ⟨0, 12, 19, 15⟩, ⟨0, 12, 23, 23⟩] ⟨0, 12, 27, 17⟩ [] ht (fun z hz1 => ?_) ⟨⟨by decide, by decide⟩, w_338⟩ (fun q => ?_)
  · rcases List.mem_cons.mp hz1 with rfl | hz1
    · exact ⟨⟨by decide, by decide⟩, xIo, w_336, hz.2.2.2.2.1⟩
    rcases List.mem_cons.mp hz1 with rfl | hz1
    · exact ⟨⟨by decide, by decide⟩, xNo, w_337, hz.2.2.2.2.2.1⟩
    rcases List.mem_cons.mp hz1 with rfl | hz1
    · exact ⟨⟨by decide, by decide⟩, xAr, w_460, hz.2.2.2.2.2.2⟩
    cases hz1
  · skip
    refine rg_astore C dL_release_27 (by decide) rfl ?_
    refine rg_iconst C dL_release_29 ?_
    exact rg_iret C hA hQ hr hlk () rfl rfl dL_release_30
set_option maxHeartbeats 4000000 in
set_option maxRecDepth 100000 in
theorem kL_given0 (l : Launch) (E : rE) (a : Nat → Nat) (X X1 : DS) (oa : Nat) (o : Nat → Int) (p1 : Int) (v : Int) (hv : inI v) (M : rM l yX5_given sX5_given rX5_given E (dk E a X) [.ref (a 0), .int (iI p1)] (some (.int (iI v))) (fun _ : Unit => dk E a X1)) : rMZ xW l yL_given sL_given rL E (dk E a X ++ [cJ E oa 1 o]) [.ref (a 0), .int (iI p1), .ref oa] (some (.int (iI 0))) (fun _ : Unit => dk E a X1 ++ [cJ E oa 1 (uZ o 0 v)]) := by
  refine rMW.of (cc := cL_given) (maxL := 4) (ret := some FieldType.int) (hh := [(0, 9, 12, 13), (0, 9, 15, 15)]) (by decide) rfl (Nat.le_of_ble_eq_true rfl) (fun w h => List.mem_cons_of_mem _ h) ?_
  intro p e s m args below meth c A Q hz hP0 hA hQ C hr hlk ht
  have C : rC p s m args c E A 4 cL_given sL_given RL := C
  show rG p l e rL s m args below meth c E A 4 0 0 Q (dk E a X ++ [cJ E oa 1 o]) 0 [(0, .ref (a 0)), (1, .int (iI p1)), (2, .ref oa)] []
  refine rg_aload_n C 2 dL_given_0 rfl rfl ?_
  refine rg_iconst C dL_given_1 ?_
  refine rg_aload_n C 0 dL_given_2 rfl rfl ?_
  refine rg_iload_n C 1 dL_given_3 rfl rfl ?_
  refine rg_callV (As := [.int (iI p1)]) (rest := [.int (iI 0), .ref oa]) (wr := [cJ E oa 1 o]) (w' := fun _ => dk E a X1 ++ [cJ E oa 1 o]) C M (rcwV C mX5_given w_585 ⟨Nat.le_of_ble_eq_true rfl, Nat.le_of_ble_eq_true rfl⟩) [0, 1, 2, 3, 4, 5, 6, 7, 8, 9, 10, 11, 12, 13, 14, 15, 16, 17, 18, 19, 20, 21, 22, 23, 24, 25, 26, 27, 28, 29, 30] [31] [1, 2, 3, 4, 5, 6, 7, 8, 9, 10, 11, 12, 13, 14, 15, 16, 17, 18, 19, 20, 21, 22, 23, 24, 25, 26, 27, 28, 29, 30, 31, 0] rfl rfl (by decide) (by decide) (by decide) (fun _ => rfl) (by decide) 0 rfl rfl rfl rfl (Nat.le_of_ble_eq_true rfl) dL_given_4 ⟨Nat.le_of_ble_eq_true rfl, Nat.le_of_ble_eq_true rfl⟩ (fun _ => ?_)
  refine rg_i2l C hv dL_given_7 ?_
  refine rg_last (ws' := dk E a X1 ++ [cJ E oa 1 (uZ o 0 v)]) C 31 rfl (by decide) (by decide) (by decide) dL_given_8 rfl ?_
  refine rg_goto (tgt := 18) C dL_given_9 (by decide) ?_
  refine rg_iconst C dL_given_18 ?_
  refine rG.wide (k := 1) (n := 6) (Nat.le_of_ble_eq_true rfl) (Nat.le_of_ble_eq_true rfl) ?_
  exact rg_iret C hA hQ hr hlk () rfl rfl dL_given_19
set_option maxHeartbeats 4000000 in
set_option maxRecDepth 100000 in
theorem kL_given1 (l : Launch) (E : rE) (a : Nat → Nat) (X : DS) (oa : Nat) (o : Nat → Int) (p1 : Int) (M : rX xZ l yX5_given sX5_given rxX5_given E (dk E a X) [.ref (a 0), .int (iI p1)] xIo) : rMZ xW l yL_given sL_given rL E (dk E a X ++ [cJ E oa 1 o]) [.ref (a 0), .int (iI p1), .ref oa] (some (.int (iI 1))) (fun _ : Unit => dk E a X ++ [cJ E oa 1 o]) := by
  refine rMW.of (cc := cL_given) (maxL := 4) (ret := some FieldType.int) (hh := [(0, 9, 12, 13), (0, 9, 15, 15)]) (by decide) rfl (Nat.le_of_ble_eq_true rfl) (fun w h => List.mem_cons_of_mem _ h) ?_
  intro p e s m args below meth c A Q hz hP0 hA hQ C hr hlk ht
  have C : rC p s m args c E A 4 cL_given sL_given RL := C
  show rG p l e rL s m args below meth c E A 4 0 0 Q (dk E a X ++ [cJ E oa 1 o]) 0 [(0, .ref (a 0)), (1, .int (iI p1)), (2, .ref oa)] []
  refine rg_aload_n C 2 dL_given_0 rfl rfl ?_
  refine rg_iconst C dL_given_1 ?_
  refine rg_aload_n C 0 dL_given_2 rfl rfl ?_
  refine rg_iload_n C 1 dL_given_3 rfl rfl ?_
  refine rg_callVC (As := [.int (iI p1)]) (rest := [.int (iI 0), .ref oa]) (wr := [cJ E oa 1 o]) (cin := dk E a X ++ [cJ E oa 1 o]) C M (rcwV C mX5_given w_585 ⟨Nat.le_of_ble_eq_true rfl, Nat.le_of_ble_eq_true rfl⟩) hz.1 hP0 hA [0, 1, 2, 3, 4, 5, 6, 7, 8, 9, 10, 11, 12, 13, 14, 15, 16, 17, 18, 19, 20, 21, 22, 23, 24, 25, 26, 27, 28, 29, 30] [31] [1, 2, 3, 4, 5, 6, 7, 8, 9, 10, 11, 12, 13, 14, 15, 16, 17, 18, 19, 20, 21, 22, 23, 24, 25, 26, 27, 28, 29, 30, 31, 0] rfl rfl (by decide) (by decide) (by decide) rfl (by decide) 0 rfl rfl rfl rfl (Nat.le_of_ble_eq_true rfl) dL_given_4 ⟨Nat.le_of_ble_eq_true rfl, Nat.le_of_ble_eq_true rfl⟩ [] ⟨0, 9, 12, 13⟩ [⟨0, 9, 15, 15⟩] ht (fun z hz1 => ?_) ⟨⟨by decide, by decide⟩, w_336⟩ (fun q => ?_)
  · cases hz1
  · skip
    refine rg_astore_n C dL_given_12 rfl (by decide) rfl ?_
    refine rg_iconst C dL_given_13 ?_
    exact rg_iret C hA hQ hr hlk () rfl rfl dL_given_14
set_option maxHeartbeats 4000000 in
set_option maxRecDepth 100000 in
theorem kL_given2 (l : Launch) (E : rE) (a : Nat → Nat) (X : DS) (oa : Nat) (o : Nat → Int) (p1 : Int) (M : rX xZ l yX5_given sX5_given rxX5_given E (dk E a X) [.ref (a 0), .int (iI p1)] xNo) : rMZ xW l yL_given sL_given rL E (dk E a X ++ [cJ E oa 1 o]) [.ref (a 0), .int (iI p1), .ref oa] (some (.int (iI 2))) (fun _ : Unit => dk E a X ++ [cJ E oa 1 o]) := by
  refine rMW.of (cc := cL_given) (maxL := 4) (ret := some FieldType.int) (hh := [(0, 9, 12, 13), (0, 9, 15, 15)]) (by decide) rfl (Nat.le_of_ble_eq_true rfl) (fun w h => List.mem_cons_of_mem _ h) ?_
  intro p e s m args below meth c A Q hz hP0 hA hQ C hr hlk ht
  have C : rC p s m args c E A 4 cL_given sL_given RL := C
  show rG p l e rL s m args below meth c E A 4 0 0 Q (dk E a X ++ [cJ E oa 1 o]) 0 [(0, .ref (a 0)), (1, .int (iI p1)), (2, .ref oa)] []
  refine rg_aload_n C 2 dL_given_0 rfl rfl ?_
  refine rg_iconst C dL_given_1 ?_
  refine rg_aload_n C 0 dL_given_2 rfl rfl ?_
  refine rg_iload_n C 1 dL_given_3 rfl rfl ?_
  refine rg_callVC (As := [.int (iI p1)]) (rest := [.int (iI 0), .ref oa]) (wr := [cJ E oa 1 o]) (cin := dk E a X ++ [cJ E oa 1 o]) C M (rcwV C mX5_given w_585 ⟨Nat.le_of_ble_eq_true rfl, Nat.le_of_ble_eq_true rfl⟩) hz.1 hP0 hA [0, 1, 2, 3, 4, 5, 6, 7, 8, 9, 10, 11, 12, 13, 14, 15, 16, 17, 18, 19, 20, 21, 22, 23, 24, 25, 26, 27, 28, 29, 30] [31] [1, 2, 3, 4, 5, 6, 7, 8, 9, 10, 11, 12, 13, 14, 15, 16, 17, 18, 19, 20, 21, 22, 23, 24, 25, 26, 27, 28, 29, 30, 31, 0] rfl rfl (by decide) (by decide) (by decide) rfl (by decide) 0 rfl rfl rfl rfl (Nat.le_of_ble_eq_true rfl) dL_given_4 ⟨Nat.le_of_ble_eq_true rfl, Nat.le_of_ble_eq_true rfl⟩ [⟨0, 9, 12, 13⟩] ⟨0, 9, 15, 15⟩ [] ht (fun z hz1 => ?_) ⟨⟨by decide, by decide⟩, w_337⟩ (fun q => ?_)
  · rcases List.mem_cons.mp hz1 with rfl | hz1
    · exact ⟨⟨by decide, by decide⟩, xIo, w_336, hz.2.1⟩
    cases hz1
  · skip
    refine rg_astore_n C dL_given_15 rfl (by decide) rfl ?_
    refine rg_iconst C dL_given_16 ?_
    exact rg_iret C hA hQ hr hlk () rfl rfl dL_given_17
set_option maxHeartbeats 4000000 in
set_option maxRecDepth 100000 in
theorem kL_flow0 (l : Launch) (E : rE) (a : Nat → Nat) (X X1 : DS) (oa : Nat) (o : Nat → Int) (p1 p2 : Int) (v : Int) (M : rM l yX5_flow sX5_flow rX5_flow E (dk E a X) [.ref (a 0), .int (iI p1), .int (iI p2)] (some (.long (lI v))) (fun _ : Unit => dk E a X1)) : rMZ xW l yL_flow sL_flow rL E (dk E a X ++ [cJ E oa 1 o]) [.ref (a 0), .int (iI p1), .int (iI p2), .ref oa] (some (.int (iI 0))) (fun _ : Unit => dk E a X1 ++ [cJ E oa 1 (uZ o 0 v)]) := by
  refine rMW.of (cc := cL_flow) (maxL := 5) (ret := some FieldType.int) (hh := [(0, 9, 12, 13), (0, 9, 16, 15)]) (by decide) rfl (Nat.le_of_ble_eq_true rfl) (fun w h => List.mem_cons_of_mem _ h) ?_
  intro p e s m args below meth c A Q hz hP0 hA hQ C hr hlk ht
  have C : rC p s m args c E A 5 cL_flow sL_flow RL := C
  show rG p l e rL s m args below meth c E A 5 0 0 Q (dk E a X ++ [cJ E oa 1 o]) 0 [(0, .ref (a 0)), (1, .int (iI p1)), (2, .int (iI p2)), (3, .ref oa)] []
  refine rg_aload_n C 3 dL_flow_0 rfl rfl ?_
  refine rg_iconst C dL_flow_1 ?_
  refine rg_aload_n C 0 dL_flow_2 rfl rfl ?_
  refine rg_iload_n C 1 dL_flow_3 rfl rfl ?_
  refine rg_iload_n C 2 dL_flow_4 rfl rfl ?_
  refine rg_callV (As := [.int (iI p1), .int (iI p2)]) (rest := [.int (iI 0), .ref oa]) (wr := [cJ E oa 1 o]) (w' := fun _ => dk E a X1 ++ [cJ E oa 1 o]) C M (rcwV C mX5_flow w_592 ⟨Nat.le_of_ble_eq_true rfl, Nat.le_of_ble_eq_true rfl⟩) [0, 1, 2, 3, 4, 5, 6, 7, 8, 9, 10, 11, 12, 13, 14, 15, 16, 17, 18, 19, 20, 21, 22, 23, 24, 25, 26, 27, 28, 29, 30] [31] [1, 2, 3, 4, 5, 6, 7, 8, 9, 10, 11, 12, 13, 14, 15, 16, 17, 18, 19, 20, 21, 22, 23, 24, 25, 26, 27, 28, 29, 30, 31, 0] rfl rfl (by decide) (by decide) (by decide) (fun _ => rfl) (by decide) 0 rfl rfl rfl rfl (Nat.le_of_ble_eq_true rfl) dL_flow_5 ⟨Nat.le_of_ble_eq_true rfl, Nat.le_of_ble_eq_true rfl⟩ (fun _ => ?_)
  refine rg_last (ws' := dk E a X1 ++ [cJ E oa 1 (uZ o 0 v)]) C 31 rfl (by decide) (by decide) (by decide) dL_flow_8 rfl ?_
  refine rg_goto (tgt := 20) C dL_flow_9 (by decide) ?_
  refine rg_iconst C dL_flow_20 ?_
  refine rG.wide (k := 1) (n := 6) (Nat.le_of_ble_eq_true rfl) (Nat.le_of_ble_eq_true rfl) ?_
  exact rg_iret C hA hQ hr hlk () rfl rfl dL_flow_21
set_option maxHeartbeats 4000000 in
set_option maxRecDepth 100000 in
theorem kL_flow1 (l : Launch) (E : rE) (a : Nat → Nat) (X : DS) (oa : Nat) (o : Nat → Int) (p1 p2 : Int) (M : rX xZ l yX5_flow sX5_flow rxX5_flow E (dk E a X) [.ref (a 0), .int (iI p1), .int (iI p2)] xIo) : rMZ xW l yL_flow sL_flow rL E (dk E a X ++ [cJ E oa 1 o]) [.ref (a 0), .int (iI p1), .int (iI p2), .ref oa] (some (.int (iI 1))) (fun _ : Unit => dk E a X ++ [cJ E oa 1 o]) := by
  refine rMW.of (cc := cL_flow) (maxL := 5) (ret := some FieldType.int) (hh := [(0, 9, 12, 13), (0, 9, 16, 15)]) (by decide) rfl (Nat.le_of_ble_eq_true rfl) (fun w h => List.mem_cons_of_mem _ h) ?_
  intro p e s m args below meth c A Q hz hP0 hA hQ C hr hlk ht
  have C : rC p s m args c E A 5 cL_flow sL_flow RL := C
  show rG p l e rL s m args below meth c E A 5 0 0 Q (dk E a X ++ [cJ E oa 1 o]) 0 [(0, .ref (a 0)), (1, .int (iI p1)), (2, .int (iI p2)), (3, .ref oa)] []
  refine rg_aload_n C 3 dL_flow_0 rfl rfl ?_
  refine rg_iconst C dL_flow_1 ?_
  refine rg_aload_n C 0 dL_flow_2 rfl rfl ?_
  refine rg_iload_n C 1 dL_flow_3 rfl rfl ?_
  refine rg_iload_n C 2 dL_flow_4 rfl rfl ?_
  refine rg_callVC (As := [.int (iI p1), .int (iI p2)]) (rest := [.int (iI 0), .ref oa]) (wr := [cJ E oa 1 o]) (cin := dk E a X ++ [cJ E oa 1 o]) C M (rcwV C mX5_flow w_592 ⟨Nat.le_of_ble_eq_true rfl, Nat.le_of_ble_eq_true rfl⟩) hz.1 hP0 hA [0, 1, 2, 3, 4, 5, 6, 7, 8, 9, 10, 11, 12, 13, 14, 15, 16, 17, 18, 19, 20, 21, 22, 23, 24, 25, 26, 27, 28, 29, 30] [31] [1, 2, 3, 4, 5, 6, 7, 8, 9, 10, 11, 12, 13, 14, 15, 16, 17, 18, 19, 20, 21, 22, 23, 24, 25, 26, 27, 28, 29, 30, 31, 0] rfl rfl (by decide) (by decide) (by decide) rfl (by decide) 0 rfl rfl rfl rfl (Nat.le_of_ble_eq_true rfl) dL_flow_5 ⟨Nat.le_of_ble_eq_true rfl, Nat.le_of_ble_eq_true rfl⟩ [] ⟨0, 9, 12, 13⟩ [⟨0, 9, 16, 15⟩] ht (fun z hz1 => ?_) ⟨⟨by decide, by decide⟩, w_336⟩ (fun q => ?_)
  · cases hz1
  · skip
    refine rg_astore C dL_flow_12 (by decide) rfl ?_
    refine rg_iconst C dL_flow_14 ?_
    exact rg_iret C hA hQ hr hlk () rfl rfl dL_flow_15
set_option maxHeartbeats 4000000 in
set_option maxRecDepth 100000 in
theorem kL_flow2 (l : Launch) (E : rE) (a : Nat → Nat) (X : DS) (oa : Nat) (o : Nat → Int) (p1 p2 : Int) (M : rX xZ l yX5_flow sX5_flow rxX5_flow E (dk E a X) [.ref (a 0), .int (iI p1), .int (iI p2)] xNo) : rMZ xW l yL_flow sL_flow rL E (dk E a X ++ [cJ E oa 1 o]) [.ref (a 0), .int (iI p1), .int (iI p2), .ref oa] (some (.int (iI 2))) (fun _ : Unit => dk E a X ++ [cJ E oa 1 o]) := by
  refine rMW.of (cc := cL_flow) (maxL := 5) (ret := some FieldType.int) (hh := [(0, 9, 12, 13), (0, 9, 16, 15)]) (by decide) rfl (Nat.le_of_ble_eq_true rfl) (fun w h => List.mem_cons_of_mem _ h) ?_
  intro p e s m args below meth c A Q hz hP0 hA hQ C hr hlk ht
  have C : rC p s m args c E A 5 cL_flow sL_flow RL := C
  show rG p l e rL s m args below meth c E A 5 0 0 Q (dk E a X ++ [cJ E oa 1 o]) 0 [(0, .ref (a 0)), (1, .int (iI p1)), (2, .int (iI p2)), (3, .ref oa)] []
  refine rg_aload_n C 3 dL_flow_0 rfl rfl ?_
  refine rg_iconst C dL_flow_1 ?_
  refine rg_aload_n C 0 dL_flow_2 rfl rfl ?_
  refine rg_iload_n C 1 dL_flow_3 rfl rfl ?_
  refine rg_iload_n C 2 dL_flow_4 rfl rfl ?_
  refine rg_callVC (As := [.int (iI p1), .int (iI p2)]) (rest := [.int (iI 0), .ref oa]) (wr := [cJ E oa 1 o]) (cin := dk E a X ++ [cJ E oa 1 o]) C M (rcwV C mX5_flow w_592 ⟨Nat.le_of_ble_eq_true rfl, Nat.le_of_ble_eq_true rfl⟩) hz.1 hP0 hA [0, 1, 2, 3, 4, 5, 6, 7, 8, 9, 10, 11, 12, 13, 14, 15, 16, 17, 18, 19, 20, 21, 22, 23, 24, 25, 26, 27, 28, 29, 30] [31] [1, 2, 3, 4, 5, 6, 7, 8, 9, 10, 11, 12, 13, 14, 15, 16, 17, 18, 19, 20, 21, 22, 23, 24, 25, 26, 27, 28, 29, 30, 31, 0] rfl rfl (by decide) (by decide) (by decide) rfl (by decide) 0 rfl rfl rfl rfl (Nat.le_of_ble_eq_true rfl) dL_flow_5 ⟨Nat.le_of_ble_eq_true rfl, Nat.le_of_ble_eq_true rfl⟩ [⟨0, 9, 12, 13⟩] ⟨0, 9, 16, 15⟩ [] ht (fun z hz1 => ?_) ⟨⟨by decide, by decide⟩, w_337⟩ (fun q => ?_)
  · rcases List.mem_cons.mp hz1 with rfl | hz1
    · exact ⟨⟨by decide, by decide⟩, xIo, w_336, hz.2.1⟩
    cases hz1
  · skip
    refine rg_astore C dL_flow_16 (by decide) rfl ?_
    refine rg_iconst C dL_flow_18 ?_
    exact rg_iret C hA hQ hr hlk () rfl rfl dL_flow_19
set_option maxHeartbeats 4000000 in
set_option maxRecDepth 100000 in
theorem kL_call0 (l : Launch) (E : rE) (a : Nat → Nat) (X X1 : DS) (oa : Nat) (o : Nat → Int) (p1 : Int) (v : Int) (hv : inI v) (M : rM l yX5_call sX5_call rX5_call E (dk E a X) [.ref (a 0), .int (iI p1)] (some (.int (iI v))) (fun _ : Unit => dk E a X1)) : rMZ xW l yL_call sL_call rL E (dk E a X ++ [cJ E oa 1 o]) [.ref (a 0), .int (iI p1), .ref oa] (some (.int (iI 0))) (fun _ : Unit => dk E a X1 ++ [cJ E oa 1 (uZ o 0 v)]) := by
  refine rMW.of (cc := cL_call) (maxL := 4) (ret := some FieldType.int) (hh := [(0, 9, 12, 13), (0, 9, 15, 15)]) (by decide) rfl (Nat.le_of_ble_eq_true rfl) (fun w h => List.mem_cons_of_mem _ h) ?_
  intro p e s m args below meth c A Q hz hP0 hA hQ C hr hlk ht
  have C : rC p s m args c E A 4 cL_call sL_call RL := C
  show rG p l e rL s m args below meth c E A 4 0 0 Q (dk E a X ++ [cJ E oa 1 o]) 0 [(0, .ref (a 0)), (1, .int (iI p1)), (2, .ref oa)] []
  refine rg_aload_n C 2 dL_call_0 rfl rfl ?_
  refine rg_iconst C dL_call_1 ?_
  refine rg_aload_n C 0 dL_call_2 rfl rfl ?_
  refine rg_iload_n C 1 dL_call_3 rfl rfl ?_
  refine rg_callV (As := [.int (iI p1)]) (rest := [.int (iI 0), .ref oa]) (wr := [cJ E oa 1 o]) (w' := fun _ => dk E a X1 ++ [cJ E oa 1 o]) C M (rcwV C mX5_call w_600 ⟨Nat.le_of_ble_eq_true rfl, Nat.le_of_ble_eq_true rfl⟩) [0, 1, 2, 3, 4, 5, 6, 7, 8, 9, 10, 11, 12, 13, 14, 15, 16, 17, 18, 19, 20, 21, 22, 23, 24, 25, 26, 27, 28, 29, 30] [31] [1, 2, 3, 4, 5, 6, 7, 8, 9, 10, 11, 12, 13, 14, 15, 16, 17, 18, 19, 20, 21, 22, 23, 24, 25, 26, 27, 28, 29, 30, 31, 0] rfl rfl (by decide) (by decide) (by decide) (fun _ => rfl) (by decide) 0 rfl rfl rfl rfl (Nat.le_of_ble_eq_true rfl) dL_call_4 ⟨Nat.le_of_ble_eq_true rfl, Nat.le_of_ble_eq_true rfl⟩ (fun _ => ?_)
  refine rg_i2l C hv dL_call_7 ?_
  refine rg_last (ws' := dk E a X1 ++ [cJ E oa 1 (uZ o 0 v)]) C 31 rfl (by decide) (by decide) (by decide) dL_call_8 rfl ?_
  refine rg_goto (tgt := 18) C dL_call_9 (by decide) ?_
  refine rg_iconst C dL_call_18 ?_
  refine rG.wide (k := 1) (n := 6) (Nat.le_of_ble_eq_true rfl) (Nat.le_of_ble_eq_true rfl) ?_
  exact rg_iret C hA hQ hr hlk () rfl rfl dL_call_19
set_option maxHeartbeats 4000000 in
set_option maxRecDepth 100000 in
theorem kL_call1 (l : Launch) (E : rE) (a : Nat → Nat) (X : DS) (oa : Nat) (o : Nat → Int) (p1 : Int) (M : rX xZ l yX5_call sX5_call rxX5_call E (dk E a X) [.ref (a 0), .int (iI p1)] xIo) : rMZ xW l yL_call sL_call rL E (dk E a X ++ [cJ E oa 1 o]) [.ref (a 0), .int (iI p1), .ref oa] (some (.int (iI 1))) (fun _ : Unit => dk E a X ++ [cJ E oa 1 o]) := by
  refine rMW.of (cc := cL_call) (maxL := 4) (ret := some FieldType.int) (hh := [(0, 9, 12, 13), (0, 9, 15, 15)]) (by decide) rfl (Nat.le_of_ble_eq_true rfl) (fun w h => List.mem_cons_of_mem _ h) ?_
  intro p e s m args below meth c A Q hz hP0 hA hQ C hr hlk ht
  have C : rC p s m args c E A 4 cL_call sL_call RL := C
  show rG p l e rL s m args below meth c E A 4 0 0 Q (dk E a X ++ [cJ E oa 1 o]) 0 [(0, .ref (a 0)), (1, .int (iI p1)), (2, .ref oa)] []
  refine rg_aload_n C 2 dL_call_0 rfl rfl ?_
  refine rg_iconst C dL_call_1 ?_
  refine rg_aload_n C 0 dL_call_2 rfl rfl ?_
  refine rg_iload_n C 1 dL_call_3 rfl rfl ?_
  refine rg_callVC (As := [.int (iI p1)]) (rest := [.int (iI 0), .ref oa]) (wr := [cJ E oa 1 o]) (cin := dk E a X ++ [cJ E oa 1 o]) C M (rcwV C mX5_call w_600 ⟨Nat.le_of_ble_eq_true rfl, Nat.le_of_ble_eq_true rfl⟩) hz.1 hP0 hA [0, 1, 2, 3, 4, 5, 6, 7, 8, 9, 10, 11, 12, 13, 14, 15, 16, 17, 18, 19, 20, 21, 22, 23, 24, 25, 26, 27, 28, 29, 30] [31] [1, 2, 3, 4, 5, 6, 7, 8, 9, 10, 11, 12, 13, 14, 15, 16, 17, 18, 19, 20, 21, 22, 23, 24, 25, 26, 27, 28, 29, 30, 31, 0] rfl rfl (by decide) (by decide) (by decide) rfl (by decide) 0 rfl rfl rfl rfl (Nat.le_of_ble_eq_true rfl) dL_call_4 ⟨Nat.le_of_ble_eq_true rfl, Nat.le_of_ble_eq_true rfl⟩ [] ⟨0, 9, 12, 13⟩ [⟨0, 9, 15, 15⟩] ht (fun z hz1 => ?_) ⟨⟨by decide, by decide⟩, w_336⟩ (fun q => ?_)
  · cases hz1
  · skip
    refine rg_astore_n C dL_call_12 rfl (by decide) rfl ?_
    refine rg_iconst C dL_call_13 ?_
    exact rg_iret C hA hQ hr hlk () rfl rfl dL_call_14
set_option maxHeartbeats 4000000 in
set_option maxRecDepth 100000 in
theorem kL_call2 (l : Launch) (E : rE) (a : Nat → Nat) (X : DS) (oa : Nat) (o : Nat → Int) (p1 : Int) (M : rX xZ l yX5_call sX5_call rxX5_call E (dk E a X) [.ref (a 0), .int (iI p1)] xNo) : rMZ xW l yL_call sL_call rL E (dk E a X ++ [cJ E oa 1 o]) [.ref (a 0), .int (iI p1), .ref oa] (some (.int (iI 2))) (fun _ : Unit => dk E a X ++ [cJ E oa 1 o]) := by
  refine rMW.of (cc := cL_call) (maxL := 4) (ret := some FieldType.int) (hh := [(0, 9, 12, 13), (0, 9, 15, 15)]) (by decide) rfl (Nat.le_of_ble_eq_true rfl) (fun w h => List.mem_cons_of_mem _ h) ?_
  intro p e s m args below meth c A Q hz hP0 hA hQ C hr hlk ht
  have C : rC p s m args c E A 4 cL_call sL_call RL := C
  show rG p l e rL s m args below meth c E A 4 0 0 Q (dk E a X ++ [cJ E oa 1 o]) 0 [(0, .ref (a 0)), (1, .int (iI p1)), (2, .ref oa)] []
  refine rg_aload_n C 2 dL_call_0 rfl rfl ?_
  refine rg_iconst C dL_call_1 ?_
  refine rg_aload_n C 0 dL_call_2 rfl rfl ?_
  refine rg_iload_n C 1 dL_call_3 rfl rfl ?_
  refine rg_callVC (As := [.int (iI p1)]) (rest := [.int (iI 0), .ref oa]) (wr := [cJ E oa 1 o]) (cin := dk E a X ++ [cJ E oa 1 o]) C M (rcwV C mX5_call w_600 ⟨Nat.le_of_ble_eq_true rfl, Nat.le_of_ble_eq_true rfl⟩) hz.1 hP0 hA [0, 1, 2, 3, 4, 5, 6, 7, 8, 9, 10, 11, 12, 13, 14, 15, 16, 17, 18, 19, 20, 21, 22, 23, 24, 25, 26, 27, 28, 29, 30] [31] [1, 2, 3, 4, 5, 6, 7, 8, 9, 10, 11, 12, 13, 14, 15, 16, 17, 18, 19, 20, 21, 22, 23, 24, 25, 26, 27, 28, 29, 30, 31, 0] rfl rfl (by decide) (by decide) (by decide) rfl (by decide) 0 rfl rfl rfl rfl (Nat.le_of_ble_eq_true rfl) dL_call_4 ⟨Nat.le_of_ble_eq_true rfl, Nat.le_of_ble_eq_true rfl⟩ [⟨0, 9, 12, 13⟩] ⟨0, 9, 15, 15⟩ [] ht (fun z hz1 => ?_) ⟨⟨by decide, by decide⟩, w_337⟩ (fun q => ?_)
  · rcases List.mem_cons.mp hz1 with rfl | hz1
    · exact ⟨⟨by decide, by decide⟩, xIo, w_336, hz.2.1⟩
    cases hz1
  · skip
    refine rg_astore_n C dL_call_15 rfl (by decide) rfl ?_
    refine rg_iconst C dL_call_16 ?_
    exact rg_iret C hA hQ hr hlk () rfl rfl dL_call_17
set_option maxHeartbeats 4000000 in
set_option maxRecDepth 100000 in
theorem kL_futile0 (l : Launch) (E : rE) (a : Nat → Nat) (X X1 : DS) (oa : Nat) (o : Nat → Int) (p1 p2 : Int) (v : Int) (hv : v = 0 ∨ v = 1) (M : rM l yX5_futile sX5_futile rX5_futile E (dk E a X) [.ref (a 0), .int (iI p1), .int (iI p2)] (some (.int (iI v))) (fun _ : Unit => dk E a X1)) : rMZ xW l yL_futile sL_futile rL E (dk E a X ++ [cJ E oa 1 o]) [.ref (a 0), .int (iI p1), .int (iI p2), .ref oa] (some (.int (iI 0))) (fun _ : Unit => dk E a X1 ++ [cJ E oa 1 (uZ o 0 v)]) := by
  refine rMW.of (cc := cL_futile) (maxL := 5) (ret := some FieldType.int) (hh := [(0, 17, 20, 13), (0, 17, 24, 15)]) (by decide) rfl (Nat.le_of_ble_eq_true rfl) (fun w h => List.mem_cons_of_mem _ h) ?_
  intro p e s m args below meth c A Q hz hP0 hA hQ C hr hlk ht
  have C : rC p s m args c E A 5 cL_futile sL_futile RL := C
  show rG p l e rL s m args below meth c E A 5 0 0 Q (dk E a X ++ [cJ E oa 1 o]) 0 [(0, .ref (a 0)), (1, .int (iI p1)), (2, .int (iI p2)), (3, .ref oa)] []
  refine rg_aload_n C 3 dL_futile_0 rfl rfl ?_
  refine rg_iconst C dL_futile_1 ?_
  refine rg_aload_n C 0 dL_futile_2 rfl rfl ?_
  refine rg_iload_n C 1 dL_futile_3 rfl rfl ?_
  refine rg_iload_n C 2 dL_futile_4 rfl rfl ?_
  refine rg_callV (As := [.int (iI p1), .int (iI p2)]) (rest := [.int (iI 0), .ref oa]) (wr := [cJ E oa 1 o]) (w' := fun _ => dk E a X1 ++ [cJ E oa 1 o]) C M (rcwV C mX5_futile w_613 ⟨Nat.le_of_ble_eq_true rfl, Nat.le_of_ble_eq_true rfl⟩) [0, 1, 2, 3, 4, 5, 6, 7, 8, 9, 10, 11, 12, 13, 14, 15, 16, 17, 18, 19, 20, 21, 22, 23, 24, 25, 26, 27, 28, 29, 30] [31] [1, 2, 3, 4, 5, 6, 7, 8, 9, 10, 11, 12, 13, 14, 15, 16, 17, 18, 19, 20, 21, 22, 23, 24, 25, 26, 27, 28, 29, 30, 31, 0] rfl rfl (by decide) (by decide) (by decide) (fun _ => rfl) (by decide) 0 rfl rfl rfl rfl (Nat.le_of_ble_eq_true rfl) dL_futile_5 ⟨Nat.le_of_ble_eq_true rfl, Nat.le_of_ble_eq_true rfl⟩ (fun _ => ?_)
  refine rg_if_eq (tgt := 15) C (by omega) dL_futile_8 (by decide) (fun h_8 => ?_) (fun h_8 => ?_)
  · skip
    refine rg_lconst (z := v) C dL_futile_15 (by rw [show v = 0 by omega]; rfl) ?_
    refine rg_last (ws' := dk E a X1 ++ [cJ E oa 1 (uZ o 0 v)]) C 31 rfl (by decide) (by decide) (by decide) dL_futile_16 rfl ?_
    refine rg_goto (tgt := 28) C dL_futile_17 (by decide) ?_
    refine rg_iconst C dL_futile_28 ?_
    refine rG.wide (k := 1) (n := 6) (Nat.le_of_ble_eq_true rfl) (Nat.le_of_ble_eq_true rfl) ?_
    exact rg_iret C hA hQ hr hlk () rfl rfl dL_futile_29
  · skip
    refine rg_lconst (z := v) C dL_futile_11 (by rw [show v = 1 by omega]; rfl) ?_
    refine rg_goto (tgt := 16) C dL_futile_12 (by decide) ?_
    refine rg_last (ws' := dk E a X1 ++ [cJ E oa 1 (uZ o 0 v)]) C 31 rfl (by decide) (by decide) (by decide) dL_futile_16 rfl ?_
    refine rg_goto (tgt := 28) C dL_futile_17 (by decide) ?_
    refine rg_iconst C dL_futile_28 ?_
    refine rG.wide (k := 1) (n := 6) (Nat.le_of_ble_eq_true rfl) (Nat.le_of_ble_eq_true rfl) ?_
    exact rg_iret C hA hQ hr hlk () rfl rfl dL_futile_29
set_option maxHeartbeats 4000000 in
set_option maxRecDepth 100000 in
theorem kL_futile1 (l : Launch) (E : rE) (a : Nat → Nat) (X : DS) (oa : Nat) (o : Nat → Int) (p1 p2 : Int) (M : rX xZ l yX5_futile sX5_futile rxX5_futile E (dk E a X) [.ref (a 0), .int (iI p1), .int (iI p2)] xIo) : rMZ xW l yL_futile sL_futile rL E (dk E a X ++ [cJ E oa 1 o]) [.ref (a 0), .int (iI p1), .int (iI p2), .ref oa] (some (.int (iI 1))) (fun _ : Unit => dk E a X ++ [cJ E oa 1 o]) := by
  refine rMW.of (cc := cL_futile) (maxL := 5) (ret := some FieldType.int) (hh := [(0, 17, 20, 13), (0, 17, 24, 15)]) (by decide) rfl (Nat.le_of_ble_eq_true rfl) (fun w h => List.mem_cons_of_mem _ h) ?_
  intro p e s m args below meth c A Q hz hP0 hA hQ C hr hlk ht
  have C : rC p s m args c E A 5 cL_futile sL_futile RL := C
  show rG p l e rL s m args below meth c E A 5 0 0 Q (dk E a X ++ [cJ E oa 1 o]) 0 [(0, .ref (a 0)), (1, .int (iI p1)), (2, .int (iI p2)), (3, .ref oa)] []
  refine rg_aload_n C 3 dL_futile_0 rfl rfl ?_
  refine rg_iconst C dL_futile_1 ?_
  refine rg_aload_n C 0 dL_futile_2 rfl rfl ?_
  refine rg_iload_n C 1 dL_futile_3 rfl rfl ?_
  refine rg_iload_n C 2 dL_futile_4 rfl rfl ?_
  refine rg_callVC (As := [.int (iI p1), .int (iI p2)]) (rest := [.int (iI 0), .ref oa]) (wr := [cJ E oa 1 o]) (cin := dk E a X ++ [cJ E oa 1 o]) C M (rcwV C mX5_futile w_613 ⟨Nat.le_of_ble_eq_true rfl, Nat.le_of_ble_eq_true rfl⟩) hz.1 hP0 hA [0, 1, 2, 3, 4, 5, 6, 7, 8, 9, 10, 11, 12, 13, 14, 15, 16, 17, 18, 19, 20, 21, 22, 23, 24, 25, 26, 27, 28, 29, 30] [31] [1, 2, 3, 4, 5, 6, 7, 8, 9, 10, 11, 12, 13, 14, 15, 16, 17, 18, 19, 20, 21, 22, 23, 24, 25, 26, 27, 28, 29, 30, 31, 0] rfl rfl (by decide) (by decide) (by decide) rfl (by decide) 0 rfl rfl rfl rfl (Nat.le_of_ble_eq_true rfl) dL_futile_5 ⟨Nat.le_of_ble_eq_true rfl, Nat.le_of_ble_eq_true rfl⟩ [] ⟨0, 17, 20, 13⟩ [⟨0, 17, 24, 15⟩] ht (fun z hz1 => ?_) ⟨⟨by decide, by decide⟩, w_336⟩ (fun q => ?_)
  · cases hz1
  · skip
    refine rg_astore C dL_futile_20 (by decide) rfl ?_
    refine rg_iconst C dL_futile_22 ?_
    exact rg_iret C hA hQ hr hlk () rfl rfl dL_futile_23
set_option maxHeartbeats 4000000 in
set_option maxRecDepth 100000 in
theorem kL_futile2 (l : Launch) (E : rE) (a : Nat → Nat) (X : DS) (oa : Nat) (o : Nat → Int) (p1 p2 : Int) (M : rX xZ l yX5_futile sX5_futile rxX5_futile E (dk E a X) [.ref (a 0), .int (iI p1), .int (iI p2)] xNo) : rMZ xW l yL_futile sL_futile rL E (dk E a X ++ [cJ E oa 1 o]) [.ref (a 0), .int (iI p1), .int (iI p2), .ref oa] (some (.int (iI 2))) (fun _ : Unit => dk E a X ++ [cJ E oa 1 o]) := by
  refine rMW.of (cc := cL_futile) (maxL := 5) (ret := some FieldType.int) (hh := [(0, 17, 20, 13), (0, 17, 24, 15)]) (by decide) rfl (Nat.le_of_ble_eq_true rfl) (fun w h => List.mem_cons_of_mem _ h) ?_
  intro p e s m args below meth c A Q hz hP0 hA hQ C hr hlk ht
  have C : rC p s m args c E A 5 cL_futile sL_futile RL := C
  show rG p l e rL s m args below meth c E A 5 0 0 Q (dk E a X ++ [cJ E oa 1 o]) 0 [(0, .ref (a 0)), (1, .int (iI p1)), (2, .int (iI p2)), (3, .ref oa)] []
  refine rg_aload_n C 3 dL_futile_0 rfl rfl ?_
  refine rg_iconst C dL_futile_1 ?_
  refine rg_aload_n C 0 dL_futile_2 rfl rfl ?_
  refine rg_iload_n C 1 dL_futile_3 rfl rfl ?_
  refine rg_iload_n C 2 dL_futile_4 rfl rfl ?_
  refine rg_callVC (As := [.int (iI p1), .int (iI p2)]) (rest := [.int (iI 0), .ref oa]) (wr := [cJ E oa 1 o]) (cin := dk E a X ++ [cJ E oa 1 o]) C M (rcwV C mX5_futile w_613 ⟨Nat.le_of_ble_eq_true rfl, Nat.le_of_ble_eq_true rfl⟩) hz.1 hP0 hA [0, 1, 2, 3, 4, 5, 6, 7, 8, 9, 10, 11, 12, 13, 14, 15, 16, 17, 18, 19, 20, 21, 22, 23, 24, 25, 26, 27, 28, 29, 30] [31] [1, 2, 3, 4, 5, 6, 7, 8, 9, 10, 11, 12, 13, 14, 15, 16, 17, 18, 19, 20, 21, 22, 23, 24, 25, 26, 27, 28, 29, 30, 31, 0] rfl rfl (by decide) (by decide) (by decide) rfl (by decide) 0 rfl rfl rfl rfl (Nat.le_of_ble_eq_true rfl) dL_futile_5 ⟨Nat.le_of_ble_eq_true rfl, Nat.le_of_ble_eq_true rfl⟩ [⟨0, 17, 20, 13⟩] ⟨0, 17, 24, 15⟩ [] ht (fun z hz1 => ?_) ⟨⟨by decide, by decide⟩, w_337⟩ (fun q => ?_)
  · rcases List.mem_cons.mp hz1 with rfl | hz1
    · exact ⟨⟨by decide, by decide⟩, xIo, w_336, hz.2.1⟩
    cases hz1
  · skip
    refine rg_astore C dL_futile_24 (by decide) rfl ?_
    refine rg_iconst C dL_futile_26 ?_
    exact rg_iret C hA hQ hr hlk () rfl rfl dL_futile_27
