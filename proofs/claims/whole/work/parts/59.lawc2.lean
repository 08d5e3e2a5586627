set_option maxHeartbeats 4000000 in
set_option maxRecDepth 100000 in
theorem lc_drop {p : Program} {l : Launch} {e : Env} {s : State} {m : MethodId} {args : Array Value} {below : List Frame} {meth : Method} {c : Code} {E : rE} {A : Nat → Prop} {Q : State → Prop} {Ts : List Cond} {b L cells slots : Nat} {sc : Nat → Int} (hl0 : noTr l) (C : rC p s m args c E A 8 code Ts RL) (hz : xW s) (hA : A = va_A [] s.heap.size) (hX : scr s A b L sc) (aa bb : Nat → Nat) (X : WS) (oa : Nat) (o : Nat → Int) (n i : Int) (h : Inv X n) (hn : 0 ≤ n ∧ n ≤ 512) (hi : 0 ≤ i ∧ i + 7 ≤ (L : Int)) (hcs : cells + 1 ≤ 1083 ∧ slots + 6 ≤ 10391) (kk : ∀ (X1 : WS) (o1 : Nat → Int), Inv X1 (n + 1) → rG p l e room_1 s m args below meth c E A 8 (cells + 1) (slots + 6) Q (dk E aa X1.1 ++ (md E bb X1 ++ [cJ E oa 1 o1])) 1047 [(0, .ref b), (1, .ref (aa 0)), (2, .ref (bb 0)), (3, .ref oa), (4, .int (iI i))] []) : rG p l e room_1 s m args below meth c E A 8 cells slots Q (dk E aa X.1 ++ (md E bb X ++ [cJ E oa 1 o])) 418 [(0, .ref b), (1, .ref (aa 0)), (2, .ref (bb 0)), (3, .ref oa), (4, .int (iI i))] [] := by
  have hP0 : va_P E.1 vwCl [] s.heap := fun k q h => by simp at h
  have hL := hX.2.2.2.1
  have hsc := hX.2.2.2.2
  obtain ⟨X1, k, hk, hI, ht, M1, M2⟩ := cs_drop l hl0 E aa bb X n h hn (sc (i + 1).toNat) (hsc _)
  refine rg_aload_n C 1 dL_law_418 rfl rfl ?_
  refine rg_aload_n C 0 dL_law_419 rfl rfl ?_
  refine rg_iload C 4 dL_law_420 rfl ?_
  refine rg_iconst C dL_law_422 ?_
  refine rg_iadd C dL_law_423 ?_
  refine rg_sld C hX (by omega) (by omega) dL_law_424 ?_
  refine rg_callSW (n := 2) (As := [.ref (aa 0), .int (iI (sc (i + 1).toNat))]) (rest := []) (wr := (md E bb X ++ [cJ E oa 1 o])) (w' := fun _ => (dk E aa X1.1 ++ (md E bb X ++ [cJ E oa 1 o]))) (cin := []) C M1 hz hP0 hA rfl w_529 w_530 w_19 w_531 (by decide +kernel) ⟨Nat.le_of_ble_eq_true rfl, Nat.le_of_ble_eq_true rfl⟩ [0, 1, 2, 3, 4, 5, 6, 7, 8, 9, 10, 11, 12, 13, 14, 15, 16, 17, 18, 19, 20, 21, 22, 23, 24, 25, 26, 27, 28, 29, 30] [31, 32, 33, 34, 35, 36, 37, 38, 39, 40, 41, 42, 43, 44, 45, 46, 47, 48, 49, 50, 51, 52] [22, 23, 24, 25, 26, 27, 28, 29, 30, 31, 32, 33, 34, 35, 36, 37, 38, 39, 40, 41, 42, 43, 44, 45, 46, 47, 48, 49, 50, 51, 52, 0, 1, 2, 3, 4, 5, 6, 7, 8, 9, 10, 11, 12, 13, 14, 15, 16, 17, 18, 19, 20, 21] rfl rfl (by decide) (by decide) (by decide) (fun _ => rfl) (by decide) rfl rfl (Nat.le_of_ble_eq_true rfl) dL_law_425 ⟨hcs.1, hcs.2⟩ (fun _ => ?_)
  show rG p l e room_1 s m args below meth c E A 8 (cells + 1) (slots + 6) Q (dk E aa X1.1 ++ (md E bb X ++ [cJ E oa 1 o])) 428 [(0, .ref b), (1, .ref (aa 0)), (2, .ref (bb 0)), (3, .ref oa), (4, .int (iI i))] [.int (iI k)]
  refine rg_istore (lv' := [(5, .int (iI k)), (0, .ref b), (1, .ref (aa 0)), (2, .ref (bb 0)), (3, .ref oa), (4, .int (iI i))]) C dL_law_428 (by decide) rfl ?_
  refine rg_aload_n C 3 dL_law_430 rfl rfl ?_
  refine rg_aload_n C 1 dL_law_431 rfl rfl ?_
  refine rg_iload C 5 dL_law_432 rfl ?_
  refine rg_iconst C dL_law_434 ?_
  refine rg_iadd C dL_law_435 ?_
  refine rg_sld C hX (by omega) (by omega) dL_law_436 ?_
  refine rg_callV (As := [.int (iI (sc (i + 1).toNat))]) (rest := []) (wr := dk E aa X1.1 ++ [cJ E oa 1 o]) (w' := fun _ => (dk E aa X1.1 ++ (md E bb X1 ++ [cJ E oa 1 o]))) C M2 (rcwV C mX6_drop w_730 ⟨Nat.le_of_ble_eq_true rfl, Nat.le_of_ble_eq_true rfl⟩) [31, 32, 33, 34, 35, 36, 37, 38, 39, 40, 41, 42, 43, 44, 45, 46, 47, 48, 49, 50, 51] [0, 1, 2, 3, 4, 5, 6, 7, 8, 9, 10, 11, 12, 13, 14, 15, 16, 17, 18, 19, 20, 21, 22, 23, 24, 25, 26, 27, 28, 29, 30, 52] [0, 1, 2, 3, 4, 5, 6, 7, 8, 9, 10, 11, 12, 13, 14, 15, 16, 17, 18, 19, 20, 21, 22, 23, 24, 25, 26, 27, 28, 29, 30, 32, 33, 34, 35, 36, 37, 38, 39, 40, 41, 42, 43, 44, 45, 46, 47, 48, 49, 50, 51, 52, 31] rfl rfl (by decide) (by decide) (by decide) (fun _ => rfl) (by decide) 0 rfl rfl rfl rfl (Nat.le_of_ble_eq_true rfl) dL_law_437 ⟨hcs.1, hcs.2⟩ (fun _ => ?_)
  show rG p l e room_1 s m args below meth c E A 8 (cells + 1) (slots + 6) Q (dk E aa X1.1 ++ (md E bb X1 ++ [cJ E oa 1 o])) 440 [(5, .int (iI k)), (0, .ref b), (1, .ref (aa 0)), (2, .ref (bb 0)), (3, .ref oa), (4, .int (iI i))] []
  refine rg_aload_n C 3 dL_law_440 rfl rfl ?_
  refine rg_callV (As := []) (rest := []) (wr := dk E aa X1.1 ++ [cJ E oa 1 o]) (w' := fun _ => (dk E aa X1.1 ++ (md E bb X1 ++ [cJ E oa 1 o]))) C (thr_md l E bb X1) (rcwV C mX6_thrown w_693 ⟨Nat.le_of_ble_eq_true rfl, Nat.le_of_ble_eq_true rfl⟩) [31, 32, 33, 34, 35, 36, 37, 38, 39, 40, 41, 42, 43, 44, 45, 46, 47, 48, 49, 50, 51] [0, 1, 2, 3, 4, 5, 6, 7, 8, 9, 10, 11, 12, 13, 14, 15, 16, 17, 18, 19, 20, 21, 22, 23, 24, 25, 26, 27, 28, 29, 30, 52] [0, 1, 2, 3, 4, 5, 6, 7, 8, 9, 10, 11, 12, 13, 14, 15, 16, 17, 18, 19, 20, 21, 22, 23, 24, 25, 26, 27, 28, 29, 30, 32, 33, 34, 35, 36, 37, 38, 39, 40, 41, 42, 43, 44, 45, 46, 47, 48, 49, 50, 51, 52, 31] rfl rfl (by decide) (by decide) (by decide) (fun _ => rfl) (by decide) 0 rfl rfl rfl rfl (Nat.le_of_ble_eq_true rfl) dL_law_441 ⟨hcs.1, hcs.2⟩ (fun _ => ?_)
  show rG p l e room_1 s m args below meth c E A 8 (cells + 1) (slots + 6) Q (dk E aa X1.1 ++ (md E bb X1 ++ [cJ E oa 1 o])) 444 [(5, .int (iI k)), (0, .ref b), (1, .ref (aa 0)), (2, .ref (bb 0)), (3, .ref oa), (4, .int (iI i))] [.int (iI (thr X1))]
  refine rg_iload C 0 dL_law_444 rfl ?_
  refine rg_icmp_eqs (tgt := 451) C (by rw [ht]) dL_law_446 (by decide) ?_
  refine rg_goto (tgt := 1047) C dL_law_451 (by decide) ?_
  refine rG.plv (lv' := [(0, .ref b), (1, .ref (aa 0)), (2, .ref (bb 0)), (3, .ref oa), (4, .int (iI i))]) [1, 2, 3, 4, 5] rfl ?_
  exact kk X1 o hI
set_option maxHeartbeats 4000000 in
set_option maxRecDepth 100000 in
theorem lc_want {p : Program} {l : Launch} {e : Env} {s : State} {m : MethodId} {args : Array Value} {below : List Frame} {meth : Method} {c : Code} {E : rE} {A : Nat → Prop} {Q : State → Prop} {Ts : List Cond} {b L cells slots : Nat} {sc : Nat → Int} (hl0 : noTr l) (C : rC p s m args c E A 8 code Ts RL) (hz : xW s) (hA : A = va_A [] s.heap.size) (hX : scr s A b L sc) (aa bb : Nat → Nat) (X : WS) (oa : Nat) (o : Nat → Int) (n i : Int) (h : Inv X n) (hn : 0 ≤ n ∧ n ≤ 512) (hi : 0 ≤ i ∧ i + 7 ≤ (L : Int)) (hcs : cells + 1 ≤ 1083 ∧ slots + 6 ≤ 10391) (kk : ∀ (X1 : WS) (o1 : Nat → Int), Inv X1 (n + 1) → rG p l e room_1 s m args below meth c E A 8 (cells + 1) (slots + 6) Q (dk E aa X1.1 ++ (md E bb X1 ++ [cJ E oa 1 o1])) 1047 [(0, .ref b), (1, .ref (aa 0)), (2, .ref (bb 0)), (3, .ref oa), (4, .int (iI i))] []) : rG p l e room_1 s m args below meth c E A 8 cells slots Q (dk E aa X.1 ++ (md E bb X ++ [cJ E oa 1 o])) 454 [(0, .ref b), (1, .ref (aa 0)), (2, .ref (bb 0)), (3, .ref oa), (4, .int (iI i))] [] := by
  have hP0 : va_P E.1 vwCl [] s.heap := fun k q h => by simp at h
  have hL := hX.2.2.2.1
  have hsc := hX.2.2.2.2
  obtain ⟨X1, k, hk, hI, ht, M1, M2⟩ := cs_want l hl0 E aa bb X n h hn (sc (i + 1).toNat) (sc (i + 2).toNat) (hsc _) (hsc _)
  refine rg_aload_n C 1 dL_law_454 rfl rfl ?_
  refine rg_aload_n C 0 dL_law_455 rfl rfl ?_
  refine rg_iload C 4 dL_law_456 rfl ?_
  refine rg_iconst C dL_law_458 ?_
  refine rg_iadd C dL_law_459 ?_
  refine rg_sld C hX (by omega) (by omega) dL_law_460 ?_
  refine rg_aload_n C 0 dL_law_461 rfl rfl ?_
  refine rg_iload C 4 dL_law_462 rfl ?_
  refine rg_iconst C dL_law_464 ?_
  refine rg_iadd C dL_law_465 ?_
  refine rg_sld C hX (by omega) (by omega) dL_law_466 ?_
  refine rg_callSW (n := 3) (As := [.ref (aa 0), .int (iI (sc (i + 1).toNat)), .int (iI (sc (i + 2).toNat))]) (rest := []) (wr := (md E bb X ++ [cJ E oa 1 o])) (w' := fun _ => (dk E aa X1.1 ++ (md E bb X ++ [cJ E oa 1 o]))) (cin := []) C M1 hz hP0 hA rfl w_544 w_545 w_19 w_546 (by decide +kernel) ⟨Nat.le_of_ble_eq_true rfl, Nat.le_of_ble_eq_true rfl⟩ [0, 1, 2, 3, 4, 5, 6, 7, 8, 9, 10, 11, 12, 13, 14, 15, 16, 17, 18, 19, 20, 21, 22, 23, 24, 25, 26, 27, 28, 29, 30] [31, 32, 33, 34, 35, 36, 37, 38, 39, 40, 41, 42, 43, 44, 45, 46, 47, 48, 49, 50, 51, 52] [22, 23, 24, 25, 26, 27, 28, 29, 30, 31, 32, 33, 34, 35, 36, 37, 38, 39, 40, 41, 42, 43, 44, 45, 46, 47, 48, 49, 50, 51, 52, 0, 1, 2, 3, 4, 5, 6, 7, 8, 9, 10, 11, 12, 13, 14, 15, 16, 17, 18, 19, 20, 21] rfl rfl (by decide) (by decide) (by decide) (fun _ => rfl) (by decide) rfl rfl (Nat.le_of_ble_eq_true rfl) dL_law_467 ⟨hcs.1, hcs.2⟩ (fun _ => ?_)
  show rG p l e room_1 s m args below meth c E A 8 (cells + 1) (slots + 6) Q (dk E aa X1.1 ++ (md E bb X ++ [cJ E oa 1 o])) 470 [(0, .ref b), (1, .ref (aa 0)), (2, .ref (bb 0)), (3, .ref oa), (4, .int (iI i))] [.int (iI k)]
  refine rg_istore (lv' := [(5, .int (iI k)), (0, .ref b), (1, .ref (aa 0)), (2, .ref (bb 0)), (3, .ref oa), (4, .int (iI i))]) C dL_law_470 (by decide) rfl ?_
  refine rg_aload_n C 3 dL_law_472 rfl rfl ?_
  refine rg_aload_n C 1 dL_law_473 rfl rfl ?_
  refine rg_iload C 5 dL_law_474 rfl ?_
  refine rg_iconst C dL_law_476 ?_
  refine rg_iadd C dL_law_477 ?_
  refine rg_sld C hX (by omega) (by omega) dL_law_478 ?_
  refine rg_aload_n C 1 dL_law_479 rfl rfl ?_
  refine rg_iload C 5 dL_law_480 rfl ?_
  refine rg_iconst C dL_law_482 ?_
  refine rg_iadd C dL_law_483 ?_
  refine rg_sld C hX (by omega) (by omega) dL_law_484 ?_
  refine rg_callV (As := [.int (iI (sc (i + 1).toNat)), .int (iI (sc (i + 2).toNat))]) (rest := []) (wr := dk E aa X1.1 ++ [cJ E oa 1 o]) (w' := fun _ => (dk E aa X1.1 ++ (md E bb X1 ++ [cJ E oa 1 o]))) C M2 (rcwV C mX6_want w_738 ⟨Nat.le_of_ble_eq_true rfl, Nat.le_of_ble_eq_true rfl⟩) [31, 32, 33, 34, 35, 36, 37, 38, 39, 40, 41, 42, 43, 44, 45, 46, 47, 48, 49, 50, 51] [0, 1, 2, 3, 4, 5, 6, 7, 8, 9, 10, 11, 12, 13, 14, 15, 16, 17, 18, 19, 20, 21, 22, 23, 24, 25, 26, 27, 28, 29, 30, 52] [0, 1, 2, 3, 4, 5, 6, 7, 8, 9, 10, 11, 12, 13, 14, 15, 16, 17, 18, 19, 20, 21, 22, 23, 24, 25, 26, 27, 28, 29, 30, 32, 33, 34, 35, 36, 37, 38, 39, 40, 41, 42, 43, 44, 45, 46, 47, 48, 49, 50, 51, 52, 31] rfl rfl (by decide) (by decide) (by decide) (fun _ => rfl) (by decide) 0 rfl rfl rfl rfl (Nat.le_of_ble_eq_true rfl) dL_law_485 ⟨hcs.1, hcs.2⟩ (fun _ => ?_)
  show rG p l e room_1 s m args below meth c E A 8 (cells + 1) (slots + 6) Q (dk E aa X1.1 ++ (md E bb X1 ++ [cJ E oa 1 o])) 488 [(5, .int (iI k)), (0, .ref b), (1, .ref (aa 0)), (2, .ref (bb 0)), (3, .ref oa), (4, .int (iI i))] []
  refine rg_aload_n C 3 dL_law_488 rfl rfl ?_
  refine rg_callV (As := []) (rest := []) (wr := dk E aa X1.1 ++ [cJ E oa 1 o]) (w' := fun _ => (dk E aa X1.1 ++ (md E bb X1 ++ [cJ E oa 1 o]))) C (thr_md l E bb X1) (rcwV C mX6_thrown w_693 ⟨Nat.le_of_ble_eq_true rfl, Nat.le_of_ble_eq_true rfl⟩) [31, 32, 33, 34, 35, 36, 37, 38, 39, 40, 41, 42, 43, 44, 45, 46, 47, 48, 49, 50, 51] [0, 1, 2, 3, 4, 5, 6, 7, 8, 9, 10, 11, 12, 13, 14, 15, 16, 17, 18, 19, 20, 21, 22, 23, 24, 25, 26, 27, 28, 29, 30, 52] [0, 1, 2, 3, 4, 5, 6, 7, 8, 9, 10, 11, 12, 13, 14, 15, 16, 17, 18, 19, 20, 21, 22, 23, 24, 25, 26, 27, 28, 29, 30, 32, 33, 34, 35, 36, 37, 38, 39, 40, 41, 42, 43, 44, 45, 46, 47, 48, 49, 50, 51, 52, 31] rfl rfl (by decide) (by decide) (by decide) (fun _ => rfl) (by decide) 0 rfl rfl rfl rfl (Nat.le_of_ble_eq_true rfl) dL_law_489 ⟨hcs.1, hcs.2⟩ (fun _ => ?_)
  show rG p l e room_1 s m args below meth c E A 8 (cells + 1) (slots + 6) Q (dk E aa X1.1 ++ (md E bb X1 ++ [cJ E oa 1 o])) 492 [(5, .int (iI k)), (0, .ref b), (1, .ref (aa 0)), (2, .ref (bb 0)), (3, .ref oa), (4, .int (iI i))] [.int (iI (thr X1))]
  refine rg_iload C 0 dL_law_492 rfl ?_
  refine rg_icmp_eqs (tgt := 499) C (by rw [ht]) dL_law_494 (by decide) ?_
  refine rg_goto (tgt := 1047) C dL_law_499 (by decide) ?_
  refine rG.plv (lv' := [(0, .ref b), (1, .ref (aa 0)), (2, .ref (bb 0)), (3, .ref oa), (4, .int (iI i))]) [1, 2, 3, 4, 5] rfl ?_
  exact kk X1 o hI
set_option maxHeartbeats 4000000 in
set_option maxRecDepth 100000 in
theorem lc_inflow {p : Program} {l : Launch} {e : Env} {s : State} {m : MethodId} {args : Array Value} {below : List Frame} {meth : Method} {c : Code} {E : rE} {A : Nat → Prop} {Q : State → Prop} {Ts : List Cond} {b L cells slots : Nat} {sc : Nat → Int} (hl0 : noTr l) (C : rC p s m args c E A 8 code Ts RL) (hz : xW s) (hA : A = va_A [] s.heap.size) (hX : scr s A b L sc) (aa bb : Nat → Nat) (X : WS) (oa : Nat) (o : Nat → Int) (n i : Int) (h : Inv X n) (hn : 0 ≤ n ∧ n ≤ 512) (hi : 0 ≤ i ∧ i + 7 ≤ (L : Int)) (hcs : cells + 1 ≤ 1083 ∧ slots + 6 ≤ 10391) (kk : ∀ (X1 : WS) (o1 : Nat → Int), Inv X1 (n + 1) → rG p l e room_1 s m args below meth c E A 8 (cells + 1) (slots + 6) Q (dk E aa X1.1 ++ (md E bb X1 ++ [cJ E oa 1 o1])) 1047 [(0, .ref b), (1, .ref (aa 0)), (2, .ref (bb 0)), (3, .ref oa), (4, .int (iI i))] []) : rG p l e room_1 s m args below meth c E A 8 cells slots Q (dk E aa X.1 ++ (md E bb X ++ [cJ E oa 1 o])) 502 [(0, .ref b), (1, .ref (aa 0)), (2, .ref (bb 0)), (3, .ref oa), (4, .int (iI i))] [] := by
  have hP0 : va_P E.1 vwCl [] s.heap := fun k q h => by simp at h
  have hL := hX.2.2.2.1
  have hsc := hX.2.2.2.2
  obtain ⟨X1, k, hk, hI, ht, M1, M2⟩ := cs_inflow l hl0 E aa bb X n h hn (sc (i + 1).toNat) (sc (i + 2).toNat) (hsc _) (hsc _)
  refine rg_aload_n C 1 dL_law_502 rfl rfl ?_
  refine rg_aload_n C 0 dL_law_503 rfl rfl ?_
  refine rg_iload C 4 dL_law_504 rfl ?_
  refine rg_iconst C dL_law_506 ?_
  refine rg_iadd C dL_law_507 ?_
  refine rg_sld C hX (by omega) (by omega) dL_law_508 ?_
  refine rg_aload_n C 0 dL_law_509 rfl rfl ?_
  refine rg_iload C 4 dL_law_510 rfl ?_
  refine rg_iconst C dL_law_512 ?_
  refine rg_iadd C dL_law_513 ?_
  refine rg_sld C hX (by omega) (by omega) dL_law_514 ?_
  refine rg_callSW (n := 3) (As := [.ref (aa 0), .int (iI (sc (i + 1).toNat)), .int (iI (sc (i + 2).toNat))]) (rest := []) (wr := (md E bb X ++ [cJ E oa 1 o])) (w' := fun _ => (dk E aa X1.1 ++ (md E bb X ++ [cJ E oa 1 o]))) (cin := []) C M1 hz hP0 hA rfl w_551 w_552 w_19 w_553 (by decide +kernel) ⟨Nat.le_of_ble_eq_true rfl, Nat.le_of_ble_eq_true rfl⟩ [0, 1, 2, 3, 4, 5, 6, 7, 8, 9, 10, 11, 12, 13, 14, 15, 16, 17, 18, 19, 20, 21, 22, 23, 24, 25, 26, 27, 28, 29, 30] [31, 32, 33, 34, 35, 36, 37, 38, 39, 40, 41, 42, 43, 44, 45, 46, 47, 48, 49, 50, 51, 52] [22, 23, 24, 25, 26, 27, 28, 29, 30, 31, 32, 33, 34, 35, 36, 37, 38, 39, 40, 41, 42, 43, 44, 45, 46, 47, 48, 49, 50, 51, 52, 0, 1, 2, 3, 4, 5, 6, 7, 8, 9, 10, 11, 12, 13, 14, 15, 16, 17, 18, 19, 20, 21] rfl rfl (by decide) (by decide) (by decide) (fun _ => rfl) (by decide) rfl rfl (Nat.le_of_ble_eq_true rfl) dL_law_515 ⟨hcs.1, hcs.2⟩ (fun _ => ?_)
  show rG p l e room_1 s m args below meth c E A 8 (cells + 1) (slots + 6) Q (dk E aa X1.1 ++ (md E bb X ++ [cJ E oa 1 o])) 518 [(0, .ref b), (1, .ref (aa 0)), (2, .ref (bb 0)), (3, .ref oa), (4, .int (iI i))] [.int (iI k)]
  refine rg_istore (lv' := [(5, .int (iI k)), (0, .ref b), (1, .ref (aa 0)), (2, .ref (bb 0)), (3, .ref oa), (4, .int (iI i))]) C dL_law_518 (by decide) rfl ?_
  refine rg_aload_n C 3 dL_law_520 rfl rfl ?_
  refine rg_aload_n C 1 dL_law_521 rfl rfl ?_
  refine rg_iload C 5 dL_law_522 rfl ?_
  refine rg_iconst C dL_law_524 ?_
  refine rg_iadd C dL_law_525 ?_
  refine rg_sld C hX (by omega) (by omega) dL_law_526 ?_
  refine rg_aload_n C 1 dL_law_527 rfl rfl ?_
  refine rg_iload C 5 dL_law_528 rfl ?_
  refine rg_iconst C dL_law_530 ?_
  refine rg_iadd C dL_law_531 ?_
  refine rg_sld C hX (by omega) (by omega) dL_law_532 ?_
  refine rg_callV (As := [.int (iI (sc (i + 1).toNat)), .int (iI (sc (i + 2).toNat))]) (rest := []) (wr := dk E aa X1.1 ++ [cJ E oa 1 o]) (w' := fun _ => (dk E aa X1.1 ++ (md E bb X1 ++ [cJ E oa 1 o]))) C M2 (rcwV C mX6_inflow w_742 ⟨Nat.le_of_ble_eq_true rfl, Nat.le_of_ble_eq_true rfl⟩) [31, 32, 33, 34, 35, 36, 37, 38, 39, 40, 41, 42, 43, 44, 45, 46, 47, 48, 49, 50, 51] [0, 1, 2, 3, 4, 5, 6, 7, 8, 9, 10, 11, 12, 13, 14, 15, 16, 17, 18, 19, 20, 21, 22, 23, 24, 25, 26, 27, 28, 29, 30, 52] [0, 1, 2, 3, 4, 5, 6, 7, 8, 9, 10, 11, 12, 13, 14, 15, 16, 17, 18, 19, 20, 21, 22, 23, 24, 25, 26, 27, 28, 29, 30, 32, 33, 34, 35, 36, 37, 38, 39, 40, 41, 42, 43, 44, 45, 46, 47, 48, 49, 50, 51, 52, 31] rfl rfl (by decide) (by decide) (by decide) (fun _ => rfl) (by decide) 0 rfl rfl rfl rfl (Nat.le_of_ble_eq_true rfl) dL_law_533 ⟨hcs.1, hcs.2⟩ (fun _ => ?_)
  show rG p l e room_1 s m args below meth c E A 8 (cells + 1) (slots + 6) Q (dk E aa X1.1 ++ (md E bb X1 ++ [cJ E oa 1 o])) 536 [(5, .int (iI k)), (0, .ref b), (1, .ref (aa 0)), (2, .ref (bb 0)), (3, .ref oa), (4, .int (iI i))] []
  refine rg_aload_n C 3 dL_law_536 rfl rfl ?_
  refine rg_callV (As := []) (rest := []) (wr := dk E aa X1.1 ++ [cJ E oa 1 o]) (w' := fun _ => (dk E aa X1.1 ++ (md E bb X1 ++ [cJ E oa 1 o]))) C (thr_md l E bb X1) (rcwV C mX6_thrown w_693 ⟨Nat.le_of_ble_eq_true rfl, Nat.le_of_ble_eq_true rfl⟩) [31, 32, 33, 34, 35, 36, 37, 38, 39, 40, 41, 42, 43, 44, 45, 46, 47, 48, 49, 50, 51] [0, 1, 2, 3, 4, 5, 6, 7, 8, 9, 10, 11, 12, 13, 14, 15, 16, 17, 18, 19, 20, 21, 22, 23, 24, 25, 26, 27, 28, 29, 30, 52] [0, 1, 2, 3, 4, 5, 6, 7, 8, 9, 10, 11, 12, 13, 14, 15, 16, 17, 18, 19, 20, 21, 22, 23, 24, 25, 26, 27, 28, 29, 30, 32, 33, 34, 35, 36, 37, 38, 39, 40, 41, 42, 43, 44, 45, 46, 47, 48, 49, 50, 51, 52, 31] rfl rfl (by decide) (by decide) (by decide) (fun _ => rfl) (by decide) 0 rfl rfl rfl rfl (Nat.le_of_ble_eq_true rfl) dL_law_537 ⟨hcs.1, hcs.2⟩ (fun _ => ?_)
  show rG p l e room_1 s m args below meth c E A 8 (cells + 1) (slots + 6) Q (dk E aa X1.1 ++ (md E bb X1 ++ [cJ E oa 1 o])) 540 [(5, .int (iI k)), (0, .ref b), (1, .ref (aa 0)), (2, .ref (bb 0)), (3, .ref oa), (4, .int (iI i))] [.int (iI (thr X1))]
  refine rg_iload C 0 dL_law_540 rfl ?_
  refine rg_icmp_eqs (tgt := 547) C (by rw [ht]) dL_law_542 (by decide) ?_
  refine rg_goto (tgt := 1047) C dL_law_547 (by decide) ?_
  refine rG.plv (lv' := [(0, .ref b), (1, .ref (aa 0)), (2, .ref (bb 0)), (3, .ref oa), (4, .int (iI i))]) [1, 2, 3, 4, 5] rfl ?_
  exact kk X1 o hI
set_option maxHeartbeats 4000000 in
set_option maxRecDepth 100000 in
theorem lc_release {p : Program} {l : Launch} {e : Env} {s : State} {m : MethodId} {args : Array Value} {below : List Frame} {meth : Method} {c : Code} {E : rE} {A : Nat → Prop} {Q : State → Prop} {Ts : List Cond} {b L cells slots : Nat} {sc : Nat → Int} (hl0 : noTr l) (C : rC p s m args c E A 8 code Ts RL) (hz : xW s) (hA : A = va_A [] s.heap.size) (hX : scr s A b L sc) (aa bb : Nat → Nat) (X : WS) (oa : Nat) (o : Nat → Int) (n i : Int) (h : Inv X n) (hn : 0 ≤ n ∧ n ≤ 512) (hi : 0 ≤ i ∧ i + 7 ≤ (L : Int)) (hcs : cells + 1 ≤ 1083 ∧ slots + 6 ≤ 10391) (kk : ∀ (X1 : WS) (o1 : Nat → Int), Inv X1 (n + 1) → rG p l e room_1 s m args below meth c E A 8 (cells + 1) (slots + 6) Q (dk E aa X1.1 ++ (md E bb X1 ++ [cJ E oa 1 o1])) 1047 [(0, .ref b), (1, .ref (aa 0)), (2, .ref (bb 0)), (3, .ref oa), (4, .int (iI i))] []) : rG p l e room_1 s m args below meth c E A 8 cells slots Q (dk E aa X.1 ++ (md E bb X ++ [cJ E oa 1 o])) 550 [(0, .ref b), (1, .ref (aa 0)), (2, .ref (bb 0)), (3, .ref oa), (4, .int (iI i))] [] := by
  have hP0 : va_P E.1 vwCl [] s.heap := fun k q h => by simp at h
  have hL := hX.2.2.2.1
  have hsc := hX.2.2.2.2
  obtain ⟨X1, k, v, o1, hk, hv, ho, hI, ht, M1, M2⟩ := cs_release l hl0 E aa bb X n h hn oa o (sc (i + 1).toNat) (sc (i + 2).toNat) (sc (i + 3).toNat) (hsc _) (hsc _) (hsc _)
  refine rg_aload_n C 1 dL_law_550 rfl rfl ?_
  refine rg_aload_n C 0 dL_law_551 rfl rfl ?_
  refine rg_iload C 4 dL_law_552 rfl ?_
  refine rg_iconst C dL_law_554 ?_
  refine rg_iadd C dL_law_555 ?_
  refine rg_sld C hX (by omega) (by omega) dL_law_556 ?_
  refine rg_aload_n C 0 dL_law_557 rfl rfl ?_
  refine rg_iload C 4 dL_law_558 rfl ?_
  refine rg_iconst C dL_law_560 ?_
  refine rg_iadd C dL_law_561 ?_
  refine rg_sld C hX (by omega) (by omega) dL_law_562 ?_
  refine rg_aload_n C 0 dL_law_563 rfl rfl ?_
  refine rg_iload C 4 dL_law_564 rfl ?_
  refine rg_iconst C dL_law_566 ?_
  refine rg_iadd C dL_law_567 ?_
  refine rg_sld C hX (by omega) (by omega) dL_law_568 ?_
  refine rg_aload_n C 3 dL_law_569 rfl rfl ?_
  refine rg_callSW (n := 5) (As := [.ref (aa 0), .int (iI (sc (i + 1).toNat)), .int (iI (sc (i + 2).toNat)), .int (iI (sc (i + 3).toNat)), .ref oa]) (rest := []) (wr := (md E bb X)) (w' := fun _ => (dk E aa X1.1 ++ (md E bb X ++ [cJ E oa 1 o1]))) (cin := []) C M1 hz hP0 hA rfl w_562 w_563 w_19 w_564 (by decide +kernel) ⟨Nat.le_of_ble_eq_true rfl, Nat.le_of_ble_eq_true rfl⟩ [0, 1, 2, 3, 4, 5, 6, 7, 8, 9, 10, 11, 12, 13, 14, 15, 16, 17, 18, 19, 20, 21, 22, 23, 24, 25, 26, 27, 28, 29, 30, 52] [31, 32, 33, 34, 35, 36, 37, 38, 39, 40, 41, 42, 43, 44, 45, 46, 47, 48, 49, 50, 51] [21, 22, 23, 24, 25, 26, 27, 28, 29, 30, 31, 32, 33, 34, 35, 36, 37, 38, 39, 40, 41, 42, 43, 44, 45, 46, 47, 48, 49, 50, 51, 0, 1, 2, 3, 4, 5, 6, 7, 8, 9, 10, 11, 12, 13, 14, 15, 16, 17, 18, 19, 20, 52] rfl rfl (by decide) (by decide) (by decide) (fun _ => rfl) (by decide) rfl rfl (Nat.le_of_ble_eq_true rfl) dL_law_570 ⟨hcs.1, hcs.2⟩ (fun _ => ?_)
  show rG p l e room_1 s m args below meth c E A 8 (cells + 1) (slots + 6) Q (dk E aa X1.1 ++ (md E bb X ++ [cJ E oa 1 o1])) 573 [(0, .ref b), (1, .ref (aa 0)), (2, .ref (bb 0)), (3, .ref oa), (4, .int (iI i))] [.int (iI k)]
  refine rg_istore (lv' := [(5, .int (iI k)), (0, .ref b), (1, .ref (aa 0)), (2, .ref (bb 0)), (3, .ref oa), (4, .int (iI i))]) C dL_law_573 (by decide) rfl ?_
  refine rg_aload_n C 3 dL_law_575 rfl rfl ?_
  refine rg_aload_n C 1 dL_law_576 rfl rfl ?_
  refine rg_iload C 5 dL_law_577 rfl ?_
  refine rg_iconst C dL_law_579 ?_
  refine rg_iadd C dL_law_580 ?_
  refine rg_sld C hX (by omega) (by omega) dL_law_581 ?_
  refine rg_aload_n C 1 dL_law_582 rfl rfl ?_
  refine rg_iload C 5 dL_law_583 rfl ?_
  refine rg_iconst C dL_law_585 ?_
  refine rg_iadd C dL_law_586 ?_
  refine rg_sld C hX (by omega) (by omega) dL_law_587 ?_
  refine rg_aload_n C 1 dL_law_588 rfl rfl ?_
  refine rg_iload C 5 dL_law_589 rfl ?_
  refine rg_iconst C dL_law_591 ?_
  refine rg_iadd C dL_law_592 ?_
  refine rg_sld C hX (by omega) (by omega) dL_law_593 ?_
  refine rg_callV (As := [.int (iI (sc (i + 1).toNat)), .int (iI (sc (i + 2).toNat)), .int (iI (sc (i + 3).toNat))]) (rest := []) (wr := dk E aa X1.1 ++ [cJ E oa 1 o1]) (w' := fun _ => (dk E aa X1.1 ++ (md E bb X1 ++ [cJ E oa 1 o1]))) C M2 (rcwV C mX6_release w_750 ⟨Nat.le_of_ble_eq_true rfl, Nat.le_of_ble_eq_true rfl⟩) [31, 32, 33, 34, 35, 36, 37, 38, 39, 40, 41, 42, 43, 44, 45, 46, 47, 48, 49, 50, 51] [0, 1, 2, 3, 4, 5, 6, 7, 8, 9, 10, 11, 12, 13, 14, 15, 16, 17, 18, 19, 20, 21, 22, 23, 24, 25, 26, 27, 28, 29, 30, 52] [0, 1, 2, 3, 4, 5, 6, 7, 8, 9, 10, 11, 12, 13, 14, 15, 16, 17, 18, 19, 20, 21, 22, 23, 24, 25, 26, 27, 28, 29, 30, 32, 33, 34, 35, 36, 37, 38, 39, 40, 41, 42, 43, 44, 45, 46, 47, 48, 49, 50, 51, 52, 31] rfl rfl (by decide) (by decide) (by decide) (fun _ => rfl) (by decide) 0 rfl rfl rfl rfl (Nat.le_of_ble_eq_true rfl) dL_law_594 ⟨hcs.1, hcs.2⟩ (fun _ => ?_)
  show rG p l e room_1 s m args below meth c E A 8 (cells + 1) (slots + 6) Q (dk E aa X1.1 ++ (md E bb X1 ++ [cJ E oa 1 o1])) 597 [(5, .int (iI k)), (0, .ref b), (1, .ref (aa 0)), (2, .ref (bb 0)), (3, .ref oa), (4, .int (iI i))] [.int (iI v)]
  refine rg_istore (lv' := [(6, .int (iI v)), (5, .int (iI k)), (0, .ref b), (1, .ref (aa 0)), (2, .ref (bb 0)), (3, .ref oa), (4, .int (iI i))]) C dL_law_597 (by decide) rfl ?_
  refine rg_aload_n C 4 dL_law_599 rfl rfl ?_
  refine rg_callV (As := []) (rest := []) (wr := dk E aa X1.1 ++ [cJ E oa 1 o1]) (w' := fun _ => (dk E aa X1.1 ++ (md E bb X1 ++ [cJ E oa 1 o1]))) C (thr_md l E bb X1) (rcwV C mX6_thrown w_693 ⟨Nat.le_of_ble_eq_true rfl, Nat.le_of_ble_eq_true rfl⟩) [31, 32, 33, 34, 35, 36, 37, 38, 39, 40, 41, 42, 43, 44, 45, 46, 47, 48, 49, 50, 51] [0, 1, 2, 3, 4, 5, 6, 7, 8, 9, 10, 11, 12, 13, 14, 15, 16, 17, 18, 19, 20, 21, 22, 23, 24, 25, 26, 27, 28, 29, 30, 52] [0, 1, 2, 3, 4, 5, 6, 7, 8, 9, 10, 11, 12, 13, 14, 15, 16, 17, 18, 19, 20, 21, 22, 23, 24, 25, 26, 27, 28, 29, 30, 32, 33, 34, 35, 36, 37, 38, 39, 40, 41, 42, 43, 44, 45, 46, 47, 48, 49, 50, 51, 52, 31] rfl rfl (by decide) (by decide) (by decide) (fun _ => rfl) (by decide) 0 rfl rfl rfl rfl (Nat.le_of_ble_eq_true rfl) dL_law_600 ⟨hcs.1, hcs.2⟩ (fun _ => ?_)
  show rG p l e room_1 s m args below meth c E A 8 (cells + 1) (slots + 6) Q (dk E aa X1.1 ++ (md E bb X1 ++ [cJ E oa 1 o1])) 603 [(6, .int (iI v)), (5, .int (iI k)), (0, .ref b), (1, .ref (aa 0)), (2, .ref (bb 0)), (3, .ref oa), (4, .int (iI i))] [.int (iI (thr X1))]
  refine rg_iload C 1 dL_law_603 rfl ?_
  refine rg_icmp_eqs (tgt := 610) C (by rw [ht]) dL_law_605 (by decide) ?_
  refine rg_iload C 1 dL_law_610 rfl ?_
  refine rg_if_ne (tgt := 627) C hk dL_law_612 (by decide) (fun h_612 => ?_) (fun h_612 => ?_)
  · skip
    refine rg_goto (tgt := 1047) C dL_law_627 (by decide) ?_
    refine rG.plv (lv' := [(0, .ref b), (1, .ref (aa 0)), (2, .ref (bb 0)), (3, .ref oa), (4, .int (iI i))]) [2, 3, 4, 5, 6] rfl ?_
    exact kk X1 o1 hI
  · have e9 := ho h_612
    refine rg_aload_n C 5 dL_law_615 rfl rfl ?_
    refine rg_iconst C dL_law_616 ?_
    refine rg_lald C 52 rfl (by decide) (by decide) (by decide) dL_law_617 ?_
    rw [show o1 (0 : Int).toNat = v from e9]
    refine rg_iload C 0 dL_law_618 rfl ?_
    refine rg_i2l C hv dL_law_620 ?_
    refine rg_lcmp_eqs (tgt := 627) C dL_law_621 dL_law_622 (by decide) ?_
    refine rg_goto (tgt := 1047) C dL_law_627 (by decide) ?_
    refine rG.plv (lv' := [(0, .ref b), (1, .ref (aa 0)), (2, .ref (bb 0)), (3, .ref oa), (4, .int (iI i))]) [2, 3, 4, 5, 6] rfl ?_
    exact kk X1 o1 hI
