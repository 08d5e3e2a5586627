set_option maxHeartbeats 4000000 in
set_option maxRecDepth 100000 in
theorem lc_plan {p : Program} {l : Launch} {e : Env} {s : State} {m : MethodId} {args : Array Value} {below : List Frame} {meth : Method} {c : Code} {E : rE} {A : Nat → Prop} {Q : State → Prop} {Ts : List Cond} {b L cells slots : Nat} {sc : Nat → Int} (hl0 : noTr l) (C : rC p s m args c E A 8 code Ts RL) (hz : xW s) (hA : A = va_A [] s.heap.size) (hX : scr s A b L sc) (aa bb : Nat → Nat) (X : WS) (oa : Nat) (o : Nat → Int) (n i : Int) (h : Inv X n) (hn : 0 ≤ n ∧ n ≤ 512) (hi : 0 ≤ i ∧ i + 7 ≤ (L : Int)) (hcs : cells + 1 ≤ 1083 ∧ slots + 6 ≤ 10391) (kk : ∀ (X1 : WS) (o1 : Nat → Int), Inv X1 (n + 1) → rG p l e room_1 s m args below meth c E A 8 (cells + 1) (slots + 6) Q (dk E aa X1.1 ++ (md E bb X1 ++ [cJ E oa 1 o1])) 1047 [(0, .ref b), (1, .ref (aa 0)), (2, .ref (bb 0)), (3, .ref oa), (4, .int (iI i))] []) : rG p l e room_1 s m args below meth c E A 8 cells slots Q (dk E aa X.1 ++ (md E bb X ++ [cJ E oa 1 o])) 630 [(0, .ref b), (1, .ref (aa 0)), (2, .ref (bb 0)), (3, .ref oa), (4, .int (iI i))] [] := by
  have hP0 : va_P E.1 vwCl [] s.heap := fun k q h => by simp at h
  have hL := hX.2.2.2.1
  have hsc := hX.2.2.2.2
  obtain ⟨X1, v, hI, M1, M2⟩ := cs_plan l hl0 E aa bb X n h hn  
  refine rg_aload_n C 1 dL_law_630 rfl rfl ?_
  refine rg_callV (As := []) (rest := []) (wr := md E bb X ++ [cJ E oa 1 o]) (w' := fun _ => (dk E aa X1.1 ++ (md E bb X ++ [cJ E oa 1 o]))) C M1 (rcwV C mX5_plan w_219 ⟨Nat.le_of_ble_eq_true rfl, Nat.le_of_ble_eq_true rfl⟩) [0, 1, 2, 3, 4, 5, 6, 7, 8, 9, 10, 11, 12, 13, 14, 15, 16, 17, 18, 19, 20, 21, 22, 23, 24, 25, 26, 27, 28, 29, 30] [31, 32, 33, 34, 35, 36, 37, 38, 39, 40, 41, 42, 43, 44, 45, 46, 47, 48, 49, 50, 51, 52] [22, 23, 24, 25, 26, 27, 28, 29, 30, 31, 32, 33, 34, 35, 36, 37, 38, 39, 40, 41, 42, 43, 44, 45, 46, 47, 48, 49, 50, 51, 52, 0, 1, 2, 3, 4, 5, 6, 7, 8, 9, 10, 11, 12, 13, 14, 15, 16, 17, 18, 19, 20, 21] rfl rfl (by decide) (by decide) (by decide) (fun _ => rfl) (by decide) 0 rfl rfl rfl rfl (Nat.le_of_ble_eq_true rfl) dL_law_631 ⟨Nat.le_of_succ_le hcs.1, Nat.le_trans (Nat.le_add_right _ 6) hcs.2⟩ (fun _ => ?_)
  show rG p l e room_1 s m args below meth c E A 8 cells slots Q (dk E aa X1.1 ++ (md E bb X ++ [cJ E oa 1 o])) 634 [(0, .ref b), (1, .ref (aa 0)), (2, .ref (bb 0)), (3, .ref oa), (4, .int (iI i))] [.int (iI v)]
  refine rg_aload_n C 2 dL_law_634 rfl rfl ?_
  refine rg_callV (As := []) (rest := [.int (iI v)]) (wr := dk E aa X1.1 ++ [cJ E oa 1 o]) (w' := fun _ => (dk E aa X1.1 ++ (md E bb X1 ++ [cJ E oa 1 o]))) C M2 (rcwV C mX6_plan w_754 ⟨Nat.le_of_ble_eq_true rfl, Nat.le_of_ble_eq_true rfl⟩) [31, 32, 33, 34, 35, 36, 37, 38, 39, 40, 41, 42, 43, 44, 45, 46, 47, 48, 49, 50, 51] [0, 1, 2, 3, 4, 5, 6, 7, 8, 9, 10, 11, 12, 13, 14, 15, 16, 17, 18, 19, 20, 21, 22, 23, 24, 25, 26, 27, 28, 29, 30, 52] [0, 1, 2, 3, 4, 5, 6, 7, 8, 9, 10, 11, 12, 13, 14, 15, 16, 17, 18, 19, 20, 21, 22, 23, 24, 25, 26, 27, 28, 29, 30, 32, 33, 34, 35, 36, 37, 38, 39, 40, 41, 42, 43, 44, 45, 46, 47, 48, 49, 50, 51, 52, 31] rfl rfl (by decide) (by decide) (by decide) (fun _ => rfl) (by decide) 0 rfl rfl rfl rfl (Nat.le_of_ble_eq_true rfl) dL_law_635 ⟨Nat.le_of_succ_le hcs.1, Nat.le_trans (Nat.le_add_right _ 6) hcs.2⟩ (fun _ => ?_)
  show rG p l e room_1 s m args below meth c E A 8 cells slots Q (dk E aa X1.1 ++ (md E bb X1 ++ [cJ E oa 1 o])) 638 [(0, .ref b), (1, .ref (aa 0)), (2, .ref (bb 0)), (3, .ref oa), (4, .int (iI i))] [.int (iI v), .int (iI v)]
  refine rg_icmp_eqs (tgt := 1047) C rfl dL_law_638 (by decide) ?_
  refine rG.wide (k := cells + 1) (n := slots + 6) (Nat.le_succ _) (Nat.le_add_right _ _) ?_
  refine rG.plv (lv' := [(0, .ref b), (1, .ref (aa 0)), (2, .ref (bb 0)), (3, .ref oa), (4, .int (iI i))]) [0, 1, 2, 3, 4] rfl ?_
  exact kk X1 o hI
set_option maxHeartbeats 4000000 in
set_option maxRecDepth 100000 in
theorem lc_given {p : Program} {l : Launch} {e : Env} {s : State} {m : MethodId} {args : Array Value} {below : List Frame} {meth : Method} {c : Code} {E : rE} {A : Nat → Prop} {Q : State → Prop} {Ts : List Cond} {b L cells slots : Nat} {sc : Nat → Int} (hl0 : noTr l) (C : rC p s m args c E A 8 code Ts RL) (hz : xW s) (hA : A = va_A [] s.heap.size) (hX : scr s A b L sc) (aa bb : Nat → Nat) (X : WS) (oa : Nat) (o : Nat → Int) (n i : Int) (h : Inv X n) (hn : 0 ≤ n ∧ n ≤ 512) (hi : 0 ≤ i ∧ i + 7 ≤ (L : Int)) (hcs : cells + 1 ≤ 1083 ∧ slots + 6 ≤ 10391) (kk : ∀ (X1 : WS) (o1 : Nat → Int), Inv X1 (n + 1) → rG p l e room_1 s m args below meth c E A 8 (cells + 1) (slots + 6) Q (dk E aa X1.1 ++ (md E bb X1 ++ [cJ E oa 1 o1])) 1047 [(0, .ref b), (1, .ref (aa 0)), (2, .ref (bb 0)), (3, .ref oa), (4, .int (iI i))] []) : rG p l e room_1 s m args below meth c E A 8 cells slots Q (dk E aa X.1 ++ (md E bb X ++ [cJ E oa 1 o])) 643 [(0, .ref b), (1, .ref (aa 0)), (2, .ref (bb 0)), (3, .ref oa), (4, .int (iI i))] [] := by
  have hP0 : va_P E.1 vwCl [] s.heap := fun k q h => by simp at h
  have hL := hX.2.2.2.1
  have hsc := hX.2.2.2.2
  obtain ⟨X1, k, v, o1, hk, hv, ho, hI, ht, M1, M2⟩ := cs_given l hl0 E aa bb X n h hn oa o (sc (i + 1).toNat) (hsc _)
  refine rg_aload_n C 1 dL_law_643 rfl rfl ?_
  refine rg_aload_n C 0 dL_law_644 rfl rfl ?_
  refine rg_iload C 4 dL_law_645 rfl ?_
  refine rg_iconst C dL_law_647 ?_
  refine rg_iadd C dL_law_648 ?_
  refine rg_sld C hX (by omega) (by omega) dL_law_649 ?_
  refine rg_aload_n C 3 dL_law_650 rfl rfl ?_
  refine rg_callSW (n := 3) (As := [.ref (aa 0), .int (iI (sc (i + 1).toNat)), .ref oa]) (rest := []) (wr := (md E bb X)) (w' := fun _ => (dk E aa X1.1 ++ (md E bb X ++ [cJ E oa 1 o1]))) (cin := []) C M1 hz hP0 hA rfl w_582 w_583 w_19 w_584 (by decide +kernel) ⟨Nat.le_of_ble_eq_true rfl, Nat.le_of_ble_eq_true rfl⟩ [0, 1, 2, 3, 4, 5, 6, 7, 8, 9, 10, 11, 12, 13, 14, 15, 16, 17, 18, 19, 20, 21, 22, 23, 24, 25, 26, 27, 28, 29, 30, 52] [31, 32, 33, 34, 35, 36, 37, 38, 39, 40, 41, 42, 43, 44, 45, 46, 47, 48, 49, 50, 51] [21, 22, 23, 24, 25, 26, 27, 28, 29, 30, 31, 32, 33, 34, 35, 36, 37, 38, 39, 40, 41, 42, 43, 44, 45, 46, 47, 48, 49, 50, 51, 0, 1, 2, 3, 4, 5, 6, 7, 8, 9, 10, 11, 12, 13, 14, 15, 16, 17, 18, 19, 20, 52] rfl rfl (by decide) (by decide) (by decide) (fun _ => rfl) (by decide) rfl rfl (Nat.le_of_ble_eq_true rfl) dL_law_651 ⟨hcs.1, hcs.2⟩ (fun _ => ?_)
  show rG p l e room_1 s m args below meth c E A 8 (cells + 1) (slots + 6) Q (dk E aa X1.1 ++ (md E bb X ++ [cJ E oa 1 o1])) 654 [(0, .ref b), (1, .ref (aa 0)), (2, .ref (bb 0)), (3, .ref oa), (4, .int (iI i))] [.int (iI k)]
  refine rg_istore (lv' := [(5, .int (iI k)), (0, .ref b), (1, .ref (aa 0)), (2, .ref (bb 0)), (3, .ref oa), (4, .int (iI i))]) C dL_law_654 (by decide) rfl ?_
  refine rg_aload_n C 3 dL_law_656 rfl rfl ?_
  refine rg_aload_n C 1 dL_law_657 rfl rfl ?_
  refine rg_iload C 5 dL_law_658 rfl ?_
  refine rg_iconst C dL_law_660 ?_
  refine rg_iadd C dL_law_661 ?_
  refine rg_sld C hX (by omega) (by omega) dL_law_662 ?_
  refine rg_callV (As := [.int (iI (sc (i + 1).toNat))]) (rest := []) (wr := dk E aa X1.1 ++ [cJ E oa 1 o1]) (w' := fun _ => (dk E aa X1.1 ++ (md E bb X1 ++ [cJ E oa 1 o1]))) C M2 (rcwV C mX6_given w_783 ⟨Nat.le_of_ble_eq_true rfl, Nat.le_of_ble_eq_true rfl⟩) [31, 32, 33, 34, 35, 36, 37, 38, 39, 40, 41, 42, 43, 44, 45, 46, 47, 48, 49, 50, 51] [0, 1, 2, 3, 4, 5, 6, 7, 8, 9, 10, 11, 12, 13, 14, 15, 16, 17, 18, 19, 20, 21, 22, 23, 24, 25, 26, 27, 28, 29, 30, 52] [0, 1, 2, 3, 4, 5, 6, 7, 8, 9, 10, 11, 12, 13, 14, 15, 16, 17, 18, 19, 20, 21, 22, 23, 24, 25, 26, 27, 28, 29, 30, 32, 33, 34, 35, 36, 37, 38, 39, 40, 41, 42, 43, 44, 45, 46, 47, 48, 49, 50, 51, 52, 31] rfl rfl (by decide) (by decide) (by decide) (fun _ => rfl) (by decide) 0 rfl rfl rfl rfl (Nat.le_of_ble_eq_true rfl) dL_law_663 ⟨hcs.1, hcs.2⟩ (fun _ => ?_)
  show rG p l e room_1 s m args below meth c E A 8 (cells + 1) (slots + 6) Q (dk E aa X1.1 ++ (md E bb X1 ++ [cJ E oa 1 o1])) 666 [(5, .int (iI k)), (0, .ref b), (1, .ref (aa 0)), (2, .ref (bb 0)), (3, .ref oa), (4, .int (iI i))] [.int (iI v)]
  refine rg_istore (lv' := [(6, .int (iI v)), (5, .int (iI k)), (0, .ref b), (1, .ref (aa 0)), (2, .ref (bb 0)), (3, .ref oa), (4, .int (iI i))]) C dL_law_666 (by decide) rfl ?_
  refine rg_aload_n C 4 dL_law_668 rfl rfl ?_
  refine rg_callV (As := []) (rest := []) (wr := dk E aa X1.1 ++ [cJ E oa 1 o1]) (w' := fun _ => (dk E aa X1.1 ++ (md E bb X1 ++ [cJ E oa 1 o1]))) C (thr_md l E bb X1) (rcwV C mX6_thrown w_693 ⟨Nat.le_of_ble_eq_true rfl, Nat.le_of_ble_eq_true rfl⟩) [31, 32, 33, 34, 35, 36, 37, 38, 39, 40, 41, 42, 43, 44, 45, 46, 47, 48, 49, 50, 51] [0, 1, 2, 3, 4, 5, 6, 7, 8, 9, 10, 11, 12, 13, 14, 15, 16, 17, 18, 19, 20, 21, 22, 23, 24, 25, 26, 27, 28, 29, 30, 52] [0, 1, 2, 3, 4, 5, 6, 7, 8, 9, 10, 11, 12, 13, 14, 15, 16, 17, 18, 19, 20, 21, 22, 23, 24, 25, 26, 27, 28, 29, 30, 32, 33, 34, 35, 36, 37, 38, 39, 40, 41, 42, 43, 44, 45, 46, 47, 48, 49, 50, 51, 52, 31] rfl rfl (by decide) (by decide) (by decide) (fun _ => rfl) (by decide) 0 rfl rfl rfl rfl (Nat.le_of_ble_eq_true rfl) dL_law_669 ⟨hcs.1, hcs.2⟩ (fun _ => ?_)
  show rG p l e room_1 s m args below meth c E A 8 (cells + 1) (slots + 6) Q (dk E aa X1.1 ++ (md E bb X1 ++ [cJ E oa 1 o1])) 672 [(6, .int (iI v)), (5, .int (iI k)), (0, .ref b), (1, .ref (aa 0)), (2, .ref (bb 0)), (3, .ref oa), (4, .int (iI i))] [.int (iI (thr X1))]
  refine rg_iload C 1 dL_law_672 rfl ?_
  refine rg_icmp_eqs (tgt := 679) C (by rw [ht]) dL_law_674 (by decide) ?_
  refine rg_iload C 1 dL_law_679 rfl ?_
  refine rg_if_ne (tgt := 696) C hk dL_law_681 (by decide) (fun h_681 => ?_) (fun h_681 => ?_)
  · skip
    refine rg_goto (tgt := 1047) C dL_law_696 (by decide) ?_
    refine rG.plv (lv' := [(0, .ref b), (1, .ref (aa 0)), (2, .ref (bb 0)), (3, .ref oa), (4, .int (iI i))]) [2, 3, 4, 5, 6] rfl ?_
    exact kk X1 o1 hI
  · have e9 := ho h_681
    refine rg_aload_n C 5 dL_law_684 rfl rfl ?_
    refine rg_iconst C dL_law_685 ?_
    refine rg_lald C 52 rfl (by decide) (by decide) (by decide) dL_law_686 ?_
    rw [show o1 (0 : Int).toNat = v from e9]
    refine rg_iload C 0 dL_law_687 rfl ?_
    refine rg_i2l C hv dL_law_689 ?_
    refine rg_lcmp_eqs (tgt := 696) C dL_law_690 dL_law_691 (by decide) ?_
    refine rg_goto (tgt := 1047) C dL_law_696 (by decide) ?_
    refine rG.plv (lv' := [(0, .ref b), (1, .ref (aa 0)), (2, .ref (bb 0)), (3, .ref oa), (4, .int (iI i))]) [2, 3, 4, 5, 6] rfl ?_
    exact kk X1 o1 hI
set_option maxHeartbeats 4000000 in
set_option maxRecDepth 100000 in
theorem lc_flow {p : Program} {l : Launch} {e : Env} {s : State} {m : MethodId} {args : Array Value} {below : List Frame} {meth : Method} {c : Code} {E : rE} {A : Nat → Prop} {Q : State → Prop} {Ts : List Cond} {b L cells slots : Nat} {sc : Nat → Int} (hl0 : noTr l) (C : rC p s m args c E A 8 code Ts RL) (hz : xW s) (hA : A = va_A [] s.heap.size) (hX : scr s A b L sc) (aa bb : Nat → Nat) (X : WS) (oa : Nat) (o : Nat → Int) (n i : Int) (h : Inv X n) (hn : 0 ≤ n ∧ n ≤ 512) (hi : 0 ≤ i ∧ i + 7 ≤ (L : Int)) (hcs : cells + 1 ≤ 1083 ∧ slots + 6 ≤ 10391) (kk : ∀ (X1 : WS) (o1 : Nat → Int), Inv X1 (n + 1) → rG p l e room_1 s m args below meth c E A 8 (cells + 1) (slots + 6) Q (dk E aa X1.1 ++ (md E bb X1 ++ [cJ E oa 1 o1])) 1047 [(0, .ref b), (1, .ref (aa 0)), (2, .ref (bb 0)), (3, .ref oa), (4, .int (iI i))] []) : rG p l e room_1 s m args below meth c E A 8 cells slots Q (dk E aa X.1 ++ (md E bb X ++ [cJ E oa 1 o])) 699 [(0, .ref b), (1, .ref (aa 0)), (2, .ref (bb 0)), (3, .ref oa), (4, .int (iI i))] [] := by
  have hP0 : va_P E.1 vwCl [] s.heap := fun k q h => by simp at h
  have hL := hX.2.2.2.1
  have hsc := hX.2.2.2.2
  obtain ⟨X1, k, v, o1, hk, ho, hI, ht, M1, M2⟩ := cs_flow l hl0 E aa bb X n h hn oa o (sc (i + 1).toNat) (sc (i + 2).toNat) (hsc _) (hsc _)
  refine rg_aload_n C 1 dL_law_699 rfl rfl ?_
  refine rg_aload_n C 0 dL_law_700 rfl rfl ?_
  refine rg_iload C 4 dL_law_701 rfl ?_
  refine rg_iconst C dL_law_703 ?_
  refine rg_iadd C dL_law_704 ?_
  refine rg_sld C hX (by omega) (by omega) dL_law_705 ?_
  refine rg_aload_n C 0 dL_law_706 rfl rfl ?_
  refine rg_iload C 4 dL_law_707 rfl ?_
  refine rg_iconst C dL_law_709 ?_
  refine rg_iadd C dL_law_710 ?_
  refine rg_sld C hX (by omega) (by omega) dL_law_711 ?_
  refine rg_aload_n C 3 dL_law_712 rfl rfl ?_
  refine rg_callSW (n := 4) (As := [.ref (aa 0), .int (iI (sc (i + 1).toNat)), .int (iI (sc (i + 2).toNat)), .ref oa]) (rest := []) (wr := (md E bb X)) (w' := fun _ => (dk E aa X1.1 ++ (md E bb X ++ [cJ E oa 1 o1]))) (cin := []) C M1 hz hP0 hA rfl w_589 w_590 w_19 w_591 (by decide +kernel) ⟨Nat.le_of_ble_eq_true rfl, Nat.le_of_ble_eq_true rfl⟩ [0, 1, 2, 3, 4, 5, 6, 7, 8, 9, 10, 11, 12, 13, 14, 15, 16, 17, 18, 19, 20, 21, 22, 23, 24, 25, 26, 27, 28, 29, 30, 52] [31, 32, 33, 34, 35, 36, 37, 38, 39, 40, 41, 42, 43, 44, 45, 46, 47, 48, 49, 50, 51] [21, 22, 23, 24, 25, 26, 27, 28, 29, 30, 31, 32, 33, 34, 35, 36, 37, 38, 39, 40, 41, 42, 43, 44, 45, 46, 47, 48, 49, 50, 51, 0, 1, 2, 3, 4, 5, 6, 7, 8, 9, 10, 11, 12, 13, 14, 15, 16, 17, 18, 19, 20, 52] rfl rfl (by decide) (by decide) (by decide) (fun _ => rfl) (by decide) rfl rfl (Nat.le_of_ble_eq_true rfl) dL_law_713 ⟨hcs.1, hcs.2⟩ (fun _ => ?_)
  show rG p l e room_1 s m args below meth c E A 8 (cells + 1) (slots + 6) Q (dk E aa X1.1 ++ (md E bb X ++ [cJ E oa 1 o1])) 716 [(0, .ref b), (1, .ref (aa 0)), (2, .ref (bb 0)), (3, .ref oa), (4, .int (iI i))] [.int (iI k)]
  refine rg_istore (lv' := [(5, .int (iI k)), (0, .ref b), (1, .ref (aa 0)), (2, .ref (bb 0)), (3, .ref oa), (4, .int (iI i))]) C dL_law_716 (by decide) rfl ?_
  refine rg_aload_n C 3 dL_law_718 rfl rfl ?_
  refine rg_aload_n C 1 dL_law_719 rfl rfl ?_
  refine rg_iload C 5 dL_law_720 rfl ?_
  refine rg_iconst C dL_law_722 ?_
  refine rg_iadd C dL_law_723 ?_
  refine rg_sld C hX (by omega) (by omega) dL_law_724 ?_
  refine rg_aload_n C 1 dL_law_725 rfl rfl ?_
  refine rg_iload C 5 dL_law_726 rfl ?_
  refine rg_iconst C dL_law_728 ?_
  refine rg_iadd C dL_law_729 ?_
  refine rg_sld C hX (by omega) (by omega) dL_law_730 ?_
  refine rg_callV (As := [.int (iI (sc (i + 1).toNat)), .int (iI (sc (i + 2).toNat))]) (rest := []) (wr := dk E aa X1.1 ++ [cJ E oa 1 o1]) (w' := fun _ => (dk E aa X1.1 ++ (md E bb X1 ++ [cJ E oa 1 o1]))) C M2 (rcwV C mX6_flow w_787 ⟨Nat.le_of_ble_eq_true rfl, Nat.le_of_ble_eq_true rfl⟩) [31, 32, 33, 34, 35, 36, 37, 38, 39, 40, 41, 42, 43, 44, 45, 46, 47, 48, 49, 50, 51] [0, 1, 2, 3, 4, 5, 6, 7, 8, 9, 10, 11, 12, 13, 14, 15, 16, 17, 18, 19, 20, 21, 22, 23, 24, 25, 26, 27, 28, 29, 30, 52] [0, 1, 2, 3, 4, 5, 6, 7, 8, 9, 10, 11, 12, 13, 14, 15, 16, 17, 18, 19, 20, 21, 22, 23, 24, 25, 26, 27, 28, 29, 30, 32, 33, 34, 35, 36, 37, 38, 39, 40, 41, 42, 43, 44, 45, 46, 47, 48, 49, 50, 51, 52, 31] rfl rfl (by decide) (by decide) (by decide) (fun _ => rfl) (by decide) 0 rfl rfl rfl rfl (Nat.le_of_ble_eq_true rfl) dL_law_731 ⟨hcs.1, hcs.2⟩ (fun _ => ?_)
  show rG p l e room_1 s m args below meth c E A 8 (cells + 1) (slots + 6) Q (dk E aa X1.1 ++ (md E bb X1 ++ [cJ E oa 1 o1])) 734 [(5, .int (iI k)), (0, .ref b), (1, .ref (aa 0)), (2, .ref (bb 0)), (3, .ref oa), (4, .int (iI i))] [.long (lI v)]
  refine rg_lstore (lv' := [(6, .long (lI v)), (5, .int (iI k)), (0, .ref b), (1, .ref (aa 0)), (2, .ref (bb 0)), (3, .ref oa), (4, .int (iI i))]) C dL_law_734 (by decide) rfl ?_
  refine rg_aload_n C 4 dL_law_736 rfl rfl ?_
  refine rg_callV (As := []) (rest := []) (wr := dk E aa X1.1 ++ [cJ E oa 1 o1]) (w' := fun _ => (dk E aa X1.1 ++ (md E bb X1 ++ [cJ E oa 1 o1]))) C (thr_md l E bb X1) (rcwV C mX6_thrown w_693 ⟨Nat.le_of_ble_eq_true rfl, Nat.le_of_ble_eq_true rfl⟩) [31, 32, 33, 34, 35, 36, 37, 38, 39, 40, 41, 42, 43, 44, 45, 46, 47, 48, 49, 50, 51] [0, 1, 2, 3, 4, 5, 6, 7, 8, 9, 10, 11, 12, 13, 14, 15, 16, 17, 18, 19, 20, 21, 22, 23, 24, 25, 26, 27, 28, 29, 30, 52] [0, 1, 2, 3, 4, 5, 6, 7, 8, 9, 10, 11, 12, 13, 14, 15, 16, 17, 18, 19, 20, 21, 22, 23, 24, 25, 26, 27, 28, 29, 30, 32, 33, 34, 35, 36, 37, 38, 39, 40, 41, 42, 43, 44, 45, 46, 47, 48, 49, 50, 51, 52, 31] rfl rfl (by decide) (by decide) (by decide) (fun _ => rfl) (by decide) 0 rfl rfl rfl rfl (Nat.le_of_ble_eq_true rfl) dL_law_737 ⟨hcs.1, hcs.2⟩ (fun _ => ?_)
  show rG p l e room_1 s m args below meth c E A 8 (cells + 1) (slots + 6) Q (dk E aa X1.1 ++ (md E bb X1 ++ [cJ E oa 1 o1])) 740 [(6, .long (lI v)), (5, .int (iI k)), (0, .ref b), (1, .ref (aa 0)), (2, .ref (bb 0)), (3, .ref oa), (4, .int (iI i))] [.int (iI (thr X1))]
  refine rg_iload C 1 dL_law_740 rfl ?_
  refine rg_icmp_eqs (tgt := 747) C (by rw [ht]) dL_law_742 (by decide) ?_
  refine rg_iload C 1 dL_law_747 rfl ?_
  refine rg_if_ne (tgt := 763) C hk dL_law_749 (by decide) (fun h_749 => ?_) (fun h_749 => ?_)
  · skip
    refine rg_goto (tgt := 1047) C dL_law_763 (by decide) ?_
    refine rG.plv (lv' := [(0, .ref b), (1, .ref (aa 0)), (2, .ref (bb 0)), (3, .ref oa), (4, .int (iI i))]) [2, 3, 4, 5, 6] rfl ?_
    exact kk X1 o1 hI
  · have e9 := ho h_749
    refine rg_aload_n C 5 dL_law_752 rfl rfl ?_
    refine rg_iconst C dL_law_753 ?_
    refine rg_lald C 52 rfl (by decide) (by decide) (by decide) dL_law_754 ?_
    rw [show o1 (0 : Int).toNat = v from e9]
    refine rg_lload C 0 dL_law_755 rfl ?_
    refine rg_lcmp_eqs (tgt := 763) C dL_law_757 dL_law_758 (by decide) ?_
    refine rg_goto (tgt := 1047) C dL_law_763 (by decide) ?_
    refine rG.plv (lv' := [(0, .ref b), (1, .ref (aa 0)), (2, .ref (bb 0)), (3, .ref oa), (4, .int (iI i))]) [2, 3, 4, 5, 6] rfl ?_
    exact kk X1 o1 hI
set_option maxHeartbeats 4000000 in
set_option maxRecDepth 100000 in
theorem lc_call {p : Program} {l : Launch} {e : Env} {s : State} {m : MethodId} {args : Array Value} {below : List Frame} {meth : Method} {c : Code} {E : rE} {A : Nat → Prop} {Q : State → Prop} {Ts : List Cond} {b L cells slots : Nat} {sc : Nat → Int} (hl0 : noTr l) (C : rC p s m args c E A 8 code Ts RL) (hz : xW s) (hA : A = va_A [] s.heap.size) (hX : scr s A b L sc) (aa bb : Nat → Nat) (X : WS) (oa : Nat) (o : Nat → Int) (n i : Int) (h : Inv X n) (hn : 0 ≤ n ∧ n ≤ 512) (hi : 0 ≤ i ∧ i + 7 ≤ (L : Int)) (hcs : cells + 1 ≤ 1083 ∧ slots + 6 ≤ 10391) (kk : ∀ (X1 : WS) (o1 : Nat → Int), Inv X1 (n + 1) → rG p l e room_1 s m args below meth c E A 8 (cells + 1) (slots + 6) Q (dk E aa X1.1 ++ (md E bb X1 ++ [cJ E oa 1 o1])) 1047 [(0, .ref b), (1, .ref (aa 0)), (2, .ref (bb 0)), (3, .ref oa), (4, .int (iI i))] []) : rG p l e room_1 s m args below meth c E A 8 cells slots Q (dk E aa X.1 ++ (md E bb X ++ [cJ E oa 1 o])) 766 [(0, .ref b), (1, .ref (aa 0)), (2, .ref (bb 0)), (3, .ref oa), (4, .int (iI i))] [] := by
  have hP0 : va_P E.1 vwCl [] s.heap := fun k q h => by simp at h
  have hL := hX.2.2.2.1
  have hsc := hX.2.2.2.2
  obtain ⟨X1, k, v, o1, hk, hv, ho, hI, ht, M1, M2⟩ := cs_call l hl0 E aa bb X n h hn oa o (sc (i + 1).toNat) (hsc _)
  refine rg_aload_n C 1 dL_law_766 rfl rfl ?_
  refine rg_aload_n C 0 dL_law_767 rfl rfl ?_
  refine rg_iload C 4 dL_law_768 rfl ?_
  refine rg_iconst C dL_law_770 ?_
  refine rg_iadd C dL_law_771 ?_
  refine rg_sld C hX (by omega) (by omega) dL_law_772 ?_
  refine rg_aload_n C 3 dL_law_773 rfl rfl ?_
  refine rg_callSW (n := 3) (As := [.ref (aa 0), .int (iI (sc (i + 1).toNat)), .ref oa]) (rest := []) (wr := (md E bb X)) (w' := fun _ => (dk E aa X1.1 ++ (md E bb X ++ [cJ E oa 1 o1]))) (cin := []) C M1 hz hP0 hA rfl w_597 w_598 w_19 w_599 (by decide +kernel) ⟨Nat.le_of_ble_eq_true rfl, Nat.le_of_ble_eq_true rfl⟩ [0, 1, 2, 3, 4, 5, 6, 7, 8, 9, 10, 11, 12, 13, 14, 15, 16, 17, 18, 19, 20, 21, 22, 23, 24, 25, 26, 27, 28, 29, 30, 52] [31, 32, 33, 34, 35, 36, 37, 38, 39, 40, 41, 42, 43, 44, 45, 46, 47, 48, 49, 50, 51] [21, 22, 23, 24, 25, 26, 27, 28, 29, 30, 31, 32, 33, 34, 35, 36, 37, 38, 39, 40, 41, 42, 43, 44, 45, 46, 47, 48, 49, 50, 51, 0, 1, 2, 3, 4, 5, 6, 7, 8, 9, 10, 11, 12, 13, 14, 15, 16, 17, 18, 19, 20, 52] rfl rfl (by decide) (by decide) (by decide) (fun _ => rfl) (by decide) rfl rfl (Nat.le_of_ble_eq_true rfl) dL_law_774 ⟨hcs.1, hcs.2⟩ (fun _ => ?_)
  show rG p l e room_1 s m args below meth c E A 8 (cells + 1) (slots + 6) Q (dk E aa X1.1 ++ (md E bb X ++ [cJ E oa 1 o1])) 777 [(0, .ref b), (1, .ref (aa 0)), (2, .ref (bb 0)), (3, .ref oa), (4, .int (iI i))] [.int (iI k)]
  refine rg_istore (lv' := [(5, .int (iI k)), (0, .ref b), (1, .ref (aa 0)), (2, .ref (bb 0)), (3, .ref oa), (4, .int (iI i))]) C dL_law_777 (by decide) rfl ?_
  refine rg_aload_n C 3 dL_law_779 rfl rfl ?_
  refine rg_aload_n C 1 dL_law_780 rfl rfl ?_
  refine rg_iload C 5 dL_law_781 rfl ?_
  refine rg_iconst C dL_law_783 ?_
  refine rg_iadd C dL_law_784 ?_
  refine rg_sld C hX (by omega) (by omega) dL_law_785 ?_
  refine rg_callV (As := [.int (iI (sc (i + 1).toNat))]) (rest := []) (wr := dk E aa X1.1 ++ [cJ E oa 1 o1]) (w' := fun _ => (dk E aa X1.1 ++ (md E bb X1 ++ [cJ E oa 1 o1]))) C M2 (rcwV C mX6_call w_792 ⟨Nat.le_of_ble_eq_true rfl, Nat.le_of_ble_eq_true rfl⟩) [31, 32, 33, 34, 35, 36, 37, 38, 39, 40, 41, 42, 43, 44, 45, 46, 47, 48, 49, 50, 51] [0, 1, 2, 3, 4, 5, 6, 7, 8, 9, 10, 11, 12, 13, 14, 15, 16, 17, 18, 19, 20, 21, 22, 23, 24, 25, 26, 27, 28, 29, 30, 52] [0, 1, 2, 3, 4, 5, 6, 7, 8, 9, 10, 11, 12, 13, 14, 15, 16, 17, 18, 19, 20, 21, 22, 23, 24, 25, 26, 27, 28, 29, 30, 32, 33, 34, 35, 36, 37, 38, 39, 40, 41, 42, 43, 44, 45, 46, 47, 48, 49, 50, 51, 52, 31] rfl rfl (by decide) (by decide) (by decide) (fun _ => rfl) (by decide) 0 rfl rfl rfl rfl (Nat.le_of_ble_eq_true rfl) dL_law_786 ⟨hcs.1, hcs.2⟩ (fun _ => ?_)
  show rG p l e room_1 s m args below meth c E A 8 (cells + 1) (slots + 6) Q (dk E aa X1.1 ++ (md E bb X1 ++ [cJ E oa 1 o1])) 789 [(5, .int (iI k)), (0, .ref b), (1, .ref (aa 0)), (2, .ref (bb 0)), (3, .ref oa), (4, .int (iI i))] [.int (iI v)]
  refine rg_istore (lv' := [(6, .int (iI v)), (5, .int (iI k)), (0, .ref b), (1, .ref (aa 0)), (2, .ref (bb 0)), (3, .ref oa), (4, .int (iI i))]) C dL_law_789 (by decide) rfl ?_
  refine rg_aload_n C 4 dL_law_791 rfl rfl ?_
  refine rg_callV (As := []) (rest := []) (wr := dk E aa X1.1 ++ [cJ E oa 1 o1]) (w' := fun _ => (dk E aa X1.1 ++ (md E bb X1 ++ [cJ E oa 1 o1]))) C (thr_md l E bb X1) (rcwV C mX6_thrown w_693 ⟨Nat.le_of_ble_eq_true rfl, Nat.le_of_ble_eq_true rfl⟩) [31, 32, 33, 34, 35, 36, 37, 38, 39, 40, 41, 42, 43, 44, 45, 46, 47, 48, 49, 50, 51] [0, 1, 2, 3, 4, 5, 6, 7, 8, 9, 10, 11, 12, 13, 14, 15, 16, 17, 18, 19, 20, 21, 22, 23, 24, 25, 26, 27, 28, 29, 30, 52] [0, 1, 2, 3, 4, 5, 6, 7, 8, 9, 10, 11, 12, 13, 14, 15, 16, 17, 18, 19, 20, 21, 22, 23, 24, 25, 26, 27, 28, 29, 30, 32, 33, 34, 35, 36, 37, 38, 39, 40, 41, 42, 43, 44, 45, 46, 47, 48, 49, 50, 51, 52, 31] rfl rfl (by decide) (by decide) (by decide) (fun _ => rfl) (by decide) 0 rfl rfl rfl rfl (Nat.le_of_ble_eq_true rfl) dL_law_792 ⟨hcs.1, hcs.2⟩ (fun _ => ?_)
  show rG p l e room_1 s m args below meth c E A 8 (cells + 1) (slots + 6) Q (dk E aa X1.1 ++ (md E bb X1 ++ [cJ E oa 1 o1])) 795 [(6, .int (iI v)), (5, .int (iI k)), (0, .ref b), (1, .ref (aa 0)), (2, .ref (bb 0)), (3, .ref oa), (4, .int (iI i))] [.int (iI (thr X1))]
  refine rg_iload C 1 dL_law_795 rfl ?_
  refine rg_icmp_eqs (tgt := 802) C (by rw [ht]) dL_law_797 (by decide) ?_
  refine rg_iload C 1 dL_law_802 rfl ?_
  refine rg_if_ne (tgt := 819) C hk dL_law_804 (by decide) (fun h_804 => ?_) (fun h_804 => ?_)
  · skip
    refine rg_goto (tgt := 1047) C dL_law_819 (by decide) ?_
    refine rG.plv (lv' := [(0, .ref b), (1, .ref (aa 0)), (2, .ref (bb 0)), (3, .ref oa), (4, .int (iI i))]) [2, 3, 4, 5, 6] rfl ?_
    exact kk X1 o1 hI
  · have e9 := ho h_804
    refine rg_aload_n C 5 dL_law_807 rfl rfl ?_
    refine rg_iconst C dL_law_808 ?_
    refine rg_lald C 52 rfl (by decide) (by decide) (by decide) dL_law_809 ?_
    rw [show o1 (0 : Int).toNat = v from e9]
    refine rg_iload C 0 dL_law_810 rfl ?_
    refine rg_i2l C hv dL_law_812 ?_
    refine rg_lcmp_eqs (tgt := 819) C dL_law_813 dL_law_814 (by decide) ?_
    refine rg_goto (tgt := 1047) C dL_law_819 (by decide) ?_
    refine rG.plv (lv' := [(0, .ref b), (1, .ref (aa 0)), (2, .ref (bb 0)), (3, .ref oa), (4, .int (iI i))]) [2, 3, 4, 5, 6] rfl ?_
    exact kk X1 o1 hI
