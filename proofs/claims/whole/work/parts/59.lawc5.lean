set_option maxHeartbeats 4000000 in
set_option maxRecDepth 100000 in
theorem lc_book {p : Program} {l : Launch} {e : Env} {s : State} {m : MethodId} {args : Array Value} {below : List Frame} {meth : Method} {c : Code} {E : rE} {A : Nat → Prop} {Q : State → Prop} {Ts : List Cond} {b L cells slots : Nat} {sc : Nat → Int} (hl0 : noTr l) (C : rC p s m args c E A 8 code Ts RL) (hz : xW s) (hA : A = va_A [] s.heap.size) (hX : scr s A b L sc) (aa bb : Nat → Nat) (X : WS) (oa : Nat) (o : Nat → Int) (n i : Int) (h : Inv X n) (hn : 0 ≤ n ∧ n ≤ 512) (hi : 0 ≤ i ∧ i + 7 ≤ (L : Int)) (hcs : cells + 1 ≤ 1083 ∧ slots + 6 ≤ 10391) (kk : ∀ (X1 : WS) (o1 : Nat → Int), Inv X1 (n + 1) → rG p l e room_1 s m args below meth c E A 8 (cells + 1) (slots + 6) Q (dk E aa X1.1 ++ (md E bb X1 ++ [cJ E oa 1 o1])) 1047 [(0, .ref b), (1, .ref (aa 0)), (2, .ref (bb 0)), (3, .ref oa), (4, .int (iI i))] []) : rG p l e room_1 s m args below meth c E A 8 cells slots Q (dk E aa X.1 ++ (md E bb X ++ [cJ E oa 1 o])) 947 [(0, .ref b), (1, .ref (aa 0)), (2, .ref (bb 0)), (3, .ref oa), (4, .int (iI i))] [] := by
  have hP0 : va_P E.1 vwCl [] s.heap := fun k q h => by simp at h
  have hL := hX.2.2.2.1
  have hsc := hX.2.2.2.2
  obtain ⟨X1, v, hI, M1, M2⟩ := cs_book l hl0 E aa bb X n h hn (sc (i + 1).toNat) (sc (i + 2).toNat) (hsc _) (hsc _)
  refine rg_aload_n C 1 dL_law_947 rfl rfl ?_
  refine rg_aload_n C 0 dL_law_948 rfl rfl ?_
  refine rg_iload C 4 dL_law_949 rfl ?_
  refine rg_iconst C dL_law_951 ?_
  refine rg_iadd C dL_law_952 ?_
  refine rg_sld C hX (by omega) (by omega) dL_law_953 ?_
  refine rg_aload_n C 0 dL_law_954 rfl rfl ?_
  refine rg_iload C 4 dL_law_955 rfl ?_
  refine rg_iconst C dL_law_957 ?_
  refine rg_iadd C dL_law_958 ?_
  refine rg_sld C hX (by omega) (by omega) dL_law_959 ?_
  refine rg_callV (As := [.int (iI (sc (i + 1).toNat)), .int (iI (sc (i + 2).toNat))]) (rest := []) (wr := md E bb X ++ [cJ E oa 1 o]) (w' := fun _ => (dk E aa X1.1 ++ (md E bb X ++ [cJ E oa 1 o]))) C M1 (rcwV C mX5_book w_316 ⟨Nat.le_of_ble_eq_true rfl, Nat.le_of_ble_eq_true rfl⟩) [0, 1, 2, 3, 4, 5, 6, 7, 8, 9, 10, 11, 12, 13, 14, 15, 16, 17, 18, 19, 20, 21, 22, 23, 24, 25, 26, 27, 28, 29, 30] [31, 32, 33, 34, 35, 36, 37, 38, 39, 40, 41, 42, 43, 44, 45, 46, 47, 48, 49, 50, 51, 52] [22, 23, 24, 25, 26, 27, 28, 29, 30, 31, 32, 33, 34, 35, 36, 37, 38, 39, 40, 41, 42, 43, 44, 45, 46, 47, 48, 49, 50, 51, 52, 0, 1, 2, 3, 4, 5, 6, 7, 8, 9, 10, 11, 12, 13, 14, 15, 16, 17, 18, 19, 20, 21] rfl rfl (by decide) (by decide) (by decide) (fun _ => rfl) (by decide) 0 rfl rfl rfl rfl (Nat.le_of_ble_eq_true rfl) dL_law_960 ⟨Nat.le_of_succ_le hcs.1, Nat.le_trans (Nat.le_add_right _ 6) hcs.2⟩ (fun _ => ?_)
  show rG p l e room_1 s m args below meth c E A 8 cells slots Q (dk E aa X1.1 ++ (md E bb X ++ [cJ E oa 1 o])) 963 [(0, .ref b), (1, .ref (aa 0)), (2, .ref (bb 0)), (3, .ref oa), (4, .int (iI i))] [.long (lI v)]
  refine rg_aload_n C 2 dL_law_963 rfl rfl ?_
  refine rg_aload_n C 0 dL_law_964 rfl rfl ?_
  refine rg_iload C 4 dL_law_965 rfl ?_
  refine rg_iconst C dL_law_967 ?_
  refine rg_iadd C dL_law_968 ?_
  refine rg_sld C hX (by omega) (by omega) dL_law_969 ?_
  refine rg_aload_n C 0 dL_law_970 rfl rfl ?_
  refine rg_iload C 4 dL_law_971 rfl ?_
  refine rg_iconst C dL_law_973 ?_
  refine rg_iadd C dL_law_974 ?_
  refine rg_sld C hX (by omega) (by omega) dL_law_975 ?_
  refine rg_callV (As := [.int (iI (sc (i + 1).toNat)), .int (iI (sc (i + 2).toNat))]) (rest := [.long (lI v)]) (wr := dk E aa X1.1 ++ [cJ E oa 1 o]) (w' := fun _ => (dk E aa X1.1 ++ (md E bb X1 ++ [cJ E oa 1 o]))) C M2 (rcwV C mX6_book w_808 ⟨Nat.le_of_ble_eq_true rfl, Nat.le_of_ble_eq_true rfl⟩) [31, 32, 33, 34, 35, 36, 37, 38, 39, 40, 41, 42, 43, 44, 45, 46, 47, 48, 49, 50, 51] [0, 1, 2, 3, 4, 5, 6, 7, 8, 9, 10, 11, 12, 13, 14, 15, 16, 17, 18, 19, 20, 21, 22, 23, 24, 25, 26, 27, 28, 29, 30, 52] [0, 1, 2, 3, 4, 5, 6, 7, 8, 9, 10, 11, 12, 13, 14, 15, 16, 17, 18, 19, 20, 21, 22, 23, 24, 25, 26, 27, 28, 29, 30, 32, 33, 34, 35, 36, 37, 38, 39, 40, 41, 42, 43, 44, 45, 46, 47, 48, 49, 50, 51, 52, 31] rfl rfl (by decide) (by decide) (by decide) (fun _ => rfl) (by decide) 0 rfl rfl rfl rfl (Nat.le_of_ble_eq_true rfl) dL_law_976 ⟨Nat.le_of_succ_le hcs.1, Nat.le_trans (Nat.le_add_right _ 6) hcs.2⟩ (fun _ => ?_)
  show rG p l e room_1 s m args below meth c E A 8 cells slots Q (dk E aa X1.1 ++ (md E bb X1 ++ [cJ E oa 1 o])) 979 [(0, .ref b), (1, .ref (aa 0)), (2, .ref (bb 0)), (3, .ref oa), (4, .int (iI i))] [.long (lI v), .long (lI v)]
  refine rg_lcmp_eqs (tgt := 1047) C dL_law_979 dL_law_980 (by decide) ?_
  refine rG.wide (k := cells + 1) (n := slots + 6) (Nat.le_succ _) (Nat.le_add_right _ _) ?_
  refine rG.plv (lv' := [(0, .ref b), (1, .ref (aa 0)), (2, .ref (bb 0)), (3, .ref oa), (4, .int (iI i))]) [0, 1, 2, 3, 4] rfl ?_
  exact kk X1 o hI
set_option maxHeartbeats 4000000 in
set_option maxRecDepth 100000 in
theorem lc_about {p : Program} {l : Launch} {e : Env} {s : State} {m : MethodId} {args : Array Value} {below : List Frame} {meth : Method} {c : Code} {E : rE} {A : Nat → Prop} {Q : State → Prop} {Ts : List Cond} {b L cells slots : Nat} {sc : Nat → Int} (hl0 : noTr l) (C : rC p s m args c E A 8 code Ts RL) (hz : xW s) (hA : A = va_A [] s.heap.size) (hX : scr s A b L sc) (aa bb : Nat → Nat) (X : WS) (oa : Nat) (o : Nat → Int) (n i : Int) (h : Inv X n) (hn : 0 ≤ n ∧ n ≤ 512) (hi : 0 ≤ i ∧ i + 7 ≤ (L : Int)) (hcs : cells + 1 ≤ 1083 ∧ slots + 6 ≤ 10391) (kk : ∀ (X1 : WS) (o1 : Nat → Int), Inv X1 (n + 1) → rG p l e room_1 s m args below meth c E A 8 (cells + 1) (slots + 6) Q (dk E aa X1.1 ++ (md E bb X1 ++ [cJ E oa 1 o1])) 1047 [(0, .ref b), (1, .ref (aa 0)), (2, .ref (bb 0)), (3, .ref oa), (4, .int (iI i))] []) : rG p l e room_1 s m args below meth c E A 8 cells slots Q (dk E aa X.1 ++ (md E bb X ++ [cJ E oa 1 o])) 985 [(0, .ref b), (1, .ref (aa 0)), (2, .ref (bb 0)), (3, .ref oa), (4, .int (iI i))] [] := by
  have hP0 : va_P E.1 vwCl [] s.heap := fun k q h => by simp at h
  have hL := hX.2.2.2.1
  have hsc := hX.2.2.2.2
  obtain ⟨X1, v, hI, M1, M2⟩ := cs_about l hl0 E aa bb X n h hn (sc (i + 1).toNat) (sc (i + 2).toNat) (hsc _) (hsc _)
  refine rg_aload_n C 1 dL_law_985 rfl rfl ?_
  refine rg_aload_n C 0 dL_law_986 rfl rfl ?_
  refine rg_iload C 4 dL_law_987 rfl ?_
  refine rg_iconst C dL_law_989 ?_
  refine rg_iadd C dL_law_990 ?_
  refine rg_sld C hX (by omega) (by omega) dL_law_991 ?_
  refine rg_aload_n C 0 dL_law_992 rfl rfl ?_
  refine rg_iload C 4 dL_law_993 rfl ?_
  refine rg_iconst C dL_law_995 ?_
  refine rg_iadd C dL_law_996 ?_
  refine rg_sld C hX (by omega) (by omega) dL_law_997 ?_
  refine rg_callV (As := [.int (iI (sc (i + 1).toNat)), .int (iI (sc (i + 2).toNat))]) (rest := []) (wr := md E bb X ++ [cJ E oa 1 o]) (w' := fun _ => (dk E aa X1.1 ++ (md E bb X ++ [cJ E oa 1 o]))) C M1 (rcwV C mX5_about w_325 ⟨Nat.le_of_ble_eq_true rfl, Nat.le_of_ble_eq_true rfl⟩) [0, 1, 2, 3, 4, 5, 6, 7, 8, 9, 10, 11, 12, 13, 14, 15, 16, 17, 18, 19, 20, 21, 22, 23, 24, 25, 26, 27, 28, 29, 30] [31, 32, 33, 34, 35, 36, 37, 38, 39, 40, 41, 42, 43, 44, 45, 46, 47, 48, 49, 50, 51, 52] [22, 23, 24, 25, 26, 27, 28, 29, 30, 31, 32, 33, 34, 35, 36, 37, 38, 39, 40, 41, 42, 43, 44, 45, 46, 47, 48, 49, 50, 51, 52, 0, 1, 2, 3, 4, 5, 6, 7, 8, 9, 10, 11, 12, 13, 14, 15, 16, 17, 18, 19, 20, 21] rfl rfl (by decide) (by decide) (by decide) (fun _ => rfl) (by decide) 0 rfl rfl rfl rfl (Nat.le_of_ble_eq_true rfl) dL_law_998 ⟨Nat.le_of_succ_le hcs.1, Nat.le_trans (Nat.le_add_right _ 6) hcs.2⟩ (fun _ => ?_)
  show rG p l e room_1 s m args below meth c E A 8 cells slots Q (dk E aa X1.1 ++ (md E bb X ++ [cJ E oa 1 o])) 1001 [(0, .ref b), (1, .ref (aa 0)), (2, .ref (bb 0)), (3, .ref oa), (4, .int (iI i))] [.int (iI v)]
  refine rg_aload_n C 2 dL_law_1001 rfl rfl ?_
  refine rg_aload_n C 0 dL_law_1002 rfl rfl ?_
  refine rg_iload C 4 dL_law_1003 rfl ?_
  refine rg_iconst C dL_law_1005 ?_
  refine rg_iadd C dL_law_1006 ?_
  refine rg_sld C hX (by omega) (by omega) dL_law_1007 ?_
  refine rg_aload_n C 0 dL_law_1008 rfl rfl ?_
  refine rg_iload C 4 dL_law_1009 rfl ?_
  refine rg_iconst C dL_law_1011 ?_
  refine rg_iadd C dL_law_1012 ?_
  refine rg_sld C hX (by omega) (by omega) dL_law_1013 ?_
  refine rg_callV (As := [.int (iI (sc (i + 1).toNat)), .int (iI (sc (i + 2).toNat))]) (rest := [.int (iI v)]) (wr := dk E aa X1.1 ++ [cJ E oa 1 o]) (w' := fun _ => (dk E aa X1.1 ++ (md E bb X1 ++ [cJ E oa 1 o]))) C M2 (rcwV C mX6_about w_812 ⟨Nat.le_of_ble_eq_true rfl, Nat.le_of_ble_eq_true rfl⟩) [31, 32, 33, 34, 35, 36, 37, 38, 39, 40, 41, 42, 43, 44, 45, 46, 47, 48, 49, 50, 51] [0, 1, 2, 3, 4, 5, 6, 7, 8, 9, 10, 11, 12, 13, 14, 15, 16, 17, 18, 19, 20, 21, 22, 23, 24, 25, 26, 27, 28, 29, 30, 52] [0, 1, 2, 3, 4, 5, 6, 7, 8, 9, 10, 11, 12, 13, 14, 15, 16, 17, 18, 19, 20, 21, 22, 23, 24, 25, 26, 27, 28, 29, 30, 32, 33, 34, 35, 36, 37, 38, 39, 40, 41, 42, 43, 44, 45, 46, 47, 48, 49, 50, 51, 52, 31] rfl rfl (by decide) (by decide) (by decide) (fun _ => rfl) (by decide) 0 rfl rfl rfl rfl (Nat.le_of_ble_eq_true rfl) dL_law_1014 ⟨Nat.le_of_succ_le hcs.1, Nat.le_trans (Nat.le_add_right _ 6) hcs.2⟩ (fun _ => ?_)
  show rG p l e room_1 s m args below meth c E A 8 cells slots Q (dk E aa X1.1 ++ (md E bb X1 ++ [cJ E oa 1 o])) 1017 [(0, .ref b), (1, .ref (aa 0)), (2, .ref (bb 0)), (3, .ref oa), (4, .int (iI i))] [.int (iI v), .int (iI v)]
  refine rg_icmp_eqs (tgt := 1047) C rfl dL_law_1017 (by decide) ?_
  refine rG.wide (k := cells + 1) (n := slots + 6) (Nat.le_succ _) (Nat.le_add_right _ _) ?_
  refine rG.plv (lv' := [(0, .ref b), (1, .ref (aa 0)), (2, .ref (bb 0)), (3, .ref oa), (4, .int (iI i))]) [0, 1, 2, 3, 4] rfl ?_
  exact kk X1 o hI
set_option maxHeartbeats 4000000 in
set_option maxRecDepth 100000 in
theorem lc_aged {p : Program} {l : Launch} {e : Env} {s : State} {m : MethodId} {args : Array Value} {below : List Frame} {meth : Method} {c : Code} {E : rE} {A : Nat → Prop} {Q : State → Prop} {Ts : List Cond} {b L cells slots : Nat} {sc : Nat → Int} (hl0 : noTr l) (C : rC p s m args c E A 8 code Ts RL) (hz : xW s) (hA : A = va_A [] s.heap.size) (hX : scr s A b L sc) (aa bb : Nat → Nat) (X : WS) (oa : Nat) (o : Nat → Int) (n i : Int) (h : Inv X n) (hn : 0 ≤ n ∧ n ≤ 512) (hi : 0 ≤ i ∧ i + 7 ≤ (L : Int)) (hcs : cells + 1 ≤ 1083 ∧ slots + 6 ≤ 10391) (kk : ∀ (X1 : WS) (o1 : Nat → Int), Inv X1 (n + 1) → rG p l e room_1 s m args below meth c E A 8 (cells + 1) (slots + 6) Q (dk E aa X1.1 ++ (md E bb X1 ++ [cJ E oa 1 o1])) 1047 [(0, .ref b), (1, .ref (aa 0)), (2, .ref (bb 0)), (3, .ref oa), (4, .int (iI i))] []) : rG p l e room_1 s m args below meth c E A 8 cells slots Q (dk E aa X.1 ++ (md E bb X ++ [cJ E oa 1 o])) 1022 [(0, .ref b), (1, .ref (aa 0)), (2, .ref (bb 0)), (3, .ref oa), (4, .int (iI i))] [] := by
  have hP0 : va_P E.1 vwCl [] s.heap := fun k q h => by simp at h
  have hL := hX.2.2.2.1
  have hsc := hX.2.2.2.2
  obtain ⟨X1, v, hI, M1, M2⟩ := cs_aged l hl0 E aa bb X n h hn (sc (i + 1).toNat) (hsc _)
  refine rg_aload_n C 1 dL_law_1022 rfl rfl ?_
  refine rg_aload_n C 0 dL_law_1023 rfl rfl ?_
  refine rg_iload C 4 dL_law_1024 rfl ?_
  refine rg_iconst C dL_law_1026 ?_
  refine rg_iadd C dL_law_1027 ?_
  refine rg_sld C hX (by omega) (by omega) dL_law_1028 ?_
  refine rg_callV (As := [.int (iI (sc (i + 1).toNat))]) (rest := []) (wr := md E bb X ++ [cJ E oa 1 o]) (w' := fun _ => (dk E aa X1.1 ++ (md E bb X ++ [cJ E oa 1 o]))) C M1 (rcwV C mX5_aged w_329 ⟨Nat.le_of_ble_eq_true rfl, Nat.le_of_ble_eq_true rfl⟩) [0, 1, 2, 3, 4, 5, 6, 7, 8, 9, 10, 11, 12, 13, 14, 15, 16, 17, 18, 19, 20, 21, 22, 23, 24, 25, 26, 27, 28, 29, 30] [31, 32, 33, 34, 35, 36, 37, 38, 39, 40, 41, 42, 43, 44, 45, 46, 47, 48, 49, 50, 51, 52] [22, 23, 24, 25, 26, 27, 28, 29, 30, 31, 32, 33, 34, 35, 36, 37, 38, 39, 40, 41, 42, 43, 44, 45, 46, 47, 48, 49, 50, 51, 52, 0, 1, 2, 3, 4, 5, 6, 7, 8, 9, 10, 11, 12, 13, 14, 15, 16, 17, 18, 19, 20, 21] rfl rfl (by decide) (by decide) (by decide) (fun _ => rfl) (by decide) 0 rfl rfl rfl rfl (Nat.le_of_ble_eq_true rfl) dL_law_1029 ⟨Nat.le_of_succ_le hcs.1, Nat.le_trans (Nat.le_add_right _ 6) hcs.2⟩ (fun _ => ?_)
  show rG p l e room_1 s m args below meth c E A 8 cells slots Q (dk E aa X1.1 ++ (md E bb X ++ [cJ E oa 1 o])) 1032 [(0, .ref b), (1, .ref (aa 0)), (2, .ref (bb 0)), (3, .ref oa), (4, .int (iI i))] [.int (iI v)]
  refine rg_aload_n C 2 dL_law_1032 rfl rfl ?_
  refine rg_aload_n C 0 dL_law_1033 rfl rfl ?_
  refine rg_iload C 4 dL_law_1034 rfl ?_
  refine rg_iconst C dL_law_1036 ?_
  refine rg_iadd C dL_law_1037 ?_
  refine rg_sld C hX (by omega) (by omega) dL_law_1038 ?_
  refine rg_callV (As := [.int (iI (sc (i + 1).toNat))]) (rest := [.int (iI v)]) (wr := dk E aa X1.1 ++ [cJ E oa 1 o]) (w' := fun _ => (dk E aa X1.1 ++ (md E bb X1 ++ [cJ E oa 1 o]))) C M2 (rcwV C mX6_aged w_816 ⟨Nat.le_of_ble_eq_true rfl, Nat.le_of_ble_eq_true rfl⟩) [31, 32, 33, 34, 35, 36, 37, 38, 39, 40, 41, 42, 43, 44, 45, 46, 47, 48, 49, 50, 51] [0, 1, 2, 3, 4, 5, 6, 7, 8, 9, 10, 11, 12, 13, 14, 15, 16, 17, 18, 19, 20, 21, 22, 23, 24, 25, 26, 27, 28, 29, 30, 52] [0, 1, 2, 3, 4, 5, 6, 7, 8, 9, 10, 11, 12, 13, 14, 15, 16, 17, 18, 19, 20, 21, 22, 23, 24, 25, 26, 27, 28, 29, 30, 32, 33, 34, 35, 36, 37, 38, 39, 40, 41, 42, 43, 44, 45, 46, 47, 48, 49, 50, 51, 52, 31] rfl rfl (by decide) (by decide) (by decide) (fun _ => rfl) (by decide) 0 rfl rfl rfl rfl (Nat.le_of_ble_eq_true rfl) dL_law_1039 ⟨Nat.le_of_succ_le hcs.1, Nat.le_trans (Nat.le_add_right _ 6) hcs.2⟩ (fun _ => ?_)
  show rG p l e room_1 s m args below meth c E A 8 cells slots Q (dk E aa X1.1 ++ (md E bb X1 ++ [cJ E oa 1 o])) 1042 [(0, .ref b), (1, .ref (aa 0)), (2, .ref (bb 0)), (3, .ref oa), (4, .int (iI i))] [.int (iI v), .int (iI v)]
  refine rg_icmp_eqs (tgt := 1047) C rfl dL_law_1042 (by decide) ?_
  refine rG.wide (k := cells + 1) (n := slots + 6) (Nat.le_succ _) (Nat.le_add_right _ _) ?_
  refine rG.plv (lv' := [(0, .ref b), (1, .ref (aa 0)), (2, .ref (bb 0)), (3, .ref oa), (4, .int (iI i))]) [0, 1, 2, 3, 4] rfl ?_
  exact kk X1 o hI
