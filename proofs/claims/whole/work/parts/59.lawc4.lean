set_option maxHeartbeats 4000000 in
set_option maxRecDepth 100000 in
theorem lc_futile {p : Program} {l : Launch} {e : Env} {s : State} {m : MethodId} {args : Array Value} {below : List Frame} {meth : Method} {c : Code} {E : rE} {A : Nat → Prop} {Q : State → Prop} {Ts : List Cond} {b L cells slots : Nat} {sc : Nat → Int} (hl0 : noTr l) (C : rC p s m args c E A 8 code Ts RL) (hz : xW s) (hA : A = va_A [] s.heap.size) (hX : scr s A b L sc) (aa bb : Nat → Nat) (X : WS) (oa : Nat) (o : Nat → Int) (n i : Int) (h : Inv X n) (hn : 0 ≤ n ∧ n ≤ 512) (hi : 0 ≤ i ∧ i + 7 ≤ (L : Int)) (hcs : cells + 1 ≤ 1083 ∧ slots + 6 ≤ 10391) (kk : ∀ (X1 : WS) (o1 : Nat → Int), Inv X1 (n + 1) → rG p l e room_1 s m args below meth c E A 8 (cells + 1) (slots + 6) Q (dk E aa X1.1 ++ (md E bb X1 ++ [cJ E oa 1 o1])) 1047 [(0, .ref b), (1, .ref (aa 0)), (2, .ref (bb 0)), (3, .ref oa), (4, .int (iI i))] []) : rG p l e room_1 s m args below meth c E A 8 cells slots Q (dk E aa X.1 ++ (md E bb X ++ [cJ E oa 1 o])) 822 [(0, .ref b), (1, .ref (aa 0)), (2, .ref (bb 0)), (3, .ref oa), (4, .int (iI i))] [] := by
  have hP0 : va_P E.1 vwCl [] s.heap := fun k q h => by simp at h
  have hL := hX.2.2.2.1
  have hsc := hX.2.2.2.2
  obtain ⟨X1, k, v, o1, hk, hv, ho, hI, ht, M1, M2⟩ := cs_futile l hl0 E aa bb X n h hn oa o (sc (i + 1).toNat) (sc (i + 2).toNat) (hsc _) (hsc _)
  refine rg_aload_n C 1 dL_law_822 rfl rfl ?_
  refine rg_aload_n C 0 dL_law_823 rfl rfl ?_
  refine rg_iload C 4 dL_law_824 rfl ?_
  refine rg_iconst C dL_law_826 ?_
  refine rg_iadd C dL_law_827 ?_
  refine rg_sld C hX (by omega) (by omega) dL_law_828 ?_
  refine rg_aload_n C 0 dL_law_829 rfl rfl ?_
  refine rg_iload C 4 dL_law_830 rfl ?_
  refine rg_iconst C dL_law_832 ?_
  refine rg_iadd C dL_law_833 ?_
  refine rg_sld C hX (by omega) (by omega) dL_law_834 ?_
  refine rg_aload_n C 3 dL_law_835 rfl rfl ?_
  refine rg_callSW (n := 4) (As := [.ref (aa 0), .int (iI (sc (i + 1).toNat)), .int (iI (sc (i + 2).toNat)), .ref oa]) (rest := []) (wr := (md E bb X)) (w' := fun _ => (dk E aa X1.1 ++ (md E bb X ++ [cJ E oa 1 o1]))) (cin := []) C M1 hz hP0 hA rfl w_610 w_611 w_19 w_612 (by decide +kernel) ⟨Nat.le_of_ble_eq_true rfl, Nat.le_of_ble_eq_true rfl⟩ [0, 1, 2, 3, 4, 5, 6, 7, 8, 9, 10, 11, 12, 13, 14, 15, 16, 17, 18, 19, 20, 21, 22, 23, 24, 25, 26, 27, 28, 29, 30, 52] [31, 32, 33, 34, 35, 36, 37, 38, 39, 40, 41, 42, 43, 44, 45, 46, 47, 48, 49, 50, 51] [21, 22, 23, 24, 25, 26, 27, 28, 29, 30, 31, 32, 33, 34, 35, 36, 37, 38, 39, 40, 41, 42, 43, 44, 45, 46, 47, 48, 49, 50, 51, 0, 1, 2, 3, 4, 5, 6, 7, 8, 9, 10, 11, 12, 13, 14, 15, 16, 17, 18, 19, 20, 52] rfl rfl (by decide) (by decide) (by decide) (fun _ => rfl) (by decide) rfl rfl (Nat.le_of_ble_eq_true rfl) dL_law_836 ⟨hcs.1, hcs.2⟩ (fun _ => ?_)
  show rG p l e room_1 s m args below meth c E A 8 (cells + 1) (slots + 6) Q (dk E aa X1.1 ++ (md E bb X ++ [cJ E oa 1 o1])) 839 [(0, .ref b), (1, .ref (aa 0)), (2, .ref (bb 0)), (3, .ref oa), (4, .int (iI i))] [.int (iI k)]
  refine rg_istore (lv' := [(5, .int (iI k)), (0, .ref b), (1, .ref (aa 0)), (2, .ref (bb 0)), (3, .ref oa), (4, .int (iI i))]) C dL_law_839 (by decide) rfl ?_
  refine rg_aload_n C 3 dL_law_841 rfl rfl ?_
  refine rg_aload_n C 1 dL_law_842 rfl rfl ?_
  refine rg_iload C 5 dL_law_843 rfl ?_
  refine rg_iconst C dL_law_845 ?_
  refine rg_iadd C dL_law_846 ?_
  refine rg_sld C hX (by omega) (by omega) dL_law_847 ?_
  refine rg_aload_n C 1 dL_law_848 rfl rfl ?_
  refine rg_iload C 5 dL_law_849 rfl ?_
  refine rg_iconst C dL_law_851 ?_
  refine rg_iadd C dL_law_852 ?_
  refine rg_sld C hX (by omega) (by omega) dL_law_853 ?_
  refine rg_callV (As := [.int (iI (sc (i + 1).toNat)), .int (iI (sc (i + 2).toNat))]) (rest := []) (wr := dk E aa X1.1 ++ [cJ E oa 1 o1]) (w' := fun _ => (dk E aa X1.1 ++ (md E bb X1 ++ [cJ E oa 1 o1]))) C M2 (rcwV C mX6_futile w_796 ⟨Nat.le_of_ble_eq_true rfl, Nat.le_of_ble_eq_true rfl⟩) [31, 32, 33, 34, 35, 36, 37, 38, 39, 40, 41, 42, 43, 44, 45, 46, 47, 48, 49, 50, 51] [0, 1, 2, 3, 4, 5, 6, 7, 8, 9, 10, 11, 12, 13, 14, 15, 16, 17, 18, 19, 20, 21, 22, 23, 24, 25, 26, 27, 28, 29, 30, 52] [0, 1, 2, 3, 4, 5, 6, 7, 8, 9, 10, 11, 12, 13, 14, 15, 16, 17, 18, 19, 20, 21, 22, 23, 24, 25, 26, 27, 28, 29, 30, 32, 33, 34, 35, 36, 37, 38, 39, 40, 41, 42, 43, 44, 45, 46, 47, 48, 49, 50, 51, 52, 31] rfl rfl (by decide) (by decide) (by decide) (fun _ => rfl) (by decide) 0 rfl rfl rfl rfl (Nat.le_of_ble_eq_true rfl) dL_law_854 ⟨hcs.1, hcs.2⟩ (fun _ => ?_)
  show rG p l e room_1 s m args below meth c E A 8 (cells + 1) (slots + 6) Q (dk E aa X1.1 ++ (md E bb X1 ++ [cJ E oa 1 o1])) 857 [(5, .int (iI k)), (0, .ref b), (1, .ref (aa 0)), (2, .ref (bb 0)), (3, .ref oa), (4, .int (iI i))] [.int (iI v)]
  refine rg_istore (lv' := [(6, .int (iI v)), (5, .int (iI k)), (0, .ref b), (1, .ref (aa 0)), (2, .ref (bb 0)), (3, .ref oa), (4, .int (iI i))]) C dL_law_857 (by decide) rfl ?_
  refine rg_aload_n C 4 dL_law_859 rfl rfl ?_
  refine rg_callV (As := []) (rest := []) (wr := dk E aa X1.1 ++ [cJ E oa 1 o1]) (w' := fun _ => (dk E aa X1.1 ++ (md E bb X1 ++ [cJ E oa 1 o1]))) C (thr_md l E bb X1) (rcwV C mX6_thrown w_693 ⟨Nat.le_of_ble_eq_true rfl, Nat.le_of_ble_eq_true rfl⟩) [31, 32, 33, 34, 35, 36, 37, 38, 39, 40, 41, 42, 43, 44, 45, 46, 47, 48, 49, 50, 51] [0, 1, 2, 3, 4, 5, 6, 7, 8, 9, 10, 11, 12, 13, 14, 15, 16, 17, 18, 19, 20, 21, 22, 23, 24, 25, 26, 27, 28, 29, 30, 52] [0, 1, 2, 3, 4, 5, 6, 7, 8, 9, 10, 11, 12, 13, 14, 15, 16, 17, 18, 19, 20, 21, 22, 23, 24, 25, 26, 27, 28, 29, 30, 32, 33, 34, 35, 36, 37, 38, 39, 40, 41, 42, 43, 44, 45, 46, 47, 48, 49, 50, 51, 52, 31] rfl rfl (by decide) (by decide) (by decide) (fun _ => rfl) (by decide) 0 rfl rfl rfl rfl (Nat.le_of_ble_eq_true rfl) dL_law_860 ⟨hcs.1, hcs.2⟩ (fun _ => ?_)
  show rG p l e room_1 s m args below meth c E A 8 (cells + 1) (slots + 6) Q (dk E aa X1.1 ++ (md E bb X1 ++ [cJ E oa 1 o1])) 863 [(6, .int (iI v)), (5, .int (iI k)), (0, .ref b), (1, .ref (aa 0)), (2, .ref (bb 0)), (3, .ref oa), (4, .int (iI i))] [.int (iI (thr X1))]
  refine rg_iload C 1 dL_law_863 rfl ?_
  refine rg_icmp_eqs (tgt := 870) C (by rw [ht]) dL_law_865 (by decide) ?_
  refine rg_iload C 1 dL_law_870 rfl ?_
  refine rg_if_ne (tgt := 894) C hk dL_law_872 (by decide) (fun h_872 => ?_) (fun h_872 => ?_)
  · skip
    refine rg_goto (tgt := 1047) C dL_law_894 (by decide) ?_
    refine rG.plv (lv' := [(0, .ref b), (1, .ref (aa 0)), (2, .ref (bb 0)), (3, .ref oa), (4, .int (iI i))]) [2, 3, 4, 5, 6] rfl ?_
    exact kk X1 o1 hI
  · have e9 := ho h_872
    refine rg_aload_n C 5 dL_law_875 rfl rfl ?_
    refine rg_iconst C dL_law_876 ?_
    refine rg_lald C 52 rfl (by decide) (by decide) (by decide) dL_law_877 ?_
    rw [show o1 (0 : Int).toNat = v from e9]
    refine rg_iload C 0 dL_law_878 rfl ?_
    refine rg_if_eq (tgt := 887) C (by omega) dL_law_880 (by decide) (fun h_880 => ?_) (fun h_880 => ?_)
    · have hv9 : v = 0 := h_880
      refine rg_lconst (z := 0) C dL_law_887 rfl ?_
      rw [hv9]
      refine rg_lcmp_eqs (tgt := 894) C dL_law_888 dL_law_889 (by decide) ?_
      refine rg_goto (tgt := 1047) C dL_law_894 (by decide) ?_
      refine rG.plv (lv' := [(0, .ref b), (1, .ref (aa 0)), (2, .ref (bb 0)), (3, .ref oa), (4, .int (iI i))]) [2, 3, 4, 5, 6] rfl ?_
      exact kk X1 o1 hI
    · have hv9 : v = 1 := by omega
      refine rg_lconst (z := 1) C dL_law_883 rfl ?_
      rw [hv9]
      refine rg_goto (tgt := 888) C dL_law_884 (by decide) ?_
      refine rg_lcmp_eqs (tgt := 894) C dL_law_888 dL_law_889 (by decide) ?_
      refine rg_goto (tgt := 1047) C dL_law_894 (by decide) ?_
      refine rG.plv (lv' := [(0, .ref b), (1, .ref (aa 0)), (2, .ref (bb 0)), (3, .ref oa), (4, .int (iI i))]) [2, 3, 4, 5, 6] rfl ?_
      exact kk X1 o1 hI
set_option maxHeartbeats 4000000 in
set_option maxRecDepth 100000 in
theorem lc_close {p : Program} {l : Launch} {e : Env} {s : State} {m : MethodId} {args : Array Value} {below : List Frame} {meth : Method} {c : Code} {E : rE} {A : Nat → Prop} {Q : State → Prop} {Ts : List Cond} {b L cells slots : Nat} {sc : Nat → Int} (hl0 : noTr l) (C : rC p s m args c E A 8 code Ts RL) (hz : xW s) (hA : A = va_A [] s.heap.size) (hX : scr s A b L sc) (aa bb : Nat → Nat) (X : WS) (oa : Nat) (o : Nat → Int) (n i : Int) (h : Inv X n) (hn : 0 ≤ n ∧ n ≤ 512) (hi : 0 ≤ i ∧ i + 7 ≤ (L : Int)) (hcs : cells + 1 ≤ 1083 ∧ slots + 6 ≤ 10391) (kk : ∀ (X1 : WS) (o1 : Nat → Int), Inv X1 (n + 1) → rG p l e room_1 s m args below meth c E A 8 (cells + 1) (slots + 6) Q (dk E aa X1.1 ++ (md E bb X1 ++ [cJ E oa 1 o1])) 1047 [(0, .ref b), (1, .ref (aa 0)), (2, .ref (bb 0)), (3, .ref oa), (4, .int (iI i))] []) : rG p l e room_1 s m args below meth c E A 8 cells slots Q (dk E aa X.1 ++ (md E bb X ++ [cJ E oa 1 o])) 897 [(0, .ref b), (1, .ref (aa 0)), (2, .ref (bb 0)), (3, .ref oa), (4, .int (iI i))] [] := by
  have hP0 : va_P E.1 vwCl [] s.heap := fun k q h => by simp at h
  have hL := hX.2.2.2.1
  have hsc := hX.2.2.2.2
  obtain ⟨X1, v, hI, M1, M2⟩ := cs_close l hl0 E aa bb X n h hn  
  refine rg_aload_n C 1 dL_law_897 rfl rfl ?_
  refine rg_callV (As := []) (rest := []) (wr := md E bb X ++ [cJ E oa 1 o]) (w' := fun _ => (dk E aa X1.1 ++ (md E bb X ++ [cJ E oa 1 o]))) C M1 (rcwV C mX5_close w_274 ⟨Nat.le_of_ble_eq_true rfl, Nat.le_of_ble_eq_true rfl⟩) [0, 1, 2, 3, 4, 5, 6, 7, 8, 9, 10, 11, 12, 13, 14, 15, 16, 17, 18, 19, 20, 21, 22, 23, 24, 25, 26, 27, 28, 29, 30] [31, 32, 33, 34, 35, 36, 37, 38, 39, 40, 41, 42, 43, 44, 45, 46, 47, 48, 49, 50, 51, 52] [22, 23, 24, 25, 26, 27, 28, 29, 30, 31, 32, 33, 34, 35, 36, 37, 38, 39, 40, 41, 42, 43, 44, 45, 46, 47, 48, 49, 50, 51, 52, 0, 1, 2, 3, 4, 5, 6, 7, 8, 9, 10, 11, 12, 13, 14, 15, 16, 17, 18, 19, 20, 21] rfl rfl (by decide) (by decide) (by decide) (fun _ => rfl) (by decide) 0 rfl rfl rfl rfl (Nat.le_of_ble_eq_true rfl) dL_law_898 ⟨Nat.le_of_succ_le hcs.1, Nat.le_trans (Nat.le_add_right _ 6) hcs.2⟩ (fun _ => ?_)
  show rG p l e room_1 s m args below meth c E A 8 cells slots Q (dk E aa X1.1 ++ (md E bb X ++ [cJ E oa 1 o])) 901 [(0, .ref b), (1, .ref (aa 0)), (2, .ref (bb 0)), (3, .ref oa), (4, .int (iI i))] [.int (iI v)]
  refine rg_aload_n C 2 dL_law_901 rfl rfl ?_
  refine rg_callV (As := []) (rest := [.int (iI v)]) (wr := dk E aa X1.1 ++ [cJ E oa 1 o]) (w' := fun _ => (dk E aa X1.1 ++ (md E bb X1 ++ [cJ E oa 1 o]))) C M2 (rcwV C mX6_close w_800 ⟨Nat.le_of_ble_eq_true rfl, Nat.le_of_ble_eq_true rfl⟩) [31, 32, 33, 34, 35, 36, 37, 38, 39, 40, 41, 42, 43, 44, 45, 46, 47, 48, 49, 50, 51] [0, 1, 2, 3, 4, 5, 6, 7, 8, 9, 10, 11, 12, 13, 14, 15, 16, 17, 18, 19, 20, 21, 22, 23, 24, 25, 26, 27, 28, 29, 30, 52] [0, 1, 2, 3, 4, 5, 6, 7, 8, 9, 10, 11, 12, 13, 14, 15, 16, 17, 18, 19, 20, 21, 22, 23, 24, 25, 26, 27, 28, 29, 30, 32, 33, 34, 35, 36, 37, 38, 39, 40, 41, 42, 43, 44, 45, 46, 47, 48, 49, 50, 51, 52, 31] rfl rfl (by decide) (by decide) (by decide) (fun _ => rfl) (by decide) 0 rfl rfl rfl rfl (Nat.le_of_ble_eq_true rfl) dL_law_902 ⟨Nat.le_of_succ_le hcs.1, Nat.le_trans (Nat.le_add_right _ 6) hcs.2⟩ (fun _ => ?_)
  show rG p l e room_1 s m args below meth c E A 8 cells slots Q (dk E aa X1.1 ++ (md E bb X1 ++ [cJ E oa 1 o])) 905 [(0, .ref b), (1, .ref (aa 0)), (2, .ref (bb 0)), (3, .ref oa), (4, .int (iI i))] [.int (iI v), .int (iI v)]
  refine rg_icmp_eqs (tgt := 1047) C rfl dL_law_905 (by decide) ?_
  refine rG.wide (k := cells + 1) (n := slots + 6) (Nat.le_succ _) (Nat.le_add_right _ _) ?_
  refine rG.plv (lv' := [(0, .ref b), (1, .ref (aa 0)), (2, .ref (bb 0)), (3, .ref oa), (4, .int (iI i))]) [0, 1, 2, 3, 4] rfl ?_
  exact kk X1 o hI
set_option maxHeartbeats 4000000 in
set_option maxRecDepth 100000 in
theorem lc_held {p : Program} {l : Launch} {e : Env} {s : State} {m : MethodId} {args : Array Value} {below : List Frame} {meth : Method} {c : Code} {E : rE} {A : Nat → Prop} {Q : State → Prop} {Ts : List Cond} {b L cells slots : Nat} {sc : Nat → Int} (hl0 : noTr l) (C : rC p s m args c E A 8 code Ts RL) (hz : xW s) (hA : A = va_A [] s.heap.size) (hX : scr s A b L sc) (aa bb : Nat → Nat) (X : WS) (oa : Nat) (o : Nat → Int) (n i : Int) (h : Inv X n) (hn : 0 ≤ n ∧ n ≤ 512) (hi : 0 ≤ i ∧ i + 7 ≤ (L : Int)) (hcs : cells + 1 ≤ 1083 ∧ slots + 6 ≤ 10391) (kk : ∀ (X1 : WS) (o1 : Nat → Int), Inv X1 (n + 1) → rG p l e room_1 s m args below meth c E A 8 (cells + 1) (slots + 6) Q (dk E aa X1.1 ++ (md E bb X1 ++ [cJ E oa 1 o1])) 1047 [(0, .ref b), (1, .ref (aa 0)), (2, .ref (bb 0)), (3, .ref oa), (4, .int (iI i))] []) : rG p l e room_1 s m args below meth c E A 8 cells slots Q (dk E aa X.1 ++ (md E bb X ++ [cJ E oa 1 o])) 910 [(0, .ref b), (1, .ref (aa 0)), (2, .ref (bb 0)), (3, .ref oa), (4, .int (iI i))] [] := by
  have hP0 : va_P E.1 vwCl [] s.heap := fun k q h => by simp at h
  have hL := hX.2.2.2.1
  have hsc := hX.2.2.2.2
  obtain ⟨X1, v, hI, M1, M2⟩ := cs_held l hl0 E aa bb X n h hn (sc (i + 1).toNat) (sc (i + 2).toNat) (hsc _) (hsc _)
  refine rg_aload_n C 1 dL_law_910 rfl rfl ?_
  refine rg_aload_n C 0 dL_law_911 rfl rfl ?_
  refine rg_iload C 4 dL_law_912 rfl ?_
  refine rg_iconst C dL_law_914 ?_
  refine rg_iadd C dL_law_915 ?_
  refine rg_sld C hX (by omega) (by omega) dL_law_916 ?_
  refine rg_aload_n C 0 dL_law_917 rfl rfl ?_
  refine rg_iload C 4 dL_law_918 rfl ?_
  refine rg_iconst C dL_law_920 ?_
  refine rg_iadd C dL_law_921 ?_
  refine rg_sld C hX (by omega) (by omega) dL_law_922 ?_
  refine rg_callV (As := [.int (iI (sc (i + 1).toNat)), .int (iI (sc (i + 2).toNat))]) (rest := []) (wr := md E bb X ++ [cJ E oa 1 o]) (w' := fun _ => (dk E aa X1.1 ++ (md E bb X ++ [cJ E oa 1 o]))) C M1 (rcwV C mX5_held w_312 ⟨Nat.le_of_ble_eq_true rfl, Nat.le_of_ble_eq_true rfl⟩) [0, 1, 2, 3, 4, 5, 6, 7, 8, 9, 10, 11, 12, 13, 14, 15, 16, 17, 18, 19, 20, 21, 22, 23, 24, 25, 26, 27, 28, 29, 30] [31, 32, 33, 34, 35, 36, 37, 38, 39, 40, 41, 42, 43, 44, 45, 46, 47, 48, 49, 50, 51, 52] [22, 23, 24, 25, 26, 27, 28, 29, 30, 31, 32, 33, 34, 35, 36, 37, 38, 39, 40, 41, 42, 43, 44, 45, 46, 47, 48, 49, 50, 51, 52, 0, 1, 2, 3, 4, 5, 6, 7, 8, 9, 10, 11, 12, 13, 14, 15, 16, 17, 18, 19, 20, 21] rfl rfl (by decide) (by decide) (by decide) (fun _ => rfl) (by decide) 0 rfl rfl rfl rfl (Nat.le_of_ble_eq_true rfl) dL_law_923 ⟨Nat.le_of_succ_le hcs.1, Nat.le_trans (Nat.le_add_right _ 6) hcs.2⟩ (fun _ => ?_)
  show rG p l e room_1 s m args below meth c E A 8 cells slots Q (dk E aa X1.1 ++ (md E bb X ++ [cJ E oa 1 o])) 926 [(0, .ref b), (1, .ref (aa 0)), (2, .ref (bb 0)), (3, .ref oa), (4, .int (iI i))] [.int (iI v)]
  refine rg_aload_n C 2 dL_law_926 rfl rfl ?_
  refine rg_aload_n C 0 dL_law_927 rfl rfl ?_
  refine rg_iload C 4 dL_law_928 rfl ?_
  refine rg_iconst C dL_law_930 ?_
  refine rg_iadd C dL_law_931 ?_
  refine rg_sld C hX (by omega) (by omega) dL_law_932 ?_
  refine rg_aload_n C 0 dL_law_933 rfl rfl ?_
  refine rg_iload C 4 dL_law_934 rfl ?_
  refine rg_iconst C dL_law_936 ?_
  refine rg_iadd C dL_law_937 ?_
  refine rg_sld C hX (by omega) (by omega) dL_law_938 ?_
  refine rg_callV (As := [.int (iI (sc (i + 1).toNat)), .int (iI (sc (i + 2).toNat))]) (rest := [.int (iI v)]) (wr := dk E aa X1.1 ++ [cJ E oa 1 o]) (w' := fun _ => (dk E aa X1.1 ++ (md E bb X1 ++ [cJ E oa 1 o]))) C M2 (rcwV C mX6_held w_804 ⟨Nat.le_of_ble_eq_true rfl, Nat.le_of_ble_eq_true rfl⟩) [31, 32, 33, 34, 35, 36, 37, 38, 39, 40, 41, 42, 43, 44, 45, 46, 47, 48, 49, 50, 51] [0, 1, 2, 3, 4, 5, 6, 7, 8, 9, 10, 11, 12, 13, 14, 15, 16, 17, 18, 19, 20, 21, 22, 23, 24, 25, 26, 27, 28, 29, 30, 52] [0, 1, 2, 3, 4, 5, 6, 7, 8, 9, 10, 11, 12, 13, 14, 15, 16, 17, 18, 19, 20, 21, 22, 23, 24, 25, 26, 27, 28, 29, 30, 32, 33, 34, 35, 36, 37, 38, 39, 40, 41, 42, 43, 44, 45, 46, 47, 48, 49, 50, 51, 52, 31] rfl rfl (by decide) (by decide) (by decide) (fun _ => rfl) (by decide) 0 rfl rfl rfl rfl (Nat.le_of_ble_eq_true rfl) dL_law_939 ⟨Nat.le_of_succ_le hcs.1, Nat.le_trans (Nat.le_add_right _ 6) hcs.2⟩ (fun _ => ?_)
  show rG p l e room_1 s m args below meth c E A 8 cells slots Q (dk E aa X1.1 ++ (md E bb X1 ++ [cJ E oa 1 o])) 942 [(0, .ref b), (1, .ref (aa 0)), (2, .ref (bb 0)), (3, .ref oa), (4, .int (iI i))] [.int (iI v), .int (iI v)]
  refine rg_icmp_eqs (tgt := 1047) C rfl dL_law_942 (by decide) ?_
  refine rG.wide (k := cells + 1) (n := slots + 6) (Nat.le_succ _) (Nat.le_add_right _ _) ?_
  refine rG.plv (lv' := [(0, .ref b), (1, .ref (aa 0)), (2, .ref (bb 0)), (3, .ref oa), (4, .int (iI i))]) [0, 1, 2, 3, 4] rfl ?_
  exact kk X1 o hI
