set_option maxHeartbeats 4000000 in
set_option maxRecDepth 100000 in
theorem lc_reach {p : Program} {l : Launch} {e : Env} {s : State} {m : MethodId} {args : Array Value} {below : List Frame} {meth : Method} {c : Code} {E : rE} {A : Nat → Prop} {Q : State → Prop} {Ts : List Cond} {b L cells slots : Nat} {sc : Nat → Int} (hl0 : noTr l) (C : rC p s m args c E A 8 code Ts RL) (hz : xW s) (hA : A = va_A [] s.heap.size) (hX : scr s A b L sc) (aa bb : Nat → Nat) (X : WS) (oa : Nat) (o : Nat → Int) (n i : Int) (h : Inv X n) (hn : 0 ≤ n ∧ n ≤ 512) (hi : 0 ≤ i ∧ i + 7 ≤ (L : Int)) (hcs : cells + 1 ≤ 1083 ∧ slots + 6 ≤ 10391) (kk : ∀ (X1 : WS) (o1 : Nat → Int), Inv X1 (n + 1) → rG p l e room_1 s m args below meth c E A 8 (cells + 1) (slots + 6) Q (dk E aa X1.1 ++ (md E bb X1 ++ [cJ E oa 1 o1])) 1047 [(0, .ref b), (1, .ref (aa 0)), (2, .ref (bb 0)), (3, .ref oa), (4, .int (iI i))] []) : rG p l e room_1 s m args below meth c E A 8 cells slots Q (dk E aa X.1 ++ (md E bb X ++ [cJ E oa 1 o])) 128 [(0, .ref b), (1, .ref (aa 0)), (2, .ref (bb 0)), (3, .ref oa), (4, .int (iI i))] [] := by
  have hP0 : va_P E.1 vwCl [] s.heap := fun k q h => by simp at h
  have hL := hX.2.2.2.1
  have hsc := hX.2.2.2.2
  obtain ⟨X1, k, hk, hI, ht, M1, M2⟩ := cs_reach l hl0 E aa bb X n h hn (sc (i + 1).toNat) (sc (i + 2).toNat) (hsc _) (hsc _)
  refine rg_aload_n C 1 dL_law_128 rfl rfl ?_
  refine rg_aload_n C 0 dL_law_129 rfl rfl ?_
  refine rg_iload C 4 dL_law_130 rfl ?_
  refine rg_iconst C dL_law_132 ?_
  refine rg_iadd C dL_law_133 ?_
  refine rg_sld C hX (by omega) (by omega) dL_law_134 ?_
  refine rg_aload_n C 0 dL_law_135 rfl rfl ?_
  refine rg_iload C 4 dL_law_136 rfl ?_
  refine rg_iconst C dL_law_138 ?_
  refine rg_iadd C dL_law_139 ?_
  refine rg_sld C hX (by omega) (by omega) dL_law_140 ?_
  refine rg_callSW (n := 3) (As := [.ref (aa 0), .int (iI (sc (i + 1).toNat)), .int (iI (sc (i + 2).toNat))]) (rest := []) (wr := (md E bb X ++ [cJ E oa 1 o])) (w' := fun _ => (dk E aa X1.1 ++ (md E bb X ++ [cJ E oa 1 o]))) (cin := []) C M1 hz hP0 hA rfl w_333 w_334 w_19 w_335 (by decide +kernel) ⟨Nat.le_of_ble_eq_true rfl, Nat.le_of_ble_eq_true rfl⟩ [0, 1, 2, 3, 4, 5, 6, 7, 8, 9, 10, 11, 12, 13, 14, 15, 16, 17, 18, 19, 20, 21, 22, 23, 24, 25, 26, 27, 28, 29, 30] [31, 32, 33, 34, 35, 36, 37, 38, 39, 40, 41, 42, 43, 44, 45, 46, 47, 48, 49, 50, 51, 52] [22, 23, 24, 25, 26, 27, 28, 29, 30, 31, 32, 33, 34, 35, 36, 37, 38, 39, 40, 41, 42, 43, 44, 45, 46, 47, 48, 49, 50, 51, 52, 0, 1, 2, 3, 4, 5, 6, 7, 8, 9, 10, 11, 12, 13, 14, 15, 16, 17, 18, 19, 20, 21] rfl rfl (by decide) (by decide) (by decide) (fun _ => rfl) (by decide) rfl rfl (Nat.le_of_ble_eq_true rfl) dL_law_141 ⟨hcs.1, hcs.2⟩ (fun _ => ?_)
  show rG p l e room_1 s m args below meth c E A 8 (cells + 1) (slots + 6) Q (dk E aa X1.1 ++ (md E bb X ++ [cJ E oa 1 o])) 144 [(0, .ref b), (1, .ref (aa 0)), (2, .ref (bb 0)), (3, .ref oa), (4, .int (iI i))] [.int (iI k)]
  refine rg_istore (lv' := [(5, .int (iI k)), (0, .ref b), (1, .ref (aa 0)), (2, .ref (bb 0)), (3, .ref oa), (4, .int (iI i))]) C dL_law_144 (by decide) rfl ?_
  refine rg_aload_n C 3 dL_law_146 rfl rfl ?_
  refine rg_aload_n C 1 dL_law_147 rfl rfl ?_
  refine rg_iload C 5 dL_law_148 rfl ?_
  refine rg_iconst C dL_law_150 ?_
  refine rg_iadd C dL_law_151 ?_
  refine rg_sld C hX (by omega) (by omega) dL_law_152 ?_
  refine rg_aload_n C 1 dL_law_153 rfl rfl ?_
  refine rg_iload C 5 dL_law_154 rfl ?_
  refine rg_iconst C dL_law_156 ?_
  refine rg_iadd C dL_law_157 ?_
  refine rg_sld C hX (by omega) (by omega) dL_law_158 ?_
  refine rg_callV (As := [.int (iI (sc (i + 1).toNat)), .int (iI (sc (i + 2).toNat))]) (rest := []) (wr := dk E aa X1.1 ++ [cJ E oa 1 o]) (w' := fun _ => (dk E aa X1.1 ++ (md E bb X1 ++ [cJ E oa 1 o]))) C M2 (rcwV C mX6_reach w_697 ⟨Nat.le_of_ble_eq_true rfl, Nat.le_of_ble_eq_true rfl⟩) [31, 32, 33, 34, 35, 36, 37, 38, 39, 40, 41, 42, 43, 44, 45, 46, 47, 48, 49, 50, 51] [0, 1, 2, 3, 4, 5, 6, 7, 8, 9, 10, 11, 12, 13, 14, 15, 16, 17, 18, 19, 20, 21, 22, 23, 24, 25, 26, 27, 28, 29, 30, 52] [0, 1, 2, 3, 4, 5, 6, 7, 8, 9, 10, 11, 12, 13, 14, 15, 16, 17, 18, 19, 20, 21, 22, 23, 24, 25, 26, 27, 28, 29, 30, 32, 33, 34, 35, 36, 37, 38, 39, 40, 41, 42, 43, 44, 45, 46, 47, 48, 49, 50, 51, 52, 31] rfl rfl (by decide) (by decide) (by decide) (fun _ => rfl) (by decide) 0 rfl rfl rfl rfl (Nat.le_of_ble_eq_true rfl) dL_law_159 ⟨hcs.1, hcs.2⟩ (fun _ => ?_)
  show rG p l e room_1 s m args below meth c E A 8 (cells + 1) (slots + 6) Q (dk E aa X1.1 ++ (md E bb X1 ++ [cJ E oa 1 o])) 162 [(5, .int (iI k)), (0, .ref b), (1, .ref (aa 0)), (2, .ref (bb 0)), (3, .ref oa), (4, .int (iI i))] []
  refine rg_aload_n C 3 dL_law_162 rfl rfl ?_
  refine rg_callV (As := []) (rest := []) (wr := dk E aa X1.1 ++ [cJ E oa 1 o]) (w' := fun _ => (dk E aa X1.1 ++ (md E bb X1 ++ [cJ E oa 1 o]))) C (thr_md l E bb X1) (rcwV C mX6_thrown w_693 ⟨Nat.le_of_ble_eq_true rfl, Nat.le_of_ble_eq_true rfl⟩) [31, 32, 33, 34, 35, 36, 37, 38, 39, 40, 41, 42, 43, 44, 45, 46, 47, 48, 49, 50, 51] [0, 1, 2, 3, 4, 5, 6, 7, 8, 9, 10, 11, 12, 13, 14, 15, 16, 17, 18, 19, 20, 21, 22, 23, 24, 25, 26, 27, 28, 29, 30, 52] [0, 1, 2, 3, 4, 5, 6, 7, 8, 9, 10, 11, 12, 13, 14, 15, 16, 17, 18, 19, 20, 21, 22, 23, 24, 25, 26, 27, 28, 29, 30, 32, 33, 34, 35, 36, 37, 38, 39, 40, 41, 42, 43, 44, 45, 46, 47, 48, 49, 50, 51, 52, 31] rfl rfl (by decide) (by decide) (by decide) (fun _ => rfl) (by decide) 0 rfl rfl rfl rfl (Nat.le_of_ble_eq_true rfl) dL_law_163 ⟨hcs.1, hcs.2⟩ (fun _ => ?_)
  show rG p l e room_1 s m args below meth c E A 8 (cells + 1) (slots + 6) Q (dk E aa X1.1 ++ (md E bb X1 ++ [cJ E oa 1 o])) 166 [(5, .int (iI k)), (0, .ref b), (1, .ref (aa 0)), (2, .ref (bb 0)), (3, .ref oa), (4, .int (iI i))] [.int (iI (thr X1))]
  refine rg_iload C 0 dL_law_166 rfl ?_
  refine rg_icmp_eqs (tgt := 173) C (by rw [ht]) dL_law_168 (by decide) ?_
  refine rg_goto (tgt := 1047) C dL_law_173 (by decide) ?_
  refine rG.plv (lv' := [(0, .ref b), (1, .ref (aa 0)), (2, .ref (bb 0)), (3, .ref oa), (4, .int (iI i))]) [1, 2, 3, 4, 5] rfl ?_
  exact kk X1 o hI
set_option maxHeartbeats 4000000 in
set_option maxRecDepth 100000 in
theorem lc_reservoir {p : Program} {l : Launch} {e : Env} {s : State} {m : MethodId} {args : Array Value} {below : List Frame} {meth : Method} {c : Code} {E : rE} {A : Nat → Prop} {Q : State → Prop} {Ts : List Cond} {b L cells slots : Nat} {sc : Nat → Int} (hl0 : noTr l) (C : rC p s m args c E A 8 code Ts RL) (hz : xW s) (hA : A = va_A [] s.heap.size) (hX : scr s A b L sc) (aa bb : Nat → Nat) (X : WS) (oa : Nat) (o : Nat → Int) (n i : Int) (h : Inv X n) (hn : 0 ≤ n ∧ n ≤ 512) (hi : 0 ≤ i ∧ i + 7 ≤ (L : Int)) (hcs : cells + 1 ≤ 1083 ∧ slots + 6 ≤ 10391) (kk : ∀ (X1 : WS) (o1 : Nat → Int), Inv X1 (n + 1) → rG p l e room_1 s m args below meth c E A 8 (cells + 1) (slots + 6) Q (dk E aa X1.1 ++ (md E bb X1 ++ [cJ E oa 1 o1])) 1047 [(0, .ref b), (1, .ref (aa 0)), (2, .ref (bb 0)), (3, .ref oa), (4, .int (iI i))] []) : rG p l e room_1 s m args below meth c E A 8 cells slots Q (dk E aa X.1 ++ (md E bb X ++ [cJ E oa 1 o])) 176 [(0, .ref b), (1, .ref (aa 0)), (2, .ref (bb 0)), (3, .ref oa), (4, .int (iI i))] [] := by
  have hP0 : va_P E.1 vwCl [] s.heap := fun k q h => by simp at h
  have hL := hX.2.2.2.1
  have hsc := hX.2.2.2.2
  obtain ⟨X1, k, hk, hI, ht, M1, M2⟩ := cs_reservoir l hl0 E aa bb X n h hn (sc (i + 1).toNat) (sc (i + 2).toNat) (sc (i + 3).toNat) (hsc _) (hsc _) (hsc _)
  refine rg_aload_n C 1 dL_law_176 rfl rfl ?_
  refine rg_aload_n C 0 dL_law_177 rfl rfl ?_
  refine rg_iload C 4 dL_law_178 rfl ?_
  refine rg_iconst C dL_law_180 ?_
  refine rg_iadd C dL_law_181 ?_
  refine rg_sld C hX (by omega) (by omega) dL_law_182 ?_
  refine rg_aload_n C 0 dL_law_183 rfl rfl ?_
  refine rg_iload C 4 dL_law_184 rfl ?_
  refine rg_iconst C dL_law_186 ?_
  refine rg_iadd C dL_law_187 ?_
  refine rg_sld C hX (by omega) (by omega) dL_law_188 ?_
  refine rg_aload_n C 0 dL_law_189 rfl rfl ?_
  refine rg_iload C 4 dL_law_190 rfl ?_
  refine rg_iconst C dL_law_192 ?_
  refine rg_iadd C dL_law_193 ?_
  refine rg_sld C hX (by omega) (by omega) dL_law_194 ?_
  refine rg_callSW (n := 4) (As := [.ref (aa 0), .int (iI (sc (i + 1).toNat)), .int (iI (sc (i + 2).toNat)), .int (iI (sc (i + 3).toNat))]) (rest := []) (wr := (md E bb X ++ [cJ E oa 1 o])) (w' := fun _ => (dk E aa X1.1 ++ (md E bb X ++ [cJ E oa 1 o]))) (cin := []) C M1 hz hP0 hA rfl w_457 w_458 w_19 w_459 (by decide +kernel) ⟨Nat.le_of_ble_eq_true rfl, Nat.le_of_ble_eq_true rfl⟩ [0, 1, 2, 3, 4, 5, 6, 7, 8, 9, 10, 11, 12, 13, 14, 15, 16, 17, 18, 19, 20, 21, 22, 23, 24, 25, 26, 27, 28, 29, 30] [31, 32, 33, 34, 35, 36, 37, 38, 39, 40, 41, 42, 43, 44, 45, 46, 47, 48, 49, 50, 51, 52] [22, 23, 24, 25, 26, 27, 28, 29, 30, 31, 32, 33, 34, 35, 36, 37, 38, 39, 40, 41, 42, 43, 44, 45, 46, 47, 48, 49, 50, 51, 52, 0, 1, 2, 3, 4, 5, 6, 7, 8, 9, 10, 11, 12, 13, 14, 15, 16, 17, 18, 19, 20, 21] rfl rfl (by decide) (by decide) (by decide) (fun _ => rfl) (by decide) rfl rfl (Nat.le_of_ble_eq_true rfl) dL_law_195 ⟨hcs.1, hcs.2⟩ (fun _ => ?_)
  show rG p l e room_1 s m args below meth c E A 8 (cells + 1) (slots + 6) Q (dk E aa X1.1 ++ (md E bb X ++ [cJ E oa 1 o])) 198 [(0, .ref b), (1, .ref (aa 0)), (2, .ref (bb 0)), (3, .ref oa), (4, .int (iI i))] [.int (iI k)]
  refine rg_istore (lv' := [(5, .int (iI k)), (0, .ref b), (1, .ref (aa 0)), (2, .ref (bb 0)), (3, .ref oa), (4, .int (iI i))]) C dL_law_198 (by decide) rfl ?_
  refine rg_aload_n C 3 dL_law_200 rfl rfl ?_
  refine rg_aload_n C 1 dL_law_201 rfl rfl ?_
  refine rg_iload C 5 dL_law_202 rfl ?_
  refine rg_iconst C dL_law_204 ?_
  refine rg_iadd C dL_law_205 ?_
  refine rg_sld C hX (by omega) (by omega) dL_law_206 ?_
  refine rg_aload_n C 1 dL_law_207 rfl rfl ?_
  refine rg_iload C 5 dL_law_208 rfl ?_
  refine rg_iconst C dL_law_210 ?_
  refine rg_iadd C dL_law_211 ?_
  refine rg_sld C hX (by omega) (by omega) dL_law_212 ?_
  refine rg_aload_n C 1 dL_law_213 rfl rfl ?_
  refine rg_iload C 5 dL_law_214 rfl ?_
  refine rg_iconst C dL_law_216 ?_
  refine rg_iadd C dL_law_217 ?_
  refine rg_sld C hX (by omega) (by omega) dL_law_218 ?_
  refine rg_callV (As := [.int (iI (sc (i + 1).toNat)), .int (iI (sc (i + 2).toNat)), .int (iI (sc (i + 3).toNat))]) (rest := []) (wr := dk E aa X1.1 ++ [cJ E oa 1 o]) (w' := fun _ => (dk E aa X1.1 ++ (md E bb X1 ++ [cJ E oa 1 o]))) C M2 (rcwV C mX6_reservoir w_704 ⟨Nat.le_of_ble_eq_true rfl, Nat.le_of_ble_eq_true rfl⟩) [31, 32, 33, 34, 35, 36, 37, 38, 39, 40, 41, 42, 43, 44, 45, 46, 47, 48, 49, 50, 51] [0, 1, 2, 3, 4, 5, 6, 7, 8, 9, 10, 11, 12, 13, 14, 15, 16, 17, 18, 19, 20, 21, 22, 23, 24, 25, 26, 27, 28, 29, 30, 52] [0, 1, 2, 3, 4, 5, 6, 7, 8, 9, 10, 11, 12, 13, 14, 15, 16, 17, 18, 19, 20, 21, 22, 23, 24, 25, 26, 27, 28, 29, 30, 32, 33, 34, 35, 36, 37, 38, 39, 40, 41, 42, 43, 44, 45, 46, 47, 48, 49, 50, 51, 52, 31] rfl rfl (by decide) (by decide) (by decide) (fun _ => rfl) (by decide) 0 rfl rfl rfl rfl (Nat.le_of_ble_eq_true rfl) dL_law_219 ⟨hcs.1, hcs.2⟩ (fun _ => ?_)
  show rG p l e room_1 s m args below meth c E A 8 (cells + 1) (slots + 6) Q (dk E aa X1.1 ++ (md E bb X1 ++ [cJ E oa 1 o])) 222 [(5, .int (iI k)), (0, .ref b), (1, .ref (aa 0)), (2, .ref (bb 0)), (3, .ref oa), (4, .int (iI i))] []
  refine rg_aload_n C 3 dL_law_222 rfl rfl ?_
  refine rg_callV (As := []) (rest := []) (wr := dk E aa X1.1 ++ [cJ E oa 1 o]) (w' := fun _ => (dk E aa X1.1 ++ (md E bb X1 ++ [cJ E oa 1 o]))) C (thr_md l E bb X1) (rcwV C mX6_thrown w_693 ⟨Nat.le_of_ble_eq_true rfl, Nat.le_of_ble_eq_true rfl⟩) [31, 32, 33, 34, 35, 36, 37, 38, 39, 40, 41, 42, 43, 44, 45, 46, 47, 48, 49, 50, 51] [0, 1, 2, 3, 4, 5, 6, 7, 8, 9, 10, 11, 12, 13, 14, 15, 16, 17, 18, 19, 20, 21, 22, 23, 24, 25, 26, 27, 28, 29, 30, 52] [0, 1, 2, 3, 4, 5, 6, 7, 8, 9, 10, 11, 12, 13, 14, 15, 16, 17, 18, 19, 20, 21, 22, 23, 24, 25, 26, 27, 28, 29, 30, 32, 33, 34, 35, 36, 37, 38, 39, 40, 41, 42, 43, 44, 45, 46, 47, 48, 49, 50, 51, 52, 31] rfl rfl (by decide) (by decide) (by decide) (fun _ => rfl) (by decide) 0 rfl rfl rfl rfl (Nat.le_of_ble_eq_true rfl) dL_law_223 ⟨hcs.1, hcs.2⟩ (fun _ => ?_)
  show rG p l e room_1 s m args below meth c E A 8 (cells + 1) (slots + 6) Q (dk E aa X1.1 ++ (md E bb X1 ++ [cJ E oa 1 o])) 226 [(5, .int (iI k)), (0, .ref b), (1, .ref (aa 0)), (2, .ref (bb 0)), (3, .ref oa), (4, .int (iI i))] [.int (iI (thr X1))]
  refine rg_iload C 0 dL_law_226 rfl ?_
  refine rg_icmp_eqs (tgt := 233) C (by rw [ht]) dL_law_228 (by decide) ?_
  refine rg_goto (tgt := 1047) C dL_law_233 (by decide) ?_
  refine rG.plv (lv' := [(0, .ref b), (1, .ref (aa 0)), (2, .ref (bb 0)), (3, .ref oa), (4, .int (iI i))]) [1, 2, 3, 4, 5] rfl ?_
  exact kk X1 o hI
set_option maxHeartbeats 4000000 in
set_option maxRecDepth 100000 in
theorem lc_right {p : Program} {l : Launch} {e : Env} {s : State} {m : MethodId} {args : Array Value} {below : List Frame} {meth : Method} {c : Code} {E : rE} {A : Nat → Prop} {Q : State → Prop} {Ts : List Cond} {b L cells slots : Nat} {sc : Nat → Int} (hl0 : noTr l) (C : rC p s m args c E A 8 code Ts RL) (hz : xW s) (hA : A = va_A [] s.heap.size) (hX : scr s A b L sc) (aa bb : Nat → Nat) (X : WS) (oa : Nat) (o : Nat → Int) (n i : Int) (h : Inv X n) (hn : 0 ≤ n ∧ n ≤ 512) (hi : 0 ≤ i ∧ i + 7 ≤ (L : Int)) (hcs : cells + 1 ≤ 1083 ∧ slots + 6 ≤ 10391) (kk : ∀ (X1 : WS) (o1 : Nat → Int), Inv X1 (n + 1) → rG p l e room_1 s m args below meth c E A 8 (cells + 1) (slots + 6) Q (dk E aa X1.1 ++ (md E bb X1 ++ [cJ E oa 1 o1])) 1047 [(0, .ref b), (1, .ref (aa 0)), (2, .ref (bb 0)), (3, .ref oa), (4, .int (iI i))] []) : rG p l e room_1 s m args below meth c E A 8 cells slots Q (dk E aa X.1 ++ (md E bb X ++ [cJ E oa 1 o])) 236 [(0, .ref b), (1, .ref (aa 0)), (2, .ref (bb 0)), (3, .ref oa), (4, .int (iI i))] [] := by
  have hP0 : va_P E.1 vwCl [] s.heap := fun k q h => by simp at h
  have hL := hX.2.2.2.1
  have hsc := hX.2.2.2.2
  obtain ⟨X1, k, hk, hI, ht, M1, M2⟩ := cs_right l hl0 E aa bb X n h hn (sc (i + 1).toNat) (sc (i + 2).toNat) (sc (i + 3).toNat) (sc (i + 4).toNat) (sc (i + 5).toNat) (sc (i + 6).toNat) (hsc _) (hsc _) (hsc _) (hsc _) (hsc _) (hsc _)
  refine rg_aload_n C 1 dL_law_236 rfl rfl ?_
  refine rg_aload_n C 0 dL_law_237 rfl rfl ?_
  refine rg_iload C 4 dL_law_238 rfl ?_
  refine rg_iconst C dL_law_240 ?_
  refine rg_iadd C dL_law_241 ?_
  refine rg_sld C hX (by omega) (by omega) dL_law_242 ?_
  refine rg_aload_n C 0 dL_law_243 rfl rfl ?_
  refine rg_iload C 4 dL_law_244 rfl ?_
  refine rg_iconst C dL_law_246 ?_
  refine rg_iadd C dL_law_247 ?_
  refine rg_sld C hX (by omega) (by omega) dL_law_248 ?_
  refine rg_aload_n C 0 dL_law_249 rfl rfl ?_
  refine rg_iload C 4 dL_law_250 rfl ?_
  refine rg_iconst C dL_law_252 ?_
  refine rg_iadd C dL_law_253 ?_
  refine rg_sld C hX (by omega) (by omega) dL_law_254 ?_
  refine rg_aload_n C 0 dL_law_255 rfl rfl ?_
  refine rg_iload C 4 dL_law_256 rfl ?_
  refine rg_iconst C dL_law_258 ?_
  refine rg_iadd C dL_law_259 ?_
  refine rg_sld C hX (by omega) (by omega) dL_law_260 ?_
  refine rg_aload_n C 0 dL_law_261 rfl rfl ?_
  refine rg_iload C 4 dL_law_262 rfl ?_
  refine rg_iconst C dL_law_264 ?_
  refine rg_iadd C dL_law_265 ?_
  refine rg_sld C hX (by omega) (by omega) dL_law_266 ?_
  refine rg_aload_n C 0 dL_law_267 rfl rfl ?_
  refine rg_iload C 4 dL_law_268 rfl ?_
  refine rg_bipush (z := 6) C dL_law_270 rfl ?_
  refine rg_iadd C dL_law_272 ?_
  refine rg_sld C hX (by omega) (by omega) dL_law_273 ?_
  refine rg_callSW (n := 7) (As := [.ref (aa 0), .int (iI (sc (i + 1).toNat)), .int (iI (sc (i + 2).toNat)), .int (iI (sc (i + 3).toNat)), .int (iI (sc (i + 4).toNat)), .int (iI (sc (i + 5).toNat)), .int (iI (sc (i + 6).toNat))]) (rest := []) (wr := (md E bb X ++ [cJ E oa 1 o])) (w' := fun _ => (dk E aa X1.1 ++ (md E bb X ++ [cJ E oa 1 o]))) (cin := []) C M1 hz hP0 hA rfl w_489 w_490 w_19 w_491 (by decide +kernel) ⟨Nat.le_of_ble_eq_true rfl, Nat.le_of_ble_eq_true rfl⟩ [0, 1, 2, 3, 4, 5, 6, 7, 8, 9, 10, 11, 12, 13, 14, 15, 16, 17, 18, 19, 20, 21, 22, 23, 24, 25, 26, 27, 28, 29, 30] [31, 32, 33, 34, 35, 36, 37, 38, 39, 40, 41, 42, 43, 44, 45, 46, 47, 48, 49, 50, 51, 52] [22, 23, 24, 25, 26, 27, 28, 29, 30, 31, 32, 33, 34, 35, 36, 37, 38, 39, 40, 41, 42, 43, 44, 45, 46, 47, 48, 49, 50, 51, 52, 0, 1, 2, 3, 4, 5, 6, 7, 8, 9, 10, 11, 12, 13, 14, 15, 16, 17, 18, 19, 20, 21] rfl rfl (by decide) (by decide) (by decide) (fun _ => rfl) (by decide) rfl rfl (Nat.le_of_ble_eq_true rfl) dL_law_274 ⟨hcs.1, hcs.2⟩ (fun _ => ?_)
  show rG p l e room_1 s m args below meth c E A 8 (cells + 1) (slots + 6) Q (dk E aa X1.1 ++ (md E bb X ++ [cJ E oa 1 o])) 277 [(0, .ref b), (1, .ref (aa 0)), (2, .ref (bb 0)), (3, .ref oa), (4, .int (iI i))] [.int (iI k)]
  refine rg_istore (lv' := [(5, .int (iI k)), (0, .ref b), (1, .ref (aa 0)), (2, .ref (bb 0)), (3, .ref oa), (4, .int (iI i))]) C dL_law_277 (by decide) rfl ?_
  refine rg_aload_n C 3 dL_law_279 rfl rfl ?_
  refine rg_aload_n C 1 dL_law_280 rfl rfl ?_
  refine rg_iload C 5 dL_law_281 rfl ?_
  refine rg_iconst C dL_law_283 ?_
  refine rg_iadd C dL_law_284 ?_
  refine rg_sld C hX (by omega) (by omega) dL_law_285 ?_
  refine rg_aload_n C 1 dL_law_286 rfl rfl ?_
  refine rg_iload C 5 dL_law_287 rfl ?_
  refine rg_iconst C dL_law_289 ?_
  refine rg_iadd C dL_law_290 ?_
  refine rg_sld C hX (by omega) (by omega) dL_law_291 ?_
  refine rg_aload_n C 1 dL_law_292 rfl rfl ?_
  refine rg_iload C 5 dL_law_293 rfl ?_
  refine rg_iconst C dL_law_295 ?_
  refine rg_iadd C dL_law_296 ?_
  refine rg_sld C hX (by omega) (by omega) dL_law_297 ?_
  refine rg_aload_n C 1 dL_law_298 rfl rfl ?_
  refine rg_iload C 5 dL_law_299 rfl ?_
  refine rg_iconst C dL_law_301 ?_
  refine rg_iadd C dL_law_302 ?_
  refine rg_sld C hX (by omega) (by omega) dL_law_303 ?_
  refine rg_aload_n C 1 dL_law_304 rfl rfl ?_
  refine rg_iload C 5 dL_law_305 rfl ?_
  refine rg_iconst C dL_law_307 ?_
  refine rg_iadd C dL_law_308 ?_
  refine rg_sld C hX (by omega) (by omega) dL_law_309 ?_
  refine rg_aload_n C 1 dL_law_310 rfl rfl ?_
  refine rg_iload C 5 dL_law_311 rfl ?_
  refine rg_bipush (z := 6) C dL_law_313 rfl ?_
  refine rg_iadd C dL_law_315 ?_
  refine rg_sld C hX (by omega) (by omega) dL_law_316 ?_
  refine rg_callV (As := [.int (iI (sc (i + 1).toNat)), .int (iI (sc (i + 2).toNat)), .int (iI (sc (i + 3).toNat)), .int (iI (sc (i + 4).toNat)), .int (iI (sc (i + 5).toNat)), .int (iI (sc (i + 6).toNat))]) (rest := []) (wr := dk E aa X1.1 ++ [cJ E oa 1 o]) (w' := fun _ => (dk E aa X1.1 ++ (md E bb X1 ++ [cJ E oa 1 o]))) C M2 (rcwV C mX6_right w_709 ⟨Nat.le_of_ble_eq_true rfl, Nat.le_of_ble_eq_true rfl⟩) [31, 32, 33, 34, 35, 36, 37, 38, 39, 40, 41, 42, 43, 44, 45, 46, 47, 48, 49, 50, 51] [0, 1, 2, 3, 4, 5, 6, 7, 8, 9, 10, 11, 12, 13, 14, 15, 16, 17, 18, 19, 20, 21, 22, 23, 24, 25, 26, 27, 28, 29, 30, 52] [0, 1, 2, 3, 4, 5, 6, 7, 8, 9, 10, 11, 12, 13, 14, 15, 16, 17, 18, 19, 20, 21, 22, 23, 24, 25, 26, 27, 28, 29, 30, 32, 33, 34, 35, 36, 37, 38, 39, 40, 41, 42, 43, 44, 45, 46, 47, 48, 49, 50, 51, 52, 31] rfl rfl (by decide) (by decide) (by decide) (fun _ => rfl) (by decide) 0 rfl rfl rfl rfl (Nat.le_of_ble_eq_true rfl) dL_law_317 ⟨hcs.1, hcs.2⟩ (fun _ => ?_)
  show rG p l e room_1 s m args below meth c E A 8 (cells + 1) (slots + 6) Q (dk E aa X1.1 ++ (md E bb X1 ++ [cJ E oa 1 o])) 320 [(5, .int (iI k)), (0, .ref b), (1, .ref (aa 0)), (2, .ref (bb 0)), (3, .ref oa), (4, .int (iI i))] []
  refine rg_aload_n C 3 dL_law_320 rfl rfl ?_
  refine rg_callV (As := []) (rest := []) (wr := dk E aa X1.1 ++ [cJ E oa 1 o]) (w' := fun _ => (dk E aa X1.1 ++ (md E bb X1 ++ [cJ E oa 1 o]))) C (thr_md l E bb X1) (rcwV C mX6_thrown w_693 ⟨Nat.le_of_ble_eq_true rfl, Nat.le_of_ble_eq_true rfl⟩) [31, 32, 33, 34, 35, 36, 37, 38, 39, 40, 41, 42, 43, 44, 45, 46, 47, 48, 49, 50, 51] [0, 1, 2, 3, 4, 5, 6, 7, 8, 9, 10, 11, 12, 13, 14, 15, 16, 17, 18, 19, 20, 21, 22, 23, 24, 25, 26, 27, 28, 29, 30, 52] [0, 1, 2, 3, 4, 5, 6, 7, 8, 9, 10, 11, 12, 13, 14, 15, 16, 17, 18, 19, 20, 21, 22, 23, 24, 25, 26, 27, 28, 29, 30, 32, 33, 34, 35, 36, 37, 38, 39, 40, 41, 42, 43, 44, 45, 46, 47, 48, 49, 50, 51, 52, 31] rfl rfl (by decide) (by decide) (by decide) (fun _ => rfl) (by decide) 0 rfl rfl rfl rfl (Nat.le_of_ble_eq_true rfl) dL_law_321 ⟨hcs.1, hcs.2⟩ (fun _ => ?_)
  show rG p l e room_1 s m args below meth c E A 8 (cells + 1) (slots + 6) Q (dk E aa X1.1 ++ (md E bb X1 ++ [cJ E oa 1 o])) 324 [(5, .int (iI k)), (0, .ref b), (1, .ref (aa 0)), (2, .ref (bb 0)), (3, .ref oa), (4, .int (iI i))] [.int (iI (thr X1))]
  refine rg_iload C 0 dL_law_324 rfl ?_
  refine rg_icmp_eqs (tgt := 331) C (by rw [ht]) dL_law_326 (by decide) ?_
  refine rg_goto (tgt := 1047) C dL_law_331 (by decide) ?_
  refine rG.plv (lv' := [(0, .ref b), (1, .ref (aa 0)), (2, .ref (bb 0)), (3, .ref oa), (4, .int (iI i))]) [1, 2, 3, 4, 5] rfl ?_
  exact kk X1 o hI
set_option maxHeartbeats 4000000 in
set_option maxRecDepth 100000 in
theorem lc_storage {p : Program} {l : Launch} {e : Env} {s : State} {m : MethodId} {args : Array Value} {below : List Frame} {meth : Method} {c : Code} {E : rE} {A : Nat → Prop} {Q : State → Prop} {Ts : List Cond} {b L cells slots : Nat} {sc : Nat → Int} (hl0 : noTr l) (C : rC p s m args c E A 8 code Ts RL) (hz : xW s) (hA : A = va_A [] s.heap.size) (hX : scr s A b L sc) (aa bb : Nat → Nat) (X : WS) (oa : Nat) (o : Nat → Int) (n i : Int) (h : Inv X n) (hn : 0 ≤ n ∧ n ≤ 512) (hi : 0 ≤ i ∧ i + 7 ≤ (L : Int)) (hcs : cells + 1 ≤ 1083 ∧ slots + 6 ≤ 10391) (kk : ∀ (X1 : WS) (o1 : Nat → Int), Inv X1 (n + 1) → rG p l e room_1 s m args below meth c E A 8 (cells + 1) (slots + 6) Q (dk E aa X1.1 ++ (md E bb X1 ++ [cJ E oa 1 o1])) 1047 [(0, .ref b), (1, .ref (aa 0)), (2, .ref (bb 0)), (3, .ref oa), (4, .int (iI i))] []) : rG p l e room_1 s m args below meth c E A 8 cells slots Q (dk E aa X.1 ++ (md E bb X ++ [cJ E oa 1 o])) 334 [(0, .ref b), (1, .ref (aa 0)), (2, .ref (bb 0)), (3, .ref oa), (4, .int (iI i))] [] := by
  have hP0 : va_P E.1 vwCl [] s.heap := fun k q h => by simp at h
  have hL := hX.2.2.2.1
  have hsc := hX.2.2.2.2
  obtain ⟨X1, k, hk, hI, ht, M1, M2⟩ := cs_storage l hl0 E aa bb X n h hn (sc (i + 1).toNat) (sc (i + 2).toNat) (sc (i + 3).toNat) (sc (i + 4).toNat) (sc (i + 5).toNat) (hsc _) (hsc _) (hsc _) (hsc _) (hsc _)
  refine rg_aload_n C 1 dL_law_334 rfl rfl ?_
  refine rg_aload_n C 0 dL_law_335 rfl rfl ?_
  refine rg_iload C 4 dL_law_336 rfl ?_
  refine rg_iconst C dL_law_338 ?_
  refine rg_iadd C dL_law_339 ?_
  refine rg_sld C hX (by omega) (by omega) dL_law_340 ?_
  refine rg_aload_n C 0 dL_law_341 rfl rfl ?_
  refine rg_iload C 4 dL_law_342 rfl ?_
  refine rg_iconst C dL_law_344 ?_
  refine rg_iadd C dL_law_345 ?_
  refine rg_sld C hX (by omega) (by omega) dL_law_346 ?_
  refine rg_aload_n C 0 dL_law_347 rfl rfl ?_
  refine rg_iload C 4 dL_law_348 rfl ?_
  refine rg_iconst C dL_law_350 ?_
  refine rg_iadd C dL_law_351 ?_
  refine rg_sld C hX (by omega) (by omega) dL_law_352 ?_
  refine rg_aload_n C 0 dL_law_353 rfl rfl ?_
  refine rg_iload C 4 dL_law_354 rfl ?_
  refine rg_iconst C dL_law_356 ?_
  refine rg_iadd C dL_law_357 ?_
  refine rg_sld C hX (by omega) (by omega) dL_law_358 ?_
  refine rg_aload_n C 0 dL_law_359 rfl rfl ?_
  refine rg_iload C 4 dL_law_360 rfl ?_
  refine rg_iconst C dL_law_362 ?_
  refine rg_iadd C dL_law_363 ?_
  refine rg_sld C hX (by omega) (by omega) dL_law_364 ?_
  refine rg_callSW (n := 6) (As := [.ref (aa 0), .int (iI (sc (i + 1).toNat)), .int (iI (sc (i + 2).toNat)), .int (iI (sc (i + 3).toNat)), .int (iI (sc (i + 4).toNat)), .int (iI (sc (i + 5).toNat))]) (rest := []) (wr := (md E bb X ++ [cJ E oa 1 o])) (w' := fun _ => (dk E aa X1.1 ++ (md E bb X ++ [cJ E oa 1 o]))) (cin := []) C M1 hz hP0 hA rfl w_518 w_519 w_19 w_520 (by decide +kernel) ⟨Nat.le_of_ble_eq_true rfl, Nat.le_of_ble_eq_true rfl⟩ [0, 1, 2, 3, 4, 5, 6, 7, 8, 9, 10, 11, 12, 13, 14, 15, 16, 17, 18, 19, 20, 21, 22, 23, 24, 25, 26, 27, 28, 29, 30] [31, 32, 33, 34, 35, 36, 37, 38, 39, 40, 41, 42, 43, 44, 45, 46, 47, 48, 49, 50, 51, 52] [22, 23, 24, 25, 26, 27, 28, 29, 30, 31, 32, 33, 34, 35, 36, 37, 38, 39, 40, 41, 42, 43, 44, 45, 46, 47, 48, 49, 50, 51, 52, 0, 1, 2, 3, 4, 5, 6, 7, 8, 9, 10, 11, 12, 13, 14, 15, 16, 17, 18, 19, 20, 21] rfl rfl (by decide) (by decide) (by decide) (fun _ => rfl) (by decide) rfl rfl (Nat.le_of_ble_eq_true rfl) dL_law_365 ⟨hcs.1, hcs.2⟩ (fun _ => ?_)
  show rG p l e room_1 s m args below meth c E A 8 (cells + 1) (slots + 6) Q (dk E aa X1.1 ++ (md E bb X ++ [cJ E oa 1 o])) 368 [(0, .ref b), (1, .ref (aa 0)), (2, .ref (bb 0)), (3, .ref oa), (4, .int (iI i))] [.int (iI k)]
  refine rg_istore (lv' := [(5, .int (iI k)), (0, .ref b), (1, .ref (aa 0)), (2, .ref (bb 0)), (3, .ref oa), (4, .int (iI i))]) C dL_law_368 (by decide) rfl ?_
  refine rg_aload_n C 3 dL_law_370 rfl rfl ?_
  refine rg_aload_n C 1 dL_law_371 rfl rfl ?_
  refine rg_iload C 5 dL_law_372 rfl ?_
  refine rg_iconst C dL_law_374 ?_
  refine rg_iadd C dL_law_375 ?_
  refine rg_sld C hX (by omega) (by omega) dL_law_376 ?_
  refine rg_aload_n C 1 dL_law_377 rfl rfl ?_
  refine rg_iload C 5 dL_law_378 rfl ?_
  refine rg_iconst C dL_law_380 ?_
  refine rg_iadd C dL_law_381 ?_
  refine rg_sld C hX (by omega) (by omega) dL_law_382 ?_
  refine rg_aload_n C 1 dL_law_383 rfl rfl ?_
  refine rg_iload C 5 dL_law_384 rfl ?_
  refine rg_iconst C dL_law_386 ?_
  refine rg_iadd C dL_law_387 ?_
  refine rg_sld C hX (by omega) (by omega) dL_law_388 ?_
  refine rg_aload_n C 1 dL_law_389 rfl rfl ?_
  refine rg_iload C 5 dL_law_390 rfl ?_
  refine rg_iconst C dL_law_392 ?_
  refine rg_iadd C dL_law_393 ?_
  refine rg_sld C hX (by omega) (by omega) dL_law_394 ?_
  refine rg_aload_n C 1 dL_law_395 rfl rfl ?_
  refine rg_iload C 5 dL_law_396 rfl ?_
  refine rg_iconst C dL_law_398 ?_
  refine rg_iadd C dL_law_399 ?_
  refine rg_sld C hX (by omega) (by omega) dL_law_400 ?_
  refine rg_callV (As := [.int (iI (sc (i + 1).toNat)), .int (iI (sc (i + 2).toNat)), .int (iI (sc (i + 3).toNat)), .int (iI (sc (i + 4).toNat)), .int (iI (sc (i + 5).toNat))]) (rest := []) (wr := dk E aa X1.1 ++ [cJ E oa 1 o]) (w' := fun _ => (dk E aa X1.1 ++ (md E bb X1 ++ [cJ E oa 1 o]))) C M2 (rcwV C mX6_storage w_726 ⟨Nat.le_of_ble_eq_true rfl, Nat.le_of_ble_eq_true rfl⟩) [31, 32, 33, 34, 35, 36, 37, 38, 39, 40, 41, 42, 43, 44, 45, 46, 47, 48, 49, 50, 51] [0, 1, 2, 3, 4, 5, 6, 7, 8, 9, 10, 11, 12, 13, 14, 15, 16, 17, 18, 19, 20, 21, 22, 23, 24, 25, 26, 27, 28, 29, 30, 52] [0, 1, 2, 3, 4, 5, 6, 7, 8, 9, 10, 11, 12, 13, 14, 15, 16, 17, 18, 19, 20, 21, 22, 23, 24, 25, 26, 27, 28, 29, 30, 32, 33, 34, 35, 36, 37, 38, 39, 40, 41, 42, 43, 44, 45, 46, 47, 48, 49, 50, 51, 52, 31] rfl rfl (by decide) (by decide) (by decide) (fun _ => rfl) (by decide) 0 rfl rfl rfl rfl (Nat.le_of_ble_eq_true rfl) dL_law_401 ⟨hcs.1, hcs.2⟩ (fun _ => ?_)
  show rG p l e room_1 s m args below meth c E A 8 (cells + 1) (slots + 6) Q (dk E aa X1.1 ++ (md E bb X1 ++ [cJ E oa 1 o])) 404 [(5, .int (iI k)), (0, .ref b), (1, .ref (aa 0)), (2, .ref (bb 0)), (3, .ref oa), (4, .int (iI i))] []
  refine rg_aload_n C 3 dL_law_404 rfl rfl ?_
  refine rg_callV (As := []) (rest := []) (wr := dk E aa X1.1 ++ [cJ E oa 1 o]) (w' := fun _ => (dk E aa X1.1 ++ (md E bb X1 ++ [cJ E oa 1 o]))) C (thr_md l E bb X1) (rcwV C mX6_thrown w_693 ⟨Nat.le_of_ble_eq_true rfl, Nat.le_of_ble_eq_true rfl⟩) [31, 32, 33, 34, 35, 36, 37, 38, 39, 40, 41, 42, 43, 44, 45, 46, 47, 48, 49, 50, 51] [0, 1, 2, 3, 4, 5, 6, 7, 8, 9, 10, 11, 12, 13, 14, 15, 16, 17, 18, 19, 20, 21, 22, 23, 24, 25, 26, 27, 28, 29, 30, 52] [0, 1, 2, 3, 4, 5, 6, 7, 8, 9, 10, 11, 12, 13, 14, 15, 16, 17, 18, 19, 20, 21, 22, 23, 24, 25, 26, 27, 28, 29, 30, 32, 33, 34, 35, 36, 37, 38, 39, 40, 41, 42, 43, 44, 45, 46, 47, 48, 49, 50, 51, 52, 31] rfl rfl (by decide) (by decide) (by decide) (fun _ => rfl) (by decide) 0 rfl rfl rfl rfl (Nat.le_of_ble_eq_true rfl) dL_law_405 ⟨hcs.1, hcs.2⟩ (fun _ => ?_)
  show rG p l e room_1 s m args below meth c E A 8 (cells + 1) (slots + 6) Q (dk E aa X1.1 ++ (md E bb X1 ++ [cJ E oa 1 o])) 408 [(5, .int (iI k)), (0, .ref b), (1, .ref (aa 0)), (2, .ref (bb 0)), (3, .ref oa), (4, .int (iI i))] [.int (iI (thr X1))]
  refine rg_iload C 0 dL_law_408 rfl ?_
  refine rg_icmp_eqs (tgt := 415) C (by rw [ht]) dL_law_410 (by decide) ?_
  refine rg_goto (tgt := 1047) C dL_law_415 (by decide) ?_
  refine rG.plv (lv' := [(0, .ref b), (1, .ref (aa 0)), (2, .ref (bb 0)), (3, .ref oa), (4, .int (iI i))]) [1, 2, 3, 4, 5] rfl ?_
  exact kk X1 o hI
