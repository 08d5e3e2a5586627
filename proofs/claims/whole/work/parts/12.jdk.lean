abbrev rJA_fillI : Room := { frames := 0, cells := 0, slots := 0, locals := 0 }
set_option maxHeartbeats 4000000 in
set_option maxRecDepth 100000 in
/-- Arrays.fill of 32 ints -/
theorem kJA_fillI32 (l : Launch) (E : rE) (q0 : Nat) (f : Nat → Int) (v : Int)  : rM l yJA_fillI sJA_fillI rJA_fillI E [cI E q0 32 f] [.ref q0, .int (iI v)] none (fun _ : Unit => [cI E q0 32 (filZ f v 32)]) := by
  refine rM.of (cc := cJA_fillI) (maxL := 4) (ret := none) (by decide) rfl (Nat.le_of_ble_eq_true rfl) (fun w h => List.mem_cons_of_mem _ h) ?_
  intro p e s m args below meth c A Q hA hQ C hr hlk hnm
  have C : rC p s m args c E A 4 cJA_fillI sJA_fillI RJA := C
  have L5 : ∀ (n : Nat) (k : Int) (h : Nat → Int), (0 ≤ k ∧ k ≤ 32) → (h = filZ f v k.toNat) → ((32 - k).toNat < n) → rG p l e rJA_fillI s m args below meth c E A 4 0 0 Q [cI E q0 32 h] 5 [(0, .ref q0), (1, .int (iI v)), (2, .int (iI k)), (3, .int (iI 32))] [] := by
    intro n
    induction n with
    | zero => intro k h h1 h3 hm; exact absurd hm (Nat.not_lt_zero _)
    | succ n ih =>
      intro k h h1 h3 hm
      refine rg_iload_n C 2 dJA_fillI_5 rfl rfl ?_
      refine rg_iload_n C 3 dJA_fillI_6 rfl rfl ?_
      refine rg_icmp_ge (tgt := 20) C ⟨by omega, by omega⟩ ⟨by decide, by decide⟩ dJA_fillI_7 (by decide) (fun h_7 => ?_) (fun h_7 => ?_)
      · exact rg_vret C hA hQ hr hlk () (by rw [h3, show k.toNat = 32 by omega]) rfl dJA_fillI_20
      · refine rg_aload_n C 0 dJA_fillI_10 rfl rfl ?_
        refine rg_iload_n C 2 dJA_fillI_11 rfl rfl ?_
        refine rg_iload_n C 1 dJA_fillI_12 rfl rfl ?_
        refine rg_iast (ws' := [cI E q0 32 (uZ h k.toNat v)]) C 0 rfl (by decide) (by omega) (by omega) dJA_fillI_13 rfl ?_
        refine rg_iinc (k := 2) (lv' := [(2, .int (iI (k + 1))), (0, .ref q0), (1, .int (iI v)), (3, .int (iI 32))]) C dJA_fillI_14 rfl (by decide) rfl ?_
        refine rg_goto (tgt := 5) C dJA_fillI_17 (by decide) ?_
        refine rG.plv [1, 2, 0, 3] rfl ?_
        exact ih (k + 1) (uZ h k.toNat v) (by omega) (by rw [h3]; exact filZ_s f v h1.1) (by omega)
  show rG p l e rJA_fillI s m args below meth c E A 4 0 0 Q [cI E q0 32 f] 0 [(0, .ref q0), (1, .int (iI v))] []
  refine rg_iconst C dJA_fillI_0 ?_
  refine rg_istore_n (lv' := [(2, .int (iI 0)), (0, .ref q0), (1, .int (iI v))]) C dJA_fillI_1 rfl (by decide) rfl ?_
  refine rg_aload_n C 1 dJA_fillI_2 rfl rfl ?_
  refine rg_leni C 0 rfl dJA_fillI_3 ?_
  refine rg_istore_n (lv' := [(3, .int (iI 32)), (2, .int (iI 0)), (0, .ref q0), (1, .int (iI v))]) C dJA_fillI_4 rfl (by decide) rfl ?_
  refine rG.plv [2, 3, 1, 0] rfl ?_
  exact L5 _ 0 f (by omega) rfl (Nat.lt_succ_self _)
set_option maxHeartbeats 4000000 in
set_option maxRecDepth 100000 in
/-- Arrays.fill of 40 ints -/
theorem kJA_fillI40 (l : Launch) (E : rE) (q0 : Nat) (f : Nat → Int) (v : Int)  : rM l yJA_fillI sJA_fillI rJA_fillI E [cI E q0 40 f] [.ref q0, .int (iI v)] none (fun _ : Unit => [cI E q0 40 (filZ f v 40)]) := by
  refine rM.of (cc := cJA_fillI) (maxL := 4) (ret := none) (by decide) rfl (Nat.le_of_ble_eq_true rfl) (fun w h => List.mem_cons_of_mem _ h) ?_
  intro p e s m args below meth c A Q hA hQ C hr hlk hnm
  have C : rC p s m args c E A 4 cJA_fillI sJA_fillI RJA := C
  have L5 : ∀ (n : Nat) (k : Int) (h : Nat → Int), (0 ≤ k ∧ k ≤ 40) → (h = filZ f v k.toNat) → ((40 - k).toNat < n) → rG p l e rJA_fillI s m args below meth c E A 4 0 0 Q [cI E q0 40 h] 5 [(0, .ref q0), (1, .int (iI v)), (2, .int (iI k)), (3, .int (iI 40))] [] := by
    intro n
    induction n with
    | zero => intro k h h1 h3 hm; exact absurd hm (Nat.not_lt_zero _)
    | succ n ih =>
      intro k h h1 h3 hm
      refine rg_iload_n C 2 dJA_fillI_5 rfl rfl ?_
      refine rg_iload_n C 3 dJA_fillI_6 rfl rfl ?_
      refine rg_icmp_ge (tgt := 20) C ⟨by omega, by omega⟩ ⟨by decide, by decide⟩ dJA_fillI_7 (by decide) (fun h_7 => ?_) (fun h_7 => ?_)
      · exact rg_vret C hA hQ hr hlk () (by rw [h3, show k.toNat = 40 by omega]) rfl dJA_fillI_20
      · refine rg_aload_n C 0 dJA_fillI_10 rfl rfl ?_
        refine rg_iload_n C 2 dJA_fillI_11 rfl rfl ?_
        refine rg_iload_n C 1 dJA_fillI_12 rfl rfl ?_
        refine rg_iast (ws' := [cI E q0 40 (uZ h k.toNat v)]) C 0 rfl (by decide) (by omega) (by omega) dJA_fillI_13 rfl ?_
        refine rg_iinc (k := 2) (lv' := [(2, .int (iI (k + 1))), (0, .ref q0), (1, .int (iI v)), (3, .int (iI 40))]) C dJA_fillI_14 rfl (by decide) rfl ?_
        refine rg_goto (tgt := 5) C dJA_fillI_17 (by decide) ?_
        refine rG.plv [1, 2, 0, 3] rfl ?_
        exact ih (k + 1) (uZ h k.toNat v) (by omega) (by rw [h3]; exact filZ_s f v h1.1) (by omega)
  show rG p l e rJA_fillI s m args below meth c E A 4 0 0 Q [cI E q0 40 f] 0 [(0, .ref q0), (1, .int (iI v))] []
  refine rg_iconst C dJA_fillI_0 ?_
  refine rg_istore_n (lv' := [(2, .int (iI 0)), (0, .ref q0), (1, .int (iI v))]) C dJA_fillI_1 rfl (by decide) rfl ?_
  refine rg_aload_n C 1 dJA_fillI_2 rfl rfl ?_
  refine rg_leni C 0 rfl dJA_fillI_3 ?_
  refine rg_istore_n (lv' := [(3, .int (iI 40)), (2, .int (iI 0)), (0, .ref q0), (1, .int (iI v))]) C dJA_fillI_4 rfl (by decide) rfl ?_
  refine rG.plv [2, 3, 1, 0] rfl ?_
  exact L5 _ 0 f (by omega) rfl (Nat.lt_succ_self _)
abbrev rJA_fillJ : Room := { frames := 0, cells := 0, slots := 0, locals := 0 }
set_option maxHeartbeats 4000000 in
set_option maxRecDepth 100000 in
/-- Arrays.fill of 32 longs -/
theorem kJA_fillJ32 (l : Launch) (E : rE) (q0 : Nat) (f : Nat → Int) (v : Int)  : rM l yJA_fillJ sJA_fillJ rJA_fillJ E [cJ E q0 32 f] [.ref q0, .long (lI v)] none (fun _ : Unit => [cJ E q0 32 (filZ f v 32)]) := by
  refine rM.of (cc := cJA_fillJ) (maxL := 5) (ret := none) (by decide) rfl (Nat.le_of_ble_eq_true rfl) (fun w h => List.mem_cons_of_mem _ h) ?_
  intro p e s m args below meth c A Q hA hQ C hr hlk hnm
  have C : rC p s m args c E A 5 cJA_fillJ sJA_fillJ RJA := C
  have L6 : ∀ (n : Nat) (k : Int) (h : Nat → Int), (0 ≤ k ∧ k ≤ 32) → (h = filZ f v k.toNat) → ((32 - k).toNat < n) → rG p l e rJA_fillJ s m args below meth c E A 5 0 0 Q [cJ E q0 32 h] 6 [(0, .ref q0), (1, .long (lI v)), (3, .int (iI k)), (4, .int (iI 32))] [] := by
    intro n
    induction n with
    | zero => intro k h h1 h3 hm; exact absurd hm (Nat.not_lt_zero _)
    | succ n ih =>
      intro k h h1 h3 hm
      refine rg_iload_n C 2 dJA_fillJ_6 rfl rfl ?_
      refine rg_iload C 3 dJA_fillJ_7 rfl ?_
      refine rg_icmp_ge (tgt := 22) C ⟨by omega, by omega⟩ ⟨by decide, by decide⟩ dJA_fillJ_9 (by decide) (fun h_9 => ?_) (fun h_9 => ?_)
      · exact rg_vret C hA hQ hr hlk () (by rw [h3, show k.toNat = 32 by omega]) rfl dJA_fillJ_22
      · refine rg_aload_n C 0 dJA_fillJ_12 rfl rfl ?_
        refine rg_iload_n C 2 dJA_fillJ_13 rfl rfl ?_
        refine rg_lload_n C 1 dJA_fillJ_14 rfl rfl ?_
        refine rg_last (ws' := [cJ E q0 32 (uZ h k.toNat v)]) C 0 rfl (by decide) (by omega) (by omega) dJA_fillJ_15 rfl ?_
        refine rg_iinc (k := 2) (lv' := [(3, .int (iI (k + 1))), (0, .ref q0), (1, .long (lI v)), (4, .int (iI 32))]) C dJA_fillJ_16 rfl (by decide) rfl ?_
        refine rg_goto (tgt := 6) C dJA_fillJ_19 (by decide) ?_
        refine rG.plv [1, 2, 0, 3] rfl ?_
        exact ih (k + 1) (uZ h k.toNat v) (by omega) (by rw [h3]; exact filZ_s f v h1.1) (by omega)
  show rG p l e rJA_fillJ s m args below meth c E A 5 0 0 Q [cJ E q0 32 f] 0 [(0, .ref q0), (1, .long (lI v))] []
  refine rg_iconst C dJA_fillJ_0 ?_
  refine rg_istore_n (lv' := [(3, .int (iI 0)), (0, .ref q0), (1, .long (lI v))]) C dJA_fillJ_1 rfl (by decide) rfl ?_
  refine rg_aload_n C 1 dJA_fillJ_2 rfl rfl ?_
  refine rg_lenj C 0 rfl dJA_fillJ_3 ?_
  refine rg_istore (lv' := [(4, .int (iI 32)), (3, .int (iI 0)), (0, .ref q0), (1, .long (lI v))]) C dJA_fillJ_4 (by decide) rfl ?_
  refine rG.plv [2, 3, 1, 0] rfl ?_
  exact L6 _ 0 f (by omega) rfl (Nat.lt_succ_self _)
abbrev rJM_min : Room := { frames := 0, cells := 0, slots := 0, locals := 0 }
set_option maxHeartbeats 4000000 in
set_option maxRecDepth 100000 in
/-- Math.min of longs -/
theorem kJM_min (l : Launch) (E : rE) (x : Int) (y : Int) (hx : inL x) (hy : inL y) : rM l yJM_min sJM_min rJM_min E [] [.long (lI x), .long (lI y)] (some (.long (lI (min x y)))) (fun _ : Unit => []) := by
  refine rM.ofF (cc := cJM_min) (maxL := 4) (ret := (some FieldType.long)) (by decide +kernel) rfl (Nat.le_of_ble_eq_true rfl) (fun w h => List.mem_cons_of_mem _ h) ?_
  intro p e s m args below meth c A Q hA hQ C hr hlk hnm
  have C : rC p s m args c E A 4 cJM_min sJM_min RJM := C
  show rG p l e rJM_min s m args below meth c E A 4 0 0 Q [] 0 [(0, .long (lI x)), (2, .long (lI y))] []
  refine rg_lload_n C 0 dJM_min_0 rfl rfl ?_
  refine rg_lload_n C 1 dJM_min_1 rfl rfl ?_
  refine rg_lcmp_gt (tgt := 10) C hx hy dJM_min_2 dJM_min_3 (by decide) (fun h_2 => ?_) (fun h_2 => ?_)
  · refine rg_lload_n C 1 dJM_min_10 rfl rfl ?_
    exact rg_lret C hA hQ hr hlk () rfl (by rw [show min x y = y by omega]) dJM_min_11
  · refine rg_lload_n C 0 dJM_min_6 rfl rfl ?_
    refine rg_goto (tgt := 11) C dJM_min_7 (by decide) ?_
    exact rg_lret C hA hQ hr hlk () rfl (by rw [show min x y = x by omega]) dJM_min_11
abbrev rJM_floorMod : Room := { frames := 0, cells := 0, slots := 0, locals := 0 }
set_option maxHeartbeats 4000000 in
set_option maxRecDepth 100000 in
/-- Math.floorMod where neither is below 0 -/
theorem kJM_floorMod (l : Launch) (E : rE) (x : Int) (y : Int) (hx : 0 ≤ x ∧ x ≤ 2147483647) (hy : 0 < y ∧ y ≤ 2147483647) : rM l yJM_floorMod sJM_floorMod rJM_floorMod E [] [.int (iI x), .int (iI y)] (some (.int (iI (x % y)))) (fun _ : Unit => []) := by
  refine rM.ofF (cc := cJM_floorMod) (maxL := 3) (ret := (some FieldType.int)) (by decide +kernel) rfl (Nat.le_of_ble_eq_true rfl) (fun w h => List.mem_cons_of_mem _ h) ?_
  intro p e s m args below meth c A Q hA hQ C hr hlk hnm
  have C : rC p s m args c E A 3 cJM_floorMod sJM_floorMod RJM := C
  show rG p l e rJM_floorMod s m args below meth c E A 3 0 0 Q [] 0 [(0, .int (iI x)), (1, .int (iI y))] []
  refine rg_iload_n C 0 dJM_floorMod_0 rfl rfl ?_
  refine rg_iload_n C 1 dJM_floorMod_1 rfl rfl ?_
  refine rg_irem C ⟨by omega, by omega⟩ (by omega) (by omega) ⟨by omega, by omega⟩ dJM_floorMod_2 ?_
  refine rg_istore_n (lv' := [(2, .int (iI (x % y))), (0, .int (iI x)), (1, .int (iI y))]) C dJM_floorMod_3 rfl (by decide) rfl ?_
  refine rg_iload_n C 1 dJM_floorMod_4 rfl rfl ?_
  refine rg_iload_n C 2 dJM_floorMod_5 rfl rfl ?_
  refine rg_ixor C (by omega) (by omega) dJM_floorMod_6 (fun z_6 hz_6 => ?_)
  refine rg_if_ge (tgt := 18) C ⟨by omega, by omega⟩ dJM_floorMod_7 (by decide) (fun h_7 => ?_) (fun h_7 => absurd h_7 (by omega))
  refine rg_iload_n C 0 dJM_floorMod_18 rfl rfl ?_
  exact rg_iret C hA hQ hr hlk () rfl rfl dJM_floorMod_19
