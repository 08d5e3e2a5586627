abbrev rX3_setDirect : Room := { frames := 0, cells := 0, slots := 0, locals := 0 }
set_option maxHeartbeats 4000000 in
set_option maxRecDepth 100000 in
/-- Rights.setDirect -/
theorem kX3_setDirect (l : Launch) (E : rE) (q0 : Nat) (q1 : Nat) (q2 : Nat) (q3 : Nat) (q4 : Nat) (q5 : Nat) (q6 : Nat) (q7 : Nat) (q8 : Nat) (q9 : Nat) (g : Nat → Int) (pl : Nat → Int) (pr : Nat → Int) (ra : Nat → Int) (wn : Nat → Int) (sh : Nat → Int) (rt : Nat → Int) (st : Nat → Int) (ag : Nat → Int) (cn : Int) (r : Int) (a : Int) (b : Int) (hri : 0 ≤ r ∧ r < 40) : rM l yX3_setDirect sX3_setDirect rX3_setDirect E [cO q0 3 [.ref q1, .ref q2, .ref q3, .ref q4, .ref q5, .ref q6, .ref q7, .ref q8, .ref q9, .int (iI cn)], cZ E q1 40 g, cI E q2 40 pl, cI E q3 40 pr, cI E q4 40 ra, cI E q5 40 wn, cI E q6 40 sh, cI E q7 40 rt, cI E q8 40 st, cI E q9 40 ag] [.ref q0, .int (iI r), .int (iI a), .int (iI b)] none (fun _ : Unit => [cO q0 3 [.ref q1, .ref q2, .ref q3, .ref q4, .ref q5, .ref q6, .ref q7, .ref q8, .ref q9, .int (iI cn)], cZ E q1 40 g, cI E q2 40 pl, cI E q3 40 pr, cI E q4 40 ra, cI E q5 40 wn, cI E q6 40 (uZ sh r.toNat a), cI E q7 40 (uZ rt r.toNat b), cI E q8 40 (uZ st r.toNat (-1)), cI E q9 40 ag]) := by
  refine rM.of (cc := cX3_setDirect) (maxL := 4) (ret := none) (by decide) rfl (Nat.le_of_ble_eq_true rfl) (fun w h => List.mem_cons_of_mem _ h) ?_
  intro p e s m args below meth c A Q hA hQ C hr hlk hnm
  have C : rC p s m args c E A 4 cX3_setDirect sX3_setDirect RX3 := C
  show rG p l e rX3_setDirect s m args below meth c E A 4 0 0 Q [cO q0 3 [.ref q1, .ref q2, .ref q3, .ref q4, .ref q5, .ref q6, .ref q7, .ref q8, .ref q9, .int (iI cn)], cZ E q1 40 g, cI E q2 40 pl, cI E q3 40 pr, cI E q4 40 ra, cI E q5 40 wn, cI E q6 40 sh, cI E q7 40 rt, cI E q8 40 st, cI E q9 40 ag] 0 [(0, .ref q0), (1, .int (iI r)), (2, .int (iI a)), (3, .int (iI b))] []
  refine rg_aload_n C 0 dX3_setDirect_0 rfl rfl ?_
  refine rg_get C fX3_28 0 rfl rfl dX3_setDirect_1 ?_
  refine rg_iload_n C 1 dX3_setDirect_4 rfl rfl ?_
  refine rg_iload_n C 2 dX3_setDirect_5 rfl rfl ?_
  refine rg_iast (ws' := [cO q0 3 [.ref q1, .ref q2, .ref q3, .ref q4, .ref q5, .ref q6, .ref q7, .ref q8, .ref q9, .int (iI cn)], cZ E q1 40 g, cI E q2 40 pl, cI E q3 40 pr, cI E q4 40 ra, cI E q5 40 wn, cI E q6 40 (uZ sh r.toNat a), cI E q7 40 rt, cI E q8 40 st, cI E q9 40 ag]) C 6 rfl (by decide) (by omega) (by omega) dX3_setDirect_6 rfl ?_
  refine rg_aload_n C 0 dX3_setDirect_7 rfl rfl ?_
  refine rg_get C fX3_31 0 rfl rfl dX3_setDirect_8 ?_
  refine rg_iload_n C 1 dX3_setDirect_11 rfl rfl ?_
  refine rg_iload_n C 3 dX3_setDirect_12 rfl rfl ?_
  refine rg_iast (ws' := [cO q0 3 [.ref q1, .ref q2, .ref q3, .ref q4, .ref q5, .ref q6, .ref q7, .ref q8, .ref q9, .int (iI cn)], cZ E q1 40 g, cI E q2 40 pl, cI E q3 40 pr, cI E q4 40 ra, cI E q5 40 wn, cI E q6 40 (uZ sh r.toNat a), cI E q7 40 (uZ rt r.toNat b), cI E q8 40 st, cI E q9 40 ag]) C 7 rfl (by decide) (by omega) (by omega) dX3_setDirect_13 rfl ?_
  refine rg_aload_n C 0 dX3_setDirect_14 rfl rfl ?_
  refine rg_get C fX3_34 0 rfl rfl dX3_setDirect_15 ?_
  refine rg_iload_n C 1 dX3_setDirect_18 rfl rfl ?_
  refine rg_iconst C dX3_setDirect_19 ?_
  refine rg_iast (ws' := [cO q0 3 [.ref q1, .ref q2, .ref q3, .ref q4, .ref q5, .ref q6, .ref q7, .ref q8, .ref q9, .int (iI cn)], cZ E q1 40 g, cI E q2 40 pl, cI E q3 40 pr, cI E q4 40 ra, cI E q5 40 wn, cI E q6 40 (uZ sh r.toNat a), cI E q7 40 (uZ rt r.toNat b), cI E q8 40 (uZ st r.toNat (-1)), cI E q9 40 ag]) C 8 rfl (by decide) (by omega) (by omega) dX3_setDirect_20 rfl ?_
  exact rg_vret C hA hQ hr hlk () rfl rfl dX3_setDirect_21
abbrev rX3_setStorage : Room := { frames := 0, cells := 0, slots := 0, locals := 0 }
set_option maxHeartbeats 4000000 in
set_option maxRecDepth 100000 in
/-- Rights.setStorage -/
theorem kX3_setStorage (l : Launch) (E : rE) (q0 : Nat) (q1 : Nat) (q2 : Nat) (q3 : Nat) (q4 : Nat) (q5 : Nat) (q6 : Nat) (q7 : Nat) (q8 : Nat) (q9 : Nat) (g : Nat → Int) (pl : Nat → Int) (pr : Nat → Int) (ra : Nat → Int) (wn : Nat → Int) (sh : Nat → Int) (rt : Nat → Int) (st : Nat → Int) (ag : Nat → Int) (cn : Int) (r : Int) (a : Int) (hri : 0 ≤ r ∧ r < 40) : rM l yX3_setStorage sX3_setStorage rX3_setStorage E [cO q0 3 [.ref q1, .ref q2, .ref q3, .ref q4, .ref q5, .ref q6, .ref q7, .ref q8, .ref q9, .int (iI cn)], cZ E q1 40 g, cI E q2 40 pl, cI E q3 40 pr, cI E q4 40 ra, cI E q5 40 wn, cI E q6 40 sh, cI E q7 40 rt, cI E q8 40 st, cI E q9 40 ag] [.ref q0, .int (iI r), .int (iI a)] none (fun _ : Unit => [cO q0 3 [.ref q1, .ref q2, .ref q3, .ref q4, .ref q5, .ref q6, .ref q7, .ref q8, .ref q9, .int (iI cn)], cZ E q1 40 g, cI E q2 40 pl, cI E q3 40 pr, cI E q4 40 ra, cI E q5 40 wn, cI E q6 40 (uZ sh r.toNat (-1)), cI E q7 40 (uZ rt r.toNat (-1)), cI E q8 40 (uZ st r.toNat a), cI E q9 40 ag]) := by
  refine rM.of (cc := cX3_setStorage) (maxL := 3) (ret := none) (by decide) rfl (Nat.le_of_ble_eq_true rfl) (fun w h => List.mem_cons_of_mem _ h) ?_
  intro p e s m args below meth c A Q hA hQ C hr hlk hnm
  have C : rC p s m args c E A 3 cX3_setStorage sX3_setStorage RX3 := C
  show rG p l e rX3_setStorage s m args below meth c E A 3 0 0 Q [cO q0 3 [.ref q1, .ref q2, .ref q3, .ref q4, .ref q5, .ref q6, .ref q7, .ref q8, .ref q9, .int (iI cn)], cZ E q1 40 g, cI E q2 40 pl, cI E q3 40 pr, cI E q4 40 ra, cI E q5 40 wn, cI E q6 40 sh, cI E q7 40 rt, cI E q8 40 st, cI E q9 40 ag] 0 [(0, .ref q0), (1, .int (iI r)), (2, .int (iI a))] []
  refine rg_aload_n C 0 dX3_setStorage_0 rfl rfl ?_
  refine rg_get C fX3_28 0 rfl rfl dX3_setStorage_1 ?_
  refine rg_iload_n C 1 dX3_setStorage_4 rfl rfl ?_
  refine rg_iconst C dX3_setStorage_5 ?_
  refine rg_iast (ws' := [cO q0 3 [.ref q1, .ref q2, .ref q3, .ref q4, .ref q5, .ref q6, .ref q7, .ref q8, .ref q9, .int (iI cn)], cZ E q1 40 g, cI E q2 40 pl, cI E q3 40 pr, cI E q4 40 ra, cI E q5 40 wn, cI E q6 40 (uZ sh r.toNat (-1)), cI E q7 40 rt, cI E q8 40 st, cI E q9 40 ag]) C 6 rfl (by decide) (by omega) (by omega) dX3_setStorage_6 rfl ?_
  refine rg_aload_n C 0 dX3_setStorage_7 rfl rfl ?_
  refine rg_get C fX3_31 0 rfl rfl dX3_setStorage_8 ?_
  refine rg_iload_n C 1 dX3_setStorage_11 rfl rfl ?_
  refine rg_iconst C dX3_setStorage_12 ?_
  refine rg_iast (ws' := [cO q0 3 [.ref q1, .ref q2, .ref q3, .ref q4, .ref q5, .ref q6, .ref q7, .ref q8, .ref q9, .int (iI cn)], cZ E q1 40 g, cI E q2 40 pl, cI E q3 40 pr, cI E q4 40 ra, cI E q5 40 wn, cI E q6 40 (uZ sh r.toNat (-1)), cI E q7 40 (uZ rt r.toNat (-1)), cI E q8 40 st, cI E q9 40 ag]) C 7 rfl (by decide) (by omega) (by omega) dX3_setStorage_13 rfl ?_
  refine rg_aload_n C 0 dX3_setStorage_14 rfl rfl ?_
  refine rg_get C fX3_34 0 rfl rfl dX3_setStorage_15 ?_
  refine rg_iload_n C 1 dX3_setStorage_18 rfl rfl ?_
  refine rg_iload_n C 2 dX3_setStorage_19 rfl rfl ?_
  refine rg_iast (ws' := [cO q0 3 [.ref q1, .ref q2, .ref q3, .ref q4, .ref q5, .ref q6, .ref q7, .ref q8, .ref q9, .int (iI cn)], cZ E q1 40 g, cI E q2 40 pl, cI E q3 40 pr, cI E q4 40 ra, cI E q5 40 wn, cI E q6 40 (uZ sh r.toNat (-1)), cI E q7 40 (uZ rt r.toNat (-1)), cI E q8 40 (uZ st r.toNat a), cI E q9 40 ag]) C 8 rfl (by decide) (by omega) (by omega) dX3_setStorage_20 rfl ?_
  exact rg_vret C hA hQ hr hlk () rfl rfl dX3_setStorage_21
abbrev rX3_isStorage : Room := { frames := 0, cells := 0, slots := 0, locals := 0 }
set_option maxHeartbeats 4000000 in
set_option maxRecDepth 100000 in
/-- Rights.isStorage -/
theorem kX3_isStorage (l : Launch) (E : rE) (q0 : Nat) (q1 : Nat) (q2 : Nat) (q3 : Nat) (q4 : Nat) (q5 : Nat) (q6 : Nat) (q7 : Nat) (q8 : Nat) (q9 : Nat) (g : Nat → Int) (pl : Nat → Int) (pr : Nat → Int) (ra : Nat → Int) (wn : Nat → Int) (sh : Nat → Int) (rt : Nat → Int) (st : Nat → Int) (ag : Nat → Int) (cn : Int) (r : Int) (hri : 0 ≤ r ∧ r < 40) (hst : ∀ i : Nat, i < 40 → inI (st i)) : rM l yX3_isStorage sX3_isStorage rX3_isStorage E [cO q0 3 [.ref q1, .ref q2, .ref q3, .ref q4, .ref q5, .ref q6, .ref q7, .ref q8, .ref q9, .int (iI cn)], cZ E q1 40 g, cI E q2 40 pl, cI E q3 40 pr, cI E q4 40 ra, cI E q5 40 wn, cI E q6 40 sh, cI E q7 40 rt, cI E q8 40 st, cI E q9 40 ag] [.ref q0, .int (iI r)] (some (.int (iI (bZ (decide (st r.toNat ≠ -1)))))) (fun _ : Unit => [cO q0 3 [.ref q1, .ref q2, .ref q3, .ref q4, .ref q5, .ref q6, .ref q7, .ref q8, .ref q9, .int (iI cn)], cZ E q1 40 g, cI E q2 40 pl, cI E q3 40 pr, cI E q4 40 ra, cI E q5 40 wn, cI E q6 40 sh, cI E q7 40 rt, cI E q8 40 st, cI E q9 40 ag]) := by
  refine rM.of (cc := cX3_isStorage) (maxL := 2) (ret := (some FieldType.boolean)) (by decide) rfl (Nat.le_of_ble_eq_true rfl) (fun w h => List.mem_cons_of_mem _ h) ?_
  intro p e s m args below meth c A Q hA hQ C hr hlk hnm
  have C : rC p s m args c E A 2 cX3_isStorage sX3_isStorage RX3 := C
  show rG p l e rX3_isStorage s m args below meth c E A 2 0 0 Q [cO q0 3 [.ref q1, .ref q2, .ref q3, .ref q4, .ref q5, .ref q6, .ref q7, .ref q8, .ref q9, .int (iI cn)], cZ E q1 40 g, cI E q2 40 pl, cI E q3 40 pr, cI E q4 40 ra, cI E q5 40 wn, cI E q6 40 sh, cI E q7 40 rt, cI E q8 40 st, cI E q9 40 ag] 0 [(0, .ref q0), (1, .int (iI r))] []
  refine rg_aload_n C 0 dX3_isStorage_0 rfl rfl ?_
  refine rg_get C fX3_34 0 rfl rfl dX3_isStorage_1 ?_
  refine rg_iload_n C 1 dX3_isStorage_4 rfl rfl ?_
  refine rg_iald C 8 rfl (by decide) (by omega) (by omega) dX3_isStorage_5 ?_
  refine rg_iconst C dX3_isStorage_6 ?_
  refine rg_icmp_eq (tgt := 14) C (hst r.toNat (by omega)) ⟨by decide, by decide⟩ dX3_isStorage_7 (by decide) (fun h_7 => ?_) (fun h_7 => ?_)
  · refine rg_iconst C dX3_isStorage_14 ?_
    exact rg_zret C hA hQ hr hlk () rfl (by first | rfl | decide | exact (bZ_nar _)) (by rw [decide_eq_false (fun q => q (by omega))]; rfl) dX3_isStorage_15
  · refine rg_iconst C dX3_isStorage_10 ?_
    refine rg_goto (tgt := 15) C dX3_isStorage_11 (by decide) ?_
    exact rg_zret C hA hQ hr hlk () rfl (by first | rfl | decide | exact (bZ_nar _)) (by rw [decide_eq_true (show st r.toNat ≠ -1 by omega)]; rfl) dX3_isStorage_15
abbrev rX3_usedOf : Room := { frames := 0, cells := 0, slots := 0, locals := 0 }
set_option maxHeartbeats 4000000 in
set_option maxRecDepth 100000 in
/-- Rights.usedOf -/
theorem kX3_usedOf (l : Launch) (E : rE) (q0 : Nat) (q1 : Nat) (q2 : Nat) (q3 : Nat) (q4 : Nat) (q5 : Nat) (q6 : Nat) (q7 : Nat) (q8 : Nat) (q9 : Nat) (g : Nat → Int) (pl : Nat → Int) (pr : Nat → Int) (ra : Nat → Int) (wn : Nat → Int) (sh : Nat → Int) (rt : Nat → Int) (st : Nat → Int) (ag : Nat → Int) (cn : Int) (r : Int) (am : Int) (hri : 0 ≤ r ∧ r < 40) (hsh : 0 ≤ sh r.toNat ∧ sh r.toNat ≤ 1000) (ham : 0 ≤ am ∧ am ≤ 1000000000) : rM l yX3_usedOf sX3_usedOf rX3_usedOf E [cO q0 3 [.ref q1, .ref q2, .ref q3, .ref q4, .ref q5, .ref q6, .ref q7, .ref q8, .ref q9, .int (iI cn)], cZ E q1 40 g, cI E q2 40 pl, cI E q3 40 pr, cI E q4 40 ra, cI E q5 40 wn, cI E q6 40 sh, cI E q7 40 rt, cI E q8 40 st, cI E q9 40 ag] [.ref q0, .int (iI r), .int (iI am)] (some (.long (lI (am - am * sh r.toNat / 1000)))) (fun _ : Unit => [cO q0 3 [.ref q1, .ref q2, .ref q3, .ref q4, .ref q5, .ref q6, .ref q7, .ref q8, .ref q9, .int (iI cn)], cZ E q1 40 g, cI E q2 40 pl, cI E q3 40 pr, cI E q4 40 ra, cI E q5 40 wn, cI E q6 40 sh, cI E q7 40 rt, cI E q8 40 st, cI E q9 40 ag]) := by
  refine rM.of (cc := cX3_usedOf) (maxL := 3) (ret := (some FieldType.long)) (by decide) rfl (Nat.le_of_ble_eq_true rfl) (fun w h => List.mem_cons_of_mem _ h) ?_
  intro p e s m args below meth c A Q hA hQ C hr hlk hnm
  have C : rC p s m args c E A 3 cX3_usedOf sX3_usedOf RX3 := C
  have hml : am * sh r.toNat ≤ am * 1000 := Int.mul_le_mul_of_nonneg_left hsh.2 ham.1
  have hmn : 0 ≤ am * sh r.toNat := Int.mul_nonneg ham.1 hsh.1
  show rG p l e rX3_usedOf s m args below meth c E A 3 0 0 Q [cO q0 3 [.ref q1, .ref q2, .ref q3, .ref q4, .ref q5, .ref q6, .ref q7, .ref q8, .ref q9, .int (iI cn)], cZ E q1 40 g, cI E q2 40 pl, cI E q3 40 pr, cI E q4 40 ra, cI E q5 40 wn, cI E q6 40 sh, cI E q7 40 rt, cI E q8 40 st, cI E q9 40 ag] 0 [(0, .ref q0), (1, .int (iI r)), (2, .int (iI am))] []
  refine rg_iload_n C 2 dX3_usedOf_0 rfl rfl ?_
  refine rg_i2l C ⟨by omega, by omega⟩ dX3_usedOf_1 ?_
  refine rg_iload_n C 2 dX3_usedOf_2 rfl rfl ?_
  refine rg_i2l C ⟨by omega, by omega⟩ dX3_usedOf_3 ?_
  refine rg_aload_n C 0 dX3_usedOf_4 rfl rfl ?_
  refine rg_get C fX3_28 0 rfl rfl dX3_usedOf_5 ?_
  refine rg_iload_n C 1 dX3_usedOf_8 rfl rfl ?_
  refine rg_iald C 6 rfl (by decide) (by omega) (by omega) dX3_usedOf_9 ?_
  refine rg_i2l C ⟨by omega, by omega⟩ dX3_usedOf_10 ?_
  refine rg_lmul C dX3_usedOf_11 ?_
  refine rg_ldc2 (v := 1000) (z := 1000) C (by decide +kernel) (by decide) dX3_usedOf_12 ?_
  refine rg_ldiv C ⟨by omega, by omega⟩ (by omega) (by omega) ⟨by decide, by decide⟩ dX3_usedOf_15 ?_
  refine rg_lsub C dX3_usedOf_16 ?_
  exact rg_lret C hA hQ hr hlk () rfl rfl dX3_usedOf_17
abbrev rX3_mostForUse : Room := { frames := 0, cells := 0, slots := 0, locals := 0 }
set_option maxHeartbeats 4000000 in
set_option maxRecDepth 100000 in
/-- Rights.mostForUse -/
theorem kX3_mostForUse (l : Launch) (E : rE) (q0 : Nat) (q1 : Nat) (q2 : Nat) (q3 : Nat) (q4 : Nat) (q5 : Nat) (q6 : Nat) (q7 : Nat) (q8 : Nat) (q9 : Nat) (g : Nat → Int) (pl : Nat → Int) (pr : Nat → Int) (ra : Nat → Int) (wn : Nat → Int) (sh : Nat → Int) (rt : Nat → Int) (st : Nat → Int) (ag : Nat → Int) (cn : Int) (r : Int) (us : Int) (hri : 0 ≤ r ∧ r < 40) (hsh : 0 ≤ sh r.toNat ∧ sh r.toNat ≤ 1000) (hus : 0 ≤ us ∧ us ≤ 1000000000000) : rM l yX3_mostForUse sX3_mostForUse rX3_mostForUse E [cO q0 3 [.ref q1, .ref q2, .ref q3, .ref q4, .ref q5, .ref q6, .ref q7, .ref q8, .ref q9, .int (iI cn)], cZ E q1 40 g, cI E q2 40 pl, cI E q3 40 pr, cI E q4 40 ra, cI E q5 40 wn, cI E q6 40 sh, cI E q7 40 rt, cI E q8 40 st, cI E q9 40 ag] [.ref q0, .int (iI r), .long (lI us)] (some (.long (lI (if 1000 - sh r.toNat ≤ 0 then 1000000000 else us * 1000 / (1000 - sh r.toNat))))) (fun _ : Unit => [cO q0 3 [.ref q1, .ref q2, .ref q3, .ref q4, .ref q5, .ref q6, .ref q7, .ref q8, .ref q9, .int (iI cn)], cZ E q1 40 g, cI E q2 40 pl, cI E q3 40 pr, cI E q4 40 ra, cI E q5 40 wn, cI E q6 40 sh, cI E q7 40 rt, cI E q8 40 st, cI E q9 40 ag]) := by
  refine rM.of (cc := cX3_mostForUse) (maxL := 5) (ret := (some FieldType.long)) (by decide) rfl (Nat.le_of_ble_eq_true rfl) (fun w h => List.mem_cons_of_mem _ h) ?_
  intro p e s m args below meth c A Q hA hQ C hr hlk hnm
  have C : rC p s m args c E A 5 cX3_mostForUse sX3_mostForUse RX3 := C
  show rG p l e rX3_mostForUse s m args below meth c E A 5 0 0 Q [cO q0 3 [.ref q1, .ref q2, .ref q3, .ref q4, .ref q5, .ref q6, .ref q7, .ref q8, .ref q9, .int (iI cn)], cZ E q1 40 g, cI E q2 40 pl, cI E q3 40 pr, cI E q4 40 ra, cI E q5 40 wn, cI E q6 40 sh, cI E q7 40 rt, cI E q8 40 st, cI E q9 40 ag] 0 [(0, .ref q0), (1, .int (iI r)), (2, .long (lI us))] []
  refine rg_sipush (z := 1000) C dX3_mostForUse_0 (by decide) ?_
  refine rg_aload_n C 0 dX3_mostForUse_3 rfl rfl ?_
  refine rg_get C fX3_28 0 rfl rfl dX3_mostForUse_4 ?_
  refine rg_iload_n C 1 dX3_mostForUse_7 rfl rfl ?_
  refine rg_iald C 6 rfl (by decide) (by omega) (by omega) dX3_mostForUse_8 ?_
  refine rg_isub C dX3_mostForUse_9 ?_
  refine rg_istore (lv' := [(4, .int (iI (1000 - (sh r.toNat)))), (0, .ref q0), (1, .int (iI r)), (2, .long (lI us))]) C dX3_mostForUse_10 (by decide) rfl ?_
  refine rg_iload C 0 dX3_mostForUse_12 rfl ?_
  refine rg_if_gt (tgt := 23) C ⟨by omega, by omega⟩ dX3_mostForUse_14 (by decide) (fun h_14 => ?_) (fun h_14 => ?_)
  · refine rg_lload_n C 3 dX3_mostForUse_23 rfl rfl ?_
    refine rg_ldc2 (v := 1000) (z := 1000) C (by decide +kernel) (by decide) dX3_mostForUse_24 ?_
    refine rg_lmul C dX3_mostForUse_27 ?_
    refine rg_iload C 0 dX3_mostForUse_28 rfl ?_
    refine rg_i2l C ⟨by omega, by omega⟩ dX3_mostForUse_30 ?_
    refine rg_ldiv C ⟨by omega, by omega⟩ (by omega) (by omega) ⟨by omega, by omega⟩ dX3_mostForUse_31 ?_
    exact rg_lret C hA hQ hr hlk () rfl (by rw [if_neg (by omega)]) dX3_mostForUse_32
  · refine rg_ldc2 (v := 1000000000) (z := 1000000000) C (by decide +kernel) (by decide) dX3_mostForUse_17 ?_
    refine rg_goto (tgt := 32) C dX3_mostForUse_20 (by decide) ?_
    exact rg_lret C hA hQ hr hlk () rfl (by rw [if_pos (by omega)]) dX3_mostForUse_32
abbrev rX3_hasPriority : Room := { frames := 0, cells := 0, slots := 0, locals := 0 }
set_option maxHeartbeats 4000000 in
set_option maxRecDepth 100000 in
/-- Rights.hasPriority -/
theorem kX3_hasPriority (l : Launch) (E : rE) (q0 : Nat) (q1 : Nat) (q2 : Nat) (q3 : Nat) (q4 : Nat) (q5 : Nat) (q6 : Nat) (q7 : Nat) (q8 : Nat) (q9 : Nat) (g : Nat → Int) (pl : Nat → Int) (pr : Nat → Int) (ra : Nat → Int) (wn : Nat → Int) (sh : Nat → Int) (rt : Nat → Int) (st : Nat → Int) (ag : Nat → Int) (cn : Int) (p0 : Int) (hag : ∀ j : Nat, (j : Int) < cn → 0 ≤ ag j ∧ ag j < 40) (hpr : ∀ i : Nat, i < 40 → inI (pr i)) (hcn : 0 ≤ cn ∧ cn ≤ 40) (hp0 : inI p0) : rM l yX3_hasPriority sX3_hasPriority rX3_hasPriority E [cO q0 3 [.ref q1, .ref q2, .ref q3, .ref q4, .ref q5, .ref q6, .ref q7, .ref q8, .ref q9, .int (iI cn)], cZ E q1 40 g, cI E q2 40 pl, cI E q3 40 pr, cI E q4 40 ra, cI E q5 40 wn, cI E q6 40 sh, cI E q7 40 rt, cI E q8 40 st, cI E q9 40 ag] [.ref q0, .int (iI p0)] (some (.int (iI (bZ (hasP pr ag p0 cn.toNat))))) (fun _ : Unit => [cO q0 3 [.ref q1, .ref q2, .ref q3, .ref q4, .ref q5, .ref q6, .ref q7, .ref q8, .ref q9, .int (iI cn)], cZ E q1 40 g, cI E q2 40 pl, cI E q3 40 pr, cI E q4 40 ra, cI E q5 40 wn, cI E q6 40 sh, cI E q7 40 rt, cI E q8 40 st, cI E q9 40 ag]) := by
  refine rM.of (cc := cX3_hasPriority) (maxL := 3) (ret := (some FieldType.boolean)) (by decide) rfl (Nat.le_of_ble_eq_true rfl) (fun w h => List.mem_cons_of_mem _ h) ?_
  intro p e s m args below meth c A Q hA hQ C hr hlk hnm
  have C : rC p s m args c E A 3 cX3_hasPriority sX3_hasPriority RX3 := C
  have L2 : ∀ (n : Nat) (k : Int), (0 ≤ k ∧ k ≤ cn) → (hasP pr ag p0 k.toNat = false) → ((cn - k).toNat < n) → rG p l e rX3_hasPriority s m args below meth c E A 3 0 0 Q [cO q0 3 [.ref q1, .ref q2, .ref q3, .ref q4, .ref q5, .ref q6, .ref q7, .ref q8, .ref q9, .int (iI cn)], cZ E q1 40 g, cI E q2 40 pl, cI E q3 40 pr, cI E q4 40 ra, cI E q5 40 wn, cI E q6 40 sh, cI E q7 40 rt, cI E q8 40 st, cI E q9 40 ag] 2 [(0, .ref q0), (1, .int (iI p0)), (2, .int (iI k))] [] := by
    intro n
    induction n with
    | zero => intro k h1 h3 hm; exact absurd hm (Nat.not_lt_zero _)
    | succ n ih =>
      intro k h1 h3 hm
      refine rg_iload_n C 2 dX3_hasPriority_2 rfl rfl ?_
      refine rg_aload_n C 0 dX3_hasPriority_3 rfl rfl ?_
      refine rg_get C fX3_40 0 rfl rfl dX3_hasPriority_4 ?_
      refine rg_icmp_ge (tgt := 33) C ⟨by omega, by omega⟩ ⟨by omega, by omega⟩ dX3_hasPriority_7 (by decide) (fun h_7 => ?_) (fun h_7 => ?_)
      · refine rg_iconst C dX3_hasPriority_33 ?_
        exact rg_zret C hA hQ hr hlk () rfl (by first | rfl | decide | exact (bZ_nar _)) (by rw [show cn.toNat = k.toNat by omega, h3]; rfl) dX3_hasPriority_34
      · have ha9 := hag k.toNat (by omega)
        refine rg_aload_n C 0 dX3_hasPriority_10 rfl rfl ?_
        refine rg_get C fX3_19 0 rfl rfl dX3_hasPriority_11 ?_
        refine rg_aload_n C 0 dX3_hasPriority_14 rfl rfl ?_
        refine rg_get C fX3_37 0 rfl rfl dX3_hasPriority_15 ?_
        refine rg_iload_n C 2 dX3_hasPriority_18 rfl rfl ?_
        refine rg_iald C 9 rfl (by decide) (by omega) (by omega) dX3_hasPriority_19 ?_
        refine rg_iald C 3 rfl (by decide) (by omega) (by omega) dX3_hasPriority_20 ?_
        have hp9 := hpr (ag k.toNat).toNat (by omega)
        refine rg_iload_n C 1 dX3_hasPriority_21 rfl rfl ?_
        refine rg_icmp_ne (tgt := 27) C hp9 hp0 dX3_hasPriority_22 (by decide) (fun h_22 => ?_) (fun h_22 => ?_)
        · refine rg_iinc (k := 2) (lv' := [(2, .int (iI (k + 1))), (0, .ref q0), (1, .int (iI p0))]) C dX3_hasPriority_27 rfl (by decide) rfl ?_
          refine rg_goto (tgt := 2) C dX3_hasPriority_30 (by decide) ?_
          refine rG.plv [1, 2, 0] rfl ?_
          exact ih (k + 1) (by omega) (by rw [show (k + 1).toNat = k.toNat + 1 by omega]; show (hasP pr ag p0 k.toNat || _) = false; rw [h3, decide_eq_false h_22]; rfl) (by omega)
        · refine rg_iconst C dX3_hasPriority_25 ?_
          exact rg_zret C hA hQ hr hlk () rfl (by first | rfl | decide | exact (bZ_nar _)) (by rw [hasP_iff.mpr ⟨k.toNat, by omega, h_22⟩]; rfl) dX3_hasPriority_26
  show rG p l e rX3_hasPriority s m args below meth c E A 3 0 0 Q [cO q0 3 [.ref q1, .ref q2, .ref q3, .ref q4, .ref q5, .ref q6, .ref q7, .ref q8, .ref q9, .int (iI cn)], cZ E q1 40 g, cI E q2 40 pl, cI E q3 40 pr, cI E q4 40 ra, cI E q5 40 wn, cI E q6 40 sh, cI E q7 40 rt, cI E q8 40 st, cI E q9 40 ag] 0 [(0, .ref q0), (1, .int (iI p0))] []
  refine rg_iconst C dX3_hasPriority_0 ?_
  refine rg_istore_n (lv' := [(2, .int (iI 0)), (0, .ref q0), (1, .int (iI p0))]) C dX3_hasPriority_1 rfl (by decide) rfl ?_
  refine rG.plv [1, 2, 0] rfl ?_
  exact L2 _ 0 (by omega) rfl (Nat.lt_succ_self _)
abbrev rX3_add : Room := { frames := 0, cells := 0, slots := 0, locals := 0 }
set_option maxHeartbeats 4000000 in
set_option maxRecDepth 100000 in
/-- Rights.add -/
theorem kX3_add (l : Launch) (E : rE) (q0 : Nat) (q1 : Nat) (q2 : Nat) (q3 : Nat) (q4 : Nat) (q5 : Nat) (q6 : Nat) (q7 : Nat) (q8 : Nat) (q9 : Nat) (g : Nat → Int) (pl : Nat → Int) (pr : Nat → Int) (ra : Nat → Int) (wn : Nat → Int) (sh : Nat → Int) (rt : Nat → Int) (st : Nat → Int) (ag : Nat → Int) (cn : Int) (r : Int) (a : Int) (p0 : Int) (b : Int) (hri : 0 ≤ r ∧ r < 40) (hag : ∀ j : Nat, (j : Int) < cn → 0 ≤ ag j ∧ ag j < 40) (hpr : ∀ i : Nat, i < 40 → inI (pr i)) (hcn : 0 ≤ cn ∧ cn ≤ 39) (hp0 : inI p0) : rM l yX3_add sX3_add rX3_add E [cO q0 3 [.ref q1, .ref q2, .ref q3, .ref q4, .ref q5, .ref q6, .ref q7, .ref q8, .ref q9, .int (iI cn)], cZ E q1 40 g, cI E q2 40 pl, cI E q3 40 pr, cI E q4 40 ra, cI E q5 40 wn, cI E q6 40 sh, cI E q7 40 rt, cI E q8 40 st, cI E q9 40 ag] [.ref q0, .int (iI r), .int (iI a), .int (iI p0), .int (iI b)] none (fun _ : Unit => [cO q0 3 [.ref q1, .ref q2, .ref q3, .ref q4, .ref q5, .ref q6, .ref q7, .ref q8, .ref q9, .int (iI (cn + 1))], cZ E q1 40 (uZ g r.toNat 1), cI E q2 40 (uZ pl r.toNat a), cI E q3 40 (uZ pr r.toNat p0), cI E q4 40 (uZ ra r.toNat b), cI E q5 40 (uZ wn r.toNat b), cI E q6 40 sh, cI E q7 40 rt, cI E q8 40 st, cI E q9 40 (insA (uZ pr r.toNat p0) p0 r cn.toNat ag)]) := by
  refine rM.of (cc := cX3_add) (maxL := 6) (ret := none) (by decide) rfl (Nat.le_of_ble_eq_true rfl) (fun w h => List.mem_cons_of_mem _ h) ?_
  intro p e s m args below meth c A Q hA hQ C hr hlk hnm
  have C : rC p s m args c E A 6 cX3_add sX3_add RX3 := C
  have L43 : ∀ (n : Nat) (ad : Int) (f : Nat → Int), (0 ≤ ad ∧ ad ≤ cn) → (∀ j : Nat, (j : Int) < ad → 0 ≤ f j ∧ f j < 40) → (insA (uZ pr r.toNat p0) p0 r cn.toNat ag = insA (uZ pr r.toNat p0) p0 r ad.toNat f) → (ad.toNat < n) → rG p l e rX3_add s m args below meth c E A 6 0 0 Q [cO q0 3 [.ref q1, .ref q2, .ref q3, .ref q4, .ref q5, .ref q6, .ref q7, .ref q8, .ref q9, .int (iI cn)], cZ E q1 40 (uZ g r.toNat 1), cI E q2 40 (uZ pl r.toNat a), cI E q3 40 (uZ pr r.toNat p0), cI E q4 40 (uZ ra r.toNat b), cI E q5 40 (uZ wn r.toNat b), cI E q6 40 sh, cI E q7 40 rt, cI E q8 40 st, cI E q9 40 f] 43 [(0, .ref q0), (1, .int (iI r)), (2, .int (iI a)), (3, .int (iI p0)), (4, .int (iI b)), (5, .int (iI ad))] [] := by
    intro n
    induction n with
    | zero => intro ad f h1 h2 h3 hm; exact absurd hm (Nat.not_lt_zero _)
    | succ n ih =>
      intro ad f h1 h2 h3 hm
      refine rg_iload C 5 dX3_add_43 rfl ?_
      refine rg_if_le (tgt := 88) C ⟨by omega, by omega⟩ dX3_add_45 (by decide) (fun h_45 => ?_) (fun h_45 => ?_)
      · refine rg_aload_n C 0 dX3_add_88 rfl rfl ?_
        refine rg_get C fX3_37 0 rfl rfl dX3_add_89 ?_
        refine rg_iload C 5 dX3_add_92 rfl ?_
        refine rg_iload_n C 1 dX3_add_94 rfl rfl ?_
        refine rg_iast (ws' := [cO q0 3 [.ref q1, .ref q2, .ref q3, .ref q4, .ref q5, .ref q6, .ref q7, .ref q8, .ref q9, .int (iI cn)], cZ E q1 40 (uZ g r.toNat 1), cI E q2 40 (uZ pl r.toNat a), cI E q3 40 (uZ pr r.toNat p0), cI E q4 40 (uZ ra r.toNat b), cI E q5 40 (uZ wn r.toNat b), cI E q6 40 sh, cI E q7 40 rt, cI E q8 40 st, cI E q9 40 (uZ f ad.toNat r)]) C 9 rfl (by decide) (by omega) (by omega) dX3_add_95 rfl ?_
        refine rg_aload_n C 0 dX3_add_96 rfl rfl ?_
        refine rg_dup C dX3_add_97 rfl ?_
        refine rg_get C fX3_40 0 rfl rfl dX3_add_98 ?_
        refine rg_iconst C dX3_add_101 ?_
        refine rg_iadd C dX3_add_102 ?_
        refine rg_put (ws' := [cO q0 3 [.ref q1, .ref q2, .ref q3, .ref q4, .ref q5, .ref q6, .ref q7, .ref q8, .ref q9, .int (iI (cn + 1))], cZ E q1 40 (uZ g r.toNat 1), cI E q2 40 (uZ pl r.toNat a), cI E q3 40 (uZ pr r.toNat p0), cI E q4 40 (uZ ra r.toNat b), cI E q5 40 (uZ wn r.toNat b), cI E q6 40 sh, cI E q7 40 rt, cI E q8 40 st, cI E q9 40 (uZ f ad.toNat r)]) C fX3_40 layX3 rfl 0 rfl rfl rfl (Nat.le_of_ble_eq_true rfl) dX3_add_103 rfl ?_
        exact rg_vret C hA hQ hr hlk () (by rw [h3, insA_stop (by omega) (by omega)]) rfl dX3_add_106
      · have hf9 := h2 (ad - 1).toNat (by omega)
        refine rg_aload_n C 0 dX3_add_48 rfl rfl ?_
        refine rg_get C fX3_19 0 rfl rfl dX3_add_49 ?_
        refine rg_aload_n C 0 dX3_add_52 rfl rfl ?_
        refine rg_get C fX3_37 0 rfl rfl dX3_add_53 ?_
        refine rg_iload C 5 dX3_add_56 rfl ?_
        refine rg_iconst C dX3_add_58 ?_
        refine rg_isub C dX3_add_59 ?_
        refine rg_iald C 9 rfl (by decide) (by omega) (by omega) dX3_add_60 ?_
        have hp9 : inI (uZ pr r.toNat p0 (f (ad - 1).toNat).toNat) := by
          unfold uZ
          split
          · exact hp0
          · exact hpr _ (by omega)
        refine rg_iald C 3 rfl (by decide) (by omega) (by omega) dX3_add_61 ?_
        refine rg_iload_n C 3 dX3_add_62 rfl rfl ?_
        refine rg_icmp_le (tgt := 88) C hp9 hp0 dX3_add_63 (by decide) (fun h_63 => ?_) (fun h_63 => ?_)
        · refine rg_aload_n C 0 dX3_add_88 rfl rfl ?_
          refine rg_get C fX3_37 0 rfl rfl dX3_add_89 ?_
          refine rg_iload C 5 dX3_add_92 rfl ?_
          refine rg_iload_n C 1 dX3_add_94 rfl rfl ?_
          refine rg_iast (ws' := [cO q0 3 [.ref q1, .ref q2, .ref q3, .ref q4, .ref q5, .ref q6, .ref q7, .ref q8, .ref q9, .int (iI cn)], cZ E q1 40 (uZ g r.toNat 1), cI E q2 40 (uZ pl r.toNat a), cI E q3 40 (uZ pr r.toNat p0), cI E q4 40 (uZ ra r.toNat b), cI E q5 40 (uZ wn r.toNat b), cI E q6 40 sh, cI E q7 40 rt, cI E q8 40 st, cI E q9 40 (uZ f ad.toNat r)]) C 9 rfl (by decide) (by omega) (by omega) dX3_add_95 rfl ?_
          refine rg_aload_n C 0 dX3_add_96 rfl rfl ?_
          refine rg_dup C dX3_add_97 rfl ?_
          refine rg_get C fX3_40 0 rfl rfl dX3_add_98 ?_
          refine rg_iconst C dX3_add_101 ?_
          refine rg_iadd C dX3_add_102 ?_
          refine rg_put (ws' := [cO q0 3 [.ref q1, .ref q2, .ref q3, .ref q4, .ref q5, .ref q6, .ref q7, .ref q8, .ref q9, .int (iI (cn + 1))], cZ E q1 40 (uZ g r.toNat 1), cI E q2 40 (uZ pl r.toNat a), cI E q3 40 (uZ pr r.toNat p0), cI E q4 40 (uZ ra r.toNat b), cI E q5 40 (uZ wn r.toNat b), cI E q6 40 sh, cI E q7 40 rt, cI E q8 40 st, cI E q9 40 (uZ f ad.toNat r)]) C fX3_40 layX3 rfl 0 rfl rfl rfl (Nat.le_of_ble_eq_true rfl) dX3_add_103 rfl ?_
          exact rg_vret C hA hQ hr hlk () (by rw [h3, insA_stop (by omega) (by omega)]) rfl dX3_add_106
        · refine rg_aload_n C 0 dX3_add_66 rfl rfl ?_
          refine rg_get C fX3_37 0 rfl rfl dX3_add_67 ?_
          refine rg_iload C 5 dX3_add_70 rfl ?_
          refine rg_aload_n C 0 dX3_add_72 rfl rfl ?_
          refine rg_get C fX3_37 0 rfl rfl dX3_add_73 ?_
          refine rg_iload C 5 dX3_add_76 rfl ?_
          refine rg_iconst C dX3_add_78 ?_
          refine rg_isub C dX3_add_79 ?_
          refine rg_iald C 9 rfl (by decide) (by omega) (by omega) dX3_add_80 ?_
          refine rg_iast (ws' := [cO q0 3 [.ref q1, .ref q2, .ref q3, .ref q4, .ref q5, .ref q6, .ref q7, .ref q8, .ref q9, .int (iI cn)], cZ E q1 40 (uZ g r.toNat 1), cI E q2 40 (uZ pl r.toNat a), cI E q3 40 (uZ pr r.toNat p0), cI E q4 40 (uZ ra r.toNat b), cI E q5 40 (uZ wn r.toNat b), cI E q6 40 sh, cI E q7 40 rt, cI E q8 40 st, cI E q9 40 (uZ f ad.toNat (f (ad - 1).toNat))]) C 9 rfl (by decide) (by omega) (by omega) dX3_add_81 rfl ?_
          refine rg_iinc (k := 5) (lv' := [(5, .int (iI (ad + (-1)))), (0, .ref q0), (1, .int (iI r)), (2, .int (iI a)), (3, .int (iI p0)), (4, .int (iI b))]) C dX3_add_82 rfl (by decide) rfl ?_
          refine rg_goto (tgt := 43) C dX3_add_85 (by decide) ?_
          refine rG.plv [1, 2, 3, 4, 5, 0] rfl ?_
          exact ih (ad + (-1)) (uZ f ad.toNat (f (ad - 1).toNat)) (by omega) (fun j hj => by rw [uZ_n f _ (by omega)]; exact h2 j (by omega)) (h3.trans (insA_on (by omega) h_63)) (by omega)
  show rG p l e rX3_add s m args below meth c E A 6 0 0 Q [cO q0 3 [.ref q1, .ref q2, .ref q3, .ref q4, .ref q5, .ref q6, .ref q7, .ref q8, .ref q9, .int (iI cn)], cZ E q1 40 g, cI E q2 40 pl, cI E q3 40 pr, cI E q4 40 ra, cI E q5 40 wn, cI E q6 40 sh, cI E q7 40 rt, cI E q8 40 st, cI E q9 40 ag] 0 [(0, .ref q0), (1, .int (iI r)), (2, .int (iI a)), (3, .int (iI p0)), (4, .int (iI b))] []
  refine rg_aload_n C 0 dX3_add_0 rfl rfl ?_
  refine rg_get C fX3_9 0 rfl rfl dX3_add_1 ?_
  refine rg_iload_n C 1 dX3_add_4 rfl rfl ?_
  refine rg_iconst C dX3_add_5 ?_
  refine rg_zast (ws' := [cO q0 3 [.ref q1, .ref q2, .ref q3, .ref q4, .ref q5, .ref q6, .ref q7, .ref q8, .ref q9, .int (iI cn)], cZ E q1 40 (uZ g r.toNat 1), cI E q2 40 pl, cI E q3 40 pr, cI E q4 40 ra, cI E q5 40 wn, cI E q6 40 sh, cI E q7 40 rt, cI E q8 40 st, cI E q9 40 ag]) C 1 rfl (by decide) (by omega) (by omega) (by decide) dX3_add_6 rfl ?_
  refine rg_aload_n C 0 dX3_add_7 rfl rfl ?_
  refine rg_get C fX3_15 0 rfl rfl dX3_add_8 ?_
  refine rg_iload_n C 1 dX3_add_11 rfl rfl ?_
  refine rg_iload_n C 2 dX3_add_12 rfl rfl ?_
  refine rg_iast (ws' := [cO q0 3 [.ref q1, .ref q2, .ref q3, .ref q4, .ref q5, .ref q6, .ref q7, .ref q8, .ref q9, .int (iI cn)], cZ E q1 40 (uZ g r.toNat 1), cI E q2 40 (uZ pl r.toNat a), cI E q3 40 pr, cI E q4 40 ra, cI E q5 40 wn, cI E q6 40 sh, cI E q7 40 rt, cI E q8 40 st, cI E q9 40 ag]) C 2 rfl (by decide) (by omega) (by omega) dX3_add_13 rfl ?_
  refine rg_aload_n C 0 dX3_add_14 rfl rfl ?_
  refine rg_get C fX3_19 0 rfl rfl dX3_add_15 ?_
  refine rg_iload_n C 1 dX3_add_18 rfl rfl ?_
  refine rg_iload_n C 3 dX3_add_19 rfl rfl ?_
  refine rg_iast (ws' := [cO q0 3 [.ref q1, .ref q2, .ref q3, .ref q4, .ref q5, .ref q6, .ref q7, .ref q8, .ref q9, .int (iI cn)], cZ E q1 40 (uZ g r.toNat 1), cI E q2 40 (uZ pl r.toNat a), cI E q3 40 (uZ pr r.toNat p0), cI E q4 40 ra, cI E q5 40 wn, cI E q6 40 sh, cI E q7 40 rt, cI E q8 40 st, cI E q9 40 ag]) C 3 rfl (by decide) (by omega) (by omega) dX3_add_20 rfl ?_
  refine rg_aload_n C 0 dX3_add_21 rfl rfl ?_
  refine rg_get C fX3_22 0 rfl rfl dX3_add_22 ?_
  refine rg_iload_n C 1 dX3_add_25 rfl rfl ?_
  refine rg_iload C 4 dX3_add_26 rfl ?_
  refine rg_iast (ws' := [cO q0 3 [.ref q1, .ref q2, .ref q3, .ref q4, .ref q5, .ref q6, .ref q7, .ref q8, .ref q9, .int (iI cn)], cZ E q1 40 (uZ g r.toNat 1), cI E q2 40 (uZ pl r.toNat a), cI E q3 40 (uZ pr r.toNat p0), cI E q4 40 (uZ ra r.toNat b), cI E q5 40 wn, cI E q6 40 sh, cI E q7 40 rt, cI E q8 40 st, cI E q9 40 ag]) C 4 rfl (by decide) (by omega) (by omega) dX3_add_28 rfl ?_
  refine rg_aload_n C 0 dX3_add_29 rfl rfl ?_
  refine rg_get C fX3_25 0 rfl rfl dX3_add_30 ?_
  refine rg_iload_n C 1 dX3_add_33 rfl rfl ?_
  refine rg_iload C 4 dX3_add_34 rfl ?_
  refine rg_iast (ws' := [cO q0 3 [.ref q1, .ref q2, .ref q3, .ref q4, .ref q5, .ref q6, .ref q7, .ref q8, .ref q9, .int (iI cn)], cZ E q1 40 (uZ g r.toNat 1), cI E q2 40 (uZ pl r.toNat a), cI E q3 40 (uZ pr r.toNat p0), cI E q4 40 (uZ ra r.toNat b), cI E q5 40 (uZ wn r.toNat b), cI E q6 40 sh, cI E q7 40 rt, cI E q8 40 st, cI E q9 40 ag]) C 5 rfl (by decide) (by omega) (by omega) dX3_add_36 rfl ?_
  refine rg_aload_n C 0 dX3_add_37 rfl rfl ?_
  refine rg_get C fX3_40 0 rfl rfl dX3_add_38 ?_
  refine rg_istore (lv' := [(5, .int (iI cn)), (0, .ref q0), (1, .int (iI r)), (2, .int (iI a)), (3, .int (iI p0)), (4, .int (iI b))]) C dX3_add_41 (by decide) rfl ?_
  refine rG.plv [1, 2, 3, 4, 5, 0] rfl ?_
  exact L43 _ cn ag (by omega) hag rfl (Nat.lt_succ_self _)
abbrev rX3_remove : Room := { frames := 0, cells := 0, slots := 0, locals := 0 }
set_option maxHeartbeats 4000000 in
set_option maxRecDepth 100000 in
/-- Rights.remove -/
theorem kX3_remove (l : Launch) (E : rE) (q0 : Nat) (q1 : Nat) (q2 : Nat) (q3 : Nat) (q4 : Nat) (q5 : Nat) (q6 : Nat) (q7 : Nat) (q8 : Nat) (q9 : Nat) (g : Nat → Int) (pl : Nat → Int) (pr : Nat → Int) (ra : Nat → Int) (wn : Nat → Int) (sh : Nat → Int) (rt : Nat → Int) (st : Nat → Int) (ag : Nat → Int) (cn : Int) (r : Int) (hri : 0 ≤ r ∧ r < 40) (hag : ∀ j : Nat, (j : Int) < cn → 0 ≤ ag j ∧ ag j < 40) (hcn : 0 ≤ cn ∧ cn ≤ 40) : rM l yX3_remove sX3_remove rX3_remove E [cO q0 3 [.ref q1, .ref q2, .ref q3, .ref q4, .ref q5, .ref q6, .ref q7, .ref q8, .ref q9, .int (iI cn)], cZ E q1 40 g, cI E q2 40 pl, cI E q3 40 pr, cI E q4 40 ra, cI E q5 40 wn, cI E q6 40 sh, cI E q7 40 rt, cI E q8 40 st, cI E q9 40 ag] [.ref q0, .int (iI r)] none (fun _ : Unit => [cO q0 3 [.ref q1, .ref q2, .ref q3, .ref q4, .ref q5, .ref q6, .ref q7, .ref q8, .ref q9, .int (iI ((remL r cn.toNat 0 0 ag).1 : Int))], cZ E q1 40 (uZ g r.toNat 0), cI E q2 40 pl, cI E q3 40 pr, cI E q4 40 ra, cI E q5 40 wn, cI E q6 40 sh, cI E q7 40 rt, cI E q8 40 st, cI E q9 40 ((remL r cn.toNat 0 0 ag).2)]) := by
  refine rM.of (cc := cX3_remove) (maxL := 4) (ret := none) (by decide) rfl (Nat.le_of_ble_eq_true rfl) (fun w h => List.mem_cons_of_mem _ h) ?_
  intro p e s m args below meth c A Q hA hQ C hr hlk hnm
  have C : rC p s m args c E A 4 cX3_remove sX3_remove RX3 := C
  have L11 : ∀ (n : Nat) (k : Int) (kp : Int) (f : Nat → Int), (0 ≤ k ∧ k ≤ cn) → (0 ≤ kp ∧ kp ≤ k) → (∀ j : Nat, (j : Int) < cn → 0 ≤ f j ∧ f j < 40) → (remL r cn.toNat 0 0 ag = remL r (cn - k).toNat k.toNat kp.toNat f) → ((cn - k).toNat < n) → rG p l e rX3_remove s m args below meth c E A 4 0 0 Q [cO q0 3 [.ref q1, .ref q2, .ref q3, .ref q4, .ref q5, .ref q6, .ref q7, .ref q8, .ref q9, .int (iI cn)], cZ E q1 40 (uZ g r.toNat 0), cI E q2 40 pl, cI E q3 40 pr, cI E q4 40 ra, cI E q5 40 wn, cI E q6 40 sh, cI E q7 40 rt, cI E q8 40 st, cI E q9 40 f] 11 [(0, .ref q0), (1, .int (iI r)), (2, .int (iI kp)), (3, .int (iI k))] [] := by
    intro n
    induction n with
    | zero => intro k kp f h1 h4 h2 h3 hm; exact absurd hm (Nat.not_lt_zero _)
    | succ n ih =>
      intro k kp f h1 h4 h2 h3 hm
      refine rg_iload_n C 3 dX3_remove_11 rfl rfl ?_
      refine rg_aload_n C 0 dX3_remove_12 rfl rfl ?_
      refine rg_get C fX3_40 0 rfl rfl dX3_remove_13 ?_
      refine rg_icmp_ge (tgt := 50) C ⟨by omega, by omega⟩ ⟨by omega, by omega⟩ dX3_remove_16 (by decide) (fun h_16 => ?_) (fun h_16 => ?_)
      · refine rg_aload_n C 0 dX3_remove_50 rfl rfl ?_
        refine rg_iload_n C 2 dX3_remove_51 rfl rfl ?_
        refine rg_put (ws' := [cO q0 3 [.ref q1, .ref q2, .ref q3, .ref q4, .ref q5, .ref q6, .ref q7, .ref q8, .ref q9, .int (iI kp)], cZ E q1 40 (uZ g r.toNat 0), cI E q2 40 pl, cI E q3 40 pr, cI E q4 40 ra, cI E q5 40 wn, cI E q6 40 sh, cI E q7 40 rt, cI E q8 40 st, cI E q9 40 f]) C fX3_40 layX3 rfl 0 rfl rfl rfl (Nat.le_of_ble_eq_true rfl) dX3_remove_52 rfl ?_
        exact rg_vret C hA hQ hr hlk () (by rw [h3, remL_end (by omega)]; simp only [Int.toNat_of_nonneg h4.1]) rfl dX3_remove_55
      · have hf9 := h2 k.toNat (by omega)
        refine rg_aload_n C 0 dX3_remove_19 rfl rfl ?_
        refine rg_get C fX3_37 0 rfl rfl dX3_remove_20 ?_
        refine rg_iload_n C 3 dX3_remove_23 rfl rfl ?_
        refine rg_iald C 9 rfl (by decide) (by omega) (by omega) dX3_remove_24 ?_
        refine rg_iload_n C 1 dX3_remove_25 rfl rfl ?_
        refine rg_icmp_eq (tgt := 44) C ⟨by omega, by omega⟩ ⟨by omega, by omega⟩ dX3_remove_26 (by decide) (fun h_26 => ?_) (fun h_26 => ?_)
        · refine rg_iinc (k := 3) (lv' := [(3, .int (iI (k + 1))), (0, .ref q0), (1, .int (iI r)), (2, .int (iI kp))]) C dX3_remove_44 rfl (by decide) rfl ?_
          refine rg_goto (tgt := 11) C dX3_remove_47 (by decide) ?_
          refine rG.plv [1, 2, 3, 0] rfl ?_
          exact ih (k + 1) kp f (by omega) (by omega) h2 (h3.trans (remL_hit h1.1 (by omega) h_26)) (by omega)
        · refine rg_aload_n C 0 dX3_remove_29 rfl rfl ?_
          refine rg_get C fX3_37 0 rfl rfl dX3_remove_30 ?_
          refine rg_iload_n C 2 dX3_remove_33 rfl rfl ?_
          refine rg_aload_n C 0 dX3_remove_34 rfl rfl ?_
          refine rg_get C fX3_37 0 rfl rfl dX3_remove_35 ?_
          refine rg_iload_n C 3 dX3_remove_38 rfl rfl ?_
          refine rg_iald C 9 rfl (by decide) (by omega) (by omega) dX3_remove_39 ?_
          refine rg_iast (ws' := [cO q0 3 [.ref q1, .ref q2, .ref q3, .ref q4, .ref q5, .ref q6, .ref q7, .ref q8, .ref q9, .int (iI cn)], cZ E q1 40 (uZ g r.toNat 0), cI E q2 40 pl, cI E q3 40 pr, cI E q4 40 ra, cI E q5 40 wn, cI E q6 40 sh, cI E q7 40 rt, cI E q8 40 st, cI E q9 40 (uZ f kp.toNat (f k.toNat))]) C 9 rfl (by decide) (by omega) (by omega) dX3_remove_40 rfl ?_
          refine rg_iinc (k := 2) (lv' := [(2, .int (iI (kp + 1))), (0, .ref q0), (1, .int (iI r)), (3, .int (iI k))]) C dX3_remove_41 rfl (by decide) rfl ?_
          refine rg_iinc (k := 3) (lv' := [(3, .int (iI (k + 1))), (2, .int (iI (kp + 1))), (0, .ref q0), (1, .int (iI r))]) C dX3_remove_44 rfl (by decide) rfl ?_
          refine rg_goto (tgt := 11) C dX3_remove_47 (by decide) ?_
          refine rG.plv [2, 3, 1, 0] rfl ?_
          exact ih (k + 1) (kp + 1) (uZ f kp.toNat (f k.toNat)) (by omega) (by omega) (fun j hj => by unfold uZ; split; exact hf9; exact h2 j hj) (by rw [h3, remL_on h1.1 (by omega) h_26, show (kp + 1).toNat = kp.toNat + 1 by omega]) (by omega)
  show rG p l e rX3_remove s m args below meth c E A 4 0 0 Q [cO q0 3 [.ref q1, .ref q2, .ref q3, .ref q4, .ref q5, .ref q6, .ref q7, .ref q8, .ref q9, .int (iI cn)], cZ E q1 40 g, cI E q2 40 pl, cI E q3 40 pr, cI E q4 40 ra, cI E q5 40 wn, cI E q6 40 sh, cI E q7 40 rt, cI E q8 40 st, cI E q9 40 ag] 0 [(0, .ref q0), (1, .int (iI r))] []
  refine rg_aload_n C 0 dX3_remove_0 rfl rfl ?_
  refine rg_get C fX3_9 0 rfl rfl dX3_remove_1 ?_
  refine rg_iload_n C 1 dX3_remove_4 rfl rfl ?_
  refine rg_iconst C dX3_remove_5 ?_
  refine rg_zast (ws' := [cO q0 3 [.ref q1, .ref q2, .ref q3, .ref q4, .ref q5, .ref q6, .ref q7, .ref q8, .ref q9, .int (iI cn)], cZ E q1 40 (uZ g r.toNat 0), cI E q2 40 pl, cI E q3 40 pr, cI E q4 40 ra, cI E q5 40 wn, cI E q6 40 sh, cI E q7 40 rt, cI E q8 40 st, cI E q9 40 ag]) C 1 rfl (by decide) (by omega) (by omega) (by decide) dX3_remove_6 rfl ?_
  refine rg_iconst C dX3_remove_7 ?_
  refine rg_istore_n (lv' := [(2, .int (iI 0)), (0, .ref q0), (1, .int (iI r))]) C dX3_remove_8 rfl (by decide) rfl ?_
  refine rg_iconst C dX3_remove_9 ?_
  refine rg_istore_n (lv' := [(3, .int (iI 0)), (2, .int (iI 0)), (0, .ref q0), (1, .int (iI r))]) C dX3_remove_10 rfl (by decide) rfl ?_
  refine rG.plv [2, 3, 1, 0] rfl ?_
  exact L11 _ 0 0 ag (by omega) (by omega) hag (by rw [show (cn - 0).toNat = cn.toNat by omega]; rfl) (Nat.lt_succ_self _)
abbrev rX3_beginDay : Room := { frames := 1, cells := 0, slots := 0, locals := 100 }
set_option maxHeartbeats 4000000 in
set_option maxRecDepth 100000 in
/-- Rights.beginDay -/
theorem kX3_beginDay (l : Launch) (E : rE) (q0 : Nat) (q1 : Nat) (q2 : Nat) (q3 : Nat) (q4 : Nat) (q5 : Nat) (q6 : Nat) (q7 : Nat) (q8 : Nat) (q9 : Nat) (g : Nat → Int) (pl : Nat → Int) (pr : Nat → Int) (ra : Nat → Int) (wn : Nat → Int) (sh : Nat → Int) (rt : Nat → Int) (st : Nat → Int) (ag : Nat → Int) (cn : Int)  : rM l yX3_beginDay sX3_beginDay rX3_beginDay E [cO q0 3 [.ref q1, .ref q2, .ref q3, .ref q4, .ref q5, .ref q6, .ref q7, .ref q8, .ref q9, .int (iI cn)], cZ E q1 40 g, cI E q2 40 pl, cI E q3 40 pr, cI E q4 40 ra, cI E q5 40 wn, cI E q6 40 sh, cI E q7 40 rt, cI E q8 40 st, cI E q9 40 ag] [.ref q0] none (fun _ : Unit => [cO q0 3 [.ref q1, .ref q2, .ref q3, .ref q4, .ref q5, .ref q6, .ref q7, .ref q8, .ref q9, .int (iI cn)], cZ E q1 40 g, cI E q2 40 pl, cI E q3 40 pr, cI E q4 40 ra, cI E q5 40 (cpZ ra wn 40), cI E q6 40 sh, cI E q7 40 rt, cI E q8 40 st, cI E q9 40 ag]) := by
  refine rM.of (cc := cX3_beginDay) (maxL := 1) (ret := none) (by decide) rfl (Nat.le_of_ble_eq_true rfl) (fun w h => List.mem_cons_of_mem _ h) ?_
  intro p e s m args below meth c A Q hA hQ C hr hlk hnm
  have C : rC p s m args c E A 1 cX3_beginDay sX3_beginDay RX3 := C
  show rG p l e rX3_beginDay s m args below meth c E A 1 0 0 Q [cO q0 3 [.ref q1, .ref q2, .ref q3, .ref q4, .ref q5, .ref q6, .ref q7, .ref q8, .ref q9, .int (iI cn)], cZ E q1 40 g, cI E q2 40 pl, cI E q3 40 pr, cI E q4 40 ra, cI E q5 40 wn, cI E q6 40 sh, cI E q7 40 rt, cI E q8 40 st, cI E q9 40 ag] 0 [(0, .ref q0)] []
  refine rg_aload_n C 0 dX3_beginDay_0 rfl rfl ?_
  refine rg_get C fX3_22 0 rfl rfl dX3_beginDay_1 ?_
  refine rg_iconst C dX3_beginDay_4 ?_
  refine rg_aload_n C 0 dX3_beginDay_5 rfl rfl ?_
  refine rg_get C fX3_25 0 rfl rfl dX3_beginDay_6 ?_
  refine rg_iconst C dX3_beginDay_9 ?_
  refine rg_bipush (z := 40) C dX3_beginDay_10 (by decide) ?_
  refine rg_copyi (ws' := [cO q0 3 [.ref q1, .ref q2, .ref q3, .ref q4, .ref q5, .ref q6, .ref q7, .ref q8, .ref q9, .int (iI cn)], cZ E q1 40 g, cI E q2 40 pl, cI E q3 40 pr, cI E q4 40 ra, cI E q5 40 (cpZ ra wn 40), cI E q6 40 sh, cI E q7 40 rt, cI E q8 40 st, cI E q9 40 ag]) C 4 5 rfl rfl rfl (by decide) w_309 w_311 w_310 w_36 (Nat.le_of_ble_eq_true rfl) (by decide +kernel) dX3_beginDay_12 rfl ?_
  exact rg_vret C hA hQ hr hlk () rfl rfl dX3_beginDay_15
