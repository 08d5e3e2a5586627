abbrev rX4_init : Room := { frames := 1, cells := 4, slots := 128, locals := 12 }
set_option maxHeartbeats 4000000 in
set_option maxRecDepth 100000 in
theorem kX4_init (l : Launch) (E : rE) (o0 : Nat) : rM l yX4_init sX4_init rX4_init E [cO o0 4 [.null, .null, .null, .null, .int (iI 0)]] [.ref o0] none (fun u : Nat × Nat × Nat × Nat => [cO o0 4 [.ref u.1, .ref u.2.1, .ref u.2.2.1, .ref u.2.2.2, .int (iI (-1))], cZ E u.1 32 (fun _ => 0), cI E u.2.1 32 (fun _ => 0), cI E u.2.2.1 32 (fun _ => 0), cJ E u.2.2.2 32 (fun _ => 0)]) := by
  refine rM.of (cc := cX4_init) (maxL := 1) (ret := none) (by decide) rfl (Nat.le_of_ble_eq_true rfl) (fun w h => List.mem_cons_of_mem _ h) ?_
  intro p e s m args below meth c A Q hA hQ C hr hlk hnm
  have C : rC p s m args c E A 1 cX4_init sX4_init RX4 := C
  show rG p l e rX4_init s m args below meth c E A 1 0 0 Q [cO o0 4 [.null, .null, .null, .null, .int (iI 0)]] 0 [(0, .ref o0)] []
  refine rg_aload_n C 0 dX4_init_0 rfl rfl ?_
  refine rg_objInit C w_50 dX4_init_1 ⟨Nat.le_of_ble_eq_true rfl, Nat.le_of_ble_eq_true rfl⟩ ?_
  refine rg_aload_n C 0 dX4_init_4 rfl rfl ?_
  refine rg_bipush (z := 32) C dX4_init_5 (by decide) ?_
  refine rg_newZ C 32 rfl (by decide) (Nat.le_of_ble_eq_true rfl) (Nat.le_of_ble_eq_true rfl) dX4_init_7 (fun q7 => ?_)
  refine rg_putF (ws' := [cO o0 4 [.ref q7, .null, .null, .null, .int (iI 0)], cZ E q7 32 (fun _ => 0)]) C fX4_9 layX4 rfl hnm rfl 0 rfl rfl rfl (Nat.le_of_ble_eq_true rfl) dX4_init_9 rfl ?_
  refine rg_aload_n C 0 dX4_init_12 rfl rfl ?_
  refine rg_bipush (z := 32) C dX4_init_13 (by decide) ?_
  refine rg_newI C 32 rfl (by decide) (Nat.le_of_ble_eq_true rfl) (Nat.le_of_ble_eq_true rfl) dX4_init_15 (fun q15 => ?_)
  refine rg_putF (ws' := [cO o0 4 [.ref q7, .ref q15, .null, .null, .int (iI 0)], cZ E q7 32 (fun _ => 0), cI E q15 32 (fun _ => 0)]) C fX4_15 layX4 rfl hnm rfl 0 rfl rfl rfl (Nat.le_of_ble_eq_true rfl) dX4_init_17 rfl ?_
  refine rg_aload_n C 0 dX4_init_20 rfl rfl ?_
  refine rg_bipush (z := 32) C dX4_init_21 (by decide) ?_
  refine rg_newI C 32 rfl (by decide) (Nat.le_of_ble_eq_true rfl) (Nat.le_of_ble_eq_true rfl) dX4_init_23 (fun q23 => ?_)
  refine rg_putF (ws' := [cO o0 4 [.ref q7, .ref q15, .ref q23, .null, .int (iI 0)], cZ E q7 32 (fun _ => 0), cI E q15 32 (fun _ => 0), cI E q23 32 (fun _ => 0)]) C fX4_19 layX4 rfl hnm rfl 0 rfl rfl rfl (Nat.le_of_ble_eq_true rfl) dX4_init_25 rfl ?_
  refine rg_aload_n C 0 dX4_init_28 rfl rfl ?_
  refine rg_bipush (z := 32) C dX4_init_29 (by decide) ?_
  refine rg_newJ C 32 rfl (by decide) (Nat.le_of_ble_eq_true rfl) (Nat.le_of_ble_eq_true rfl) dX4_init_31 (fun q31 => ?_)
  refine rg_putF (ws' := [cO o0 4 [.ref q7, .ref q15, .ref q23, .ref q31, .int (iI 0)], cZ E q7 32 (fun _ => 0), cI E q15 32 (fun _ => 0), cI E q23 32 (fun _ => 0), cJ E q31 32 (fun _ => 0)]) C fX4_22 layX4 rfl hnm rfl 0 rfl rfl rfl (Nat.le_of_ble_eq_true rfl) dX4_init_33 rfl ?_
  refine rg_aload_n C 0 dX4_init_36 rfl rfl ?_
  refine rg_iconst C dX4_init_37 ?_
  refine rg_put (ws' := [cO o0 4 [.ref q7, .ref q15, .ref q23, .ref q31, .int (iI (-1))], cZ E q7 32 (fun _ => 0), cI E q15 32 (fun _ => 0), cI E q23 32 (fun _ => 0), cJ E q31 32 (fun _ => 0)]) C fX4_26 layX4 rfl 0 rfl rfl rfl (Nat.le_of_ble_eq_true rfl) dX4_init_38 rfl ?_
  exact rg_vret C hA hQ hr hlk (q7, q15, q23, q31) rfl rfl dX4_init_41
abbrev rX2_init : Room := { frames := 1, cells := 4, slots := 32, locals := 12 }
set_option maxHeartbeats 4000000 in
set_option maxRecDepth 100000 in
theorem kX2_init (l : Launch) (E : rE) (o0 : Nat) : rM l yX2_init sX2_init rX2_init E [cO o0 2 [.null, .null, .null, .null, .long (lI 0)]] [.ref o0] none (fun u : Nat × Nat × Nat × Nat => [cO o0 2 [.ref u.1, .ref u.2.1, .ref u.2.2.1, .ref u.2.2.2, .long (lI 0)], cZ E u.1 8 (fun _ => 0), cI E u.2.1 8 (fun _ => 0), cI E u.2.2.1 8 (fun _ => 0), cI E u.2.2.2 8 (fun _ => 0)]) := by
  refine rM.of (cc := cX2_init) (maxL := 1) (ret := none) (by decide) rfl (Nat.le_of_ble_eq_true rfl) (fun w h => List.mem_cons_of_mem _ h) ?_
  intro p e s m args below meth c A Q hA hQ C hr hlk hnm
  have C : rC p s m args c E A 1 cX2_init sX2_init RX2 := C
  show rG p l e rX2_init s m args below meth c E A 1 0 0 Q [cO o0 2 [.null, .null, .null, .null, .long (lI 0)]] 0 [(0, .ref o0)] []
  refine rg_aload_n C 0 dX2_init_0 rfl rfl ?_
  refine rg_objInit C w_82 dX2_init_1 ⟨Nat.le_of_ble_eq_true rfl, Nat.le_of_ble_eq_true rfl⟩ ?_
  refine rg_aload_n C 0 dX2_init_4 rfl rfl ?_
  refine rg_bipush (z := 8) C dX2_init_5 (by decide) ?_
  refine rg_newZ C 8 rfl (by decide) (Nat.le_of_ble_eq_true rfl) (Nat.le_of_ble_eq_true rfl) dX2_init_7 (fun q7 => ?_)
  refine rg_putF (ws' := [cO o0 2 [.ref q7, .null, .null, .null, .long (lI 0)], cZ E q7 8 (fun _ => 0)]) C fX2_9 layX2 rfl hnm rfl 0 rfl rfl rfl (Nat.le_of_ble_eq_true rfl) dX2_init_9 rfl ?_
  refine rg_aload_n C 0 dX2_init_12 rfl rfl ?_
  refine rg_bipush (z := 8) C dX2_init_13 (by decide) ?_
  refine rg_newI C 8 rfl (by decide) (Nat.le_of_ble_eq_true rfl) (Nat.le_of_ble_eq_true rfl) dX2_init_15 (fun q15 => ?_)
  refine rg_putF (ws' := [cO o0 2 [.ref q7, .ref q15, .null, .null, .long (lI 0)], cZ E q7 8 (fun _ => 0), cI E q15 8 (fun _ => 0)]) C fX2_15 layX2 rfl hnm rfl 0 rfl rfl rfl (Nat.le_of_ble_eq_true rfl) dX2_init_17 rfl ?_
  refine rg_aload_n C 0 dX2_init_20 rfl rfl ?_
  refine rg_bipush (z := 8) C dX2_init_21 (by decide) ?_
  refine rg_newI C 8 rfl (by decide) (Nat.le_of_ble_eq_true rfl) (Nat.le_of_ble_eq_true rfl) dX2_init_23 (fun q23 => ?_)
  refine rg_putF (ws' := [cO o0 2 [.ref q7, .ref q15, .ref q23, .null, .long (lI 0)], cZ E q7 8 (fun _ => 0), cI E q15 8 (fun _ => 0), cI E q23 8 (fun _ => 0)]) C fX2_19 layX2 rfl hnm rfl 0 rfl rfl rfl (Nat.le_of_ble_eq_true rfl) dX2_init_25 rfl ?_
  refine rg_aload_n C 0 dX2_init_28 rfl rfl ?_
  refine rg_bipush (z := 8) C dX2_init_29 (by decide) ?_
  refine rg_newI C 8 rfl (by decide) (Nat.le_of_ble_eq_true rfl) (Nat.le_of_ble_eq_true rfl) dX2_init_31 (fun q31 => ?_)
  refine rg_putF (ws' := [cO o0 2 [.ref q7, .ref q15, .ref q23, .ref q31, .long (lI 0)], cZ E q7 8 (fun _ => 0), cI E q15 8 (fun _ => 0), cI E q23 8 (fun _ => 0), cI E q31 8 (fun _ => 0)]) C fX2_22 layX2 rfl hnm rfl 0 rfl rfl rfl (Nat.le_of_ble_eq_true rfl) dX2_init_33 rfl ?_
  exact rg_vret C hA hQ hr hlk (q7, q15, q23, q31) rfl rfl dX2_init_36
abbrev rX3_init : Room := { frames := 1, cells := 9, slots := 360, locals := 12 }
set_option maxHeartbeats 4000000 in
set_option maxRecDepth 100000 in
theorem kX3_init (l : Launch) (E : rE) (o0 : Nat) : rM l yX3_init sX3_init rX3_init E [cO o0 3 [.null, .null, .null, .null, .null, .null, .null, .null, .null, .int (iI 0)]] [.ref o0] none (fun u : Nat × Nat × Nat × Nat × Nat × Nat × Nat × Nat × Nat => [cO o0 3 [.ref u.1, .ref u.2.1, .ref u.2.2.1, .ref u.2.2.2.1, .ref u.2.2.2.2.1, .ref u.2.2.2.2.2.1, .ref u.2.2.2.2.2.2.1, .ref u.2.2.2.2.2.2.2.1, .ref u.2.2.2.2.2.2.2.2, .int (iI 0)], cZ E u.1 40 (fun _ => 0), cI E u.2.1 40 (fun _ => 0), cI E u.2.2.1 40 (fun _ => 0), cI E u.2.2.2.1 40 (fun _ => 0), cI E u.2.2.2.2.1 40 (fun _ => 0), cI E u.2.2.2.2.2.1 40 (fun _ => 0), cI E u.2.2.2.2.2.2.1 40 (fun _ => 0), cI E u.2.2.2.2.2.2.2.1 40 (fun _ => 0), cI E u.2.2.2.2.2.2.2.2 40 (fun _ => 0)]) := by
  refine rM.of (cc := cX3_init) (maxL := 1) (ret := none) (by decide) rfl (Nat.le_of_ble_eq_true rfl) (fun w h => List.mem_cons_of_mem _ h) ?_
  intro p e s m args below meth c A Q hA hQ C hr hlk hnm
  have C : rC p s m args c E A 1 cX3_init sX3_init RX3 := C
  show rG p l e rX3_init s m args below meth c E A 1 0 0 Q [cO o0 3 [.null, .null, .null, .null, .null, .null, .null, .null, .null, .int (iI 0)]] 0 [(0, .ref o0)] []
  refine rg_aload_n C 0 dX3_init_0 rfl rfl ?_
  refine rg_objInit C w_111 dX3_init_1 ⟨Nat.le_of_ble_eq_true rfl, Nat.le_of_ble_eq_true rfl⟩ ?_
  refine rg_aload_n C 0 dX3_init_4 rfl rfl ?_
  refine rg_bipush (z := 40) C dX3_init_5 (by decide) ?_
  refine rg_newZ C 40 rfl (by decide) (Nat.le_of_ble_eq_true rfl) (Nat.le_of_ble_eq_true rfl) dX3_init_7 (fun q7 => ?_)
  refine rg_putF (ws' := [cO o0 3 [.ref q7, .null, .null, .null, .null, .null, .null, .null, .null, .int (iI 0)], cZ E q7 40 (fun _ => 0)]) C fX3_9 layX3 rfl hnm rfl 0 rfl rfl rfl (Nat.le_of_ble_eq_true rfl) dX3_init_9 rfl ?_
  refine rg_aload_n C 0 dX3_init_12 rfl rfl ?_
  refine rg_bipush (z := 40) C dX3_init_13 (by decide) ?_
  refine rg_newI C 40 rfl (by decide) (Nat.le_of_ble_eq_true rfl) (Nat.le_of_ble_eq_true rfl) dX3_init_15 (fun q15 => ?_)
  refine rg_putF (ws' := [cO o0 3 [.ref q7, .ref q15, .null, .null, .null, .null, .null, .null, .null, .int (iI 0)], cZ E q7 40 (fun _ => 0), cI E q15 40 (fun _ => 0)]) C fX3_15 layX3 rfl hnm rfl 0 rfl rfl rfl (Nat.le_of_ble_eq_true rfl) dX3_init_17 rfl ?_
  refine rg_aload_n C 0 dX3_init_20 rfl rfl ?_
  refine rg_bipush (z := 40) C dX3_init_21 (by decide) ?_
  refine rg_newI C 40 rfl (by decide) (Nat.le_of_ble_eq_true rfl) (Nat.le_of_ble_eq_true rfl) dX3_init_23 (fun q23 => ?_)
  refine rg_putF (ws' := [cO o0 3 [.ref q7, .ref q15, .ref q23, .null, .null, .null, .null, .null, .null, .int (iI 0)], cZ E q7 40 (fun _ => 0), cI E q15 40 (fun _ => 0), cI E q23 40 (fun _ => 0)]) C fX3_19 layX3 rfl hnm rfl 0 rfl rfl rfl (Nat.le_of_ble_eq_true rfl) dX3_init_25 rfl ?_
  refine rg_aload_n C 0 dX3_init_28 rfl rfl ?_
  refine rg_bipush (z := 40) C dX3_init_29 (by decide) ?_
  refine rg_newI C 40 rfl (by decide) (Nat.le_of_ble_eq_true rfl) (Nat.le_of_ble_eq_true rfl) dX3_init_31 (fun q31 => ?_)
  refine rg_putF (ws' := [cO o0 3 [.ref q7, .ref q15, .ref q23, .ref q31, .null, .null, .null, .null, .null, .int (iI 0)], cZ E q7 40 (fun _ => 0), cI E q15 40 (fun _ => 0), cI E q23 40 (fun _ => 0), cI E q31 40 (fun _ => 0)]) C fX3_22 layX3 rfl hnm rfl 0 rfl rfl rfl (Nat.le_of_ble_eq_true rfl) dX3_init_33 rfl ?_
  refine rg_aload_n C 0 dX3_init_36 rfl rfl ?_
  refine rg_bipush (z := 40) C dX3_init_37 (by decide) ?_
  refine rg_newI C 40 rfl (by decide) (Nat.le_of_ble_eq_true rfl) (Nat.le_of_ble_eq_true rfl) dX3_init_39 (fun q39 => ?_)
  refine rg_putF (ws' := [cO o0 3 [.ref q7, .ref q15, .ref q23, .ref q31, .ref q39, .null, .null, .null, .null, .int (iI 0)], cZ E q7 40 (fun _ => 0), cI E q15 40 (fun _ => 0), cI E q23 40 (fun _ => 0), cI E q31 40 (fun _ => 0), cI E q39 40 (fun _ => 0)]) C fX3_25 layX3 rfl hnm rfl 0 rfl rfl rfl (Nat.le_of_ble_eq_true rfl) dX3_init_41 rfl ?_
  refine rg_aload_n C 0 dX3_init_44 rfl rfl ?_
  refine rg_bipush (z := 40) C dX3_init_45 (by decide) ?_
  refine rg_newI C 40 rfl (by decide) (Nat.le_of_ble_eq_true rfl) (Nat.le_of_ble_eq_true rfl) dX3_init_47 (fun q47 => ?_)
  refine rg_putF (ws' := [cO o0 3 [.ref q7, .ref q15, .ref q23, .ref q31, .ref q39, .ref q47, .null, .null, .null, .int (iI 0)], cZ E q7 40 (fun _ => 0), cI E q15 40 (fun _ => 0), cI E q23 40 (fun _ => 0), cI E q31 40 (fun _ => 0), cI E q39 40 (fun _ => 0), cI E q47 40 (fun _ => 0)]) C fX3_28 layX3 rfl hnm rfl 0 rfl rfl rfl (Nat.le_of_ble_eq_true rfl) dX3_init_49 rfl ?_
  refine rg_aload_n C 0 dX3_init_52 rfl rfl ?_
  refine rg_bipush (z := 40) C dX3_init_53 (by decide) ?_
  refine rg_newI C 40 rfl (by decide) (Nat.le_of_ble_eq_true rfl) (Nat.le_of_ble_eq_true rfl) dX3_init_55 (fun q55 => ?_)
  refine rg_putF (ws' := [cO o0 3 [.ref q7, .ref q15, .ref q23, .ref q31, .ref q39, .ref q47, .ref q55, .null, .null, .int (iI 0)], cZ E q7 40 (fun _ => 0), cI E q15 40 (fun _ => 0), cI E q23 40 (fun _ => 0), cI E q31 40 (fun _ => 0), cI E q39 40 (fun _ => 0), cI E q47 40 (fun _ => 0), cI E q55 40 (fun _ => 0)]) C fX3_31 layX3 rfl hnm rfl 0 rfl rfl rfl (Nat.le_of_ble_eq_true rfl) dX3_init_57 rfl ?_
  refine rg_aload_n C 0 dX3_init_60 rfl rfl ?_
  refine rg_bipush (z := 40) C dX3_init_61 (by decide) ?_
  refine rg_newI C 40 rfl (by decide) (Nat.le_of_ble_eq_true rfl) (Nat.le_of_ble_eq_true rfl) dX3_init_63 (fun q63 => ?_)
  refine rg_putF (ws' := [cO o0 3 [.ref q7, .ref q15, .ref q23, .ref q31, .ref q39, .ref q47, .ref q55, .ref q63, .null, .int (iI 0)], cZ E q7 40 (fun _ => 0), cI E q15 40 (fun _ => 0), cI E q23 40 (fun _ => 0), cI E q31 40 (fun _ => 0), cI E q39 40 (fun _ => 0), cI E q47 40 (fun _ => 0), cI E q55 40 (fun _ => 0), cI E q63 40 (fun _ => 0)]) C fX3_34 layX3 rfl hnm rfl 0 rfl rfl rfl (Nat.le_of_ble_eq_true rfl) dX3_init_65 rfl ?_
  refine rg_aload_n C 0 dX3_init_68 rfl rfl ?_
  refine rg_bipush (z := 40) C dX3_init_69 (by decide) ?_
  refine rg_newI C 40 rfl (by decide) (Nat.le_of_ble_eq_true rfl) (Nat.le_of_ble_eq_true rfl) dX3_init_71 (fun q71 => ?_)
  refine rg_putF (ws' := [cO o0 3 [.ref q7, .ref q15, .ref q23, .ref q31, .ref q39, .ref q47, .ref q55, .ref q63, .ref q71, .int (iI 0)], cZ E q7 40 (fun _ => 0), cI E q15 40 (fun _ => 0), cI E q23 40 (fun _ => 0), cI E q31 40 (fun _ => 0), cI E q39 40 (fun _ => 0), cI E q47 40 (fun _ => 0), cI E q55 40 (fun _ => 0), cI E q63 40 (fun _ => 0), cI E q71 40 (fun _ => 0)]) C fX3_37 layX3 rfl hnm rfl 0 rfl rfl rfl (Nat.le_of_ble_eq_true rfl) dX3_init_73 rfl ?_
  exact rg_vret C hA hQ hr hlk (q7, q15, q23, q31, q39, q47, q55, q63, q71) rfl rfl dX3_init_76
abbrev rX0_init : Room := { frames := 1, cells := 1, slots := 300, locals := 12 }
set_option maxHeartbeats 4000000 in
set_option maxRecDepth 100000 in
theorem kX0_init (l : Launch) (E : rE) (o0 : Nat) : rM l yX0_init sX0_init rX0_init E [cO o0 0 [.null, .int (iI 0)]] [.ref o0] none (fun u : Nat => [cO o0 0 [.ref u, .int (iI 0)], cJ E u 300 (fun _ => 0)]) := by
  refine rM.of (cc := cX0_init) (maxL := 1) (ret := none) (by decide) rfl (Nat.le_of_ble_eq_true rfl) (fun w h => List.mem_cons_of_mem _ h) ?_
  intro p e s m args below meth c A Q hA hQ C hr hlk hnm
  have C : rC p s m args c E A 1 cX0_init sX0_init RX0 := C
  show rG p l e rX0_init s m args below meth c E A 1 0 0 Q [cO o0 0 [.null, .int (iI 0)]] 0 [(0, .ref o0)] []
  refine rg_aload_n C 0 dX0_init_0 rfl rfl ?_
  refine rg_objInit C w_167 dX0_init_1 ⟨Nat.le_of_ble_eq_true rfl, Nat.le_of_ble_eq_true rfl⟩ ?_
  refine rg_aload_n C 0 dX0_init_4 rfl rfl ?_
  refine rg_sipush (z := 300) C dX0_init_5 (by decide) ?_
  refine rg_newJ C 300 rfl (by decide) (Nat.le_of_ble_eq_true rfl) (Nat.le_of_ble_eq_true rfl) dX0_init_8 (fun q8 => ?_)
  refine rg_putF (ws' := [cO o0 0 [.ref q8, .int (iI 0)], cJ E q8 300 (fun _ => 0)]) C fX0_11 layX0 rfl hnm rfl 0 rfl rfl rfl (Nat.le_of_ble_eq_true rfl) dX0_init_10 rfl ?_
  exact rg_vret C hA hQ hr hlk (q8) rfl rfl dX0_init_13
abbrev rX1_init : Room := { frames := 1, cells := 3, slots := 80, locals := 12 }
set_option maxHeartbeats 4000000 in
set_option maxRecDepth 100000 in
theorem kX1_init (l : Launch) (E : rE) (o0 : Nat) : rM l yX1_init sX1_init rX1_init E [cO o0 1 [.null, .null, .null]] [.ref o0] none (fun u : Nat × Nat × Nat => [cO o0 1 [.ref u.1, .ref u.2.1, .ref u.2.2], cI E u.1 40 (fun _ => 0), cJ E u.2.1 32 (fun _ => 0), cI E u.2.2 8 (fun _ => 0)]) := by
  refine rM.of (cc := cX1_init) (maxL := 1) (ret := none) (by decide) rfl (Nat.le_of_ble_eq_true rfl) (fun w h => List.mem_cons_of_mem _ h) ?_
  intro p e s m args below meth c A Q hA hQ C hr hlk hnm
  have C : rC p s m args c E A 1 cX1_init sX1_init RX1 := C
  show rG p l e rX1_init s m args below meth c E A 1 0 0 Q [cO o0 1 [.null, .null, .null]] 0 [(0, .ref o0)] []
  refine rg_aload_n C 0 dX1_init_0 rfl rfl ?_
  refine rg_objInit C w_181 dX1_init_1 ⟨Nat.le_of_ble_eq_true rfl, Nat.le_of_ble_eq_true rfl⟩ ?_
  refine rg_aload_n C 0 dX1_init_4 rfl rfl ?_
  refine rg_bipush (z := 40) C dX1_init_5 (by decide) ?_
  refine rg_newI C 40 rfl (by decide) (Nat.le_of_ble_eq_true rfl) (Nat.le_of_ble_eq_true rfl) dX1_init_7 (fun q7 => ?_)
  refine rg_putF (ws' := [cO o0 1 [.ref q7, .null, .null], cI E q7 40 (fun _ => 0)]) C fX1_9 layX1 rfl hnm rfl 0 rfl rfl rfl (Nat.le_of_ble_eq_true rfl) dX1_init_9 rfl ?_
  refine rg_aload_n C 0 dX1_init_12 rfl rfl ?_
  refine rg_bipush (z := 32) C dX1_init_13 (by decide) ?_
  refine rg_newJ C 32 rfl (by decide) (Nat.le_of_ble_eq_true rfl) (Nat.le_of_ble_eq_true rfl) dX1_init_15 (fun q15 => ?_)
  refine rg_putF (ws' := [cO o0 1 [.ref q7, .ref q15, .null], cI E q7 40 (fun _ => 0), cJ E q15 32 (fun _ => 0)]) C fX1_15 layX1 rfl hnm rfl 0 rfl rfl rfl (Nat.le_of_ble_eq_true rfl) dX1_init_17 rfl ?_
  refine rg_aload_n C 0 dX1_init_20 rfl rfl ?_
  refine rg_bipush (z := 8) C dX1_init_21 (by decide) ?_
  refine rg_newI C 8 rfl (by decide) (Nat.le_of_ble_eq_true rfl) (Nat.le_of_ble_eq_true rfl) dX1_init_23 (fun q23 => ?_)
  refine rg_putF (ws' := [cO o0 1 [.ref q7, .ref q15, .ref q23], cI E q7 40 (fun _ => 0), cJ E q15 32 (fun _ => 0), cI E q23 8 (fun _ => 0)]) C fX1_19 layX1 rfl hnm rfl 0 rfl rfl rfl (Nat.le_of_ble_eq_true rfl) dX1_init_25 rfl ?_
  exact rg_vret C hA hQ hr hlk (q7, q15, q23) rfl rfl dX1_init_28
abbrev rX6_init : Room := { frames := 1, cells := 20, slots := 1124, locals := 12 }
set_option maxHeartbeats 4000000 in
set_option maxRecDepth 100000 in
theorem kX6_init (l : Launch) (E : rE) (o0 : Nat) : rM l yX6_init sX6_init rX6_init E [cO o0 6 [.int (iI 0), .null, .null, .null, .null, .null, .null, .null, .null, .null, .null, .null, .null, .null, .null, .null, .null, .int (iI 0), .null, .null, .null, .null, .int (iI 0)]] [.ref o0] none (fun u : Nat × Nat × Nat × Nat × Nat × Nat × Nat × Nat × Nat × Nat × Nat × Nat × Nat × Nat × Nat × Nat × Nat × Nat × Nat × Nat => [cO o0 6 [.int (iI 0), .ref u.1, .ref u.2.1, .ref u.2.2.1, .ref u.2.2.2.1, .ref u.2.2.2.2.1, .ref u.2.2.2.2.2.1, .ref u.2.2.2.2.2.2.1, .ref u.2.2.2.2.2.2.2.1, .ref u.2.2.2.2.2.2.2.2.1, .ref u.2.2.2.2.2.2.2.2.2.1, .ref u.2.2.2.2.2.2.2.2.2.2.1, .ref u.2.2.2.2.2.2.2.2.2.2.2.1, .ref u.2.2.2.2.2.2.2.2.2.2.2.2.1, .ref u.2.2.2.2.2.2.2.2.2.2.2.2.2.1, .ref u.2.2.2.2.2.2.2.2.2.2.2.2.2.2.1, .ref u.2.2.2.2.2.2.2.2.2.2.2.2.2.2.2.1, .int (iI 0), .ref u.2.2.2.2.2.2.2.2.2.2.2.2.2.2.2.2.1, .ref u.2.2.2.2.2.2.2.2.2.2.2.2.2.2.2.2.2.1, .ref u.2.2.2.2.2.2.2.2.2.2.2.2.2.2.2.2.2.2.1, .ref u.2.2.2.2.2.2.2.2.2.2.2.2.2.2.2.2.2.2.2, .int (iI 0)], cZ E u.1 32 (fun _ => 0), cI E u.2.1 32 (fun _ => 0), cI E u.2.2.1 32 (fun _ => 0), cZ E u.2.2.2.1 8 (fun _ => 0), cI E u.2.2.2.2.1 8 (fun _ => 0), cI E u.2.2.2.2.2.1 8 (fun _ => 0), cI E u.2.2.2.2.2.2.1 8 (fun _ => 0), cJ E u.2.2.2.2.2.2.2.1 256 (fun _ => 0), cZ E u.2.2.2.2.2.2.2.2.1 40 (fun _ => 0), cI E u.2.2.2.2.2.2.2.2.2.1 40 (fun _ => 0), cI E u.2.2.2.2.2.2.2.2.2.2.1 40 (fun _ => 0), cI E u.2.2.2.2.2.2.2.2.2.2.2.1 40 (fun _ => 0), cI E u.2.2.2.2.2.2.2.2.2.2.2.2.1 40 (fun _ => 0), cI E u.2.2.2.2.2.2.2.2.2.2.2.2.2.1 40 (fun _ => 0), cI E u.2.2.2.2.2.2.2.2.2.2.2.2.2.2.1 40 (fun _ => 0), cI E u.2.2.2.2.2.2.2.2.2.2.2.2.2.2.2.1 40 (fun _ => 0), cJ E u.2.2.2.2.2.2.2.2.2.2.2.2.2.2.2.2.1 300 (fun _ => 0), cI E u.2.2.2.2.2.2.2.2.2.2.2.2.2.2.2.2.2.1 40 (fun _ => 0), cI E u.2.2.2.2.2.2.2.2.2.2.2.2.2.2.2.2.2.2.1 40 (fun _ => 0), cI E u.2.2.2.2.2.2.2.2.2.2.2.2.2.2.2.2.2.2.2 40 (fun _ => 0)]) := by
  refine rM.of (cc := cX6_init) (maxL := 1) (ret := none) (by decide) rfl (Nat.le_of_ble_eq_true rfl) (fun w h => List.mem_cons_of_mem _ h) ?_
  intro p e s m args below meth c A Q hA hQ C hr hlk hnm
  have C : rC p s m args c E A 1 cX6_init sX6_init RX6 := C
  show rG p l e rX6_init s m args below meth c E A 1 0 0 Q [cO o0 6 [.int (iI 0), .null, .null, .null, .null, .null, .null, .null, .null, .null, .null, .null, .null, .null, .null, .null, .null, .int (iI 0), .null, .null, .null, .null, .int (iI 0)]] 0 [(0, .ref o0)] []
  refine rg_aload_n C 0 dX6_init_0 rfl rfl ?_
  refine rg_objInit C w_622 dX6_init_1 ⟨Nat.le_of_ble_eq_true rfl, Nat.le_of_ble_eq_true rfl⟩ ?_
  refine rg_aload_n C 0 dX6_init_4 rfl rfl ?_
  refine rg_bipush (z := 32) C dX6_init_5 (by decide) ?_
  refine rg_newZ C 32 rfl (by decide) (Nat.le_of_ble_eq_true rfl) (Nat.le_of_ble_eq_true rfl) dX6_init_7 (fun q7 => ?_)
  refine rg_putF (ws' := [cO o0 6 [.int (iI 0), .ref q7, .null, .null, .null, .null, .null, .null, .null, .null, .null, .null, .null, .null, .null, .null, .null, .int (iI 0), .null, .null, .null, .null, .int (iI 0)], cZ E q7 32 (fun _ => 0)]) C fX6_7 layX6 rfl hnm rfl 0 rfl rfl rfl (Nat.le_of_ble_eq_true rfl) dX6_init_9 rfl ?_
  refine rg_aload_n C 0 dX6_init_12 rfl rfl ?_
  refine rg_bipush (z := 32) C dX6_init_13 (by decide) ?_
  refine rg_newI C 32 rfl (by decide) (Nat.le_of_ble_eq_true rfl) (Nat.le_of_ble_eq_true rfl) dX6_init_15 (fun q15 => ?_)
  refine rg_putF (ws' := [cO o0 6 [.int (iI 0), .ref q7, .ref q15, .null, .null, .null, .null, .null, .null, .null, .null, .null, .null, .null, .null, .null, .null, .int (iI 0), .null, .null, .null, .null, .int (iI 0)], cZ E q7 32 (fun _ => 0), cI E q15 32 (fun _ => 0)]) C fX6_13 layX6 rfl hnm rfl 0 rfl rfl rfl (Nat.le_of_ble_eq_true rfl) dX6_init_17 rfl ?_
  refine rg_aload_n C 0 dX6_init_20 rfl rfl ?_
  refine rg_bipush (z := 32) C dX6_init_21 (by decide) ?_
  refine rg_newI C 32 rfl (by decide) (Nat.le_of_ble_eq_true rfl) (Nat.le_of_ble_eq_true rfl) dX6_init_23 (fun q23 => ?_)
  refine rg_putF (ws' := [cO o0 6 [.int (iI 0), .ref q7, .ref q15, .ref q23, .null, .null, .null, .null, .null, .null, .null, .null, .null, .null, .null, .null, .null, .int (iI 0), .null, .null, .null, .null, .int (iI 0)], cZ E q7 32 (fun _ => 0), cI E q15 32 (fun _ => 0), cI E q23 32 (fun _ => 0)]) C fX6_17 layX6 rfl hnm rfl 0 rfl rfl rfl (Nat.le_of_ble_eq_true rfl) dX6_init_25 rfl ?_
  refine rg_aload_n C 0 dX6_init_28 rfl rfl ?_
  refine rg_bipush (z := 8) C dX6_init_29 (by decide) ?_
  refine rg_newZ C 8 rfl (by decide) (Nat.le_of_ble_eq_true rfl) (Nat.le_of_ble_eq_true rfl) dX6_init_31 (fun q31 => ?_)
  refine rg_putF (ws' := [cO o0 6 [.int (iI 0), .ref q7, .ref q15, .ref q23, .ref q31, .null, .null, .null, .null, .null, .null, .null, .null, .null, .null, .null, .null, .int (iI 0), .null, .null, .null, .null, .int (iI 0)], cZ E q7 32 (fun _ => 0), cI E q15 32 (fun _ => 0), cI E q23 32 (fun _ => 0), cZ E q31 8 (fun _ => 0)]) C fX6_20 layX6 rfl hnm rfl 0 rfl rfl rfl (Nat.le_of_ble_eq_true rfl) dX6_init_33 rfl ?_
  refine rg_aload_n C 0 dX6_init_36 rfl rfl ?_
  refine rg_bipush (z := 8) C dX6_init_37 (by decide) ?_
  refine rg_newI C 8 rfl (by decide) (Nat.le_of_ble_eq_true rfl) (Nat.le_of_ble_eq_true rfl) dX6_init_39 (fun q39 => ?_)
  refine rg_putF (ws' := [cO o0 6 [.int (iI 0), .ref q7, .ref q15, .ref q23, .ref q31, .ref q39, .null, .null, .null, .null, .null, .null, .null, .null, .null, .null, .null, .int (iI 0), .null, .null, .null, .null, .int (iI 0)], cZ E q7 32 (fun _ => 0), cI E q15 32 (fun _ => 0), cI E q23 32 (fun _ => 0), cZ E q31 8 (fun _ => 0), cI E q39 8 (fun _ => 0)]) C fX6_23 layX6 rfl hnm rfl 0 rfl rfl rfl (Nat.le_of_ble_eq_true rfl) dX6_init_41 rfl ?_
  refine rg_aload_n C 0 dX6_init_44 rfl rfl ?_
  refine rg_bipush (z := 8) C dX6_init_45 (by decide) ?_
  refine rg_newI C 8 rfl (by decide) (Nat.le_of_ble_eq_true rfl) (Nat.le_of_ble_eq_true rfl) dX6_init_47 (fun q47 => ?_)
  refine rg_putF (ws' := [cO o0 6 [.int (iI 0), .ref q7, .ref q15, .ref q23, .ref q31, .ref q39, .ref q47, .null, .null, .null, .null, .null, .null, .null, .null, .null, .null, .int (iI 0), .null, .null, .null, .null, .int (iI 0)], cZ E q7 32 (fun _ => 0), cI E q15 32 (fun _ => 0), cI E q23 32 (fun _ => 0), cZ E q31 8 (fun _ => 0), cI E q39 8 (fun _ => 0), cI E q47 8 (fun _ => 0)]) C fX6_26 layX6 rfl hnm rfl 0 rfl rfl rfl (Nat.le_of_ble_eq_true rfl) dX6_init_49 rfl ?_
  refine rg_aload_n C 0 dX6_init_52 rfl rfl ?_
  refine rg_bipush (z := 8) C dX6_init_53 (by decide) ?_
  refine rg_newI C 8 rfl (by decide) (Nat.le_of_ble_eq_true rfl) (Nat.le_of_ble_eq_true rfl) dX6_init_55 (fun q55 => ?_)
  refine rg_putF (ws' := [cO o0 6 [.int (iI 0), .ref q7, .ref q15, .ref q23, .ref q31, .ref q39, .ref q47, .ref q55, .null, .null, .null, .null, .null, .null, .null, .null, .null, .int (iI 0), .null, .null, .null, .null, .int (iI 0)], cZ E q7 32 (fun _ => 0), cI E q15 32 (fun _ => 0), cI E q23 32 (fun _ => 0), cZ E q31 8 (fun _ => 0), cI E q39 8 (fun _ => 0), cI E q47 8 (fun _ => 0), cI E q55 8 (fun _ => 0)]) C fX6_29 layX6 rfl hnm rfl 0 rfl rfl rfl (Nat.le_of_ble_eq_true rfl) dX6_init_57 rfl ?_
  refine rg_aload_n C 0 dX6_init_60 rfl rfl ?_
  refine rg_sipush (z := 256) C dX6_init_61 (by decide) ?_
  refine rg_newJ C 256 rfl (by decide) (Nat.le_of_ble_eq_true rfl) (Nat.le_of_ble_eq_true rfl) dX6_init_64 (fun q64 => ?_)
  refine rg_putF (ws' := [cO o0 6 [.int (iI 0), .ref q7, .ref q15, .ref q23, .ref q31, .ref q39, .ref q47, .ref q55, .ref q64, .null, .null, .null, .null, .null, .null, .null, .null, .int (iI 0), .null, .null, .null, .null, .int (iI 0)], cZ E q7 32 (fun _ => 0), cI E q15 32 (fun _ => 0), cI E q23 32 (fun _ => 0), cZ E q31 8 (fun _ => 0), cI E q39 8 (fun _ => 0), cI E q47 8 (fun _ => 0), cI E q55 8 (fun _ => 0), cJ E q64 256 (fun _ => 0)]) C fX6_32 layX6 rfl hnm rfl 0 rfl rfl rfl (Nat.le_of_ble_eq_true rfl) dX6_init_66 rfl ?_
  refine rg_aload_n C 0 dX6_init_69 rfl rfl ?_
  refine rg_bipush (z := 40) C dX6_init_70 (by decide) ?_
  refine rg_newZ C 40 rfl (by decide) (Nat.le_of_ble_eq_true rfl) (Nat.le_of_ble_eq_true rfl) dX6_init_72 (fun q72 => ?_)
  refine rg_putF (ws' := [cO o0 6 [.int (iI 0), .ref q7, .ref q15, .ref q23, .ref q31, .ref q39, .ref q47, .ref q55, .ref q64, .ref q72, .null, .null, .null, .null, .null, .null, .null, .int (iI 0), .null, .null, .null, .null, .int (iI 0)], cZ E q7 32 (fun _ => 0), cI E q15 32 (fun _ => 0), cI E q23 32 (fun _ => 0), cZ E q31 8 (fun _ => 0), cI E q39 8 (fun _ => 0), cI E q47 8 (fun _ => 0), cI E q55 8 (fun _ => 0), cJ E q64 256 (fun _ => 0), cZ E q72 40 (fun _ => 0)]) C fX6_36 layX6 rfl hnm rfl 0 rfl rfl rfl (Nat.le_of_ble_eq_true rfl) dX6_init_74 rfl ?_
  refine rg_aload_n C 0 dX6_init_77 rfl rfl ?_
  refine rg_bipush (z := 40) C dX6_init_78 (by decide) ?_
  refine rg_newI C 40 rfl (by decide) (Nat.le_of_ble_eq_true rfl) (Nat.le_of_ble_eq_true rfl) dX6_init_80 (fun q80 => ?_)
  refine rg_putF (ws' := [cO o0 6 [.int (iI 0), .ref q7, .ref q15, .ref q23, .ref q31, .ref q39, .ref q47, .ref q55, .ref q64, .ref q72, .ref q80, .null, .null, .null, .null, .null, .null, .int (iI 0), .null, .null, .null, .null, .int (iI 0)], cZ E q7 32 (fun _ => 0), cI E q15 32 (fun _ => 0), cI E q23 32 (fun _ => 0), cZ E q31 8 (fun _ => 0), cI E q39 8 (fun _ => 0), cI E q47 8 (fun _ => 0), cI E q55 8 (fun _ => 0), cJ E q64 256 (fun _ => 0), cZ E q72 40 (fun _ => 0), cI E q80 40 (fun _ => 0)]) C fX6_39 layX6 rfl hnm rfl 0 rfl rfl rfl (Nat.le_of_ble_eq_true rfl) dX6_init_82 rfl ?_
  refine rg_aload_n C 0 dX6_init_85 rfl rfl ?_
  refine rg_bipush (z := 40) C dX6_init_86 (by decide) ?_
  refine rg_newI C 40 rfl (by decide) (Nat.le_of_ble_eq_true rfl) (Nat.le_of_ble_eq_true rfl) dX6_init_88 (fun q88 => ?_)
  refine rg_putF (ws' := [cO o0 6 [.int (iI 0), .ref q7, .ref q15, .ref q23, .ref q31, .ref q39, .ref q47, .ref q55, .ref q64, .ref q72, .ref q80, .ref q88, .null, .null, .null, .null, .null, .int (iI 0), .null, .null, .null, .null, .int (iI 0)], cZ E q7 32 (fun _ => 0), cI E q15 32 (fun _ => 0), cI E q23 32 (fun _ => 0), cZ E q31 8 (fun _ => 0), cI E q39 8 (fun _ => 0), cI E q47 8 (fun _ => 0), cI E q55 8 (fun _ => 0), cJ E q64 256 (fun _ => 0), cZ E q72 40 (fun _ => 0), cI E q80 40 (fun _ => 0), cI E q88 40 (fun _ => 0)]) C fX6_42 layX6 rfl hnm rfl 0 rfl rfl rfl (Nat.le_of_ble_eq_true rfl) dX6_init_90 rfl ?_
  refine rg_aload_n C 0 dX6_init_93 rfl rfl ?_
  refine rg_bipush (z := 40) C dX6_init_94 (by decide) ?_
  refine rg_newI C 40 rfl (by decide) (Nat.le_of_ble_eq_true rfl) (Nat.le_of_ble_eq_true rfl) dX6_init_96 (fun q96 => ?_)
  refine rg_putF (ws' := [cO o0 6 [.int (iI 0), .ref q7, .ref q15, .ref q23, .ref q31, .ref q39, .ref q47, .ref q55, .ref q64, .ref q72, .ref q80, .ref q88, .ref q96, .null, .null, .null, .null, .int (iI 0), .null, .null, .null, .null, .int (iI 0)], cZ E q7 32 (fun _ => 0), cI E q15 32 (fun _ => 0), cI E q23 32 (fun _ => 0), cZ E q31 8 (fun _ => 0), cI E q39 8 (fun _ => 0), cI E q47 8 (fun _ => 0), cI E q55 8 (fun _ => 0), cJ E q64 256 (fun _ => 0), cZ E q72 40 (fun _ => 0), cI E q80 40 (fun _ => 0), cI E q88 40 (fun _ => 0), cI E q96 40 (fun _ => 0)]) C fX6_45 layX6 rfl hnm rfl 0 rfl rfl rfl (Nat.le_of_ble_eq_true rfl) dX6_init_98 rfl ?_
  refine rg_aload_n C 0 dX6_init_101 rfl rfl ?_
  refine rg_bipush (z := 40) C dX6_init_102 (by decide) ?_
  refine rg_newI C 40 rfl (by decide) (Nat.le_of_ble_eq_true rfl) (Nat.le_of_ble_eq_true rfl) dX6_init_104 (fun q104 => ?_)
  refine rg_putF (ws' := [cO o0 6 [.int (iI 0), .ref q7, .ref q15, .ref q23, .ref q31, .ref q39, .ref q47, .ref q55, .ref q64, .ref q72, .ref q80, .ref q88, .ref q96, .ref q104, .null, .null, .null, .int (iI 0), .null, .null, .null, .null, .int (iI 0)], cZ E q7 32 (fun _ => 0), cI E q15 32 (fun _ => 0), cI E q23 32 (fun _ => 0), cZ E q31 8 (fun _ => 0), cI E q39 8 (fun _ => 0), cI E q47 8 (fun _ => 0), cI E q55 8 (fun _ => 0), cJ E q64 256 (fun _ => 0), cZ E q72 40 (fun _ => 0), cI E q80 40 (fun _ => 0), cI E q88 40 (fun _ => 0), cI E q96 40 (fun _ => 0), cI E q104 40 (fun _ => 0)]) C fX6_48 layX6 rfl hnm rfl 0 rfl rfl rfl (Nat.le_of_ble_eq_true rfl) dX6_init_106 rfl ?_
  refine rg_aload_n C 0 dX6_init_109 rfl rfl ?_
  refine rg_bipush (z := 40) C dX6_init_110 (by decide) ?_
  refine rg_newI C 40 rfl (by decide) (Nat.le_of_ble_eq_true rfl) (Nat.le_of_ble_eq_true rfl) dX6_init_112 (fun q112 => ?_)
  refine rg_putF (ws' := [cO o0 6 [.int (iI 0), .ref q7, .ref q15, .ref q23, .ref q31, .ref q39, .ref q47, .ref q55, .ref q64, .ref q72, .ref q80, .ref q88, .ref q96, .ref q104, .ref q112, .null, .null, .int (iI 0), .null, .null, .null, .null, .int (iI 0)], cZ E q7 32 (fun _ => 0), cI E q15 32 (fun _ => 0), cI E q23 32 (fun _ => 0), cZ E q31 8 (fun _ => 0), cI E q39 8 (fun _ => 0), cI E q47 8 (fun _ => 0), cI E q55 8 (fun _ => 0), cJ E q64 256 (fun _ => 0), cZ E q72 40 (fun _ => 0), cI E q80 40 (fun _ => 0), cI E q88 40 (fun _ => 0), cI E q96 40 (fun _ => 0), cI E q104 40 (fun _ => 0), cI E q112 40 (fun _ => 0)]) C fX6_51 layX6 rfl hnm rfl 0 rfl rfl rfl (Nat.le_of_ble_eq_true rfl) dX6_init_114 rfl ?_
  refine rg_aload_n C 0 dX6_init_117 rfl rfl ?_
  refine rg_bipush (z := 40) C dX6_init_118 (by decide) ?_
  refine rg_newI C 40 rfl (by decide) (Nat.le_of_ble_eq_true rfl) (Nat.le_of_ble_eq_true rfl) dX6_init_120 (fun q120 => ?_)
  refine rg_putF (ws' := [cO o0 6 [.int (iI 0), .ref q7, .ref q15, .ref q23, .ref q31, .ref q39, .ref q47, .ref q55, .ref q64, .ref q72, .ref q80, .ref q88, .ref q96, .ref q104, .ref q112, .ref q120, .null, .int (iI 0), .null, .null, .null, .null, .int (iI 0)], cZ E q7 32 (fun _ => 0), cI E q15 32 (fun _ => 0), cI E q23 32 (fun _ => 0), cZ E q31 8 (fun _ => 0), cI E q39 8 (fun _ => 0), cI E q47 8 (fun _ => 0), cI E q55 8 (fun _ => 0), cJ E q64 256 (fun _ => 0), cZ E q72 40 (fun _ => 0), cI E q80 40 (fun _ => 0), cI E q88 40 (fun _ => 0), cI E q96 40 (fun _ => 0), cI E q104 40 (fun _ => 0), cI E q112 40 (fun _ => 0), cI E q120 40 (fun _ => 0)]) C fX6_54 layX6 rfl hnm rfl 0 rfl rfl rfl (Nat.le_of_ble_eq_true rfl) dX6_init_122 rfl ?_
  refine rg_aload_n C 0 dX6_init_125 rfl rfl ?_
  refine rg_bipush (z := 40) C dX6_init_126 (by decide) ?_
  refine rg_newI C 40 rfl (by decide) (Nat.le_of_ble_eq_true rfl) (Nat.le_of_ble_eq_true rfl) dX6_init_128 (fun q128 => ?_)
  refine rg_putF (ws' := [cO o0 6 [.int (iI 0), .ref q7, .ref q15, .ref q23, .ref q31, .ref q39, .ref q47, .ref q55, .ref q64, .ref q72, .ref q80, .ref q88, .ref q96, .ref q104, .ref q112, .ref q120, .ref q128, .int (iI 0), .null, .null, .null, .null, .int (iI 0)], cZ E q7 32 (fun _ => 0), cI E q15 32 (fun _ => 0), cI E q23 32 (fun _ => 0), cZ E q31 8 (fun _ => 0), cI E q39 8 (fun _ => 0), cI E q47 8 (fun _ => 0), cI E q55 8 (fun _ => 0), cJ E q64 256 (fun _ => 0), cZ E q72 40 (fun _ => 0), cI E q80 40 (fun _ => 0), cI E q88 40 (fun _ => 0), cI E q96 40 (fun _ => 0), cI E q104 40 (fun _ => 0), cI E q112 40 (fun _ => 0), cI E q120 40 (fun _ => 0), cI E q128 40 (fun _ => 0)]) C fX6_57 layX6 rfl hnm rfl 0 rfl rfl rfl (Nat.le_of_ble_eq_true rfl) dX6_init_130 rfl ?_
  refine rg_aload_n C 0 dX6_init_133 rfl rfl ?_
  refine rg_sipush (z := 300) C dX6_init_134 (by decide) ?_
  refine rg_newJ C 300 rfl (by decide) (Nat.le_of_ble_eq_true rfl) (Nat.le_of_ble_eq_true rfl) dX6_init_137 (fun q137 => ?_)
  refine rg_putF (ws' := [cO o0 6 [.int (iI 0), .ref q7, .ref q15, .ref q23, .ref q31, .ref q39, .ref q47, .ref q55, .ref q64, .ref q72, .ref q80, .ref q88, .ref q96, .ref q104, .ref q112, .ref q120, .ref q128, .int (iI 0), .ref q137, .null, .null, .null, .int (iI 0)], cZ E q7 32 (fun _ => 0), cI E q15 32 (fun _ => 0), cI E q23 32 (fun _ => 0), cZ E q31 8 (fun _ => 0), cI E q39 8 (fun _ => 0), cI E q47 8 (fun _ => 0), cI E q55 8 (fun _ => 0), cJ E q64 256 (fun _ => 0), cZ E q72 40 (fun _ => 0), cI E q80 40 (fun _ => 0), cI E q88 40 (fun _ => 0), cI E q96 40 (fun _ => 0), cI E q104 40 (fun _ => 0), cI E q112 40 (fun _ => 0), cI E q120 40 (fun _ => 0), cI E q128 40 (fun _ => 0), cJ E q137 300 (fun _ => 0)]) C fX6_60 layX6 rfl hnm rfl 0 rfl rfl rfl (Nat.le_of_ble_eq_true rfl) dX6_init_139 rfl ?_
  refine rg_aload_n C 0 dX6_init_142 rfl rfl ?_
  refine rg_bipush (z := 40) C dX6_init_143 (by decide) ?_
  refine rg_newI C 40 rfl (by decide) (Nat.le_of_ble_eq_true rfl) (Nat.le_of_ble_eq_true rfl) dX6_init_145 (fun q145 => ?_)
  refine rg_putF (ws' := [cO o0 6 [.int (iI 0), .ref q7, .ref q15, .ref q23, .ref q31, .ref q39, .ref q47, .ref q55, .ref q64, .ref q72, .ref q80, .ref q88, .ref q96, .ref q104, .ref q112, .ref q120, .ref q128, .int (iI 0), .ref q137, .ref q145, .null, .null, .int (iI 0)], cZ E q7 32 (fun _ => 0), cI E q15 32 (fun _ => 0), cI E q23 32 (fun _ => 0), cZ E q31 8 (fun _ => 0), cI E q39 8 (fun _ => 0), cI E q47 8 (fun _ => 0), cI E q55 8 (fun _ => 0), cJ E q64 256 (fun _ => 0), cZ E q72 40 (fun _ => 0), cI E q80 40 (fun _ => 0), cI E q88 40 (fun _ => 0), cI E q96 40 (fun _ => 0), cI E q104 40 (fun _ => 0), cI E q112 40 (fun _ => 0), cI E q120 40 (fun _ => 0), cI E q128 40 (fun _ => 0), cJ E q137 300 (fun _ => 0), cI E q145 40 (fun _ => 0)]) C fX6_63 layX6 rfl hnm rfl 0 rfl rfl rfl (Nat.le_of_ble_eq_true rfl) dX6_init_147 rfl ?_
  refine rg_aload_n C 0 dX6_init_150 rfl rfl ?_
  refine rg_bipush (z := 40) C dX6_init_151 (by decide) ?_
  refine rg_newI C 40 rfl (by decide) (Nat.le_of_ble_eq_true rfl) (Nat.le_of_ble_eq_true rfl) dX6_init_153 (fun q153 => ?_)
  refine rg_putF (ws' := [cO o0 6 [.int (iI 0), .ref q7, .ref q15, .ref q23, .ref q31, .ref q39, .ref q47, .ref q55, .ref q64, .ref q72, .ref q80, .ref q88, .ref q96, .ref q104, .ref q112, .ref q120, .ref q128, .int (iI 0), .ref q137, .ref q145, .ref q153, .null, .int (iI 0)], cZ E q7 32 (fun _ => 0), cI E q15 32 (fun _ => 0), cI E q23 32 (fun _ => 0), cZ E q31 8 (fun _ => 0), cI E q39 8 (fun _ => 0), cI E q47 8 (fun _ => 0), cI E q55 8 (fun _ => 0), cJ E q64 256 (fun _ => 0), cZ E q72 40 (fun _ => 0), cI E q80 40 (fun _ => 0), cI E q88 40 (fun _ => 0), cI E q96 40 (fun _ => 0), cI E q104 40 (fun _ => 0), cI E q112 40 (fun _ => 0), cI E q120 40 (fun _ => 0), cI E q128 40 (fun _ => 0), cJ E q137 300 (fun _ => 0), cI E q145 40 (fun _ => 0), cI E q153 40 (fun _ => 0)]) C fX6_66 layX6 rfl hnm rfl 0 rfl rfl rfl (Nat.le_of_ble_eq_true rfl) dX6_init_155 rfl ?_
  refine rg_aload_n C 0 dX6_init_158 rfl rfl ?_
  refine rg_bipush (z := 40) C dX6_init_159 (by decide) ?_
  refine rg_newI C 40 rfl (by decide) (Nat.le_of_ble_eq_true rfl) (Nat.le_of_ble_eq_true rfl) dX6_init_161 (fun q161 => ?_)
  refine rg_putF (ws' := [cO o0 6 [.int (iI 0), .ref q7, .ref q15, .ref q23, .ref q31, .ref q39, .ref q47, .ref q55, .ref q64, .ref q72, .ref q80, .ref q88, .ref q96, .ref q104, .ref q112, .ref q120, .ref q128, .int (iI 0), .ref q137, .ref q145, .ref q153, .ref q161, .int (iI 0)], cZ E q7 32 (fun _ => 0), cI E q15 32 (fun _ => 0), cI E q23 32 (fun _ => 0), cZ E q31 8 (fun _ => 0), cI E q39 8 (fun _ => 0), cI E q47 8 (fun _ => 0), cI E q55 8 (fun _ => 0), cJ E q64 256 (fun _ => 0), cZ E q72 40 (fun _ => 0), cI E q80 40 (fun _ => 0), cI E q88 40 (fun _ => 0), cI E q96 40 (fun _ => 0), cI E q104 40 (fun _ => 0), cI E q112 40 (fun _ => 0), cI E q120 40 (fun _ => 0), cI E q128 40 (fun _ => 0), cJ E q137 300 (fun _ => 0), cI E q145 40 (fun _ => 0), cI E q153 40 (fun _ => 0), cI E q161 40 (fun _ => 0)]) C fX6_69 layX6 rfl hnm rfl 0 rfl rfl rfl (Nat.le_of_ble_eq_true rfl) dX6_init_163 rfl ?_
  exact rg_vret C hA hQ hr hlk (q7, q15, q23, q31, q39, q47, q55, q64, q72, q80, q88, q96, q104, q112, q120, q128, q137, q145, q153, q161) rfl rfl dX6_init_166
