abbrev rX6_thrown : Room := { frames := 0, cells := 0, slots := 0, locals := 0 }
set_option maxHeartbeats 4000000 in
set_option maxRecDepth 100000 in
/-- thrown -/
theorem kX6_thrown (l : Launch) (E : rE) (x0 : Nat) (x1 : Nat) (x2 : Nat) (x3 : Nat) (x4 : Nat) (x5 : Nat) (x6 : Nat) (x7 : Nat) (x8 : Nat) (x9 : Nat) (x10 : Nat) (x11 : Nat) (x12 : Nat) (x13 : Nat) (x14 : Nat) (x15 : Nat) (x16 : Nat) (x18 : Nat) (x19 : Nat) (x20 : Nat) (x21 : Nat) (isR : Nat → Int) (dn : Nat → Int) (inf : Nat → Int) (isS : Nat → Int) (sR : Nat → Int) (cap : Nat → Int) (hol : Nat → Int) (rls : Nat → Int) (isG : Nat → Int) (plc : Nat → Int) (pri : Nat → Int) (rte : Nat → Int) (shr : Nat → Int) (bck : Nat → Int) (sto : Nat → Int) (wnt : Nat → Int) (bks : Nat → Int) (amt : Nat → Int) (fst : Nat → Int) (ord : Nat → Int) (thr : Int) (dy : Int) (rgs : Int)  : rM l yX6_thrown sX6_thrown rX6_thrown E [cO x0 6 [.int (iI thr), .ref x1, .ref x2, .ref x3, .ref x4, .ref x5, .ref x6, .ref x7, .ref x8, .ref x9, .ref x10, .ref x11, .ref x12, .ref x13, .ref x14, .ref x15, .ref x16, .int (iI dy), .ref x18, .ref x19, .ref x20, .ref x21, .int (iI rgs)], cZ E x1 32 isR, cI E x2 32 dn, cI E x3 32 inf, cZ E x4 8 isS, cI E x5 8 sR, cI E x6 8 cap, cI E x7 8 hol, cJ E x8 256 rls, cZ E x9 40 isG, cI E x10 40 plc, cI E x11 40 pri, cI E x12 40 rte, cI E x13 40 shr, cI E x14 40 bck, cI E x15 40 sto, cI E x16 40 wnt, cJ E x18 300 bks, cI E x19 40 amt, cI E x20 40 fst, cI E x21 40 ord] [.ref x0] (some (.int (iI thr))) (fun _ : Unit => [cO x0 6 [.int (iI thr), .ref x1, .ref x2, .ref x3, .ref x4, .ref x5, .ref x6, .ref x7, .ref x8, .ref x9, .ref x10, .ref x11, .ref x12, .ref x13, .ref x14, .ref x15, .ref x16, .int (iI dy), .ref x18, .ref x19, .ref x20, .ref x21, .int (iI rgs)], cZ E x1 32 isR, cI E x2 32 dn, cI E x3 32 inf, cZ E x4 8 isS, cI E x5 8 sR, cI E x6 8 cap, cI E x7 8 hol, cJ E x8 256 rls, cZ E x9 40 isG, cI E x10 40 plc, cI E x11 40 pri, cI E x12 40 rte, cI E x13 40 shr, cI E x14 40 bck, cI E x15 40 sto, cI E x16 40 wnt, cJ E x18 300 bks, cI E x19 40 amt, cI E x20 40 fst, cI E x21 40 ord]) := by
  refine rM.of (cc := cX6_thrown) (maxL := 1) (ret := (some FieldType.int)) (by decide) rfl (Nat.le_of_ble_eq_true rfl) (fun w h => List.mem_cons_of_mem _ h) ?_
  intro p e s m args below meth c A Q hA hQ C hr hlk hnm
  have C : rC p s m args c E A 1 cX6_thrown sX6_thrown RX6 := C
  show rG p l e rX6_thrown s m args below meth c E A 1 0 0 Q [cO x0 6 [.int (iI thr), .ref x1, .ref x2, .ref x3, .ref x4, .ref x5, .ref x6, .ref x7, .ref x8, .ref x9, .ref x10, .ref x11, .ref x12, .ref x13, .ref x14, .ref x15, .ref x16, .int (iI dy), .ref x18, .ref x19, .ref x20, .ref x21, .int (iI rgs)], cZ E x1 32 isR, cI E x2 32 dn, cI E x3 32 inf, cZ E x4 8 isS, cI E x5 8 sR, cI E x6 8 cap, cI E x7 8 hol, cJ E x8 256 rls, cZ E x9 40 isG, cI E x10 40 plc, cI E x11 40 pri, cI E x12 40 rte, cI E x13 40 shr, cI E x14 40 bck, cI E x15 40 sto, cI E x16 40 wnt, cJ E x18 300 bks, cI E x19 40 amt, cI E x20 40 fst, cI E x21 40 ord] 0 [(0, .ref x0)] []
  refine rg_aload_n C 0 dX6_thrown_0 rfl rfl ?_
  refine rg_get C fX6_72 0 rfl rfl dX6_thrown_1 ?_
  exact rg_iret C hA hQ hr hlk () rfl rfl dX6_thrown_4
abbrev rX6_isNumber : Room := { frames := 0, cells := 0, slots := 0, locals := 0 }
set_option maxHeartbeats 4000000 in
set_option maxRecDepth 100000 in
/-- isNumber -/
theorem kX6_isNumber (l : Launch) (E : rE) (v : Int) (n : Int) (hv0 : inI v) (hn : 0 ≤ n ∧ n ≤ 1000) : rM l yX6_isNumber sX6_isNumber rX6_isNumber E [] [.int (iI v), .int (iI n)] (some (.int (iI (bZ (decide (0 ≤ v ∧ v < n)))))) (fun _ : Unit => []) := by
  refine rM.of (cc := cX6_isNumber) (maxL := 2) (ret := (some FieldType.boolean)) (by decide) rfl (Nat.le_of_ble_eq_true rfl) (fun w h => List.mem_cons_of_mem _ h) ?_
  intro p e s m args below meth c A Q hA hQ C hr hlk hnm
  have C : rC p s m args c E A 2 cX6_isNumber sX6_isNumber RX6 := C
  show rG p l e rX6_isNumber s m args below meth c E A 2 0 0 Q [] 0 [(0, .int (iI v)), (1, .int (iI n))] []
  refine rg_iload_n C 0 dX6_isNumber_0 rfl rfl ?_
  refine rg_if_lt (tgt := 13) C hv0 dX6_isNumber_1 (by decide) (fun h_1 => ?_) (fun h_1 => ?_)
  · refine rg_iconst C dX6_isNumber_13 ?_
    exact rg_zret C hA hQ hr hlk () rfl (by first | rfl | decide | exact (bZ_nar _) | (rw [h3]; exact bZ_nar _)) (by rw [decide_eq_false (by omega)]; rfl) dX6_isNumber_14
  · refine rg_iload_n C 0 dX6_isNumber_4 rfl rfl ?_
    refine rg_iload_n C 1 dX6_isNumber_5 rfl rfl ?_
    refine rg_icmp_ge (tgt := 13) C hv0 ⟨by omega, by omega⟩ dX6_isNumber_6 (by decide) (fun h_6 => ?_) (fun h_6 => ?_)
    · refine rg_iconst C dX6_isNumber_13 ?_
      exact rg_zret C hA hQ hr hlk () rfl (by first | rfl | decide | exact (bZ_nar _) | (rw [h3]; exact bZ_nar _)) (by rw [decide_eq_false (by omega)]; rfl) dX6_isNumber_14
    · refine rg_iconst C dX6_isNumber_9 ?_
      refine rg_goto (tgt := 14) C dX6_isNumber_10 (by decide) ?_
      exact rg_zret C hA hQ hr hlk () rfl (by first | rfl | decide | exact (bZ_nar _) | (rw [h3]; exact bZ_nar _)) (by rw [decide_eq_true (by omega)]; rfl) dX6_isNumber_14
abbrev rX6_isOn : Room := { frames := 0, cells := 0, slots := 0, locals := 0 }
set_option maxHeartbeats 4000000 in
set_option maxRecDepth 100000 in
/-- isOn -/
theorem kX6_isOn (l : Launch) (E : rE) (x0 : Nat) (x1 : Nat) (x2 : Nat) (x3 : Nat) (x4 : Nat) (x5 : Nat) (x6 : Nat) (x7 : Nat) (x8 : Nat) (x9 : Nat) (x10 : Nat) (x11 : Nat) (x12 : Nat) (x13 : Nat) (x14 : Nat) (x15 : Nat) (x16 : Nat) (x18 : Nat) (x19 : Nat) (x20 : Nat) (x21 : Nat) (isR : Nat → Int) (dn : Nat → Int) (inf : Nat → Int) (isS : Nat → Int) (sR : Nat → Int) (cap : Nat → Int) (hol : Nat → Int) (rls : Nat → Int) (isG : Nat → Int) (plc : Nat → Int) (pri : Nat → Int) (rte : Nat → Int) (shr : Nat → Int) (bck : Nat → Int) (sto : Nat → Int) (wnt : Nat → Int) (bks : Nat → Int) (amt : Nat → Int) (fst : Nat → Int) (ord : Nat → Int) (thr : Int) (dy : Int) (rgs : Int) (fr : Int) (to : Int) (hdn : ∀ r : Nat, r < 32 → -1 ≤ dn r ∧ dn r < 32) (hf : -1 ≤ fr ∧ fr < 32) (hE : pEnd dn 32 fr) (ht : 0 ≤ to ∧ to < 32) : rM l yX6_isOn sX6_isOn rX6_isOn E [cO x0 6 [.int (iI thr), .ref x1, .ref x2, .ref x3, .ref x4, .ref x5, .ref x6, .ref x7, .ref x8, .ref x9, .ref x10, .ref x11, .ref x12, .ref x13, .ref x14, .ref x15, .ref x16, .int (iI dy), .ref x18, .ref x19, .ref x20, .ref x21, .int (iI rgs)], cZ E x1 32 isR, cI E x2 32 dn, cI E x3 32 inf, cZ E x4 8 isS, cI E x5 8 sR, cI E x6 8 cap, cI E x7 8 hol, cJ E x8 256 rls, cZ E x9 40 isG, cI E x10 40 plc, cI E x11 40 pri, cI E x12 40 rte, cI E x13 40 shr, cI E x14 40 bck, cI E x15 40 sto, cI E x16 40 wnt, cJ E x18 300 bks, cI E x19 40 amt, cI E x20 40 fst, cI E x21 40 ord] [.ref x0, .int (iI fr), .int (iI to)] (some (.int (iI (bZ (onP dn fr to))))) (fun _ : Unit => [cO x0 6 [.int (iI thr), .ref x1, .ref x2, .ref x3, .ref x4, .ref x5, .ref x6, .ref x7, .ref x8, .ref x9, .ref x10, .ref x11, .ref x12, .ref x13, .ref x14, .ref x15, .ref x16, .int (iI dy), .ref x18, .ref x19, .ref x20, .ref x21, .int (iI rgs)], cZ E x1 32 isR, cI E x2 32 dn, cI E x3 32 inf, cZ E x4 8 isS, cI E x5 8 sR, cI E x6 8 cap, cI E x7 8 hol, cJ E x8 256 rls, cZ E x9 40 isG, cI E x10 40 plc, cI E x11 40 pri, cI E x12 40 rte, cI E x13 40 shr, cI E x14 40 bck, cI E x15 40 sto, cI E x16 40 wnt, cJ E x18 300 bks, cI E x19 40 amt, cI E x20 40 fst, cI E x21 40 ord]) := by
  refine rM.of (cc := cX6_isOn) (maxL := 4) (ret := (some FieldType.boolean)) (by decide) rfl (Nat.le_of_ble_eq_true rfl) (fun w h => List.mem_cons_of_mem _ h) ?_
  intro p e s m args below meth c A Q hA hQ C hr hlk hnm
  have C : rC p s m args c E A 4 cX6_isOn sX6_isOn RX6 := C
  have L2 : ∀ (n : Nat) (k : Nat) (a : Int), (-1 ≤ a ∧ a < 32) → (pEnd dn k a) → (to.toNat ∈ pth dn 32 fr ↔ to.toNat ∈ pth dn k a) → (k < n) → rG p l e rX6_isOn s m args below meth c E A 4 0 0 Q [cO x0 6 [.int (iI thr), .ref x1, .ref x2, .ref x3, .ref x4, .ref x5, .ref x6, .ref x7, .ref x8, .ref x9, .ref x10, .ref x11, .ref x12, .ref x13, .ref x14, .ref x15, .ref x16, .int (iI dy), .ref x18, .ref x19, .ref x20, .ref x21, .int (iI rgs)], cZ E x1 32 isR, cI E x2 32 dn, cI E x3 32 inf, cZ E x4 8 isS, cI E x5 8 sR, cI E x6 8 cap, cI E x7 8 hol, cJ E x8 256 rls, cZ E x9 40 isG, cI E x10 40 plc, cI E x11 40 pri, cI E x12 40 rte, cI E x13 40 shr, cI E x14 40 bck, cI E x15 40 sto, cI E x16 40 wnt, cJ E x18 300 bks, cI E x19 40 amt, cI E x20 40 fst, cI E x21 40 ord] 2 [(0, .ref x0), (1, .int (iI fr)), (2, .int (iI to)), (3, .int (iI a))] [] := by
    intro n
    induction n with
    | zero => intro k a h2 hk h3 hm; exact absurd hm (Nat.not_lt_zero _)
    | succ n ih =>
      intro k a h2 hk h3 hm
      refine rg_iload_n C 3 dX6_isOn_2 rfl rfl ?_
      refine rg_if_lt (tgt := 21) C ⟨by omega, by omega⟩ dX6_isOn_3 (by decide) (fun h_3 => ?_) (fun h_3 => ?_)
      · refine rg_iload_n C 3 dX6_isOn_21 rfl rfl ?_
        refine rg_iload_n C 2 dX6_isOn_22 rfl rfl ?_
        refine rg_icmp_ne (tgt := 30) C ⟨by omega, by omega⟩ ⟨by omega, by omega⟩ dX6_isOn_23 (by decide) (fun h_23 => ?_) (fun h_23 => ?_)
        · have e9 : onP dn fr to = false := onP_f (fun q => by
            have q2 := h3.mp q
            rw [pth_neg (show a < 0 by omega)] at q2
            cases q2)
          refine rg_iconst C dX6_isOn_30 ?_
          exact rg_zret C hA hQ hr hlk () rfl (by first | rfl | decide | exact (bZ_nar _) | (rw [h3]; exact bZ_nar _)) (by rw [e9]; rfl) dX6_isOn_31
        · have e9 : onP dn fr to = true := (onP_of ht.1).mpr (h3.mpr (by
            obtain ⟨k2, rfl, hk2, hp2⟩ := pEnd_pos hk (by omega)
            rw [hp2, show to.toNat = a.toNat by omega]
            exact List.mem_cons_self))
          refine rg_iconst C dX6_isOn_26 ?_
          refine rg_goto (tgt := 31) C dX6_isOn_27 (by decide) ?_
          exact rg_zret C hA hQ hr hlk () rfl (by first | rfl | decide | exact (bZ_nar _) | (rw [h3]; exact bZ_nar _)) (by rw [e9]; rfl) dX6_isOn_31
      · refine rg_iload_n C 3 dX6_isOn_6 rfl rfl ?_
        refine rg_iload_n C 2 dX6_isOn_7 rfl rfl ?_
        refine rg_icmp_eq (tgt := 21) C ⟨by omega, by omega⟩ ⟨by omega, by omega⟩ dX6_isOn_8 (by decide) (fun h_8 => ?_) (fun h_8 => ?_)
        · refine rg_iload_n C 3 dX6_isOn_21 rfl rfl ?_
          refine rg_iload_n C 2 dX6_isOn_22 rfl rfl ?_
          refine rg_icmp_ne (tgt := 30) C ⟨by omega, by omega⟩ ⟨by omega, by omega⟩ dX6_isOn_23 (by decide) (fun h_23 => ?_) (fun h_23 => ?_)
          · have e9 : onP dn fr to = false := onP_f (fun q => by
              have q2 := h3.mp q
              rw [pth_neg (show a < 0 by omega)] at q2
              cases q2)
            refine rg_iconst C dX6_isOn_30 ?_
            exact rg_zret C hA hQ hr hlk () rfl (by first | rfl | decide | exact (bZ_nar _) | (rw [h3]; exact bZ_nar _)) (by rw [e9]; rfl) dX6_isOn_31
          · have e9 : onP dn fr to = true := (onP_of ht.1).mpr (h3.mpr (by
              obtain ⟨k2, rfl, hk2, hp2⟩ := pEnd_pos hk (by omega)
              rw [hp2, show to.toNat = a.toNat by omega]
              exact List.mem_cons_self))
            refine rg_iconst C dX6_isOn_26 ?_
            refine rg_goto (tgt := 31) C dX6_isOn_27 (by decide) ?_
            exact rg_zret C hA hQ hr hlk () rfl (by first | rfl | decide | exact (bZ_nar _) | (rw [h3]; exact bZ_nar _)) (by rw [e9]; rfl) dX6_isOn_31
        · have hb9 := hdn a.toNat (by omega)
          obtain ⟨k2, rfl, hk2, hp2⟩ := pEnd_pos hk (by omega)
          refine rg_aload_n C 0 dX6_isOn_11 rfl rfl ?_
          refine rg_get C fX6_13 0 rfl rfl dX6_isOn_12 ?_
          refine rg_iload_n C 3 dX6_isOn_15 rfl rfl ?_
          refine rg_iald C 2 rfl (by decide) (by omega) (by omega) dX6_isOn_16 ?_
          refine rg_istore_n (lv' := [(3, .int (iI (dn a.toNat))), (0, .ref x0), (1, .int (iI fr)), (2, .int (iI to))]) C dX6_isOn_17 rfl (by decide) rfl ?_
          refine rg_goto (tgt := 2) C dX6_isOn_18 (by decide) ?_
          refine rG.plv [1, 2, 3, 0] rfl ?_
          exact ih k2 (dn a.toNat) hb9 hk2 (h3.trans (by rw [hp2]; exact ⟨fun h => (List.mem_cons.mp h).resolve_left (by omega), List.mem_cons_of_mem _⟩)) (by omega)
  show rG p l e rX6_isOn s m args below meth c E A 4 0 0 Q [cO x0 6 [.int (iI thr), .ref x1, .ref x2, .ref x3, .ref x4, .ref x5, .ref x6, .ref x7, .ref x8, .ref x9, .ref x10, .ref x11, .ref x12, .ref x13, .ref x14, .ref x15, .ref x16, .int (iI dy), .ref x18, .ref x19, .ref x20, .ref x21, .int (iI rgs)], cZ E x1 32 isR, cI E x2 32 dn, cI E x3 32 inf, cZ E x4 8 isS, cI E x5 8 sR, cI E x6 8 cap, cI E x7 8 hol, cJ E x8 256 rls, cZ E x9 40 isG, cI E x10 40 plc, cI E x11 40 pri, cI E x12 40 rte, cI E x13 40 shr, cI E x14 40 bck, cI E x15 40 sto, cI E x16 40 wnt, cJ E x18 300 bks, cI E x19 40 amt, cI E x20 40 fst, cI E x21 40 ord] 0 [(0, .ref x0), (1, .int (iI fr)), (2, .int (iI to))] []
  refine rg_iload_n C 1 dX6_isOn_0 rfl rfl ?_
  refine rg_istore_n (lv' := [(3, .int (iI fr)), (0, .ref x0), (1, .int (iI fr)), (2, .int (iI to))]) C dX6_isOn_1 rfl (by decide) rfl ?_
  refine rG.plv [1, 2, 3, 0] rfl ?_
  exact L2 _ 32 fr hf hE Iff.rfl (Nat.lt_succ_self _)
abbrev rX6_wrongRight : Room := { frames := 1, cells := 0, slots := 0, locals := 21 }
set_option maxHeartbeats 4000000 in
set_option maxRecDepth 100000 in
/-- wrongRight -/
theorem kX6_wrongRight (l : Launch) (E : rE) (x0 : Nat) (x1 : Nat) (x2 : Nat) (x3 : Nat) (x4 : Nat) (x5 : Nat) (x6 : Nat) (x7 : Nat) (x8 : Nat) (x9 : Nat) (x10 : Nat) (x11 : Nat) (x12 : Nat) (x13 : Nat) (x14 : Nat) (x15 : Nat) (x16 : Nat) (x18 : Nat) (x19 : Nat) (x20 : Nat) (x21 : Nat) (isR : Nat → Int) (dn : Nat → Int) (inf : Nat → Int) (isS : Nat → Int) (sR : Nat → Int) (cap : Nat → Int) (hol : Nat → Int) (rls : Nat → Int) (isG : Nat → Int) (plc : Nat → Int) (pri : Nat → Int) (rte : Nat → Int) (shr : Nat → Int) (bck : Nat → Int) (sto : Nat → Int) (wnt : Nat → Int) (bks : Nat → Int) (amt : Nat → Int) (fst : Nat → Int) (ord : Nat → Int) (thr : Int) (dy : Int) (rgs : Int) (v : Int) (hig : ∀ r : Nat, r < 40 → isG r = 0 ∨ isG r = 1) (hv0 : inI v) : rM l yX6_wrongRight sX6_wrongRight rX6_wrongRight E [cO x0 6 [.int (iI thr), .ref x1, .ref x2, .ref x3, .ref x4, .ref x5, .ref x6, .ref x7, .ref x8, .ref x9, .ref x10, .ref x11, .ref x12, .ref x13, .ref x14, .ref x15, .ref x16, .int (iI dy), .ref x18, .ref x19, .ref x20, .ref x21, .int (iI rgs)], cZ E x1 32 isR, cI E x2 32 dn, cI E x3 32 inf, cZ E x4 8 isS, cI E x5 8 sR, cI E x6 8 cap, cI E x7 8 hol, cJ E x8 256 rls, cZ E x9 40 isG, cI E x10 40 plc, cI E x11 40 pri, cI E x12 40 rte, cI E x13 40 shr, cI E x14 40 bck, cI E x15 40 sto, cI E x16 40 wnt, cJ E x18 300 bks, cI E x19 40 amt, cI E x20 40 fst, cI E x21 40 ord] [.ref x0, .int (iI v)] (some (.int (iI (if ¬ (0 ≤ v ∧ v < 40) then 1 else if isG v.toNat = 0 then 2 else 0)))) (fun _ : Unit => [cO x0 6 [.int (iI thr), .ref x1, .ref x2, .ref x3, .ref x4, .ref x5, .ref x6, .ref x7, .ref x8, .ref x9, .ref x10, .ref x11, .ref x12, .ref x13, .ref x14, .ref x15, .ref x16, .int (iI dy), .ref x18, .ref x19, .ref x20, .ref x21, .int (iI rgs)], cZ E x1 32 isR, cI E x2 32 dn, cI E x3 32 inf, cZ E x4 8 isS, cI E x5 8 sR, cI E x6 8 cap, cI E x7 8 hol, cJ E x8 256 rls, cZ E x9 40 isG, cI E x10 40 plc, cI E x11 40 pri, cI E x12 40 rte, cI E x13 40 shr, cI E x14 40 bck, cI E x15 40 sto, cI E x16 40 wnt, cJ E x18 300 bks, cI E x19 40 amt, cI E x20 40 fst, cI E x21 40 ord]) := by
  refine rM.of (cc := cX6_wrongRight) (maxL := 2) (ret := (some FieldType.int)) (by decide) rfl (Nat.le_of_ble_eq_true rfl) (fun w h => List.mem_cons_of_mem _ h) ?_
  intro p e s m args below meth c A Q hA hQ C hr hlk hnm
  have C : rC p s m args c E A 2 cX6_wrongRight sX6_wrongRight RX6 := C
  show rG p l e rX6_wrongRight s m args below meth c E A 2 0 0 Q [cO x0 6 [.int (iI thr), .ref x1, .ref x2, .ref x3, .ref x4, .ref x5, .ref x6, .ref x7, .ref x8, .ref x9, .ref x10, .ref x11, .ref x12, .ref x13, .ref x14, .ref x15, .ref x16, .int (iI dy), .ref x18, .ref x19, .ref x20, .ref x21, .int (iI rgs)], cZ E x1 32 isR, cI E x2 32 dn, cI E x3 32 inf, cZ E x4 8 isS, cI E x5 8 sR, cI E x6 8 cap, cI E x7 8 hol, cJ E x8 256 rls, cZ E x9 40 isG, cI E x10 40 plc, cI E x11 40 pri, cI E x12 40 rte, cI E x13 40 shr, cI E x14 40 bck, cI E x15 40 sto, cI E x16 40 wnt, cJ E x18 300 bks, cI E x19 40 amt, cI E x20 40 fst, cI E x21 40 ord] 0 [(0, .ref x0), (1, .int (iI v))] []
  refine rg_iload_n C 1 dX6_wrongRight_0 rfl rfl ?_
  refine rg_bipush (z := 40) C dX6_wrongRight_1 (by decide) ?_
  refine rg_callS (As := [.int (iI v), .int (iI 40)]) (rest := []) (wr := [cO x0 6 [.int (iI thr), .ref x1, .ref x2, .ref x3, .ref x4, .ref x5, .ref x6, .ref x7, .ref x8, .ref x9, .ref x10, .ref x11, .ref x12, .ref x13, .ref x14, .ref x15, .ref x16, .int (iI dy), .ref x18, .ref x19, .ref x20, .ref x21, .int (iI rgs)], cZ E x1 32 isR, cI E x2 32 dn, cI E x3 32 inf, cZ E x4 8 isS, cI E x5 8 sR, cI E x6 8 cap, cI E x7 8 hol, cJ E x8 256 rls, cZ E x9 40 isG, cI E x10 40 plc, cI E x11 40 pri, cI E x12 40 rte, cI E x13 40 shr, cI E x14 40 bck, cI E x15 40 sto, cI E x16 40 wnt, cJ E x18 300 bks, cI E x19 40 amt, cI E x20 40 fst, cI E x21 40 ord]) (w' := fun _ => [cO x0 6 [.int (iI thr), .ref x1, .ref x2, .ref x3, .ref x4, .ref x5, .ref x6, .ref x7, .ref x8, .ref x9, .ref x10, .ref x11, .ref x12, .ref x13, .ref x14, .ref x15, .ref x16, .int (iI dy), .ref x18, .ref x19, .ref x20, .ref x21, .int (iI rgs)], cZ E x1 32 isR, cI E x2 32 dn, cI E x3 32 inf, cZ E x4 8 isS, cI E x5 8 sR, cI E x6 8 cap, cI E x7 8 hol, cJ E x8 256 rls, cZ E x9 40 isG, cI E x10 40 plc, cI E x11 40 pri, cI E x12 40 rte, cI E x13 40 shr, cI E x14 40 bck, cI E x15 40 sto, cI E x16 40 wnt, cJ E x18 300 bks, cI E x19 40 amt, cI E x20 40 fst, cI E x21 40 ord]) C (kX6_isNumber l E v 40 hv0 (⟨by decide, by decide⟩)) (rcwS C mX6_isNumber w_701 ⟨Nat.le_of_ble_eq_true rfl, Nat.le_of_ble_eq_true rfl⟩) [] [0, 1, 2, 3, 4, 5, 6, 7, 8, 9, 10, 11, 12, 13, 14, 15, 16, 17, 18, 19, 20] [0, 1, 2, 3, 4, 5, 6, 7, 8, 9, 10, 11, 12, 13, 14, 15, 16, 17, 18, 19, 20] rfl rfl (by decide) (by decide) (by decide) (fun _ => rfl) (by decide) rfl rfl (Nat.le_of_ble_eq_true rfl) dX6_wrongRight_3 ⟨Nat.le_of_ble_eq_true rfl, Nat.le_of_ble_eq_true rfl⟩ (fun _ => ?_)
  show rG p l e rX6_wrongRight s m args below meth c E A 2 0 0 Q [cO x0 6 [.int (iI thr), .ref x1, .ref x2, .ref x3, .ref x4, .ref x5, .ref x6, .ref x7, .ref x8, .ref x9, .ref x10, .ref x11, .ref x12, .ref x13, .ref x14, .ref x15, .ref x16, .int (iI dy), .ref x18, .ref x19, .ref x20, .ref x21, .int (iI rgs)], cZ E x1 32 isR, cI E x2 32 dn, cI E x3 32 inf, cZ E x4 8 isS, cI E x5 8 sR, cI E x6 8 cap, cI E x7 8 hol, cJ E x8 256 rls, cZ E x9 40 isG, cI E x10 40 plc, cI E x11 40 pri, cI E x12 40 rte, cI E x13 40 shr, cI E x14 40 bck, cI E x15 40 sto, cI E x16 40 wnt, cJ E x18 300 bks, cI E x19 40 amt, cI E x20 40 fst, cI E x21 40 ord] 6 [(0, .ref x0), (1, .int (iI v))] [.int (iI (bZ (decide (0 ≤ v ∧ v < 40))))]
  refine rg_if_ne (tgt := 13) C (bZ_in _) dX6_wrongRight_6 (by decide) (fun h_6 => ?_) (fun h_6 => ?_)
  · have hd9 := of_decide_eq_true (bZ_T h_6)
    have hs9 := hig v.toNat (by omega)
    refine rg_aload_n C 0 dX6_wrongRight_13 rfl rfl ?_
    refine rg_get C fX6_36 0 rfl rfl dX6_wrongRight_14 ?_
    refine rg_iload_n C 1 dX6_wrongRight_17 rfl rfl ?_
    refine rg_zald C 9 rfl (by decide) (by omega) (by omega) dX6_wrongRight_18 ?_
    refine rg_if_eq (tgt := 26) C ⟨by omega, by omega⟩ dX6_wrongRight_19 (by decide) (fun h_19 => ?_) (fun h_19 => ?_)
    · refine rg_iconst C dX6_wrongRight_26 ?_
      exact rg_iret C hA hQ hr hlk () rfl (by repeat (first | rw [if_pos (by omega)] | rw [if_neg (by omega)])) dX6_wrongRight_27
    · refine rg_iconst C dX6_wrongRight_22 ?_
      refine rg_goto (tgt := 27) C dX6_wrongRight_23 (by decide) ?_
      exact rg_iret C hA hQ hr hlk () rfl (by repeat (first | rw [if_pos (by omega)] | rw [if_neg (by omega)])) dX6_wrongRight_27
  · have hd9 := dec0.mp h_6
    refine rg_iconst C dX6_wrongRight_9 ?_
    refine rg_goto (tgt := 27) C dX6_wrongRight_10 (by decide) ?_
    exact rg_iret C hA hQ hr hlk () rfl (by repeat (first | rw [if_pos (by omega)] | rw [if_neg (by omega)])) dX6_wrongRight_27
abbrev rX6_wrongReach : Room := { frames := 1, cells := 0, slots := 0, locals := 21 }
set_option maxHeartbeats 4000000 in
set_option maxRecDepth 100000 in
/-- wrongReach -/
theorem kX6_wrongReach (l : Launch) (E : rE) (x0 : Nat) (x1 : Nat) (x2 : Nat) (x3 : Nat) (x4 : Nat) (x5 : Nat) (x6 : Nat) (x7 : Nat) (x8 : Nat) (x9 : Nat) (x10 : Nat) (x11 : Nat) (x12 : Nat) (x13 : Nat) (x14 : Nat) (x15 : Nat) (x16 : Nat) (x18 : Nat) (x19 : Nat) (x20 : Nat) (x21 : Nat) (isR : Nat → Int) (dn : Nat → Int) (inf : Nat → Int) (isS : Nat → Int) (sR : Nat → Int) (cap : Nat → Int) (hol : Nat → Int) (rls : Nat → Int) (isG : Nat → Int) (plc : Nat → Int) (pri : Nat → Int) (rte : Nat → Int) (shr : Nat → Int) (bck : Nat → Int) (sto : Nat → Int) (wnt : Nat → Int) (bks : Nat → Int) (amt : Nat → Int) (fst : Nat → Int) (ord : Nat → Int) (thr : Int) (dy : Int) (rgs : Int) (v : Int) (hir : ∀ r : Nat, r < 32 → isR r = 0 ∨ isR r = 1) (hv0 : inI v) : rM l yX6_wrongReach sX6_wrongReach rX6_wrongReach E [cO x0 6 [.int (iI thr), .ref x1, .ref x2, .ref x3, .ref x4, .ref x5, .ref x6, .ref x7, .ref x8, .ref x9, .ref x10, .ref x11, .ref x12, .ref x13, .ref x14, .ref x15, .ref x16, .int (iI dy), .ref x18, .ref x19, .ref x20, .ref x21, .int (iI rgs)], cZ E x1 32 isR, cI E x2 32 dn, cI E x3 32 inf, cZ E x4 8 isS, cI E x5 8 sR, cI E x6 8 cap, cI E x7 8 hol, cJ E x8 256 rls, cZ E x9 40 isG, cI E x10 40 plc, cI E x11 40 pri, cI E x12 40 rte, cI E x13 40 shr, cI E x14 40 bck, cI E x15 40 sto, cI E x16 40 wnt, cJ E x18 300 bks, cI E x19 40 amt, cI E x20 40 fst, cI E x21 40 ord] [.ref x0, .int (iI v)] (some (.int (iI (if ¬ (0 ≤ v ∧ v < 32) then 1 else if isR v.toNat = 0 then 2 else 0)))) (fun _ : Unit => [cO x0 6 [.int (iI thr), .ref x1, .ref x2, .ref x3, .ref x4, .ref x5, .ref x6, .ref x7, .ref x8, .ref x9, .ref x10, .ref x11, .ref x12, .ref x13, .ref x14, .ref x15, .ref x16, .int (iI dy), .ref x18, .ref x19, .ref x20, .ref x21, .int (iI rgs)], cZ E x1 32 isR, cI E x2 32 dn, cI E x3 32 inf, cZ E x4 8 isS, cI E x5 8 sR, cI E x6 8 cap, cI E x7 8 hol, cJ E x8 256 rls, cZ E x9 40 isG, cI E x10 40 plc, cI E x11 40 pri, cI E x12 40 rte, cI E x13 40 shr, cI E x14 40 bck, cI E x15 40 sto, cI E x16 40 wnt, cJ E x18 300 bks, cI E x19 40 amt, cI E x20 40 fst, cI E x21 40 ord]) := by
  refine rM.of (cc := cX6_wrongReach) (maxL := 2) (ret := (some FieldType.int)) (by decide) rfl (Nat.le_of_ble_eq_true rfl) (fun w h => List.mem_cons_of_mem _ h) ?_
  intro p e s m args below meth c A Q hA hQ C hr hlk hnm
  have C : rC p s m args c E A 2 cX6_wrongReach sX6_wrongReach RX6 := C
  show rG p l e rX6_wrongReach s m args below meth c E A 2 0 0 Q [cO x0 6 [.int (iI thr), .ref x1, .ref x2, .ref x3, .ref x4, .ref x5, .ref x6, .ref x7, .ref x8, .ref x9, .ref x10, .ref x11, .ref x12, .ref x13, .ref x14, .ref x15, .ref x16, .int (iI dy), .ref x18, .ref x19, .ref x20, .ref x21, .int (iI rgs)], cZ E x1 32 isR, cI E x2 32 dn, cI E x3 32 inf, cZ E x4 8 isS, cI E x5 8 sR, cI E x6 8 cap, cI E x7 8 hol, cJ E x8 256 rls, cZ E x9 40 isG, cI E x10 40 plc, cI E x11 40 pri, cI E x12 40 rte, cI E x13 40 shr, cI E x14 40 bck, cI E x15 40 sto, cI E x16 40 wnt, cJ E x18 300 bks, cI E x19 40 amt, cI E x20 40 fst, cI E x21 40 ord] 0 [(0, .ref x0), (1, .int (iI v))] []
  refine rg_iload_n C 1 dX6_wrongReach_0 rfl rfl ?_
  refine rg_bipush (z := 32) C dX6_wrongReach_1 (by decide) ?_
  refine rg_callS (As := [.int (iI v), .int (iI 32)]) (rest := []) (wr := [cO x0 6 [.int (iI thr), .ref x1, .ref x2, .ref x3, .ref x4, .ref x5, .ref x6, .ref x7, .ref x8, .ref x9, .ref x10, .ref x11, .ref x12, .ref x13, .ref x14, .ref x15, .ref x16, .int (iI dy), .ref x18, .ref x19, .ref x20, .ref x21, .int (iI rgs)], cZ E x1 32 isR, cI E x2 32 dn, cI E x3 32 inf, cZ E x4 8 isS, cI E x5 8 sR, cI E x6 8 cap, cI E x7 8 hol, cJ E x8 256 rls, cZ E x9 40 isG, cI E x10 40 plc, cI E x11 40 pri, cI E x12 40 rte, cI E x13 40 shr, cI E x14 40 bck, cI E x15 40 sto, cI E x16 40 wnt, cJ E x18 300 bks, cI E x19 40 amt, cI E x20 40 fst, cI E x21 40 ord]) (w' := fun _ => [cO x0 6 [.int (iI thr), .ref x1, .ref x2, .ref x3, .ref x4, .ref x5, .ref x6, .ref x7, .ref x8, .ref x9, .ref x10, .ref x11, .ref x12, .ref x13, .ref x14, .ref x15, .ref x16, .int (iI dy), .ref x18, .ref x19, .ref x20, .ref x21, .int (iI rgs)], cZ E x1 32 isR, cI E x2 32 dn, cI E x3 32 inf, cZ E x4 8 isS, cI E x5 8 sR, cI E x6 8 cap, cI E x7 8 hol, cJ E x8 256 rls, cZ E x9 40 isG, cI E x10 40 plc, cI E x11 40 pri, cI E x12 40 rte, cI E x13 40 shr, cI E x14 40 bck, cI E x15 40 sto, cI E x16 40 wnt, cJ E x18 300 bks, cI E x19 40 amt, cI E x20 40 fst, cI E x21 40 ord]) C (kX6_isNumber l E v 32 hv0 (⟨by decide, by decide⟩)) (rcwS C mX6_isNumber w_701 ⟨Nat.le_of_ble_eq_true rfl, Nat.le_of_ble_eq_true rfl⟩) [] [0, 1, 2, 3, 4, 5, 6, 7, 8, 9, 10, 11, 12, 13, 14, 15, 16, 17, 18, 19, 20] [0, 1, 2, 3, 4, 5, 6, 7, 8, 9, 10, 11, 12, 13, 14, 15, 16, 17, 18, 19, 20] rfl rfl (by decide) (by decide) (by decide) (fun _ => rfl) (by decide) rfl rfl (Nat.le_of_ble_eq_true rfl) dX6_wrongReach_3 ⟨Nat.le_of_ble_eq_true rfl, Nat.le_of_ble_eq_true rfl⟩ (fun _ => ?_)
  show rG p l e rX6_wrongReach s m args below meth c E A 2 0 0 Q [cO x0 6 [.int (iI thr), .ref x1, .ref x2, .ref x3, .ref x4, .ref x5, .ref x6, .ref x7, .ref x8, .ref x9, .ref x10, .ref x11, .ref x12, .ref x13, .ref x14, .ref x15, .ref x16, .int (iI dy), .ref x18, .ref x19, .ref x20, .ref x21, .int (iI rgs)], cZ E x1 32 isR, cI E x2 32 dn, cI E x3 32 inf, cZ E x4 8 isS, cI E x5 8 sR, cI E x6 8 cap, cI E x7 8 hol, cJ E x8 256 rls, cZ E x9 40 isG, cI E x10 40 plc, cI E x11 40 pri, cI E x12 40 rte, cI E x13 40 shr, cI E x14 40 bck, cI E x15 40 sto, cI E x16 40 wnt, cJ E x18 300 bks, cI E x19 40 amt, cI E x20 40 fst, cI E x21 40 ord] 6 [(0, .ref x0), (1, .int (iI v))] [.int (iI (bZ (decide (0 ≤ v ∧ v < 32))))]
  refine rg_if_ne (tgt := 13) C (bZ_in _) dX6_wrongReach_6 (by decide) (fun h_6 => ?_) (fun h_6 => ?_)
  · have hd9 := of_decide_eq_true (bZ_T h_6)
    have hs9 := hir v.toNat (by omega)
    refine rg_aload_n C 0 dX6_wrongReach_13 rfl rfl ?_
    refine rg_get C fX6_7 0 rfl rfl dX6_wrongReach_14 ?_
    refine rg_iload_n C 1 dX6_wrongReach_17 rfl rfl ?_
    refine rg_zald C 1 rfl (by decide) (by omega) (by omega) dX6_wrongReach_18 ?_
    refine rg_if_eq (tgt := 26) C ⟨by omega, by omega⟩ dX6_wrongReach_19 (by decide) (fun h_19 => ?_) (fun h_19 => ?_)
    · refine rg_iconst C dX6_wrongReach_26 ?_
      exact rg_iret C hA hQ hr hlk () rfl (by repeat (first | rw [if_pos (by omega)] | rw [if_neg (by omega)])) dX6_wrongReach_27
    · refine rg_iconst C dX6_wrongReach_22 ?_
      refine rg_goto (tgt := 27) C dX6_wrongReach_23 (by decide) ?_
      exact rg_iret C hA hQ hr hlk () rfl (by repeat (first | rw [if_pos (by omega)] | rw [if_neg (by omega)])) dX6_wrongReach_27
  · have hd9 := dec0.mp h_6
    refine rg_iconst C dX6_wrongReach_9 ?_
    refine rg_goto (tgt := 27) C dX6_wrongReach_10 (by decide) ?_
    exact rg_iret C hA hQ hr hlk () rfl (by repeat (first | rw [if_pos (by omega)] | rw [if_neg (by omega)])) dX6_wrongReach_27
abbrev rX6_lay : Room := { frames := 0, cells := 0, slots := 0, locals := 0 }
set_option maxHeartbeats 4000000 in
set_option maxRecDepth 100000 in
/-- lay -/
theorem kX6_lay (l : Launch) (E : rE) (x0 : Nat) (x1 : Nat) (x2 : Nat) (x3 : Nat) (x4 : Nat) (x5 : Nat) (x6 : Nat) (x7 : Nat) (x8 : Nat) (x9 : Nat) (x10 : Nat) (x11 : Nat) (x12 : Nat) (x13 : Nat) (x14 : Nat) (x15 : Nat) (x16 : Nat) (x18 : Nat) (x19 : Nat) (x20 : Nat) (x21 : Nat) (isR : Nat → Int) (dn : Nat → Int) (inf : Nat → Int) (isS : Nat → Int) (sR : Nat → Int) (cap : Nat → Int) (hol : Nat → Int) (rls : Nat → Int) (isG : Nat → Int) (plc : Nat → Int) (pri : Nat → Int) (rte : Nat → Int) (shr : Nat → Int) (bck : Nat → Int) (sto : Nat → Int) (wnt : Nat → Int) (bks : Nat → Int) (amt : Nat → Int) (fst : Nat → Int) (ord : Nat → Int) (thr : Int) (dy : Int) (rgs : Int) (i : Int) (r : Int) (pp : Int) (mo : Int) (hi0 : 0 ≤ i ∧ i < 40) : rM l yX6_lay sX6_lay rX6_lay E [cO x0 6 [.int (iI thr), .ref x1, .ref x2, .ref x3, .ref x4, .ref x5, .ref x6, .ref x7, .ref x8, .ref x9, .ref x10, .ref x11, .ref x12, .ref x13, .ref x14, .ref x15, .ref x16, .int (iI dy), .ref x18, .ref x19, .ref x20, .ref x21, .int (iI rgs)], cZ E x1 32 isR, cI E x2 32 dn, cI E x3 32 inf, cZ E x4 8 isS, cI E x5 8 sR, cI E x6 8 cap, cI E x7 8 hol, cJ E x8 256 rls, cZ E x9 40 isG, cI E x10 40 plc, cI E x11 40 pri, cI E x12 40 rte, cI E x13 40 shr, cI E x14 40 bck, cI E x15 40 sto, cI E x16 40 wnt, cJ E x18 300 bks, cI E x19 40 amt, cI E x20 40 fst, cI E x21 40 ord] [.ref x0, .int (iI i), .int (iI r), .int (iI pp), .int (iI mo)] none (fun _ : Unit => [cO x0 6 [.int (iI thr), .ref x1, .ref x2, .ref x3, .ref x4, .ref x5, .ref x6, .ref x7, .ref x8, .ref x9, .ref x10, .ref x11, .ref x12, .ref x13, .ref x14, .ref x15, .ref x16, .int (iI dy), .ref x18, .ref x19, .ref x20, .ref x21, .int (iI rgs)], cZ E x1 32 isR, cI E x2 32 dn, cI E x3 32 inf, cZ E x4 8 isS, cI E x5 8 sR, cI E x6 8 cap, cI E x7 8 hol, cJ E x8 256 rls, cZ E x9 40 (uZ isG i.toNat 1), cI E x10 40 (uZ plc i.toNat r), cI E x11 40 (uZ pri i.toNat pp), cI E x12 40 (uZ rte i.toNat mo), cI E x13 40 shr, cI E x14 40 bck, cI E x15 40 sto, cI E x16 40 (uZ wnt i.toNat mo), cJ E x18 300 bks, cI E x19 40 amt, cI E x20 40 fst, cI E x21 40 ord]) := by
  refine rM.of (cc := cX6_lay) (maxL := 5) (ret := none) (by decide) rfl (Nat.le_of_ble_eq_true rfl) (fun w h => List.mem_cons_of_mem _ h) ?_
  intro p e s m args below meth c A Q hA hQ C hr hlk hnm
  have C : rC p s m args c E A 5 cX6_lay sX6_lay RX6 := C
  show rG p l e rX6_lay s m args below meth c E A 5 0 0 Q [cO x0 6 [.int (iI thr), .ref x1, .ref x2, .ref x3, .ref x4, .ref x5, .ref x6, .ref x7, .ref x8, .ref x9, .ref x10, .ref x11, .ref x12, .ref x13, .ref x14, .ref x15, .ref x16, .int (iI dy), .ref x18, .ref x19, .ref x20, .ref x21, .int (iI rgs)], cZ E x1 32 isR, cI E x2 32 dn, cI E x3 32 inf, cZ E x4 8 isS, cI E x5 8 sR, cI E x6 8 cap, cI E x7 8 hol, cJ E x8 256 rls, cZ E x9 40 isG, cI E x10 40 plc, cI E x11 40 pri, cI E x12 40 rte, cI E x13 40 shr, cI E x14 40 bck, cI E x15 40 sto, cI E x16 40 wnt, cJ E x18 300 bks, cI E x19 40 amt, cI E x20 40 fst, cI E x21 40 ord] 0 [(0, .ref x0), (1, .int (iI i)), (2, .int (iI r)), (3, .int (iI pp)), (4, .int (iI mo))] []
  refine rg_aload_n C 0 dX6_lay_0 rfl rfl ?_
  refine rg_get C fX6_36 0 rfl rfl dX6_lay_1 ?_
  refine rg_iload_n C 1 dX6_lay_4 rfl rfl ?_
  refine rg_iconst C dX6_lay_5 ?_
  refine rg_zast (ws' := [cO x0 6 [.int (iI thr), .ref x1, .ref x2, .ref x3, .ref x4, .ref x5, .ref x6, .ref x7, .ref x8, .ref x9, .ref x10, .ref x11, .ref x12, .ref x13, .ref x14, .ref x15, .ref x16, .int (iI dy), .ref x18, .ref x19, .ref x20, .ref x21, .int (iI rgs)], cZ E x1 32 isR, cI E x2 32 dn, cI E x3 32 inf, cZ E x4 8 isS, cI E x5 8 sR, cI E x6 8 cap, cI E x7 8 hol, cJ E x8 256 rls, cZ E x9 40 (uZ isG i.toNat 1), cI E x10 40 plc, cI E x11 40 pri, cI E x12 40 rte, cI E x13 40 shr, cI E x14 40 bck, cI E x15 40 sto, cI E x16 40 wnt, cJ E x18 300 bks, cI E x19 40 amt, cI E x20 40 fst, cI E x21 40 ord]) C 9 rfl (by decide) (by omega) (by omega) (by decide) dX6_lay_6 rfl ?_
  refine rg_aload_n C 0 dX6_lay_7 rfl rfl ?_
  refine rg_get C fX6_39 0 rfl rfl dX6_lay_8 ?_
  refine rg_iload_n C 1 dX6_lay_11 rfl rfl ?_
  refine rg_iload_n C 2 dX6_lay_12 rfl rfl ?_
  refine rg_iast (ws' := [cO x0 6 [.int (iI thr), .ref x1, .ref x2, .ref x3, .ref x4, .ref x5, .ref x6, .ref x7, .ref x8, .ref x9, .ref x10, .ref x11, .ref x12, .ref x13, .ref x14, .ref x15, .ref x16, .int (iI dy), .ref x18, .ref x19, .ref x20, .ref x21, .int (iI rgs)], cZ E x1 32 isR, cI E x2 32 dn, cI E x3 32 inf, cZ E x4 8 isS, cI E x5 8 sR, cI E x6 8 cap, cI E x7 8 hol, cJ E x8 256 rls, cZ E x9 40 (uZ isG i.toNat 1), cI E x10 40 (uZ plc i.toNat r), cI E x11 40 pri, cI E x12 40 rte, cI E x13 40 shr, cI E x14 40 bck, cI E x15 40 sto, cI E x16 40 wnt, cJ E x18 300 bks, cI E x19 40 amt, cI E x20 40 fst, cI E x21 40 ord]) C 10 rfl (by decide) (by omega) (by omega) dX6_lay_13 rfl ?_
  refine rg_aload_n C 0 dX6_lay_14 rfl rfl ?_
  refine rg_get C fX6_42 0 rfl rfl dX6_lay_15 ?_
  refine rg_iload_n C 1 dX6_lay_18 rfl rfl ?_
  refine rg_iload_n C 3 dX6_lay_19 rfl rfl ?_
  refine rg_iast (ws' := [cO x0 6 [.int (iI thr), .ref x1, .ref x2, .ref x3, .ref x4, .ref x5, .ref x6, .ref x7, .ref x8, .ref x9, .ref x10, .ref x11, .ref x12, .ref x13, .ref x14, .ref x15, .ref x16, .int (iI dy), .ref x18, .ref x19, .ref x20, .ref x21, .int (iI rgs)], cZ E x1 32 isR, cI E x2 32 dn, cI E x3 32 inf, cZ E x4 8 isS, cI E x5 8 sR, cI E x6 8 cap, cI E x7 8 hol, cJ E x8 256 rls, cZ E x9 40 (uZ isG i.toNat 1), cI E x10 40 (uZ plc i.toNat r), cI E x11 40 (uZ pri i.toNat pp), cI E x12 40 rte, cI E x13 40 shr, cI E x14 40 bck, cI E x15 40 sto, cI E x16 40 wnt, cJ E x18 300 bks, cI E x19 40 amt, cI E x20 40 fst, cI E x21 40 ord]) C 11 rfl (by decide) (by omega) (by omega) dX6_lay_20 rfl ?_
  refine rg_aload_n C 0 dX6_lay_21 rfl rfl ?_
  refine rg_get C fX6_45 0 rfl rfl dX6_lay_22 ?_
  refine rg_iload_n C 1 dX6_lay_25 rfl rfl ?_
  refine rg_iload C 4 dX6_lay_26 rfl ?_
  refine rg_iast (ws' := [cO x0 6 [.int (iI thr), .ref x1, .ref x2, .ref x3, .ref x4, .ref x5, .ref x6, .ref x7, .ref x8, .ref x9, .ref x10, .ref x11, .ref x12, .ref x13, .ref x14, .ref x15, .ref x16, .int (iI dy), .ref x18, .ref x19, .ref x20, .ref x21, .int (iI rgs)], cZ E x1 32 isR, cI E x2 32 dn, cI E x3 32 inf, cZ E x4 8 isS, cI E x5 8 sR, cI E x6 8 cap, cI E x7 8 hol, cJ E x8 256 rls, cZ E x9 40 (uZ isG i.toNat 1), cI E x10 40 (uZ plc i.toNat r), cI E x11 40 (uZ pri i.toNat pp), cI E x12 40 (uZ rte i.toNat mo), cI E x13 40 shr, cI E x14 40 bck, cI E x15 40 sto, cI E x16 40 wnt, cJ E x18 300 bks, cI E x19 40 amt, cI E x20 40 fst, cI E x21 40 ord]) C 12 rfl (by decide) (by omega) (by omega) dX6_lay_28 rfl ?_
  refine rg_aload_n C 0 dX6_lay_29 rfl rfl ?_
  refine rg_get C fX6_57 0 rfl rfl dX6_lay_30 ?_
  refine rg_iload_n C 1 dX6_lay_33 rfl rfl ?_
  refine rg_iload C 4 dX6_lay_34 rfl ?_
  refine rg_iast (ws' := [cO x0 6 [.int (iI thr), .ref x1, .ref x2, .ref x3, .ref x4, .ref x5, .ref x6, .ref x7, .ref x8, .ref x9, .ref x10, .ref x11, .ref x12, .ref x13, .ref x14, .ref x15, .ref x16, .int (iI dy), .ref x18, .ref x19, .ref x20, .ref x21, .int (iI rgs)], cZ E x1 32 isR, cI E x2 32 dn, cI E x3 32 inf, cZ E x4 8 isS, cI E x5 8 sR, cI E x6 8 cap, cI E x7 8 hol, cJ E x8 256 rls, cZ E x9 40 (uZ isG i.toNat 1), cI E x10 40 (uZ plc i.toNat r), cI E x11 40 (uZ pri i.toNat pp), cI E x12 40 (uZ rte i.toNat mo), cI E x13 40 shr, cI E x14 40 bck, cI E x15 40 sto, cI E x16 40 (uZ wnt i.toNat mo), cJ E x18 300 bks, cI E x19 40 amt, cI E x20 40 fst, cI E x21 40 ord]) C 16 rfl (by decide) (by omega) (by omega) dX6_lay_36 rfl ?_
  exact rg_vret C hA hQ hr hlk () rfl rfl dX6_lay_37
abbrev rX6_returned : Room := { frames := 0, cells := 0, slots := 0, locals := 0 }
set_option maxHeartbeats 4000000 in
set_option maxRecDepth 100000 in
/-- returned -/
theorem kX6_returned (l : Launch) (E : rE) (x0 : Nat) (x1 : Nat) (x2 : Nat) (x3 : Nat) (x4 : Nat) (x5 : Nat) (x6 : Nat) (x7 : Nat) (x8 : Nat) (x9 : Nat) (x10 : Nat) (x11 : Nat) (x12 : Nat) (x13 : Nat) (x14 : Nat) (x15 : Nat) (x16 : Nat) (x18 : Nat) (x19 : Nat) (x20 : Nat) (x21 : Nat) (isR : Nat → Int) (dn : Nat → Int) (inf : Nat → Int) (isS : Nat → Int) (sR : Nat → Int) (cap : Nat → Int) (hol : Nat → Int) (rls : Nat → Int) (isG : Nat → Int) (plc : Nat → Int) (pri : Nat → Int) (rte : Nat → Int) (shr : Nat → Int) (bck : Nat → Int) (sto : Nat → Int) (wnt : Nat → Int) (bks : Nat → Int) (amt : Nat → Int) (fst : Nat → Int) (ord : Nat → Int) (thr : Int) (dy : Int) (rgs : Int) (i : Int) (v : Int) (hi0 : 0 ≤ i ∧ i < 40) (hv0 : 0 ≤ v ∧ v ≤ 1000000000) (hs0 : 0 ≤ shr i.toNat ∧ shr i.toNat ≤ 1000) : rM l yX6_returned sX6_returned rX6_returned E [cO x0 6 [.int (iI thr), .ref x1, .ref x2, .ref x3, .ref x4, .ref x5, .ref x6, .ref x7, .ref x8, .ref x9, .ref x10, .ref x11, .ref x12, .ref x13, .ref x14, .ref x15, .ref x16, .int (iI dy), .ref x18, .ref x19, .ref x20, .ref x21, .int (iI rgs)], cZ E x1 32 isR, cI E x2 32 dn, cI E x3 32 inf, cZ E x4 8 isS, cI E x5 8 sR, cI E x6 8 cap, cI E x7 8 hol, cJ E x8 256 rls, cZ E x9 40 isG, cI E x10 40 plc, cI E x11 40 pri, cI E x12 40 rte, cI E x13 40 shr, cI E x14 40 bck, cI E x15 40 sto, cI E x16 40 wnt, cJ E x18 300 bks, cI E x19 40 amt, cI E x20 40 fst, cI E x21 40 ord] [.ref x0, .int (iI i), .long (lI v)] (some (.long (lI (v * shr i.toNat / 1000)))) (fun _ : Unit => [cO x0 6 [.int (iI thr), .ref x1, .ref x2, .ref x3, .ref x4, .ref x5, .ref x6, .ref x7, .ref x8, .ref x9, .ref x10, .ref x11, .ref x12, .ref x13, .ref x14, .ref x15, .ref x16, .int (iI dy), .ref x18, .ref x19, .ref x20, .ref x21, .int (iI rgs)], cZ E x1 32 isR, cI E x2 32 dn, cI E x3 32 inf, cZ E x4 8 isS, cI E x5 8 sR, cI E x6 8 cap, cI E x7 8 hol, cJ E x8 256 rls, cZ E x9 40 isG, cI E x10 40 plc, cI E x11 40 pri, cI E x12 40 rte, cI E x13 40 shr, cI E x14 40 bck, cI E x15 40 sto, cI E x16 40 wnt, cJ E x18 300 bks, cI E x19 40 amt, cI E x20 40 fst, cI E x21 40 ord]) := by
  refine rM.of (cc := cX6_returned) (maxL := 4) (ret := (some FieldType.long)) (by decide) rfl (Nat.le_of_ble_eq_true rfl) (fun w h => List.mem_cons_of_mem _ h) ?_
  intro p e s m args below meth c A Q hA hQ C hr hlk hnm
  have C : rC p s m args c E A 4 cX6_returned sX6_returned RX6 := C
  have hml : v * shr i.toNat ≤ v * 1000 := Int.mul_le_mul_of_nonneg_left hs0.2 hv0.1
  have hmn : 0 ≤ v * shr i.toNat := Int.mul_nonneg hv0.1 hs0.1
  show rG p l e rX6_returned s m args below meth c E A 4 0 0 Q [cO x0 6 [.int (iI thr), .ref x1, .ref x2, .ref x3, .ref x4, .ref x5, .ref x6, .ref x7, .ref x8, .ref x9, .ref x10, .ref x11, .ref x12, .ref x13, .ref x14, .ref x15, .ref x16, .int (iI dy), .ref x18, .ref x19, .ref x20, .ref x21, .int (iI rgs)], cZ E x1 32 isR, cI E x2 32 dn, cI E x3 32 inf, cZ E x4 8 isS, cI E x5 8 sR, cI E x6 8 cap, cI E x7 8 hol, cJ E x8 256 rls, cZ E x9 40 isG, cI E x10 40 plc, cI E x11 40 pri, cI E x12 40 rte, cI E x13 40 shr, cI E x14 40 bck, cI E x15 40 sto, cI E x16 40 wnt, cJ E x18 300 bks, cI E x19 40 amt, cI E x20 40 fst, cI E x21 40 ord] 0 [(0, .ref x0), (1, .int (iI i)), (2, .long (lI v))] []
  refine rg_lload_n C 2 dX6_returned_0 rfl rfl ?_
  refine rg_aload_n C 0 dX6_returned_1 rfl rfl ?_
  refine rg_get C fX6_48 0 rfl rfl dX6_returned_2 ?_
  refine rg_iload_n C 1 dX6_returned_5 rfl rfl ?_
  refine rg_iald C 13 rfl (by decide) (by omega) (by omega) dX6_returned_6 ?_
  refine rg_i2l C ⟨by omega, by omega⟩ dX6_returned_7 ?_
  refine rg_lmul C dX6_returned_8 ?_
  refine rg_ldc2 (v := 1000) (z := 1000) C (by decide +kernel) (by decide) dX6_returned_9 ?_
  refine rg_ldiv C ⟨by omega, by omega⟩ (by omega) (by omega) ⟨by decide, by decide⟩ dX6_returned_12 ?_
  exact rg_lret C hA hQ hr hlk () rfl rfl dX6_returned_13
abbrev rX6_isShort : Room := { frames := 0, cells := 0, slots := 0, locals := 0 }
set_option maxHeartbeats 4000000 in
set_option maxRecDepth 100000 in
/-- isShort -/
theorem kX6_isShort (l : Launch) (E : rE) (x0 : Nat) (x1 : Nat) (x2 : Nat) (x3 : Nat) (x4 : Nat) (x5 : Nat) (x6 : Nat) (x7 : Nat) (x8 : Nat) (x9 : Nat) (x10 : Nat) (x11 : Nat) (x12 : Nat) (x13 : Nat) (x14 : Nat) (x15 : Nat) (x16 : Nat) (x18 : Nat) (x19 : Nat) (x20 : Nat) (x21 : Nat) (isR : Nat → Int) (dn : Nat → Int) (inf : Nat → Int) (isS : Nat → Int) (sR : Nat → Int) (cap : Nat → Int) (hol : Nat → Int) (rls : Nat → Int) (isG : Nat → Int) (plc : Nat → Int) (pri : Nat → Int) (rte : Nat → Int) (shr : Nat → Int) (bck : Nat → Int) (sto : Nat → Int) (wnt : Nat → Int) (bks : Nat → Int) (amt : Nat → Int) (fst : Nat → Int) (ord : Nat → Int) (thr : Int) (dy : Int) (rgs : Int) (r : Int) (hri : 0 ≤ r ∧ r < 40) (hgi : inI (amt r.toNat)) (hwi : inI (wnt r.toNat)) : rM l yX6_isShort sX6_isShort rX6_isShort E [cO x0 6 [.int (iI thr), .ref x1, .ref x2, .ref x3, .ref x4, .ref x5, .ref x6, .ref x7, .ref x8, .ref x9, .ref x10, .ref x11, .ref x12, .ref x13, .ref x14, .ref x15, .ref x16, .int (iI dy), .ref x18, .ref x19, .ref x20, .ref x21, .int (iI rgs)], cZ E x1 32 isR, cI E x2 32 dn, cI E x3 32 inf, cZ E x4 8 isS, cI E x5 8 sR, cI E x6 8 cap, cI E x7 8 hol, cJ E x8 256 rls, cZ E x9 40 isG, cI E x10 40 plc, cI E x11 40 pri, cI E x12 40 rte, cI E x13 40 shr, cI E x14 40 bck, cI E x15 40 sto, cI E x16 40 wnt, cJ E x18 300 bks, cI E x19 40 amt, cI E x20 40 fst, cI E x21 40 ord] [.ref x0, .int (iI r)] (some (.int (iI (bZ (decide (amt r.toNat < wnt r.toNat)))))) (fun _ : Unit => [cO x0 6 [.int (iI thr), .ref x1, .ref x2, .ref x3, .ref x4, .ref x5, .ref x6, .ref x7, .ref x8, .ref x9, .ref x10, .ref x11, .ref x12, .ref x13, .ref x14, .ref x15, .ref x16, .int (iI dy), .ref x18, .ref x19, .ref x20, .ref x21, .int (iI rgs)], cZ E x1 32 isR, cI E x2 32 dn, cI E x3 32 inf, cZ E x4 8 isS, cI E x5 8 sR, cI E x6 8 cap, cI E x7 8 hol, cJ E x8 256 rls, cZ E x9 40 isG, cI E x10 40 plc, cI E x11 40 pri, cI E x12 40 rte, cI E x13 40 shr, cI E x14 40 bck, cI E x15 40 sto, cI E x16 40 wnt, cJ E x18 300 bks, cI E x19 40 amt, cI E x20 40 fst, cI E x21 40 ord]) := by
  refine rM.of (cc := cX6_isShort) (maxL := 2) (ret := (some FieldType.boolean)) (by decide) rfl (Nat.le_of_ble_eq_true rfl) (fun w h => List.mem_cons_of_mem _ h) ?_
  intro p e s m args below meth c A Q hA hQ C hr hlk hnm
  have C : rC p s m args c E A 2 cX6_isShort sX6_isShort RX6 := C
  show rG p l e rX6_isShort s m args below meth c E A 2 0 0 Q [cO x0 6 [.int (iI thr), .ref x1, .ref x2, .ref x3, .ref x4, .ref x5, .ref x6, .ref x7, .ref x8, .ref x9, .ref x10, .ref x11, .ref x12, .ref x13, .ref x14, .ref x15, .ref x16, .int (iI dy), .ref x18, .ref x19, .ref x20, .ref x21, .int (iI rgs)], cZ E x1 32 isR, cI E x2 32 dn, cI E x3 32 inf, cZ E x4 8 isS, cI E x5 8 sR, cI E x6 8 cap, cI E x7 8 hol, cJ E x8 256 rls, cZ E x9 40 isG, cI E x10 40 plc, cI E x11 40 pri, cI E x12 40 rte, cI E x13 40 shr, cI E x14 40 bck, cI E x15 40 sto, cI E x16 40 wnt, cJ E x18 300 bks, cI E x19 40 amt, cI E x20 40 fst, cI E x21 40 ord] 0 [(0, .ref x0), (1, .int (iI r))] []
  refine rg_aload_n C 0 dX6_isShort_0 rfl rfl ?_
  refine rg_get C fX6_63 0 rfl rfl dX6_isShort_1 ?_
  refine rg_iload_n C 1 dX6_isShort_4 rfl rfl ?_
  refine rg_iald C 18 rfl (by decide) (by omega) (by omega) dX6_isShort_5 ?_
  refine rg_aload_n C 0 dX6_isShort_6 rfl rfl ?_
  refine rg_get C fX6_57 0 rfl rfl dX6_isShort_7 ?_
  refine rg_iload_n C 1 dX6_isShort_10 rfl rfl ?_
  refine rg_iald C 16 rfl (by decide) (by omega) (by omega) dX6_isShort_11 ?_
  refine rg_icmp_ge (tgt := 19) C hgi hwi dX6_isShort_12 (by decide) (fun h_12 => ?_) (fun h_12 => ?_)
  · refine rg_iconst C dX6_isShort_19 ?_
    exact rg_zret C hA hQ hr hlk () rfl (by first | rfl | decide | exact (bZ_nar _) | (rw [h3]; exact bZ_nar _)) (by rw [decide_eq_false (by omega)]; rfl) dX6_isShort_20
  · refine rg_iconst C dX6_isShort_15 ?_
    refine rg_goto (tgt := 20) C dX6_isShort_16 (by decide) ?_
    exact rg_zret C hA hQ hr hlk () rfl (by first | rfl | decide | exact (bZ_nar _) | (rw [h3]; exact bZ_nar _)) (by rw [decide_eq_true (by omega)]; rfl) dX6_isShort_20
def takM (isG pri : Nat → Int) (t0 pp : Int) : Nat → Bool
  | 0 => decide (t0 ≠ 0)
  | k + 1 => takM isG pri t0 pp k || (decide (isG k ≠ 0) && decide (pri k = pp))
theorem takM_s {isG pri : Nat → Int} {t0 pp k : Int} (hk : 0 ≤ k) : takM isG pri t0 pp (k + 1).toNat = (takM isG pri t0 pp k.toNat || (decide (isG k.toNat ≠ 0) && decide (pri k.toNat = pp))) := by
  rw [show (k + 1).toNat = k.toNat + 1 by omega]; rfl
abbrev rX6_isTaken : Room := { frames := 0, cells := 0, slots := 0, locals := 0 }
set_option maxHeartbeats 4000000 in
set_option maxRecDepth 100000 in
/-- isTaken -/
theorem kX6_isTaken (l : Launch) (E : rE) (x0 : Nat) (x1 : Nat) (x2 : Nat) (x3 : Nat) (x4 : Nat) (x5 : Nat) (x6 : Nat) (x7 : Nat) (x8 : Nat) (x9 : Nat) (x10 : Nat) (x11 : Nat) (x12 : Nat) (x13 : Nat) (x14 : Nat) (x15 : Nat) (x16 : Nat) (x18 : Nat) (x19 : Nat) (x20 : Nat) (x21 : Nat) (isR : Nat → Int) (dn : Nat → Int) (inf : Nat → Int) (isS : Nat → Int) (sR : Nat → Int) (cap : Nat → Int) (hol : Nat → Int) (rls : Nat → Int) (isG : Nat → Int) (plc : Nat → Int) (pri : Nat → Int) (rte : Nat → Int) (shr : Nat → Int) (bck : Nat → Int) (sto : Nat → Int) (wnt : Nat → Int) (bks : Nat → Int) (amt : Nat → Int) (fst : Nat → Int) (ord : Nat → Int) (thr : Int) (dy : Int) (rgs : Int) (i : Int) (pp : Int) (hig : ∀ r : Nat, r < 40 → isG r = 0 ∨ isG r = 1) (hpr : ∀ i : Nat, i < 40 → inI (pri i)) (hi0 : 0 ≤ i ∧ i < 40) (hp0 : inI pp) : rM l yX6_isTaken sX6_isTaken rX6_isTaken E [cO x0 6 [.int (iI thr), .ref x1, .ref x2, .ref x3, .ref x4, .ref x5, .ref x6, .ref x7, .ref x8, .ref x9, .ref x10, .ref x11, .ref x12, .ref x13, .ref x14, .ref x15, .ref x16, .int (iI dy), .ref x18, .ref x19, .ref x20, .ref x21, .int (iI rgs)], cZ E x1 32 isR, cI E x2 32 dn, cI E x3 32 inf, cZ E x4 8 isS, cI E x5 8 sR, cI E x6 8 cap, cI E x7 8 hol, cJ E x8 256 rls, cZ E x9 40 isG, cI E x10 40 plc, cI E x11 40 pri, cI E x12 40 rte, cI E x13 40 shr, cI E x14 40 bck, cI E x15 40 sto, cI E x16 40 wnt, cJ E x18 300 bks, cI E x19 40 amt, cI E x20 40 fst, cI E x21 40 ord] [.ref x0, .int (iI i), .int (iI pp)] (some (.int (iI (bZ (takM isG pri (isG i.toNat) pp 40))))) (fun _ : Unit => [cO x0 6 [.int (iI thr), .ref x1, .ref x2, .ref x3, .ref x4, .ref x5, .ref x6, .ref x7, .ref x8, .ref x9, .ref x10, .ref x11, .ref x12, .ref x13, .ref x14, .ref x15, .ref x16, .int (iI dy), .ref x18, .ref x19, .ref x20, .ref x21, .int (iI rgs)], cZ E x1 32 isR, cI E x2 32 dn, cI E x3 32 inf, cZ E x4 8 isS, cI E x5 8 sR, cI E x6 8 cap, cI E x7 8 hol, cJ E x8 256 rls, cZ E x9 40 isG, cI E x10 40 plc, cI E x11 40 pri, cI E x12 40 rte, cI E x13 40 shr, cI E x14 40 bck, cI E x15 40 sto, cI E x16 40 wnt, cJ E x18 300 bks, cI E x19 40 amt, cI E x20 40 fst, cI E x21 40 ord]) := by
  refine rM.of (cc := cX6_isTaken) (maxL := 5) (ret := (some FieldType.boolean)) (by decide) rfl (Nat.le_of_ble_eq_true rfl) (fun w h => List.mem_cons_of_mem _ h) ?_
  intro p e s m args below meth c A Q hA hQ C hr hlk hnm
  have C : rC p s m args c E A 5 cX6_isTaken sX6_isTaken RX6 := C
  have L10 : ∀ (n : Nat) (k : Int) (t : Int), (0 ≤ k ∧ k ≤ 40) → (t = bZ (takM isG pri (isG i.toNat) pp k.toNat)) → ((40 - k).toNat < n) → rG p l e rX6_isTaken s m args below meth c E A 5 0 0 Q [cO x0 6 [.int (iI thr), .ref x1, .ref x2, .ref x3, .ref x4, .ref x5, .ref x6, .ref x7, .ref x8, .ref x9, .ref x10, .ref x11, .ref x12, .ref x13, .ref x14, .ref x15, .ref x16, .int (iI dy), .ref x18, .ref x19, .ref x20, .ref x21, .int (iI rgs)], cZ E x1 32 isR, cI E x2 32 dn, cI E x3 32 inf, cZ E x4 8 isS, cI E x5 8 sR, cI E x6 8 cap, cI E x7 8 hol, cJ E x8 256 rls, cZ E x9 40 isG, cI E x10 40 plc, cI E x11 40 pri, cI E x12 40 rte, cI E x13 40 shr, cI E x14 40 bck, cI E x15 40 sto, cI E x16 40 wnt, cJ E x18 300 bks, cI E x19 40 amt, cI E x20 40 fst, cI E x21 40 ord] 10 [(0, .ref x0), (1, .int (iI i)), (2, .int (iI pp)), (3, .int (iI t)), (4, .int (iI k))] [] := by
    intro n
    induction n with
    | zero => intro k t h1 h3 hm; exact absurd hm (Nat.not_lt_zero _)
    | succ n ih =>
      intro k t h1 h3 hm
      refine rg_iload C 4 dX6_isTaken_10 rfl ?_
      refine rg_bipush (z := 40) C dX6_isTaken_12 (by decide) ?_
      refine rg_icmp_ge (tgt := 54) C ⟨by omega, by omega⟩ ⟨by decide, by decide⟩ dX6_isTaken_14 (by decide) (fun h_14 => ?_) (fun h_14 => ?_)
      · refine rg_iload_n C 3 dX6_isTaken_54 rfl rfl ?_
        exact rg_zret C hA hQ hr hlk () rfl (by first | rfl | decide | exact (bZ_nar _) | (rw [h3]; exact bZ_nar _)) (by rw [h3, show k.toNat = 40 by omega]) dX6_isTaken_55
      · have ht9 : t = 0 ∨ t = 1 := by rw [h3]; exact bZ_01 _
        have hg9 := hig k.toNat (by omega)
        have hp9 := hpr k.toNat (by omega)
        refine rg_iload_n C 3 dX6_isTaken_17 rfl rfl ?_
        refine rg_if_ne (tgt := 42) C ⟨by omega, by omega⟩ dX6_isTaken_18 (by decide) (fun h_18 => ?_) (fun h_18 => ?_)
        · refine rg_iconst C dX6_isTaken_42 ?_
          refine rg_goto (tgt := 47) C dX6_isTaken_43 (by decide) ?_
          refine rg_istore_n (lv' := [(3, .int (iI 1)), (0, .ref x0), (1, .int (iI i)), (2, .int (iI pp)), (4, .int (iI k))]) C dX6_isTaken_47 rfl (by decide) rfl ?_
          refine rg_iinc (k := 4) (lv' := [(4, .int (iI (k + 1))), (3, .int (iI 1)), (0, .ref x0), (1, .int (iI i)), (2, .int (iI pp))]) C dX6_isTaken_48 rfl (by decide) rfl ?_
          refine rg_goto (tgt := 10) C dX6_isTaken_51 (by decide) ?_
          refine rG.plv [2, 3, 4, 1, 0] rfl ?_
          exact ih (k + 1) 1 (by omega) (by first | (rw [takM_s h1.1, bZ_T (show bZ (takM isG pri (isG i.toNat) pp k.toNat) ≠ 0 by omega)]; rfl) | (rw [takM_s h1.1, bZ_F (show bZ (takM isG pri (isG i.toNat) pp k.toNat) = 0 by omega), decide_eq_true (show isG k.toNat ≠ 0 by omega), decide_eq_true (show pri k.toNat = pp by omega)]; rfl) | (rw [takM_s h1.1, bZ_F (show bZ (takM isG pri (isG i.toNat) pp k.toNat) = 0 by omega), decide_eq_false (show ¬ isG k.toNat ≠ 0 by omega)]; rfl) | (rw [takM_s h1.1, bZ_F (show bZ (takM isG pri (isG i.toNat) pp k.toNat) = 0 by omega), decide_eq_true (show isG k.toNat ≠ 0 by omega), decide_eq_false (show ¬ pri k.toNat = pp by omega)]; rfl)) (by omega)
        · refine rg_aload_n C 0 dX6_isTaken_21 rfl rfl ?_
          refine rg_get C fX6_36 0 rfl rfl dX6_isTaken_22 ?_
          refine rg_iload C 4 dX6_isTaken_25 rfl ?_
          refine rg_zald C 9 rfl (by decide) (by omega) (by omega) dX6_isTaken_27 ?_
          refine rg_if_eq (tgt := 46) C ⟨by omega, by omega⟩ dX6_isTaken_28 (by decide) (fun h_28 => ?_) (fun h_28 => ?_)
          · refine rg_iconst C dX6_isTaken_46 ?_
            refine rg_istore_n (lv' := [(3, .int (iI 0)), (0, .ref x0), (1, .int (iI i)), (2, .int (iI pp)), (4, .int (iI k))]) C dX6_isTaken_47 rfl (by decide) rfl ?_
            refine rg_iinc (k := 4) (lv' := [(4, .int (iI (k + 1))), (3, .int (iI 0)), (0, .ref x0), (1, .int (iI i)), (2, .int (iI pp))]) C dX6_isTaken_48 rfl (by decide) rfl ?_
            refine rg_goto (tgt := 10) C dX6_isTaken_51 (by decide) ?_
            refine rG.plv [2, 3, 4, 1, 0] rfl ?_
            exact ih (k + 1) 0 (by omega) (by first | (rw [takM_s h1.1, bZ_T (show bZ (takM isG pri (isG i.toNat) pp k.toNat) ≠ 0 by omega)]; rfl) | (rw [takM_s h1.1, bZ_F (show bZ (takM isG pri (isG i.toNat) pp k.toNat) = 0 by omega), decide_eq_true (show isG k.toNat ≠ 0 by omega), decide_eq_true (show pri k.toNat = pp by omega)]; rfl) | (rw [takM_s h1.1, bZ_F (show bZ (takM isG pri (isG i.toNat) pp k.toNat) = 0 by omega), decide_eq_false (show ¬ isG k.toNat ≠ 0 by omega)]; rfl) | (rw [takM_s h1.1, bZ_F (show bZ (takM isG pri (isG i.toNat) pp k.toNat) = 0 by omega), decide_eq_true (show isG k.toNat ≠ 0 by omega), decide_eq_false (show ¬ pri k.toNat = pp by omega)]; rfl)) (by omega)
          · refine rg_aload_n C 0 dX6_isTaken_31 rfl rfl ?_
            refine rg_get C fX6_42 0 rfl rfl dX6_isTaken_32 ?_
            refine rg_iload C 4 dX6_isTaken_35 rfl ?_
            refine rg_iald C 11 rfl (by decide) (by omega) (by omega) dX6_isTaken_37 ?_
            refine rg_iload_n C 2 dX6_isTaken_38 rfl rfl ?_
            refine rg_icmp_ne (tgt := 46) C ⟨by omega, by omega⟩ hp0 dX6_isTaken_39 (by decide) (fun h_39 => ?_) (fun h_39 => ?_)
            · refine rg_iconst C dX6_isTaken_46 ?_
              refine rg_istore_n (lv' := [(3, .int (iI 0)), (0, .ref x0), (1, .int (iI i)), (2, .int (iI pp)), (4, .int (iI k))]) C dX6_isTaken_47 rfl (by decide) rfl ?_
              refine rg_iinc (k := 4) (lv' := [(4, .int (iI (k + 1))), (3, .int (iI 0)), (0, .ref x0), (1, .int (iI i)), (2, .int (iI pp))]) C dX6_isTaken_48 rfl (by decide) rfl ?_
              refine rg_goto (tgt := 10) C dX6_isTaken_51 (by decide) ?_
              refine rG.plv [2, 3, 4, 1, 0] rfl ?_
              exact ih (k + 1) 0 (by omega) (by first | (rw [takM_s h1.1, bZ_T (show bZ (takM isG pri (isG i.toNat) pp k.toNat) ≠ 0 by omega)]; rfl) | (rw [takM_s h1.1, bZ_F (show bZ (takM isG pri (isG i.toNat) pp k.toNat) = 0 by omega), decide_eq_true (show isG k.toNat ≠ 0 by omega), decide_eq_true (show pri k.toNat = pp by omega)]; rfl) | (rw [takM_s h1.1, bZ_F (show bZ (takM isG pri (isG i.toNat) pp k.toNat) = 0 by omega), decide_eq_false (show ¬ isG k.toNat ≠ 0 by omega)]; rfl) | (rw [takM_s h1.1, bZ_F (show bZ (takM isG pri (isG i.toNat) pp k.toNat) = 0 by omega), decide_eq_true (show isG k.toNat ≠ 0 by omega), decide_eq_false (show ¬ pri k.toNat = pp by omega)]; rfl)) (by omega)
            · refine rg_iconst C dX6_isTaken_42 ?_
              refine rg_goto (tgt := 47) C dX6_isTaken_43 (by decide) ?_
              refine rg_istore_n (lv' := [(3, .int (iI 1)), (0, .ref x0), (1, .int (iI i)), (2, .int (iI pp)), (4, .int (iI k))]) C dX6_isTaken_47 rfl (by decide) rfl ?_
              refine rg_iinc (k := 4) (lv' := [(4, .int (iI (k + 1))), (3, .int (iI 1)), (0, .ref x0), (1, .int (iI i)), (2, .int (iI pp))]) C dX6_isTaken_48 rfl (by decide) rfl ?_
              refine rg_goto (tgt := 10) C dX6_isTaken_51 (by decide) ?_
              refine rG.plv [2, 3, 4, 1, 0] rfl ?_
              exact ih (k + 1) 1 (by omega) (by first | (rw [takM_s h1.1, bZ_T (show bZ (takM isG pri (isG i.toNat) pp k.toNat) ≠ 0 by omega)]; rfl) | (rw [takM_s h1.1, bZ_F (show bZ (takM isG pri (isG i.toNat) pp k.toNat) = 0 by omega), decide_eq_true (show isG k.toNat ≠ 0 by omega), decide_eq_true (show pri k.toNat = pp by omega)]; rfl) | (rw [takM_s h1.1, bZ_F (show bZ (takM isG pri (isG i.toNat) pp k.toNat) = 0 by omega), decide_eq_false (show ¬ isG k.toNat ≠ 0 by omega)]; rfl) | (rw [takM_s h1.1, bZ_F (show bZ (takM isG pri (isG i.toNat) pp k.toNat) = 0 by omega), decide_eq_true (show isG k.toNat ≠ 0 by omega), decide_eq_false (show ¬ pri k.toNat = pp by omega)]; rfl)) (by omega)
  show rG p l e rX6_isTaken s m args below meth c E A 5 0 0 Q [cO x0 6 [.int (iI thr), .ref x1, .ref x2, .ref x3, .ref x4, .ref x5, .ref x6, .ref x7, .ref x8, .ref x9, .ref x10, .ref x11, .ref x12, .ref x13, .ref x14, .ref x15, .ref x16, .int (iI dy), .ref x18, .ref x19, .ref x20, .ref x21, .int (iI rgs)], cZ E x1 32 isR, cI E x2 32 dn, cI E x3 32 inf, cZ E x4 8 isS, cI E x5 8 sR, cI E x6 8 cap, cI E x7 8 hol, cJ E x8 256 rls, cZ E x9 40 isG, cI E x10 40 plc, cI E x11 40 pri, cI E x12 40 rte, cI E x13 40 shr, cI E x14 40 bck, cI E x15 40 sto, cI E x16 40 wnt, cJ E x18 300 bks, cI E x19 40 amt, cI E x20 40 fst, cI E x21 40 ord] 0 [(0, .ref x0), (1, .int (iI i)), (2, .int (iI pp))] []
  refine rg_aload_n C 0 dX6_isTaken_0 rfl rfl ?_
  refine rg_get C fX6_36 0 rfl rfl dX6_isTaken_1 ?_
  refine rg_iload_n C 1 dX6_isTaken_4 rfl rfl ?_
  refine rg_zald C 9 rfl (by decide) (by omega) (by omega) dX6_isTaken_5 ?_
  refine rg_istore_n (lv' := [(3, .int (iI (isG i.toNat))), (0, .ref x0), (1, .int (iI i)), (2, .int (iI pp))]) C dX6_isTaken_6 rfl (by decide) rfl ?_
  refine rg_iconst C dX6_isTaken_7 ?_
  refine rg_istore (lv' := [(4, .int (iI 0)), (3, .int (iI (isG i.toNat))), (0, .ref x0), (1, .int (iI i)), (2, .int (iI pp))]) C dX6_isTaken_8 (by decide) rfl ?_
  refine rG.plv [2, 3, 4, 1, 0] rfl ?_
  exact L10 _ 0 (isG i.toNat) (by omega) (by rcases hig i.toNat (by omega) with q | q <;> rw [q] <;> rfl) (Nat.lt_succ_self _)
abbrev rX6_natural : Room := { frames := 1, cells := 0, slots := 0, locals := 23 }
set_option maxHeartbeats 4000000 in
set_option maxRecDepth 100000 in
/-- natural -/
theorem kX6_natural (l : Launch) (E : rE) (x0 : Nat) (x1 : Nat) (x2 : Nat) (x3 : Nat) (x4 : Nat) (x5 : Nat) (x6 : Nat) (x7 : Nat) (x8 : Nat) (x9 : Nat) (x10 : Nat) (x11 : Nat) (x12 : Nat) (x13 : Nat) (x14 : Nat) (x15 : Nat) (x16 : Nat) (x18 : Nat) (x19 : Nat) (x20 : Nat) (x21 : Nat) (isR : Nat → Int) (dn : Nat → Int) (inf : Nat → Int) (isS : Nat → Int) (sR : Nat → Int) (cap : Nat → Int) (hol : Nat → Int) (rls : Nat → Int) (isG : Nat → Int) (plc : Nat → Int) (pri : Nat → Int) (rte : Nat → Int) (shr : Nat → Int) (bck : Nat → Int) (sto : Nat → Int) (wnt : Nat → Int) (bks : Nat → Int) (amt : Nat → Int) (fst : Nat → Int) (ord : Nat → Int) (thr : Int) (dy : Int) (rgs : Int) (r : Int) (hdn : ∀ r : Nat, r < 32 → -1 ≤ dn r ∧ dn r < 32) (hpe : ∀ k : Nat, k < 32 → isR k ≠ 0 → pEnd dn 32 (k : Int)) (hir : ∀ r : Nat, r < 32 → isR r = 0 ∨ isR r = 1) (hig : ∀ r : Nat, r < 40 → isG r = 0 ∨ isG r = 1) (hinf : ∀ r : Nat, r < 32 → 0 ≤ inf r ∧ inf r ≤ 1000000000) (hrg : ∀ i : Nat, i < 40 → isG i ≠ 0 → (0 ≤ plc i ∧ plc i < 32 ∧ pEnd dn 32 (plc i)) ∧ (sto i < 0 → 0 ≤ bck i ∧ bck i < 32 ∧ pEnd dn 32 (bck i) ∧ 0 ≤ shr i ∧ shr i ≤ 1000)) (hsto : ∀ i : Nat, i < 40 → -1 ≤ sto i ∧ sto i < 8) (ham : ∀ i : Nat, i < 40 → 0 ≤ amt i ∧ amt i ≤ 1000000000) (hr0 : 0 ≤ r ∧ r < 32) : rM l yX6_natural sX6_natural rX6_natural E [cO x0 6 [.int (iI thr), .ref x1, .ref x2, .ref x3, .ref x4, .ref x5, .ref x6, .ref x7, .ref x8, .ref x9, .ref x10, .ref x11, .ref x12, .ref x13, .ref x14, .ref x15, .ref x16, .int (iI dy), .ref x18, .ref x19, .ref x20, .ref x21, .int (iI rgs)], cZ E x1 32 isR, cI E x2 32 dn, cI E x3 32 inf, cZ E x4 8 isS, cI E x5 8 sR, cI E x6 8 cap, cI E x7 8 hol, cJ E x8 256 rls, cZ E x9 40 isG, cI E x10 40 plc, cI E x11 40 pri, cI E x12 40 rte, cI E x13 40 shr, cI E x14 40 bck, cI E x15 40 sto, cI E x16 40 wnt, cJ E x18 300 bks, cI E x19 40 amt, cI E x20 40 fst, cI E x21 40 ord] [.ref x0, .int (iI r)] (some (.long (lI (natM isR dn inf isG plc bck sto shr amt r)))) (fun _ : Unit => [cO x0 6 [.int (iI thr), .ref x1, .ref x2, .ref x3, .ref x4, .ref x5, .ref x6, .ref x7, .ref x8, .ref x9, .ref x10, .ref x11, .ref x12, .ref x13, .ref x14, .ref x15, .ref x16, .int (iI dy), .ref x18, .ref x19, .ref x20, .ref x21, .int (iI rgs)], cZ E x1 32 isR, cI E x2 32 dn, cI E x3 32 inf, cZ E x4 8 isS, cI E x5 8 sR, cI E x6 8 cap, cI E x7 8 hol, cJ E x8 256 rls, cZ E x9 40 isG, cI E x10 40 plc, cI E x11 40 pri, cI E x12 40 rte, cI E x13 40 shr, cI E x14 40 bck, cI E x15 40 sto, cI E x16 40 wnt, cJ E x18 300 bks, cI E x19 40 amt, cI E x20 40 fst, cI E x21 40 ord]) := by
  refine rM.of (cc := cX6_natural) (maxL := 5) (ret := (some FieldType.long)) (by decide) rfl (Nat.le_of_ble_eq_true rfl) (fun w h => List.mem_cons_of_mem _ h) ?_
  intro p e s m args below meth c A Q hA hQ C hr hlk hnm
  have C : rC p s m args c E A 5 cX6_natural sX6_natural RX6 := C
  have L56 : ∀ (n : Nat) (k : Int) (ac : Int), (0 ≤ k ∧ k ≤ 40) → (ac = sumTo (natA isR dn inf r) 32 + sumTo (natB dn isG plc bck sto shr amt r) k.toNat) → ((40 - k).toNat < n) → rG p l e rX6_natural s m args below meth c E A 5 0 0 Q [cO x0 6 [.int (iI thr), .ref x1, .ref x2, .ref x3, .ref x4, .ref x5, .ref x6, .ref x7, .ref x8, .ref x9, .ref x10, .ref x11, .ref x12, .ref x13, .ref x14, .ref x15, .ref x16, .int (iI dy), .ref x18, .ref x19, .ref x20, .ref x21, .int (iI rgs)], cZ E x1 32 isR, cI E x2 32 dn, cI E x3 32 inf, cZ E x4 8 isS, cI E x5 8 sR, cI E x6 8 cap, cI E x7 8 hol, cJ E x8 256 rls, cZ E x9 40 isG, cI E x10 40 plc, cI E x11 40 pri, cI E x12 40 rte, cI E x13 40 shr, cI E x14 40 bck, cI E x15 40 sto, cI E x16 40 wnt, cJ E x18 300 bks, cI E x19 40 amt, cI E x20 40 fst, cI E x21 40 ord] 56 [(0, .ref x0), (1, .int (iI r)), (2, .long (lI ac)), (4, .int (iI k))] [] := by
    intro n
    induction n with
    | zero => intro k ac h1 h3 hm; exact absurd hm (Nat.not_lt_zero _)
    | succ n ih =>
      intro k ac h1 h3 hm
      refine rg_iload C 3 dX6_natural_56 rfl ?_
      refine rg_bipush (z := 40) C dX6_natural_58 (by decide) ?_
      refine rg_icmp_ge (tgt := 158) C ⟨by omega, by omega⟩ ⟨by decide, by decide⟩ dX6_natural_60 (by decide) (fun h_60 => ?_) (fun h_60 => ?_)
      · refine rg_lload_n C 2 dX6_natural_158 rfl rfl ?_
        exact rg_lret C hA hQ hr hlk () rfl (by rw [h3, show k.toNat = 40 by omega]; rfl) dX6_natural_159
      · have hg9 := hig k.toNat (by omega)
        have ha9 := ham k.toNat (by omega)
        have hs9 := hsto k.toNat (by omega)
        refine rg_aload_n C 0 dX6_natural_63 rfl rfl ?_
        refine rg_get C fX6_36 0 rfl rfl dX6_natural_64 ?_
        refine rg_iload C 3 dX6_natural_67 rfl ?_
        refine rg_zald C 9 rfl (by decide) (by omega) (by omega) dX6_natural_69 ?_
        refine rg_if_ne (tgt := 76) C ⟨by omega, by omega⟩ dX6_natural_70 (by decide) (fun h_70 => ?_) (fun h_70 => ?_)
        · obtain ⟨⟨e1, e2, hE9⟩, hB9⟩ := hrg k.toNat (by omega) h_70
          refine rg_aload_n C 0 dX6_natural_76 rfl rfl ?_
          refine rg_aload_n C 0 dX6_natural_77 rfl rfl ?_
          refine rg_get C fX6_39 0 rfl rfl dX6_natural_78 ?_
          refine rg_iload C 3 dX6_natural_81 rfl ?_
          refine rg_iald C 10 rfl (by decide) (by omega) (by omega) dX6_natural_83 ?_
          refine rg_iload_n C 1 dX6_natural_84 rfl rfl ?_
          refine rg_callV (As := [.int (iI (plc k.toNat)), .int (iI r)]) (rest := []) (wr := []) (w' := fun _ => [cO x0 6 [.int (iI thr), .ref x1, .ref x2, .ref x3, .ref x4, .ref x5, .ref x6, .ref x7, .ref x8, .ref x9, .ref x10, .ref x11, .ref x12, .ref x13, .ref x14, .ref x15, .ref x16, .int (iI dy), .ref x18, .ref x19, .ref x20, .ref x21, .int (iI rgs)], cZ E x1 32 isR, cI E x2 32 dn, cI E x3 32 inf, cZ E x4 8 isS, cI E x5 8 sR, cI E x6 8 cap, cI E x7 8 hol, cJ E x8 256 rls, cZ E x9 40 isG, cI E x10 40 plc, cI E x11 40 pri, cI E x12 40 rte, cI E x13 40 shr, cI E x14 40 bck, cI E x15 40 sto, cI E x16 40 wnt, cJ E x18 300 bks, cI E x19 40 amt, cI E x20 40 fst, cI E x21 40 ord]) C (kX6_isOn l E x0 x1 x2 x3 x4 x5 x6 x7 x8 x9 x10 x11 x12 x13 x14 x15 x16 x18 x19 x20 x21 isR dn inf isS sR cap hol rls isG plc pri rte shr bck sto wnt bks amt fst ord thr dy rgs (plc k.toNat) r hdn (by omega) hE9 hr0) (rcwV C mX6_isOn w_714 ⟨Nat.le_of_ble_eq_true rfl, Nat.le_of_ble_eq_true rfl⟩) [0, 1, 2, 3, 4, 5, 6, 7, 8, 9, 10, 11, 12, 13, 14, 15, 16, 17, 18, 19, 20] [] [0, 1, 2, 3, 4, 5, 6, 7, 8, 9, 10, 11, 12, 13, 14, 15, 16, 17, 18, 19, 20] rfl rfl (by decide) (by decide) (by decide) (fun _ => rfl) (by decide) 0 rfl rfl rfl rfl (Nat.le_of_ble_eq_true rfl) dX6_natural_85 ⟨Nat.le_of_ble_eq_true rfl, Nat.le_of_ble_eq_true rfl⟩ (fun _ => ?_)
          show rG p l e rX6_natural s m args below meth c E A 5 0 0 Q [cO x0 6 [.int (iI thr), .ref x1, .ref x2, .ref x3, .ref x4, .ref x5, .ref x6, .ref x7, .ref x8, .ref x9, .ref x10, .ref x11, .ref x12, .ref x13, .ref x14, .ref x15, .ref x16, .int (iI dy), .ref x18, .ref x19, .ref x20, .ref x21, .int (iI rgs)], cZ E x1 32 isR, cI E x2 32 dn, cI E x3 32 inf, cZ E x4 8 isS, cI E x5 8 sR, cI E x6 8 cap, cI E x7 8 hol, cJ E x8 256 rls, cZ E x9 40 isG, cI E x10 40 plc, cI E x11 40 pri, cI E x12 40 rte, cI E x13 40 shr, cI E x14 40 bck, cI E x15 40 sto, cI E x16 40 wnt, cJ E x18 300 bks, cI E x19 40 amt, cI E x20 40 fst, cI E x21 40 ord] 88 [(0, .ref x0), (1, .int (iI r)), (2, .long (lI ac)), (4, .int (iI k))] [.int (iI (bZ (onP dn (plc k.toNat) r)))]
          refine rg_if_eq (tgt := 104) C (bZ_in _) dX6_natural_88 (by decide) (fun h_88 => ?_) (fun h_88 => ?_)
          · refine rg_lload_n C 2 dX6_natural_104 rfl rfl ?_
            refine rg_lstore_n (lv' := [(2, .long (lI ac)), (0, .ref x0), (1, .int (iI r)), (4, .int (iI k))]) C dX6_natural_105 rfl (by decide) rfl ?_
            refine rg_aload_n C 1 dX6_natural_106 rfl rfl ?_
            refine rg_get C fX6_54 0 rfl rfl dX6_natural_107 ?_
            refine rg_iload C 3 dX6_natural_110 rfl ?_
            refine rg_iald C 15 rfl (by decide) (by omega) (by omega) dX6_natural_112 ?_
            refine rg_if_ge (tgt := 150) C ⟨by omega, by omega⟩ dX6_natural_113 (by decide) (fun h_113 => ?_) (fun h_113 => ?_)
            · refine rg_lload_n C 0 dX6_natural_150 rfl rfl ?_
              refine rg_lstore_n (lv' := [(2, .long (lI ac)), (0, .ref x0), (1, .int (iI r)), (4, .int (iI k))]) C dX6_natural_151 rfl (by decide) rfl ?_
              refine rg_iinc (k := 3) (lv' := [(4, .int (iI (k + 1))), (2, .long (lI ac)), (0, .ref x0), (1, .int (iI r))]) C dX6_natural_152 rfl (by decide) rfl ?_
              refine rg_goto (tgt := 56) C dX6_natural_155 (by decide) ?_
              refine rG.plv [2, 3, 1, 0] rfl ?_
              exact ih (k + 1) ac (by omega) (by first | exact natB_0 h1.1 h3 h_70 | (have e8 := natB_1 (x := 0) (y := 0) h1.1 h3 h_70 (by rw [if_neg (by rw [bZ_F h_88]; decide)]) (by rw [if_neg (by rintro ⟨q1, q2⟩; first | omega | (rw [q2] at h_128; cases h_128))]); omega)) (by omega)
            · obtain ⟨b1, b2, hE9, b4, b5⟩ := hB9 (by omega)
              refine rg_aload_n C 1 dX6_natural_116 rfl rfl ?_
              refine rg_aload_n C 1 dX6_natural_117 rfl rfl ?_
              refine rg_get C fX6_51 0 rfl rfl dX6_natural_118 ?_
              refine rg_iload C 3 dX6_natural_121 rfl ?_
              refine rg_iald C 14 rfl (by decide) (by omega) (by omega) dX6_natural_123 ?_
              refine rg_iload_n C 2 dX6_natural_124 rfl rfl ?_
              refine rg_callV (As := [.int (iI (bck k.toNat)), .int (iI r)]) (rest := []) (wr := []) (w' := fun _ => [cO x0 6 [.int (iI thr), .ref x1, .ref x2, .ref x3, .ref x4, .ref x5, .ref x6, .ref x7, .ref x8, .ref x9, .ref x10, .ref x11, .ref x12, .ref x13, .ref x14, .ref x15, .ref x16, .int (iI dy), .ref x18, .ref x19, .ref x20, .ref x21, .int (iI rgs)], cZ E x1 32 isR, cI E x2 32 dn, cI E x3 32 inf, cZ E x4 8 isS, cI E x5 8 sR, cI E x6 8 cap, cI E x7 8 hol, cJ E x8 256 rls, cZ E x9 40 isG, cI E x10 40 plc, cI E x11 40 pri, cI E x12 40 rte, cI E x13 40 shr, cI E x14 40 bck, cI E x15 40 sto, cI E x16 40 wnt, cJ E x18 300 bks, cI E x19 40 amt, cI E x20 40 fst, cI E x21 40 ord]) C (kX6_isOn l E x0 x1 x2 x3 x4 x5 x6 x7 x8 x9 x10 x11 x12 x13 x14 x15 x16 x18 x19 x20 x21 isR dn inf isS sR cap hol rls isG plc pri rte shr bck sto wnt bks amt fst ord thr dy rgs (bck k.toNat) r hdn (by omega) hE9 hr0) (rcwV C mX6_isOn w_714 ⟨Nat.le_of_ble_eq_true rfl, Nat.le_of_ble_eq_true rfl⟩) [0, 1, 2, 3, 4, 5, 6, 7, 8, 9, 10, 11, 12, 13, 14, 15, 16, 17, 18, 19, 20] [] [0, 1, 2, 3, 4, 5, 6, 7, 8, 9, 10, 11, 12, 13, 14, 15, 16, 17, 18, 19, 20] rfl rfl (by decide) (by decide) (by decide) (fun _ => rfl) (by decide) 0 rfl rfl rfl rfl (Nat.le_of_ble_eq_true rfl) dX6_natural_125 ⟨Nat.le_of_ble_eq_true rfl, Nat.le_of_ble_eq_true rfl⟩ (fun _ => ?_)
              show rG p l e rX6_natural s m args below meth c E A 5 0 0 Q [cO x0 6 [.int (iI thr), .ref x1, .ref x2, .ref x3, .ref x4, .ref x5, .ref x6, .ref x7, .ref x8, .ref x9, .ref x10, .ref x11, .ref x12, .ref x13, .ref x14, .ref x15, .ref x16, .int (iI dy), .ref x18, .ref x19, .ref x20, .ref x21, .int (iI rgs)], cZ E x1 32 isR, cI E x2 32 dn, cI E x3 32 inf, cZ E x4 8 isS, cI E x5 8 sR, cI E x6 8 cap, cI E x7 8 hol, cJ E x8 256 rls, cZ E x9 40 isG, cI E x10 40 plc, cI E x11 40 pri, cI E x12 40 rte, cI E x13 40 shr, cI E x14 40 bck, cI E x15 40 sto, cI E x16 40 wnt, cJ E x18 300 bks, cI E x19 40 amt, cI E x20 40 fst, cI E x21 40 ord] 128 [(2, .long (lI ac)), (0, .ref x0), (1, .int (iI r)), (4, .int (iI k))] [.int (iI (bZ (onP dn (bck k.toNat) r)))]
              refine rg_if_eq (tgt := 150) C (bZ_in _) dX6_natural_128 (by decide) (fun h_128 => ?_) (fun h_128 => ?_)
              · refine rg_lload_n C 0 dX6_natural_150 rfl rfl ?_
                refine rg_lstore_n (lv' := [(2, .long (lI ac)), (0, .ref x0), (1, .int (iI r)), (4, .int (iI k))]) C dX6_natural_151 rfl (by decide) rfl ?_
                refine rg_iinc (k := 3) (lv' := [(4, .int (iI (k + 1))), (2, .long (lI ac)), (0, .ref x0), (1, .int (iI r))]) C dX6_natural_152 rfl (by decide) rfl ?_
                refine rg_goto (tgt := 56) C dX6_natural_155 (by decide) ?_
                refine rG.plv [2, 3, 1, 0] rfl ?_
                exact ih (k + 1) ac (by omega) (by first | exact natB_0 h1.1 h3 h_70 | (have e8 := natB_1 (x := 0) (y := 0) h1.1 h3 h_70 (by rw [if_neg (by rw [bZ_F h_88]; decide)]) (by rw [if_neg (by rintro ⟨q1, q2⟩; first | omega | (rw [q2] at h_128; cases h_128))]); omega)) (by omega)
              · refine rg_lload_n C 0 dX6_natural_131 rfl rfl ?_
                refine rg_aload_n C 1 dX6_natural_132 rfl rfl ?_
                refine rg_iload C 3 dX6_natural_133 rfl ?_
                refine rg_aload_n C 1 dX6_natural_135 rfl rfl ?_
                refine rg_get C fX6_63 0 rfl rfl dX6_natural_136 ?_
                refine rg_iload C 3 dX6_natural_139 rfl ?_
                refine rg_iald C 18 rfl (by decide) (by omega) (by omega) dX6_natural_141 ?_
                refine rg_i2l C ⟨by omega, by omega⟩ dX6_natural_142 ?_
                refine rg_callV (As := [.int (iI k), .long (lI (amt k.toNat))]) (rest := [.long (lI ac)]) (wr := []) (w' := fun _ => [cO x0 6 [.int (iI thr), .ref x1, .ref x2, .ref x3, .ref x4, .ref x5, .ref x6, .ref x7, .ref x8, .ref x9, .ref x10, .ref x11, .ref x12, .ref x13, .ref x14, .ref x15, .ref x16, .int (iI dy), .ref x18, .ref x19, .ref x20, .ref x21, .int (iI rgs)], cZ E x1 32 isR, cI E x2 32 dn, cI E x3 32 inf, cZ E x4 8 isS, cI E x5 8 sR, cI E x6 8 cap, cI E x7 8 hol, cJ E x8 256 rls, cZ E x9 40 isG, cI E x10 40 plc, cI E x11 40 pri, cI E x12 40 rte, cI E x13 40 shr, cI E x14 40 bck, cI E x15 40 sto, cI E x16 40 wnt, cJ E x18 300 bks, cI E x19 40 amt, cI E x20 40 fst, cI E x21 40 ord]) C (kX6_returned l E x0 x1 x2 x3 x4 x5 x6 x7 x8 x9 x10 x11 x12 x13 x14 x15 x16 x18 x19 x20 x21 isR dn inf isS sR cap hol rls isG plc pri rte shr bck sto wnt bks amt fst ord thr dy rgs k (amt k.toNat) (by first | omega | assumption) (by first | omega | assumption) (by first | omega | assumption)) (rcwV C mX6_returned w_774 ⟨Nat.le_of_ble_eq_true rfl, Nat.le_of_ble_eq_true rfl⟩) [0, 1, 2, 3, 4, 5, 6, 7, 8, 9, 10, 11, 12, 13, 14, 15, 16, 17, 18, 19, 20] [] [0, 1, 2, 3, 4, 5, 6, 7, 8, 9, 10, 11, 12, 13, 14, 15, 16, 17, 18, 19, 20] rfl rfl (by decide) (by decide) (by decide) (fun _ => rfl) (by decide) 0 rfl rfl rfl rfl (Nat.le_of_ble_eq_true rfl) dX6_natural_143 ⟨Nat.le_of_ble_eq_true rfl, Nat.le_of_ble_eq_true rfl⟩ (fun _ => ?_)
                show rG p l e rX6_natural s m args below meth c E A 5 0 0 Q [cO x0 6 [.int (iI thr), .ref x1, .ref x2, .ref x3, .ref x4, .ref x5, .ref x6, .ref x7, .ref x8, .ref x9, .ref x10, .ref x11, .ref x12, .ref x13, .ref x14, .ref x15, .ref x16, .int (iI dy), .ref x18, .ref x19, .ref x20, .ref x21, .int (iI rgs)], cZ E x1 32 isR, cI E x2 32 dn, cI E x3 32 inf, cZ E x4 8 isS, cI E x5 8 sR, cI E x6 8 cap, cI E x7 8 hol, cJ E x8 256 rls, cZ E x9 40 isG, cI E x10 40 plc, cI E x11 40 pri, cI E x12 40 rte, cI E x13 40 shr, cI E x14 40 bck, cI E x15 40 sto, cI E x16 40 wnt, cJ E x18 300 bks, cI E x19 40 amt, cI E x20 40 fst, cI E x21 40 ord] 146 [(2, .long (lI ac)), (0, .ref x0), (1, .int (iI r)), (4, .int (iI k))] [.long (lI ((amt k.toNat) * shr k.toNat / 1000)), .long (lI ac)]
                refine rg_ladd C dX6_natural_146 ?_
                refine rg_goto (tgt := 151) C dX6_natural_147 (by decide) ?_
                refine rg_lstore_n (lv' := [(2, .long (lI (ac + ((amt k.toNat) * shr k.toNat / 1000)))), (0, .ref x0), (1, .int (iI r)), (4, .int (iI k))]) C dX6_natural_151 rfl (by decide) rfl ?_
                refine rg_iinc (k := 3) (lv' := [(4, .int (iI (k + 1))), (2, .long (lI (ac + ((amt k.toNat) * shr k.toNat / 1000)))), (0, .ref x0), (1, .int (iI r))]) C dX6_natural_152 rfl (by decide) rfl ?_
                refine rg_goto (tgt := 56) C dX6_natural_155 (by decide) ?_
                refine rG.plv [2, 3, 1, 0] rfl ?_
                exact ih (k + 1) (ac + ((amt k.toNat) * shr k.toNat / 1000)) (by omega) (by have e8 := natB_1 (x := 0) (y := amt k.toNat * shr k.toNat / 1000) h1.1 h3 h_70 (by rw [if_neg (by rw [bZ_F h_88]; decide)]) (by rw [if_pos ⟨by omega, bZ_T h_128⟩]); omega) (by omega)
          · refine rg_lload_n C 2 dX6_natural_91 rfl rfl ?_
            refine rg_aload_n C 0 dX6_natural_92 rfl rfl ?_
            refine rg_get C fX6_63 0 rfl rfl dX6_natural_93 ?_
            refine rg_iload C 3 dX6_natural_96 rfl ?_
            refine rg_iald C 18 rfl (by decide) (by omega) (by omega) dX6_natural_98 ?_
            refine rg_i2l C ⟨by omega, by omega⟩ dX6_natural_99 ?_
            refine rg_lsub C dX6_natural_100 ?_
            refine rg_goto (tgt := 105) C dX6_natural_101 (by decide) ?_
            refine rg_lstore_n (lv' := [(2, .long (lI (ac - (amt k.toNat)))), (0, .ref x0), (1, .int (iI r)), (4, .int (iI k))]) C dX6_natural_105 rfl (by decide) rfl ?_
            refine rg_aload_n C 1 dX6_natural_106 rfl rfl ?_
            refine rg_get C fX6_54 0 rfl rfl dX6_natural_107 ?_
            refine rg_iload C 3 dX6_natural_110 rfl ?_
            refine rg_iald C 15 rfl (by decide) (by omega) (by omega) dX6_natural_112 ?_
            refine rg_if_ge (tgt := 150) C ⟨by omega, by omega⟩ dX6_natural_113 (by decide) (fun h_113 => ?_) (fun h_113 => ?_)
            · refine rg_lload_n C 0 dX6_natural_150 rfl rfl ?_
              refine rg_lstore_n (lv' := [(2, .long (lI (ac - (amt k.toNat)))), (0, .ref x0), (1, .int (iI r)), (4, .int (iI k))]) C dX6_natural_151 rfl (by decide) rfl ?_
              refine rg_iinc (k := 3) (lv' := [(4, .int (iI (k + 1))), (2, .long (lI (ac - (amt k.toNat)))), (0, .ref x0), (1, .int (iI r))]) C dX6_natural_152 rfl (by decide) rfl ?_
              refine rg_goto (tgt := 56) C dX6_natural_155 (by decide) ?_
              refine rG.plv [2, 3, 1, 0] rfl ?_
              exact ih (k + 1) (ac - (amt k.toNat)) (by omega) (by have e8 := natB_1 (x := - amt k.toNat) (y := 0) h1.1 h3 h_70 (by rw [if_pos (bZ_T h_88)]) (by rw [if_neg (by rintro ⟨q1, q2⟩; first | omega | (rw [q2] at h_128; cases h_128))]); omega) (by omega)
            · obtain ⟨b1, b2, hE9, b4, b5⟩ := hB9 (by omega)
              refine rg_aload_n C 1 dX6_natural_116 rfl rfl ?_
              refine rg_aload_n C 1 dX6_natural_117 rfl rfl ?_
              refine rg_get C fX6_51 0 rfl rfl dX6_natural_118 ?_
              refine rg_iload C 3 dX6_natural_121 rfl ?_
              refine rg_iald C 14 rfl (by decide) (by omega) (by omega) dX6_natural_123 ?_
              refine rg_iload_n C 2 dX6_natural_124 rfl rfl ?_
              refine rg_callV (As := [.int (iI (bck k.toNat)), .int (iI r)]) (rest := []) (wr := []) (w' := fun _ => [cO x0 6 [.int (iI thr), .ref x1, .ref x2, .ref x3, .ref x4, .ref x5, .ref x6, .ref x7, .ref x8, .ref x9, .ref x10, .ref x11, .ref x12, .ref x13, .ref x14, .ref x15, .ref x16, .int (iI dy), .ref x18, .ref x19, .ref x20, .ref x21, .int (iI rgs)], cZ E x1 32 isR, cI E x2 32 dn, cI E x3 32 inf, cZ E x4 8 isS, cI E x5 8 sR, cI E x6 8 cap, cI E x7 8 hol, cJ E x8 256 rls, cZ E x9 40 isG, cI E x10 40 plc, cI E x11 40 pri, cI E x12 40 rte, cI E x13 40 shr, cI E x14 40 bck, cI E x15 40 sto, cI E x16 40 wnt, cJ E x18 300 bks, cI E x19 40 amt, cI E x20 40 fst, cI E x21 40 ord]) C (kX6_isOn l E x0 x1 x2 x3 x4 x5 x6 x7 x8 x9 x10 x11 x12 x13 x14 x15 x16 x18 x19 x20 x21 isR dn inf isS sR cap hol rls isG plc pri rte shr bck sto wnt bks amt fst ord thr dy rgs (bck k.toNat) r hdn (by omega) hE9 hr0) (rcwV C mX6_isOn w_714 ⟨Nat.le_of_ble_eq_true rfl, Nat.le_of_ble_eq_true rfl⟩) [0, 1, 2, 3, 4, 5, 6, 7, 8, 9, 10, 11, 12, 13, 14, 15, 16, 17, 18, 19, 20] [] [0, 1, 2, 3, 4, 5, 6, 7, 8, 9, 10, 11, 12, 13, 14, 15, 16, 17, 18, 19, 20] rfl rfl (by decide) (by decide) (by decide) (fun _ => rfl) (by decide) 0 rfl rfl rfl rfl (Nat.le_of_ble_eq_true rfl) dX6_natural_125 ⟨Nat.le_of_ble_eq_true rfl, Nat.le_of_ble_eq_true rfl⟩ (fun _ => ?_)
              show rG p l e rX6_natural s m args below meth c E A 5 0 0 Q [cO x0 6 [.int (iI thr), .ref x1, .ref x2, .ref x3, .ref x4, .ref x5, .ref x6, .ref x7, .ref x8, .ref x9, .ref x10, .ref x11, .ref x12, .ref x13, .ref x14, .ref x15, .ref x16, .int (iI dy), .ref x18, .ref x19, .ref x20, .ref x21, .int (iI rgs)], cZ E x1 32 isR, cI E x2 32 dn, cI E x3 32 inf, cZ E x4 8 isS, cI E x5 8 sR, cI E x6 8 cap, cI E x7 8 hol, cJ E x8 256 rls, cZ E x9 40 isG, cI E x10 40 plc, cI E x11 40 pri, cI E x12 40 rte, cI E x13 40 shr, cI E x14 40 bck, cI E x15 40 sto, cI E x16 40 wnt, cJ E x18 300 bks, cI E x19 40 amt, cI E x20 40 fst, cI E x21 40 ord] 128 [(2, .long (lI (ac - (amt k.toNat)))), (0, .ref x0), (1, .int (iI r)), (4, .int (iI k))] [.int (iI (bZ (onP dn (bck k.toNat) r)))]
              refine rg_if_eq (tgt := 150) C (bZ_in _) dX6_natural_128 (by decide) (fun h_128 => ?_) (fun h_128 => ?_)
              · refine rg_lload_n C 0 dX6_natural_150 rfl rfl ?_
                refine rg_lstore_n (lv' := [(2, .long (lI (ac - (amt k.toNat)))), (0, .ref x0), (1, .int (iI r)), (4, .int (iI k))]) C dX6_natural_151 rfl (by decide) rfl ?_
                refine rg_iinc (k := 3) (lv' := [(4, .int (iI (k + 1))), (2, .long (lI (ac - (amt k.toNat)))), (0, .ref x0), (1, .int (iI r))]) C dX6_natural_152 rfl (by decide) rfl ?_
                refine rg_goto (tgt := 56) C dX6_natural_155 (by decide) ?_
                refine rG.plv [2, 3, 1, 0] rfl ?_
                exact ih (k + 1) (ac - (amt k.toNat)) (by omega) (by have e8 := natB_1 (x := - amt k.toNat) (y := 0) h1.1 h3 h_70 (by rw [if_pos (bZ_T h_88)]) (by rw [if_neg (by rintro ⟨q1, q2⟩; first | omega | (rw [q2] at h_128; cases h_128))]); omega) (by omega)
              · refine rg_lload_n C 0 dX6_natural_131 rfl rfl ?_
                refine rg_aload_n C 1 dX6_natural_132 rfl rfl ?_
                refine rg_iload C 3 dX6_natural_133 rfl ?_
                refine rg_aload_n C 1 dX6_natural_135 rfl rfl ?_
                refine rg_get C fX6_63 0 rfl rfl dX6_natural_136 ?_
                refine rg_iload C 3 dX6_natural_139 rfl ?_
                refine rg_iald C 18 rfl (by decide) (by omega) (by omega) dX6_natural_141 ?_
                refine rg_i2l C ⟨by omega, by omega⟩ dX6_natural_142 ?_
                refine rg_callV (As := [.int (iI k), .long (lI (amt k.toNat))]) (rest := [.long (lI (ac - (amt k.toNat)))]) (wr := []) (w' := fun _ => [cO x0 6 [.int (iI thr), .ref x1, .ref x2, .ref x3, .ref x4, .ref x5, .ref x6, .ref x7, .ref x8, .ref x9, .ref x10, .ref x11, .ref x12, .ref x13, .ref x14, .ref x15, .ref x16, .int (iI dy), .ref x18, .ref x19, .ref x20, .ref x21, .int (iI rgs)], cZ E x1 32 isR, cI E x2 32 dn, cI E x3 32 inf, cZ E x4 8 isS, cI E x5 8 sR, cI E x6 8 cap, cI E x7 8 hol, cJ E x8 256 rls, cZ E x9 40 isG, cI E x10 40 plc, cI E x11 40 pri, cI E x12 40 rte, cI E x13 40 shr, cI E x14 40 bck, cI E x15 40 sto, cI E x16 40 wnt, cJ E x18 300 bks, cI E x19 40 amt, cI E x20 40 fst, cI E x21 40 ord]) C (kX6_returned l E x0 x1 x2 x3 x4 x5 x6 x7 x8 x9 x10 x11 x12 x13 x14 x15 x16 x18 x19 x20 x21 isR dn inf isS sR cap hol rls isG plc pri rte shr bck sto wnt bks amt fst ord thr dy rgs k (amt k.toNat) (by first | omega | assumption) (by first | omega | assumption) (by first | omega | assumption)) (rcwV C mX6_returned w_774 ⟨Nat.le_of_ble_eq_true rfl, Nat.le_of_ble_eq_true rfl⟩) [0, 1, 2, 3, 4, 5, 6, 7, 8, 9, 10, 11, 12, 13, 14, 15, 16, 17, 18, 19, 20] [] [0, 1, 2, 3, 4, 5, 6, 7, 8, 9, 10, 11, 12, 13, 14, 15, 16, 17, 18, 19, 20] rfl rfl (by decide) (by decide) (by decide) (fun _ => rfl) (by decide) 0 rfl rfl rfl rfl (Nat.le_of_ble_eq_true rfl) dX6_natural_143 ⟨Nat.le_of_ble_eq_true rfl, Nat.le_of_ble_eq_true rfl⟩ (fun _ => ?_)
                show rG p l e rX6_natural s m args below meth c E A 5 0 0 Q [cO x0 6 [.int (iI thr), .ref x1, .ref x2, .ref x3, .ref x4, .ref x5, .ref x6, .ref x7, .ref x8, .ref x9, .ref x10, .ref x11, .ref x12, .ref x13, .ref x14, .ref x15, .ref x16, .int (iI dy), .ref x18, .ref x19, .ref x20, .ref x21, .int (iI rgs)], cZ E x1 32 isR, cI E x2 32 dn, cI E x3 32 inf, cZ E x4 8 isS, cI E x5 8 sR, cI E x6 8 cap, cI E x7 8 hol, cJ E x8 256 rls, cZ E x9 40 isG, cI E x10 40 plc, cI E x11 40 pri, cI E x12 40 rte, cI E x13 40 shr, cI E x14 40 bck, cI E x15 40 sto, cI E x16 40 wnt, cJ E x18 300 bks, cI E x19 40 amt, cI E x20 40 fst, cI E x21 40 ord] 146 [(2, .long (lI (ac - (amt k.toNat)))), (0, .ref x0), (1, .int (iI r)), (4, .int (iI k))] [.long (lI ((amt k.toNat) * shr k.toNat / 1000)), .long (lI (ac - (amt k.toNat)))]
                refine rg_ladd C dX6_natural_146 ?_
                refine rg_goto (tgt := 151) C dX6_natural_147 (by decide) ?_
                refine rg_lstore_n (lv' := [(2, .long (lI ((ac - (amt k.toNat)) + ((amt k.toNat) * shr k.toNat / 1000)))), (0, .ref x0), (1, .int (iI r)), (4, .int (iI k))]) C dX6_natural_151 rfl (by decide) rfl ?_
                refine rg_iinc (k := 3) (lv' := [(4, .int (iI (k + 1))), (2, .long (lI ((ac - (amt k.toNat)) + ((amt k.toNat) * shr k.toNat / 1000)))), (0, .ref x0), (1, .int (iI r))]) C dX6_natural_152 rfl (by decide) rfl ?_
                refine rg_goto (tgt := 56) C dX6_natural_155 (by decide) ?_
                refine rG.plv [2, 3, 1, 0] rfl ?_
                exact ih (k + 1) ((ac - (amt k.toNat)) + ((amt k.toNat) * shr k.toNat / 1000)) (by omega) (by have e8 := natB_1 (x := - amt k.toNat) (y := amt k.toNat * shr k.toNat / 1000) h1.1 h3 h_70 (by rw [if_pos (bZ_T h_88)]) (by rw [if_pos ⟨by omega, bZ_T h_128⟩]); omega) (by omega)
        · refine rg_goto (tgt := 152) C dX6_natural_73 (by decide) ?_
          refine rg_iinc (k := 3) (lv' := [(4, .int (iI (k + 1))), (0, .ref x0), (1, .int (iI r)), (2, .long (lI ac))]) C dX6_natural_152 rfl (by decide) rfl ?_
          refine rg_goto (tgt := 56) C dX6_natural_155 (by decide) ?_
          refine rG.plv [1, 2, 3, 0] rfl ?_
          exact ih (k + 1) ac (by omega) (by first | exact natB_0 h1.1 h3 h_70 | (have e8 := natB_1 (x := 0) (y := 0) h1.1 h3 h_70 (by rw [if_neg (by rw [bZ_F h_88]; decide)]) (by rw [if_neg (by rintro ⟨q1, q2⟩; first | omega | (rw [q2] at h_128; cases h_128))]); omega)) (by omega)
  have L5 : ∀ (n : Nat) (k : Int) (ac : Int), (0 ≤ k ∧ k ≤ 32) → (ac = sumTo (natA isR dn inf r) k.toNat) → ((32 - k).toNat < n) → rG p l e rX6_natural s m args below meth c E A 5 0 0 Q [cO x0 6 [.int (iI thr), .ref x1, .ref x2, .ref x3, .ref x4, .ref x5, .ref x6, .ref x7, .ref x8, .ref x9, .ref x10, .ref x11, .ref x12, .ref x13, .ref x14, .ref x15, .ref x16, .int (iI dy), .ref x18, .ref x19, .ref x20, .ref x21, .int (iI rgs)], cZ E x1 32 isR, cI E x2 32 dn, cI E x3 32 inf, cZ E x4 8 isS, cI E x5 8 sR, cI E x6 8 cap, cI E x7 8 hol, cJ E x8 256 rls, cZ E x9 40 isG, cI E x10 40 plc, cI E x11 40 pri, cI E x12 40 rte, cI E x13 40 shr, cI E x14 40 bck, cI E x15 40 sto, cI E x16 40 wnt, cJ E x18 300 bks, cI E x19 40 amt, cI E x20 40 fst, cI E x21 40 ord] 5 [(0, .ref x0), (1, .int (iI r)), (2, .long (lI ac)), (4, .int (iI k))] [] := by
    intro n
    induction n with
    | zero => intro k ac h1 h3 hm; exact absurd hm (Nat.not_lt_zero _)
    | succ n ih =>
      intro k ac h1 h3 hm
      refine rg_iload C 3 dX6_natural_5 rfl ?_
      refine rg_bipush (z := 32) C dX6_natural_7 (by decide) ?_
      refine rg_icmp_ge (tgt := 53) C ⟨by omega, by omega⟩ ⟨by decide, by decide⟩ dX6_natural_9 (by decide) (fun h_9 => ?_) (fun h_9 => ?_)
      · refine rg_iconst C dX6_natural_53 ?_
        refine rg_istore (lv' := [(4, .int (iI 0)), (0, .ref x0), (1, .int (iI r)), (2, .long (lI ac))]) C dX6_natural_54 (by decide) rfl ?_
        refine rG.plv [1, 2, 3, 0] rfl ?_
        exact L56 _ 0 ac (by omega) (by rw [h3, show k.toNat = 32 by omega]; show _ = _ + 0; omega) (Nat.lt_succ_self _)
      · have hi9 := hinf k.toNat (by omega)
        have hr9 := hir k.toNat (by omega)
        refine rg_aload_n C 0 dX6_natural_12 rfl rfl ?_
        refine rg_get C fX6_7 0 rfl rfl dX6_natural_13 ?_
        refine rg_iload C 3 dX6_natural_16 rfl ?_
        refine rg_zald C 1 rfl (by decide) (by omega) (by omega) dX6_natural_18 ?_
        refine rg_if_eq (tgt := 45) C ⟨by omega, by omega⟩ dX6_natural_19 (by decide) (fun h_19 => ?_) (fun h_19 => ?_)
        · refine rg_lload_n C 2 dX6_natural_45 rfl rfl ?_
          refine rg_lstore_n (lv' := [(2, .long (lI ac)), (0, .ref x0), (1, .int (iI r)), (4, .int (iI k))]) C dX6_natural_46 rfl (by decide) rfl ?_
          refine rg_iinc (k := 3) (lv' := [(4, .int (iI (k + 1))), (2, .long (lI ac)), (0, .ref x0), (1, .int (iI r))]) C dX6_natural_47 rfl (by decide) rfl ?_
          refine rg_goto (tgt := 5) C dX6_natural_50 (by decide) ?_
          refine rG.plv [2, 3, 1, 0] rfl ?_
          exact ih (k + 1) ac (by omega) (natA_0 h1.1 h3 (by first | exact Or.inl h_19 | exact Or.inr h_29)) (by omega)
        · have hE9 : pEnd dn 32 k := by
            have := hpe k.toNat (by omega) h_19
            rw [Int.toNat_of_nonneg h1.1] at this
            exact this
          refine rg_aload_n C 0 dX6_natural_22 rfl rfl ?_
          refine rg_iload C 3 dX6_natural_23 rfl ?_
          refine rg_iload_n C 1 dX6_natural_25 rfl rfl ?_
          refine rg_callV (As := [.int (iI k), .int (iI r)]) (rest := []) (wr := []) (w' := fun _ => [cO x0 6 [.int (iI thr), .ref x1, .ref x2, .ref x3, .ref x4, .ref x5, .ref x6, .ref x7, .ref x8, .ref x9, .ref x10, .ref x11, .ref x12, .ref x13, .ref x14, .ref x15, .ref x16, .int (iI dy), .ref x18, .ref x19, .ref x20, .ref x21, .int (iI rgs)], cZ E x1 32 isR, cI E x2 32 dn, cI E x3 32 inf, cZ E x4 8 isS, cI E x5 8 sR, cI E x6 8 cap, cI E x7 8 hol, cJ E x8 256 rls, cZ E x9 40 isG, cI E x10 40 plc, cI E x11 40 pri, cI E x12 40 rte, cI E x13 40 shr, cI E x14 40 bck, cI E x15 40 sto, cI E x16 40 wnt, cJ E x18 300 bks, cI E x19 40 amt, cI E x20 40 fst, cI E x21 40 ord]) C (kX6_isOn l E x0 x1 x2 x3 x4 x5 x6 x7 x8 x9 x10 x11 x12 x13 x14 x15 x16 x18 x19 x20 x21 isR dn inf isS sR cap hol rls isG plc pri rte shr bck sto wnt bks amt fst ord thr dy rgs k r hdn (by omega) hE9 hr0) (rcwV C mX6_isOn w_714 ⟨Nat.le_of_ble_eq_true rfl, Nat.le_of_ble_eq_true rfl⟩) [0, 1, 2, 3, 4, 5, 6, 7, 8, 9, 10, 11, 12, 13, 14, 15, 16, 17, 18, 19, 20] [] [0, 1, 2, 3, 4, 5, 6, 7, 8, 9, 10, 11, 12, 13, 14, 15, 16, 17, 18, 19, 20] rfl rfl (by decide) (by decide) (by decide) (fun _ => rfl) (by decide) 0 rfl rfl rfl rfl (Nat.le_of_ble_eq_true rfl) dX6_natural_26 ⟨Nat.le_of_ble_eq_true rfl, Nat.le_of_ble_eq_true rfl⟩ (fun _ => ?_)
          show rG p l e rX6_natural s m args below meth c E A 5 0 0 Q [cO x0 6 [.int (iI thr), .ref x1, .ref x2, .ref x3, .ref x4, .ref x5, .ref x6, .ref x7, .ref x8, .ref x9, .ref x10, .ref x11, .ref x12, .ref x13, .ref x14, .ref x15, .ref x16, .int (iI dy), .ref x18, .ref x19, .ref x20, .ref x21, .int (iI rgs)], cZ E x1 32 isR, cI E x2 32 dn, cI E x3 32 inf, cZ E x4 8 isS, cI E x5 8 sR, cI E x6 8 cap, cI E x7 8 hol, cJ E x8 256 rls, cZ E x9 40 isG, cI E x10 40 plc, cI E x11 40 pri, cI E x12 40 rte, cI E x13 40 shr, cI E x14 40 bck, cI E x15 40 sto, cI E x16 40 wnt, cJ E x18 300 bks, cI E x19 40 amt, cI E x20 40 fst, cI E x21 40 ord] 29 [(0, .ref x0), (1, .int (iI r)), (2, .long (lI ac)), (4, .int (iI k))] [.int (iI (bZ (onP dn k r)))]
          refine rg_if_eq (tgt := 45) C (bZ_in _) dX6_natural_29 (by decide) (fun h_29 => ?_) (fun h_29 => ?_)
          · refine rg_lload_n C 2 dX6_natural_45 rfl rfl ?_
            refine rg_lstore_n (lv' := [(2, .long (lI ac)), (0, .ref x0), (1, .int (iI r)), (4, .int (iI k))]) C dX6_natural_46 rfl (by decide) rfl ?_
            refine rg_iinc (k := 3) (lv' := [(4, .int (iI (k + 1))), (2, .long (lI ac)), (0, .ref x0), (1, .int (iI r))]) C dX6_natural_47 rfl (by decide) rfl ?_
            refine rg_goto (tgt := 5) C dX6_natural_50 (by decide) ?_
            refine rG.plv [2, 3, 1, 0] rfl ?_
            exact ih (k + 1) ac (by omega) (natA_0 h1.1 h3 (by first | exact Or.inl h_19 | exact Or.inr h_29)) (by omega)
          · refine rg_lload_n C 2 dX6_natural_32 rfl rfl ?_
            refine rg_aload_n C 0 dX6_natural_33 rfl rfl ?_
            refine rg_get C fX6_17 0 rfl rfl dX6_natural_34 ?_
            refine rg_iload C 3 dX6_natural_37 rfl ?_
            refine rg_iald C 3 rfl (by decide) (by omega) (by omega) dX6_natural_39 ?_
            refine rg_i2l C ⟨by omega, by omega⟩ dX6_natural_40 ?_
            refine rg_ladd C dX6_natural_41 ?_
            refine rg_goto (tgt := 46) C dX6_natural_42 (by decide) ?_
            refine rg_lstore_n (lv' := [(2, .long (lI (ac + (inf k.toNat)))), (0, .ref x0), (1, .int (iI r)), (4, .int (iI k))]) C dX6_natural_46 rfl (by decide) rfl ?_
            refine rg_iinc (k := 3) (lv' := [(4, .int (iI (k + 1))), (2, .long (lI (ac + (inf k.toNat)))), (0, .ref x0), (1, .int (iI r))]) C dX6_natural_47 rfl (by decide) rfl ?_
            refine rg_goto (tgt := 5) C dX6_natural_50 (by decide) ?_
            refine rG.plv [2, 3, 1, 0] rfl ?_
            exact ih (k + 1) (ac + (inf k.toNat)) (by omega) (natA_1 h1.1 h3 h_19 h_29) (by omega)
  show rG p l e rX6_natural s m args below meth c E A 5 0 0 Q [cO x0 6 [.int (iI thr), .ref x1, .ref x2, .ref x3, .ref x4, .ref x5, .ref x6, .ref x7, .ref x8, .ref x9, .ref x10, .ref x11, .ref x12, .ref x13, .ref x14, .ref x15, .ref x16, .int (iI dy), .ref x18, .ref x19, .ref x20, .ref x21, .int (iI rgs)], cZ E x1 32 isR, cI E x2 32 dn, cI E x3 32 inf, cZ E x4 8 isS, cI E x5 8 sR, cI E x6 8 cap, cI E x7 8 hol, cJ E x8 256 rls, cZ E x9 40 isG, cI E x10 40 plc, cI E x11 40 pri, cI E x12 40 rte, cI E x13 40 shr, cI E x14 40 bck, cI E x15 40 sto, cI E x16 40 wnt, cJ E x18 300 bks, cI E x19 40 amt, cI E x20 40 fst, cI E x21 40 ord] 0 [(0, .ref x0), (1, .int (iI r))] []
  refine rg_lconst (z := 0) C dX6_natural_0 (by decide) ?_
  refine rg_lstore_n (lv' := [(2, .long (lI 0)), (0, .ref x0), (1, .int (iI r))]) C dX6_natural_1 rfl (by decide) rfl ?_
  refine rg_iconst C dX6_natural_2 ?_
  refine rg_istore (lv' := [(4, .int (iI 0)), (2, .long (lI 0)), (0, .ref x0), (1, .int (iI r))]) C dX6_natural_3 (by decide) rfl ?_
  refine rG.plv [2, 3, 1, 0] rfl ?_
  exact L5 _ 0 0 (by omega) rfl (Nat.lt_succ_self _)
