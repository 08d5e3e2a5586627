abbrev rX4_add : Room := { frames := 0, cells := 0, slots := 0, locals := 0 }
set_option maxHeartbeats 4000000 in
set_option maxRecDepth 100000 in
/-- River.add -/
theorem kX4_add (l : Launch) (E : rE) (q0 : Nat) (q1 : Nat) (q2 : Nat) (q3 : Nat) (q4 : Nat) (th : Nat → Int) (be : Nat → Int) (inf : Nat → Int) (snt : Nat → Int) (out : Int) (r : Int) (d : Int) (hr0 : 0 ≤ r ∧ r < 32) (hd0 : inI d) : rM l yX4_add sX4_add rX4_add E [cO q0 4 [.ref q1, .ref q2, .ref q3, .ref q4, .int (iI out)], cZ E q1 32 th, cI E q2 32 be, cI E q3 32 inf, cJ E q4 32 snt] [.ref q0, .int (iI r), .int (iI d)] none (fun _ : Unit => [cO q0 4 [.ref q1, .ref q2, .ref q3, .ref q4, .int (iI (if d = -1 then r else out))], cZ E q1 32 (uZ th r.toNat 1), cI E q2 32 (uZ be r.toNat d), cI E q3 32 inf, cJ E q4 32 snt]) := by
  refine rM.of (cc := cX4_add) (maxL := 3) (ret := none) (by decide) rfl (Nat.le_of_ble_eq_true rfl) (fun w h => List.mem_cons_of_mem _ h) ?_
  intro p e s m args below meth c A Q hA hQ C hr hlk hnm
  have C : rC p s m args c E A 3 cX4_add sX4_add RX4 := C
  show rG p l e rX4_add s m args below meth c E A 3 0 0 Q [cO q0 4 [.ref q1, .ref q2, .ref q3, .ref q4, .int (iI out)], cZ E q1 32 th, cI E q2 32 be, cI E q3 32 inf, cJ E q4 32 snt] 0 [(0, .ref q0), (1, .int (iI r)), (2, .int (iI d))] []
  refine rg_aload_n C 0 dX4_add_0 rfl rfl ?_
  refine rg_get C fX4_9 0 rfl rfl dX4_add_1 ?_
  refine rg_iload_n C 1 dX4_add_4 rfl rfl ?_
  refine rg_iconst C dX4_add_5 ?_
  refine rg_zast (ws' := [cO q0 4 [.ref q1, .ref q2, .ref q3, .ref q4, .int (iI out)], cZ E q1 32 (uZ th r.toNat 1), cI E q2 32 be, cI E q3 32 inf, cJ E q4 32 snt]) C 1 rfl (by decide) (by omega) (by omega) (by decide) dX4_add_6 rfl ?_
  refine rg_aload_n C 0 dX4_add_7 rfl rfl ?_
  refine rg_get C fX4_15 0 rfl rfl dX4_add_8 ?_
  refine rg_iload_n C 1 dX4_add_11 rfl rfl ?_
  refine rg_iload_n C 2 dX4_add_12 rfl rfl ?_
  refine rg_iast (ws' := [cO q0 4 [.ref q1, .ref q2, .ref q3, .ref q4, .int (iI out)], cZ E q1 32 (uZ th r.toNat 1), cI E q2 32 (uZ be r.toNat d), cI E q3 32 inf, cJ E q4 32 snt]) C 2 rfl (by decide) (by omega) (by omega) dX4_add_13 rfl ?_
  refine rg_iload_n C 2 dX4_add_14 rfl rfl ?_
  refine rg_iconst C dX4_add_15 ?_
  refine rg_icmp_ne (tgt := 24) C hd0 ⟨by decide, by decide⟩ dX4_add_16 (by decide) (fun h_16 => ?_) (fun h_16 => ?_)
  · exact rg_vret C hA hQ hr hlk () (by rw [if_neg (by omega)]) rfl dX4_add_24
  · refine rg_aload_n C 0 dX4_add_19 rfl rfl ?_
    refine rg_iload_n C 1 dX4_add_20 rfl rfl ?_
    refine rg_put (ws' := [cO q0 4 [.ref q1, .ref q2, .ref q3, .ref q4, .int (iI r)], cZ E q1 32 (uZ th r.toNat 1), cI E q2 32 (uZ be r.toNat d), cI E q3 32 inf, cJ E q4 32 snt]) C fX4_26 layX4 rfl 0 rfl rfl rfl (Nat.le_of_ble_eq_true rfl) dX4_add_21 rfl ?_
    exact rg_vret C hA hQ hr hlk () (by rw [if_pos (by omega)]) rfl dX4_add_24
abbrev rX4_leadsTo : Room := { frames := 0, cells := 0, slots := 0, locals := 0 }
set_option maxHeartbeats 4000000 in
set_option maxRecDepth 100000 in
/-- River.leadsTo -/
theorem kX4_leadsTo (l : Launch) (E : rE) (q0 : Nat) (q1 : Nat) (q2 : Nat) (q3 : Nat) (q4 : Nat) (th : Nat → Int) (be : Nat → Int) (inf : Nat → Int) (snt : Nat → Int) (out : Int) (fr : Int) (to : Int) (hbe : ∀ r : Nat, r < 32 → -1 ≤ be r ∧ be r < 32) (hf : -1 ≤ fr ∧ fr < 32) (ht : inI to) : rM l yX4_leadsTo sX4_leadsTo rX4_leadsTo E [cO q0 4 [.ref q1, .ref q2, .ref q3, .ref q4, .int (iI out)], cZ E q1 32 th, cI E q2 32 be, cI E q3 32 inf, cJ E q4 32 snt] [.ref q0, .int (iI fr), .int (iI to)] (some (.int (iI (bZ (onP be fr to))))) (fun _ : Unit => [cO q0 4 [.ref q1, .ref q2, .ref q3, .ref q4, .int (iI out)], cZ E q1 32 th, cI E q2 32 be, cI E q3 32 inf, cJ E q4 32 snt]) := by
  refine rM.of (cc := cX4_leadsTo) (maxL := 5) (ret := (some FieldType.boolean)) (by decide) rfl (Nat.le_of_ble_eq_true rfl) (fun w h => List.mem_cons_of_mem _ h) ?_
  intro p e s m args below meth c A Q hA hQ C hr hlk hnm
  have C : rC p s m args c E A 5 cX4_leadsTo sX4_leadsTo RX4 := C
  have L5 : ∀ (n : Nat) (k : Int) (a : Int), (0 ≤ k ∧ k ≤ 32) → (-1 ≤ a ∧ a < 32) → ((0 ≤ to ∧ to.toNat ∈ pth be 32 fr) ↔ (0 ≤ to ∧ to.toNat ∈ pth be (32 - k).toNat a)) → ((32 - k).toNat < n) → rG p l e rX4_leadsTo s m args below meth c E A 5 0 0 Q [cO q0 4 [.ref q1, .ref q2, .ref q3, .ref q4, .int (iI out)], cZ E q1 32 th, cI E q2 32 be, cI E q3 32 inf, cJ E q4 32 snt] 5 [(0, .ref q0), (1, .int (iI fr)), (2, .int (iI to)), (3, .int (iI a)), (4, .int (iI k))] [] := by
    intro n
    induction n with
    | zero => intro k a h1 h2 h3 hm; exact absurd hm (Nat.not_lt_zero _)
    | succ n ih =>
      intro k a h1 h2 h3 hm
      refine rg_iload C 4 dX4_leadsTo_5 rfl ?_
      refine rg_bipush (z := 32) C dX4_leadsTo_7 (by decide) ?_
      refine rg_icmp_ge (tgt := 37) C ⟨by omega, by omega⟩ ⟨by decide, by decide⟩ dX4_leadsTo_9 (by decide) (fun h_9 => ?_) (fun h_9 => ?_)
      · refine rg_iconst C dX4_leadsTo_37 ?_
        exact rg_zret C hA hQ hr hlk () rfl (by first | rfl | decide | exact (bZ_nar _)) (by rw [show onP be fr to = false from decide_eq_false (fun q => onP_end (by omega) (h3.mp q))]; rfl) dX4_leadsTo_38
      · refine rg_iload_n C 3 dX4_leadsTo_12 rfl rfl ?_
        refine rg_iconst C dX4_leadsTo_13 ?_
        refine rg_icmp_eq (tgt := 37) C ⟨by omega, by omega⟩ ⟨by decide, by decide⟩ dX4_leadsTo_14 (by decide) (fun h_14 => ?_) (fun h_14 => ?_)
        · refine rg_iconst C dX4_leadsTo_37 ?_
          exact rg_zret C hA hQ hr hlk () rfl (by first | rfl | decide | exact (bZ_nar _)) (by rw [show onP be fr to = false from decide_eq_false (fun q => onP_end (by omega) (h3.mp q))]; rfl) dX4_leadsTo_38
        · refine rg_iload_n C 3 dX4_leadsTo_17 rfl rfl ?_
          refine rg_iload_n C 2 dX4_leadsTo_18 rfl rfl ?_
          refine rg_icmp_ne (tgt := 24) C ⟨by omega, by omega⟩ ht dX4_leadsTo_19 (by decide) (fun h_19 => ?_) (fun h_19 => ?_)
          · have hb9 := hbe a.toNat (by omega)
            refine rg_aload_n C 0 dX4_leadsTo_24 rfl rfl ?_
            refine rg_get C fX4_15 0 rfl rfl dX4_leadsTo_25 ?_
            refine rg_iload_n C 3 dX4_leadsTo_28 rfl rfl ?_
            refine rg_iald C 2 rfl (by decide) (by omega) (by omega) dX4_leadsTo_29 ?_
            refine rg_istore_n (lv' := [(3, .int (iI (be a.toNat))), (0, .ref q0), (1, .int (iI fr)), (2, .int (iI to)), (4, .int (iI k))]) C dX4_leadsTo_30 rfl (by decide) rfl ?_
            refine rg_iinc (k := 4) (lv' := [(4, .int (iI (k + 1))), (3, .int (iI (be a.toNat))), (0, .ref q0), (1, .int (iI fr)), (2, .int (iI to))]) C dX4_leadsTo_31 rfl (by decide) rfl ?_
            refine rg_goto (tgt := 5) C dX4_leadsTo_34 (by decide) ?_
            refine rG.plv [2, 3, 4, 1, 0] rfl ?_
            exact ih (k + 1) (be a.toNat) (by omega) hb9 (h3.trans ((onP_step h1.1 (by omega) (by omega)).trans ⟨fun h => h.resolve_left (fun q => h_19 q), Or.inr⟩)) (by omega)
          · refine rg_iconst C dX4_leadsTo_22 ?_
            exact rg_zret C hA hQ hr hlk () rfl (by first | rfl | decide | exact (bZ_nar _)) (by rw [show onP be fr to = true from decide_eq_true (h3.mpr ((onP_step h1.1 (by omega) (by omega)).mpr (Or.inl h_19)))]; rfl) dX4_leadsTo_23
  show rG p l e rX4_leadsTo s m args below meth c E A 5 0 0 Q [cO q0 4 [.ref q1, .ref q2, .ref q3, .ref q4, .int (iI out)], cZ E q1 32 th, cI E q2 32 be, cI E q3 32 inf, cJ E q4 32 snt] 0 [(0, .ref q0), (1, .int (iI fr)), (2, .int (iI to))] []
  refine rg_iload_n C 1 dX4_leadsTo_0 rfl rfl ?_
  refine rg_istore_n (lv' := [(3, .int (iI fr)), (0, .ref q0), (1, .int (iI fr)), (2, .int (iI to))]) C dX4_leadsTo_1 rfl (by decide) rfl ?_
  refine rg_iconst C dX4_leadsTo_2 ?_
  refine rg_istore (lv' := [(4, .int (iI 0)), (3, .int (iI fr)), (0, .ref q0), (1, .int (iI fr)), (2, .int (iI to))]) C dX4_leadsTo_3 (by decide) rfl ?_
  refine rG.plv [2, 3, 4, 1, 0] rfl ?_
  exact L5 _ 0 fr (by omega) (by omega) (Iff.rfl) (Nat.lt_succ_self _)
abbrev rX4_send : Room := { frames := 0, cells := 0, slots := 0, locals := 0 }
set_option maxHeartbeats 4000000 in
set_option maxRecDepth 100000 in
/-- River.send -/
theorem kX4_send (l : Launch) (E : rE) (q0 : Nat) (q1 : Nat) (q2 : Nat) (q3 : Nat) (q4 : Nat) (th : Nat → Int) (be : Nat → Int) (inf : Nat → Int) (snt : Nat → Int) (out : Int) (fr : Int) (to : Int) (am : Int) (hbe : ∀ r : Nat, r < 32 → -1 ≤ be r ∧ be r < 32) (hf : -1 ≤ fr ∧ fr < 32) (ht : inI to) (ham : inI am) : rM l yX4_send sX4_send rX4_send E [cO q0 4 [.ref q1, .ref q2, .ref q3, .ref q4, .int (iI out)], cZ E q1 32 th, cI E q2 32 be, cI E q3 32 inf, cJ E q4 32 snt] [.ref q0, .int (iI fr), .int (iI to), .int (iI am)] none (fun _ : Unit => [cO q0 4 [.ref q1, .ref q2, .ref q3, .ref q4, .int (iI out)], cZ E q1 32 th, cI E q2 32 be, cI E q3 32 inf, cJ E q4 32 (sendZ be to am 32 fr snt)]) := by
  refine rM.of (cc := cX4_send) (maxL := 7) (ret := none) (by decide) rfl (Nat.le_of_ble_eq_true rfl) (fun w h => List.mem_cons_of_mem _ h) ?_
  intro p e s m args below meth c A Q hA hQ C hr hlk hnm
  have C : rC p s m args c E A 7 cX4_send sX4_send RX4 := C
  have L9 : ∀ (n : Nat) (k : Int) (a : Int) (ar : Int) (sn : Nat → Int), (0 ≤ k ∧ k ≤ 32) → (-1 ≤ a ∧ a < 32) → (ar = 0 ∨ ar = 1) → (sendZ be to am 32 fr snt = if ar = 0 then sendZ be to am (32 - k).toNat a sn else sn) → ((32 - k).toNat < n) → rG p l e rX4_send s m args below meth c E A 7 0 0 Q [cO q0 4 [.ref q1, .ref q2, .ref q3, .ref q4, .int (iI out)], cZ E q1 32 th, cI E q2 32 be, cI E q3 32 inf, cJ E q4 32 sn] 9 [(0, .ref q0), (1, .int (iI fr)), (2, .int (iI to)), (3, .int (iI am)), (4, .int (iI ar)), (5, .int (iI a)), (6, .int (iI k))] [] := by
    intro n
    induction n with
    | zero => intro k a ar sn h1 h2 h4 h3 hm; exact absurd hm (Nat.not_lt_zero _)
    | succ n ih =>
      intro k a ar sn h1 h2 h4 h3 hm
      refine rg_iload C 6 dX4_send_9 rfl ?_
      refine rg_bipush (z := 32) C dX4_send_11 (by decide) ?_
      refine rg_icmp_ge (tgt := 67) C ⟨by omega, by omega⟩ ⟨by decide, by decide⟩ dX4_send_13 (by decide) (fun h_13 => ?_) (fun h_13 => ?_)
      · have e9 : sendZ be to am 32 fr snt = sn := by
          rw [h3]
          split
          · exact sendZ_end (by omega)
          · rfl
        exact rg_vret C hA hQ hr hlk () (by rw [e9]) rfl dX4_send_67
      · refine rg_iload C 5 dX4_send_16 rfl ?_
        refine rg_iconst C dX4_send_18 ?_
        refine rg_icmp_eq (tgt := 67) C ⟨by omega, by omega⟩ ⟨by decide, by decide⟩ dX4_send_19 (by decide) (fun h_19 => ?_) (fun h_19 => ?_)
        · have e9 : sendZ be to am 32 fr snt = sn := by
            rw [h3]
            split
            · exact sendZ_end (by omega)
            · rfl
          exact rg_vret C hA hQ hr hlk () (by rw [e9]) rfl dX4_send_67
        · refine rg_iload C 4 dX4_send_22 rfl ?_
          refine rg_if_ne (tgt := 67) C ⟨by omega, by omega⟩ dX4_send_24 (by decide) (fun h_24 => ?_) (fun h_24 => ?_)
          · have e9 : sendZ be to am 32 fr snt = sn := by
              rw [h3]
              split
              · exact sendZ_end (by omega)
              · rfl
            exact rg_vret C hA hQ hr hlk () (by rw [e9]) rfl dX4_send_67
          · refine rg_aload_n C 0 dX4_send_27 rfl rfl ?_
            refine rg_get C fX4_22 0 rfl rfl dX4_send_28 ?_
            refine rg_iload C 5 dX4_send_31 rfl ?_
            refine rg_dup2 C dX4_send_33 rfl rfl ?_
            refine rg_lald C 4 rfl (by decide) (by omega) (by omega) dX4_send_34 ?_
            refine rg_iload_n C 3 dX4_send_35 rfl rfl ?_
            refine rg_i2l C ham dX4_send_36 ?_
            refine rg_ladd C dX4_send_37 ?_
            refine rg_last (ws' := [cO q0 4 [.ref q1, .ref q2, .ref q3, .ref q4, .int (iI out)], cZ E q1 32 th, cI E q2 32 be, cI E q3 32 inf, cJ E q4 32 (uZ sn a.toNat ((sn a.toNat) + am))]) C 4 rfl (by decide) (by omega) (by omega) dX4_send_38 rfl ?_
            have hb9 := hbe a.toNat (by omega)
            refine rg_iload C 5 dX4_send_39 rfl ?_
            refine rg_iload_n C 2 dX4_send_41 rfl rfl ?_
            refine rg_icmp_ne (tgt := 49) C ⟨by omega, by omega⟩ ht dX4_send_42 (by decide) (fun h_42 => ?_) (fun h_42 => ?_)
            · refine rg_iconst C dX4_send_49 ?_
              refine rg_istore (lv' := [(4, .int (iI 0)), (0, .ref q0), (1, .int (iI fr)), (2, .int (iI to)), (3, .int (iI am)), (5, .int (iI a)), (6, .int (iI k))]) C dX4_send_50 (by decide) rfl ?_
              refine rg_aload_n C 1 dX4_send_52 rfl rfl ?_
              refine rg_get C fX4_15 0 rfl rfl dX4_send_53 ?_
              refine rg_iload C 5 dX4_send_56 rfl ?_
              refine rg_iald C 2 rfl (by decide) (by omega) (by omega) dX4_send_58 ?_
              refine rg_istore (lv' := [(5, .int (iI (be a.toNat))), (4, .int (iI 0)), (0, .ref q0), (1, .int (iI fr)), (2, .int (iI to)), (3, .int (iI am)), (6, .int (iI k))]) C dX4_send_59 (by decide) rfl ?_
              refine rg_iinc (k := 6) (lv' := [(6, .int (iI (k + 1))), (5, .int (iI (be a.toNat))), (4, .int (iI 0)), (0, .ref q0), (1, .int (iI fr)), (2, .int (iI to)), (3, .int (iI am))]) C dX4_send_61 rfl (by decide) rfl ?_
              refine rg_goto (tgt := 9) C dX4_send_64 (by decide) ?_
              refine rG.plv [3, 4, 5, 6, 2, 1, 0] rfl ?_
              exact ih (k + 1) (be a.toNat) 0 (uZ sn a.toNat ((sn a.toNat) + am)) (by omega) hb9 (Or.inl rfl) (by rw [h3, if_pos (by omega), if_pos rfl]; exact sendZ_on h1.1 (by omega) (by omega) h_42) (by omega)
            · refine rg_iconst C dX4_send_45 ?_
              refine rg_goto (tgt := 50) C dX4_send_46 (by decide) ?_
              refine rg_istore (lv' := [(4, .int (iI 1)), (0, .ref q0), (1, .int (iI fr)), (2, .int (iI to)), (3, .int (iI am)), (5, .int (iI a)), (6, .int (iI k))]) C dX4_send_50 (by decide) rfl ?_
              refine rg_aload_n C 1 dX4_send_52 rfl rfl ?_
              refine rg_get C fX4_15 0 rfl rfl dX4_send_53 ?_
              refine rg_iload C 5 dX4_send_56 rfl ?_
              refine rg_iald C 2 rfl (by decide) (by omega) (by omega) dX4_send_58 ?_
              refine rg_istore (lv' := [(5, .int (iI (be a.toNat))), (4, .int (iI 1)), (0, .ref q0), (1, .int (iI fr)), (2, .int (iI to)), (3, .int (iI am)), (6, .int (iI k))]) C dX4_send_59 (by decide) rfl ?_
              refine rg_iinc (k := 6) (lv' := [(6, .int (iI (k + 1))), (5, .int (iI (be a.toNat))), (4, .int (iI 1)), (0, .ref q0), (1, .int (iI fr)), (2, .int (iI to)), (3, .int (iI am))]) C dX4_send_61 rfl (by decide) rfl ?_
              refine rg_goto (tgt := 9) C dX4_send_64 (by decide) ?_
              refine rG.plv [3, 4, 5, 6, 2, 1, 0] rfl ?_
              exact ih (k + 1) (be a.toNat) 1 (uZ sn a.toNat ((sn a.toNat) + am)) (by omega) hb9 (Or.inr rfl) (by rw [h3, if_pos (by omega), if_neg (by decide)]; exact sendZ_hit h1.1 (by omega) (by omega) h_42) (by omega)
  show rG p l e rX4_send s m args below meth c E A 7 0 0 Q [cO q0 4 [.ref q1, .ref q2, .ref q3, .ref q4, .int (iI out)], cZ E q1 32 th, cI E q2 32 be, cI E q3 32 inf, cJ E q4 32 snt] 0 [(0, .ref q0), (1, .int (iI fr)), (2, .int (iI to)), (3, .int (iI am))] []
  refine rg_iconst C dX4_send_0 ?_
  refine rg_istore (lv' := [(4, .int (iI 0)), (0, .ref q0), (1, .int (iI fr)), (2, .int (iI to)), (3, .int (iI am))]) C dX4_send_1 (by decide) rfl ?_
  refine rg_iload_n C 2 dX4_send_3 rfl rfl ?_
  refine rg_istore (lv' := [(5, .int (iI fr)), (4, .int (iI 0)), (0, .ref q0), (1, .int (iI fr)), (2, .int (iI to)), (3, .int (iI am))]) C dX4_send_4 (by decide) rfl ?_
  refine rg_iconst C dX4_send_6 ?_
  refine rg_istore (lv' := [(6, .int (iI 0)), (5, .int (iI fr)), (4, .int (iI 0)), (0, .ref q0), (1, .int (iI fr)), (2, .int (iI to)), (3, .int (iI am))]) C dX4_send_7 (by decide) rfl ?_
  refine rG.plv [3, 4, 5, 6, 2, 1, 0] rfl ?_
  exact L9 _ 0 fr 0 snt (by omega) (by omega) (Or.inl rfl) (by rw [if_pos rfl]; rfl) (Nat.lt_succ_self _)
abbrev rX4_allInflow : Room := { frames := 0, cells := 0, slots := 0, locals := 0 }
set_option maxHeartbeats 4000000 in
set_option maxRecDepth 100000 in
/-- River.allInflow -/
theorem kX4_allInflow (l : Launch) (E : rE) (q0 : Nat) (q1 : Nat) (q2 : Nat) (q3 : Nat) (q4 : Nat) (th : Nat → Int) (be : Nat → Int) (inf : Nat → Int) (snt : Nat → Int) (out : Int) (hin : ∀ r : Nat, r < 32 → inI (inf r)) : rM l yX4_allInflow sX4_allInflow rX4_allInflow E [cO q0 4 [.ref q1, .ref q2, .ref q3, .ref q4, .int (iI out)], cZ E q1 32 th, cI E q2 32 be, cI E q3 32 inf, cJ E q4 32 snt] [.ref q0] (some (.long (lI (sumTo inf 32)))) (fun _ : Unit => [cO q0 4 [.ref q1, .ref q2, .ref q3, .ref q4, .int (iI out)], cZ E q1 32 th, cI E q2 32 be, cI E q3 32 inf, cJ E q4 32 snt]) := by
  refine rM.of (cc := cX4_allInflow) (maxL := 4) (ret := (some FieldType.long)) (by decide) rfl (Nat.le_of_ble_eq_true rfl) (fun w h => List.mem_cons_of_mem _ h) ?_
  intro p e s m args below meth c A Q hA hQ C hr hlk hnm
  have C : rC p s m args c E A 4 cX4_allInflow sX4_allInflow RX4 := C
  have L4 : ∀ (n : Nat) (k : Int) (ac : Int), (0 ≤ k ∧ k ≤ 32) → (ac = sumTo inf k.toNat) → ((32 - k).toNat < n) → rG p l e rX4_allInflow s m args below meth c E A 4 0 0 Q [cO q0 4 [.ref q1, .ref q2, .ref q3, .ref q4, .int (iI out)], cZ E q1 32 th, cI E q2 32 be, cI E q3 32 inf, cJ E q4 32 snt] 4 [(0, .ref q0), (1, .long (lI ac)), (3, .int (iI k))] [] := by
    intro n
    induction n with
    | zero => intro k ac h1 h3 hm; exact absurd hm (Nat.not_lt_zero _)
    | succ n ih =>
      intro k ac h1 h3 hm
      refine rg_iload_n C 2 dX4_allInflow_4 rfl rfl ?_
      refine rg_bipush (z := 32) C dX4_allInflow_5 (by decide) ?_
      refine rg_icmp_ge (tgt := 26) C ⟨by omega, by omega⟩ ⟨by decide, by decide⟩ dX4_allInflow_7 (by decide) (fun h_7 => ?_) (fun h_7 => ?_)
      · refine rg_lload_n C 1 dX4_allInflow_26 rfl rfl ?_
        exact rg_lret C hA hQ hr hlk () rfl (by rw [h3, show k.toNat = 32 by omega]) dX4_allInflow_27
      · refine rg_lload_n C 1 dX4_allInflow_10 rfl rfl ?_
        refine rg_aload_n C 0 dX4_allInflow_11 rfl rfl ?_
        refine rg_get C fX4_19 0 rfl rfl dX4_allInflow_12 ?_
        refine rg_iload_n C 2 dX4_allInflow_15 rfl rfl ?_
        refine rg_iald C 3 rfl (by decide) (by omega) (by omega) dX4_allInflow_16 ?_
        refine rg_i2l C (hin k.toNat (by omega)) dX4_allInflow_17 ?_
        refine rg_ladd C dX4_allInflow_18 ?_
        refine rg_lstore_n (lv' := [(1, .long (lI (ac + (inf k.toNat)))), (0, .ref q0), (3, .int (iI k))]) C dX4_allInflow_19 rfl (by decide) rfl ?_
        refine rg_iinc (k := 2) (lv' := [(3, .int (iI (k + 1))), (1, .long (lI (ac + (inf k.toNat)))), (0, .ref q0)]) C dX4_allInflow_20 rfl (by decide) rfl ?_
        refine rg_goto (tgt := 4) C dX4_allInflow_23 (by decide) ?_
        refine rG.plv [2, 1, 0] rfl ?_
        exact ih (k + 1) (ac + (inf k.toNat)) (by omega) (by rw [sumTo_s inf h1.1, h3]) (by omega)
  show rG p l e rX4_allInflow s m args below meth c E A 4 0 0 Q [cO q0 4 [.ref q1, .ref q2, .ref q3, .ref q4, .int (iI out)], cZ E q1 32 th, cI E q2 32 be, cI E q3 32 inf, cJ E q4 32 snt] 0 [(0, .ref q0)] []
  refine rg_lconst (z := 0) C dX4_allInflow_0 (by decide) ?_
  refine rg_lstore_n (lv' := [(1, .long (lI 0)), (0, .ref q0)]) C dX4_allInflow_1 rfl (by decide) rfl ?_
  refine rg_iconst C dX4_allInflow_2 ?_
  refine rg_istore_n (lv' := [(3, .int (iI 0)), (1, .long (lI 0)), (0, .ref q0)]) C dX4_allInflow_3 rfl (by decide) rfl ?_
  refine rG.plv [2, 1, 0] rfl ?_
  exact L4 _ 0 0 (by omega) rfl (Nat.lt_succ_self _)
