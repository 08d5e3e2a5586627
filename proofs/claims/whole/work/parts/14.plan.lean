abbrev rX1_pour : Room := { frames := 0, cells := 0, slots := 0, locals := 0 }
set_option maxHeartbeats 4000000 in
set_option maxRecDepth 100000 in
/-- Plan.pour -/
theorem kX1_pour (l : Launch) (E : rE) (p0 : Nat) (p1 : Nat) (p2 : Nat) (p3 : Nat) (get : Nat → Int) (flo : Nat → Int) (roo : Nat → Int) (v0 : Nat) (v1 : Nat) (v2 : Nat) (v3 : Nat) (v4 : Nat) (th : Nat → Int) (be : Nat → Int) (inf : Nat → Int) (snt : Nat → Int) (out : Int) (r : Int) (hbe : ∀ r : Nat, r < 32 → -1 ≤ be r ∧ be r < 32) (hr0 : 0 ≤ r ∧ r < 32) (hin : inI (inf r.toNat)) : rM l yX1_pour sX1_pour rX1_pour E [cO p0 1 [.ref p1, .ref p2, .ref p3], cI E p1 40 get, cJ E p2 32 flo, cI E p3 8 roo, cO v0 4 [.ref v1, .ref v2, .ref v3, .ref v4, .int (iI out)], cZ E v1 32 th, cI E v2 32 be, cI E v3 32 inf, cJ E v4 32 snt] [.ref p0, .ref v0, .int (iI r)] none (fun _ : Unit => [cO p0 1 [.ref p1, .ref p2, .ref p3], cI E p1 40 get, cJ E p2 32 (pourZ be (inf r.toNat) 32 r flo), cI E p3 8 roo, cO v0 4 [.ref v1, .ref v2, .ref v3, .ref v4, .int (iI out)], cZ E v1 32 th, cI E v2 32 be, cI E v3 32 inf, cJ E v4 32 snt]) := by
  refine rM.of (cc := cX1_pour) (maxL := 5) (ret := none) (by decide) rfl (Nat.le_of_ble_eq_true rfl) (fun w h => List.mem_cons_of_mem _ h) ?_
  intro p e s m args below meth c A Q hA hQ C hr hlk hnm
  have C : rC p s m args c E A 5 cX1_pour sX1_pour RX1 := C
  have L5 : ∀ (n : Nat) (k : Int) (a : Int) (f : Nat → Int), (0 ≤ k ∧ k ≤ 32) → (-1 ≤ a ∧ a < 32) → (pourZ be (inf r.toNat) 32 r flo = pourZ be (inf r.toNat) (32 - k).toNat a f) → ((32 - k).toNat < n) → rG p l e rX1_pour s m args below meth c E A 5 0 0 Q [cO p0 1 [.ref p1, .ref p2, .ref p3], cI E p1 40 get, cJ E p2 32 f, cI E p3 8 roo, cO v0 4 [.ref v1, .ref v2, .ref v3, .ref v4, .int (iI out)], cZ E v1 32 th, cI E v2 32 be, cI E v3 32 inf, cJ E v4 32 snt] 5 [(0, .ref p0), (1, .ref v0), (2, .int (iI r)), (3, .int (iI a)), (4, .int (iI k))] [] := by
    intro n
    induction n with
    | zero => intro k a f h1 h2 h3 hm; exact absurd hm (Nat.not_lt_zero _)
    | succ n ih =>
      intro k a f h1 h2 h3 hm
      refine rg_iload C 4 dX1_pour_5 rfl ?_
      refine rg_bipush (z := 32) C dX1_pour_7 (by decide) ?_
      refine rg_icmp_ge (tgt := 46) C ⟨by omega, by omega⟩ ⟨by decide, by decide⟩ dX1_pour_9 (by decide) (fun h_9 => ?_) (fun h_9 => ?_)
      · have e9 := h3.trans (pourZ_end (by omega))
        exact rg_vret C hA hQ hr hlk () (by rw [e9]) rfl dX1_pour_46
      · refine rg_iload_n C 3 dX1_pour_12 rfl rfl ?_
        refine rg_iconst C dX1_pour_13 ?_
        refine rg_icmp_eq (tgt := 46) C ⟨by omega, by omega⟩ ⟨by decide, by decide⟩ dX1_pour_14 (by decide) (fun h_14 => ?_) (fun h_14 => ?_)
        · have e9 := h3.trans (pourZ_end (by omega))
          exact rg_vret C hA hQ hr hlk () (by rw [e9]) rfl dX1_pour_46
        · refine rg_aload_n C 0 dX1_pour_17 rfl rfl ?_
          refine rg_get C fX1_15 0 rfl rfl dX1_pour_18 ?_
          refine rg_iload_n C 3 dX1_pour_21 rfl rfl ?_
          refine rg_dup2 C dX1_pour_22 rfl rfl ?_
          refine rg_lald C 2 rfl (by decide) (by omega) (by omega) dX1_pour_23 ?_
          refine rg_aload_n C 1 dX1_pour_24 rfl rfl ?_
          refine rg_get C fX1_31 4 rfl rfl dX1_pour_25 ?_
          refine rg_iload_n C 2 dX1_pour_28 rfl rfl ?_
          refine rg_iald C 7 rfl (by decide) (by omega) (by omega) dX1_pour_29 ?_
          refine rg_i2l C hin dX1_pour_30 ?_
          refine rg_ladd C dX1_pour_31 ?_
          refine rg_last (ws' := [cO p0 1 [.ref p1, .ref p2, .ref p3], cI E p1 40 get, cJ E p2 32 (uZ f a.toNat ((f a.toNat) + (inf r.toNat))), cI E p3 8 roo, cO v0 4 [.ref v1, .ref v2, .ref v3, .ref v4, .int (iI out)], cZ E v1 32 th, cI E v2 32 be, cI E v3 32 inf, cJ E v4 32 snt]) C 2 rfl (by decide) (by omega) (by omega) dX1_pour_32 rfl ?_
          have hb9 := hbe a.toNat (by omega)
          refine rg_aload_n C 1 dX1_pour_33 rfl rfl ?_
          refine rg_get C fX1_48 4 rfl rfl dX1_pour_34 ?_
          refine rg_iload_n C 3 dX1_pour_37 rfl rfl ?_
          refine rg_iald C 6 rfl (by decide) (by omega) (by omega) dX1_pour_38 ?_
          refine rg_istore_n (lv' := [(3, .int (iI (be a.toNat))), (0, .ref p0), (1, .ref v0), (2, .int (iI r)), (4, .int (iI k))]) C dX1_pour_39 rfl (by decide) rfl ?_
          refine rg_iinc (k := 4) (lv' := [(4, .int (iI (k + 1))), (3, .int (iI (be a.toNat))), (0, .ref p0), (1, .ref v0), (2, .int (iI r))]) C dX1_pour_40 rfl (by decide) rfl ?_
          refine rg_goto (tgt := 5) C dX1_pour_43 (by decide) ?_
          refine rG.plv [2, 3, 4, 1, 0] rfl ?_
          exact ih (k + 1) (be a.toNat) (uZ f a.toNat ((f a.toNat) + (inf r.toNat))) (by omega) hb9 (h3.trans (pourZ_on h1.1 (by omega) (by omega))) (by omega)
  show rG p l e rX1_pour s m args below meth c E A 5 0 0 Q [cO p0 1 [.ref p1, .ref p2, .ref p3], cI E p1 40 get, cJ E p2 32 flo, cI E p3 8 roo, cO v0 4 [.ref v1, .ref v2, .ref v3, .ref v4, .int (iI out)], cZ E v1 32 th, cI E v2 32 be, cI E v3 32 inf, cJ E v4 32 snt] 0 [(0, .ref p0), (1, .ref v0), (2, .int (iI r))] []
  refine rg_iload_n C 2 dX1_pour_0 rfl rfl ?_
  refine rg_istore_n (lv' := [(3, .int (iI r)), (0, .ref p0), (1, .ref v0), (2, .int (iI r))]) C dX1_pour_1 rfl (by decide) rfl ?_
  refine rg_iconst C dX1_pour_2 ?_
  refine rg_istore (lv' := [(4, .int (iI 0)), (3, .int (iI r)), (0, .ref p0), (1, .ref v0), (2, .int (iI r))]) C dX1_pour_3 (by decide) rfl ?_
  refine rG.plv [2, 3, 4, 1, 0] rfl ?_
  exact L5 _ 0 r flo (by omega) (by omega) rfl (Nat.lt_succ_self _)
abbrev rX1_begin : Room := { frames := 1, cells := 0, slots := 0, locals := 24 }
set_option maxHeartbeats 4000000 in
set_option maxRecDepth 100000 in
/-- Plan.begin -/
theorem kX1_begin (l : Launch) (E : rE) (p0 : Nat) (p1 : Nat) (p2 : Nat) (p3 : Nat) (get : Nat → Int) (flo : Nat → Int) (roo : Nat → Int) (v0 : Nat) (v1 : Nat) (v2 : Nat) (v3 : Nat) (v4 : Nat) (th : Nat → Int) (be : Nat → Int) (inf : Nat → Int) (snt : Nat → Int) (out : Int) (w0 : Nat) (w1 : Nat) (w2 : Nat) (w3 : Nat) (w4 : Nat) (sth : Nat → Int) (srch : Nat → Int) (cap : Nat → Int) (wat : Nat → Int) (rel : Int) (hbe : ∀ r : Nat, r < 32 → -1 ≤ be r ∧ be r < 32) (hin : ∀ r : Nat, r < 32 → inI (inf r)) : rM l yX1_begin sX1_begin rX1_begin E [cO p0 1 [.ref p1, .ref p2, .ref p3], cI E p1 40 get, cJ E p2 32 flo, cI E p3 8 roo, cO v0 4 [.ref v1, .ref v2, .ref v3, .ref v4, .int (iI out)], cZ E v1 32 th, cI E v2 32 be, cI E v3 32 inf, cJ E v4 32 snt, cO w0 2 [.ref w1, .ref w2, .ref w3, .ref w4, .long (lI rel)], cZ E w1 8 sth, cI E w2 8 srch, cI E w3 8 cap, cI E w4 8 wat] [.ref p0, .ref v0, .ref w0] none (fun _ : Unit => [cO p0 1 [.ref p1, .ref p2, .ref p3], cI E p1 40 (filZ get 0 40), cJ E p2 32 (begF be inf (filZ flo 0 32) 32), cI E p3 8 (begR cap wat roo 8), cO v0 4 [.ref v1, .ref v2, .ref v3, .ref v4, .int (iI out)], cZ E v1 32 th, cI E v2 32 be, cI E v3 32 inf, cJ E v4 32 snt, cO w0 2 [.ref w1, .ref w2, .ref w3, .ref w4, .long (lI rel)], cZ E w1 8 sth, cI E w2 8 srch, cI E w3 8 cap, cI E w4 8 wat]) := by
  refine rM.of (cc := cX1_begin) (maxL := 4) (ret := none) (by decide) rfl (Nat.le_of_ble_eq_true rfl) (fun w h => List.mem_cons_of_mem _ h) ?_
  intro p e s m args below meth c A Q hA hQ C hr hlk hnm
  have C : rC p s m args c E A 4 cX1_begin sX1_begin RX1 := C
  have L47 : ∀ (n : Nat) (k : Int) (f : Nat → Int), (0 ≤ k ∧ k ≤ 8) → (f = begR cap wat roo k.toNat) → ((8 - k).toNat < n) → rG p l e rX1_begin s m args below meth c E A 4 0 0 Q [cO p0 1 [.ref p1, .ref p2, .ref p3], cI E p1 40 (filZ get 0 40), cJ E p2 32 (begF be inf (filZ flo 0 32) 32), cI E p3 8 f, cO v0 4 [.ref v1, .ref v2, .ref v3, .ref v4, .int (iI out)], cZ E v1 32 th, cI E v2 32 be, cI E v3 32 inf, cJ E v4 32 snt, cO w0 2 [.ref w1, .ref w2, .ref w3, .ref w4, .long (lI rel)], cZ E w1 8 sth, cI E w2 8 srch, cI E w3 8 cap, cI E w4 8 wat] 47 [(0, .ref p0), (1, .ref v0), (2, .ref w0), (3, .int (iI k))] [] := by
    intro n
    induction n with
    | zero => intro k f h1 h3 hm; exact absurd hm (Nat.not_lt_zero _)
    | succ n ih =>
      intro k f h1 h3 hm
      refine rg_iload_n C 3 dX1_begin_47 rfl rfl ?_
      refine rg_bipush (z := 8) C dX1_begin_48 (by decide) ?_
      refine rg_icmp_ge (tgt := 78) C ⟨by omega, by omega⟩ ⟨by decide, by decide⟩ dX1_begin_50 (by decide) (fun h_50 => ?_) (fun h_50 => ?_)
      · exact rg_vret C hA hQ hr hlk () (by rw [h3, show k.toNat = 8 by omega]) rfl dX1_begin_78
      · refine rg_aload_n C 0 dX1_begin_53 rfl rfl ?_
        refine rg_get C fX1_19 0 rfl rfl dX1_begin_54 ?_
        refine rg_iload_n C 3 dX1_begin_57 rfl rfl ?_
        refine rg_aload_n C 2 dX1_begin_58 rfl rfl ?_
        refine rg_get C fX1_40 9 rfl rfl dX1_begin_59 ?_
        refine rg_iload_n C 3 dX1_begin_62 rfl rfl ?_
        refine rg_iald C 12 rfl (by decide) (by omega) (by omega) dX1_begin_63 ?_
        refine rg_aload_n C 2 dX1_begin_64 rfl rfl ?_
        refine rg_get C fX1_45 9 rfl rfl dX1_begin_65 ?_
        refine rg_iload_n C 3 dX1_begin_68 rfl rfl ?_
        refine rg_iald C 13 rfl (by decide) (by omega) (by omega) dX1_begin_69 ?_
        refine rg_isub C dX1_begin_70 ?_
        refine rg_iast (ws' := [cO p0 1 [.ref p1, .ref p2, .ref p3], cI E p1 40 (filZ get 0 40), cJ E p2 32 (begF be inf (filZ flo 0 32) 32), cI E p3 8 (uZ f k.toNat ((cap k.toNat) - (wat k.toNat))), cO v0 4 [.ref v1, .ref v2, .ref v3, .ref v4, .int (iI out)], cZ E v1 32 th, cI E v2 32 be, cI E v3 32 inf, cJ E v4 32 snt, cO w0 2 [.ref w1, .ref w2, .ref w3, .ref w4, .long (lI rel)], cZ E w1 8 sth, cI E w2 8 srch, cI E w3 8 cap, cI E w4 8 wat]) C 3 rfl (by decide) (by omega) (by omega) dX1_begin_71 rfl ?_
        refine rg_iinc (k := 3) (lv' := [(3, .int (iI (k + 1))), (0, .ref p0), (1, .ref v0), (2, .ref w0)]) C dX1_begin_72 rfl (by decide) rfl ?_
        refine rg_goto (tgt := 47) C dX1_begin_75 (by decide) ?_
        refine rG.plv [1, 2, 3, 0] rfl ?_
        exact ih (k + 1) (uZ f k.toNat ((cap k.toNat) - (wat k.toNat))) (by omega) (by rw [h3]; exact begR_s cap wat roo h1.1) (by omega)
  have L18 : ∀ (n : Nat) (k : Int) (f : Nat → Int), (0 ≤ k ∧ k ≤ 32) → (f = begF be inf (filZ flo 0 32) k.toNat) → ((32 - k).toNat < n) → rG p l e rX1_begin s m args below meth c E A 4 0 0 Q [cO p0 1 [.ref p1, .ref p2, .ref p3], cI E p1 40 (filZ get 0 40), cJ E p2 32 f, cI E p3 8 roo, cO v0 4 [.ref v1, .ref v2, .ref v3, .ref v4, .int (iI out)], cZ E v1 32 th, cI E v2 32 be, cI E v3 32 inf, cJ E v4 32 snt, cO w0 2 [.ref w1, .ref w2, .ref w3, .ref w4, .long (lI rel)], cZ E w1 8 sth, cI E w2 8 srch, cI E w3 8 cap, cI E w4 8 wat] 18 [(0, .ref p0), (1, .ref v0), (2, .ref w0), (3, .int (iI k))] [] := by
    intro n
    induction n with
    | zero => intro k f h1 h3 hm; exact absurd hm (Nat.not_lt_zero _)
    | succ n ih =>
      intro k f h1 h3 hm
      refine rg_iload_n C 3 dX1_begin_18 rfl rfl ?_
      refine rg_bipush (z := 32) C dX1_begin_19 (by decide) ?_
      refine rg_icmp_ge (tgt := 45) C ⟨by omega, by omega⟩ ⟨by decide, by decide⟩ dX1_begin_21 (by decide) (fun h_21 => ?_) (fun h_21 => ?_)
      · have e9 : f = begF be inf (filZ flo 0 32) 32 := by rw [h3, show k.toNat = 32 by omega]
        subst e9
        refine rg_iconst C dX1_begin_45 ?_
        refine rg_istore_n (lv' := [(3, .int (iI 0)), (0, .ref p0), (1, .ref v0), (2, .ref w0)]) C dX1_begin_46 rfl (by decide) rfl ?_
        refine rG.plv [1, 2, 3, 0] rfl ?_
        exact L47 _ 0 roo (by omega) rfl (Nat.lt_succ_self _)
      · have hi9 := hin k.toNat (by omega)
        refine rg_aload_n C 1 dX1_begin_24 rfl rfl ?_
        refine rg_get C fX1_31 4 rfl rfl dX1_begin_25 ?_
        refine rg_iload_n C 3 dX1_begin_28 rfl rfl ?_
        refine rg_iald C 7 rfl (by decide) (by omega) (by omega) dX1_begin_29 ?_
        refine rg_if_le (tgt := 39) C hi9 dX1_begin_30 (by decide) (fun h_30 => ?_) (fun h_30 => ?_)
        · refine rg_iinc (k := 3) (lv' := [(3, .int (iI (k + 1))), (0, .ref p0), (1, .ref v0), (2, .ref w0)]) C dX1_begin_39 rfl (by decide) rfl ?_
          refine rg_goto (tgt := 18) C dX1_begin_42 (by decide) ?_
          refine rG.plv [1, 2, 3, 0] rfl ?_
          exact ih (k + 1) f (by omega) (h3.trans (begF_no h1.1 h_30).symm) (by omega)
        · refine rg_aload_n C 0 dX1_begin_33 rfl rfl ?_
          refine rg_aload_n C 1 dX1_begin_34 rfl rfl ?_
          refine rg_iload_n C 3 dX1_begin_35 rfl rfl ?_
          refine rg_callV (As := [.ref v0, .int (iI k)]) (rest := []) (wr := [cO w0 2 [.ref w1, .ref w2, .ref w3, .ref w4, .long (lI rel)], cZ E w1 8 sth, cI E w2 8 srch, cI E w3 8 cap, cI E w4 8 wat]) (w' := fun _ => [cO p0 1 [.ref p1, .ref p2, .ref p3], cI E p1 40 (filZ get 0 40), cJ E p2 32 (pourZ be (inf k.toNat) 32 k f), cI E p3 8 roo, cO v0 4 [.ref v1, .ref v2, .ref v3, .ref v4, .int (iI out)], cZ E v1 32 th, cI E v2 32 be, cI E v3 32 inf, cJ E v4 32 snt, cO w0 2 [.ref w1, .ref w2, .ref w3, .ref w4, .long (lI rel)], cZ E w1 8 sth, cI E w2 8 srch, cI E w3 8 cap, cI E w4 8 wat]) C (kX1_pour l E p0 p1 p2 p3 (filZ get 0 40) f roo v0 v1 v2 v3 v4 th be inf snt out k (by first | assumption | omega) (by first | assumption | omega) (by first | assumption | omega)) (rcwV C mX1_pour w_237 ⟨Nat.le_of_ble_eq_true rfl, Nat.le_of_ble_eq_true rfl⟩) [0, 1, 2, 3, 4, 5, 6, 7, 8] [9, 10, 11, 12, 13] [5, 6, 7, 8, 9, 10, 11, 12, 13, 0, 1, 2, 3, 4] rfl rfl (by decide) (by decide) (by decide) (fun _ => rfl) (by decide) 0 rfl rfl rfl rfl (Nat.le_of_ble_eq_true rfl) dX1_begin_36 ⟨Nat.le_of_ble_eq_true rfl, Nat.le_of_ble_eq_true rfl⟩ (fun _ => ?_)
          show rG p l e rX1_begin s m args below meth c E A 4 0 0 Q [cO p0 1 [.ref p1, .ref p2, .ref p3], cI E p1 40 (filZ get 0 40), cJ E p2 32 (pourZ be (inf k.toNat) 32 k f), cI E p3 8 roo, cO v0 4 [.ref v1, .ref v2, .ref v3, .ref v4, .int (iI out)], cZ E v1 32 th, cI E v2 32 be, cI E v3 32 inf, cJ E v4 32 snt, cO w0 2 [.ref w1, .ref w2, .ref w3, .ref w4, .long (lI rel)], cZ E w1 8 sth, cI E w2 8 srch, cI E w3 8 cap, cI E w4 8 wat] 39 [(0, .ref p0), (1, .ref v0), (2, .ref w0), (3, .int (iI k))] []
          refine rg_iinc (k := 3) (lv' := [(3, .int (iI (k + 1))), (0, .ref p0), (1, .ref v0), (2, .ref w0)]) C dX1_begin_39 rfl (by decide) rfl ?_
          refine rg_goto (tgt := 18) C dX1_begin_42 (by decide) ?_
          refine rG.plv [1, 2, 3, 0] rfl ?_
          exact ih (k + 1) (pourZ be (inf k.toNat) 32 k f) (by omega) (by rw [begF_yes h1.1 h_30, ← h3]) (by omega)
  show rG p l e rX1_begin s m args below meth c E A 4 0 0 Q [cO p0 1 [.ref p1, .ref p2, .ref p3], cI E p1 40 get, cJ E p2 32 flo, cI E p3 8 roo, cO v0 4 [.ref v1, .ref v2, .ref v3, .ref v4, .int (iI out)], cZ E v1 32 th, cI E v2 32 be, cI E v3 32 inf, cJ E v4 32 snt, cO w0 2 [.ref w1, .ref w2, .ref w3, .ref w4, .long (lI rel)], cZ E w1 8 sth, cI E w2 8 srch, cI E w3 8 cap, cI E w4 8 wat] 0 [(0, .ref p0), (1, .ref v0), (2, .ref w0)] []
  refine rg_aload_n C 0 dX1_begin_0 rfl rfl ?_
  refine rg_get C fX1_9 0 rfl rfl dX1_begin_1 ?_
  refine rg_iconst C dX1_begin_4 ?_
  refine rg_callS (As := [.ref p1, .int (iI 0)]) (rest := []) (wr := [cO p0 1 [.ref p1, .ref p2, .ref p3], cJ E p2 32 flo, cI E p3 8 roo, cO v0 4 [.ref v1, .ref v2, .ref v3, .ref v4, .int (iI out)], cZ E v1 32 th, cI E v2 32 be, cI E v3 32 inf, cJ E v4 32 snt, cO w0 2 [.ref w1, .ref w2, .ref w3, .ref w4, .long (lI rel)], cZ E w1 8 sth, cI E w2 8 srch, cI E w3 8 cap, cI E w4 8 wat]) (w' := fun _ => [cO p0 1 [.ref p1, .ref p2, .ref p3], cI E p1 40 (filZ get 0 40), cJ E p2 32 flo, cI E p3 8 roo, cO v0 4 [.ref v1, .ref v2, .ref v3, .ref v4, .int (iI out)], cZ E v1 32 th, cI E v2 32 be, cI E v3 32 inf, cJ E v4 32 snt, cO w0 2 [.ref w1, .ref w2, .ref w3, .ref w4, .long (lI rel)], cZ E w1 8 sth, cI E w2 8 srch, cI E w3 8 cap, cI E w4 8 wat]) C (kJA_fillI40 l E p1 get 0) (rcwS C mJA_fillI w_231 ⟨Nat.le_of_ble_eq_true rfl, Nat.le_of_ble_eq_true rfl⟩) [1] [0, 2, 3, 4, 5, 6, 7, 8, 9, 10, 11, 12, 13] [0, 13, 1, 2, 3, 4, 5, 6, 7, 8, 9, 10, 11, 12] rfl rfl (by decide) (by decide) (by decide) (fun _ => rfl) (by decide) rfl rfl (Nat.le_of_ble_eq_true rfl) dX1_begin_5 ⟨Nat.le_of_ble_eq_true rfl, Nat.le_of_ble_eq_true rfl⟩ (fun _ => ?_)
  show rG p l e rX1_begin s m args below meth c E A 4 0 0 Q [cO p0 1 [.ref p1, .ref p2, .ref p3], cI E p1 40 (filZ get 0 40), cJ E p2 32 flo, cI E p3 8 roo, cO v0 4 [.ref v1, .ref v2, .ref v3, .ref v4, .int (iI out)], cZ E v1 32 th, cI E v2 32 be, cI E v3 32 inf, cJ E v4 32 snt, cO w0 2 [.ref w1, .ref w2, .ref w3, .ref w4, .long (lI rel)], cZ E w1 8 sth, cI E w2 8 srch, cI E w3 8 cap, cI E w4 8 wat] 8 [(0, .ref p0), (1, .ref v0), (2, .ref w0)] []
  refine rg_aload_n C 0 dX1_begin_8 rfl rfl ?_
  refine rg_get C fX1_15 0 rfl rfl dX1_begin_9 ?_
  refine rg_lconst (z := 0) C dX1_begin_12 (by decide) ?_
  refine rg_callS (As := [.ref p2, .long (lI 0)]) (rest := []) (wr := [cO p0 1 [.ref p1, .ref p2, .ref p3], cI E p1 40 (filZ get 0 40), cI E p3 8 roo, cO v0 4 [.ref v1, .ref v2, .ref v3, .ref v4, .int (iI out)], cZ E v1 32 th, cI E v2 32 be, cI E v3 32 inf, cJ E v4 32 snt, cO w0 2 [.ref w1, .ref w2, .ref w3, .ref w4, .long (lI rel)], cZ E w1 8 sth, cI E w2 8 srch, cI E w3 8 cap, cI E w4 8 wat]) (w' := fun _ => [cO p0 1 [.ref p1, .ref p2, .ref p3], cI E p1 40 (filZ get 0 40), cJ E p2 32 (filZ flo 0 32), cI E p3 8 roo, cO v0 4 [.ref v1, .ref v2, .ref v3, .ref v4, .int (iI out)], cZ E v1 32 th, cI E v2 32 be, cI E v3 32 inf, cJ E v4 32 snt, cO w0 2 [.ref w1, .ref w2, .ref w3, .ref w4, .long (lI rel)], cZ E w1 8 sth, cI E w2 8 srch, cI E w3 8 cap, cI E w4 8 wat]) C (kJA_fillJ32 l E p2 flo 0) (rcwS C mJA_fillJ w_234 ⟨Nat.le_of_ble_eq_true rfl, Nat.le_of_ble_eq_true rfl⟩) [2] [0, 1, 3, 4, 5, 6, 7, 8, 9, 10, 11, 12, 13] [0, 1, 13, 2, 3, 4, 5, 6, 7, 8, 9, 10, 11, 12] rfl rfl (by decide) (by decide) (by decide) (fun _ => rfl) (by decide) rfl rfl (Nat.le_of_ble_eq_true rfl) dX1_begin_13 ⟨Nat.le_of_ble_eq_true rfl, Nat.le_of_ble_eq_true rfl⟩ (fun _ => ?_)
  show rG p l e rX1_begin s m args below meth c E A 4 0 0 Q [cO p0 1 [.ref p1, .ref p2, .ref p3], cI E p1 40 (filZ get 0 40), cJ E p2 32 (filZ flo 0 32), cI E p3 8 roo, cO v0 4 [.ref v1, .ref v2, .ref v3, .ref v4, .int (iI out)], cZ E v1 32 th, cI E v2 32 be, cI E v3 32 inf, cJ E v4 32 snt, cO w0 2 [.ref w1, .ref w2, .ref w3, .ref w4, .long (lI rel)], cZ E w1 8 sth, cI E w2 8 srch, cI E w3 8 cap, cI E w4 8 wat] 16 [(0, .ref p0), (1, .ref v0), (2, .ref w0)] []
  refine rg_iconst C dX1_begin_16 ?_
  refine rg_istore_n (lv' := [(3, .int (iI 0)), (0, .ref p0), (1, .ref v0), (2, .ref w0)]) C dX1_begin_17 rfl (by decide) rfl ?_
  refine rG.plv [1, 2, 3, 0] rfl ?_
  exact L18 _ 0 (filZ flo 0 32) (by omega) rfl (Nat.lt_succ_self _)
abbrev rX1_most : Room := { frames := 1, cells := 0, slots := 0, locals := 24 }
set_option maxHeartbeats 4000000 in
set_option maxRecDepth 100000 in
/-- Plan.most -/
theorem kX1_most (l : Launch) (E : rE) (p0 : Nat) (p1 : Nat) (p2 : Nat) (p3 : Nat) (get : Nat → Int) (flo : Nat → Int) (roo : Nat → Int) (v0 : Nat) (v1 : Nat) (v2 : Nat) (v3 : Nat) (v4 : Nat) (th : Nat → Int) (be : Nat → Int) (inf : Nat → Int) (snt : Nat → Int) (out : Int) (g0 : Nat) (g1 : Nat) (g2 : Nat) (g3 : Nat) (g4 : Nat) (g5 : Nat) (g6 : Nat) (g7 : Nat) (g8 : Nat) (g9 : Nat) (g : Nat → Int) (pl : Nat → Int) (pr : Nat → Int) (ra : Nat → Int) (wn : Nat → Int) (sh : Nat → Int) (rt : Nat → Int) (st : Nat → Int) (ag : Nat → Int) (cn : Int) (r : Int) (hbe : ∀ r : Nat, r < 32 → -1 ≤ be r ∧ be r < 32) (hst : ∀ i : Nat, i < 40 → -1 ≤ st i ∧ st i < 8) (hflo : ∀ q : Nat, q < 32 → 0 ≤ flo q ∧ flo q ≤ 1000000000000) (hroo : ∀ q : Nat, q < 8 → 0 ≤ roo q ∧ roo q ≤ 1000000000) (hri : 0 ≤ r ∧ r < 40) (hwn : 0 ≤ wn r.toNat ∧ wn r.toNat ≤ 1000000000) (hpl : -1 ≤ pl r.toNat ∧ pl r.toNat < 32) (hrt : -1 ≤ rt r.toNat ∧ rt r.toNat < 32) (hsh : 0 ≤ rt r.toNat → 0 ≤ sh r.toNat ∧ sh r.toNat ≤ 1000) : rM l yX1_most sX1_most rX1_most E [cO p0 1 [.ref p1, .ref p2, .ref p3], cI E p1 40 get, cJ E p2 32 flo, cI E p3 8 roo, cO v0 4 [.ref v1, .ref v2, .ref v3, .ref v4, .int (iI out)], cZ E v1 32 th, cI E v2 32 be, cI E v3 32 inf, cJ E v4 32 snt, cO g0 3 [.ref g1, .ref g2, .ref g3, .ref g4, .ref g5, .ref g6, .ref g7, .ref g8, .ref g9, .int (iI cn)], cZ E g1 40 g, cI E g2 40 pl, cI E g3 40 pr, cI E g4 40 ra, cI E g5 40 wn, cI E g6 40 sh, cI E g7 40 rt, cI E g8 40 st, cI E g9 40 ag] [.ref p0, .ref v0, .ref g0, .int (iI r)] (some (.int (iI (mosW be (sh r.toNat) (rt r.toNat) flo 32 (pl r.toNat) false (if st r.toNat ≠ -1 then min (wn r.toNat) (roo (st r.toNat).toNat) else wn r.toNat))))) (fun _ : Unit => [cO p0 1 [.ref p1, .ref p2, .ref p3], cI E p1 40 get, cJ E p2 32 flo, cI E p3 8 roo, cO v0 4 [.ref v1, .ref v2, .ref v3, .ref v4, .int (iI out)], cZ E v1 32 th, cI E v2 32 be, cI E v3 32 inf, cJ E v4 32 snt, cO g0 3 [.ref g1, .ref g2, .ref g3, .ref g4, .ref g5, .ref g6, .ref g7, .ref g8, .ref g9, .int (iI cn)], cZ E g1 40 g, cI E g2 40 pl, cI E g3 40 pr, cI E g4 40 ra, cI E g5 40 wn, cI E g6 40 sh, cI E g7 40 rt, cI E g8 40 st, cI E g9 40 ag]) := by
  refine rM.of (cc := cX1_most) (maxL := 9) (ret := (some FieldType.int)) (by decide) rfl (Nat.le_of_ble_eq_true rfl) (fun w h => List.mem_cons_of_mem _ h) ?_
  intro p e s m args below meth c A Q hA hQ C hr hlk hnm
  have C : rC p s m args c E A 9 cX1_most sX1_most RX1 := C
  obtain ⟨M0, hM0⟩ : ∃ z, z = mosW be (sh r.toNat) (rt r.toNat) flo 32 (pl r.toNat) false (if st r.toNat ≠ -1 then min (wn r.toNat) (roo (st r.toNat).toNat) else wn r.toNat) := ⟨_, rfl⟩
  have L50 : ∀ (n : Nat) (k : Int) (a : Int) (cb : Bool) (mm : Int), (0 ≤ k ∧ k ≤ 32) → (-1 ≤ a ∧ a < 32) → (cb = true → 0 ≤ rt r.toNat) → (0 ≤ mm ∧ mm ≤ 1000000000) → (M0 = mosW be (sh r.toNat) (rt r.toNat) flo (32 - k).toNat a cb mm) → ((32 - k).toNat < n) → rG p l e rX1_most s m args below meth c E A 9 0 0 Q [cO p0 1 [.ref p1, .ref p2, .ref p3], cI E p1 40 get, cJ E p2 32 flo, cI E p3 8 roo, cO v0 4 [.ref v1, .ref v2, .ref v3, .ref v4, .int (iI out)], cZ E v1 32 th, cI E v2 32 be, cI E v3 32 inf, cJ E v4 32 snt, cO g0 3 [.ref g1, .ref g2, .ref g3, .ref g4, .ref g5, .ref g6, .ref g7, .ref g8, .ref g9, .int (iI cn)], cZ E g1 40 g, cI E g2 40 pl, cI E g3 40 pr, cI E g4 40 ra, cI E g5 40 wn, cI E g6 40 sh, cI E g7 40 rt, cI E g8 40 st, cI E g9 40 ag] 50 [(0, .ref p0), (1, .ref v0), (2, .ref g0), (3, .int (iI r)), (4, .long (lI mm)), (6, .int (iI (bZ cb))), (7, .int (iI a)), (8, .int (iI k))] [] := by
    intro n
    induction n with
    | zero => intro k a cb mm h1 h2 h4 h5 h3 hm; exact absurd hm (Nat.not_lt_zero _)
    | succ n ih =>
      intro k a cb mm h1 h2 h4 h5 h3 hm
      refine rg_iload C 7 dX1_most_50 rfl ?_
      refine rg_bipush (z := 32) C dX1_most_52 (by decide) ?_
      refine rg_icmp_ge (tgt := 135) C ⟨by omega, by omega⟩ ⟨by decide, by decide⟩ dX1_most_54 (by decide) (fun h_54 => ?_) (fun h_54 => ?_)
      · refine rg_lload C 4 dX1_most_135 rfl ?_
        refine rg_l2i C dX1_most_137 ?_
        exact rg_iret C hA hQ hr hlk () rfl (by rw [← hM0, h3, mosW_end (by omega)]) dX1_most_138
      · refine rg_iload C 6 dX1_most_57 rfl ?_
        refine rg_iconst C dX1_most_59 ?_
        refine rg_icmp_eq (tgt := 135) C ⟨by omega, by omega⟩ ⟨by decide, by decide⟩ dX1_most_60 (by decide) (fun h_60 => ?_) (fun h_60 => ?_)
        · refine rg_lload C 4 dX1_most_135 rfl ?_
          refine rg_l2i C dX1_most_137 ?_
          exact rg_iret C hA hQ hr hlk () rfl (by rw [← hM0, h3, mosW_end (by omega)]) dX1_most_138
        · have hb9 := hbe a.toNat (by omega)
          have hf9 := hflo a.toNat (by omega)
          refine rg_iload C 5 dX1_most_63 rfl ?_
          refine rg_if_ne (tgt := 79) C (bZ_in _) dX1_most_65 (by decide) (fun h_65 => ?_) (fun h_65 => ?_)
          · refine rg_iconst C dX1_most_79 ?_
            refine rg_goto (tgt := 84) C dX1_most_80 (by decide) ?_
            refine rg_istore (lv' := [(6, .int (iI 1)), (0, .ref p0), (1, .ref v0), (2, .ref g0), (3, .int (iI r)), (4, .long (lI mm)), (7, .int (iI a)), (8, .int (iI k))]) C dX1_most_84 (by decide) rfl ?_
            refine rg_lload C 5 dX1_most_86 rfl ?_
            refine rg_iload C 0 dX1_most_88 rfl ?_
            refine rg_if_eq (tgt := 108) C ⟨by decide, by decide⟩ dX1_most_90 (by decide) (fun h_90 => absurd h_90 (by omega)) (fun h_90 => ?_)
            have h9 : 0 ≤ rt r.toNat := by first | exact h4 (bZ_T h_65) | omega
            have hc9 : cb = true ∨ a = rt r.toNat := by first | exact Or.inl (bZ_T h_65) | exact Or.inr (by omega)
            have hb8 := mfu_in (hsh h9) hf9
            have hs7 := hsh h9
            refine rg_aload_n C 3 dX1_most_93 rfl rfl ?_
            refine rg_iload_n C 4 dX1_most_94 rfl rfl ?_
            refine rg_aload_n C 1 dX1_most_95 rfl rfl ?_
            refine rg_get C fX1_15 0 rfl rfl dX1_most_96 ?_
            refine rg_iload C 6 dX1_most_99 rfl ?_
            refine rg_lald C 2 rfl (by decide) (by omega) (by omega) dX1_most_101 ?_
            refine rg_callV (As := [.int (iI r), .long (lI (flo a.toNat))]) (rest := [.long (lI mm)]) (wr := [cO p0 1 [.ref p1, .ref p2, .ref p3], cI E p1 40 get, cJ E p2 32 flo, cI E p3 8 roo, cO v0 4 [.ref v1, .ref v2, .ref v3, .ref v4, .int (iI out)], cZ E v1 32 th, cI E v2 32 be, cI E v3 32 inf, cJ E v4 32 snt]) (w' := fun _ => [cO p0 1 [.ref p1, .ref p2, .ref p3], cI E p1 40 get, cJ E p2 32 flo, cI E p3 8 roo, cO v0 4 [.ref v1, .ref v2, .ref v3, .ref v4, .int (iI out)], cZ E v1 32 th, cI E v2 32 be, cI E v3 32 inf, cJ E v4 32 snt, cO g0 3 [.ref g1, .ref g2, .ref g3, .ref g4, .ref g5, .ref g6, .ref g7, .ref g8, .ref g9, .int (iI cn)], cZ E g1 40 g, cI E g2 40 pl, cI E g3 40 pr, cI E g4 40 ra, cI E g5 40 wn, cI E g6 40 sh, cI E g7 40 rt, cI E g8 40 st, cI E g9 40 ag]) C (kX3_mostForUse l E g0 g1 g2 g3 g4 g5 g6 g7 g8 g9 g pl pr ra wn sh rt st ag cn r (flo a.toNat) (by first | assumption | omega) (by first | assumption | omega) (by first | assumption | omega)) (rcwV C mX3_mostForUse w_256 ⟨Nat.le_of_ble_eq_true rfl, Nat.le_of_ble_eq_true rfl⟩) [9, 10, 11, 12, 13, 14, 15, 16, 17, 18] [0, 1, 2, 3, 4, 5, 6, 7, 8] [0, 1, 2, 3, 4, 5, 6, 7, 8, 9, 10, 11, 12, 13, 14, 15, 16, 17, 18] rfl rfl (by decide) (by decide) (by decide) (fun _ => rfl) (by decide) 0 rfl rfl rfl rfl (Nat.le_of_ble_eq_true rfl) dX1_most_102 ⟨Nat.le_of_ble_eq_true rfl, Nat.le_of_ble_eq_true rfl⟩ (fun _ => ?_)
            show rG p l e rX1_most s m args below meth c E A 9 0 0 Q [cO p0 1 [.ref p1, .ref p2, .ref p3], cI E p1 40 get, cJ E p2 32 flo, cI E p3 8 roo, cO v0 4 [.ref v1, .ref v2, .ref v3, .ref v4, .int (iI out)], cZ E v1 32 th, cI E v2 32 be, cI E v3 32 inf, cJ E v4 32 snt, cO g0 3 [.ref g1, .ref g2, .ref g3, .ref g4, .ref g5, .ref g6, .ref g7, .ref g8, .ref g9, .int (iI cn)], cZ E g1 40 g, cI E g2 40 pl, cI E g3 40 pr, cI E g4 40 ra, cI E g5 40 wn, cI E g6 40 sh, cI E g7 40 rt, cI E g8 40 st, cI E g9 40 ag] 105 [(6, .int (iI 1)), (0, .ref p0), (1, .ref v0), (2, .ref g0), (3, .int (iI r)), (4, .long (lI mm)), (7, .int (iI a)), (8, .int (iI k))] [.long (lI (if 1000 - sh r.toNat ≤ 0 then 1000000000 else (flo a.toNat) * 1000 / (1000 - sh r.toNat))), .long (lI mm)]
            refine rg_goto (tgt := 115) C dX1_most_105 (by decide) ?_
            refine rg_callS (As := [.long (lI mm), .long (lI (if 1000 - sh r.toNat ≤ 0 then 1000000000 else (flo a.toNat) * 1000 / (1000 - sh r.toNat)))]) (rest := []) (wr := [cO p0 1 [.ref p1, .ref p2, .ref p3], cI E p1 40 get, cJ E p2 32 flo, cI E p3 8 roo, cO v0 4 [.ref v1, .ref v2, .ref v3, .ref v4, .int (iI out)], cZ E v1 32 th, cI E v2 32 be, cI E v3 32 inf, cJ E v4 32 snt, cO g0 3 [.ref g1, .ref g2, .ref g3, .ref g4, .ref g5, .ref g6, .ref g7, .ref g8, .ref g9, .int (iI cn)], cZ E g1 40 g, cI E g2 40 pl, cI E g3 40 pr, cI E g4 40 ra, cI E g5 40 wn, cI E g6 40 sh, cI E g7 40 rt, cI E g8 40 st, cI E g9 40 ag]) (w' := fun _ => [cO p0 1 [.ref p1, .ref p2, .ref p3], cI E p1 40 get, cJ E p2 32 flo, cI E p3 8 roo, cO v0 4 [.ref v1, .ref v2, .ref v3, .ref v4, .int (iI out)], cZ E v1 32 th, cI E v2 32 be, cI E v3 32 inf, cJ E v4 32 snt, cO g0 3 [.ref g1, .ref g2, .ref g3, .ref g4, .ref g5, .ref g6, .ref g7, .ref g8, .ref g9, .int (iI cn)], cZ E g1 40 g, cI E g2 40 pl, cI E g3 40 pr, cI E g4 40 ra, cI E g5 40 wn, cI E g6 40 sh, cI E g7 40 rt, cI E g8 40 st, cI E g9 40 ag]) C (kJM_min l E mm (if 1000 - sh r.toNat ≤ 0 then 1000000000 else (flo a.toNat) * 1000 / (1000 - sh r.toNat)) (by omega) (by first | omega | exact wideL hb8)) (rcwS C mJM_min w_253 ⟨Nat.le_of_ble_eq_true rfl, Nat.le_of_ble_eq_true rfl⟩) [] [0, 1, 2, 3, 4, 5, 6, 7, 8, 9, 10, 11, 12, 13, 14, 15, 16, 17, 18] [0, 1, 2, 3, 4, 5, 6, 7, 8, 9, 10, 11, 12, 13, 14, 15, 16, 17, 18] rfl rfl (by decide) (by decide) (by decide) (fun _ => rfl) (by decide) rfl rfl (Nat.le_of_ble_eq_true rfl) dX1_most_115 ⟨Nat.le_of_ble_eq_true rfl, Nat.le_of_ble_eq_true rfl⟩ (fun _ => ?_)
            show rG p l e rX1_most s m args below meth c E A 9 0 0 Q [cO p0 1 [.ref p1, .ref p2, .ref p3], cI E p1 40 get, cJ E p2 32 flo, cI E p3 8 roo, cO v0 4 [.ref v1, .ref v2, .ref v3, .ref v4, .int (iI out)], cZ E v1 32 th, cI E v2 32 be, cI E v3 32 inf, cJ E v4 32 snt, cO g0 3 [.ref g1, .ref g2, .ref g3, .ref g4, .ref g5, .ref g6, .ref g7, .ref g8, .ref g9, .int (iI cn)], cZ E g1 40 g, cI E g2 40 pl, cI E g3 40 pr, cI E g4 40 ra, cI E g5 40 wn, cI E g6 40 sh, cI E g7 40 rt, cI E g8 40 st, cI E g9 40 ag] 118 [(6, .int (iI 1)), (0, .ref p0), (1, .ref v0), (2, .ref g0), (3, .int (iI r)), (4, .long (lI mm)), (7, .int (iI a)), (8, .int (iI k))] [.long (lI (min mm (if 1000 - sh r.toNat ≤ 0 then 1000000000 else (flo a.toNat) * 1000 / (1000 - sh r.toNat))))]
            refine rg_lstore (lv' := [(4, .long (lI (min mm (if 1000 - sh r.toNat ≤ 0 then 1000000000 else (flo a.toNat) * 1000 / (1000 - sh r.toNat))))), (6, .int (iI 1)), (0, .ref p0), (1, .ref v0), (2, .ref g0), (3, .int (iI r)), (7, .int (iI a)), (8, .int (iI k))]) C dX1_most_118 (by decide) rfl ?_
            refine rg_aload_n C 3 dX1_most_120 rfl rfl ?_
            refine rg_get C fX1_48 4 rfl rfl dX1_most_121 ?_
            refine rg_iload C 6 dX1_most_124 rfl ?_
            refine rg_iald C 6 rfl (by decide) (by omega) (by omega) dX1_most_126 ?_
            refine rg_istore (lv' := [(7, .int (iI (be a.toNat))), (4, .long (lI (min mm (if 1000 - sh r.toNat ≤ 0 then 1000000000 else (flo a.toNat) * 1000 / (1000 - sh r.toNat))))), (6, .int (iI 1)), (0, .ref p0), (1, .ref v0), (2, .ref g0), (3, .int (iI r)), (8, .int (iI k))]) C dX1_most_127 (by decide) rfl ?_
            refine rg_iinc (k := 7) (lv' := [(8, .int (iI (k + 1))), (7, .int (iI (be a.toNat))), (4, .long (lI (min mm (if 1000 - sh r.toNat ≤ 0 then 1000000000 else (flo a.toNat) * 1000 / (1000 - sh r.toNat))))), (6, .int (iI 1)), (0, .ref p0), (1, .ref v0), (2, .ref g0), (3, .int (iI r))]) C dX1_most_129 rfl (by decide) rfl ?_
            refine rg_goto (tgt := 50) C dX1_most_132 (by decide) ?_
            refine rG.plv [4, 5, 6, 7, 2, 3, 1, 0] rfl ?_
            exact ih (k + 1) (be a.toNat) true (min mm (if 1000 - sh r.toNat ≤ 0 then 1000000000 else (flo a.toNat) * 1000 / (1000 - sh r.toNat))) (by omega) hb9 (fun _ => h9) (min9 h5 hb8.1) (h3.trans (mosW_t h1.1 (by omega) (by omega) hc9)) (by omega)
          · refine rg_iload C 6 dX1_most_68 rfl ?_
            refine rg_aload_n C 2 dX1_most_70 rfl rfl ?_
            refine rg_get C fX1_87 9 rfl rfl dX1_most_71 ?_
            refine rg_iload_n C 3 dX1_most_74 rfl rfl ?_
            refine rg_iald C 16 rfl (by decide) (by omega) (by omega) dX1_most_75 ?_
            refine rg_icmp_ne (tgt := 83) C ⟨by omega, by omega⟩ ⟨by omega, by omega⟩ dX1_most_76 (by decide) (fun h_76 => ?_) (fun h_76 => ?_)
            · refine rg_iconst C dX1_most_83 ?_
              refine rg_istore (lv' := [(6, .int (iI 0)), (0, .ref p0), (1, .ref v0), (2, .ref g0), (3, .int (iI r)), (4, .long (lI mm)), (7, .int (iI a)), (8, .int (iI k))]) C dX1_most_84 (by decide) rfl ?_
              refine rg_lload C 5 dX1_most_86 rfl ?_
              refine rg_iload C 0 dX1_most_88 rfl ?_
              refine rg_if_eq (tgt := 108) C ⟨by decide, by decide⟩ dX1_most_90 (by decide) (fun h_90 => ?_) (fun h_90 => absurd h_90 (by omega))
              refine rg_aload_n C 1 dX1_most_108 rfl rfl ?_
              refine rg_get C fX1_15 0 rfl rfl dX1_most_109 ?_
              refine rg_iload C 6 dX1_most_112 rfl ?_
              refine rg_lald C 2 rfl (by decide) (by omega) (by omega) dX1_most_114 ?_
              refine rg_callS (As := [.long (lI mm), .long (lI (flo a.toNat))]) (rest := []) (wr := [cO p0 1 [.ref p1, .ref p2, .ref p3], cI E p1 40 get, cJ E p2 32 flo, cI E p3 8 roo, cO v0 4 [.ref v1, .ref v2, .ref v3, .ref v4, .int (iI out)], cZ E v1 32 th, cI E v2 32 be, cI E v3 32 inf, cJ E v4 32 snt, cO g0 3 [.ref g1, .ref g2, .ref g3, .ref g4, .ref g5, .ref g6, .ref g7, .ref g8, .ref g9, .int (iI cn)], cZ E g1 40 g, cI E g2 40 pl, cI E g3 40 pr, cI E g4 40 ra, cI E g5 40 wn, cI E g6 40 sh, cI E g7 40 rt, cI E g8 40 st, cI E g9 40 ag]) (w' := fun _ => [cO p0 1 [.ref p1, .ref p2, .ref p3], cI E p1 40 get, cJ E p2 32 flo, cI E p3 8 roo, cO v0 4 [.ref v1, .ref v2, .ref v3, .ref v4, .int (iI out)], cZ E v1 32 th, cI E v2 32 be, cI E v3 32 inf, cJ E v4 32 snt, cO g0 3 [.ref g1, .ref g2, .ref g3, .ref g4, .ref g5, .ref g6, .ref g7, .ref g8, .ref g9, .int (iI cn)], cZ E g1 40 g, cI E g2 40 pl, cI E g3 40 pr, cI E g4 40 ra, cI E g5 40 wn, cI E g6 40 sh, cI E g7 40 rt, cI E g8 40 st, cI E g9 40 ag]) C (kJM_min l E mm (flo a.toNat) (by omega) (by first | omega | exact wideL hb8)) (rcwS C mJM_min w_253 ⟨Nat.le_of_ble_eq_true rfl, Nat.le_of_ble_eq_true rfl⟩) [] [0, 1, 2, 3, 4, 5, 6, 7, 8, 9, 10, 11, 12, 13, 14, 15, 16, 17, 18] [0, 1, 2, 3, 4, 5, 6, 7, 8, 9, 10, 11, 12, 13, 14, 15, 16, 17, 18] rfl rfl (by decide) (by decide) (by decide) (fun _ => rfl) (by decide) rfl rfl (Nat.le_of_ble_eq_true rfl) dX1_most_115 ⟨Nat.le_of_ble_eq_true rfl, Nat.le_of_ble_eq_true rfl⟩ (fun _ => ?_)
              show rG p l e rX1_most s m args below meth c E A 9 0 0 Q [cO p0 1 [.ref p1, .ref p2, .ref p3], cI E p1 40 get, cJ E p2 32 flo, cI E p3 8 roo, cO v0 4 [.ref v1, .ref v2, .ref v3, .ref v4, .int (iI out)], cZ E v1 32 th, cI E v2 32 be, cI E v3 32 inf, cJ E v4 32 snt, cO g0 3 [.ref g1, .ref g2, .ref g3, .ref g4, .ref g5, .ref g6, .ref g7, .ref g8, .ref g9, .int (iI cn)], cZ E g1 40 g, cI E g2 40 pl, cI E g3 40 pr, cI E g4 40 ra, cI E g5 40 wn, cI E g6 40 sh, cI E g7 40 rt, cI E g8 40 st, cI E g9 40 ag] 118 [(6, .int (iI 0)), (0, .ref p0), (1, .ref v0), (2, .ref g0), (3, .int (iI r)), (4, .long (lI mm)), (7, .int (iI a)), (8, .int (iI k))] [.long (lI (min mm (flo a.toNat)))]
              refine rg_lstore (lv' := [(4, .long (lI (min mm (flo a.toNat)))), (6, .int (iI 0)), (0, .ref p0), (1, .ref v0), (2, .ref g0), (3, .int (iI r)), (7, .int (iI a)), (8, .int (iI k))]) C dX1_most_118 (by decide) rfl ?_
              refine rg_aload_n C 3 dX1_most_120 rfl rfl ?_
              refine rg_get C fX1_48 4 rfl rfl dX1_most_121 ?_
              refine rg_iload C 6 dX1_most_124 rfl ?_
              refine rg_iald C 6 rfl (by decide) (by omega) (by omega) dX1_most_126 ?_
              refine rg_istore (lv' := [(7, .int (iI (be a.toNat))), (4, .long (lI (min mm (flo a.toNat)))), (6, .int (iI 0)), (0, .ref p0), (1, .ref v0), (2, .ref g0), (3, .int (iI r)), (8, .int (iI k))]) C dX1_most_127 (by decide) rfl ?_
              refine rg_iinc (k := 7) (lv' := [(8, .int (iI (k + 1))), (7, .int (iI (be a.toNat))), (4, .long (lI (min mm (flo a.toNat)))), (6, .int (iI 0)), (0, .ref p0), (1, .ref v0), (2, .ref g0), (3, .int (iI r))]) C dX1_most_129 rfl (by decide) rfl ?_
              refine rg_goto (tgt := 50) C dX1_most_132 (by decide) ?_
              refine rG.plv [4, 5, 6, 7, 2, 3, 1, 0] rfl ?_
              exact ih (k + 1) (be a.toNat) false (min mm (flo a.toNat)) (by omega) hb9 (fun q => by cases q) (min9 h5 hf9.1) (h3.trans (mosW_f h1.1 (by omega) (by omega) (bZ_F h_65) h_76)) (by omega)
            · refine rg_iconst C dX1_most_79 ?_
              refine rg_goto (tgt := 84) C dX1_most_80 (by decide) ?_
              refine rg_istore (lv' := [(6, .int (iI 1)), (0, .ref p0), (1, .ref v0), (2, .ref g0), (3, .int (iI r)), (4, .long (lI mm)), (7, .int (iI a)), (8, .int (iI k))]) C dX1_most_84 (by decide) rfl ?_
              refine rg_lload C 5 dX1_most_86 rfl ?_
              refine rg_iload C 0 dX1_most_88 rfl ?_
              refine rg_if_eq (tgt := 108) C ⟨by decide, by decide⟩ dX1_most_90 (by decide) (fun h_90 => absurd h_90 (by omega)) (fun h_90 => ?_)
              have h9 : 0 ≤ rt r.toNat := by first | exact h4 (bZ_T h_65) | omega
              have hc9 : cb = true ∨ a = rt r.toNat := by first | exact Or.inl (bZ_T h_65) | exact Or.inr (by omega)
              have hb8 := mfu_in (hsh h9) hf9
              have hs7 := hsh h9
              refine rg_aload_n C 3 dX1_most_93 rfl rfl ?_
              refine rg_iload_n C 4 dX1_most_94 rfl rfl ?_
              refine rg_aload_n C 1 dX1_most_95 rfl rfl ?_
              refine rg_get C fX1_15 0 rfl rfl dX1_most_96 ?_
              refine rg_iload C 6 dX1_most_99 rfl ?_
              refine rg_lald C 2 rfl (by decide) (by omega) (by omega) dX1_most_101 ?_
              refine rg_callV (As := [.int (iI r), .long (lI (flo a.toNat))]) (rest := [.long (lI mm)]) (wr := [cO p0 1 [.ref p1, .ref p2, .ref p3], cI E p1 40 get, cJ E p2 32 flo, cI E p3 8 roo, cO v0 4 [.ref v1, .ref v2, .ref v3, .ref v4, .int (iI out)], cZ E v1 32 th, cI E v2 32 be, cI E v3 32 inf, cJ E v4 32 snt]) (w' := fun _ => [cO p0 1 [.ref p1, .ref p2, .ref p3], cI E p1 40 get, cJ E p2 32 flo, cI E p3 8 roo, cO v0 4 [.ref v1, .ref v2, .ref v3, .ref v4, .int (iI out)], cZ E v1 32 th, cI E v2 32 be, cI E v3 32 inf, cJ E v4 32 snt, cO g0 3 [.ref g1, .ref g2, .ref g3, .ref g4, .ref g5, .ref g6, .ref g7, .ref g8, .ref g9, .int (iI cn)], cZ E g1 40 g, cI E g2 40 pl, cI E g3 40 pr, cI E g4 40 ra, cI E g5 40 wn, cI E g6 40 sh, cI E g7 40 rt, cI E g8 40 st, cI E g9 40 ag]) C (kX3_mostForUse l E g0 g1 g2 g3 g4 g5 g6 g7 g8 g9 g pl pr ra wn sh rt st ag cn r (flo a.toNat) (by first | assumption | omega) (by first | assumption | omega) (by first | assumption | omega)) (rcwV C mX3_mostForUse w_256 ⟨Nat.le_of_ble_eq_true rfl, Nat.le_of_ble_eq_true rfl⟩) [9, 10, 11, 12, 13, 14, 15, 16, 17, 18] [0, 1, 2, 3, 4, 5, 6, 7, 8] [0, 1, 2, 3, 4, 5, 6, 7, 8, 9, 10, 11, 12, 13, 14, 15, 16, 17, 18] rfl rfl (by decide) (by decide) (by decide) (fun _ => rfl) (by decide) 0 rfl rfl rfl rfl (Nat.le_of_ble_eq_true rfl) dX1_most_102 ⟨Nat.le_of_ble_eq_true rfl, Nat.le_of_ble_eq_true rfl⟩ (fun _ => ?_)
              show rG p l e rX1_most s m args below meth c E A 9 0 0 Q [cO p0 1 [.ref p1, .ref p2, .ref p3], cI E p1 40 get, cJ E p2 32 flo, cI E p3 8 roo, cO v0 4 [.ref v1, .ref v2, .ref v3, .ref v4, .int (iI out)], cZ E v1 32 th, cI E v2 32 be, cI E v3 32 inf, cJ E v4 32 snt, cO g0 3 [.ref g1, .ref g2, .ref g3, .ref g4, .ref g5, .ref g6, .ref g7, .ref g8, .ref g9, .int (iI cn)], cZ E g1 40 g, cI E g2 40 pl, cI E g3 40 pr, cI E g4 40 ra, cI E g5 40 wn, cI E g6 40 sh, cI E g7 40 rt, cI E g8 40 st, cI E g9 40 ag] 105 [(6, .int (iI 1)), (0, .ref p0), (1, .ref v0), (2, .ref g0), (3, .int (iI r)), (4, .long (lI mm)), (7, .int (iI a)), (8, .int (iI k))] [.long (lI (if 1000 - sh r.toNat ≤ 0 then 1000000000 else (flo a.toNat) * 1000 / (1000 - sh r.toNat))), .long (lI mm)]
              refine rg_goto (tgt := 115) C dX1_most_105 (by decide) ?_
              refine rg_callS (As := [.long (lI mm), .long (lI (if 1000 - sh r.toNat ≤ 0 then 1000000000 else (flo a.toNat) * 1000 / (1000 - sh r.toNat)))]) (rest := []) (wr := [cO p0 1 [.ref p1, .ref p2, .ref p3], cI E p1 40 get, cJ E p2 32 flo, cI E p3 8 roo, cO v0 4 [.ref v1, .ref v2, .ref v3, .ref v4, .int (iI out)], cZ E v1 32 th, cI E v2 32 be, cI E v3 32 inf, cJ E v4 32 snt, cO g0 3 [.ref g1, .ref g2, .ref g3, .ref g4, .ref g5, .ref g6, .ref g7, .ref g8, .ref g9, .int (iI cn)], cZ E g1 40 g, cI E g2 40 pl, cI E g3 40 pr, cI E g4 40 ra, cI E g5 40 wn, cI E g6 40 sh, cI E g7 40 rt, cI E g8 40 st, cI E g9 40 ag]) (w' := fun _ => [cO p0 1 [.ref p1, .ref p2, .ref p3], cI E p1 40 get, cJ E p2 32 flo, cI E p3 8 roo, cO v0 4 [.ref v1, .ref v2, .ref v3, .ref v4, .int (iI out)], cZ E v1 32 th, cI E v2 32 be, cI E v3 32 inf, cJ E v4 32 snt, cO g0 3 [.ref g1, .ref g2, .ref g3, .ref g4, .ref g5, .ref g6, .ref g7, .ref g8, .ref g9, .int (iI cn)], cZ E g1 40 g, cI E g2 40 pl, cI E g3 40 pr, cI E g4 40 ra, cI E g5 40 wn, cI E g6 40 sh, cI E g7 40 rt, cI E g8 40 st, cI E g9 40 ag]) C (kJM_min l E mm (if 1000 - sh r.toNat ≤ 0 then 1000000000 else (flo a.toNat) * 1000 / (1000 - sh r.toNat)) (by omega) (by first | omega | exact wideL hb8)) (rcwS C mJM_min w_253 ⟨Nat.le_of_ble_eq_true rfl, Nat.le_of_ble_eq_true rfl⟩) [] [0, 1, 2, 3, 4, 5, 6, 7, 8, 9, 10, 11, 12, 13, 14, 15, 16, 17, 18] [0, 1, 2, 3, 4, 5, 6, 7, 8, 9, 10, 11, 12, 13, 14, 15, 16, 17, 18] rfl rfl (by decide) (by decide) (by decide) (fun _ => rfl) (by decide) rfl rfl (Nat.le_of_ble_eq_true rfl) dX1_most_115 ⟨Nat.le_of_ble_eq_true rfl, Nat.le_of_ble_eq_true rfl⟩ (fun _ => ?_)
              show rG p l e rX1_most s m args below meth c E A 9 0 0 Q [cO p0 1 [.ref p1, .ref p2, .ref p3], cI E p1 40 get, cJ E p2 32 flo, cI E p3 8 roo, cO v0 4 [.ref v1, .ref v2, .ref v3, .ref v4, .int (iI out)], cZ E v1 32 th, cI E v2 32 be, cI E v3 32 inf, cJ E v4 32 snt, cO g0 3 [.ref g1, .ref g2, .ref g3, .ref g4, .ref g5, .ref g6, .ref g7, .ref g8, .ref g9, .int (iI cn)], cZ E g1 40 g, cI E g2 40 pl, cI E g3 40 pr, cI E g4 40 ra, cI E g5 40 wn, cI E g6 40 sh, cI E g7 40 rt, cI E g8 40 st, cI E g9 40 ag] 118 [(6, .int (iI 1)), (0, .ref p0), (1, .ref v0), (2, .ref g0), (3, .int (iI r)), (4, .long (lI mm)), (7, .int (iI a)), (8, .int (iI k))] [.long (lI (min mm (if 1000 - sh r.toNat ≤ 0 then 1000000000 else (flo a.toNat) * 1000 / (1000 - sh r.toNat))))]
              refine rg_lstore (lv' := [(4, .long (lI (min mm (if 1000 - sh r.toNat ≤ 0 then 1000000000 else (flo a.toNat) * 1000 / (1000 - sh r.toNat))))), (6, .int (iI 1)), (0, .ref p0), (1, .ref v0), (2, .ref g0), (3, .int (iI r)), (7, .int (iI a)), (8, .int (iI k))]) C dX1_most_118 (by decide) rfl ?_
              refine rg_aload_n C 3 dX1_most_120 rfl rfl ?_
              refine rg_get C fX1_48 4 rfl rfl dX1_most_121 ?_
              refine rg_iload C 6 dX1_most_124 rfl ?_
              refine rg_iald C 6 rfl (by decide) (by omega) (by omega) dX1_most_126 ?_
              refine rg_istore (lv' := [(7, .int (iI (be a.toNat))), (4, .long (lI (min mm (if 1000 - sh r.toNat ≤ 0 then 1000000000 else (flo a.toNat) * 1000 / (1000 - sh r.toNat))))), (6, .int (iI 1)), (0, .ref p0), (1, .ref v0), (2, .ref g0), (3, .int (iI r)), (8, .int (iI k))]) C dX1_most_127 (by decide) rfl ?_
              refine rg_iinc (k := 7) (lv' := [(8, .int (iI (k + 1))), (7, .int (iI (be a.toNat))), (4, .long (lI (min mm (if 1000 - sh r.toNat ≤ 0 then 1000000000 else (flo a.toNat) * 1000 / (1000 - sh r.toNat))))), (6, .int (iI 1)), (0, .ref p0), (1, .ref v0), (2, .ref g0), (3, .int (iI r))]) C dX1_most_129 rfl (by decide) rfl ?_
              refine rg_goto (tgt := 50) C dX1_most_132 (by decide) ?_
              refine rG.plv [4, 5, 6, 7, 2, 3, 1, 0] rfl ?_
              exact ih (k + 1) (be a.toNat) true (min mm (if 1000 - sh r.toNat ≤ 0 then 1000000000 else (flo a.toNat) * 1000 / (1000 - sh r.toNat))) (by omega) hb9 (fun _ => h9) (min9 h5 hb8.1) (h3.trans (mosW_t h1.1 (by omega) (by omega) hc9)) (by omega)
  show rG p l e rX1_most s m args below meth c E A 9 0 0 Q [cO p0 1 [.ref p1, .ref p2, .ref p3], cI E p1 40 get, cJ E p2 32 flo, cI E p3 8 roo, cO v0 4 [.ref v1, .ref v2, .ref v3, .ref v4, .int (iI out)], cZ E v1 32 th, cI E v2 32 be, cI E v3 32 inf, cJ E v4 32 snt, cO g0 3 [.ref g1, .ref g2, .ref g3, .ref g4, .ref g5, .ref g6, .ref g7, .ref g8, .ref g9, .int (iI cn)], cZ E g1 40 g, cI E g2 40 pl, cI E g3 40 pr, cI E g4 40 ra, cI E g5 40 wn, cI E g6 40 sh, cI E g7 40 rt, cI E g8 40 st, cI E g9 40 ag] 0 [(0, .ref p0), (1, .ref v0), (2, .ref g0), (3, .int (iI r))] []
  refine rg_aload_n C 2 dX1_most_0 rfl rfl ?_
  refine rg_get C fX1_68 9 rfl rfl dX1_most_1 ?_
  refine rg_iload_n C 3 dX1_most_4 rfl rfl ?_
  refine rg_iald C 14 rfl (by decide) (by omega) (by omega) dX1_most_5 ?_
  refine rg_i2l C ⟨by omega, by omega⟩ dX1_most_6 ?_
  refine rg_lstore (lv' := [(4, .long (lI (wn r.toNat))), (0, .ref p0), (1, .ref v0), (2, .ref g0), (3, .int (iI r))]) C dX1_most_7 (by decide) rfl ?_
  refine rg_aload_n C 3 dX1_most_9 rfl rfl ?_
  refine rg_iload_n C 4 dX1_most_10 rfl rfl ?_
  refine rg_callV (As := [.int (iI r)]) (rest := []) (wr := [cO p0 1 [.ref p1, .ref p2, .ref p3], cI E p1 40 get, cJ E p2 32 flo, cI E p3 8 roo, cO v0 4 [.ref v1, .ref v2, .ref v3, .ref v4, .int (iI out)], cZ E v1 32 th, cI E v2 32 be, cI E v3 32 inf, cJ E v4 32 snt]) (w' := fun _ => [cO p0 1 [.ref p1, .ref p2, .ref p3], cI E p1 40 get, cJ E p2 32 flo, cI E p3 8 roo, cO v0 4 [.ref v1, .ref v2, .ref v3, .ref v4, .int (iI out)], cZ E v1 32 th, cI E v2 32 be, cI E v3 32 inf, cJ E v4 32 snt, cO g0 3 [.ref g1, .ref g2, .ref g3, .ref g4, .ref g5, .ref g6, .ref g7, .ref g8, .ref g9, .int (iI cn)], cZ E g1 40 g, cI E g2 40 pl, cI E g3 40 pr, cI E g4 40 ra, cI E g5 40 wn, cI E g6 40 sh, cI E g7 40 rt, cI E g8 40 st, cI E g9 40 ag]) C (kX3_isStorage l E g0 g1 g2 g3 g4 g5 g6 g7 g8 g9 g pl pr ra wn sh rt st ag cn r (by first | assumption | omega) (fun i hi => ⟨by have := hst i hi; omega, by have := hst i hi; omega⟩)) (rcwV C mX3_isStorage w_249 ⟨Nat.le_of_ble_eq_true rfl, Nat.le_of_ble_eq_true rfl⟩) [9, 10, 11, 12, 13, 14, 15, 16, 17, 18] [0, 1, 2, 3, 4, 5, 6, 7, 8] [0, 1, 2, 3, 4, 5, 6, 7, 8, 9, 10, 11, 12, 13, 14, 15, 16, 17, 18] rfl rfl (by decide) (by decide) (by decide) (fun _ => rfl) (by decide) 0 rfl rfl rfl rfl (Nat.le_of_ble_eq_true rfl) dX1_most_11 ⟨Nat.le_of_ble_eq_true rfl, Nat.le_of_ble_eq_true rfl⟩ (fun _ => ?_)
  show rG p l e rX1_most s m args below meth c E A 9 0 0 Q [cO p0 1 [.ref p1, .ref p2, .ref p3], cI E p1 40 get, cJ E p2 32 flo, cI E p3 8 roo, cO v0 4 [.ref v1, .ref v2, .ref v3, .ref v4, .int (iI out)], cZ E v1 32 th, cI E v2 32 be, cI E v3 32 inf, cJ E v4 32 snt, cO g0 3 [.ref g1, .ref g2, .ref g3, .ref g4, .ref g5, .ref g6, .ref g7, .ref g8, .ref g9, .int (iI cn)], cZ E g1 40 g, cI E g2 40 pl, cI E g3 40 pr, cI E g4 40 ra, cI E g5 40 wn, cI E g6 40 sh, cI E g7 40 rt, cI E g8 40 st, cI E g9 40 ag] 14 [(4, .long (lI (wn r.toNat))), (0, .ref p0), (1, .ref v0), (2, .ref g0), (3, .int (iI r))] [.int (iI (bZ (decide (st r.toNat ≠ -1))))]
  refine rg_if_eq (tgt := 36) C (bZ_in _) dX1_most_14 (by decide) (fun h_14 => ?_) (fun h_14 => ?_)
  · refine rg_iconst C dX1_most_36 ?_
    refine rg_istore (lv' := [(6, .int (iI 0)), (4, .long (lI (wn r.toNat))), (0, .ref p0), (1, .ref v0), (2, .ref g0), (3, .int (iI r))]) C dX1_most_37 (by decide) rfl ?_
    refine rg_aload_n C 4 dX1_most_39 rfl rfl ?_
    refine rg_get C fX1_84 9 rfl rfl dX1_most_40 ?_
    refine rg_iload_n C 5 dX1_most_43 rfl rfl ?_
    refine rg_iald C 11 rfl (by decide) (by omega) (by omega) dX1_most_44 ?_
    refine rg_istore (lv' := [(7, .int (iI (pl r.toNat))), (6, .int (iI 0)), (4, .long (lI (wn r.toNat))), (0, .ref p0), (1, .ref v0), (2, .ref g0), (3, .int (iI r))]) C dX1_most_45 (by decide) rfl ?_
    refine rg_iconst C dX1_most_47 ?_
    refine rg_istore (lv' := [(8, .int (iI 0)), (7, .int (iI (pl r.toNat))), (6, .int (iI 0)), (4, .long (lI (wn r.toNat))), (0, .ref p0), (1, .ref v0), (2, .ref g0), (3, .int (iI r))]) C dX1_most_48 (by decide) rfl ?_
    refine rG.plv [4, 5, 6, 7, 3, 2, 1, 0] rfl ?_
    exact L50 _ 0 (pl r.toNat) false (wn r.toNat) (by omega) hpl (fun q => by cases q) hwn (by rw [hM0, if_neg (dec0.mp h_14)]; rfl) (Nat.lt_succ_self _)
  · have hs9 : st r.toNat ≠ -1 := Decidable.byContradiction fun q => h_14 (dec0.mpr q)
    have hs8 := hst r.toNat (by omega)
    have hr8 := hroo (st r.toNat).toNat (by omega)
    refine rg_lload C 0 dX1_most_17 rfl ?_
    refine rg_aload_n C 1 dX1_most_19 rfl rfl ?_
    refine rg_get C fX1_19 0 rfl rfl dX1_most_20 ?_
    refine rg_aload_n C 3 dX1_most_23 rfl rfl ?_
    refine rg_get C fX1_75 9 rfl rfl dX1_most_24 ?_
    refine rg_iload_n C 4 dX1_most_27 rfl rfl ?_
    refine rg_iald C 17 rfl (by decide) (by omega) (by omega) dX1_most_28 ?_
    refine rg_iald C 3 rfl (by decide) (by omega) (by omega) dX1_most_29 ?_
    refine rg_i2l C ⟨by omega, by omega⟩ dX1_most_30 ?_
    refine rg_callS (As := [.long (lI (wn r.toNat)), .long (lI (roo (st r.toNat).toNat))]) (rest := []) (wr := [cO p0 1 [.ref p1, .ref p2, .ref p3], cI E p1 40 get, cJ E p2 32 flo, cI E p3 8 roo, cO v0 4 [.ref v1, .ref v2, .ref v3, .ref v4, .int (iI out)], cZ E v1 32 th, cI E v2 32 be, cI E v3 32 inf, cJ E v4 32 snt, cO g0 3 [.ref g1, .ref g2, .ref g3, .ref g4, .ref g5, .ref g6, .ref g7, .ref g8, .ref g9, .int (iI cn)], cZ E g1 40 g, cI E g2 40 pl, cI E g3 40 pr, cI E g4 40 ra, cI E g5 40 wn, cI E g6 40 sh, cI E g7 40 rt, cI E g8 40 st, cI E g9 40 ag]) (w' := fun _ => [cO p0 1 [.ref p1, .ref p2, .ref p3], cI E p1 40 get, cJ E p2 32 flo, cI E p3 8 roo, cO v0 4 [.ref v1, .ref v2, .ref v3, .ref v4, .int (iI out)], cZ E v1 32 th, cI E v2 32 be, cI E v3 32 inf, cJ E v4 32 snt, cO g0 3 [.ref g1, .ref g2, .ref g3, .ref g4, .ref g5, .ref g6, .ref g7, .ref g8, .ref g9, .int (iI cn)], cZ E g1 40 g, cI E g2 40 pl, cI E g3 40 pr, cI E g4 40 ra, cI E g5 40 wn, cI E g6 40 sh, cI E g7 40 rt, cI E g8 40 st, cI E g9 40 ag]) C (kJM_min l E (wn r.toNat) (roo (st r.toNat).toNat) (by omega) (by omega)) (rcwS C mJM_min w_253 ⟨Nat.le_of_ble_eq_true rfl, Nat.le_of_ble_eq_true rfl⟩) [] [0, 1, 2, 3, 4, 5, 6, 7, 8, 9, 10, 11, 12, 13, 14, 15, 16, 17, 18] [0, 1, 2, 3, 4, 5, 6, 7, 8, 9, 10, 11, 12, 13, 14, 15, 16, 17, 18] rfl rfl (by decide) (by decide) (by decide) (fun _ => rfl) (by decide) rfl rfl (Nat.le_of_ble_eq_true rfl) dX1_most_31 ⟨Nat.le_of_ble_eq_true rfl, Nat.le_of_ble_eq_true rfl⟩ (fun _ => ?_)
    show rG p l e rX1_most s m args below meth c E A 9 0 0 Q [cO p0 1 [.ref p1, .ref p2, .ref p3], cI E p1 40 get, cJ E p2 32 flo, cI E p3 8 roo, cO v0 4 [.ref v1, .ref v2, .ref v3, .ref v4, .int (iI out)], cZ E v1 32 th, cI E v2 32 be, cI E v3 32 inf, cJ E v4 32 snt, cO g0 3 [.ref g1, .ref g2, .ref g3, .ref g4, .ref g5, .ref g6, .ref g7, .ref g8, .ref g9, .int (iI cn)], cZ E g1 40 g, cI E g2 40 pl, cI E g3 40 pr, cI E g4 40 ra, cI E g5 40 wn, cI E g6 40 sh, cI E g7 40 rt, cI E g8 40 st, cI E g9 40 ag] 34 [(4, .long (lI (wn r.toNat))), (0, .ref p0), (1, .ref v0), (2, .ref g0), (3, .int (iI r))] [.long (lI (min (wn r.toNat) (roo (st r.toNat).toNat)))]
    refine rg_lstore (lv' := [(4, .long (lI (min (wn r.toNat) (roo (st r.toNat).toNat)))), (0, .ref p0), (1, .ref v0), (2, .ref g0), (3, .int (iI r))]) C dX1_most_34 (by decide) rfl ?_
    refine rg_iconst C dX1_most_36 ?_
    refine rg_istore (lv' := [(6, .int (iI 0)), (4, .long (lI (min (wn r.toNat) (roo (st r.toNat).toNat)))), (0, .ref p0), (1, .ref v0), (2, .ref g0), (3, .int (iI r))]) C dX1_most_37 (by decide) rfl ?_
    refine rg_aload_n C 4 dX1_most_39 rfl rfl ?_
    refine rg_get C fX1_84 9 rfl rfl dX1_most_40 ?_
    refine rg_iload_n C 5 dX1_most_43 rfl rfl ?_
    refine rg_iald C 11 rfl (by decide) (by omega) (by omega) dX1_most_44 ?_
    refine rg_istore (lv' := [(7, .int (iI (pl r.toNat))), (6, .int (iI 0)), (4, .long (lI (min (wn r.toNat) (roo (st r.toNat).toNat)))), (0, .ref p0), (1, .ref v0), (2, .ref g0), (3, .int (iI r))]) C dX1_most_45 (by decide) rfl ?_
    refine rg_iconst C dX1_most_47 ?_
    refine rg_istore (lv' := [(8, .int (iI 0)), (7, .int (iI (pl r.toNat))), (6, .int (iI 0)), (4, .long (lI (min (wn r.toNat) (roo (st r.toNat).toNat)))), (0, .ref p0), (1, .ref v0), (2, .ref g0), (3, .int (iI r))]) C dX1_most_48 (by decide) rfl ?_
    refine rG.plv [4, 5, 6, 7, 3, 2, 1, 0] rfl ?_
    exact L50 _ 0 (pl r.toNat) false (min (wn r.toNat) (roo (st r.toNat).toNat)) (by omega) hpl (fun q => by cases q) (min9 hwn (hroo _ (by omega)).1) (by rw [hM0, if_pos hs9]; rfl) (Nat.lt_succ_self _)
abbrev rX1_give : Room := { frames := 1, cells := 0, slots := 0, locals := 22 }
set_option maxHeartbeats 4000000 in
set_option maxRecDepth 100000 in
/-- Plan.give -/
theorem kX1_give (l : Launch) (E : rE) (p0 : Nat) (p1 : Nat) (p2 : Nat) (p3 : Nat) (get : Nat → Int) (flo : Nat → Int) (roo : Nat → Int) (v0 : Nat) (v1 : Nat) (v2 : Nat) (v3 : Nat) (v4 : Nat) (th : Nat → Int) (be : Nat → Int) (inf : Nat → Int) (snt : Nat → Int) (out : Int) (g0 : Nat) (g1 : Nat) (g2 : Nat) (g3 : Nat) (g4 : Nat) (g5 : Nat) (g6 : Nat) (g7 : Nat) (g8 : Nat) (g9 : Nat) (g : Nat → Int) (pl : Nat → Int) (pr : Nat → Int) (ra : Nat → Int) (wn : Nat → Int) (sh : Nat → Int) (rt : Nat → Int) (st : Nat → Int) (ag : Nat → Int) (cn : Int) (r : Int) (am : Int) (hbe : ∀ r : Nat, r < 32 → -1 ≤ be r ∧ be r < 32) (hst : ∀ i : Nat, i < 40 → -1 ≤ st i ∧ st i < 8) (hri : 0 ≤ r ∧ r < 40) (ham : 0 ≤ am ∧ am ≤ 1000000000) (hpl : -1 ≤ pl r.toNat ∧ pl r.toNat < 32) (hrt : -1 ≤ rt r.toNat ∧ rt r.toNat < 32) (hsh : 0 ≤ rt r.toNat → 0 ≤ sh r.toNat ∧ sh r.toNat ≤ 1000) : rM l yX1_give sX1_give rX1_give E [cO p0 1 [.ref p1, .ref p2, .ref p3], cI E p1 40 get, cJ E p2 32 flo, cI E p3 8 roo, cO v0 4 [.ref v1, .ref v2, .ref v3, .ref v4, .int (iI out)], cZ E v1 32 th, cI E v2 32 be, cI E v3 32 inf, cJ E v4 32 snt, cO g0 3 [.ref g1, .ref g2, .ref g3, .ref g4, .ref g5, .ref g6, .ref g7, .ref g8, .ref g9, .int (iI cn)], cZ E g1 40 g, cI E g2 40 pl, cI E g3 40 pr, cI E g4 40 ra, cI E g5 40 wn, cI E g6 40 sh, cI E g7 40 rt, cI E g8 40 st, cI E g9 40 ag] [.ref p0, .ref v0, .ref g0, .int (iI r), .int (iI am)] none (fun _ : Unit => [cO p0 1 [.ref p1, .ref p2, .ref p3], cI E p1 40 (uZ get r.toNat am), cJ E p2 32 (givW be (sh r.toNat) (rt r.toNat) am 32 (pl r.toNat) false flo), cI E p3 8 (if st r.toNat ≠ -1 then uZ roo (st r.toNat).toNat (roo (st r.toNat).toNat - am) else roo), cO v0 4 [.ref v1, .ref v2, .ref v3, .ref v4, .int (iI out)], cZ E v1 32 th, cI E v2 32 be, cI E v3 32 inf, cJ E v4 32 snt, cO g0 3 [.ref g1, .ref g2, .ref g3, .ref g4, .ref g5, .ref g6, .ref g7, .ref g8, .ref g9, .int (iI cn)], cZ E g1 40 g, cI E g2 40 pl, cI E g3 40 pr, cI E g4 40 ra, cI E g5 40 wn, cI E g6 40 sh, cI E g7 40 rt, cI E g8 40 st, cI E g9 40 ag]) := by
  refine rM.of (cc := cX1_give) (maxL := 8) (ret := none) (by decide) rfl (Nat.le_of_ble_eq_true rfl) (fun w h => List.mem_cons_of_mem _ h) ?_
  intro p e s m args below meth c A Q hA hQ C hr hlk hnm
  have C : rC p s m args c E A 8 cX1_give sX1_give RX1 := C
  have L46 : ∀ (n : Nat) (k : Int) (a : Int) (cb : Bool) (ro : Nat → Int) (f : Nat → Int), (0 ≤ k ∧ k ≤ 32) → (-1 ≤ a ∧ a < 32) → (cb = true → 0 ≤ rt r.toNat) → (ro = if st r.toNat ≠ -1 then uZ roo (st r.toNat).toNat (roo (st r.toNat).toNat - am) else roo) → (givW be (sh r.toNat) (rt r.toNat) am 32 (pl r.toNat) false flo = givW be (sh r.toNat) (rt r.toNat) am (32 - k).toNat a cb f) → ((32 - k).toNat < n) → rG p l e rX1_give s m args below meth c E A 8 0 0 Q [cO p0 1 [.ref p1, .ref p2, .ref p3], cI E p1 40 (uZ get r.toNat am), cJ E p2 32 f, cI E p3 8 ro, cO v0 4 [.ref v1, .ref v2, .ref v3, .ref v4, .int (iI out)], cZ E v1 32 th, cI E v2 32 be, cI E v3 32 inf, cJ E v4 32 snt, cO g0 3 [.ref g1, .ref g2, .ref g3, .ref g4, .ref g5, .ref g6, .ref g7, .ref g8, .ref g9, .int (iI cn)], cZ E g1 40 g, cI E g2 40 pl, cI E g3 40 pr, cI E g4 40 ra, cI E g5 40 wn, cI E g6 40 sh, cI E g7 40 rt, cI E g8 40 st, cI E g9 40 ag] 46 [(0, .ref p0), (1, .ref v0), (2, .ref g0), (3, .int (iI r)), (4, .int (iI am)), (5, .int (iI (bZ cb))), (6, .int (iI a)), (7, .int (iI k))] [] := by
    intro n
    induction n with
    | zero => intro k a cb ro f h1 h2 h4 hro h3 hm; exact absurd hm (Nat.not_lt_zero _)
    | succ n ih =>
      intro k a cb ro f h1 h2 h4 hro h3 hm
      refine rg_iload C 7 dX1_give_46 rfl ?_
      refine rg_bipush (z := 32) C dX1_give_48 (by decide) ?_
      refine rg_icmp_ge (tgt := 125) C ⟨by omega, by omega⟩ ⟨by decide, by decide⟩ dX1_give_50 (by decide) (fun h_50 => ?_) (fun h_50 => ?_)
      · have e9 := h3.trans (givW_end (by omega))
        exact rg_vret C hA hQ hr hlk () (by rw [e9, hro]) rfl dX1_give_125
      · refine rg_iload C 6 dX1_give_53 rfl ?_
        refine rg_iconst C dX1_give_55 ?_
        refine rg_icmp_eq (tgt := 125) C ⟨by omega, by omega⟩ ⟨by decide, by decide⟩ dX1_give_56 (by decide) (fun h_56 => ?_) (fun h_56 => ?_)
        · have e9 := h3.trans (givW_end (by omega))
          exact rg_vret C hA hQ hr hlk () (by rw [e9, hro]) rfl dX1_give_125
        · have hb9 := hbe a.toNat (by omega)
          refine rg_iload C 5 dX1_give_59 rfl ?_
          refine rg_if_ne (tgt := 75) C (bZ_in _) dX1_give_61 (by decide) (fun h_61 => ?_) (fun h_61 => ?_)
          · refine rg_iconst C dX1_give_75 ?_
            refine rg_goto (tgt := 80) C dX1_give_76 (by decide) ?_
            refine rg_istore (lv' := [(5, .int (iI 1)), (0, .ref p0), (1, .ref v0), (2, .ref g0), (3, .int (iI r)), (4, .int (iI am)), (6, .int (iI a)), (7, .int (iI k))]) C dX1_give_80 (by decide) rfl ?_
            refine rg_aload_n C 1 dX1_give_82 rfl rfl ?_
            refine rg_get C fX1_15 0 rfl rfl dX1_give_83 ?_
            refine rg_iload C 6 dX1_give_86 rfl ?_
            refine rg_dup2 C dX1_give_88 rfl rfl ?_
            refine rg_lald C 2 rfl (by decide) (by omega) (by omega) dX1_give_89 ?_
            refine rg_iload C 0 dX1_give_90 rfl ?_
            refine rg_if_eq (tgt := 105) C ⟨by decide, by decide⟩ dX1_give_92 (by decide) (fun h_92 => absurd h_92 (by omega)) (fun h_92 => ?_)
            have h9 : 0 ≤ rt r.toNat := by first | exact h4 (bZ_T h_61) | omega
            have hc9 : cb = true ∨ a = rt r.toNat := by first | exact Or.inl (bZ_T h_61) | exact Or.inr (by omega)
            have hs7 := hsh h9
            refine rg_aload_n C 3 dX1_give_95 rfl rfl ?_
            refine rg_iload_n C 4 dX1_give_96 rfl rfl ?_
            refine rg_iload C 5 dX1_give_97 rfl ?_
            refine rg_callV (As := [.int (iI r), .int (iI am)]) (rest := [.long (lI (f a.toNat)), .int (iI a), .ref p2]) (wr := [cO p0 1 [.ref p1, .ref p2, .ref p3], cI E p1 40 (uZ get r.toNat am), cJ E p2 32 f, cI E p3 8 ro, cO v0 4 [.ref v1, .ref v2, .ref v3, .ref v4, .int (iI out)], cZ E v1 32 th, cI E v2 32 be, cI E v3 32 inf, cJ E v4 32 snt]) (w' := fun _ => [cO p0 1 [.ref p1, .ref p2, .ref p3], cI E p1 40 (uZ get r.toNat am), cJ E p2 32 f, cI E p3 8 ro, cO v0 4 [.ref v1, .ref v2, .ref v3, .ref v4, .int (iI out)], cZ E v1 32 th, cI E v2 32 be, cI E v3 32 inf, cJ E v4 32 snt, cO g0 3 [.ref g1, .ref g2, .ref g3, .ref g4, .ref g5, .ref g6, .ref g7, .ref g8, .ref g9, .int (iI cn)], cZ E g1 40 g, cI E g2 40 pl, cI E g3 40 pr, cI E g4 40 ra, cI E g5 40 wn, cI E g6 40 sh, cI E g7 40 rt, cI E g8 40 st, cI E g9 40 ag]) C (kX3_usedOf l E g0 g1 g2 g3 g4 g5 g6 g7 g8 g9 g pl pr ra wn sh rt st ag cn r am (by first | assumption | omega) (by first | assumption | omega) (by first | assumption | omega)) (rcwV C mX3_usedOf w_266 ⟨Nat.le_of_ble_eq_true rfl, Nat.le_of_ble_eq_true rfl⟩) [9, 10, 11, 12, 13, 14, 15, 16, 17, 18] [0, 1, 2, 3, 4, 5, 6, 7, 8] [0, 1, 2, 3, 4, 5, 6, 7, 8, 9, 10, 11, 12, 13, 14, 15, 16, 17, 18] rfl rfl (by decide) (by decide) (by decide) (fun _ => rfl) (by decide) 0 rfl rfl rfl rfl (Nat.le_of_ble_eq_true rfl) dX1_give_99 ⟨Nat.le_of_ble_eq_true rfl, Nat.le_of_ble_eq_true rfl⟩ (fun _ => ?_)
            show rG p l e rX1_give s m args below meth c E A 8 0 0 Q [cO p0 1 [.ref p1, .ref p2, .ref p3], cI E p1 40 (uZ get r.toNat am), cJ E p2 32 f, cI E p3 8 ro, cO v0 4 [.ref v1, .ref v2, .ref v3, .ref v4, .int (iI out)], cZ E v1 32 th, cI E v2 32 be, cI E v3 32 inf, cJ E v4 32 snt, cO g0 3 [.ref g1, .ref g2, .ref g3, .ref g4, .ref g5, .ref g6, .ref g7, .ref g8, .ref g9, .int (iI cn)], cZ E g1 40 g, cI E g2 40 pl, cI E g3 40 pr, cI E g4 40 ra, cI E g5 40 wn, cI E g6 40 sh, cI E g7 40 rt, cI E g8 40 st, cI E g9 40 ag] 102 [(5, .int (iI 1)), (0, .ref p0), (1, .ref v0), (2, .ref g0), (3, .int (iI r)), (4, .int (iI am)), (6, .int (iI a)), (7, .int (iI k))] [.long (lI (am - am * sh r.toNat / 1000)), .long (lI (f a.toNat)), .int (iI a), .ref p2]
            refine rg_goto (tgt := 108) C dX1_give_102 (by decide) ?_
            refine rg_lsub C dX1_give_108 ?_
            refine rg_last (ws' := [cO p0 1 [.ref p1, .ref p2, .ref p3], cI E p1 40 (uZ get r.toNat am), cJ E p2 32 (uZ f a.toNat ((f a.toNat) - (am - am * sh r.toNat / 1000))), cI E p3 8 ro, cO v0 4 [.ref v1, .ref v2, .ref v3, .ref v4, .int (iI out)], cZ E v1 32 th, cI E v2 32 be, cI E v3 32 inf, cJ E v4 32 snt, cO g0 3 [.ref g1, .ref g2, .ref g3, .ref g4, .ref g5, .ref g6, .ref g7, .ref g8, .ref g9, .int (iI cn)], cZ E g1 40 g, cI E g2 40 pl, cI E g3 40 pr, cI E g4 40 ra, cI E g5 40 wn, cI E g6 40 sh, cI E g7 40 rt, cI E g8 40 st, cI E g9 40 ag]) C 2 rfl (by decide) (by omega) (by omega) dX1_give_109 rfl ?_
            refine rg_aload_n C 2 dX1_give_110 rfl rfl ?_
            refine rg_get C fX1_48 4 rfl rfl dX1_give_111 ?_
            refine rg_iload C 6 dX1_give_114 rfl ?_
            refine rg_iald C 6 rfl (by decide) (by omega) (by omega) dX1_give_116 ?_
            refine rg_istore (lv' := [(6, .int (iI (be a.toNat))), (5, .int (iI 1)), (0, .ref p0), (1, .ref v0), (2, .ref g0), (3, .int (iI r)), (4, .int (iI am)), (7, .int (iI k))]) C dX1_give_117 (by decide) rfl ?_
            refine rg_iinc (k := 7) (lv' := [(7, .int (iI (k + 1))), (6, .int (iI (be a.toNat))), (5, .int (iI 1)), (0, .ref p0), (1, .ref v0), (2, .ref g0), (3, .int (iI r)), (4, .int (iI am))]) C dX1_give_119 rfl (by decide) rfl ?_
            refine rg_goto (tgt := 46) C dX1_give_122 (by decide) ?_
            refine rG.plv [3, 4, 5, 6, 7, 2, 1, 0] rfl ?_
            exact ih (k + 1) (be a.toNat) true ro (uZ f a.toNat ((f a.toNat) - (am - am * sh r.toNat / 1000))) (by omega) hb9 (fun _ => h9) hro (h3.trans (givW_t h1.1 (by omega) (by omega) hc9)) (by omega)
          · refine rg_iload C 6 dX1_give_64 rfl ?_
            refine rg_aload_n C 2 dX1_give_66 rfl rfl ?_
            refine rg_get C fX1_87 9 rfl rfl dX1_give_67 ?_
            refine rg_iload_n C 3 dX1_give_70 rfl rfl ?_
            refine rg_iald C 16 rfl (by decide) (by omega) (by omega) dX1_give_71 ?_
            refine rg_icmp_ne (tgt := 79) C ⟨by omega, by omega⟩ ⟨by omega, by omega⟩ dX1_give_72 (by decide) (fun h_72 => ?_) (fun h_72 => ?_)
            · refine rg_iconst C dX1_give_79 ?_
              refine rg_istore (lv' := [(5, .int (iI 0)), (0, .ref p0), (1, .ref v0), (2, .ref g0), (3, .int (iI r)), (4, .int (iI am)), (6, .int (iI a)), (7, .int (iI k))]) C dX1_give_80 (by decide) rfl ?_
              refine rg_aload_n C 1 dX1_give_82 rfl rfl ?_
              refine rg_get C fX1_15 0 rfl rfl dX1_give_83 ?_
              refine rg_iload C 6 dX1_give_86 rfl ?_
              refine rg_dup2 C dX1_give_88 rfl rfl ?_
              refine rg_lald C 2 rfl (by decide) (by omega) (by omega) dX1_give_89 ?_
              refine rg_iload C 0 dX1_give_90 rfl ?_
              refine rg_if_eq (tgt := 105) C ⟨by decide, by decide⟩ dX1_give_92 (by decide) (fun h_92 => ?_) (fun h_92 => absurd h_92 (by omega))
              refine rg_iload C 5 dX1_give_105 rfl ?_
              refine rg_i2l C ⟨by omega, by omega⟩ dX1_give_107 ?_
              refine rg_lsub C dX1_give_108 ?_
              refine rg_last (ws' := [cO p0 1 [.ref p1, .ref p2, .ref p3], cI E p1 40 (uZ get r.toNat am), cJ E p2 32 (uZ f a.toNat ((f a.toNat) - am)), cI E p3 8 ro, cO v0 4 [.ref v1, .ref v2, .ref v3, .ref v4, .int (iI out)], cZ E v1 32 th, cI E v2 32 be, cI E v3 32 inf, cJ E v4 32 snt, cO g0 3 [.ref g1, .ref g2, .ref g3, .ref g4, .ref g5, .ref g6, .ref g7, .ref g8, .ref g9, .int (iI cn)], cZ E g1 40 g, cI E g2 40 pl, cI E g3 40 pr, cI E g4 40 ra, cI E g5 40 wn, cI E g6 40 sh, cI E g7 40 rt, cI E g8 40 st, cI E g9 40 ag]) C 2 rfl (by decide) (by omega) (by omega) dX1_give_109 rfl ?_
              refine rg_aload_n C 2 dX1_give_110 rfl rfl ?_
              refine rg_get C fX1_48 4 rfl rfl dX1_give_111 ?_
              refine rg_iload C 6 dX1_give_114 rfl ?_
              refine rg_iald C 6 rfl (by decide) (by omega) (by omega) dX1_give_116 ?_
              refine rg_istore (lv' := [(6, .int (iI (be a.toNat))), (5, .int (iI 0)), (0, .ref p0), (1, .ref v0), (2, .ref g0), (3, .int (iI r)), (4, .int (iI am)), (7, .int (iI k))]) C dX1_give_117 (by decide) rfl ?_
              refine rg_iinc (k := 7) (lv' := [(7, .int (iI (k + 1))), (6, .int (iI (be a.toNat))), (5, .int (iI 0)), (0, .ref p0), (1, .ref v0), (2, .ref g0), (3, .int (iI r)), (4, .int (iI am))]) C dX1_give_119 rfl (by decide) rfl ?_
              refine rg_goto (tgt := 46) C dX1_give_122 (by decide) ?_
              refine rG.plv [3, 4, 5, 6, 7, 2, 1, 0] rfl ?_
              exact ih (k + 1) (be a.toNat) false ro (uZ f a.toNat ((f a.toNat) - am)) (by omega) hb9 (fun q => by cases q) hro (h3.trans (givW_f h1.1 (by omega) (by omega) (bZ_F h_61) h_72)) (by omega)
            · refine rg_iconst C dX1_give_75 ?_
              refine rg_goto (tgt := 80) C dX1_give_76 (by decide) ?_
              refine rg_istore (lv' := [(5, .int (iI 1)), (0, .ref p0), (1, .ref v0), (2, .ref g0), (3, .int (iI r)), (4, .int (iI am)), (6, .int (iI a)), (7, .int (iI k))]) C dX1_give_80 (by decide) rfl ?_
              refine rg_aload_n C 1 dX1_give_82 rfl rfl ?_
              refine rg_get C fX1_15 0 rfl rfl dX1_give_83 ?_
              refine rg_iload C 6 dX1_give_86 rfl ?_
              refine rg_dup2 C dX1_give_88 rfl rfl ?_
              refine rg_lald C 2 rfl (by decide) (by omega) (by omega) dX1_give_89 ?_
              refine rg_iload C 0 dX1_give_90 rfl ?_
              refine rg_if_eq (tgt := 105) C ⟨by decide, by decide⟩ dX1_give_92 (by decide) (fun h_92 => absurd h_92 (by omega)) (fun h_92 => ?_)
              have h9 : 0 ≤ rt r.toNat := by first | exact h4 (bZ_T h_61) | omega
              have hc9 : cb = true ∨ a = rt r.toNat := by first | exact Or.inl (bZ_T h_61) | exact Or.inr (by omega)
              have hs7 := hsh h9
              refine rg_aload_n C 3 dX1_give_95 rfl rfl ?_
              refine rg_iload_n C 4 dX1_give_96 rfl rfl ?_
              refine rg_iload C 5 dX1_give_97 rfl ?_
              refine rg_callV (As := [.int (iI r), .int (iI am)]) (rest := [.long (lI (f a.toNat)), .int (iI a), .ref p2]) (wr := [cO p0 1 [.ref p1, .ref p2, .ref p3], cI E p1 40 (uZ get r.toNat am), cJ E p2 32 f, cI E p3 8 ro, cO v0 4 [.ref v1, .ref v2, .ref v3, .ref v4, .int (iI out)], cZ E v1 32 th, cI E v2 32 be, cI E v3 32 inf, cJ E v4 32 snt]) (w' := fun _ => [cO p0 1 [.ref p1, .ref p2, .ref p3], cI E p1 40 (uZ get r.toNat am), cJ E p2 32 f, cI E p3 8 ro, cO v0 4 [.ref v1, .ref v2, .ref v3, .ref v4, .int (iI out)], cZ E v1 32 th, cI E v2 32 be, cI E v3 32 inf, cJ E v4 32 snt, cO g0 3 [.ref g1, .ref g2, .ref g3, .ref g4, .ref g5, .ref g6, .ref g7, .ref g8, .ref g9, .int (iI cn)], cZ E g1 40 g, cI E g2 40 pl, cI E g3 40 pr, cI E g4 40 ra, cI E g5 40 wn, cI E g6 40 sh, cI E g7 40 rt, cI E g8 40 st, cI E g9 40 ag]) C (kX3_usedOf l E g0 g1 g2 g3 g4 g5 g6 g7 g8 g9 g pl pr ra wn sh rt st ag cn r am (by first | assumption | omega) (by first | assumption | omega) (by first | assumption | omega)) (rcwV C mX3_usedOf w_266 ⟨Nat.le_of_ble_eq_true rfl, Nat.le_of_ble_eq_true rfl⟩) [9, 10, 11, 12, 13, 14, 15, 16, 17, 18] [0, 1, 2, 3, 4, 5, 6, 7, 8] [0, 1, 2, 3, 4, 5, 6, 7, 8, 9, 10, 11, 12, 13, 14, 15, 16, 17, 18] rfl rfl (by decide) (by decide) (by decide) (fun _ => rfl) (by decide) 0 rfl rfl rfl rfl (Nat.le_of_ble_eq_true rfl) dX1_give_99 ⟨Nat.le_of_ble_eq_true rfl, Nat.le_of_ble_eq_true rfl⟩ (fun _ => ?_)
              show rG p l e rX1_give s m args below meth c E A 8 0 0 Q [cO p0 1 [.ref p1, .ref p2, .ref p3], cI E p1 40 (uZ get r.toNat am), cJ E p2 32 f, cI E p3 8 ro, cO v0 4 [.ref v1, .ref v2, .ref v3, .ref v4, .int (iI out)], cZ E v1 32 th, cI E v2 32 be, cI E v3 32 inf, cJ E v4 32 snt, cO g0 3 [.ref g1, .ref g2, .ref g3, .ref g4, .ref g5, .ref g6, .ref g7, .ref g8, .ref g9, .int (iI cn)], cZ E g1 40 g, cI E g2 40 pl, cI E g3 40 pr, cI E g4 40 ra, cI E g5 40 wn, cI E g6 40 sh, cI E g7 40 rt, cI E g8 40 st, cI E g9 40 ag] 102 [(5, .int (iI 1)), (0, .ref p0), (1, .ref v0), (2, .ref g0), (3, .int (iI r)), (4, .int (iI am)), (6, .int (iI a)), (7, .int (iI k))] [.long (lI (am - am * sh r.toNat / 1000)), .long (lI (f a.toNat)), .int (iI a), .ref p2]
              refine rg_goto (tgt := 108) C dX1_give_102 (by decide) ?_
              refine rg_lsub C dX1_give_108 ?_
              refine rg_last (ws' := [cO p0 1 [.ref p1, .ref p2, .ref p3], cI E p1 40 (uZ get r.toNat am), cJ E p2 32 (uZ f a.toNat ((f a.toNat) - (am - am * sh r.toNat / 1000))), cI E p3 8 ro, cO v0 4 [.ref v1, .ref v2, .ref v3, .ref v4, .int (iI out)], cZ E v1 32 th, cI E v2 32 be, cI E v3 32 inf, cJ E v4 32 snt, cO g0 3 [.ref g1, .ref g2, .ref g3, .ref g4, .ref g5, .ref g6, .ref g7, .ref g8, .ref g9, .int (iI cn)], cZ E g1 40 g, cI E g2 40 pl, cI E g3 40 pr, cI E g4 40 ra, cI E g5 40 wn, cI E g6 40 sh, cI E g7 40 rt, cI E g8 40 st, cI E g9 40 ag]) C 2 rfl (by decide) (by omega) (by omega) dX1_give_109 rfl ?_
              refine rg_aload_n C 2 dX1_give_110 rfl rfl ?_
              refine rg_get C fX1_48 4 rfl rfl dX1_give_111 ?_
              refine rg_iload C 6 dX1_give_114 rfl ?_
              refine rg_iald C 6 rfl (by decide) (by omega) (by omega) dX1_give_116 ?_
              refine rg_istore (lv' := [(6, .int (iI (be a.toNat))), (5, .int (iI 1)), (0, .ref p0), (1, .ref v0), (2, .ref g0), (3, .int (iI r)), (4, .int (iI am)), (7, .int (iI k))]) C dX1_give_117 (by decide) rfl ?_
              refine rg_iinc (k := 7) (lv' := [(7, .int (iI (k + 1))), (6, .int (iI (be a.toNat))), (5, .int (iI 1)), (0, .ref p0), (1, .ref v0), (2, .ref g0), (3, .int (iI r)), (4, .int (iI am))]) C dX1_give_119 rfl (by decide) rfl ?_
              refine rg_goto (tgt := 46) C dX1_give_122 (by decide) ?_
              refine rG.plv [3, 4, 5, 6, 7, 2, 1, 0] rfl ?_
              exact ih (k + 1) (be a.toNat) true ro (uZ f a.toNat ((f a.toNat) - (am - am * sh r.toNat / 1000))) (by omega) hb9 (fun _ => h9) hro (h3.trans (givW_t h1.1 (by omega) (by omega) hc9)) (by omega)
  show rG p l e rX1_give s m args below meth c E A 8 0 0 Q [cO p0 1 [.ref p1, .ref p2, .ref p3], cI E p1 40 get, cJ E p2 32 flo, cI E p3 8 roo, cO v0 4 [.ref v1, .ref v2, .ref v3, .ref v4, .int (iI out)], cZ E v1 32 th, cI E v2 32 be, cI E v3 32 inf, cJ E v4 32 snt, cO g0 3 [.ref g1, .ref g2, .ref g3, .ref g4, .ref g5, .ref g6, .ref g7, .ref g8, .ref g9, .int (iI cn)], cZ E g1 40 g, cI E g2 40 pl, cI E g3 40 pr, cI E g4 40 ra, cI E g5 40 wn, cI E g6 40 sh, cI E g7 40 rt, cI E g8 40 st, cI E g9 40 ag] 0 [(0, .ref p0), (1, .ref v0), (2, .ref g0), (3, .int (iI r)), (4, .int (iI am))] []
  refine rg_aload_n C 0 dX1_give_0 rfl rfl ?_
  refine rg_get C fX1_9 0 rfl rfl dX1_give_1 ?_
  refine rg_iload_n C 3 dX1_give_4 rfl rfl ?_
  refine rg_iload C 4 dX1_give_5 rfl ?_
  refine rg_iast (ws' := [cO p0 1 [.ref p1, .ref p2, .ref p3], cI E p1 40 (uZ get r.toNat am), cJ E p2 32 flo, cI E p3 8 roo, cO v0 4 [.ref v1, .ref v2, .ref v3, .ref v4, .int (iI out)], cZ E v1 32 th, cI E v2 32 be, cI E v3 32 inf, cJ E v4 32 snt, cO g0 3 [.ref g1, .ref g2, .ref g3, .ref g4, .ref g5, .ref g6, .ref g7, .ref g8, .ref g9, .int (iI cn)], cZ E g1 40 g, cI E g2 40 pl, cI E g3 40 pr, cI E g4 40 ra, cI E g5 40 wn, cI E g6 40 sh, cI E g7 40 rt, cI E g8 40 st, cI E g9 40 ag]) C 1 rfl (by decide) (by omega) (by omega) dX1_give_7 rfl ?_
  refine rg_aload_n C 2 dX1_give_8 rfl rfl ?_
  refine rg_iload_n C 3 dX1_give_9 rfl rfl ?_
  refine rg_callV (As := [.int (iI r)]) (rest := []) (wr := [cO p0 1 [.ref p1, .ref p2, .ref p3], cI E p1 40 (uZ get r.toNat am), cJ E p2 32 flo, cI E p3 8 roo, cO v0 4 [.ref v1, .ref v2, .ref v3, .ref v4, .int (iI out)], cZ E v1 32 th, cI E v2 32 be, cI E v3 32 inf, cJ E v4 32 snt]) (w' := fun _ => [cO p0 1 [.ref p1, .ref p2, .ref p3], cI E p1 40 (uZ get r.toNat am), cJ E p2 32 flo, cI E p3 8 roo, cO v0 4 [.ref v1, .ref v2, .ref v3, .ref v4, .int (iI out)], cZ E v1 32 th, cI E v2 32 be, cI E v3 32 inf, cJ E v4 32 snt, cO g0 3 [.ref g1, .ref g2, .ref g3, .ref g4, .ref g5, .ref g6, .ref g7, .ref g8, .ref g9, .int (iI cn)], cZ E g1 40 g, cI E g2 40 pl, cI E g3 40 pr, cI E g4 40 ra, cI E g5 40 wn, cI E g6 40 sh, cI E g7 40 rt, cI E g8 40 st, cI E g9 40 ag]) C (kX3_isStorage l E g0 g1 g2 g3 g4 g5 g6 g7 g8 g9 g pl pr ra wn sh rt st ag cn r (by first | assumption | omega) (fun i hi => ⟨by have := hst i hi; omega, by have := hst i hi; omega⟩)) (rcwV C mX3_isStorage w_249 ⟨Nat.le_of_ble_eq_true rfl, Nat.le_of_ble_eq_true rfl⟩) [9, 10, 11, 12, 13, 14, 15, 16, 17, 18] [0, 1, 2, 3, 4, 5, 6, 7, 8] [0, 1, 2, 3, 4, 5, 6, 7, 8, 9, 10, 11, 12, 13, 14, 15, 16, 17, 18] rfl rfl (by decide) (by decide) (by decide) (fun _ => rfl) (by decide) 0 rfl rfl rfl rfl (Nat.le_of_ble_eq_true rfl) dX1_give_10 ⟨Nat.le_of_ble_eq_true rfl, Nat.le_of_ble_eq_true rfl⟩ (fun _ => ?_)
  show rG p l e rX1_give s m args below meth c E A 8 0 0 Q [cO p0 1 [.ref p1, .ref p2, .ref p3], cI E p1 40 (uZ get r.toNat am), cJ E p2 32 flo, cI E p3 8 roo, cO v0 4 [.ref v1, .ref v2, .ref v3, .ref v4, .int (iI out)], cZ E v1 32 th, cI E v2 32 be, cI E v3 32 inf, cJ E v4 32 snt, cO g0 3 [.ref g1, .ref g2, .ref g3, .ref g4, .ref g5, .ref g6, .ref g7, .ref g8, .ref g9, .int (iI cn)], cZ E g1 40 g, cI E g2 40 pl, cI E g3 40 pr, cI E g4 40 ra, cI E g5 40 wn, cI E g6 40 sh, cI E g7 40 rt, cI E g8 40 st, cI E g9 40 ag] 13 [(0, .ref p0), (1, .ref v0), (2, .ref g0), (3, .int (iI r)), (4, .int (iI am))] [.int (iI (bZ (decide (st r.toNat ≠ -1))))]
  refine rg_if_eq (tgt := 32) C (bZ_in _) dX1_give_13 (by decide) (fun h_13 => ?_) (fun h_13 => ?_)
  · refine rg_iconst C dX1_give_32 ?_
    refine rg_istore (lv' := [(5, .int (iI 0)), (0, .ref p0), (1, .ref v0), (2, .ref g0), (3, .int (iI r)), (4, .int (iI am))]) C dX1_give_33 (by decide) rfl ?_
    refine rg_aload_n C 3 dX1_give_35 rfl rfl ?_
    refine rg_get C fX1_84 9 rfl rfl dX1_give_36 ?_
    refine rg_iload_n C 4 dX1_give_39 rfl rfl ?_
    refine rg_iald C 11 rfl (by decide) (by omega) (by omega) dX1_give_40 ?_
    refine rg_istore (lv' := [(6, .int (iI (pl r.toNat))), (5, .int (iI 0)), (0, .ref p0), (1, .ref v0), (2, .ref g0), (3, .int (iI r)), (4, .int (iI am))]) C dX1_give_41 (by decide) rfl ?_
    refine rg_iconst C dX1_give_43 ?_
    refine rg_istore (lv' := [(7, .int (iI 0)), (6, .int (iI (pl r.toNat))), (5, .int (iI 0)), (0, .ref p0), (1, .ref v0), (2, .ref g0), (3, .int (iI r)), (4, .int (iI am))]) C dX1_give_44 (by decide) rfl ?_
    refine rG.plv [3, 4, 5, 6, 7, 2, 1, 0] rfl ?_
    exact L46 _ 0 (pl r.toNat) false roo flo (by omega) hpl (fun q => by cases q) (by rw [if_neg (dec0.mp h_13)]) rfl (Nat.lt_succ_self _)
  · have hs9 : st r.toNat ≠ -1 := Decidable.byContradiction fun q => h_13 (dec0.mpr q)
    have hs8 := hst r.toNat (by omega)
    refine rg_aload_n C 0 dX1_give_16 rfl rfl ?_
    refine rg_get C fX1_19 0 rfl rfl dX1_give_17 ?_
    refine rg_aload_n C 2 dX1_give_20 rfl rfl ?_
    refine rg_get C fX1_75 9 rfl rfl dX1_give_21 ?_
    refine rg_iload_n C 3 dX1_give_24 rfl rfl ?_
    refine rg_iald C 17 rfl (by decide) (by omega) (by omega) dX1_give_25 ?_
    refine rg_dup2 C dX1_give_26 rfl rfl ?_
    refine rg_iald C 3 rfl (by decide) (by omega) (by omega) dX1_give_27 ?_
    refine rg_iload C 4 dX1_give_28 rfl ?_
    refine rg_isub C dX1_give_30 ?_
    refine rg_iast (ws' := [cO p0 1 [.ref p1, .ref p2, .ref p3], cI E p1 40 (uZ get r.toNat am), cJ E p2 32 flo, cI E p3 8 (uZ roo (st r.toNat).toNat ((roo (st r.toNat).toNat) - am)), cO v0 4 [.ref v1, .ref v2, .ref v3, .ref v4, .int (iI out)], cZ E v1 32 th, cI E v2 32 be, cI E v3 32 inf, cJ E v4 32 snt, cO g0 3 [.ref g1, .ref g2, .ref g3, .ref g4, .ref g5, .ref g6, .ref g7, .ref g8, .ref g9, .int (iI cn)], cZ E g1 40 g, cI E g2 40 pl, cI E g3 40 pr, cI E g4 40 ra, cI E g5 40 wn, cI E g6 40 sh, cI E g7 40 rt, cI E g8 40 st, cI E g9 40 ag]) C 3 rfl (by decide) (by omega) (by omega) dX1_give_31 rfl ?_
    refine rg_iconst C dX1_give_32 ?_
    refine rg_istore (lv' := [(5, .int (iI 0)), (0, .ref p0), (1, .ref v0), (2, .ref g0), (3, .int (iI r)), (4, .int (iI am))]) C dX1_give_33 (by decide) rfl ?_
    refine rg_aload_n C 3 dX1_give_35 rfl rfl ?_
    refine rg_get C fX1_84 9 rfl rfl dX1_give_36 ?_
    refine rg_iload_n C 4 dX1_give_39 rfl rfl ?_
    refine rg_iald C 11 rfl (by decide) (by omega) (by omega) dX1_give_40 ?_
    refine rg_istore (lv' := [(6, .int (iI (pl r.toNat))), (5, .int (iI 0)), (0, .ref p0), (1, .ref v0), (2, .ref g0), (3, .int (iI r)), (4, .int (iI am))]) C dX1_give_41 (by decide) rfl ?_
    refine rg_iconst C dX1_give_43 ?_
    refine rg_istore (lv' := [(7, .int (iI 0)), (6, .int (iI (pl r.toNat))), (5, .int (iI 0)), (0, .ref p0), (1, .ref v0), (2, .ref g0), (3, .int (iI r)), (4, .int (iI am))]) C dX1_give_44 (by decide) rfl ?_
    refine rG.plv [3, 4, 5, 6, 7, 2, 1, 0] rfl ?_
    exact L46 _ 0 (pl r.toNat) false (uZ roo (st r.toNat).toNat ((roo (st r.toNat).toNat) - am)) flo (by omega) hpl (fun q => by cases q) (by rw [if_pos hs9]) rfl (Nat.lt_succ_self _)
