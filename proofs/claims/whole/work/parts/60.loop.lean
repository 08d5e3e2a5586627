theorem Inv.mono {X : WS} {n : Int} (h : Inv X n) : Inv X (n + 1) := by
  obtain ⟨hv, hs, hg, hrl, hp, h8, hdy⟩ := h
  exact ⟨hv, hs, hg, hrl.mono, hp, h8, hdy.1, by have := hdy.2; omega⟩
set_option maxHeartbeats 4000000 in
set_option maxRecDepth 100000 in
theorem law_loop {p : Program} {l : Launch} {e : Env} {s : State} {m : MethodId} {below : List Frame} {meth : Method} {c : Code} {E : rE} {A : Nat → Prop} {Q : State → Prop} {Ts : List Cond} {b L : Nat} {sc : Nat → Int} (hl0 : noTr l) (C : rC p s m #[Value.ref b] c E A 8 code Ts RL) (hz : xW s) (hA : A = va_A [] s.heap.size) (hX : scr s A b L sc) (hr : meth.sig.returnType = ret) (hlk : meth.locks = false) (hQ : Q = lw_Z below #[Value.ref b] s) (aa bb : Nat → Nat) (oa : Nat) : ∀ (k : Nat) (X : WS) (o : Nat → Int) (n i : Int), Inv X n → 0 ≤ n → i = 7 * n → i ≤ (L : Int) → ((L : Int) - i).toNat < k → rG p l e room_1 s m #[Value.ref b] below meth c E A 8 (53 + n.toNat) (2163 + 6 * n.toNat) Q (dk E aa X.1 ++ (md E bb X ++ [cJ E oa 1 o])) 23 [(0, .ref b), (1, .ref (aa 0)), (2, .ref (bb 0)), (3, .ref oa), (4, .int (iI i))] [] := by
  have hL := hX.2.2.2.1
  intro k
  induction k with
  | zero => intro X o n i _ _ _ _ h; exact absurd h (Nat.not_lt_zero _)
  | succ k ih =>
    intro X o n i h hn0 hin hiL hk
    have hn : 0 ≤ n ∧ n ≤ 512 := by omega
    refine rg_iload C 4 dL_law_23 rfl ?_
    refine rg_aload_n C 0 dL_law_25 rfl rfl ?_
    refine rg_slen C hX dL_law_26 ?_
    refine rg_bipush (z := 7) C dL_law_27 rfl ?_
    refine rg_isub C dL_law_29 ?_
    refine rg_icmp_gt (tgt := 1053) C (by omega) (by omega) dL_law_30 (by decide) (fun h_30 => ?_) (fun h_30 => ?_)
    · refine rg_iconst C dL_law_1053 ?_
      intro H locs la hP hD hS hl
      subst hQ
      refine va_forget (fun q hq => ?_) ?_
      · have h1 := hS.2.2 q hq
        rw [hA] at h1
        rcases h1 with ⟨k1, e1, h1⟩ | h1
        · simp at h1
        · exact h1
      · refine W.widen (k := 1083) (n := 10391) (by omega) (by omega) ?_
        exact lw_ret C.1.1 C.1.2.1 hr hlk dL_law_1054
    · have kk : ∀ (X1 : WS) (o1 : Nat → Int), Inv X1 (n + 1) → rG p l e room_1 s m #[Value.ref b] below meth c E A 8 (53 + n.toNat + 1) (2163 + 6 * n.toNat + 6) Q (dk E aa X1.1 ++ (md E bb X1 ++ [cJ E oa 1 o1])) 1047 [(0, .ref b), (1, .ref (aa 0)), (2, .ref (bb 0)), (3, .ref oa), (4, .int (iI i))] [] := fun X1 o1 h1 => by
        refine rg_iinc (lv' := [(4, .int (iI (i + 7))), (0, .ref b), (1, .ref (aa 0)), (2, .ref (bb 0)), (3, .ref oa)]) (k := 4) C dL_law_1047 rfl (by decide) rfl ?_
        refine rg_goto (tgt := 23) C dL_law_1050 (by decide) ?_
        refine rG.plv (lv' := [(0, .ref b), (1, .ref (aa 0)), (2, .ref (bb 0)), (3, .ref oa), (4, .int (iI (i + 7)))]) [1, 2, 3, 4, 0] rfl ?_
        have ihh := ih X1 o1 (n + 1) (i + 7) h1 (by omega) (by omega) (by omega) (by omega)
        rw [show 53 + (n + 1).toNat = 53 + n.toNat + 1 by omega, show 2163 + 6 * (n + 1).toNat = 2163 + 6 * n.toNat + 6 by omega] at ihh
        exact ihh
      refine rg_aload_n C 0 dL_law_33 rfl rfl ?_
      refine rg_iload C 4 dL_law_34 rfl ?_
      refine rg_sld C hX (by omega) (by omega) dL_law_36 ?_
      refine rg_bipush (z := 31) C dL_law_37 rfl ?_
      refine rg_and31 C dL_law_39 (fun y hy => ?_)
      by_cases h18 : 18 ≤ y
      · refine rg_tableOut (tgt := 1047) C (by omega) dL_law_40 (Or.inr (by omega)) (by decide) ?_
        refine rG.wide (k := 53 + n.toNat + 1) (n := 2163 + 6 * n.toNat + 6) (Nat.le_succ _) (Nat.le_add_right _ _) ?_
        exact kk X o h.mono
      have hh : y = 0 ∨ y = 1 ∨ y = 2 ∨ y = 3 ∨ y = 4 ∨ y = 5 ∨ y = 6 ∨ y = 7 ∨ y = 8 ∨ y = 9 ∨ y = 10 ∨ y = 11 ∨ y = 12 ∨ y = 13 ∨ y = 14 ∨ y = 15 ∨ y = 16 ∨ y = 17 := by omega
      rcases hh with rfl | rfl | rfl | rfl | rfl | rfl | rfl | rfl | rfl | rfl | rfl | rfl | rfl | rfl | rfl | rfl | rfl | rfl
      · exact rg_tableIn (off := 88) (tgt := 128) C (by decide) dL_law_40 (by decide) (by decide) rfl (by decide) (lc_reach hl0 C hz hA hX aa bb X oa o n i h hn (by omega) (by omega) kk)
      · exact rg_tableIn (off := 136) (tgt := 176) C (by decide) dL_law_40 (by decide) (by decide) rfl (by decide) (lc_reservoir hl0 C hz hA hX aa bb X oa o n i h hn (by omega) (by omega) kk)
      · exact rg_tableIn (off := 196) (tgt := 236) C (by decide) dL_law_40 (by decide) (by decide) rfl (by decide) (lc_right hl0 C hz hA hX aa bb X oa o n i h hn (by omega) (by omega) kk)
      · exact rg_tableIn (off := 294) (tgt := 334) C (by decide) dL_law_40 (by decide) (by decide) rfl (by decide) (lc_storage hl0 C hz hA hX aa bb X oa o n i h hn (by omega) (by omega) kk)
      · exact rg_tableIn (off := 378) (tgt := 418) C (by decide) dL_law_40 (by decide) (by decide) rfl (by decide) (lc_drop hl0 C hz hA hX aa bb X oa o n i h hn (by omega) (by omega) kk)
      · exact rg_tableIn (off := 414) (tgt := 454) C (by decide) dL_law_40 (by decide) (by decide) rfl (by decide) (lc_want hl0 C hz hA hX aa bb X oa o n i h hn (by omega) (by omega) kk)
      · exact rg_tableIn (off := 462) (tgt := 502) C (by decide) dL_law_40 (by decide) (by decide) rfl (by decide) (lc_inflow hl0 C hz hA hX aa bb X oa o n i h hn (by omega) (by omega) kk)
      · exact rg_tableIn (off := 510) (tgt := 550) C (by decide) dL_law_40 (by decide) (by decide) rfl (by decide) (lc_release hl0 C hz hA hX aa bb X oa o n i h hn (by omega) (by omega) kk)
      · exact rg_tableIn (off := 590) (tgt := 630) C (by decide) dL_law_40 (by decide) (by decide) rfl (by decide) (lc_plan hl0 C hz hA hX aa bb X oa o n i h hn (by omega) (by omega) kk)
      · exact rg_tableIn (off := 603) (tgt := 643) C (by decide) dL_law_40 (by decide) (by decide) rfl (by decide) (lc_given hl0 C hz hA hX aa bb X oa o n i h hn (by omega) (by omega) kk)
      · exact rg_tableIn (off := 659) (tgt := 699) C (by decide) dL_law_40 (by decide) (by decide) rfl (by decide) (lc_flow hl0 C hz hA hX aa bb X oa o n i h hn (by omega) (by omega) kk)
      · exact rg_tableIn (off := 726) (tgt := 766) C (by decide) dL_law_40 (by decide) (by decide) rfl (by decide) (lc_call hl0 C hz hA hX aa bb X oa o n i h hn (by omega) (by omega) kk)
      · exact rg_tableIn (off := 782) (tgt := 822) C (by decide) dL_law_40 (by decide) (by decide) rfl (by decide) (lc_futile hl0 C hz hA hX aa bb X oa o n i h hn (by omega) (by omega) kk)
      · exact rg_tableIn (off := 857) (tgt := 897) C (by decide) dL_law_40 (by decide) (by decide) rfl (by decide) (lc_close hl0 C hz hA hX aa bb X oa o n i h hn (by omega) (by omega) kk)
      · exact rg_tableIn (off := 870) (tgt := 910) C (by decide) dL_law_40 (by decide) (by decide) rfl (by decide) (lc_held hl0 C hz hA hX aa bb X oa o n i h hn (by omega) (by omega) kk)
      · exact rg_tableIn (off := 907) (tgt := 947) C (by decide) dL_law_40 (by decide) (by decide) rfl (by decide) (lc_book hl0 C hz hA hX aa bb X oa o n i h hn (by omega) (by omega) kk)
      · exact rg_tableIn (off := 945) (tgt := 985) C (by decide) dL_law_40 (by decide) (by decide) rfl (by decide) (lc_about hl0 C hz hA hX aa bb X oa o n i h hn (by omega) (by omega) kk)
      · exact rg_tableIn (off := 982) (tgt := 1022) C (by decide) dL_law_40 (by decide) (by decide) rfl (by decide) (lc_aged hl0 C hz hA hX aa bb X oa o n i h hn (by omega) (by omega) kk)
