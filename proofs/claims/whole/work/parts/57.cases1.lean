theorem inv_rg {th be inf g pl pr ra wn sh rt st ag wnt shr bck : Nat → Int} {cn out : Int} (hv : iRv th be inf out) (hg : iRg th be g pl pr ra wn sh rt st ag cn wnt shr bck) : ∀ i : Nat, i < 40 → g i ≠ 0 → (0 ≤ pl i ∧ pl i < 32 ∧ pEnd be 32 (pl i)) ∧ (st i < 0 → 0 ≤ bck i ∧ bck i < 32 ∧ pEnd be 32 (bck i) ∧ 0 ≤ shr i ∧ shr i ≤ 1000) := fun i hi hgi => by
  obtain ⟨q1, q2, q3, q4⟩ := hg.2.2.2.2.2.2.2.2.2 i hi hgi
  refine ⟨⟨q1.1, q1.2.1, hv.ends q1.1 q1.2.1 q1.2.2⟩, fun hs => ?_⟩
  rcases q4 with ⟨e, hr, hm, hsh, e1, e2⟩ | ⟨e, _⟩
  · rw [e1, e2]; exact ⟨hr.1, hr.2.1, hv.ends hr.1 hr.2.1 hr.2.2, hsh.1, hsh.2⟩
  · omega
theorem inv_sr {th be inf sth srch cap wat : Nat → Int} {out : Int} (hv : iRv th be inf out) (hs : iRs th sth srch cap wat) : ∀ s : Nat, s < 8 → sth s ≠ 0 → 0 ≤ srch s ∧ srch s < 32 ∧ pEnd be 32 (srch s) := fun s h1 h2 => by
  obtain ⟨a, b, c⟩ := hs.2.1 s h1 h2
  exact ⟨a, b, hv.ends a b c⟩
theorem thr_md (l : Launch) (E : rE) (bb : Nat → Nat) (X : WS) : rM l yX6_thrown sX6_thrown rX6_thrown E (md E bb X) [.ref (bb 0)] (some (.int (iI (thr X)))) (fun _ : Unit => md E bb X) := by
  obtain ⟨⟨th, be, inf, snt, out, sth, srch, cap, wat, rel, g, pl, pr, ra, wn, sh, rt, st, ag, cn, ent, day, get, flo, roo, sget, sflo, sroo, stale⟩, thr, rls, wnt, shr, bck, amt, fst, ord, rgs⟩ := X
  exact kX6_thrown l E (bb 0) (bb 1) (bb 2) (bb 3) (bb 4) (bb 5) (bb 6) (bb 7) (bb 8) (bb 9) (bb 10) (bb 11) (bb 12) (bb 13) (bb 14) (bb 15) (bb 16) (bb 17) (bb 18) (bb 19) (bb 20) th be inf sth srch cap wat rls g pl pr ra shr bck st wnt ent amt fst ord thr day rgs
set_option maxHeartbeats 4000000 in
set_option maxRecDepth 100000 in
theorem cs_drop (l : Launch) (hl0 : noTr l) (E : rE) (aa bb : Nat → Nat) (X : WS) (n : Int) (h : Inv X n) (hn : 0 ≤ n ∧ n ≤ 512) (r : Int) (hIr : inI r) : ∃ (X1 : WS) (k : Int), inI k ∧ Inv X1 (n + 1) ∧ thr X1 = k ∧ rMZ xW l yL_drop sL_drop rL E (dk E aa X.1) [.ref (aa 0), .int (iI r)] (some (.int (iI k))) (fun _ : Unit => dk E aa X1.1) ∧ rM l yX6_drop sX6_drop rX6_drop E (md E bb X) [.ref (bb 0), .int (iI r)] none (fun _ : Unit => md E bb X1) := by
  obtain ⟨⟨th, be, inf, snt, out, sth, srch, cap, wat, rel, g, pl, pr, ra, wn, sh, rt, st, ag, cn, ent, day, get, flo, roo, sget, sflo, sroo, stale⟩, thr, rls, wnt, shr, bck, amt, fst, ord, rgs⟩ := X
  obtain ⟨hv, hs, hg, hrl, hp, h8, hdy⟩ := h
  replace hv : iRv th be inf out := hv
  replace hs : iRs th sth srch cap wat := hs
  replace hg : iRg th be g pl pr ra wn sh rt st ag cn wnt shr bck := hg
  replace hrl : iRl th be sth srch snt rel rls n := hrl
  replace hp : iPl be inf cap wat pl sh rt st wn ag cn stale (get, flo, roo) := hp
  replace h8 : ∀ i : Nat, i < 40 → g i ≠ 0 → 0 ≤ st i → sth (st i).toNat ≠ 0 := h8
  replace hdy : 0 ≤ day ∧ day ≤ n := hdy
  obtain ⟨v1, v2, v3, v4, v5, v6, v7, v8, v9⟩ := id hv
  obtain ⟨s1, s2, s3, s4, s5, s6⟩ := id hs
  obtain ⟨g1, g2, g3, g4, g5, g6, g7, g8, g9, g10⟩ := id hg
  have hE := hv.E
  have hdn : day ≤ n + 1 := by omega
  have hag : ∀ j : Nat, (j : Int) < cn → 0 ≤ ag j ∧ ag j < 40 := fun j hj => ⟨(g2.2.1 j hj).1, (g2.2.1 j hj).2.1⟩
  have c_h0 : (r < 0 ∨ 40 ≤ r) ∨ (0 ≤ r ∧ r < 40) := by omega
  rcases c_h0 with h0 | h0
  · skip
    exact ⟨((th, be, inf, snt, out, sth, srch, cap, wat, rel, g, pl, pr, ra, wn, sh, rt, st, ag, cn, ent, day, get, flo, roo, sget, sflo, sroo, stale), (1, rls, wnt, shr, bck, amt, fst, ord, rgs)), 1, by decide, ⟨hv, hs, hg, hrl.mono, hp, h8, hdy.1, hdn⟩, rfl, kL_drop1 l E aa (th, be, inf, snt, out, sth, srch, cap, wat, rel, g, pl, pr, ra, wn, sh, rt, st, ag, cn, ent, day, get, flo, roo, sget, sflo, sroo, stale) r (xX5_drop1 l hl0 E (aa 0) (aa 1) (aa 2) (aa 3) (aa 4) (aa 5) th be inf snt out (aa 6) (aa 7) (aa 8) (aa 9) (aa 10) sth srch cap wat rel (aa 11) (aa 12) (aa 13) (aa 14) (aa 15) (aa 16) (aa 17) (aa 18) (aa 19) (aa 20) g pl pr ra wn sh rt st ag cn (aa 21) (aa 22) ent day (aa 23) (aa 24) (aa 25) (aa 26) get flo roo (aa 27) (aa 28) (aa 29) (aa 30) sget sflo sroo stale r (by first | assumption | omega) (by first | assumption | omega)), kX6_dropF l E (bb 0) (bb 1) (bb 2) (bb 3) (bb 4) (bb 5) (bb 6) (bb 7) (bb 8) (bb 9) (bb 10) (bb 11) (bb 12) (bb 13) (bb 14) (bb 15) (bb 16) (bb 17) (bb 18) (bb 19) (bb 20) th be inf sth srch cap wat rls g pl pr ra shr bck st wnt ent amt fst ord thr day rgs r 1 (by first | assumption | omega) g1 (by omega) (by decide)⟩
  have c_h1 : (g r.toNat = 0) ∨ (g r.toNat = 1) := g1 r.toNat (by omega)
  rcases c_h1 with h1 | h1
  · skip
    exact ⟨((th, be, inf, snt, out, sth, srch, cap, wat, rel, g, pl, pr, ra, wn, sh, rt, st, ag, cn, ent, day, get, flo, roo, sget, sflo, sroo, stale), (2, rls, wnt, shr, bck, amt, fst, ord, rgs)), 2, by decide, ⟨hv, hs, hg, hrl.mono, hp, h8, hdy.1, hdn⟩, rfl, kL_drop2 l E aa (th, be, inf, snt, out, sth, srch, cap, wat, rel, g, pl, pr, ra, wn, sh, rt, st, ag, cn, ent, day, get, flo, roo, sget, sflo, sroo, stale) r (xX5_drop2 l hl0 E (aa 0) (aa 1) (aa 2) (aa 3) (aa 4) (aa 5) th be inf snt out (aa 6) (aa 7) (aa 8) (aa 9) (aa 10) sth srch cap wat rel (aa 11) (aa 12) (aa 13) (aa 14) (aa 15) (aa 16) (aa 17) (aa 18) (aa 19) (aa 20) g pl pr ra wn sh rt st ag cn (aa 21) (aa 22) ent day (aa 23) (aa 24) (aa 25) (aa 26) get flo roo (aa 27) (aa 28) (aa 29) (aa 30) sget sflo sroo stale r (by first | assumption | omega) (by first | assumption | omega) (by first | assumption | omega)), kX6_dropF l E (bb 0) (bb 1) (bb 2) (bb 3) (bb 4) (bb 5) (bb 6) (bb 7) (bb 8) (bb 9) (bb 10) (bb 11) (bb 12) (bb 13) (bb 14) (bb 15) (bb 16) (bb 17) (bb 18) (bb 19) (bb 20) th be inf sth srch cap wat rls g pl pr ra shr bck st wnt ent amt fst ord thr day rgs r 2 (by first | assumption | omega) g1 (by omega) (by decide)⟩
  have h82 : ∀ j : Nat, j < 40 → uZ g r.toNat 0 j ≠ 0 → 0 ≤ st j → sth (st j).toNat ≠ 0 := fun j hj a b => by
    by_cases e : j = r.toNat
    · rw [e, uZ_s] at a; exact absurd rfl a
    · rw [uZ_n _ _ e] at a; exact h8 j hj a b
  exact ⟨((th, be, inf, snt, out, sth, srch, cap, wat, rel, (uZ g r.toNat 0), pl, pr, ra, wn, sh, rt, st, (remL r cn.toNat 0 0 ag).2, ((remL r cn.toNat 0 0 ag).1 : Int), ent, day, get, flo, roo, sget, sflo, sroo, 1), (0, rls, wnt, shr, bck, amt, fst, ord, rgs)), 0, by decide, ⟨hv, hs, hg.drop h0 h1, hrl.mono, iPl.new, h82, hdy.1, hdn⟩, rfl, kL_drop0 l E aa (th, be, inf, snt, out, sth, srch, cap, wat, rel, g, pl, pr, ra, wn, sh, rt, st, ag, cn, ent, day, get, flo, roo, sget, sflo, sroo, stale) (th, be, inf, snt, out, sth, srch, cap, wat, rel, (uZ g r.toNat 0), pl, pr, ra, wn, sh, rt, st, (remL r cn.toNat 0 0 ag).2, ((remL r cn.toNat 0 0 ag).1 : Int), ent, day, get, flo, roo, sget, sflo, sroo, 1) r (kX5_drop l E (aa 0) (aa 1) (aa 2) (aa 3) (aa 4) (aa 5) th be inf snt out (aa 6) (aa 7) (aa 8) (aa 9) (aa 10) sth srch cap wat rel (aa 11) (aa 12) (aa 13) (aa 14) (aa 15) (aa 16) (aa 17) (aa 18) (aa 19) (aa 20) g pl pr ra wn sh rt st ag cn (aa 21) (aa 22) ent day (aa 23) (aa 24) (aa 25) (aa 26) get flo roo (aa 27) (aa 28) (aa 29) (aa 30) sget sflo sroo stale r h0 h1 hag g2.1), kX6_dropT l E (bb 0) (bb 1) (bb 2) (bb 3) (bb 4) (bb 5) (bb 6) (bb 7) (bb 8) (bb 9) (bb 10) (bb 11) (bb 12) (bb 13) (bb 14) (bb 15) (bb 16) (bb 17) (bb 18) (bb 19) (bb 20) th be inf sth srch cap wat rls g pl pr ra shr bck st wnt ent amt fst ord thr day rgs r 0 (by first | assumption | omega) g1 (by omega) rfl⟩
