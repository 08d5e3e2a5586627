set_option maxHeartbeats 4000000 in
set_option maxRecDepth 100000 in
theorem cs_close (l : Launch) (hl0 : noTr l) (E : rE) (aa bb : Nat → Nat) (X : WS) (n : Int) (h : Inv X n) (hn : 0 ≤ n ∧ n ≤ 512)  : ∃ (X1 : WS) (v : Int), Inv X1 (n + 1) ∧ rM l yX5_close sX5_close rX5_close E (dk E aa X.1) [.ref (aa 0)] (some (.int (iI v))) (fun _ : Unit => dk E aa X1.1) ∧ rM l yX6_close sX6_close rX6_close E (md E bb X) [.ref (bb 0)] (some (.int (iI v))) (fun _ : Unit => md E bb X1) := by
  obtain ⟨⟨th, be, inf, snt, out, sth, srch, cap, wat, rel, g, pl, pr, ra, wn, sh, rt, st, ag, cn, ent, day, get, flo, roo, sget, sflo, sroo, stale⟩, thr, rls, wnt, shr, bck, amt, fst, ord, rgs⟩ := X
  obtain ⟨hv, hs, hg, hrl, hp, h8, hdy⟩ := h
  replace hv : iRv th be inf out := hv
  replace hs : iRs th sth srch cap wat := hs
  replace hg : iRg th be g pl pr ra wn sh rt st ag cn wnt shr bck := hg
  replace hrl : iRl th be sth srch snt rel rls n := hrl
  replace hp : iPl be inf cap wat pl sh rt st wn ag cn stale (get, flo, roo) := hp
  replace h8 : ∀ i : Nat, i < 40 → g i ≠ 0 → 0 ≤ st i → sth (st i).toNat ≠ 0 := h8
  replace hdy : 0 ≤ day ∧ day ≤ n := hdy
  obtain ⟨v1, v2, v3, v4, v5, v6, v7, v8, v9⟩ := id hv
  obtain ⟨s1, s2, s3, s4, s5, s6⟩ := id hs
  obtain ⟨g1, g2, g3, g4, g5, g6, g7, g8, g9, g10⟩ := id hg
  have hE := hv.E
  have hdn : day ≤ n + 1 := by omega
  have hag : ∀ j : Nat, (j : Int) < cn → 0 ≤ ag j ∧ ag j < 40 := fun j hj => ⟨(g2.2.1 j hj).1, (g2.2.1 j hj).2.1⟩
  have hin : ∀ r : Nat, r < 32 → inI (inf r) := fun r hr => by have := v3 r hr; omega
  have hrok : ∀ j : Nat, (j : Int) < cn → rOk be pl sh rt st wn (ag j).toNat := fun j hj => (g10 _ (by have := hag j hj; omega) (g2.2.1 j hj).2.2).ok hE
  have hS := iRg.S hv hg
  have hrg := inv_rg hv hg
  have hB : ∀ (po : Int) (x : T3), stP th be inf g pl bck st shr cap wat ag cn po (SB be inf cap wat x) := fun po x => st_SB hE v3 v4 s3 hag
  obtain ⟨x0, hx0⟩ := hp.td
  have htd : ∀ i : Nat, i < 40 → (tdy be inf cap wat pl sh rt st wn ag cn stale (get, flo, roo)).1 i = ((amG be pl sh rt st wn ag (-1) (SB be inf cap wat x0) amt) cn.toNat) i := fun i hi => by rw [hx0, PT_gab]; exact gab_end hi
  have htb : ∀ i : Nat, i < 40 → 0 ≤ (tdy be inf cap wat pl sh rt st wn ag cn stale (get, flo, roo)).1 i ∧ (tdy be inf cap wat pl sh rt st wn ag cn stale (get, flo, roo)).1 i ≤ 1000000000 := fun i hi => by rw [htd i hi]; exact am_in hS (hB _ _) cn g2.1.1 (Int.le_refl _) i hi
  have htf : ∀ q : Nat, q < 32 → (tdy be inf cap wat pl sh rt st wn ag cn stale (get, flo, roo)).2.1 q = natM th be inf g pl bck st shr ((amG be pl sh rt st wn ag (-1) (SB be inf cap wat x0) amt) cn.toNat) (q : Int) := fun q hq => by rw [hx0, PT_gab]; exact flo_nat hS (hB _ _) q hq
  have htg : ∀ i : Nat, i < 40 → inI ((tdy be inf cap wat pl sh rt st wn ag cn stale (get, flo, roo)).1 i) := fun i hi => by have := htb i hi; omega
  have hgt : ∀ j : Nat, (j : Int) < cn → 0 ≤ (tdy be inf cap wat pl sh rt st wn ag cn stale (get, flo, roo)).1 (ag j).toNat ∧ (tdy be inf cap wat pl sh rt st wn ag cn stale (get, flo, roo)).1 (ag j).toNat ≤ 1000000000 := fun j hj => htb _ (by have := hag j hj; omega)
  have hshd : ∀ j : Nat, (j : Int) < cn → st (ag j).toNat = -1 → 0 ≤ sh (ag j).toNat ∧ sh (ag j).toNat ≤ 1000 := fun j hj e => by
    rcases (g10 _ (by have := hag j hj; omega) (g2.2.1 j hj).2.2).2.2.2 with ⟨_, _, _, q, _⟩ | ⟨q, _⟩
    · exact q
    · omega
  have e1 : (watZ st ag (tdy be inf cap wat pl sh rt st wn ag cn stale (get, flo, roo)).1 wat cn.toNat) = hoZ g st ((amG be pl sh rt st wn ag (-1) (SB be inf cap wat x0) amt) cn.toNat) wat 40 := wat_ho g2 g6 (fun i hi => (htd i hi).symm)
  have e2 : sumTo (useS st sh ag (tdy be inf cap wat pl sh rt st wn ag cn stale (get, flo, roo)).1) cn.toNat = sumTo (useM g st shr ((amG be pl sh rt st wn ag (-1) (SB be inf cap wat x0) amt) cn.toNat)) 40 := use_tie g2 g10 (fun i hi => (htd i hi).symm)
  have e3 : sumTo (stoS st ag (tdy be inf cap wat pl sh rt st wn ag cn stale (get, flo, roo)).1) cn.toNat = sumTo (stoT g st ((amG be pl sh rt st wn ag (-1) (SB be inf cap wat x0) amt) cn.toNat)) 40 := sto_tie g2 g6 (fun i hi => (htd i hi).symm)
  have e4 : (if out = -1 then 0 else (tdy be inf cap wat pl sh rt st wn ag cn stale (get, flo, roo)).2.1 out.toNat) = outV th be (natM th be inf g pl bck st shr ((amG be pl sh rt st wn ag (-1) (SB be inf cap wat x0) amt) cn.toNat)) 32 := by
    rw [hv.outv]
    by_cases e : out = -1
    · rw [if_pos e, if_pos e]
    · rw [if_neg e, if_neg e, htf out.toNat (by omega), Int.toNat_of_nonneg (by omega)]
  have hd1 : 0 ≤ day + 1 ∧ day + 1 ≤ n + 1 := by omega
  have e5 := sum_inR v4
  have e6 := hrl.2.2.2.1
  have hs2 : iRs th sth srch cap (watZ st ag (tdy be inf cap wat pl sh rt st wn ag cn stale (get, flo, roo)).1 wat cn.toNat) := by rw [e1]; exact hs.close h8 g6 hS (hB _ _)
  refine ⟨((th, be, (filZ inf 0 32), (filZ snt 0 32), out, sth, srch, cap, (watZ st ag (tdy be inf cap wat pl sh rt st wn ag cn stale (get, flo, roo)).1 wat cn.toNat), 0, g, pl, pr, ra, (cpZ ra wn 40), sh, rt, st, ag, cn, (uZ (uZ (uZ (uZ (uZ ent (day % 60 * 5 + 0).toNat (sumTo inf 32)) (day % 60 * 5 + 1).toNat (if out = -1 then 0 else (tdy be inf cap wat pl sh rt st wn ag cn stale (get, flo, roo)).2.1 out.toNat)) (day % 60 * 5 + 2).toNat (rel + sumTo (useS st sh ag (tdy be inf cap wat pl sh rt st wn ag cn stale (get, flo, roo)).1) cn.toNat)) (day % 60 * 5 + 3).toNat (sumTo (stoS st ag (tdy be inf cap wat pl sh rt st wn ag cn stale (get, flo, roo)).1) cn.toNat)) (day % 60 * 5 + 4).toNat rel), (day + 1), (tdy be inf cap wat pl sh rt st wn ag cn stale (get, flo, roo)).1, (tdy be inf cap wat pl sh rt st wn ag cn stale (get, flo, roo)).2.1, (tdy be inf cap wat pl sh rt st wn ag cn stale (get, flo, roo)).2.2, sget, sflo, sroo, 1), (0, (cpZ (fun _ => 0) rls 256), (wnZ g ra wnt 40), shr, bck, ((amG be pl sh rt st wn ag (-1) (SB be inf cap wat x0) amt) cn.toNat), fst, (cpZ ag ord cn.toNat), cn)), day + 1, ⟨hv.close, hs2, hg.close, (hrl.close hn.1).mono, iPl.new, h8, hd1.1, hd1.2⟩, kX5_close l E (aa 0) (aa 1) (aa 2) (aa 3) (aa 4) (aa 5) th be inf snt out (aa 6) (aa 7) (aa 8) (aa 9) (aa 10) sth srch cap wat rel (aa 11) (aa 12) (aa 13) (aa 14) (aa 15) (aa 16) (aa 17) (aa 18) (aa 19) (aa 20) g pl pr ra wn sh rt st ag cn (aa 21) (aa 22) ent day (aa 23) (aa 24) (aa 25) (aa 26) get flo roo (aa 27) (aa 28) (aa 29) (aa 30) sget sflo sroo stale v2 hin g6 hag g2.1 hrok ((hB (-1) (get, flo, roo)).1) hp.1 hgt hshd (by omega) v7, ?_⟩
  have M := kX6_close l E (bb 0) (bb 1) (bb 2) (bb 3) (bb 4) (bb 5) (bb 6) (bb 7) (bb 8) (bb 9) (bb 10) (bb 11) (bb 12) (bb 13) (bb 14) (bb 15) (bb 16) (bb 17) (bb 18) (bb 19) (bb 20) th be inf sth srch cap wat rls g pl pr ra shr bck st wnt ent amt fst ord thr day rgs ag cn (amG be pl sh rt st wn ag (-1) (SB be inf cap wat x0) amt) (5 * (day % 60)) (sumTo inf 32) (if out = -1 then 0 else (tdy be inf cap wat pl sh rt st wn ag cn stale (get, flo, roo)).2.1 out.toNat) (rel + sumTo (useS st sh ag (tdy be inf cap wat pl sh rt st wn ag cn stale (get, flo, roo)).1) cn.toNat) (sumTo (stoS st ag (tdy be inf cap wat pl sh rt st wn ag cn stale (get, flo, roo)).1) cn.toNat) rel v2 hE v1 g1 v3 hrg g6 s3 g2 g4 g5 g9 am_0 (fun c h1 h2 => mk_gab hS (hB _ _) (fun v _ => by omega) c h1 h2) (fun c h1 h2 i hi => am_in hS (hB _ _) c h1 h2 i hi) (by omega) rfl e5 e4 e6 (by rw [e2]) e3
  rw [← bk5_eq hdy.1, ← e1] at M
  exact M
set_option maxHeartbeats 4000000 in
set_option maxRecDepth 100000 in
theorem cs_held (l : Launch) (hl0 : noTr l) (E : rE) (aa bb : Nat → Nat) (X : WS) (n : Int) (h : Inv X n) (hn : 0 ≤ n ∧ n ≤ 512) (r : Int) (w : Int) (hIr : inI r) (hIw : inI w) : ∃ (X1 : WS) (v : Int), Inv X1 (n + 1) ∧ rM l yX5_held sX5_held rX5_held E (dk E aa X.1) [.ref (aa 0), .int (iI r), .int (iI w)] (some (.int (iI v))) (fun _ : Unit => dk E aa X1.1) ∧ rM l yX6_held sX6_held rX6_held E (md E bb X) [.ref (bb 0), .int (iI r), .int (iI w)] (some (.int (iI v))) (fun _ : Unit => md E bb X1) := by
  obtain ⟨⟨th, be, inf, snt, out, sth, srch, cap, wat, rel, g, pl, pr, ra, wn, sh, rt, st, ag, cn, ent, day, get, flo, roo, sget, sflo, sroo, stale⟩, thr, rls, wnt, shr, bck, amt, fst, ord, rgs⟩ := X
  obtain ⟨hv, hs, hg, hrl, hp, h8, hdy⟩ := h
  replace hv : iRv th be inf out := hv
  replace hs : iRs th sth srch cap wat := hs
  replace hg : iRg th be g pl pr ra wn sh rt st ag cn wnt shr bck := hg
  replace hrl : iRl th be sth srch snt rel rls n := hrl
  replace hp : iPl be inf cap wat pl sh rt st wn ag cn stale (get, flo, roo) := hp
  replace h8 : ∀ i : Nat, i < 40 → g i ≠ 0 → 0 ≤ st i → sth (st i).toNat ≠ 0 := h8
  replace hdy : 0 ≤ day ∧ day ≤ n := hdy
  obtain ⟨v1, v2, v3, v4, v5, v6, v7, v8, v9⟩ := id hv
  obtain ⟨s1, s2, s3, s4, s5, s6⟩ := id hs
  obtain ⟨g1, g2, g3, g4, g5, g6, g7, g8, g9, g10⟩ := id hg
  have hE := hv.E
  have hdn : day ≤ n + 1 := by omega
  exact ⟨((th, be, inf, snt, out, sth, srch, cap, wat, rel, g, pl, pr, ra, wn, sh, rt, st, ag, cn, ent, day, get, flo, roo, sget, sflo, sroo, stale), (0, rls, wnt, shr, bck, amt, fst, ord, rgs)), _, ⟨hv, hs, hg, hrl.mono, hp, h8, hdy.1, hdn⟩, kX5_held l E (aa 0) (aa 1) (aa 2) (aa 3) (aa 4) (aa 5) th be inf snt out (aa 6) (aa 7) (aa 8) (aa 9) (aa 10) sth srch cap wat rel (aa 11) (aa 12) (aa 13) (aa 14) (aa 15) (aa 16) (aa 17) (aa 18) (aa 19) (aa 20) g pl pr ra wn sh rt st ag cn (aa 21) (aa 22) ent day (aa 23) (aa 24) (aa 25) (aa 26) get flo roo (aa 27) (aa 28) (aa 29) (aa 30) sget sflo sroo stale r w s1 hIr hIw, kX6_held l E (bb 0) (bb 1) (bb 2) (bb 3) (bb 4) (bb 5) (bb 6) (bb 7) (bb 8) (bb 9) (bb 10) (bb 11) (bb 12) (bb 13) (bb 14) (bb 15) (bb 16) (bb 17) (bb 18) (bb 19) (bb 20) th be inf sth srch cap wat rls g pl pr ra shr bck st wnt ent amt fst ord thr day rgs r w s1 hIr hIw⟩
set_option maxHeartbeats 4000000 in
set_option maxRecDepth 100000 in
theorem cs_book (l : Launch) (hl0 : noTr l) (E : rE) (aa bb : Nat → Nat) (X : WS) (n : Int) (h : Inv X n) (hn : 0 ≤ n ∧ n ≤ 512) (d : Int) (w : Int) (hId : inI d) (hIw : inI w) : ∃ (X1 : WS) (v : Int), Inv X1 (n + 1) ∧ rM l yX5_book sX5_book rX5_book E (dk E aa X.1) [.ref (aa 0), .int (iI d), .int (iI w)] (some (.long (lI v))) (fun _ : Unit => dk E aa X1.1) ∧ rM l yX6_book sX6_book rX6_book E (md E bb X) [.ref (bb 0), .int (iI d), .int (iI w)] (some (.long (lI v))) (fun _ : Unit => md E bb X1) := by
  obtain ⟨⟨th, be, inf, snt, out, sth, srch, cap, wat, rel, g, pl, pr, ra, wn, sh, rt, st, ag, cn, ent, day, get, flo, roo, sget, sflo, sroo, stale⟩, thr, rls, wnt, shr, bck, amt, fst, ord, rgs⟩ := X
  obtain ⟨hv, hs, hg, hrl, hp, h8, hdy⟩ := h
  replace hv : iRv th be inf out := hv
  replace hs : iRs th sth srch cap wat := hs
  replace hg : iRg th be g pl pr ra wn sh rt st ag cn wnt shr bck := hg
  replace hrl : iRl th be sth srch snt rel rls n := hrl
  replace hp : iPl be inf cap wat pl sh rt st wn ag cn stale (get, flo, roo) := hp
  replace h8 : ∀ i : Nat, i < 40 → g i ≠ 0 → 0 ≤ st i → sth (st i).toNat ≠ 0 := h8
  replace hdy : 0 ≤ day ∧ day ≤ n := hdy
  obtain ⟨v1, v2, v3, v4, v5, v6, v7, v8, v9⟩ := id hv
  obtain ⟨s1, s2, s3, s4, s5, s6⟩ := id hs
  obtain ⟨g1, g2, g3, g4, g5, g6, g7, g8, g9, g10⟩ := id hg
  have hE := hv.E
  have hdn : day ≤ n + 1 := by omega
  have M := kX6_book l E (bb 0) (bb 1) (bb 2) (bb 3) (bb 4) (bb 5) (bb 6) (bb 7) (bb 8) (bb 9) (bb 10) (bb 11) (bb 12) (bb 13) (bb 14) (bb 15) (bb 16) (bb 17) (bb 18) (bb 19) (bb 20) th be inf sth srch cap wat rls g pl pr ra shr bck st wnt ent amt fst ord thr day rgs d w (by omega) hId hIw
  rw [show 5 * (d % 60) + w = d % 60 * 5 + w by omega] at M
  exact ⟨((th, be, inf, snt, out, sth, srch, cap, wat, rel, g, pl, pr, ra, wn, sh, rt, st, ag, cn, ent, day, get, flo, roo, sget, sflo, sroo, stale), (0, rls, wnt, shr, bck, amt, fst, ord, rgs)), _, ⟨hv, hs, hg, hrl.mono, hp, h8, hdy.1, hdn⟩, kX5_book l E (aa 0) (aa 1) (aa 2) (aa 3) (aa 4) (aa 5) th be inf snt out (aa 6) (aa 7) (aa 8) (aa 9) (aa 10) sth srch cap wat rel (aa 11) (aa 12) (aa 13) (aa 14) (aa 15) (aa 16) (aa 17) (aa 18) (aa 19) (aa 20) g pl pr ra wn sh rt st ag cn (aa 21) (aa 22) ent day (aa 23) (aa 24) (aa 25) (aa 26) get flo roo (aa 27) (aa 28) (aa 29) (aa 30) sget sflo sroo stale d w (by omega) hId hIw, M⟩
set_option maxHeartbeats 4000000 in
set_option maxRecDepth 100000 in
theorem cs_about (l : Launch) (hl0 : noTr l) (E : rE) (aa bb : Nat → Nat) (X : WS) (n : Int) (h : Inv X n) (hn : 0 ≤ n ∧ n ≤ 512) (r : Int) (w : Int) (hIr : inI r) (hIw : inI w) : ∃ (X1 : WS) (v : Int), Inv X1 (n + 1) ∧ rM l yX5_about sX5_about rX5_about E (dk E aa X.1) [.ref (aa 0), .int (iI r), .int (iI w)] (some (.int (iI v))) (fun _ : Unit => dk E aa X1.1) ∧ rM l yX6_about sX6_about rX6_about E (md E bb X) [.ref (bb 0), .int (iI r), .int (iI w)] (some (.int (iI v))) (fun _ : Unit => md E bb X1) := by
  obtain ⟨⟨th, be, inf, snt, out, sth, srch, cap, wat, rel, g, pl, pr, ra, wn, sh, rt, st, ag, cn, ent, day, get, flo, roo, sget, sflo, sroo, stale⟩, thr, rls, wnt, shr, bck, amt, fst, ord, rgs⟩ := X
  obtain ⟨hv, hs, hg, hrl, hp, h8, hdy⟩ := h
  replace hv : iRv th be inf out := hv
  replace hs : iRs th sth srch cap wat := hs
  replace hg : iRg th be g pl pr ra wn sh rt st ag cn wnt shr bck := hg
  replace hrl : iRl th be sth srch snt rel rls n := hrl
  replace hp : iPl be inf cap wat pl sh rt st wn ag cn stale (get, flo, roo) := hp
  replace h8 : ∀ i : Nat, i < 40 → g i ≠ 0 → 0 ≤ st i → sth (st i).toNat ≠ 0 := h8
  replace hdy : 0 ≤ day ∧ day ≤ n := hdy
  obtain ⟨v1, v2, v3, v4, v5, v6, v7, v8, v9⟩ := id hv
  obtain ⟨s1, s2, s3, s4, s5, s6⟩ := id hs
  obtain ⟨g1, g2, g3, g4, g5, g6, g7, g8, g9, g10⟩ := id hg
  have hE := hv.E
  have hdn : day ≤ n + 1 := by omega
  have M := kX6_about l E (bb 0) (bb 1) (bb 2) (bb 3) (bb 4) (bb 5) (bb 6) (bb 7) (bb 8) (bb 9) (bb 10) (bb 11) (bb 12) (bb 13) (bb 14) (bb 15) (bb 16) (bb 17) (bb 18) (bb 19) (bb 20) th be inf sth srch cap wat rls g pl pr ra shr bck st wnt ent amt fst ord thr day rgs r w g1 g6 hIr hIw
  refine ⟨((th, be, inf, snt, out, sth, srch, cap, wat, rel, g, pl, pr, ra, wn, sh, rt, st, ag, cn, ent, day, get, flo, roo, sget, sflo, sroo, stale), (0, rls, wnt, shr, bck, amt, fst, ord, rgs)), _, ⟨hv, hs, hg, hrl.mono, hp, h8, hdy.1, hdn⟩, kX5_about l E (aa 0) (aa 1) (aa 2) (aa 3) (aa 4) (aa 5) th be inf snt out (aa 6) (aa 7) (aa 8) (aa 9) (aa 10) sth srch cap wat rel (aa 11) (aa 12) (aa 13) (aa 14) (aa 15) (aa 16) (aa 17) (aa 18) (aa 19) (aa 20) g pl pr ra wn sh rt st ag cn (aa 21) (aa 22) ent day (aa 23) (aa 24) (aa 25) (aa 26) get flo roo (aa 27) (aa 28) (aa 29) (aa 30) sget sflo sroo stale r w g1 hIr hIw, ?_⟩
  have e : (if r < 0 ∨ 40 ≤ r ∨ g r.toNat = 0 then (-1 : Int) else if w = 0 then pr r.toNat else if w = 1 then ra r.toNat else if w = 2 then wnt r.toNat else if w = 3 then (if st r.toNat < 0 then shr r.toNat else -1) else if w = 4 then st r.toNat else -1) = (if r < 0 ∨ 40 ≤ r ∨ g r.toNat = 0 then (-1 : Int) else if w = 0 then pr r.toNat else if w = 1 then ra r.toNat else if w = 2 then wn r.toNat else if w = 3 then sh r.toNat else if w = 4 then st r.toNat else -1) := by
    by_cases q : r < 0 ∨ 40 ≤ r ∨ g r.toNat = 0
    · rw [if_pos q, if_pos q]
    · rw [if_neg q, if_neg q]
      obtain ⟨_, z2, _, z4⟩ := g10 r.toNat (by omega) (by omega)
      rcases z4 with ⟨y1, _, _, _, y2, _⟩ | ⟨y1, _, _, y2⟩
      · rw [if_pos (show st r.toNat < 0 by omega), y2, z2]
      · rw [if_neg (show ¬ st r.toNat < 0 by omega), y2, z2]
  rw [e] at M
  exact M
set_option maxHeartbeats 4000000 in
set_option maxRecDepth 100000 in
theorem cs_aged (l : Launch) (hl0 : noTr l) (E : rE) (aa bb : Nat → Nat) (X : WS) (n : Int) (h : Inv X n) (hn : 0 ≤ n ∧ n ≤ 512) (k : Int) (hIk : inI k) : ∃ (X1 : WS) (v : Int), Inv X1 (n + 1) ∧ rM l yX5_aged sX5_aged rX5_aged E (dk E aa X.1) [.ref (aa 0), .int (iI k)] (some (.int (iI v))) (fun _ : Unit => dk E aa X1.1) ∧ rM l yX6_aged sX6_aged rX6_aged E (md E bb X) [.ref (bb 0), .int (iI k)] (some (.int (iI v))) (fun _ : Unit => md E bb X1) := by
  obtain ⟨⟨th, be, inf, snt, out, sth, srch, cap, wat, rel, g, pl, pr, ra, wn, sh, rt, st, ag, cn, ent, day, get, flo, roo, sget, sflo, sroo, stale⟩, thr, rls, wnt, shr, bck, amt, fst, ord, rgs⟩ := X
  obtain ⟨hv, hs, hg, hrl, hp, h8, hdy⟩ := h
  replace hv : iRv th be inf out := hv
  replace hs : iRs th sth srch cap wat := hs
  replace hg : iRg th be g pl pr ra wn sh rt st ag cn wnt shr bck := hg
  replace hrl : iRl th be sth srch snt rel rls n := hrl
  replace hp : iPl be inf cap wat pl sh rt st wn ag cn stale (get, flo, roo) := hp
  replace h8 : ∀ i : Nat, i < 40 → g i ≠ 0 → 0 ≤ st i → sth (st i).toNat ≠ 0 := h8
  replace hdy : 0 ≤ day ∧ day ≤ n := hdy
  obtain ⟨v1, v2, v3, v4, v5, v6, v7, v8, v9⟩ := id hv
  obtain ⟨s1, s2, s3, s4, s5, s6⟩ := id hs
  obtain ⟨g1, g2, g3, g4, g5, g6, g7, g8, g9, g10⟩ := id hg
  have hE := hv.E
  have hdn : day ≤ n + 1 := by omega
  exact ⟨((th, be, inf, snt, out, sth, srch, cap, wat, rel, g, pl, pr, ra, wn, sh, rt, st, ag, cn, ent, day, get, flo, roo, sget, sflo, sroo, stale), (0, rls, wnt, shr, bck, amt, fst, (cpZ ag ord cn.toNat), cn)), _, ⟨hv, hs, hg, hrl.mono, hp, h8, hdy.1, hdn⟩, kX5_aged l E (aa 0) (aa 1) (aa 2) (aa 3) (aa 4) (aa 5) th be inf snt out (aa 6) (aa 7) (aa 8) (aa 9) (aa 10) sth srch cap wat rel (aa 11) (aa 12) (aa 13) (aa 14) (aa 15) (aa 16) (aa 17) (aa 18) (aa 19) (aa 20) g pl pr ra wn sh rt st ag cn (aa 21) (aa 22) ent day (aa 23) (aa 24) (aa 25) (aa 26) get flo roo (aa 27) (aa 28) (aa 29) (aa 30) sget sflo sroo stale k g2.1 hIk, kX6_aged l E (bb 0) (bb 1) (bb 2) (bb 3) (bb 4) (bb 5) (bb 6) (bb 7) (bb 8) (bb 9) (bb 10) (bb 11) (bb 12) (bb 13) (bb 14) (bb 15) (bb 16) (bb 17) (bb 18) (bb 19) (bb 20) th be inf sth srch cap wat rls g pl pr ra shr bck st wnt ent amt fst ord thr day rgs ag cn k g1 g2 g4 g5 hIk⟩
