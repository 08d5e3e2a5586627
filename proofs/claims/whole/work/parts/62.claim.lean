theorem noTr_of {l : Launch} (h : l.flags = flags0) : noTr l := fun e ha => by
  rw [ha.platform]
  show l.stackTraces = false
  unfold Launch.stackTraces
  rw [h]
  decide +kernel
/-- the law, from its entry -/
theorem whole_start {p : Program} {e : Env} {s : State} {m : MethodId} {below : List Frame} {meth : Method} {c : Code} (l : Launch) (hl0 : noTr l) {b L : Nat} {xs : Nat → Int32} (hL : L ≤ 3584) (C0 : lw_At p s m meth c b L xs) : W p l e room_1 s m #[Value.ref b] below meth c s.heap [] 0 0 (lw_Z below #[Value.ref b] s) (entryFrame m ([Value.ref b] : List Value).toArray 8) := by
  obtain ⟨hx, hb, hr, hml, hown, hts, hX, hbl, hlocks, hgv⟩ := id C0
  have hg : ∀ w ∈ gW, w.before #[Value.ref b] s = true := fun w hw => hts w (List.mem_filter.mp hw).1
  have hf := flat_of_before _ hgv
  obtain ⟨E, hK⟩ := rK_ex hg
  have C : rC p s m #[Value.ref b] c E (va_A [] s.heap.size) 8 code lw_tbl RL := ⟨⟨hx, hb, hml, hown, hts⟩, hK, fun q h => Or.inr h, fun w hw => (List.mem_filter.mp hw).1⟩
  have hxS : xS s := xS_of (args := #[Value.ref b]) (fun w hw => by
    simp only [xw, List.mem_cons, List.not_mem_nil, or_false] at hw
    rcases hw with rfl | rfl | rfl | rfl | rfl | rfl | rfl
    · exact hts _ (by decide +kernel)
    · exact hts _ (by decide +kernel)
    · exact hf _ (by decide +kernel)
    · exact hf _ (by decide +kernel)
    · exact hts _ (by decide +kernel)
    · exact hts _ (by decide +kernel)
    · exact hts _ (by decide +kernel))
  have hstr : ∀ (k : Nat) (tx : String), Cond.stringRef "RiverDesk" k tx ∈ lw_tbl → ∃ q, vk_R "RiverDesk" k tx q s := fun k tx hw => by
    have h1 := hts _ hw
    obtain ⟨-, -, -, a, -, -, -, -, -, he⟩ := Cond.stringRef_spec (hK.1 5 _ rfl).2.1 h1
    exact ⟨a, vk_R.of h1 he⟩
  have hz : xW s := ⟨⟨hxS, hstr 223 _ (by decide +kernel), hstr 228 _ (by decide +kernel), hstr 231 _ (by decide +kernel), hstr 235 _ (by decide +kernel), hstr 238 _ (by decide +kernel), hstr 216 _ (by decide +kernel)⟩, va_Nc.of (hf (.not (.castable xNo xIo)) (by decide +kernel)), va_Nc.of (hf (.not (.castable xAr xIo)) (by decide +kernel)), va_Nc.of (hf (.not (.castable xAr xNo)) (by decide +kernel)), va_Nc.of (hf (.not (.castable xIl xIo)) (by decide +kernel)), va_Nc.of (hf (.not (.castable xIl xNo)) (by decide +kernel)), va_Nc.of (hf (.not (.castable xIl xAr)) (by decide +kernel))⟩
  have hnw : nwZ s := ⟨va_Nw.of rfl (hts (.methodLinkNest "RiverDesk" 9 yX4_init "RiverDesk") (by decide +kernel)), va_Nw.of rfl (hts (.methodLinkNest "RiverDesk" 18 yX2_init "RiverDesk") (by decide +kernel)), va_Nw.of rfl (hts (.methodLinkNest "RiverDesk" 25 yX3_init "RiverDesk") (by decide +kernel)), va_Nw.of rfl (hts (.methodLinkNest "RiverDesk" 32 yX0_init "RiverDesk") (by decide +kernel)), va_Nw.of rfl (hts (.methodLinkNest "RiverDesk" 39 yX1_init "RiverDesk") (by decide +kernel))⟩
  have hsc : scr s (va_A [] s.heap.size) b L (fun k => (xs k).toInt) := ⟨⟨xs, hX, fun k => (Int32.ofInt_toInt _).symm⟩, hbl, fun q => by
      rcases q with ⟨k, e1, h⟩ | h
      · simp at h
      · exact absurd hbl (Nat.not_lt.mpr h), hL, fun k => by
      show inI (xs k).toInt
      have h1 := Int32.le_toInt (xs k)
      have h2 := Int32.toInt_lt (xs k)
      omega⟩
  have hgo := law_start (p := p) (e := e) (below := below) (meth := meth) hl0 C hz hnw rfl hsc hr hlocks rfl
  rw [lg_entry_eq]
  exact hgo s.heap [] _ (fun k q h => by simp at h) ⟨fun i j p q h => by simp at h, fun k q h => by simp at h⟩ va_S.rf (lv_entry [.ref b] (n := 8) (Nat.le_of_ble_eq_true rfl))
set_option maxHeartbeats 4000000 in
theorem lw_walk (l : Launch) (hl0 : noTr l) (b : Addr) (xs : List Int32) : MetFree l x (headSpec (Jvm.Cond.code x code maxLocals ret :: tables_1) room_1) (lw_P b xs) (fun _ _ _ _ _ => True) lw_Q := by
  refine MetFree.of_bodyS (code := code) (maxLocals := maxLocals) (ret := ret) (by decide) ?_ ?_
  · intro args s m h hn
    obtain ⟨meth, c, h1, h2, h3, h4, h5, h6, -, -⟩ := Cond.code_spec hn (atoms_spec (ws := Jvm.Cond.code x code maxLocals ret :: tables_1) h _ List.mem_cons_self)
    exact ⟨meth, c, h1, h2, h3, h4, h5, h6⟩
  · intro p e s m args below meth c s₁ B hml0 hP _
    obtain ⟨rfl, hx, hbd, hgv⟩ := hP
    obtain ⟨scr, harrAt, hlist, hof, hsmall⟩ := hx
    obtain ⟨hcb, hkn, -, -⟩ := State.arrayAt?_spec harrAt
    have hown : s.vm.findClass R_law = some m.cls := findClass_of_methodNamed B.named
    have hts0 : ∀ c ∈ (Jvm.Cond.code x code maxLocals ret :: tables_1), c.before #[Value.ref b] s = true := atoms_spec (ws := Jvm.Cond.code x code maxLocals ret :: tables_1) B.pre
    have hts : ∀ w ∈ lw_tbl, w.before #[Value.ref b] s = true := k2_hts_sels lw_privs (fun w hw => hts0 w (List.mem_cons_of_mem _ hw)) lw_privs_ok
    have hml : c.maxLocals = 8 := B.maxLocals_eq (hts0 _ List.mem_cons_self)
    have X₀ : Stand p l e room_1 s m #[Value.ref b] below meth c s₁ [] 0 0 := Stand.of_body B
    have hh0 : s₁.heap = s.heap := by rw [B.state]; rfl
    have hsz : scr.slots.size = xs.length := by rw [← Array.length_toList, hlist, List.length_map]
    have hval : ∀ j : Nat, j < xs.length → scr.slots[j]? = some (.int (xs.getD j 0)) := fun j hj => by
      rw [← Array.getElem?_toList, hlist]
      simp [hj]
    have hbl : b < s.heap.size := (Array.getElem?_eq_some_iff.mp hcb).1
    have hX : va_X b xs.length (fun j => xs.getD j 0) s s.heap := ⟨scr, hcb, hof, hkn, hsz, hval⟩
    have K : W p l e room_1 s m #[Value.ref b] below meth c s₁.heap [] 0 0 (lw_Z below #[Value.ref b] s) (entryFrame m ([Value.ref b] : List Value).toArray 8) := by
      rw [hh0]
      exact whole_start l hl0 hbd ⟨B.exec, B.bytes, B.returns, hml, hown, hts, hX, hbl, B.notSynchronized, hgv⟩
    obtain ⟨t, a1, o, b1, b2, b3⟩ := K s₁ rfl X₀
    exact ⟨t, o, a1, b1, b2, b3⟩
theorem lw_pre_spec {args : Array Value} {s : State} (h : (Jvm.Cond.and given_1 narrow_1).before args s = true) (hr : rest_1_c.before args s = true) : ∃ (b : Addr) (xs : List Int32), lw_P b xs args s := by
  have hs := flat_of_before _ h
  have hq := flat_of_before _ hr
  have hc : (Cond.count 1).before args s = true := hs _ (by decide +kernel)
  have harr : (Cond.arrayOf (.arg 0) .int).before args s = true := hs _ (by decide +kernel)
  have hle : (Cond.le (.length (.arg 0)) (.int 3584)).before args s = true := hs _ (by decide +kernel)
  have hlen : (Cond.isInt (.length (.arg 0))).before args s = true := hq _ (by decide +kernel)
  have hall : (Cond.all (.arg 0) (.isInt (.elem (.arg 0) (.index 0)))).before args s = true := hq _ (by decide +kernel)
  obtain ⟨b, xs, hb, hx⟩ := State.ints_of_pre rfl harr hlen hall
  have hsm : xs.length < 2 ^ 31 := hx.choose_spec.2.2.2
  have hev : (Term.length (.arg 0)).eval args s none [] s = some (.int xs.length.toInt32) := hx.length_eval hb
  have hv := Cond.le_ints hev (show (Term.int 3584).eval args s none [] s = some (.int 3584) from rfl)
  have hd : xs.length.toInt32 ≤ 3584 := by
    simpa [Cond.before, Cond.holds, hv] using hle
  have hN : xs.length ≤ 3584 := (Int32.ofNat_le_ofNat hsm (by decide)).mp (show Int32.ofNat xs.length ≤ Int32.ofNat 3584 from hd)
  exact ⟨b, xs, Cond.one_arg hc (show args[0]? = some (.ref b) from hb), hx, hN, h⟩
theorem lw_comes (l : Launch) (hl0 : noTr l) : Comes l x (Jvm.Cond.code x code maxLocals ret :: tables_1) room_1 (fun tb e args s => Calls_1 tb e args s ∧ rest_1 tb e args s ∧ Pre_1 tb e args s)
    (fun _ _ args s o t => lw_Q args s o t) := by
  intro p e ha hc hk s m args below hf hfit hheap happ hpre
  obtain ⟨b, xs, hP⟩ := lw_pre_spec hpre.2.2 hpre.2.1
  obtain ⟨k, o, h1, h2, h3, hQ⟩ := lw_walk l hl0 b xs p e ha hc hk s m args below hf ((Spec.applies_iff_loose hf).mp happ).1 hP trivial
  exact ⟨k, o, h1, h2, h3, hQ⟩
theorem lw_frame {s t : State} {o : Outcome} {args : Array Value} (h : Framed s o t [] 1083 10391) :
    Framed s o t (fieldLocs frame_1_writes args s ++ arrayLocs frame_1_arrays args s ++ staticLocs frame_1_statics s) 1083 10391 := h
theorem lw_limb (L : Cond) (hL : ∀ (args : Array Value) (s t : State), L.after args s (.returned (some (.int 1))) t = true) :
    ArmFor flags0 classFile x code maxLocals ret World_1 tables_1 room_1 Calls_1 rest_1 Pre_1
      (fun tb e a s o t => postC L tb e a s o t ∧ Framed s o t (fieldLocs frame_1_writes a s ++ arrayLocs frame_1_arrays a s ++ staticLocs frame_1_statics s) 1083 10391) := by
  intro l hfl _ _ p e ha hc hk s m args below hf hfit hheap happ hpre
  obtain ⟨k, o, h1, h2, h3, rfl, hF⟩ := lw_comes l (noTr_of hfl) p e ha hc hk s m args below hf hfit hheap happ hpre
  exact ⟨k, _, h1, h2, h3, hL args s _, lw_frame hF⟩
theorem i_vc : Claimed_1_1 ∧ Claimed_1_2 := ⟨lw_limb limb_1_1 (fun args s t => by simp [limb_1_1, Cond.after, Cond.holds, Cond.value]), lw_limb limb_1_2 (fun args s t => Cond.after_iff.mpr (by
  first | (rw [show limb_1_2 = Cond.eq .result (.int 1) from rfl, Cond.eq_ints (x := 1) (y := 1) rfl rfl]; simp; done) | (simp [limb_1_2, Cond.value, Term.eval]; done)))⟩
