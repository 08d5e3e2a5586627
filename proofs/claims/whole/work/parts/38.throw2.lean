/-! the words of an exception: the shared ones, and the few that read the statics of Throwable -/
def xw : List Cond := [.laysStatic Bundle.tN "UNASSIGNED_STACK" Bundle.steD, .laysStatic Bundle.tN "SUPPRESSED_SENTINEL" Bundle.listD, .isRef (.static Bundle.tN "UNASSIGNED_STACK" Bundle.steD), .isRef (.static Bundle.tN "SUPPRESSED_SENTINEL" Bundle.listD), .declares (Bundle.initS "java/lang/RuntimeException"), .declares (Bundle.initS "java/lang/Exception"), .declares (Bundle.initS Bundle.tN)]
/-- the statics of Throwable are laid, and hold references: in this state and in every warmer one with the same cell -/
def xS (U : State) : Prop := ∃ (a : Addr) (cell : Cell), U.heap[a]? = some cell ∧ cell.vm.isStatics = true ∧ ∀ (A : Array Value) (V : State), U.WarmedH V.vm → V.heap[a]? = some cell → ∀ w ∈ xw, w.before A V = true
theorem xS.here {U : State} (h : xS U) (A : Array Value) : ∀ w ∈ xw, w.before A U = true := by
  obtain ⟨a, cell, h1, h2, h3⟩ := h
  exact h3 A U (State.WarmedH.refl U) h1
theorem xS.go {s U : State} {E : rE} {cin : va_W} {A : Nat → Prop} {H : Heap} {locs : List Loc} (h : xS s) (hP0 : va_P E.1 vwCl cin s.heap) (hA : A = va_A cin s.heap.size) (hS : va_S A s.heap H locs) (hU : U.heap = H) (hW : s.WarmedH U.vm) : xS U := by
  obtain ⟨a, cell, h1, h2, h3⟩ := h
  have hlt : a < s.heap.size := (Array.getElem?_eq_some_iff.mp h1).1
  have hn : ¬ A a := fun q => by
    rw [hA] at q
    rcases q with ⟨k, x, hk⟩ | q
    · have := vaP_ns hP0 hk h1
      rw [h2] at this; cases this
    · exact absurd hlt (Nat.not_lt.mpr q)
  have h4 : U.heap[a]? = some cell := by rw [hU, hS.2.1 a hlt hn]; exact h1
  exact ⟨a, cell, h4, h2, fun A2 V hV hc => h3 A2 V (State.WarmedH.trans hW hV) hc⟩
theorem xS.calling {U : State} (h : xS U) (g : JFrame) (mk : MethodId) (a : Array Value) : xS (U.calling g mk a) := by
  obtain ⟨b, cell, h1, h2, h3⟩ := h
  exact ⟨b, cell, h1, h2, fun A V hV hc => h3 A V hV hc⟩
def xAll (own cls sup : String) (names : List String) (ic ix : Nat) (rx : ByteArray) : List Cond := Bundle.throwableAtoms ++ (Bundle.throwableSAtoms ++ (Bundle.passSAtoms cls sup ix rx ++ (Bundle.chainSAtoms sup names ++ [.methodLink own ic (Bundle.initS cls), .instantiable cls 6, .selects cls Bundle.tFill0 Bundle.tFill0, .selects cls Bundle.tFill Bundle.tFill, .lays cls Bundle.tN "cause" "Ljava/lang/Throwable;", .lays cls Bundle.tN "stackTrace" Bundle.steD, .lays cls Bundle.tN "suppressedExceptions" Bundle.listD, .lays cls Bundle.tN "detailMessage" "Ljava/lang/String;", .lays cls Bundle.tN "backtrace" "Ljava/lang/Object;", .lays Bundle.tN Bundle.tN "backtrace" "Ljava/lang/Object;", .fieldLink Bundle.tN 198 Bundle.tN "backtrace" "Ljava/lang/Object;", .isRef (.static Bundle.tN "UNASSIGNED_STACK" Bundle.steD), .isRef (.static Bundle.tN "SUPPRESSED_SENTINEL" Bundle.listD)])))
def xIn (own cls sup : String) (names : List String) (ic ix : Nat) (rx : ByteArray) : Bool := (xAll own cls sup names ic ix rx).all (fun w => (decide (w ∈ lw_tbl) && goodWord w) || decide (w ∈ xw))
theorem xTab.of {p : Program} {s : State} {m : MethodId} {args : Array Value} {c : Code} {E : rE} {A : Nat → Prop} {nL : Nat} {cc : ByteArray} {Ts : List Cond} {own cls sup : String} {names : List String} {ic ix : Nat} {rx : ByteArray} (C : rC p s m args c E A nL cc Ts own) (hx : xS s) (hin : xIn own cls sup names ic ix rx = true)
    (d0 : decode rx 0 = .ok (.aload_n 0, 1)) (d1 : decode rx 1 = .ok (.aload_n 1, 1)) (d2 : decode rx 2 = .ok (.invokespecial ix, 3)) (d5 : decode rx 5 = .ok (.return_, 1)) (f0 : Bundle.fit cls = true) (f1 : Bundle.fit sup = true) (f2 : ∀ n ∈ names, Bundle.fit n = true) : xTab args s own cls sup names ic ix rx := by
  have h : ∀ w ∈ xAll own cls sup names ic ix rx, w.before args s = true := fun w hw => by
    have h1 := List.all_eq_true.mp hin w hw
    simp only [Bool.or_eq_true, Bool.and_eq_true, decide_eq_true_eq] at h1
    rcases h1 with h1 | h1
    · exact C.1.2.2.2.2 _ (C.2.2.2 _ (List.mem_filter.mpr h1))
    · exact hx.here args w h1
  refine ⟨d0, d1, d2, d5, f0, f1, f2, fun w hw => h w (List.mem_append_left _ hw), fun w hw => h w (List.mem_append_right _ (List.mem_append_left _ hw)), fun w hw => h w (List.mem_append_right _ (List.mem_append_right _ (List.mem_append_left _ hw))), fun w hw => h w (List.mem_append_right _ (List.mem_append_right _ (List.mem_append_right _ (List.mem_append_left _ hw)))), ?_, ?_, ?_, ?_, ?_, ?_, ?_, ?_, ?_, ?_, ?_, ?_, ?_⟩ <;>
    exact h _ (List.mem_append_right _ (List.mem_append_right _ (List.mem_append_right _ (List.mem_append_right _ (by simp)))))
abbrev xRun : String := "java/lang/RuntimeException"
abbrev xExc : List String := ["java/lang/Exception"]
abbrev xIo : String := "java/lang/IndexOutOfBoundsException"
abbrev xNo : String := "java/util/NoSuchElementException"
abbrev xAr : String := "java/lang/IllegalArgumentException"
abbrev xIl : String := "java/lang/IllegalStateException"
def xNoB : ByteArray := ⟨#[0x2a, 0x2b, 0xb7, 0x00, 0x0d, 0xb1]⟩
theorem xIn_io : xIn "RiverDesk" xIo xRun xExc 225 7 Bundle.six = true := by decide +kernel
theorem xIn_no : xIn "RiverDesk" xNo xRun xExc 230 13 xNoB = true := by decide +kernel
theorem xIn_ar : xIn "RiverDesk" xAr xRun xExc 218 7 Bundle.six = true := by decide +kernel
theorem xIn_il : xIn "RiverDesk" xIl xRun xExc 237 7 Bundle.six = true := by decide +kernel
section RX3
variable {p : Program} {s : State} {m : MethodId} {args : Array Value} {c : Code} {E : rE} {A : Nat → Prop} {nL : Nat} {cc : ByteArray} {Ts : List Cond}
theorem xT_io (C : rC p s m args c E A nL cc Ts "RiverDesk") (hx : xS s) : xTab args s "RiverDesk" xIo xRun xExc 225 7 Bundle.six := xTab.of C hx xIn_io Bundle.six_0 Bundle.six_1 Bundle.six_2 Bundle.six_5 (by decide +kernel) (by decide +kernel) (by decide +kernel)
theorem xT_no (C : rC p s m args c E A nL cc Ts "RiverDesk") (hx : xS s) : xTab args s "RiverDesk" xNo xRun xExc 230 13 xNoB := xTab.of C hx xIn_no (by decide +kernel) (by decide +kernel) (by decide +kernel) (by decide +kernel) (by decide +kernel) (by decide +kernel) (by decide +kernel)
theorem xT_ar (C : rC p s m args c E A nL cc Ts "RiverDesk") (hx : xS s) : xTab args s "RiverDesk" xAr xRun xExc 218 7 Bundle.six := xTab.of C hx xIn_ar Bundle.six_0 Bundle.six_1 Bundle.six_2 Bundle.six_5 (by decide +kernel) (by decide +kernel) (by decide +kernel)
theorem xT_il (C : rC p s m args c E A nL cc Ts "RiverDesk") (hx : xS s) : xTab args s "RiverDesk" xIl xRun xExc 237 7 Bundle.six := xTab.of C hx xIn_il Bundle.six_0 Bundle.six_1 Bundle.six_2 Bundle.six_5 (by decide +kernel) (by decide +kernel) (by decide +kernel)
end RX3
