section
-- ===== PART A: goes FIRST, ahead of the names: the tables' words, and 'selects' of the private methods out of them =====
/-- a private method of a class that the tables say can be made, by its rows of tables_1 -/
def lw_okq (q : MethodName × Nat) : Prop := (q.1.cls ≠ "java/lang/invoke/MethodHandle" ∧ q.1.cls ≠ "java/lang/invoke/VarHandle") ∧ Cond.instantiable q.1.cls q.2 ∈ tables_1 ∧ Cond.privateMethod q.1 ∈ tables_1 ∧ Cond.instanceMethod q.1 ∈ tables_1
theorem lw_p0 : lw_okq (⟨"RiverDesk", "settleToday", "()V"⟩, 7) := ⟨⟨by decide +kernel, by decide +kernel⟩, List.mem_of_getElem? (i := 19) (by decide +kernel), List.mem_of_getElem? (i := 205) (by decide +kernel), List.mem_of_getElem? (i := 206) (by decide +kernel)⟩
theorem lw_p1 : lw_okq (⟨"RiverDesk$Plan", "pour", "(LRiverDesk$River;I)V"⟩, 3) := ⟨⟨by decide +kernel, by decide +kernel⟩, List.mem_of_getElem? (i := 158) (by decide +kernel), List.mem_of_getElem? (i := 219) (by decide +kernel), List.mem_of_getElem? (i := 220) (by decide +kernel)⟩
theorem lw_p2 : lw_okq (⟨"RiverDesk", "isShort", "(I)Z"⟩, 7) := ⟨⟨by decide +kernel, by decide +kernel⟩, List.mem_of_getElem? (i := 19) (by decide +kernel), List.mem_of_getElem? (i := 252) (by decide +kernel), List.mem_of_getElem? (i := 253) (by decide +kernel)⟩
theorem lw_p3 : lw_okq (⟨"java/lang/Throwable", "fillInStackTrace", "(I)Ljava/lang/Throwable;"⟩, 6) := ⟨⟨by decide +kernel, by decide +kernel⟩, List.mem_of_getElem? (i := 367) (by decide +kernel), List.mem_of_getElem? (i := 365) (by decide +kernel), List.mem_of_getElem? (i := 366) (by decide +kernel)⟩
theorem lw_p4 : lw_okq (⟨"RiverDesk", "checkPath", "(II)V"⟩, 7) := ⟨⟨by decide +kernel, by decide +kernel⟩, List.mem_of_getElem? (i := 19) (by decide +kernel), List.mem_of_getElem? (i := 479) (by decide +kernel), List.mem_of_getElem? (i := 480) (by decide +kernel)⟩
theorem lw_p5 : lw_okq (⟨"RiverDesk", "checkRight", "(I)V"⟩, 7) := ⟨⟨by decide +kernel, by decide +kernel⟩, List.mem_of_getElem? (i := 19) (by decide +kernel), List.mem_of_getElem? (i := 518) (by decide +kernel), List.mem_of_getElem? (i := 519) (by decide +kernel)⟩
theorem lw_p6 : lw_okq (⟨"RiverDesk", "checkReach", "(I)V"⟩, 7) := ⟨⟨by decide +kernel, by decide +kernel⟩, List.mem_of_getElem? (i := 19) (by decide +kernel), List.mem_of_getElem? (i := 540) (by decide +kernel), List.mem_of_getElem? (i := 541) (by decide +kernel)⟩
theorem lw_p7 : lw_okq (⟨"RiverDesk", "oldestThatWouldGetLess", "()I"⟩, 7) := ⟨⟨by decide +kernel, by decide +kernel⟩, List.mem_of_getElem? (i := 19) (by decide +kernel), List.mem_of_getElem? (i := 588) (by decide +kernel), List.mem_of_getElem? (i := 589) (by decide +kernel)⟩
theorem lw_p8 : lw_okq (⟨"RiverDeskModel", "isOn", "(II)Z"⟩, 23) := ⟨⟨by decide +kernel, by decide +kernel⟩, List.mem_of_getElem? (i := 599) (by decide +kernel), List.mem_of_getElem? (i := 696) (by decide +kernel), List.mem_of_getElem? (i := 697) (by decide +kernel)⟩
theorem lw_p9 : lw_okq (⟨"RiverDeskModel", "isTaken", "(II)Z"⟩, 23) := ⟨⟨by decide +kernel, by decide +kernel⟩, List.mem_of_getElem? (i := 599) (by decide +kernel), List.mem_of_getElem? (i := 700) (by decide +kernel), List.mem_of_getElem? (i := 701) (by decide +kernel)⟩
theorem lw_p10 : lw_okq (⟨"RiverDeskModel", "lay", "(IIII)V"⟩, 23) := ⟨⟨by decide +kernel, by decide +kernel⟩, List.mem_of_getElem? (i := 599) (by decide +kernel), List.mem_of_getElem? (i := 704) (by decide +kernel), List.mem_of_getElem? (i := 705) (by decide +kernel)⟩
theorem lw_p11 : lw_okq (⟨"RiverDeskModel", "wrongRight", "(I)I"⟩, 23) := ⟨⟨by decide +kernel, by decide +kernel⟩, List.mem_of_getElem? (i := 599) (by decide +kernel), List.mem_of_getElem? (i := 716) (by decide +kernel), List.mem_of_getElem? (i := 717) (by decide +kernel)⟩
theorem lw_p12 : lw_okq (⟨"RiverDeskModel", "wrongReach", "(I)I"⟩, 23) := ⟨⟨by decide +kernel, by decide +kernel⟩, List.mem_of_getElem? (i := 599) (by decide +kernel), List.mem_of_getElem? (i := 728) (by decide +kernel), List.mem_of_getElem? (i := 729) (by decide +kernel)⟩
theorem lw_p13 : lw_okq (⟨"RiverDeskModel", "make", "(III)Z"⟩, 23) := ⟨⟨by decide +kernel, by decide +kernel⟩, List.mem_of_getElem? (i := 599) (by decide +kernel), List.mem_of_getElem? (i := 740) (by decide +kernel), List.mem_of_getElem? (i := 741) (by decide +kernel)⟩
theorem lw_p14 : lw_okq (⟨"RiverDeskModel", "age", "()V"⟩, 23) := ⟨⟨by decide +kernel, by decide +kernel⟩, List.mem_of_getElem? (i := 599) (by decide +kernel), List.mem_of_getElem? (i := 744) (by decide +kernel), List.mem_of_getElem? (i := 745) (by decide +kernel)⟩
theorem lw_p15 : lw_okq (⟨"RiverDeskModel", "holdsPlan", "(I)Z"⟩, 23) := ⟨⟨by decide +kernel, by decide +kernel⟩, List.mem_of_getElem? (i := 599) (by decide +kernel), List.mem_of_getElem? (i := 748) (by decide +kernel), List.mem_of_getElem? (i := 749) (by decide +kernel)⟩
def lw_privs_1 : List (MethodName × Nat) := [(⟨"RiverDesk", "settleToday", "()V"⟩, 7), (⟨"RiverDesk$Plan", "pour", "(LRiverDesk$River;I)V"⟩, 3), (⟨"RiverDesk", "isShort", "(I)Z"⟩, 7), (⟨"java/lang/Throwable", "fillInStackTrace", "(I)Ljava/lang/Throwable;"⟩, 6), (⟨"RiverDesk", "checkPath", "(II)V"⟩, 7), (⟨"RiverDesk", "checkRight", "(I)V"⟩, 7), (⟨"RiverDesk", "checkReach", "(I)V"⟩, 7), (⟨"RiverDesk", "oldestThatWouldGetLess", "()I"⟩, 7), (⟨"RiverDeskModel", "isOn", "(II)Z"⟩, 23), (⟨"RiverDeskModel", "isTaken", "(II)Z"⟩, 23), (⟨"RiverDeskModel", "lay", "(IIII)V"⟩, 23), (⟨"RiverDeskModel", "wrongRight", "(I)I"⟩, 23), (⟨"RiverDeskModel", "wrongReach", "(I)I"⟩, 23), (⟨"RiverDeskModel", "make", "(III)Z"⟩, 23), (⟨"RiverDeskModel", "age", "()V"⟩, 23), (⟨"RiverDeskModel", "holdsPlan", "(I)Z"⟩, 23)]
theorem lw_r1 : ∀ q ∈ lw_privs_1, lw_okq q := List.forall_mem_cons.mpr ⟨lw_p0, List.forall_mem_cons.mpr ⟨lw_p1, List.forall_mem_cons.mpr ⟨lw_p2, List.forall_mem_cons.mpr ⟨lw_p3, List.forall_mem_cons.mpr ⟨lw_p4, List.forall_mem_cons.mpr ⟨lw_p5, List.forall_mem_cons.mpr ⟨lw_p6, List.forall_mem_cons.mpr ⟨lw_p7, List.forall_mem_cons.mpr ⟨lw_p8, List.forall_mem_cons.mpr ⟨lw_p9, List.forall_mem_cons.mpr ⟨lw_p10, List.forall_mem_cons.mpr ⟨lw_p11, List.forall_mem_cons.mpr ⟨lw_p12, List.forall_mem_cons.mpr ⟨lw_p13, List.forall_mem_cons.mpr ⟨lw_p14, List.forall_mem_cons.mpr ⟨lw_p15, fun _ h => absurd h List.not_mem_nil⟩⟩⟩⟩⟩⟩⟩⟩⟩⟩⟩⟩⟩⟩⟩⟩
theorem lw_p16 : lw_okq (⟨"RiverDeskModel", "natural", "(I)J"⟩, 23) := ⟨⟨by decide +kernel, by decide +kernel⟩, List.mem_of_getElem? (i := 599) (by decide +kernel), List.mem_of_getElem? (i := 752) (by decide +kernel), List.mem_of_getElem? (i := 753) (by decide +kernel)⟩
theorem lw_p17 : lw_okq (⟨"RiverDeskModel", "returned", "(IJ)J"⟩, 23) := ⟨⟨by decide +kernel, by decide +kernel⟩, List.mem_of_getElem? (i := 599) (by decide +kernel), List.mem_of_getElem? (i := 756) (by decide +kernel), List.mem_of_getElem? (i := 757) (by decide +kernel)⟩
theorem lw_p18 : lw_okq (⟨"RiverDeskModel", "isShort", "(I)Z"⟩, 23) := ⟨⟨by decide +kernel, by decide +kernel⟩, List.mem_of_getElem? (i := 599) (by decide +kernel), List.mem_of_getElem? (i := 761) (by decide +kernel), List.mem_of_getElem? (i := 762) (by decide +kernel)⟩
def lw_privs_2 : List (MethodName × Nat) := [(⟨"RiverDeskModel", "natural", "(I)J"⟩, 23), (⟨"RiverDeskModel", "returned", "(IJ)J"⟩, 23), (⟨"RiverDeskModel", "isShort", "(I)Z"⟩, 23)]
theorem lw_r2 : ∀ q ∈ lw_privs_2, lw_okq q := List.forall_mem_cons.mpr ⟨lw_p16, List.forall_mem_cons.mpr ⟨lw_p17, List.forall_mem_cons.mpr ⟨lw_p18, fun _ h => absurd h List.not_mem_nil⟩⟩⟩
def lw_privs : List (MethodName × Nat) := lw_privs_1 ++ (lw_privs_2)
def lw_tbl : List Cond := k2_sels lw_privs ++ tables_1
theorem lw_privs_ok : ∀ q ∈ lw_privs, lw_okq q := by
  show ∀ q ∈ lw_privs_1 ++ (lw_privs_2), lw_okq q
  exact List.forall_mem_append.mpr ⟨lw_r1, lw_r2⟩
/-! the words that all methods share: the good ones of the tables, by their places -/
def gW : List Cond := lw_tbl.filter goodWord
theorem gI {w : Cond} (i : Nat) (h : lw_tbl[i]? = some w) (hg : goodWord w = true) : w ∈ gW := List.mem_filter.mpr ⟨List.mem_of_getElem? h, hg⟩
theorem gW_good {w : Cond} (h : w ∈ gW) : goodWord w = true := (List.mem_filter.mp h).2
theorem gW_in {w : Cond} (h : w ∈ gW) : w ∈ lw_tbl := (List.mem_filter.mp h).1
def RX0 : String := "RiverDesk$Books"
def TX0 : u_T := fun k => match k with
  | 0 => ("RiverDesk$Books", "entries", "[J", true)
  | _ => ("RiverDesk$Books", "day", "I", false)
def tyX0 : Nat → FieldType := fun k => match k with
  | 0 => .array .long
  | _ => .int
theorem nmX0 : ∀ a, a < 2 → ∀ b, b < 2 → a ≠ b → (TX0 a).2.1 ≠ (TX0 b).2.1 := by decide +kernel
theorem tyX0_ok : ∀ k, k < 2 → parseFieldDescriptor (TX0 k).2.2.1 = some (tyX0 k) := by decide +kernel
theorem inX0 : ∀ w ∈ u_ws RX0 TX0 2, w ∈ gW := by
  have h : (u_ws RX0 TX0 2).all (fun w => decide (w ∈ lw_tbl) && goodWord w) = true := by decide +kernel
  intro w hw
  have h1 := List.all_eq_true.mp h w hw
  simp only [Bool.and_eq_true, decide_eq_true_eq] at h1
  exact List.mem_filter.mpr h1
def RX1 : String := "RiverDesk$Plan"
def TX1 : u_T := fun k => match k with
  | 0 => ("RiverDesk$Plan", "gets", "[I", true)
  | 1 => ("RiverDesk$Plan", "flows", "[J", true)
  | _ => ("RiverDesk$Plan", "rooms", "[I", true)
def tyX1 : Nat → FieldType := fun k => match k with
  | 0 => .array .int
  | 1 => .array .long
  | _ => .array .int
theorem nmX1 : ∀ a, a < 3 → ∀ b, b < 3 → a ≠ b → (TX1 a).2.1 ≠ (TX1 b).2.1 := by decide +kernel
theorem tyX1_ok : ∀ k, k < 3 → parseFieldDescriptor (TX1 k).2.2.1 = some (tyX1 k) := by decide +kernel
theorem inX1 : ∀ w ∈ u_ws RX1 TX1 3, w ∈ gW := by
  have h : (u_ws RX1 TX1 3).all (fun w => decide (w ∈ lw_tbl) && goodWord w) = true := by decide +kernel
  intro w hw
  have h1 := List.all_eq_true.mp h w hw
  simp only [Bool.and_eq_true, decide_eq_true_eq] at h1
  exact List.mem_filter.mpr h1
def RX2 : String := "RiverDesk$Reservoirs"
def TX2 : u_T := fun k => match k with
  | 0 => ("RiverDesk$Reservoirs", "there", "[Z", true)
  | 1 => ("RiverDesk$Reservoirs", "reaches", "[I", true)
  | 2 => ("RiverDesk$Reservoirs", "capacities", "[I", true)
  | 3 => ("RiverDesk$Reservoirs", "waters", "[I", true)
  | _ => ("RiverDesk$Reservoirs", "released", "J", false)
def tyX2 : Nat → FieldType := fun k => match k with
  | 0 => .array .boolean
  | 1 => .array .int
  | 2 => .array .int
  | 3 => .array .int
  | _ => .long
theorem nmX2 : ∀ a, a < 5 → ∀ b, b < 5 → a ≠ b → (TX2 a).2.1 ≠ (TX2 b).2.1 := by decide +kernel
theorem tyX2_ok : ∀ k, k < 5 → parseFieldDescriptor (TX2 k).2.2.1 = some (tyX2 k) := by decide +kernel
theorem inX2 : ∀ w ∈ u_ws RX2 TX2 5, w ∈ gW := by
  have h : (u_ws RX2 TX2 5).all (fun w => decide (w ∈ lw_tbl) && goodWord w) = true := by decide +kernel
  intro w hw
  have h1 := List.all_eq_true.mp h w hw
  simp only [Bool.and_eq_true, decide_eq_true_eq] at h1
  exact List.mem_filter.mpr h1
def RX3 : String := "RiverDesk$Rights"
def TX3 : u_T := fun k => match k with
  | 0 => ("RiverDesk$Rights", "there", "[Z", true)
  | 1 => ("RiverDesk$Rights", "reaches", "[I", true)
  | 2 => ("RiverDesk$Rights", "priorities", "[I", true)
  | 3 => ("RiverDesk$Rights", "rates", "[I", true)
  | 4 => ("RiverDesk$Rights", "wants", "[I", true)
  | 5 => ("RiverDesk$Rights", "shares", "[I", true)
  | 6 => ("RiverDesk$Rights", "returns", "[I", true)
  | 7 => ("RiverDesk$Rights", "reservoirs", "[I", true)
  | 8 => ("RiverDesk$Rights", "byAge", "[I", true)
  | _ => ("RiverDesk$Rights", "count", "I", false)
def tyX3 : Nat → FieldType := fun k => match k with
  | 0 => .array .boolean
  | 1 => .array .int
  | 2 => .array .int
  | 3 => .array .int
  | 4 => .array .int
  | 5 => .array .int
  | 6 => .array .int
  | 7 => .array .int
  | 8 => .array .int
  | _ => .int
theorem nmX3 : ∀ a, a < 10 → ∀ b, b < 10 → a ≠ b → (TX3 a).2.1 ≠ (TX3 b).2.1 := by decide +kernel
theorem tyX3_ok : ∀ k, k < 10 → parseFieldDescriptor (TX3 k).2.2.1 = some (tyX3 k) := by decide +kernel
theorem inX3 : ∀ w ∈ u_ws RX3 TX3 10, w ∈ gW := by
  have h : (u_ws RX3 TX3 10).all (fun w => decide (w ∈ lw_tbl) && goodWord w) = true := by decide +kernel
  intro w hw
  have h1 := List.all_eq_true.mp h w hw
  simp only [Bool.and_eq_true, decide_eq_true_eq] at h1
  exact List.mem_filter.mpr h1
def RX4 : String := "RiverDesk$River"
def TX4 : u_T := fun k => match k with
  | 0 => ("RiverDesk$River", "there", "[Z", true)
  | 1 => ("RiverDesk$River", "below", "[I", true)
  | 2 => ("RiverDesk$River", "inflows", "[I", true)
  | 3 => ("RiverDesk$River", "sent", "[J", true)
  | _ => ("RiverDesk$River", "outlet", "I", false)
def tyX4 : Nat → FieldType := fun k => match k with
  | 0 => .array .boolean
  | 1 => .array .int
  | 2 => .array .int
  | 3 => .array .long
  | _ => .int
theorem nmX4 : ∀ a, a < 5 → ∀ b, b < 5 → a ≠ b → (TX4 a).2.1 ≠ (TX4 b).2.1 := by decide +kernel
theorem tyX4_ok : ∀ k, k < 5 → parseFieldDescriptor (TX4 k).2.2.1 = some (tyX4 k) := by decide +kernel
theorem inX4 : ∀ w ∈ u_ws RX4 TX4 5, w ∈ gW := by
  have h : (u_ws RX4 TX4 5).all (fun w => decide (w ∈ lw_tbl) && goodWord w) = true := by decide +kernel
  intro w hw
  have h1 := List.all_eq_true.mp h w hw
  simp only [Bool.and_eq_true, decide_eq_true_eq] at h1
  exact List.mem_filter.mpr h1
def RX5 : String := "RiverDesk"
def TX5 : u_T := fun k => match k with
  | 0 => ("RiverDesk", "river", "LRiverDesk$River;", true)
  | 1 => ("RiverDesk", "reservoirs", "LRiverDesk$Reservoirs;", true)
  | 2 => ("RiverDesk", "rights", "LRiverDesk$Rights;", true)
  | 3 => ("RiverDesk", "books", "LRiverDesk$Books;", true)
  | 4 => ("RiverDesk", "today", "LRiverDesk$Plan;", true)
  | 5 => ("RiverDesk", "supposed", "LRiverDesk$Plan;", true)
  | _ => ("RiverDesk", "todayIsStale", "Z", false)
def tyX5 : Nat → FieldType := fun k => match k with
  | 0 => .object "RiverDesk$River"
  | 1 => .object "RiverDesk$Reservoirs"
  | 2 => .object "RiverDesk$Rights"
  | 3 => .object "RiverDesk$Books"
  | 4 => .object "RiverDesk$Plan"
  | 5 => .object "RiverDesk$Plan"
  | _ => .boolean
theorem nmX5 : ∀ a, a < 7 → ∀ b, b < 7 → a ≠ b → (TX5 a).2.1 ≠ (TX5 b).2.1 := by decide +kernel
theorem tyX5_ok : ∀ k, k < 7 → parseFieldDescriptor (TX5 k).2.2.1 = some (tyX5 k) := by decide +kernel
theorem inX5 : ∀ w ∈ u_ws RX5 TX5 7, w ∈ gW := by
  have h : (u_ws RX5 TX5 7).all (fun w => decide (w ∈ lw_tbl) && goodWord w) = true := by decide +kernel
  intro w hw
  have h1 := List.all_eq_true.mp h w hw
  simp only [Bool.and_eq_true, decide_eq_true_eq] at h1
  exact List.mem_filter.mpr h1
def RX6 : String := "RiverDeskModel"
def TX6 : u_T := fun k => match k with
  | 0 => ("RiverDeskModel", "thrown", "I", false)
  | 1 => ("RiverDeskModel", "isReach", "[Z", true)
  | 2 => ("RiverDeskModel", "down", "[I", true)
  | 3 => ("RiverDeskModel", "inflows", "[I", true)
  | 4 => ("RiverDeskModel", "isStore", "[Z", true)
  | 5 => ("RiverDeskModel", "storeReach", "[I", true)
  | 6 => ("RiverDeskModel", "capacity", "[I", true)
  | 7 => ("RiverDeskModel", "holds", "[I", true)
  | 8 => ("RiverDeskModel", "released", "[J", true)
  | 9 => ("RiverDeskModel", "isRight", "[Z", true)
  | 10 => ("RiverDeskModel", "place", "[I", true)
  | 11 => ("RiverDeskModel", "priority", "[I", true)
  | 12 => ("RiverDeskModel", "rate", "[I", true)
  | 13 => ("RiverDeskModel", "share", "[I", true)
  | 14 => ("RiverDeskModel", "back", "[I", true)
  | 15 => ("RiverDeskModel", "store", "[I", true)
  | 16 => ("RiverDeskModel", "wants", "[I", true)
  | 17 => ("RiverDeskModel", "day", "I", false)
  | 18 => ("RiverDeskModel", "books", "[J", true)
  | 19 => ("RiverDeskModel", "amount", "[I", true)
  | 20 => ("RiverDeskModel", "first", "[I", true)
  | 21 => ("RiverDeskModel", "order", "[I", true)
  | _ => ("RiverDeskModel", "rights", "I", false)
def tyX6 : Nat → FieldType := fun k => match k with
  | 0 => .int
  | 1 => .array .boolean
  | 2 => .array .int
  | 3 => .array .int
  | 4 => .array .boolean
  | 5 => .array .int
  | 6 => .array .int
  | 7 => .array .int
  | 8 => .array .long
  | 9 => .array .boolean
  | 10 => .array .int
  | 11 => .array .int
  | 12 => .array .int
  | 13 => .array .int
  | 14 => .array .int
  | 15 => .array .int
  | 16 => .array .int
  | 17 => .int
  | 18 => .array .long
  | 19 => .array .int
  | 20 => .array .int
  | 21 => .array .int
  | _ => .int
theorem nmX6 : ∀ a, a < 23 → ∀ b, b < 23 → a ≠ b → (TX6 a).2.1 ≠ (TX6 b).2.1 := by decide +kernel
theorem tyX6_ok : ∀ k, k < 23 → parseFieldDescriptor (TX6 k).2.2.1 = some (tyX6 k) := by decide +kernel
theorem inX6 : ∀ w ∈ u_ws RX6 TX6 23, w ∈ gW := by
  have h : (u_ws RX6 TX6 23).all (fun w => decide (w ∈ lw_tbl) && goodWord w) = true := by decide +kernel
  intro w hw
  have h1 := List.all_eq_true.mp h w hw
  simp only [Bool.and_eq_true, decide_eq_true_eq] at h1
  exact List.mem_filter.mpr h1
def RL : String := "RiverDeskLaw"
def RJA : String := "java/util/Arrays"
def RJM : String := "java/lang/Math"
abbrev vwCl : List vw_C := [(RX0, TX0, 2), (RX1, TX1, 3), (RX2, TX2, 5), (RX3, TX3, 10), (RX4, TX4, 5), (RX5, TX5, 7), (RX6, TX6, 23)]
abbrev cX5_init : ByteArray := prog_1_method_1_code
def yX5_init : MethodName := ⟨RX5, "<init>", "()V"⟩
def sX5_init : List Cond := .code yX5_init cX5_init 1 none :: gW
abbrev cX4_init : ByteArray := prog_6_method_1_code
def yX4_init : MethodName := ⟨RX4, "<init>", "()V"⟩
def sX4_init : List Cond := .code yX4_init cX4_init 1 none :: gW
abbrev cX2_init : ByteArray := prog_4_method_1_code
def yX2_init : MethodName := ⟨RX2, "<init>", "()V"⟩
def sX2_init : List Cond := .code yX2_init cX2_init 1 none :: gW
abbrev cX3_init : ByteArray := prog_5_method_1_code
def yX3_init : MethodName := ⟨RX3, "<init>", "()V"⟩
def sX3_init : List Cond := .code yX3_init cX3_init 1 none :: gW
abbrev cX0_init : ByteArray := prog_2_method_1_code
def yX0_init : MethodName := ⟨RX0, "<init>", "()V"⟩
def sX0_init : List Cond := .code yX0_init cX0_init 1 none :: gW
abbrev cX1_init : ByteArray := prog_3_method_1_code
def yX1_init : MethodName := ⟨RX1, "<init>", "()V"⟩
def sX1_init : List Cond := .code yX1_init cX1_init 1 none :: gW
abbrev cX5_plan : ByteArray := prog_1_method_10_code
def yX5_plan : MethodName := ⟨RX5, "plan", "()I"⟩
def sX5_plan : List Cond := .code yX5_plan cX5_plan 3 (some FieldType.int) :: gW
abbrev cX5_settleToday : ByteArray := prog_1_method_20_code
def yX5_settleToday : MethodName := ⟨RX5, "settleToday", "()V"⟩
def sX5_settleToday : List Cond := .code yX5_settleToday cX5_settleToday 1 none :: gW
abbrev cX1_begin : ByteArray := prog_3_method_2_code
def yX1_begin : MethodName := ⟨RX1, "begin", "(LRiverDesk$River;LRiverDesk$Reservoirs;)V"⟩
def sX1_begin : List Cond := .code yX1_begin cX1_begin 4 none :: gW
abbrev cJA_fillI : ByteArray := prog_18_method_103_code
def yJA_fillI : MethodName := ⟨RJA, "fill", "([II)V"⟩
def sJA_fillI : List Cond := .code yJA_fillI cJA_fillI 4 none :: gW
abbrev cJA_fillJ : ByteArray := prog_18_method_101_code
def yJA_fillJ : MethodName := ⟨RJA, "fill", "([JJ)V"⟩
def sJA_fillJ : List Cond := .code yJA_fillJ cJA_fillJ 5 none :: gW
abbrev cX1_pour : ByteArray := prog_3_method_3_code
def yX1_pour : MethodName := ⟨RX1, "pour", "(LRiverDesk$River;I)V"⟩
def sX1_pour : List Cond := .code yX1_pour cX1_pour 5 none :: gW
abbrev cX1_giveAllBut : ByteArray := prog_3_method_4_code
def yX1_giveAllBut : MethodName := ⟨RX1, "giveAllBut", "(LRiverDesk$River;LRiverDesk$Rights;I)V"⟩
def sX1_giveAllBut : List Cond := .code yX1_giveAllBut cX1_giveAllBut 6 none :: gW
abbrev cX1_most : ByteArray := prog_3_method_5_code
def yX1_most : MethodName := ⟨RX1, "most", "(LRiverDesk$River;LRiverDesk$Rights;I)I"⟩
def sX1_most : List Cond := .code yX1_most cX1_most 9 (some FieldType.int) :: gW
abbrev cX3_isStorage : ByteArray := prog_5_method_7_code
def yX3_isStorage : MethodName := ⟨RX3, "isStorage", "(I)Z"⟩
def sX3_isStorage : List Cond := .code yX3_isStorage cX3_isStorage 2 (some FieldType.boolean) :: gW
abbrev cJM_min : ByteArray := prog_13_method_70_code
def yJM_min : MethodName := ⟨RJM, "min", "(JJ)J"⟩
def sJM_min : List Cond := .code yJM_min cJM_min 4 (some FieldType.long) :: gW
abbrev cX3_mostForUse : ByteArray := prog_5_method_9_code
def yX3_mostForUse : MethodName := ⟨RX3, "mostForUse", "(IJ)J"⟩
def sX3_mostForUse : List Cond := .code yX3_mostForUse cX3_mostForUse 5 (some FieldType.long) :: gW
abbrev cX1_give : ByteArray := prog_3_method_6_code
def yX1_give : MethodName := ⟨RX1, "give", "(LRiverDesk$River;LRiverDesk$Rights;II)V"⟩
def sX1_give : List Cond := .code yX1_give cX1_give 8 none :: gW
abbrev cX3_usedOf : ByteArray := prog_5_method_8_code
def yX3_usedOf : MethodName := ⟨RX3, "usedOf", "(II)J"⟩
def sX3_usedOf : List Cond := .code yX3_usedOf cX3_usedOf 3 (some FieldType.long) :: gW
abbrev cX5_isShort : ByteArray := prog_1_method_21_code
def yX5_isShort : MethodName := ⟨RX5, "isShort", "(I)Z"⟩
def sX5_isShort : List Cond := .code yX5_isShort cX5_isShort 2 (some FieldType.boolean) :: gW
abbrev cX5_close : ByteArray := prog_1_method_15_code
def yX5_close : MethodName := ⟨RX5, "close", "()I"⟩
def sX5_close : List Cond := .code yX5_close cX5_close 1 (some FieldType.int) :: gW
abbrev cX0_write : ByteArray := prog_2_method_2_code
def yX0_write : MethodName := ⟨RX0, "write", "(LRiverDesk$River;LRiverDesk$Reservoirs;LRiverDesk$Rights;LRiverDesk$Plan;)V"⟩
def sX0_write : List Cond := .code yX0_write cX0_write 11 none :: gW
abbrev cX0_pageOf : ByteArray := prog_2_method_3_code
def yX0_pageOf : MethodName := ⟨RX0, "pageOf", "(I)I"⟩
def sX0_pageOf : List Cond := .code yX0_pageOf cX0_pageOf 1 (some FieldType.int) :: gW
abbrev cJM_floorMod : ByteArray := prog_13_method_50_code
def yJM_floorMod : MethodName := ⟨RJM, "floorMod", "(II)I"⟩
def sJM_floorMod : List Cond := .code yJM_floorMod cJM_floorMod 3 (some FieldType.int) :: gW
abbrev cX4_allInflow : ByteArray := prog_6_method_5_code
def yX4_allInflow : MethodName := ⟨RX4, "allInflow", "()J"⟩
def sX4_allInflow : List Cond := .code yX4_allInflow cX4_allInflow 4 (some FieldType.long) :: gW
abbrev cX2_beginDay : ByteArray := prog_4_method_4_code
def yX2_beginDay : MethodName := ⟨RX2, "beginDay", "(LRiverDesk$Rights;LRiverDesk$Plan;)V"⟩
def sX2_beginDay : List Cond := .code yX2_beginDay cX2_beginDay 5 none :: gW
abbrev cX4_beginDay : ByteArray := prog_6_method_6_code
def yX4_beginDay : MethodName := ⟨RX4, "beginDay", "()V"⟩
def sX4_beginDay : List Cond := .code yX4_beginDay cX4_beginDay 1 none :: gW
abbrev cX3_beginDay : ByteArray := prog_5_method_10_code
def yX3_beginDay : MethodName := ⟨RX3, "beginDay", "()V"⟩
def sX3_beginDay : List Cond := .code yX3_beginDay cX3_beginDay 1 none :: gW
abbrev cX5_held : ByteArray := prog_1_method_16_code
def yX5_held : MethodName := ⟨RX5, "held", "(II)I"⟩
def sX5_held : List Cond := .code yX5_held cX5_held 3 (some FieldType.int) :: gW
abbrev cX5_book : ByteArray := prog_1_method_17_code
def yX5_book : MethodName := ⟨RX5, "book", "(II)J"⟩
def sX5_book : List Cond := .code yX5_book cX5_book 3 (some FieldType.long) :: gW
abbrev cX0_read : ByteArray := prog_2_method_4_code
def yX0_read : MethodName := ⟨RX0, "read", "(II)J"⟩
def sX0_read : List Cond := .code yX0_read cX0_read 3 (some FieldType.long) :: gW
abbrev cX5_about : ByteArray := prog_1_method_18_code
def yX5_about : MethodName := ⟨RX5, "about", "(II)I"⟩
def sX5_about : List Cond := .code yX5_about cX5_about 3 (some FieldType.int) :: gW
abbrev cX5_aged : ByteArray := prog_1_method_19_code
def yX5_aged : MethodName := ⟨RX5, "aged", "(I)I"⟩
def sX5_aged : List Cond := .code yX5_aged cX5_aged 2 (some FieldType.int) :: gW
abbrev cL_reach : ByteArray := method_3_code
def yL_reach : MethodName := ⟨RL, "reach", "(LRiverDesk;II)I"⟩
def sL_reach : List Cond := .codeWith yL_reach cL_reach 4 (some FieldType.int) [(0, 6, 9, 13), (0, 6, 12, 15), (0, 6, 15, 17)] :: gW
abbrev cX5_reach : ByteArray := prog_1_method_2_code
def yX5_reach : MethodName := ⟨RX5, "reach", "(II)V"⟩
def sX5_reach : List Cond := .code yX5_reach cX5_reach 3 none :: gW
abbrev cX5_checkNumber : ByteArray := prog_1_method_26_code
def yX5_checkNumber : MethodName := ⟨RX5, "checkNumber", "(II)V"⟩
def sX5_checkNumber : List Cond := .code yX5_checkNumber cX5_checkNumber 2 none :: gW
abbrev cX5_checkThere : ByteArray := prog_1_method_27_code
def yX5_checkThere : MethodName := ⟨RX5, "checkThere", "(Z)V"⟩
def sX5_checkThere : List Cond := .code yX5_checkThere cX5_checkThere 1 none :: gW
abbrev cX5_checkFree : ByteArray := prog_1_method_29_code
def yX5_checkFree : MethodName := ⟨RX5, "checkFree", "(Z)V"⟩
def sX5_checkFree : List Cond := .code yX5_checkFree cX5_checkFree 1 none :: gW
abbrev cX4_add : ByteArray := prog_6_method_2_code
def yX4_add : MethodName := ⟨RX4, "add", "(II)V"⟩
def sX4_add : List Cond := .code yX4_add cX4_add 3 none :: gW
abbrev cL_reservoir : ByteArray := method_4_code
def yL_reservoir : MethodName := ⟨RL, "reservoir", "(LRiverDesk;III)I"⟩
def sL_reservoir : List Cond := .codeWith yL_reservoir cL_reservoir 5 (some FieldType.int) [(0, 7, 10, 13), (0, 7, 14, 15), (0, 7, 18, 23), (0, 7, 22, 17)] :: gW
abbrev cX5_reservoir : ByteArray := prog_1_method_3_code
def yX5_reservoir : MethodName := ⟨RX5, "reservoir", "(III)V"⟩
def sX5_reservoir : List Cond := .code yX5_reservoir cX5_reservoir 4 none :: gW
abbrev cX5_checkBetween : ByteArray := prog_1_method_28_code
def yX5_checkBetween : MethodName := ⟨RX5, "checkBetween", "(III)V"⟩
def sX5_checkBetween : List Cond := .code yX5_checkBetween cX5_checkBetween 3 none :: gW
abbrev cX2_add : ByteArray := prog_4_method_2_code
def yX2_add : MethodName := ⟨RX2, "add", "(III)V"⟩
def sX2_add : List Cond := .code yX2_add cX2_add 4 none :: gW
abbrev cL_right : ByteArray := method_5_code
def yL_right : MethodName := ⟨RL, "right", "(LRiverDesk;IIIIII)I"⟩
def sL_right : List Cond := .codeWith yL_right cL_right 8 (some FieldType.int) [(0, 13, 16, 13), (0, 13, 20, 15), (0, 13, 24, 23), (0, 13, 28, 17)] :: gW
abbrev cX5_right : ByteArray := prog_1_method_4_code
def yX5_right : MethodName := ⟨RX5, "right", "(IIIIII)V"⟩
def sX5_right : List Cond := .code yX5_right cX5_right 7 none :: gW
abbrev cX5_checkPath : ByteArray := prog_1_method_25_code
def yX5_checkPath : MethodName := ⟨RX5, "checkPath", "(II)V"⟩
def sX5_checkPath : List Cond := .code yX5_checkPath cX5_checkPath 3 none :: gW
abbrev cX4_leadsTo : ByteArray := prog_6_method_3_code
def yX4_leadsTo : MethodName := ⟨RX4, "leadsTo", "(II)Z"⟩
def sX4_leadsTo : List Cond := .code yX4_leadsTo cX4_leadsTo 5 (some FieldType.boolean) :: gW
abbrev cX3_hasPriority : ByteArray := prog_5_method_6_code
def yX3_hasPriority : MethodName := ⟨RX3, "hasPriority", "(I)Z"⟩
def sX3_hasPriority : List Cond := .code yX3_hasPriority cX3_hasPriority 3 (some FieldType.boolean) :: gW
abbrev cX3_setDirect : ByteArray := prog_5_method_2_code
def yX3_setDirect : MethodName := ⟨RX3, "setDirect", "(III)V"⟩
def sX3_setDirect : List Cond := .code yX3_setDirect cX3_setDirect 4 none :: gW
abbrev cX3_add : ByteArray := prog_5_method_4_code
def yX3_add : MethodName := ⟨RX3, "add", "(IIII)V"⟩
def sX3_add : List Cond := .code yX3_add cX3_add 6 none :: gW
abbrev cL_storage : ByteArray := method_6_code
def yL_storage : MethodName := ⟨RL, "storage", "(LRiverDesk;IIIII)I"⟩
def sL_storage : List Cond := .codeWith yL_storage cL_storage 7 (some FieldType.int) [(0, 11, 14, 13), (0, 11, 18, 15), (0, 11, 22, 23), (0, 11, 26, 17)] :: gW
abbrev cX5_storage : ByteArray := prog_1_method_5_code
def yX5_storage : MethodName := ⟨RX5, "storage", "(IIIII)V"⟩
def sX5_storage : List Cond := .code yX5_storage cX5_storage 6 none :: gW
abbrev cX3_setStorage : ByteArray := prog_5_method_3_code
def yX3_setStorage : MethodName := ⟨RX3, "setStorage", "(II)V"⟩
def sX3_setStorage : List Cond := .code yX3_setStorage cX3_setStorage 3 none :: gW
abbrev cL_drop : ByteArray := method_7_code
def yL_drop : MethodName := ⟨RL, "drop", "(LRiverDesk;I)I"⟩
def sL_drop : List Cond := .codeWith yL_drop cL_drop 3 (some FieldType.int) [(0, 5, 8, 13), (0, 5, 11, 15)] :: gW
abbrev cX5_drop : ByteArray := prog_1_method_6_code
def yX5_drop : MethodName := ⟨RX5, "drop", "(I)V"⟩
def sX5_drop : List Cond := .code yX5_drop cX5_drop 2 none :: gW
abbrev cX5_checkRight : ByteArray := prog_1_method_24_code
def yX5_checkRight : MethodName := ⟨RX5, "checkRight", "(I)V"⟩
def sX5_checkRight : List Cond := .code yX5_checkRight cX5_checkRight 2 none :: gW
abbrev cX3_remove : ByteArray := prog_5_method_5_code
def yX3_remove : MethodName := ⟨RX3, "remove", "(I)V"⟩
def sX3_remove : List Cond := .code yX3_remove cX3_remove 4 none :: gW
abbrev cL_want : ByteArray := method_8_code
def yL_want : MethodName := ⟨RL, "want", "(LRiverDesk;II)I"⟩
def sL_want : List Cond := .codeWith yL_want cL_want 4 (some FieldType.int) [(0, 6, 9, 13), (0, 6, 12, 15), (0, 6, 15, 23)] :: gW
abbrev cX5_want : ByteArray := prog_1_method_7_code
def yX5_want : MethodName := ⟨RX5, "want", "(II)V"⟩
def sX5_want : List Cond := .code yX5_want cX5_want 3 none :: gW
abbrev cL_inflow : ByteArray := method_9_code
def yL_inflow : MethodName := ⟨RL, "inflow", "(LRiverDesk;II)I"⟩
def sL_inflow : List Cond := .codeWith yL_inflow cL_inflow 4 (some FieldType.int) [(0, 6, 9, 13), (0, 6, 12, 15), (0, 6, 15, 23)] :: gW
abbrev cX5_inflow : ByteArray := prog_1_method_8_code
def yX5_inflow : MethodName := ⟨RX5, "inflow", "(II)V"⟩
def sX5_inflow : List Cond := .code yX5_inflow cX5_inflow 3 none :: gW
abbrev cX5_checkReach : ByteArray := prog_1_method_23_code
def yX5_checkReach : MethodName := ⟨RX5, "checkReach", "(I)V"⟩
def sX5_checkReach : List Cond := .code yX5_checkReach cX5_checkReach 2 none :: gW
abbrev cL_release : ByteArray := method_10_code
def yL_release : MethodName := ⟨RL, "release", "(LRiverDesk;III[J)I"⟩
def sL_release : List Cond := .codeWith yL_release cL_release 6 (some FieldType.int) [(0, 12, 15, 13), (0, 12, 19, 15), (0, 12, 23, 23), (0, 12, 27, 17)] :: gW
abbrev cX5_release : ByteArray := prog_1_method_9_code
def yX5_release : MethodName := ⟨RX5, "release", "(III)I"⟩
def sX5_release : List Cond := .code yX5_release cX5_release 4 (some FieldType.int) :: gW
abbrev cX5_checkEnough : ByteArray := prog_1_method_30_code
def yX5_checkEnough : MethodName := ⟨RX5, "checkEnough", "(II)V"⟩
def sX5_checkEnough : List Cond := .code yX5_checkEnough cX5_checkEnough 2 none :: gW
abbrev cX2_letOut : ByteArray := prog_4_method_3_code
def yX2_letOut : MethodName := ⟨RX2, "letOut", "(II)V"⟩
def sX2_letOut : List Cond := .code yX2_letOut cX2_letOut 3 none :: gW
abbrev cX4_send : ByteArray := prog_6_method_4_code
def yX4_send : MethodName := ⟨RX4, "send", "(III)V"⟩
def sX4_send : List Cond := .code yX4_send cX4_send 7 none :: gW
abbrev cL_given : ByteArray := method_11_code
def yL_given : MethodName := ⟨RL, "given", "(LRiverDesk;I[J)I"⟩
def sL_given : List Cond := .codeWith yL_given cL_given 4 (some FieldType.int) [(0, 9, 12, 13), (0, 9, 15, 15)] :: gW
abbrev cX5_given : ByteArray := prog_1_method_11_code
def yX5_given : MethodName := ⟨RX5, "given", "(I)I"⟩
def sX5_given : List Cond := .code yX5_given cX5_given 2 (some FieldType.int) :: gW
abbrev cL_flow : ByteArray := method_12_code
def yL_flow : MethodName := ⟨RL, "flow", "(LRiverDesk;II[J)I"⟩
def sL_flow : List Cond := .codeWith yL_flow cL_flow 5 (some FieldType.int) [(0, 9, 12, 13), (0, 9, 16, 15)] :: gW
abbrev cX5_flow : ByteArray := prog_1_method_12_code
def yX5_flow : MethodName := ⟨RX5, "flow", "(II)J"⟩
def sX5_flow : List Cond := .code yX5_flow cX5_flow 3 (some FieldType.long) :: gW
abbrev cL_call : ByteArray := method_13_code
def yL_call : MethodName := ⟨RL, "call", "(LRiverDesk;I[J)I"⟩
def sL_call : List Cond := .codeWith yL_call cL_call 4 (some FieldType.int) [(0, 9, 12, 13), (0, 9, 15, 15)] :: gW
abbrev cX5_call : ByteArray := prog_1_method_13_code
def yX5_call : MethodName := ⟨RX5, "call", "(I)I"⟩
def sX5_call : List Cond := .code yX5_call cX5_call 3 (some FieldType.int) :: gW
abbrev cX5_oldestThatWouldGetLess : ByteArray := prog_1_method_22_code
def yX5_oldestThatWouldGetLess : MethodName := ⟨RX5, "oldestThatWouldGetLess", "()I"⟩
def sX5_oldestThatWouldGetLess : List Cond := .code yX5_oldestThatWouldGetLess cX5_oldestThatWouldGetLess 3 (some FieldType.int) :: gW
abbrev cL_futile : ByteArray := method_14_code
def yL_futile : MethodName := ⟨RL, "futile", "(LRiverDesk;II[J)I"⟩
def sL_futile : List Cond := .codeWith yL_futile cL_futile 5 (some FieldType.int) [(0, 17, 20, 13), (0, 17, 24, 15)] :: gW
abbrev cX5_futile : ByteArray := prog_1_method_14_code
def yX5_futile : MethodName := ⟨RX5, "futile", "(II)Z"⟩
def sX5_futile : List Cond := .code yX5_futile cX5_futile 3 (some FieldType.boolean) :: gW
abbrev cX6_init : ByteArray := prog_8_method_1_code
def yX6_init : MethodName := ⟨RX6, "<init>", "()V"⟩
def sX6_init : List Cond := .code yX6_init cX6_init 1 none :: gW
abbrev cX6_thrown : ByteArray := prog_8_method_2_code
def yX6_thrown : MethodName := ⟨RX6, "thrown", "()I"⟩
def sX6_thrown : List Cond := .code yX6_thrown cX6_thrown 1 (some FieldType.int) :: gW
abbrev cX6_reach : ByteArray := prog_8_method_5_code
def yX6_reach : MethodName := ⟨RX6, "reach", "(II)V"⟩
def sX6_reach : List Cond := .code yX6_reach cX6_reach 5 none :: gW
abbrev cX6_isNumber : ByteArray := prog_8_method_4_code
def yX6_isNumber : MethodName := ⟨RX6, "isNumber", "(II)Z"⟩
def sX6_isNumber : List Cond := .code yX6_isNumber cX6_isNumber 2 (some FieldType.boolean) :: gW
abbrev cX6_reservoir : ByteArray := prog_8_method_6_code
def yX6_reservoir : MethodName := ⟨RX6, "reservoir", "(III)V"⟩
def sX6_reservoir : List Cond := .code yX6_reservoir cX6_reservoir 4 none :: gW
abbrev cX6_right : ByteArray := prog_8_method_9_code
def yX6_right : MethodName := ⟨RX6, "right", "(IIIIII)V"⟩
def sX6_right : List Cond := .code yX6_right cX6_right 8 none :: gW
abbrev cX6_isOn : ByteArray := prog_8_method_3_code
def yX6_isOn : MethodName := ⟨RX6, "isOn", "(II)Z"⟩
def sX6_isOn : List Cond := .code yX6_isOn cX6_isOn 4 (some FieldType.boolean) :: gW
abbrev cX6_isTaken : ByteArray := prog_8_method_7_code
def yX6_isTaken : MethodName := ⟨RX6, "isTaken", "(II)Z"⟩
def sX6_isTaken : List Cond := .code yX6_isTaken cX6_isTaken 5 (some FieldType.boolean) :: gW
abbrev cX6_lay : ByteArray := prog_8_method_8_code
def yX6_lay : MethodName := ⟨RX6, "lay", "(IIII)V"⟩
def sX6_lay : List Cond := .code yX6_lay cX6_lay 5 none :: gW
abbrev cX6_storage : ByteArray := prog_8_method_10_code
def yX6_storage : MethodName := ⟨RX6, "storage", "(IIIII)V"⟩
def sX6_storage : List Cond := .code yX6_storage cX6_storage 7 none :: gW
abbrev cX6_drop : ByteArray := prog_8_method_13_code
def yX6_drop : MethodName := ⟨RX6, "drop", "(I)V"⟩
def sX6_drop : List Cond := .code yX6_drop cX6_drop 2 none :: gW
abbrev cX6_wrongRight : ByteArray := prog_8_method_11_code
def yX6_wrongRight : MethodName := ⟨RX6, "wrongRight", "(I)I"⟩
def sX6_wrongRight : List Cond := .code yX6_wrongRight cX6_wrongRight 2 (some FieldType.int) :: gW
abbrev cX6_want : ByteArray := prog_8_method_14_code
def yX6_want : MethodName := ⟨RX6, "want", "(II)V"⟩
def sX6_want : List Cond := .code yX6_want cX6_want 3 none :: gW
abbrev cX6_inflow : ByteArray := prog_8_method_15_code
def yX6_inflow : MethodName := ⟨RX6, "inflow", "(II)V"⟩
def sX6_inflow : List Cond := .code yX6_inflow cX6_inflow 3 none :: gW
abbrev cX6_wrongReach : ByteArray := prog_8_method_12_code
def yX6_wrongReach : MethodName := ⟨RX6, "wrongReach", "(I)I"⟩
def sX6_wrongReach : List Cond := .code yX6_wrongReach cX6_wrongReach 2 (some FieldType.int) :: gW
abbrev cX6_release : ByteArray := prog_8_method_16_code
def yX6_release : MethodName := ⟨RX6, "release", "(III)I"⟩
def sX6_release : List Cond := .code yX6_release cX6_release 4 (some FieldType.int) :: gW
abbrev cX6_plan : ByteArray := prog_8_method_23_code
def yX6_plan : MethodName := ⟨RX6, "plan", "()I"⟩
def sX6_plan : List Cond := .code yX6_plan cX6_plan 3 (some FieldType.int) :: gW
abbrev cX6_make : ByteArray := prog_8_method_21_code
def yX6_make : MethodName := ⟨RX6, "make", "(III)Z"⟩
def sX6_make : List Cond := .code yX6_make cX6_make 8 (some FieldType.boolean) :: gW
abbrev cX6_age : ByteArray := prog_8_method_20_code
def yX6_age : MethodName := ⟨RX6, "age", "()V"⟩
def sX6_age : List Cond := .code yX6_age cX6_age 5 none :: gW
abbrev cX6_holdsPlan : ByteArray := prog_8_method_19_code
def yX6_holdsPlan : MethodName := ⟨RX6, "holdsPlan", "(I)Z"⟩
def sX6_holdsPlan : List Cond := .code yX6_holdsPlan cX6_holdsPlan 6 (some FieldType.boolean) :: gW
abbrev cX6_natural : ByteArray := prog_8_method_18_code
def yX6_natural : MethodName := ⟨RX6, "natural", "(I)J"⟩
def sX6_natural : List Cond := .code yX6_natural cX6_natural 5 (some FieldType.long) :: gW
abbrev cX6_returned : ByteArray := prog_8_method_17_code
def yX6_returned : MethodName := ⟨RX6, "returned", "(IJ)J"⟩
def sX6_returned : List Cond := .code yX6_returned cX6_returned 4 (some FieldType.long) :: gW
abbrev cX6_isShort : ByteArray := prog_8_method_22_code
def yX6_isShort : MethodName := ⟨RX6, "isShort", "(I)Z"⟩
def sX6_isShort : List Cond := .code yX6_isShort cX6_isShort 2 (some FieldType.boolean) :: gW
abbrev cX6_given : ByteArray := prog_8_method_24_code
def yX6_given : MethodName := ⟨RX6, "given", "(I)I"⟩
def sX6_given : List Cond := .code yX6_given cX6_given 2 (some FieldType.int) :: gW
abbrev cX6_flow : ByteArray := prog_8_method_25_code
def yX6_flow : MethodName := ⟨RX6, "flow", "(II)J"⟩
def sX6_flow : List Cond := .code yX6_flow cX6_flow 7 (some FieldType.long) :: gW
abbrev cX6_call : ByteArray := prog_8_method_26_code
def yX6_call : MethodName := ⟨RX6, "call", "(I)I"⟩
def sX6_call : List Cond := .code yX6_call cX6_call 3 (some FieldType.int) :: gW
abbrev cX6_futile : ByteArray := prog_8_method_27_code
def yX6_futile : MethodName := ⟨RX6, "futile", "(II)Z"⟩
def sX6_futile : List Cond := .code yX6_futile cX6_futile 4 (some FieldType.boolean) :: gW
abbrev cX6_close : ByteArray := prog_8_method_28_code
def yX6_close : MethodName := ⟨RX6, "close", "()I"⟩
def sX6_close : List Cond := .code yX6_close cX6_close 3 (some FieldType.int) :: gW
abbrev cX6_held : ByteArray := prog_8_method_29_code
def yX6_held : MethodName := ⟨RX6, "held", "(II)I"⟩
def sX6_held : List Cond := .code yX6_held cX6_held 3 (some FieldType.int) :: gW
abbrev cX6_book : ByteArray := prog_8_method_30_code
def yX6_book : MethodName := ⟨RX6, "book", "(II)J"⟩
def sX6_book : List Cond := .code yX6_book cX6_book 3 (some FieldType.long) :: gW
abbrev cX6_about : ByteArray := prog_8_method_31_code
def yX6_about : MethodName := ⟨RX6, "about", "(II)I"⟩
def sX6_about : List Cond := .code yX6_about cX6_about 3 (some FieldType.int) :: gW
abbrev cX6_aged : ByteArray := prog_8_method_32_code
def yX6_aged : MethodName := ⟨RX6, "aged", "(I)I"⟩
def sX6_aged : List Cond := .code yX6_aged cX6_aged 2 (some FieldType.int) :: gW
end
section
/-! numbers: an int is iI z, a long is lI z, for a z : Int; sums, differences and products need no bound -/
def iI (z : Int) : Int32 := Int32.ofInt z
def lI (z : Int) : Int64 := Int64.ofInt z
abbrev inI (z : Int) : Prop := -2147483648 ≤ z ∧ z ≤ 2147483647
abbrev inL (z : Int) : Prop := -9223372036854775808 ≤ z ∧ z ≤ 9223372036854775807
theorem iI_to {z : Int} (h : inI z) : (iI z).toInt = z := Int32.toInt_ofInt_of_le (by have := h.1; omega) (by have := h.2; omega)
theorem lI_to {z : Int} (h : inL z) : (lI z).toInt = z := Int64.toInt_ofInt_of_le (by have := h.1; omega) (by have := h.2; omega)
theorem iI_of (x : Int32) : ∃ z : Int, inI z ∧ x = iI z := ⟨x.toInt, ⟨by have := Int32.le_toInt x; omega, by have := Int32.toInt_lt x; omega⟩, (Int32.ofInt_toInt x).symm⟩
theorem iI_add (a b : Int) : iI a + iI b = iI (a + b) := (Int32.ofInt_add a b).symm
theorem iI_sub (a b : Int) : iI a - iI b = iI (a - b) := (Int32.ofInt_sub a b).symm
theorem iI_mul (a b : Int) : iI a * iI b = iI (a * b) := (Int32.ofInt_mul a b).symm
theorem lI_add (a b : Int) : lI a + lI b = lI (a + b) := (Int64.ofInt_add a b).symm
theorem lI_sub (a b : Int) : lI a - lI b = lI (a - b) := (Int64.ofInt_sub a b).symm
theorem lI_mul (a b : Int) : lI a * lI b = lI (a * b) := (Int64.ofInt_mul a b).symm
theorem iI_le {a b : Int} (ha : inI a) (hb : inI b) : iI a ≤ iI b ↔ a ≤ b := by rw [Int32.le_iff_toInt_le, iI_to ha, iI_to hb]
theorem iI_lt {a b : Int} (ha : inI a) (hb : inI b) : iI a < iI b ↔ a < b := by rw [Int32.lt_iff_toInt_lt, iI_to ha, iI_to hb]
theorem iI_eq {a b : Int} (ha : inI a) (hb : inI b) : iI a = iI b ↔ a = b := by rw [← Int32.toInt_inj, iI_to ha, iI_to hb]
theorem lI_le {a b : Int} (ha : inL a) (hb : inL b) : lI a ≤ lI b ↔ a ≤ b := by rw [Int64.le_iff_toInt_le, lI_to ha, lI_to hb]
theorem lI_lt {a b : Int} (ha : inL a) (hb : inL b) : lI a < lI b ↔ a < b := by rw [Int64.lt_iff_toInt_lt, lI_to ha, lI_to hb]
theorem lI_eq {a b : Int} (ha : inL a) (hb : inL b) : lI a = lI b ↔ a = b := by rw [← Int64.toInt_inj, lI_to ha, lI_to hb]
theorem iI_0 : iI 0 = 0 := rfl
theorem inI_0 : inI 0 := ⟨by decide, by decide⟩
theorem iI_cl {z : Int} (h0 : 0 ≤ z) (h : z ≤ 2147483647) : (iI z).toNatClampNeg = z.toNat := Int32.toNatClampNeg_ofInt_of_le (by omega) (by omega)
theorem iI_in {z : Int} {n : Nat} (h0 : 0 ≤ z) (h : z < n) (hn : n < 2147483648) : vp_in (iI z) n := by
  rw [vp_in_iff, iI_to ⟨by omega, by omega⟩]
  exact ⟨h0, h⟩
theorem iI_l {z : Int} (h : inI z) : (iI z).toInt64 = lI z := Int64.toInt_inj.mp (by rw [Int32.toInt_toInt64, iI_to h, lI_to ⟨by have := h.1; omega, by have := h.2; omega⟩])
theorem lI_i (z : Int) : (lI z).toInt32 = iI z := Int64.toInt32_ofInt
theorem iI_div {a b : Int} (ha : inI a) (h0 : 0 ≤ a) (hb : 0 < b) (hb2 : inI b) : iI a / iI b = iI (a / b) := by
  have hq : a / b ≤ a := Int.ediv_le_self b h0
  have hq0 : 0 ≤ a / b := Int.ediv_nonneg h0 (by omega)
  have hne : iI b ≠ -1 := fun h => by
    have h1 : (iI b).toInt = (-1 : Int32).toInt := by rw [h]
    rw [iI_to hb2, show ((-1 : Int32)).toInt = -1 from by decide] at h1
    omega
  refine Int32.toInt_inj.mp ?_
  rw [Int32.toInt_div_of_ne_right _ _ hne, iI_to ha, iI_to hb2, iI_to ⟨by omega, by have := ha.2; omega⟩]
  exact Int.tdiv_eq_ediv_of_nonneg h0
theorem lI_div {a b : Int} (ha : inL a) (h0 : 0 ≤ a) (hb : 0 < b) (hb2 : inL b) : lI a / lI b = lI (a / b) := by
  have hq : a / b ≤ a := Int.ediv_le_self b h0
  have hq0 : 0 ≤ a / b := Int.ediv_nonneg h0 (by omega)
  have hne : lI b ≠ -1 := fun h => by
    have h1 : (lI b).toInt = (-1 : Int64).toInt := by rw [h]
    rw [lI_to hb2, show ((-1 : Int64)).toInt = -1 from by decide] at h1
    omega
  refine Int64.toInt_inj.mp ?_
  rw [Int64.toInt_div_of_ne_right _ _ hne, lI_to ha, lI_to hb2, lI_to ⟨by omega, by have := ha.2; omega⟩]
  exact Int.tdiv_eq_ediv_of_nonneg h0
theorem iI_ne0 {b : Int} (hb : b ≠ 0) (h : inI b) : ¬ iI b = 0 := fun q => hb ((iI_eq h inI_0).mp (q.trans iI_0.symm))
theorem lI_ne0 {b : Int} (hb : b ≠ 0) (h : inL b) : ¬ lI b = 0 := fun q => hb ((lI_eq h ⟨by decide, by decide⟩).mp (q.trans (show (0 : Int64) = lI 0 from rfl)))
/-- an array's contents, one place changed -/
def uZ (f : Nat → Int) (j : Nat) (x : Int) : Nat → Int := fun k => if k = j then x else f k
theorem uZ_s (f : Nat → Int) (j : Nat) (x : Int) : uZ f j x j = x := by simp [uZ]
theorem uZ_n (f : Nat → Int) {j k : Nat} (x : Int) (h : k ≠ j) : uZ f j x k = f k := by simp [uZ, h]
theorem upd_iI (f : Nat → Int) (j : Nat) (x : Int) : upd (fun k => iI (f k)) j (iI x) = fun k => iI (uZ f j x k) := by
  funext k
  unfold upd uZ
  split <;> rfl
theorem upd_lI (f : Nat → Int) (j : Nat) (x : Int) : vp_updL (fun k => lI (f k)) j (lI x) = fun k => lI (uZ f j x k) := by
  funext k
  unfold vp_updL uZ
  split <;> rfl
/-! the cells: E holds the classes' numbers and those of int[], boolean[], long[] -/
abbrev rE : Type := va_G × ClassId × ClassId × ClassId
abbrev rTy (E : rE) : List (ClassId × FieldType) := [(E.2.1, .int), (E.2.2.1, .boolean), (E.2.2.2, .long)]
abbrev cI (E : rE) (a n : Nat) (f : Nat → Int) : Nat × va_E := (a, .inl (E.2.1, n, .inl (fun k => iI (f k))))
abbrev cZ (E : rE) (a n : Nat) (f : Nat → Int) : Nat × va_E := (a, .inl (E.2.2.1, n, .inl (fun k => iI (f k))))
abbrev cJ (E : rE) (a n : Nat) (f : Nat → Int) : Nat × va_E := (a, .inl (E.2.2.2, n, .inr (.inl (fun k => lI (f k)))))
abbrev cO (a ci : Nat) (fs : List Value) : Nat × va_E := (a, .inr (ci, fs))
abbrev rK (E : rE) (U : State) : Prop := va_K E.1 vwCl (rTy E) U
/-- what is fixed in a method's walk -/
def rC (p : Program) (s : State) (m : MethodId) (args : Array Value) (c : Code) (E : rE) (A : Nat → Prop) (nL : Nat) (cc : ByteArray) (Ts : List Cond) (own : String) : Prop := CallFix p m c cc nL s args Ts own ∧ rK E s ∧ ∀ q, s.heap.size ≤ q → A q
/-- the goal: at pc, with the cells ws, the locals lv, the operands st, the machine comes to Q -/
def rG (p : Program) (l : Launch) (e : Env) (R : Room) (s : State) (m : MethodId) (args : Array Value) (below : List Frame) (meth : Method) (c : Code) (E : rE) (A : Nat → Prop) (nL cells slots : Nat) (Q : State → Prop) (ws : va_W) (pc : Nat) (lv : List (Nat × Value)) (st : List Value) : Prop :=
  ∀ (H : Heap) (locs : List Loc) (la : Array Slot), va_P E.1 vwCl ws H → va_D A ws → va_S A s.heap H locs → lv_has la nL lv → W p l e R s m args below meth c H locs cells slots Q (F0 m pc la st)
section RV1
variable {p : Program} {l : Launch} {e : Env} {R : Room} {s : State} {m : MethodId} {args : Array Value} {below : List Frame} {meth : Method} {c : Code} {E : rE} {A : Nat → Prop} {nL cells slots : Nat} {Q : State → Prop} {ws : va_W} {pc : Nat} {lv : List (Nat × Value)} {st : List Value} {cc : ByteArray} {Ts : List Cond} {own : String}

theorem rG.plv {lv' : List (Nat × Value)} (ks : List Nat) (h : lv_pick lv ks = lv') (kk : rG p l e R s m args below meth c E A nL cells slots Q ws pc lv' st) : rG p l e R s m args below meth c E A nL cells slots Q ws pc lv st := fun H locs la hP hD hS hl => kk H locs la hP hD hS (lv_sub hl ks h)
theorem rG.pws {ws' : va_W} (h : ws = ws') (kk : rG p l e R s m args below meth c E A nL cells slots Q ws' pc lv st) : rG p l e R s m args below meth c E A nL cells slots Q ws pc lv st := h ▸ kk
theorem rG.pst {st' : List Value} (h : st = st') (kk : rG p l e R s m args below meth c E A nL cells slots Q ws pc lv st') : rG p l e R s m args below meth c E A nL cells slots Q ws pc lv st := h ▸ kk
theorem rG.eqlv {lv' : List (Nat × Value)} (h : lv = lv') (kk : rG p l e R s m args below meth c E A nL cells slots Q ws pc lv' st) : rG p l e R s m args below meth c E A nL cells slots Q ws pc lv st := h ▸ kk
theorem rG.wide {k n : Nat} (h1 : cells ≤ k) (h2 : slots ≤ n) (kk : rG p l e R s m args below meth c E A nL k n Q ws pc lv st) : rG p l e R s m args below meth c E A nL cells slots Q ws pc lv st := fun H locs la hP hD hS hl => W.widen h1 h2 (kk H locs la hP hD hS hl)
theorem sel_map {is : List Nat} {w w' : va_W} (h : is.map (fun i => w[i]?) = w'.map some) : is.filterMap (fun i => w[i]?) = w' := by
  have : is.filterMap (fun i => w[i]?) = (is.map (fun i => w[i]?)).filterMap id := by rw [List.filterMap_map]; rfl
  rw [this, h, List.filterMap_map]
  simp
theorem rG.sub {ws' : va_W} (is : List Nat) (hn : va_nd is = true) (h : is.map (fun i => ws[i]?) = ws'.map some) (kk : rG p l e R s m args below meth c E A nL cells slots Q ws' pc lv st) : rG p l e R s m args below meth c E A nL cells slots Q ws pc lv st := fun H locs la hP hD hS hl => kk H locs la (hP.sub is (sel_map h)) (hD.sub is hn h) hS hl
theorem rg_iconst (C : rC p s m args c E A nL cc Ts own) {n : Int} (hd : decode cc pc = .ok (.iconst n, 1)) (kk : rG p l e R s m args below meth c E A nL cells slots Q ws (pc + 1) lv (.int (iI n) :: st)) : rG p l e R s m args below meth c E A nL cells slots Q ws pc lv st := by
  intro H locs la hP hD hS hl
  exact lv_iconst (v := iI n) C.1.1 C.1.2.1 hd rfl (kk H locs la hP hD hS hl)
theorem rg_bipush (C : rC p s m args c E A nL cc Ts own) {n z : Int} (hd : decode cc pc = .ok (.bipush n, 2)) (hv : (Int8.ofInt n).toInt32 = iI z) (kk : rG p l e R s m args below meth c E A nL cells slots Q ws (pc + 2) lv (.int (iI z) :: st)) : rG p l e R s m args below meth c E A nL cells slots Q ws pc lv st := by
  intro H locs la hP hD hS hl
  exact lv_bipush C.1.1 C.1.2.1 hd hv (kk H locs la hP hD hS hl)
theorem rg_sipush (C : rC p s m args c E A nL cc Ts own) {n z : Int} (hd : decode cc pc = .ok (.sipush n, 3)) (hv : (Int16.ofInt n).toInt32 = iI z) (kk : rG p l e R s m args below meth c E A nL cells slots Q ws (pc + 3) lv (.int (iI z) :: st)) : rG p l e R s m args below meth c E A nL cells slots Q ws pc lv st := by
  intro H locs la hP hD hS hl
  exact lv_sipush C.1.1 C.1.2.1 hd hv (kk H locs la hP hD hS hl)
theorem rg_lconst (C : rC p s m args c E A nL cc Ts own) {n : Fin 2} {z : Int} (hd : decode cc pc = .ok (.lconst n, 1)) (hv : Int64.ofNat (n : Nat) = lI z) (kk : rG p l e R s m args below meth c E A nL cells slots Q ws (pc + 1) lv (.long (lI z) :: st)) : rG p l e R s m args below meth c E A nL cells slots Q ws pc lv st := by
  intro H locs la hP hD hS hl
  exact lv_lconst C.1.1 C.1.2.1 hd hv (kk H locs la hP hD hS hl)
theorem rg_ldc (C : rC p s m args c E A nL cc Ts own) {index : Nat} {v : Int32} {z : Int} (hm : Jvm.Cond.constant own index v ∈ Ts) (hv : v = iI z) (hd : decode cc pc = .ok (.ldc index, 2)) (kk : rG p l e R s m args below meth c E A nL cells slots Q ws (pc + 2) lv (.int (iI z) :: st)) : rG p l e R s m args below meth c E A nL cells slots Q ws pc lv st := by
  intro H locs la hP hD hS hl
  subst hv
  exact lv_ldc C.1.1 C.1.2.1 C.1.2.2.2.1 (C.1.2.2.2.2 _ hm) hd (kk H locs la hP hD hS hl)
theorem rg_ldc2 (C : rC p s m args c E A nL cc Ts own) {index : Nat} {v : Int64} {z : Int} (hm : Jvm.Cond.constantLong own index v ∈ Ts) (hv : v = lI z) (hd : decode cc pc = .ok (.ldc2_w index, 3)) (kk : rG p l e R s m args below meth c E A nL cells slots Q ws (pc + 3) lv (.long (lI z) :: st)) : rG p l e R s m args below meth c E A nL cells slots Q ws pc lv st := by
  intro H locs la hP hD hS hl
  subst hv
  exact lv_ldc2 C.1.1 C.1.2.1 C.1.2.2.2.1 (C.1.2.2.2.2 _ hm) hd (kk H locs la hP hD hS hl)
theorem rg_iload_n (C : rC p s m args c E A nL cc Ts own) {n : Fin 4} {i : Nat} {v : Int32} (k : Nat) (hd : decode cc pc = .ok (.iload_n n, 1)) (hi : (n : Nat) = i) (hk : lv[k]? = some (i, .int v)) (kk : rG p l e R s m args below meth c E A nL cells slots Q ws (pc + 1) lv (.int v :: st)) : rG p l e R s m args below meth c E A nL cells slots Q ws pc lv st := by
  intro H locs la hP hD hS hl
  exact lv_iload_n C.1.1 C.1.2.1 hd hi (lv_at hl k hk) (kk H locs la hP hD hS hl)
theorem rg_iload (C : rC p s m args c E A nL cc Ts own) {i : Nat} {v : Int32} (k : Nat) (hd : decode cc pc = .ok (.iload i, 2)) (hk : lv[k]? = some (i, .int v)) (kk : rG p l e R s m args below meth c E A nL cells slots Q ws (pc + 2) lv (.int v :: st)) : rG p l e R s m args below meth c E A nL cells slots Q ws pc lv st := by
  intro H locs la hP hD hS hl
  exact lv_iload C.1.1 C.1.2.1 hd (lv_at hl k hk) (kk H locs la hP hD hS hl)
theorem rg_istore_n (C : rC p s m args c E A nL cc Ts own) {n : Fin 4} {i : Nat} {v : Int32} {lv' : List (Nat × Value)} (hd : decode cc pc = .ok (.istore_n n, 1)) (hi : (n : Nat) = i) (hn : i < nL) (h' : (i, Value.int v) :: lv.filter (fun q => !(q.1 == i) && !(q.1 + 1 == i && q.2.category == 2)) = lv') (kk : rG p l e R s m args below meth c E A nL cells slots Q ws (pc + 1) lv' st) : rG p l e R s m args below meth c E A nL cells slots Q ws pc lv (.int v :: st) := by
  intro H locs la hP hD hS hl
  exact lv_istore_n C.1.1 C.1.2.1 hd hi hl hn h' (fun la' hl' => kk H locs la' hP hD hS hl')
theorem rg_istore (C : rC p s m args c E A nL cc Ts own) {i : Nat} {v : Int32} {lv' : List (Nat × Value)} (hd : decode cc pc = .ok (.istore i, 2)) (hn : i < nL) (h' : (i, Value.int v) :: lv.filter (fun q => !(q.1 == i) && !(q.1 + 1 == i && q.2.category == 2)) = lv') (kk : rG p l e R s m args below meth c E A nL cells slots Q ws (pc + 2) lv' st) : rG p l e R s m args below meth c E A nL cells slots Q ws pc lv (.int v :: st) := by
  intro H locs la hP hD hS hl
  exact lv_istore C.1.1 C.1.2.1 hd hl hn h' (fun la' hl' => kk H locs la' hP hD hS hl')
theorem rg_lload_n (C : rC p s m args c E A nL cc Ts own) {n : Fin 4} {i : Nat} {v : Int64} (k : Nat) (hd : decode cc pc = .ok (.lload_n n, 1)) (hi : (n : Nat) = i) (hk : lv[k]? = some (i, .long v)) (kk : rG p l e R s m args below meth c E A nL cells slots Q ws (pc + 1) lv (.long v :: st)) : rG p l e R s m args below meth c E A nL cells slots Q ws pc lv st := by
  intro H locs la hP hD hS hl
  exact lv_lload_n C.1.1 C.1.2.1 hd hi (lv_at hl k hk) (kk H locs la hP hD hS hl)
theorem rg_lload (C : rC p s m args c E A nL cc Ts own) {i : Nat} {v : Int64} (k : Nat) (hd : decode cc pc = .ok (.lload i, 2)) (hk : lv[k]? = some (i, .long v)) (kk : rG p l e R s m args below meth c E A nL cells slots Q ws (pc + 2) lv (.long v :: st)) : rG p l e R s m args below meth c E A nL cells slots Q ws pc lv st := by
  intro H locs la hP hD hS hl
  exact lv_lload C.1.1 C.1.2.1 hd (lv_at hl k hk) (kk H locs la hP hD hS hl)
theorem rg_lstore_n (C : rC p s m args c E A nL cc Ts own) {n : Fin 4} {i : Nat} {v : Int64} {lv' : List (Nat × Value)} (hd : decode cc pc = .ok (.lstore_n n, 1)) (hi : (n : Nat) = i) (hn : i + 1 < nL) (h' : (i, Value.long v) :: lv.filter (fun q => !(q.1 == i) && (!(q.1 == i + 1) && !(q.1 + 1 == i && q.2.category == 2))) = lv') (kk : rG p l e R s m args below meth c E A nL cells slots Q ws (pc + 1) lv' st) : rG p l e R s m args below meth c E A nL cells slots Q ws pc lv (.long v :: st) := by
  intro H locs la hP hD hS hl
  exact lv_lstore_n C.1.1 C.1.2.1 hd hi hl hn h' (fun la' hl' => kk H locs la' hP hD hS hl')
theorem rg_lstore (C : rC p s m args c E A nL cc Ts own) {i : Nat} {v : Int64} {lv' : List (Nat × Value)} (hd : decode cc pc = .ok (.lstore i, 2)) (hn : i + 1 < nL) (h' : (i, Value.long v) :: lv.filter (fun q => !(q.1 == i) && (!(q.1 == i + 1) && !(q.1 + 1 == i && q.2.category == 2))) = lv') (kk : rG p l e R s m args below meth c E A nL cells slots Q ws (pc + 2) lv' st) : rG p l e R s m args below meth c E A nL cells slots Q ws pc lv (.long v :: st) := by
  intro H locs la hP hD hS hl
  exact lv_lstore C.1.1 C.1.2.1 hd hl hn h' (fun la' hl' => kk H locs la' hP hD hS hl')
theorem rg_aload_n (C : rC p s m args c E A nL cc Ts own) {n : Fin 4} {i : Nat} {v : Nat} (k : Nat) (hd : decode cc pc = .ok (.aload_n n, 1)) (hi : (n : Nat) = i) (hk : lv[k]? = some (i, .ref v)) (kk : rG p l e R s m args below meth c E A nL cells slots Q ws (pc + 1) lv (.ref v :: st)) : rG p l e R s m args below meth c E A nL cells slots Q ws pc lv st := by
  intro H locs la hP hD hS hl
  exact lv_aload_n C.1.1 C.1.2.1 hd hi (lv_at hl k hk) (kk H locs la hP hD hS hl)
theorem rg_aload (C : rC p s m args c E A nL cc Ts own) {i : Nat} {v : Nat} (k : Nat) (hd : decode cc pc = .ok (.aload i, 2)) (hk : lv[k]? = some (i, .ref v)) (kk : rG p l e R s m args below meth c E A nL cells slots Q ws (pc + 2) lv (.ref v :: st)) : rG p l e R s m args below meth c E A nL cells slots Q ws pc lv st := by
  intro H locs la hP hD hS hl
  exact lv_aload C.1.1 C.1.2.1 hd (lv_at hl k hk) (kk H locs la hP hD hS hl)
theorem rg_astore_n (C : rC p s m args c E A nL cc Ts own) {n : Fin 4} {i : Nat} {v : Nat} {lv' : List (Nat × Value)} (hd : decode cc pc = .ok (.astore_n n, 1)) (hi : (n : Nat) = i) (hn : i < nL) (h' : (i, Value.ref v) :: lv.filter (fun q => !(q.1 == i) && !(q.1 + 1 == i && q.2.category == 2)) = lv') (kk : rG p l e R s m args below meth c E A nL cells slots Q ws (pc + 1) lv' st) : rG p l e R s m args below meth c E A nL cells slots Q ws pc lv (.ref v :: st) := by
  intro H locs la hP hD hS hl
  exact lv_astore_n C.1.1 C.1.2.1 hd hi hl hn h' (fun la' hl' => kk H locs la' hP hD hS hl')
theorem rg_astore (C : rC p s m args c E A nL cc Ts own) {i : Nat} {v : Nat} {lv' : List (Nat × Value)} (hd : decode cc pc = .ok (.astore i, 2)) (hn : i < nL) (h' : (i, Value.ref v) :: lv.filter (fun q => !(q.1 == i) && !(q.1 + 1 == i && q.2.category == 2)) = lv') (kk : rG p l e R s m args below meth c E A nL cells slots Q ws (pc + 2) lv' st) : rG p l e R s m args below meth c E A nL cells slots Q ws pc lv (.ref v :: st) := by
  intro H locs la hP hD hS hl
  exact lv_astore C.1.1 C.1.2.1 hd hl hn h' (fun la' hl' => kk H locs la' hP hD hS hl')
theorem rg_iinc (C : rC p s m args c E A nL cc Ts own) {i k : Nat} {n z : Int} {lv' : List (Nat × Value)} (hd : decode cc pc = .ok (.iinc i n, 3)) (hk : lv[k]? = some (i, .int (iI z))) (hn : i < nL) (h' : (i, Value.int (iI (z + n))) :: lv.filter (fun q => !(q.1 == i) && !(q.1 + 1 == i && q.2.category == 2)) = lv') (kk : rG p l e R s m args below meth c E A nL cells slots Q ws (pc + 3) lv' st) : rG p l e R s m args below meth c E A nL cells slots Q ws pc lv st := by
  intro H locs la hP hD hS hl
  exact lv_iinc (v := iI (z + n)) C.1.1 C.1.2.1 hd hl hk (iI_add z n) hn h' (fun la' hl' => kk H locs la' hP hD hS hl')
theorem rg_iadd (C : rC p s m args c E A nL cc Ts own) {a b : Int} (hd : decode cc pc = .ok (.iadd, 1)) (kk : rG p l e R s m args below meth c E A nL cells slots Q ws (pc + 1) lv (.int (iI (a + b)) :: st)) : rG p l e R s m args below meth c E A nL cells slots Q ws pc lv (.int (iI b) :: .int (iI a) :: st) := by
  intro H locs la hP hD hS hl
  refine lv_iadd C.1.1 C.1.2.1 hd ?_
  rw [iI_add]
  exact (kk H locs la hP hD hS hl)
theorem rg_isub (C : rC p s m args c E A nL cc Ts own) {a b : Int} (hd : decode cc pc = .ok (.isub, 1)) (kk : rG p l e R s m args below meth c E A nL cells slots Q ws (pc + 1) lv (.int (iI (a - b)) :: st)) : rG p l e R s m args below meth c E A nL cells slots Q ws pc lv (.int (iI b) :: .int (iI a) :: st) := by
  intro H locs la hP hD hS hl
  refine lv_isub C.1.1 C.1.2.1 hd ?_
  rw [iI_sub]
  exact (kk H locs la hP hD hS hl)
theorem rg_imul (C : rC p s m args c E A nL cc Ts own) {a b : Int} (hd : decode cc pc = .ok (.imul, 1)) (kk : rG p l e R s m args below meth c E A nL cells slots Q ws (pc + 1) lv (.int (iI (a * b)) :: st)) : rG p l e R s m args below meth c E A nL cells slots Q ws pc lv (.int (iI b) :: .int (iI a) :: st) := by
  intro H locs la hP hD hS hl
  refine lv_imul C.1.1 C.1.2.1 hd ?_
  rw [iI_mul]
  exact (kk H locs la hP hD hS hl)
theorem rg_ladd (C : rC p s m args c E A nL cc Ts own) {a b : Int} (hd : decode cc pc = .ok (.ladd, 1)) (kk : rG p l e R s m args below meth c E A nL cells slots Q ws (pc + 1) lv (.long (lI (a + b)) :: st)) : rG p l e R s m args below meth c E A nL cells slots Q ws pc lv (.long (lI b) :: .long (lI a) :: st) := by
  intro H locs la hP hD hS hl
  refine lv_ladd C.1.1 C.1.2.1 hd ?_
  rw [lI_add]
  exact (kk H locs la hP hD hS hl)
theorem rg_lsub (C : rC p s m args c E A nL cc Ts own) {a b : Int} (hd : decode cc pc = .ok (.lsub, 1)) (kk : rG p l e R s m args below meth c E A nL cells slots Q ws (pc + 1) lv (.long (lI (a - b)) :: st)) : rG p l e R s m args below meth c E A nL cells slots Q ws pc lv (.long (lI b) :: .long (lI a) :: st) := by
  intro H locs la hP hD hS hl
  refine lv_lsub C.1.1 C.1.2.1 hd ?_
  rw [lI_sub]
  exact (kk H locs la hP hD hS hl)
theorem rg_lmul (C : rC p s m args c E A nL cc Ts own) {a b : Int} (hd : decode cc pc = .ok (.lmul, 1)) (kk : rG p l e R s m args below meth c E A nL cells slots Q ws (pc + 1) lv (.long (lI (a * b)) :: st)) : rG p l e R s m args below meth c E A nL cells slots Q ws pc lv (.long (lI b) :: .long (lI a) :: st) := by
  intro H locs la hP hD hS hl
  refine lv_lmul C.1.1 C.1.2.1 hd ?_
  rw [lI_mul]
  exact (kk H locs la hP hD hS hl)
theorem rg_idiv (C : rC p s m args c E A nL cc Ts own) {a b : Int} (ha : inI a) (h0 : 0 ≤ a) (hb : 0 < b) (hb2 : inI b) (hd : decode cc pc = .ok (.idiv, 1)) (kk : rG p l e R s m args below meth c E A nL cells slots Q ws (pc + 1) lv (.int (iI (a / b)) :: st)) : rG p l e R s m args below meth c E A nL cells slots Q ws pc lv (.int (iI b) :: .int (iI a) :: st) := by
  intro H locs la hP hD hS hl
  refine lv_idiv C.1.1 C.1.2.1 hd (iI_ne0 (by omega) hb2) ?_
  rw [iI_div ha h0 hb hb2]
  exact (kk H locs la hP hD hS hl)
theorem rg_irem (C : rC p s m args c E A nL cc Ts own) {a b : Int} (ha : inI a) (h0 : 0 ≤ a) (hb : 0 < b) (hb2 : inI b) (hd : decode cc pc = .ok (.irem, 1)) (kk : rG p l e R s m args below meth c E A nL cells slots Q ws (pc + 1) lv (.int (iI (a % b)) :: st)) : rG p l e R s m args below meth c E A nL cells slots Q ws pc lv (.int (iI b) :: .int (iI a) :: st) := by
  intro H locs la hP hD hS hl
  refine lv_irem C.1.1 C.1.2.1 hd (iI_ne0 (by omega) hb2) ?_
  rw [iI_div ha h0 hb hb2, iI_mul, iI_sub, show a - a / b * b = a % b from by rw [Int.mul_comm, Int.emod_def]]
  exact (kk H locs la hP hD hS hl)
theorem rg_ldiv (C : rC p s m args c E A nL cc Ts own) {a b : Int} (ha : inL a) (h0 : 0 ≤ a) (hb : 0 < b) (hb2 : inL b) (hd : decode cc pc = .ok (.ldiv, 1)) (kk : rG p l e R s m args below meth c E A nL cells slots Q ws (pc + 1) lv (.long (lI (a / b)) :: st)) : rG p l e R s m args below meth c E A nL cells slots Q ws pc lv (.long (lI b) :: .long (lI a) :: st) := by
  intro H locs la hP hD hS hl
  refine lv_ldiv C.1.1 C.1.2.1 hd (lI_ne0 (by omega) hb2) ?_
  rw [lI_div ha h0 hb hb2]
  exact (kk H locs la hP hD hS hl)
theorem rg_lrem (C : rC p s m args c E A nL cc Ts own) {a b : Int} (ha : inL a) (h0 : 0 ≤ a) (hb : 0 < b) (hb2 : inL b) (hd : decode cc pc = .ok (.lrem, 1)) (kk : rG p l e R s m args below meth c E A nL cells slots Q ws (pc + 1) lv (.long (lI (a % b)) :: st)) : rG p l e R s m args below meth c E A nL cells slots Q ws pc lv (.long (lI b) :: .long (lI a) :: st) := by
  intro H locs la hP hD hS hl
  refine lv_lrem C.1.1 C.1.2.1 hd (lI_ne0 (by omega) hb2) ?_
  rw [lI_div ha h0 hb hb2, lI_mul, lI_sub, show a - a / b * b = a % b from by rw [Int.mul_comm, Int.emod_def]]
  exact (kk H locs la hP hD hS hl)
theorem rg_i2l (C : rC p s m args c E A nL cc Ts own) {z : Int} (hz : inI z) (hd : decode cc pc = .ok (.i2l, 1)) (kk : rG p l e R s m args below meth c E A nL cells slots Q ws (pc + 1) lv (.long (lI z) :: st)) : rG p l e R s m args below meth c E A nL cells slots Q ws pc lv (.int (iI z) :: st) := by
  intro H locs la hP hD hS hl
  exact lv_i2l C.1.1 C.1.2.1 hd (iI_l hz) (kk H locs la hP hD hS hl)
theorem rg_l2i (C : rC p s m args c E A nL cc Ts own) {z : Int} (hd : decode cc pc = .ok (.l2i, 1)) (kk : rG p l e R s m args below meth c E A nL cells slots Q ws (pc + 1) lv (.int (iI z) :: st)) : rG p l e R s m args below meth c E A nL cells slots Q ws pc lv (.long (lI z) :: st) := by
  intro H locs la hP hD hS hl
  exact lv_l2i C.1.1 C.1.2.1 hd (lI_i z) (kk H locs la hP hD hS hl)
theorem rg_dup (C : rC p s m args c E A nL cc Ts own) {v : Value} (hd : decode cc pc = .ok (.dup, 1)) (hv : v.category = 1) (kk : rG p l e R s m args below meth c E A nL cells slots Q ws (pc + 1) lv (v :: v :: st)) : rG p l e R s m args below meth c E A nL cells slots Q ws pc lv (v :: st) := by
  intro H locs la hP hD hS hl
  exact lv_dup C.1.1 C.1.2.1 hd hv (kk H locs la hP hD hS hl)
theorem rg_pop (C : rC p s m args c E A nL cc Ts own) {v : Value} (hd : decode cc pc = .ok (.pop, 1)) (hv : v.category = 1) (kk : rG p l e R s m args below meth c E A nL cells slots Q ws (pc + 1) lv st) : rG p l e R s m args below meth c E A nL cells slots Q ws pc lv (v :: st) := by
  intro H locs la hP hD hS hl
  exact lv_pop C.1.1 C.1.2.1 hd hv (kk H locs la hP hD hS hl)
theorem rg_dup_x1 (C : rC p s m args c E A nL cc Ts own) {v u : Value} (hd : decode cc pc = .ok (.dup_x1, 1)) (hv : v.category = 1) (hu : u.category = 1) (kk : rG p l e R s m args below meth c E A nL cells slots Q ws (pc + 1) lv (v :: u :: v :: st)) : rG p l e R s m args below meth c E A nL cells slots Q ws pc lv (v :: u :: st) := by
  intro H locs la hP hD hS hl
  exact lv_dup_x1 C.1.1 C.1.2.1 hd hv hu (kk H locs la hP hD hS hl)
theorem rg_dup_x2 (C : rC p s m args c E A nL cc Ts own) {v u t : Value} (hd : decode cc pc = .ok (.dup_x2, 1)) (hv : v.category = 1) (hu : u.category = 1) (ht : t.category = 1) (kk : rG p l e R s m args below meth c E A nL cells slots Q ws (pc + 1) lv (v :: u :: t :: v :: st)) : rG p l e R s m args below meth c E A nL cells slots Q ws pc lv (v :: u :: t :: st) := by
  intro H locs la hP hD hS hl
  exact lv_dup_x2 C.1.1 C.1.2.1 hd hv hu ht (kk H locs la hP hD hS hl)
theorem rg_dup2 (C : rC p s m args c E A nL cc Ts own) {v u : Value} (hd : decode cc pc = .ok (.dup2, 1)) (hv : v.category = 1) (hu : u.category = 1) (kk : rG p l e R s m args below meth c E A nL cells slots Q ws (pc + 1) lv (v :: u :: v :: u :: st)) : rG p l e R s m args below meth c E A nL cells slots Q ws pc lv (v :: u :: st) := by
  intro H locs la hP hD hS hl
  exact lv_dup2_11 C.1.1 C.1.2.1 hd hv hu (kk H locs la hP hD hS hl)
theorem rg_dup2_x2 (C : rC p s m args c E A nL cc Ts own) {v u t : Value} (hd : decode cc pc = .ok (.dup2_x2, 1)) (hv : v.category = 2) (hu : u.category = 1) (ht : t.category = 1) (kk : rG p l e R s m args below meth c E A nL cells slots Q ws (pc + 1) lv (v :: u :: t :: v :: st)) : rG p l e R s m args below meth c E A nL cells slots Q ws pc lv (v :: u :: t :: st) := by
  intro H locs la hP hD hS hl
  exact lv_dup2_x2_2 C.1.1 C.1.2.1 hd hv hu ht (kk H locs la hP hD hS hl)
theorem rg_dup2_x1 (C : rC p s m args c E A nL cc Ts own) {v u : Value} (hd : decode cc pc = .ok (.dup2_x1, 1)) (hv : v.category = 2) (hu : u.category = 1) (kk : rG p l e R s m args below meth c E A nL cells slots Q ws (pc + 1) lv (v :: u :: v :: st)) : rG p l e R s m args below meth c E A nL cells slots Q ws pc lv (v :: u :: st) := by
  intro H locs la hP hD hS hl
  exact lv_dup2_x1_2 C.1.1 C.1.2.1 hd hv hu (kk H locs la hP hD hS hl)
theorem rg_goto (C : rC p s m args c E A nL cc Ts own) {off : Int} {tgt : Nat} (hd : decode cc pc = .ok (.goto off, 3)) (ht : (pc : Int) + off = (tgt : Int)) (kk : rG p l e R s m args below meth c E A nL cells slots Q ws tgt lv st) : rG p l e R s m args below meth c E A nL cells slots Q ws pc lv st := by
  intro H locs la hP hD hS hl
  exact lv_goto C.1.1 C.1.2.1 hd ht (kk H locs la hP hD hS hl)
theorem rg_icmp_eq (C : rC p s m args c E A nL cc Ts own) {a b : Int} {off : Int} {tgt : Nat} (ha : inI a) (hb : inI b) (hd : decode cc pc = .ok (.if_icmp .eq off, 3)) (ht : (pc : Int) + off = (tgt : Int)) (kt : a = b → rG p l e R s m args below meth c E A nL cells slots Q ws tgt lv st) (kf : ¬ (a = b) → rG p l e R s m args below meth c E A nL cells slots Q ws (pc + 3) lv st) : rG p l e R s m args below meth c E A nL cells slots Q ws pc lv (.int (iI b) :: .int (iI a) :: st) := by
  intro H locs la hP hD hS hl
  exact lv_icmp_eq C.1.1 C.1.2.1 hd ht (fun h => kt ((iI_eq ha hb).mp h) H locs la hP hD hS hl) (fun h => kf (fun q => h ((iI_eq ha hb).mpr q)) H locs la hP hD hS hl)
theorem rg_if_eq (C : rC p s m args c E A nL cc Ts own) {a : Int} {off : Int} {tgt : Nat} (ha : inI a) (hd : decode cc pc = .ok (.ifCond .eq off, 3)) (ht : (pc : Int) + off = (tgt : Int)) (kt : a = 0 → rG p l e R s m args below meth c E A nL cells slots Q ws tgt lv st) (kf : ¬ (a = 0) → rG p l e R s m args below meth c E A nL cells slots Q ws (pc + 3) lv st) : rG p l e R s m args below meth c E A nL cells slots Q ws pc lv (.int (iI a) :: st) := by
  intro H locs la hP hD hS hl
  exact lv_if_eq C.1.1 C.1.2.1 hd ht (fun h => kt ((iI_eq ha inI_0).mp h) H locs la hP hD hS hl) (fun h => kf (fun q => h ((iI_eq ha inI_0).mpr q)) H locs la hP hD hS hl)
theorem rg_icmp_ne (C : rC p s m args c E A nL cc Ts own) {a b : Int} {off : Int} {tgt : Nat} (ha : inI a) (hb : inI b) (hd : decode cc pc = .ok (.if_icmp .ne off, 3)) (ht : (pc : Int) + off = (tgt : Int)) (kt : a ≠ b → rG p l e R s m args below meth c E A nL cells slots Q ws tgt lv st) (kf : a = b → rG p l e R s m args below meth c E A nL cells slots Q ws (pc + 3) lv st) : rG p l e R s m args below meth c E A nL cells slots Q ws pc lv (.int (iI b) :: .int (iI a) :: st) := by
  intro H locs la hP hD hS hl
  exact lv_icmp_ne C.1.1 C.1.2.1 hd ht (fun h => kt (fun q => h ((iI_eq ha hb).mpr q)) H locs la hP hD hS hl) (fun h => kf ((iI_eq ha hb).mp h) H locs la hP hD hS hl)
theorem rg_if_ne (C : rC p s m args c E A nL cc Ts own) {a : Int} {off : Int} {tgt : Nat} (ha : inI a) (hd : decode cc pc = .ok (.ifCond .ne off, 3)) (ht : (pc : Int) + off = (tgt : Int)) (kt : a ≠ 0 → rG p l e R s m args below meth c E A nL cells slots Q ws tgt lv st) (kf : a = 0 → rG p l e R s m args below meth c E A nL cells slots Q ws (pc + 3) lv st) : rG p l e R s m args below meth c E A nL cells slots Q ws pc lv (.int (iI a) :: st) := by
  intro H locs la hP hD hS hl
  exact lv_if_ne C.1.1 C.1.2.1 hd ht (fun h => kt (fun q => h ((iI_eq ha inI_0).mpr q)) H locs la hP hD hS hl) (fun h => kf ((iI_eq ha inI_0).mp h) H locs la hP hD hS hl)
theorem rg_icmp_lt (C : rC p s m args c E A nL cc Ts own) {a b : Int} {off : Int} {tgt : Nat} (ha : inI a) (hb : inI b) (hd : decode cc pc = .ok (.if_icmp .lt off, 3)) (ht : (pc : Int) + off = (tgt : Int)) (kt : a < b → rG p l e R s m args below meth c E A nL cells slots Q ws tgt lv st) (kf : ¬ (a < b) → rG p l e R s m args below meth c E A nL cells slots Q ws (pc + 3) lv st) : rG p l e R s m args below meth c E A nL cells slots Q ws pc lv (.int (iI b) :: .int (iI a) :: st) := by
  intro H locs la hP hD hS hl
  exact lv_icmp_lt C.1.1 C.1.2.1 hd ht (fun h => kt ((iI_lt ha hb).mp h) H locs la hP hD hS hl) (fun h => kf (fun q => h ((iI_lt ha hb).mpr q)) H locs la hP hD hS hl)
theorem rg_if_lt (C : rC p s m args c E A nL cc Ts own) {a : Int} {off : Int} {tgt : Nat} (ha : inI a) (hd : decode cc pc = .ok (.ifCond .lt off, 3)) (ht : (pc : Int) + off = (tgt : Int)) (kt : a < 0 → rG p l e R s m args below meth c E A nL cells slots Q ws tgt lv st) (kf : ¬ (a < 0) → rG p l e R s m args below meth c E A nL cells slots Q ws (pc + 3) lv st) : rG p l e R s m args below meth c E A nL cells slots Q ws pc lv (.int (iI a) :: st) := by
  intro H locs la hP hD hS hl
  exact lv_if_lt C.1.1 C.1.2.1 hd ht (fun h => kt ((iI_lt ha inI_0).mp h) H locs la hP hD hS hl) (fun h => kf (fun q => h ((iI_lt ha inI_0).mpr q)) H locs la hP hD hS hl)
theorem rg_icmp_ge (C : rC p s m args c E A nL cc Ts own) {a b : Int} {off : Int} {tgt : Nat} (ha : inI a) (hb : inI b) (hd : decode cc pc = .ok (.if_icmp .ge off, 3)) (ht : (pc : Int) + off = (tgt : Int)) (kt : b ≤ a → rG p l e R s m args below meth c E A nL cells slots Q ws tgt lv st) (kf : ¬ (b ≤ a) → rG p l e R s m args below meth c E A nL cells slots Q ws (pc + 3) lv st) : rG p l e R s m args below meth c E A nL cells slots Q ws pc lv (.int (iI b) :: .int (iI a) :: st) := by
  intro H locs la hP hD hS hl
  exact lv_icmp_ge C.1.1 C.1.2.1 hd ht (fun h => kt ((iI_le hb ha).mp h) H locs la hP hD hS hl) (fun h => kf (fun q => h ((iI_le hb ha).mpr q)) H locs la hP hD hS hl)
theorem rg_if_ge (C : rC p s m args c E A nL cc Ts own) {a : Int} {off : Int} {tgt : Nat} (ha : inI a) (hd : decode cc pc = .ok (.ifCond .ge off, 3)) (ht : (pc : Int) + off = (tgt : Int)) (kt : 0 ≤ a → rG p l e R s m args below meth c E A nL cells slots Q ws tgt lv st) (kf : ¬ (0 ≤ a) → rG p l e R s m args below meth c E A nL cells slots Q ws (pc + 3) lv st) : rG p l e R s m args below meth c E A nL cells slots Q ws pc lv (.int (iI a) :: st) := by
  intro H locs la hP hD hS hl
  exact lv_if_ge C.1.1 C.1.2.1 hd ht (fun h => kt ((iI_le inI_0 ha).mp h) H locs la hP hD hS hl) (fun h => kf (fun q => h ((iI_le inI_0 ha).mpr q)) H locs la hP hD hS hl)
theorem rg_icmp_gt (C : rC p s m args c E A nL cc Ts own) {a b : Int} {off : Int} {tgt : Nat} (ha : inI a) (hb : inI b) (hd : decode cc pc = .ok (.if_icmp .gt off, 3)) (ht : (pc : Int) + off = (tgt : Int)) (kt : b < a → rG p l e R s m args below meth c E A nL cells slots Q ws tgt lv st) (kf : ¬ (b < a) → rG p l e R s m args below meth c E A nL cells slots Q ws (pc + 3) lv st) : rG p l e R s m args below meth c E A nL cells slots Q ws pc lv (.int (iI b) :: .int (iI a) :: st) := by
  intro H locs la hP hD hS hl
  exact lv_icmp_gt C.1.1 C.1.2.1 hd ht (fun h => kt ((iI_lt hb ha).mp h) H locs la hP hD hS hl) (fun h => kf (fun q => h ((iI_lt hb ha).mpr q)) H locs la hP hD hS hl)
theorem rg_if_gt (C : rC p s m args c E A nL cc Ts own) {a : Int} {off : Int} {tgt : Nat} (ha : inI a) (hd : decode cc pc = .ok (.ifCond .gt off, 3)) (ht : (pc : Int) + off = (tgt : Int)) (kt : 0 < a → rG p l e R s m args below meth c E A nL cells slots Q ws tgt lv st) (kf : ¬ (0 < a) → rG p l e R s m args below meth c E A nL cells slots Q ws (pc + 3) lv st) : rG p l e R s m args below meth c E A nL cells slots Q ws pc lv (.int (iI a) :: st) := by
  intro H locs la hP hD hS hl
  exact lv_if_gt C.1.1 C.1.2.1 hd ht (fun h => kt ((iI_lt inI_0 ha).mp h) H locs la hP hD hS hl) (fun h => kf (fun q => h ((iI_lt inI_0 ha).mpr q)) H locs la hP hD hS hl)
theorem rg_icmp_le (C : rC p s m args c E A nL cc Ts own) {a b : Int} {off : Int} {tgt : Nat} (ha : inI a) (hb : inI b) (hd : decode cc pc = .ok (.if_icmp .le off, 3)) (ht : (pc : Int) + off = (tgt : Int)) (kt : a ≤ b → rG p l e R s m args below meth c E A nL cells slots Q ws tgt lv st) (kf : ¬ (a ≤ b) → rG p l e R s m args below meth c E A nL cells slots Q ws (pc + 3) lv st) : rG p l e R s m args below meth c E A nL cells slots Q ws pc lv (.int (iI b) :: .int (iI a) :: st) := by
  intro H locs la hP hD hS hl
  exact lv_icmp_le C.1.1 C.1.2.1 hd ht (fun h => kt ((iI_le ha hb).mp h) H locs la hP hD hS hl) (fun h => kf (fun q => h ((iI_le ha hb).mpr q)) H locs la hP hD hS hl)
theorem rg_if_le (C : rC p s m args c E A nL cc Ts own) {a : Int} {off : Int} {tgt : Nat} (ha : inI a) (hd : decode cc pc = .ok (.ifCond .le off, 3)) (ht : (pc : Int) + off = (tgt : Int)) (kt : a ≤ 0 → rG p l e R s m args below meth c E A nL cells slots Q ws tgt lv st) (kf : ¬ (a ≤ 0) → rG p l e R s m args below meth c E A nL cells slots Q ws (pc + 3) lv st) : rG p l e R s m args below meth c E A nL cells slots Q ws pc lv (.int (iI a) :: st) := by
  intro H locs la hP hD hS hl
  exact lv_if_le C.1.1 C.1.2.1 hd ht (fun h => kt ((iI_le ha inI_0).mp h) H locs la hP hD hS hl) (fun h => kf (fun q => h ((iI_le ha inI_0).mpr q)) H locs la hP hD hS hl)
theorem lgc {x y : Int64} : lg_cmp x y = if y < x then 1 else if x = y then 0 else -1 := rfl
theorem rg_lcmp_eq (C : rC p s m args c E A nL cc Ts own) {a b : Int} {off : Int} {tgt : Nat} (ha : inL a) (hb : inL b) (hd : decode cc pc = .ok (.lcmp, 1)) (hd2 : decode cc (pc + 1) = .ok (.ifCond .eq off, 3)) (ht : ((pc + 1 : Nat) : Int) + off = (tgt : Int)) (kt : a = b → rG p l e R s m args below meth c E A nL cells slots Q ws tgt lv st) (kf : ¬ (a = b) → rG p l e R s m args below meth c E A nL cells slots Q ws (pc + 1 + 3) lv st) : rG p l e R s m args below meth c E A nL cells slots Q ws pc lv (.long (lI b) :: .long (lI a) :: st) := by
  intro H locs la hP hD hS hl
  have h1 := lI_lt hb ha
  have h2 := lI_eq ha hb
  refine W.lcmp C.1.1 C.1.2.1 hd ?_
  have hz : ∃ z : Int, lg_cmp (lI a) (lI b) = iI z ∧ inI z ∧ ((z = 1 ∧ b < a) ∨ (z = 0 ∧ a = b) ∨ (z = -1 ∧ a < b)) := by
    rw [lgc]
    by_cases q1 : b < a
    · exact ⟨1, by rw [if_pos (h1.mpr q1)]; rfl, ⟨by decide, by decide⟩, Or.inl ⟨rfl, q1⟩⟩
    · by_cases q2 : a = b
      · exact ⟨0, by rw [if_neg (fun z => q1 (h1.mp z)), if_pos (h2.mpr q2)]; rfl, ⟨by decide, by decide⟩, Or.inr (Or.inl ⟨rfl, q2⟩)⟩
      · exact ⟨-1, by rw [if_neg (fun z => q1 (h1.mp z)), if_neg (fun z => q2 (h2.mp z))]; rfl, ⟨by decide, by decide⟩, Or.inr (Or.inr ⟨rfl, by omega⟩)⟩
  obtain ⟨z, e1, e2, e3⟩ := hz
  rw [e1]
  exact rg_if_eq C e2 hd2 ht (fun h => kt (by omega)) (fun h => kf (by omega)) H locs la hP hD hS hl
theorem rg_lcmp_ne (C : rC p s m args c E A nL cc Ts own) {a b : Int} {off : Int} {tgt : Nat} (ha : inL a) (hb : inL b) (hd : decode cc pc = .ok (.lcmp, 1)) (hd2 : decode cc (pc + 1) = .ok (.ifCond .ne off, 3)) (ht : ((pc + 1 : Nat) : Int) + off = (tgt : Int)) (kt : a ≠ b → rG p l e R s m args below meth c E A nL cells slots Q ws tgt lv st) (kf : a = b → rG p l e R s m args below meth c E A nL cells slots Q ws (pc + 1 + 3) lv st) : rG p l e R s m args below meth c E A nL cells slots Q ws pc lv (.long (lI b) :: .long (lI a) :: st) := by
  intro H locs la hP hD hS hl
  have h1 := lI_lt hb ha
  have h2 := lI_eq ha hb
  refine W.lcmp C.1.1 C.1.2.1 hd ?_
  have hz : ∃ z : Int, lg_cmp (lI a) (lI b) = iI z ∧ inI z ∧ ((z = 1 ∧ b < a) ∨ (z = 0 ∧ a = b) ∨ (z = -1 ∧ a < b)) := by
    rw [lgc]
    by_cases q1 : b < a
    · exact ⟨1, by rw [if_pos (h1.mpr q1)]; rfl, ⟨by decide, by decide⟩, Or.inl ⟨rfl, q1⟩⟩
    · by_cases q2 : a = b
      · exact ⟨0, by rw [if_neg (fun z => q1 (h1.mp z)), if_pos (h2.mpr q2)]; rfl, ⟨by decide, by decide⟩, Or.inr (Or.inl ⟨rfl, q2⟩)⟩
      · exact ⟨-1, by rw [if_neg (fun z => q1 (h1.mp z)), if_neg (fun z => q2 (h2.mp z))]; rfl, ⟨by decide, by decide⟩, Or.inr (Or.inr ⟨rfl, by omega⟩)⟩
  obtain ⟨z, e1, e2, e3⟩ := hz
  rw [e1]
  exact rg_if_ne C e2 hd2 ht (fun h => kt (by omega)) (fun h => kf (by omega)) H locs la hP hD hS hl
theorem rg_lcmp_lt (C : rC p s m args c E A nL cc Ts own) {a b : Int} {off : Int} {tgt : Nat} (ha : inL a) (hb : inL b) (hd : decode cc pc = .ok (.lcmp, 1)) (hd2 : decode cc (pc + 1) = .ok (.ifCond .lt off, 3)) (ht : ((pc + 1 : Nat) : Int) + off = (tgt : Int)) (kt : a < b → rG p l e R s m args below meth c E A nL cells slots Q ws tgt lv st) (kf : ¬ (a < b) → rG p l e R s m args below meth c E A nL cells slots Q ws (pc + 1 + 3) lv st) : rG p l e R s m args below meth c E A nL cells slots Q ws pc lv (.long (lI b) :: .long (lI a) :: st) := by
  intro H locs la hP hD hS hl
  have h1 := lI_lt hb ha
  have h2 := lI_eq ha hb
  refine W.lcmp C.1.1 C.1.2.1 hd ?_
  have hz : ∃ z : Int, lg_cmp (lI a) (lI b) = iI z ∧ inI z ∧ ((z = 1 ∧ b < a) ∨ (z = 0 ∧ a = b) ∨ (z = -1 ∧ a < b)) := by
    rw [lgc]
    by_cases q1 : b < a
    · exact ⟨1, by rw [if_pos (h1.mpr q1)]; rfl, ⟨by decide, by decide⟩, Or.inl ⟨rfl, q1⟩⟩
    · by_cases q2 : a = b
      · exact ⟨0, by rw [if_neg (fun z => q1 (h1.mp z)), if_pos (h2.mpr q2)]; rfl, ⟨by decide, by decide⟩, Or.inr (Or.inl ⟨rfl, q2⟩)⟩
      · exact ⟨-1, by rw [if_neg (fun z => q1 (h1.mp z)), if_neg (fun z => q2 (h2.mp z))]; rfl, ⟨by decide, by decide⟩, Or.inr (Or.inr ⟨rfl, by omega⟩)⟩
  obtain ⟨z, e1, e2, e3⟩ := hz
  rw [e1]
  exact rg_if_lt C e2 hd2 ht (fun h => kt (by omega)) (fun h => kf (by omega)) H locs la hP hD hS hl
theorem rg_lcmp_ge (C : rC p s m args c E A nL cc Ts own) {a b : Int} {off : Int} {tgt : Nat} (ha : inL a) (hb : inL b) (hd : decode cc pc = .ok (.lcmp, 1)) (hd2 : decode cc (pc + 1) = .ok (.ifCond .ge off, 3)) (ht : ((pc + 1 : Nat) : Int) + off = (tgt : Int)) (kt : b ≤ a → rG p l e R s m args below meth c E A nL cells slots Q ws tgt lv st) (kf : ¬ (b ≤ a) → rG p l e R s m args below meth c E A nL cells slots Q ws (pc + 1 + 3) lv st) : rG p l e R s m args below meth c E A nL cells slots Q ws pc lv (.long (lI b) :: .long (lI a) :: st) := by
  intro H locs la hP hD hS hl
  have h1 := lI_lt hb ha
  have h2 := lI_eq ha hb
  refine W.lcmp C.1.1 C.1.2.1 hd ?_
  have hz : ∃ z : Int, lg_cmp (lI a) (lI b) = iI z ∧ inI z ∧ ((z = 1 ∧ b < a) ∨ (z = 0 ∧ a = b) ∨ (z = -1 ∧ a < b)) := by
    rw [lgc]
    by_cases q1 : b < a
    · exact ⟨1, by rw [if_pos (h1.mpr q1)]; rfl, ⟨by decide, by decide⟩, Or.inl ⟨rfl, q1⟩⟩
    · by_cases q2 : a = b
      · exact ⟨0, by rw [if_neg (fun z => q1 (h1.mp z)), if_pos (h2.mpr q2)]; rfl, ⟨by decide, by decide⟩, Or.inr (Or.inl ⟨rfl, q2⟩)⟩
      · exact ⟨-1, by rw [if_neg (fun z => q1 (h1.mp z)), if_neg (fun z => q2 (h2.mp z))]; rfl, ⟨by decide, by decide⟩, Or.inr (Or.inr ⟨rfl, by omega⟩)⟩
  obtain ⟨z, e1, e2, e3⟩ := hz
  rw [e1]
  exact rg_if_ge C e2 hd2 ht (fun h => kt (by omega)) (fun h => kf (by omega)) H locs la hP hD hS hl
theorem rg_lcmp_gt (C : rC p s m args c E A nL cc Ts own) {a b : Int} {off : Int} {tgt : Nat} (ha : inL a) (hb : inL b) (hd : decode cc pc = .ok (.lcmp, 1)) (hd2 : decode cc (pc + 1) = .ok (.ifCond .gt off, 3)) (ht : ((pc + 1 : Nat) : Int) + off = (tgt : Int)) (kt : b < a → rG p l e R s m args below meth c E A nL cells slots Q ws tgt lv st) (kf : ¬ (b < a) → rG p l e R s m args below meth c E A nL cells slots Q ws (pc + 1 + 3) lv st) : rG p l e R s m args below meth c E A nL cells slots Q ws pc lv (.long (lI b) :: .long (lI a) :: st) := by
  intro H locs la hP hD hS hl
  have h1 := lI_lt hb ha
  have h2 := lI_eq ha hb
  refine W.lcmp C.1.1 C.1.2.1 hd ?_
  have hz : ∃ z : Int, lg_cmp (lI a) (lI b) = iI z ∧ inI z ∧ ((z = 1 ∧ b < a) ∨ (z = 0 ∧ a = b) ∨ (z = -1 ∧ a < b)) := by
    rw [lgc]
    by_cases q1 : b < a
    · exact ⟨1, by rw [if_pos (h1.mpr q1)]; rfl, ⟨by decide, by decide⟩, Or.inl ⟨rfl, q1⟩⟩
    · by_cases q2 : a = b
      · exact ⟨0, by rw [if_neg (fun z => q1 (h1.mp z)), if_pos (h2.mpr q2)]; rfl, ⟨by decide, by decide⟩, Or.inr (Or.inl ⟨rfl, q2⟩)⟩
      · exact ⟨-1, by rw [if_neg (fun z => q1 (h1.mp z)), if_neg (fun z => q2 (h2.mp z))]; rfl, ⟨by decide, by decide⟩, Or.inr (Or.inr ⟨rfl, by omega⟩)⟩
  obtain ⟨z, e1, e2, e3⟩ := hz
  rw [e1]
  exact rg_if_gt C e2 hd2 ht (fun h => kt (by omega)) (fun h => kf (by omega)) H locs la hP hD hS hl
theorem rg_lcmp_le (C : rC p s m args c E A nL cc Ts own) {a b : Int} {off : Int} {tgt : Nat} (ha : inL a) (hb : inL b) (hd : decode cc pc = .ok (.lcmp, 1)) (hd2 : decode cc (pc + 1) = .ok (.ifCond .le off, 3)) (ht : ((pc + 1 : Nat) : Int) + off = (tgt : Int)) (kt : a ≤ b → rG p l e R s m args below meth c E A nL cells slots Q ws tgt lv st) (kf : ¬ (a ≤ b) → rG p l e R s m args below meth c E A nL cells slots Q ws (pc + 1 + 3) lv st) : rG p l e R s m args below meth c E A nL cells slots Q ws pc lv (.long (lI b) :: .long (lI a) :: st) := by
  intro H locs la hP hD hS hl
  have h1 := lI_lt hb ha
  have h2 := lI_eq ha hb
  refine W.lcmp C.1.1 C.1.2.1 hd ?_
  have hz : ∃ z : Int, lg_cmp (lI a) (lI b) = iI z ∧ inI z ∧ ((z = 1 ∧ b < a) ∨ (z = 0 ∧ a = b) ∨ (z = -1 ∧ a < b)) := by
    rw [lgc]
    by_cases q1 : b < a
    · exact ⟨1, by rw [if_pos (h1.mpr q1)]; rfl, ⟨by decide, by decide⟩, Or.inl ⟨rfl, q1⟩⟩
    · by_cases q2 : a = b
      · exact ⟨0, by rw [if_neg (fun z => q1 (h1.mp z)), if_pos (h2.mpr q2)]; rfl, ⟨by decide, by decide⟩, Or.inr (Or.inl ⟨rfl, q2⟩)⟩
      · exact ⟨-1, by rw [if_neg (fun z => q1 (h1.mp z)), if_neg (fun z => q2 (h2.mp z))]; rfl, ⟨by decide, by decide⟩, Or.inr (Or.inr ⟨rfl, by omega⟩)⟩
  obtain ⟨z, e1, e2, e3⟩ := hz
  rw [e1]
  exact rg_if_le C e2 hd2 ht (fun h => kt (by omega)) (fun h => kf (by omega)) H locs la hP hD hS hl
theorem rg_tableOut (C : rC p s m args c E A nL cc Ts own) {dflt lo hi : Int} {offs : Array Int} {len tgt : Nat} {z : Int} (hz : inI z) (hd : decode cc pc = .ok (.tableswitch dflt lo hi offs, len)) (h : z < lo ∨ hi < z) (ht : (pc : Int) + dflt = (tgt : Int)) (kk : rG p l e R s m args below meth c E A nL cells slots Q ws tgt lv st) : rG p l e R s m args below meth c E A nL cells slots Q ws pc lv (.int (iI z) :: st) := by
  intro H locs la hP hD hS hl
  exact lv_tableOut C.1.1 C.1.2.1 hd (by rw [iI_to hz]; exact h) ht (kk H locs la hP hD hS hl)
theorem rg_tableIn (C : rC p s m args c E A nL cc Ts own) {dflt lo hi off : Int} {offs : Array Int} {len tgt : Nat} {z : Int} (hz : inI z) (hd : decode cc pc = .ok (.tableswitch dflt lo hi offs, len)) (h1 : ¬ z < lo) (h2 : ¬ hi < z) (ho : offs[(z - lo).toNat]? = some off) (ht : (pc : Int) + off = (tgt : Int)) (kk : rG p l e R s m args below meth c E A nL cells slots Q ws tgt lv st) : rG p l e R s m args below meth c E A nL cells slots Q ws pc lv (.int (iI z) :: st) := by
  intro H locs la hP hD hS hl
  exact lv_tableIn C.1.1 C.1.2.1 hd (by rw [iI_to hz]; exact h1) (by rw [iI_to hz]; exact h2) (by rw [iI_to hz]; exact ho) ht (kk H locs la hP hD hS hl)
/-- a field, as a method's pool index names it -/
def rFld (Ts : List Cond) (own : String) (index : Nat) (Cn : String) (T : u_T) (N ci k : Nat) : Prop := (∀ w ∈ u_ws Cn T N, w ∈ Ts) ∧ vwCl[ci]? = some (Cn, T, N) ∧ k < N ∧ Cond.fieldLink own index (T k).1 (T k).2.1 (T k).2.2.1 ∈ Ts
/-- what the tables say for a store -/
def rLay (T : u_T) (N : Nat) (ty : Nat → FieldType) : Prop := (∀ k, k < N → parseFieldDescriptor (T k).2.2.1 = some (ty k)) ∧ ∀ a, a < N → ∀ b, b < N → a ≠ b → (T a).2.1 ≠ (T b).2.1
theorem rg_get (C : rC p s m args c E A nL cc Ts own) {Cn : String} {T : u_T} {N ci k index a : Nat} {fs : List Value} {v : Value} (F : rFld Ts own index Cn T N ci k) (q0 : Nat) (he : ws[q0]? = some (a, .inr (ci, fs))) (hv : fs[k]? = some v) (hd : decode cc pc = .ok (.getfield index, 3)) (kk : rG p l e R s m args below meth c E A nL cells slots Q ws (pc + 3) lv (v :: st)) : rG p l e R s m args below meth c E A nL cells slots Q ws pc lv (.ref a :: st) := by
  intro H locs la hP hD hS hl
  exact va_get C.1.1 C.1.2.1 C.1.2.2.2.2 F.1 C.1.2.2.2.1 C.2.1 hP q0 he F.2.1 k F.2.2.1 (C.1.2.2.2.2 _ F.2.2.2) (fun _ h => h) hv hd (kk H locs la hP hD hS hl)
theorem rg_put (C : rC p s m args c E A nL cc Ts own) {Cn : String} {T : u_T} {N ci k index a : Nat} {fs : List Value} {v : Value} {ty : Nat → FieldType} {ws' : va_W} (F : rFld Ts own index Cn T N ci k) (L : rLay T N ty) (hf : (T k).2.2.2 = false) (q0 : Nat) (he : ws[q0]? = some (a, .inr (ci, fs))) (hn : narrow (ty k) v = v) (hfit : fits (ty k) v = true) (hlen : k < fs.length) (hd : decode cc pc = .ok (.putfield index, 3)) (hw : ws.set q0 (a, .inr (ci, fs.set k v)) = ws') (kk : rG p l e R s m args below meth c E A nL cells slots Q ws' (pc + 3) lv st) : rG p l e R s m args below meth c E A nL cells slots Q ws pc lv (v :: .ref a :: st) := by
  intro H locs la hP hD hS hl
  subst hw
  exact va_put (ty := ty k) C.1.1 C.1.2.1 C.1.2.2.2.2 F.1 ty L.1 L.2 C.1.2.2.2.1 C.2.1 hP hD hS q0 he F.2.1 k F.2.2.1 (C.1.2.2.2.2 _ F.2.2.2) (fun _ h => h) hf (L.1 k F.2.2.1) hn hfit hlen hd (fun H1 locs1 hP1 hD1 hS1 => kk H1 locs1 la hP1 hD1 hS1 hl)
theorem rg_putF (C : rC p s m args c E A nL cc Ts own) {Cn : String} {T : u_T} {N ci k index a : Nat} {fs : List Value} {v : Value} {ty : Nat → FieldType} {ws' : va_W} (F : rFld Ts own index Cn T N ci k) (L : rLay T N ty) (hf : (T k).2.2.2 = true) (hin : meth.name = "<init>") (hdc : (T k).1 = own) (q0 : Nat) (he : ws[q0]? = some (a, .inr (ci, fs))) (hn : narrow (ty k) v = v) (hfit : fits (ty k) v = true) (hlen : k < fs.length) (hd : decode cc pc = .ok (.putfield index, 3)) (hw : ws.set q0 (a, .inr (ci, fs.set k v)) = ws') (kk : rG p l e R s m args below meth c E A nL cells slots Q ws' (pc + 3) lv st) : rG p l e R s m args below meth c E A nL cells slots Q ws pc lv (v :: .ref a :: st) := by
  intro H locs la hP hD hS hl
  subst hw
  exact va_putF (ty := ty k) C.1.1 C.1.2.1 C.1.2.2.2.2 F.1 ty L.1 L.2 C.1.2.2.2.1 C.2.1 hP hD hS q0 he F.2.1 k F.2.2.1 (C.1.2.2.2.2 _ F.2.2.2) (fun _ h => h) hf hin hdc (L.1 k F.2.2.1) hn hfit hlen hd (fun H1 locs1 hP1 hD1 hS1 => kk H1 locs1 la hP1 hD1 hS1 hl)
theorem rg_iald (C : rC p s m args c E A nL cc Ts own) {a n : Nat} {f : Nat → Int} {z : Int} (q0 : Nat) (ha : ws[q0]? = some (cI E a n f)) (hn : n < 2147483648) (h0 : 0 ≤ z) (h1 : z < (n : Int)) (hd : decode cc pc = .ok (.iaload, 1)) (kk : rG p l e R s m args below meth c E A nL cells slots Q ws (pc + 1) lv (.int (iI (f z.toNat)) :: st)) : rG p l e R s m args below meth c E A nL cells slots Q ws pc lv (.int (iI z) :: .ref a :: st) := by
  intro H locs la hP hD hS hl
  refine va_iald C.1.1 C.1.2.1 C.2.1 hP q0 0 ha rfl (iI_in h0 h1 hn) hd ?_
  rw [iI_cl h0 (by omega)]
  exact (kk H locs la hP hD hS hl)
theorem rg_zald (C : rC p s m args c E A nL cc Ts own) {a n : Nat} {f : Nat → Int} {z : Int} (q0 : Nat) (ha : ws[q0]? = some (cZ E a n f)) (hn : n < 2147483648) (h0 : 0 ≤ z) (h1 : z < (n : Int)) (hd : decode cc pc = .ok (.baload, 1)) (kk : rG p l e R s m args below meth c E A nL cells slots Q ws (pc + 1) lv (.int (iI (f z.toNat)) :: st)) : rG p l e R s m args below meth c E A nL cells slots Q ws pc lv (.int (iI z) :: .ref a :: st) := by
  intro H locs la hP hD hS hl
  refine va_zald C.1.1 C.1.2.1 C.2.1 hP q0 1 ha rfl (iI_in h0 h1 hn) hd ?_
  rw [iI_cl h0 (by omega)]
  exact (kk H locs la hP hD hS hl)
theorem rg_lald (C : rC p s m args c E A nL cc Ts own) {a n : Nat} {f : Nat → Int} {z : Int} (q0 : Nat) (ha : ws[q0]? = some (cJ E a n f)) (hn : n < 2147483648) (h0 : 0 ≤ z) (h1 : z < (n : Int)) (hd : decode cc pc = .ok (.laload, 1)) (kk : rG p l e R s m args below meth c E A nL cells slots Q ws (pc + 1) lv (.long (lI (f z.toNat)) :: st)) : rG p l e R s m args below meth c E A nL cells slots Q ws pc lv (.int (iI z) :: .ref a :: st) := by
  intro H locs la hP hD hS hl
  refine va_lald C.1.1 C.1.2.1 C.2.1 hP q0 2 ha rfl (iI_in h0 h1 hn) hd ?_
  rw [iI_cl h0 (by omega)]
  exact (kk H locs la hP hD hS hl)
theorem rg_iast (C : rC p s m args c E A nL cc Ts own) {a n : Nat} {f : Nat → Int} {z x : Int} {ws' : va_W} (q0 : Nat) (ha : ws[q0]? = some (cI E a n f)) (hn : n < 2147483648) (h0 : 0 ≤ z) (h1 : z < (n : Int)) (hd : decode cc pc = .ok (.iastore, 1)) (hw : ws.set q0 (cI E a n (uZ f z.toNat x)) = ws') (kk : rG p l e R s m args below meth c E A nL cells slots Q ws' (pc + 1) lv st) : rG p l e R s m args below meth c E A nL cells slots Q ws pc lv (.int (iI x) :: .int (iI z) :: .ref a :: st) := by
  intro H locs la hP hD hS hl
  subst hw
  refine va_iast C.1.1 C.1.2.1 C.2.1 hP hD hS q0 0 ha rfl (iI_in h0 h1 hn) hd ?_
  rw [iI_cl h0 (by omega), upd_iI]
  exact fun H1 locs1 hP1 hD1 hS1 => kk H1 locs1 la hP1 hD1 hS1 hl
theorem rg_zast (C : rC p s m args c E A nL cc Ts own) {a n : Nat} {f : Nat → Int} {z x : Int} {ws' : va_W} (q0 : Nat) (ha : ws[q0]? = some (cZ E a n f)) (hn : n < 2147483648) (h0 : 0 ≤ z) (h1 : z < (n : Int)) (hx : vp_nar .boolean (iI x) = iI x) (hd : decode cc pc = .ok (.bastore, 1)) (hw : ws.set q0 (cZ E a n (uZ f z.toNat x)) = ws') (kk : rG p l e R s m args below meth c E A nL cells slots Q ws' (pc + 1) lv st) : rG p l e R s m args below meth c E A nL cells slots Q ws pc lv (.int (iI x) :: .int (iI z) :: .ref a :: st) := by
  intro H locs la hP hD hS hl
  subst hw
  refine va_zast C.1.1 C.1.2.1 C.2.1 hP hD hS q0 1 ha rfl (iI_in h0 h1 hn) hd ?_
  rw [hx, iI_cl h0 (by omega), upd_iI]
  exact fun H1 locs1 hP1 hD1 hS1 => kk H1 locs1 la hP1 hD1 hS1 hl
theorem rg_last (C : rC p s m args c E A nL cc Ts own) {a n : Nat} {f : Nat → Int} {z x : Int} {ws' : va_W} (q0 : Nat) (ha : ws[q0]? = some (cJ E a n f)) (hn : n < 2147483648) (h0 : 0 ≤ z) (h1 : z < (n : Int)) (hd : decode cc pc = .ok (.lastore, 1)) (hw : ws.set q0 (cJ E a n (uZ f z.toNat x)) = ws') (kk : rG p l e R s m args below meth c E A nL cells slots Q ws' (pc + 1) lv st) : rG p l e R s m args below meth c E A nL cells slots Q ws pc lv (.long (lI x) :: .int (iI z) :: .ref a :: st) := by
  intro H locs la hP hD hS hl
  subst hw
  refine va_last C.1.1 C.1.2.1 C.2.1 hP hD hS q0 2 ha rfl (iI_in h0 h1 hn) hd ?_
  rw [iI_cl h0 (by omega), upd_lI]
  exact fun H1 locs1 hP1 hD1 hS1 => kk H1 locs1 la hP1 hD1 hS1 hl
theorem rg_leni (C : rC p s m args c E A nL cc Ts own) {a n : Nat} {f : Nat → Int} (q0 : Nat) (ha : ws[q0]? = some (cI E a n f)) (hd : decode cc pc = .ok (.arraylength, 1)) (kk : rG p l e R s m args below meth c E A nL cells slots Q ws (pc + 1) lv (.int (iI (n : Int)) :: st)) : rG p l e R s m args below meth c E A nL cells slots Q ws pc lv (.ref a :: st) := by
  intro H locs la hP hD hS hl
  exact va_alen (v := iI (n : Int)) C.1.1 C.1.2.1 C.2.1 hP q0 0 ha (ty := .int) rfl (Int32.ofInt_eq_ofNat.symm) hd (kk H locs la hP hD hS hl)
theorem rg_lenz (C : rC p s m args c E A nL cc Ts own) {a n : Nat} {f : Nat → Int} (q0 : Nat) (ha : ws[q0]? = some (cZ E a n f)) (hd : decode cc pc = .ok (.arraylength, 1)) (kk : rG p l e R s m args below meth c E A nL cells slots Q ws (pc + 1) lv (.int (iI (n : Int)) :: st)) : rG p l e R s m args below meth c E A nL cells slots Q ws pc lv (.ref a :: st) := by
  intro H locs la hP hD hS hl
  exact va_alen (v := iI (n : Int)) C.1.1 C.1.2.1 C.2.1 hP q0 1 ha (ty := .boolean) rfl (Int32.ofInt_eq_ofNat.symm) hd (kk H locs la hP hD hS hl)
theorem rg_lenj (C : rC p s m args c E A nL cc Ts own) {a n : Nat} {f : Nat → Int} (q0 : Nat) (ha : ws[q0]? = some (cJ E a n f)) (hd : decode cc pc = .ok (.arraylength, 1)) (kk : rG p l e R s m args below meth c E A nL cells slots Q ws (pc + 1) lv (.int (iI (n : Int)) :: st)) : rG p l e R s m args below meth c E A nL cells slots Q ws pc lv (.ref a :: st) := by
  intro H locs la hP hD hS hl
  exact va_alen (v := iI (n : Int)) C.1.1 C.1.2.1 C.2.1 hP q0 2 ha (ty := .long) rfl (Int32.ofInt_eq_ofNat.symm) hd (kk H locs la hP hD hS hl)
end RV1
end
section
/-! contracts: from the cells cin (and any others, which stay) the method returns r, the cells are cout u -/
def rP (E : rE) (cin : va_W) (sz : Nat) (U : State) : Prop := U.heap.size = sz ∧ rK E U ∧ va_P E.1 vwCl cin U.heap ∧ va_D (fun _ => True) cin
def rQ (E : rE) (cin : va_W) (sz : Nat) {S : Type} (r : Option Value) (cout : S → va_W) : Array Value → State → Outcome → State → Prop := fun _ st o t => (∃ u : S, o = .returned r ∧ rK E t ∧ va_P E.1 vwCl (cout u) t.heap ∧ va_D (va_A cin sz) (cout u)) ∧ va_F (va_A cin sz) st t
def rM (l : Launch) (y : MethodName) (ws : List Cond) (rm : Room) (E : rE) (cin : va_W) (av : List Value) {S : Type} (r : Option Value) (cout : S → va_W) : Prop := ∀ sz : Nat, Met l y ws rm (va_Pc av (rP E cin sz)) (rQ E cin sz r cout) rm.cells rm.slots (va_A cin sz)
theorem rP_blind (E : rE) (cin : va_W) (sz : Nat) (av : List Value) : FrameBlind (va_Pc av (rP E cin sz)) := fun a U g mk q => by
  obtain ⟨q0, q1, qK, qP, qD⟩ := q
  exact ⟨q0, q1, va_K.moved (u := U) (U := U.calling g mk a) (Vm.Alike.refl U.vm) qK, qP, qD⟩
theorem rM.of {l : Launch} {y : MethodName} {ws ws' : List Cond} {rm : Room} {E : rE} {cin : va_W} {av : List Value} {S : Type} {r : Option Value} {cout : S → va_W} {cc : ByteArray} {maxL : Nat} {ret : Option FieldType}
    (hy : plainName y.cls = true) (hw : ws = Cond.code y cc maxL ret :: ws') (hle : (lg_sl av).length ≤ maxL)
    (body : ∀ (p : Program) (e : Env) (s : State) (m : MethodId) (below : List Frame) (meth : Method) (c : Code) (A : Nat → Prop), A = va_A cin s.heap.size → rC p s m av.toArray c E A maxL cc ws y.cls → meth.sig.returnType = ret → meth.locks = false → meth.name = y.name →
      rG p l e rm s m av.toArray below meth c E A maxL 0 0 (MQ below (rQ E cin s.heap.size r cout) av.toArray s rm.cells rm.slots A) cin 0 (lv_args 0 av) []) : rM l y ws rm E cin av r cout := by
  intro sz
  refine Met.ofW (cc := cc) (maxL := maxL) (ret := ret) hy hw ?_
  intro p e s m args below meth c s₁ B hml hv
  obtain ⟨rfl, hsz, hK, hP, hD0⟩ := hv
  subst hsz
  have hb := body p e s m below meth c (va_A cin s.heap.size) rfl ⟨⟨B.exec, B.bytes, hml, findClass_of_methodNamed B.named, atoms_spec (ws := ws) B.pre⟩, hK, fun q h => Or.inr h⟩ B.returns B.notSynchronized (name_of_methodNamed B.named B.method).1
  rw [lg_entry_eq]
  exact hb s.heap [] _ hP hD0.self va_S.rf (lv_entry av hle)
section RV2
variable {p : Program} {l : Launch} {e : Env} {R : Room} {s : State} {m : MethodId} {args : Array Value} {below : List Frame} {meth : Method} {c : Code} {E : rE} {A : Nat → Prop} {nL cells slots : Nat} {Q : State → Prop} {ws : va_W} {pc : Nat} {lv : List (Nat × Value)} {st : List Value} {cc : ByteArray} {Ts : List Cond} {own : String}
variable {S : Type} {cin wr : va_W} {cout w' : S → va_W} {r : Option Value}
theorem rg_iret (C : rC p s m args c E A nL cc Ts own) (hA : A = va_A cin s.heap.size) (hr : meth.sig.returnType = some .int) (hlk : meth.locks = false) (u : S) (hw : ws = cout u) {v : Int32} (hv : r = some (.int v)) (hd : decode cc pc = .ok (.ireturn, 1)) : rG p l e R s m args below meth c E A nL cells slots (MQ below (rQ E cin s.heap.size r cout) args s cells slots A) ws pc lv [.int v] := by
  intro H locs la hP hD hS hl
  subst hv hw hA
  exact W.iret C.1.1 C.1.2.1 hr (fun t ht hW => ⟨⟨u, rfl, va_K.moved hW.alike C.2.1, by rw [ht]; exact hP, hD⟩, hS.F ht⟩) hS.2.2 hd hlk
theorem rg_zret (C : rC p s m args c E A nL cc Ts own) (hA : A = va_A cin s.heap.size) {ty : FieldType} (hr : meth.sig.returnType = some ty) (hlk : meth.locks = false) (u : S) (hw : ws = cout u) {v : Int32} (hn : narrow ty (.int v) = .int v) (hv : r = some (.int v)) (hd : decode cc pc = .ok (.ireturn, 1)) : rG p l e R s m args below meth c E A nL cells slots (MQ below (rQ E cin s.heap.size r cout) args s cells slots A) ws pc lv [.int v] := by
  intro H locs la hP hD hS hl
  subst hv hw hA
  exact W.zret C.1.1 C.1.2.1 hr hn (fun t ht hW => ⟨⟨u, rfl, va_K.moved hW.alike C.2.1, by rw [ht]; exact hP, hD⟩, hS.F ht⟩) hS.2.2 hd hlk
theorem rg_lret (C : rC p s m args c E A nL cc Ts own) (hA : A = va_A cin s.heap.size) (hr : meth.sig.returnType = some .long) (hlk : meth.locks = false) (u : S) (hw : ws = cout u) {v : Int64} (hv : r = some (.long v)) (hd : decode cc pc = .ok (.lreturn, 1)) : rG p l e R s m args below meth c E A nL cells slots (MQ below (rQ E cin s.heap.size r cout) args s cells slots A) ws pc lv [.long v] := by
  intro H locs la hP hD hS hl
  subst hv hw hA
  exact W.lret C.1.1 C.1.2.1 hr (fun t ht hW => ⟨⟨u, rfl, va_K.moved hW.alike C.2.1, by rw [ht]; exact hP, hD⟩, hS.F ht⟩) hS.2.2 hd hlk
theorem rg_vret (C : rC p s m args c E A nL cc Ts own) (hA : A = va_A cin s.heap.size) (hr : meth.sig.returnType = none) (hlk : meth.locks = false) (u : S) (hw : ws = cout u) (hv : r = none) (hd : decode cc pc = .ok (.return_, 1)) : rG p l e R s m args below meth c E A nL cells slots (MQ below (rQ E cin s.heap.size r cout) args s cells slots A) ws pc lv [] := by
  intro H locs la hP hD hS hl
  subst hv hw hA
  exact W.vret C.1.1 C.1.2.1 hr (fun t ht hW => ⟨⟨u, rfl, va_K.moved hW.alike C.2.1, by rw [ht]; exact hP, hD⟩, hS.F ht⟩) hS.2.2 hd hlk
/-- behind a call: the callee's cells and the rest, in the order that ps says -/
theorem rg_after {H : Heap} {locs : List Loc} {la : Array Slot} {mc ms : Nat} {st0 rest : List Value} {av : Array Value} (C : rC p s m args c E A nL cc Ts own)
    (hP : va_P E.1 vwCl ws H) (hD : va_D A ws) (hS : va_S A s.heap H locs) (hl : lv_has la nL lv)
    (run : va_Run p l e R s m args below meth c H locs cells slots mc ms (F0 m pc la st0) rest (rQ E cin H.size r cout av) (va_A cin H.size))
    (isC isR ps : List Nat) (hC : isC.map (fun i => ws[i]?) = cin.map some) (hR : isR.map (fun i => ws[i]?) = wr.map some) (hnR : va_nd isR = true) (hdis : ∀ i ∈ isR, i ∉ isC)
    (hps : ∀ u, ps.map (fun i => (wr ++ cout u)[i]?) = (w' u).map some) (hnp : va_nd ps = true)
    (kk : ∀ u, rG p l e R s m args below meth c E A nL (cells + mc) (slots + ms) Q (w' u) (pc + 3) lv (r.toList ++ rest)) : W p l e R s m args below meth c H locs cells slots Q (F0 m pc la st0) := by
  have hFc := va_free (wc := cin) hD hS C.2.2 isC hC
  intro T hT X
  obtain ⟨v, st₀, t, T', L, h0, X', hL, e1, e2, ⟨⟨u, hv, hK1, hP1, hD1⟩, hz, hk⟩, stp⟩ := run T hT X
  cases hv
  rw [h0] at hz hk
  rw [← e1] at hz hk hP1
  obtain ⟨hPj, hDj⟩ := va_join (wr := wr) (w1 := cout u) hP hD isC isR hC hR hnR hdis hk hFc hP1 hD1
  have hS1 : va_S A s.heap T'.heap (locs ++ L) := ⟨Nat.le_trans hS.1 hz, fun q h1 h2 => by
      rw [hk q (Nat.lt_of_lt_of_le h1 hS.1) (fun z => h2 (hFc q z))]
      exact hS.2.1 q h1 h2, fun q hq => by
      rcases List.mem_append.mp hq with h | h
      · exact hS.2.2 q h
      · exact hFc _ (hL q h)⟩
  obtain ⟨t2, a1, b1⟩ := kk u T'.heap (locs ++ L) la (hPj.sub ps (sel_map (hps u))) (hDj.sub ps hnp (hps u)) hS1 hl T' rfl X'
  exact ⟨t2, stp t2 a1, b1⟩
variable {y : MethodName} {bytes : ByteArray} {maxL index n : Nat} {ret : Option FieldType} {wsy : List Cond} {rm : Room} {As rest : List Value} {b : Nat}
theorem rg_callV {Cn : String} {T : u_T} {N ci : Nat} {fs : List Value} (C : rC p s m args c E A nL cc Ts own) (M : rM l y wsy rm E cin (.ref b :: As) r cout) (cw : CallW R s args own Cn index y bytes maxL ret wsy rm rm.cells rm.slots n)
    (isC isR ps : List Nat) (hC : isC.map (fun i => ws[i]?) = cin.map some) (hR : isR.map (fun i => ws[i]?) = wr.map some) (hnC : va_nd isC = true) (hnR : va_nd isR = true) (hdis : ∀ i ∈ isR, i ∉ isC)
    (hps : ∀ u, ps.map (fun i => (wr ++ cout u)[i]?) = (w' u).map some) (hnp : va_nd ps = true)
    (q0 : Nat) (he : cin[q0]? = some (b, .inr (ci, fs))) (hc : vwCl[ci]? = some (Cn, T, N)) (hn : As.length = n) (hst : st = As.reverse ++ .ref b :: rest) (hroom : (rest.map fun v => v.category).sum ≤ 8)
    (hd : decode cc pc = .ok (.invokevirtual index, 3)) (hf : cells + rm.cells ≤ R.cells ∧ slots + rm.slots ≤ R.slots)
    (kk : ∀ u, rG p l e R s m args below meth c E A nL (cells + rm.cells) (slots + rm.slots) Q (w' u) (pc + 3) lv (r.toList ++ rest)) : rG p l e R s m args below meth c E A nL cells slots Q ws pc lv st := by
  intro H locs la hP hD hS hl
  subst hst
  have hPc := hP.sub isC (sel_map hC)
  have hDc := hD.sub isC hnC hC
  exact rg_after C hP hD hS hl (va_runV (As := As) (rest := rest) C.1 (M H.size) cw ⟨rP_blind E cin H.size _, va_recv C.2.1 hPc hc he, fun U hU hW => ⟨rfl, by rw [hU], va_K.moved hW.alike C.2.1, by rw [hU]; exact hPc, hDc.weaken (fun _ _ _ _ => trivial)⟩⟩ rfl hn hl.1 rfl (lv_room hroom) hd hf) isC isR ps hC hR hnR hdis hps hnp kk
theorem rg_callS (C : rC p s m args c E A nL cc Ts own) (M : rM l y wsy rm E cin As r cout) (cw : CallB R s args own index y bytes maxL ret wsy rm rm.cells rm.slots n ∧ (Cond.static y).before args s = true)
    (isC isR ps : List Nat) (hC : isC.map (fun i => ws[i]?) = cin.map some) (hR : isR.map (fun i => ws[i]?) = wr.map some) (hnC : va_nd isC = true) (hnR : va_nd isR = true) (hdis : ∀ i ∈ isR, i ∉ isC)
    (hps : ∀ u, ps.map (fun i => (wr ++ cout u)[i]?) = (w' u).map some) (hnp : va_nd ps = true)
    (hn : As.length = n) (hst : st = As.reverse ++ rest) (hroom : (rest.map fun v => v.category).sum ≤ 8)
    (hd : decode cc pc = .ok (.invokestatic index, 3)) (hf : cells + rm.cells ≤ R.cells ∧ slots + rm.slots ≤ R.slots)
    (kk : ∀ u, rG p l e R s m args below meth c E A nL (cells + rm.cells) (slots + rm.slots) Q (w' u) (pc + 3) lv (r.toList ++ rest)) : rG p l e R s m args below meth c E A nL cells slots Q ws pc lv st := by
  intro H locs la hP hD hS hl
  subst hst
  have hPc := hP.sub isC (sel_map hC)
  have hDc := hD.sub isC hnC hC
  exact rg_after C hP hD hS hl (va_runS (As := As) (rest := rest) C.1 (M H.size) cw ⟨rP_blind E cin H.size _, fun U hU hW => ⟨rfl, by rw [hU], va_K.moved hW.alike C.2.1, by rw [hU]; exact hPc, hDc.weaken (fun _ _ _ _ => trivial)⟩⟩ rfl hn hl.1 rfl (lv_room hroom) hd hf) isC isR ps hC hR hnR hdis hps hnp kk
theorem rg_callI (C : rC p s m args c E A nL cc Ts own) (M : rM l y wsy rm E cin (.ref b :: As) r cout) (cw : CallB R s args own index y bytes maxL none wsy rm rm.cells rm.slots n ∧ y.name = "<init>" ∧ (Cond.instanceMethod y).before args s = true)
    (isC isR ps : List Nat) (hC : isC.map (fun i => ws[i]?) = cin.map some) (hR : isR.map (fun i => ws[i]?) = wr.map some) (hnC : va_nd isC = true) (hnR : va_nd isR = true) (hdis : ∀ i ∈ isR, i ∉ isC)
    (hps : ∀ u, ps.map (fun i => (wr ++ cout u)[i]?) = (w' u).map some) (hnp : va_nd ps = true)
    (hn : As.length = n) (hst : st = As.reverse ++ .ref b :: rest) (hroom : (rest.map fun v => v.category).sum ≤ 8)
    (hd : decode cc pc = .ok (.invokespecial index, 3)) (hf : cells + rm.cells ≤ R.cells ∧ slots + rm.slots ≤ R.slots)
    (kk : ∀ u, rG p l e R s m args below meth c E A nL (cells + rm.cells) (slots + rm.slots) Q (w' u) (pc + 3) lv (r.toList ++ rest)) : rG p l e R s m args below meth c E A nL cells slots Q ws pc lv st := by
  intro H locs la hP hD hS hl
  subst hst
  have hPc := hP.sub isC (sel_map hC)
  have hDc := hD.sub isC hnC hC
  exact rg_after C hP hD hS hl (va_runI (As := As) (rest := rest) C.1 (M H.size) cw ⟨rP_blind E cin H.size _, fun U hU hW => ⟨rfl, by rw [hU], va_K.moved hW.alike C.2.1, by rw [hU]; exact hPc, hDc.weaken (fun _ _ _ _ => trivial)⟩⟩ rfl hn hl.1 rfl (lv_room hroom) hd hf) isC isR ps hC hR hnR hdis hps hnp kk
end RV2
end
