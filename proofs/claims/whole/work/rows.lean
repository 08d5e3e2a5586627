section
-- ===== PART A: goes FIRST, ahead of the names: the tables' words, and 'selects' of the private methods out of them =====
/-- a private method of a class that the tables say can be made, by its rows of tables_1 -/
def lw_okq (q : MethodName × Nat) : Prop := (q.1.cls ≠ "java/lang/invoke/MethodHandle" ∧ q.1.cls ≠ "java/lang/invoke/VarHandle") ∧ Cond.instantiable q.1.cls q.2 ∈ tables_1 ∧ Cond.privateMethod q.1 ∈ tables_1 ∧ Cond.instanceMethod q.1 ∈ tables_1
theorem lw_p0 : lw_okq (⟨"RiverDesk", "settleToday", "()V"⟩, 7) := ⟨⟨by decide +kernel, by decide +kernel⟩, List.mem_of_getElem? (i := 19) (by decide +kernel), List.mem_of_getElem? (i := 205) (by decide +kernel), List.mem_of_getElem? (i := 206) (by decide +kernel)⟩
theorem lw_p1 : lw_okq (⟨"RiverDesk$Plan", "pour", "(LRiverDesk$River;I)V"⟩, 3) := ⟨⟨by decide +kernel, by decide +kernel⟩, List.mem_of_getElem? (i := 158) (by decide +kernel), List.mem_of_getElem? (i := 219) (by decide +kernel), List.mem_of_getElem? (i := 220) (by decide +kernel)⟩
theorem lw_p2 : lw_okq (⟨"RiverDesk", "isShort", "(I)Z"⟩, 7) := ⟨⟨by decide +kernel, by decide +kernel⟩, List.mem_of_getElem? (i := 19) (by decide +kernel), List.mem_of_getElem? (i := 252) (by decide +kernel), List.mem_of_getElem? (i := 253) (by decide +kernel)⟩
theorem lw_p3 : lw_okq (⟨"java/lang/Throwable", "fillInStackTrace", "(I)Ljava/lang/Throwable;"⟩, 6) := ⟨⟨by decide +kernel, by decide +kernel⟩, List.mem_of_getElem? (i := 367) (by decide +kernel), List.mem_of_getElem? (i := 365) (by decide +kernel), List.mem_of_getElem? (i := 366) (by decide +kernel)⟩
theorem lw_p4 : lw_okq (⟨"RiverDesk", "checkPath", "(II)V"⟩, 7) := ⟨⟨by decide +kernel, by decide +kernel⟩, List.mem_of_getElem? (i := 19) (by decide +kernel), List.mem_of_getElem? (i := 479) (by decide +kernel), List.mem_of_getElem? (i := 480) (by decide +kernel)⟩
theorem lw_p5 : lw_okq (⟨"RiverDesk", "checkRight", "(I)V"⟩, 7) := ⟨⟨by decide +kernel, by decide +kernel⟩, List.mem_of_getElem? (i := 19) (by decide +kernel), List.mem_of_getElem? (i := 518) (by decide +kernel), List.mem_of_getElem? (i := 519) (by decide +kernel)⟩
theorem lw_p6 : lw_okq (⟨"RiverDesk", "checkReach", "(I)V"⟩, 7) := ⟨⟨by decide +kernel, by decide +kernel⟩, List.mem_of_getElem? (i := 19) (by decide +kernel), List.mem_of_getElem? (i := 540) (by decide +kernel), List.mem_of_getElem? (i := 541) (by decide +kernel)⟩
theorem lw_p7 : lw_okq (⟨"RiverDesk", "oldestThatWouldGetLess", "()I"⟩, 7) := ⟨⟨by decide +kernel, by decide +kernel⟩, List.mem_of_getElem? (i := 19) (by decide +kernel), List.mem_of_getElem? (i := 588) (by decide +kernel), List.mem_of_getElem? (i := 589) (by decide +kernel)⟩
theorem lw_p8 : lw_okq (⟨"RiverDeskModel", "isOn", "(II)Z"⟩, 23) := ⟨⟨by decide +kernel, by decide +kernel⟩, List.mem_of_getElem? (i := 599) (by decide +kernel), List.mem_of_getElem? (i := 696) (by decide +kernel), List.mem_of_getElem? (i := 697) (by decide +kernel)⟩
theorem lw_p9 : lw_okq (⟨"RiverDeskModel", "isTaken", "(II)Z"⟩, 23) := ⟨⟨by decide +kernel, by decide +kernel⟩, List.mem_of_getElem? (i := 599) (by decide +kernel), List.mem_of_getElem? (i := 700) (by decide +kernel), List.mem_of_getElem? (i := 701) (by decide +kernel)⟩
theorem lw_p10 : lw_okq (⟨"RiverDeskModel", "lay", "(IIII)V"⟩, 23) := ⟨⟨by decide +kernel, by decide +kernel⟩, List.mem_of_getElem? (i := 599) (by decide +kernel), List.mem_of_getElem? (i := 704) (by decide +kernel), List.mem_of_getElem? (i := 705) (by decide +kernel)⟩
theorem lw_p11 : lw_okq (⟨"RiverDeskModel", "wrongRight", "(I)I"⟩, 23) := ⟨⟨by decide +kernel, by decide +kernel⟩, List.mem_of_getElem? (i := 599) (by decide +kernel), List.mem_of_getElem? (i := 716) (by decide +kernel), List.mem_of_getElem? (i := 717) (by decide +kernel)⟩
theorem lw_p12 : lw_okq (⟨"RiverDeskModel", "wrongReach", "(I)I"⟩, 23) := ⟨⟨by decide +kernel, by decide +kernel⟩, List.mem_of_getElem? (i := 599) (by decide +kernel), List.mem_of_getElem? (i := 728) (by decide +kernel), List.mem_of_getElem? (i := 729) (by decide +kernel)⟩
theorem lw_p13 : lw_okq (⟨"RiverDeskModel", "make", "(III)Z"⟩, 23) := ⟨⟨by decide +kernel, by decide +kernel⟩, List.mem_of_getElem? (i := 599) (by decide +kernel), List.mem_of_getElem? (i := 740) (by decide +kernel), List.mem_of_getElem? (i := 741) (by decide +kernel)⟩
theorem lw_p14 : lw_okq (⟨"RiverDeskModel", "age", "()V"⟩, 23) := ⟨⟨by decide +kernel, by decide +kernel⟩, List.mem_of_getElem? (i := 599) (by decide +kernel), List.mem_of_getElem? (i := 744) (by decide +kernel), List.mem_of_getElem? (i := 745) (by decide +kernel)⟩
theorem lw_p15 : lw_okq (⟨"RiverDeskModel", "holdsPlan", "(I)Z"⟩, 23) := ⟨⟨by decide +kernel, by decide +kernel⟩, List.mem_of_getElem? (i := 599) (by decide +kernel), List.mem_of_getElem? (i := 748) (by decide +kernel), List.mem_of_getElem? (i := 749) (by decide +kernel)⟩
def lw_privs_1 : List (MethodName × Nat) := [(⟨"RiverDesk", "settleToday", "()V"⟩, 7), (⟨"RiverDesk$Plan", "pour", "(LRiverDesk$River;I)V"⟩, 3), (⟨"RiverDesk", "isShort", "(I)Z"⟩, 7), (⟨"java/lang/Throwable", "fillInStackTrace", "(I)Ljava/lang/Throwable;"⟩, 6), (⟨"RiverDesk", "checkPath", "(II)V"⟩, 7), (⟨"RiverDesk", "checkRight", "(I)V"⟩, 7), (⟨"RiverDesk", "checkReach", "(I)V"⟩, 7), (⟨"RiverDesk", "oldestThatWouldGetLess", "()I"⟩, 7), (⟨"RiverDeskModel", "isOn", "(II)Z"⟩, 23), (⟨"RiverDeskModel", "isTaken", "(II)Z"⟩, 23), (⟨"RiverDeskModel", "lay", "(IIII)V"⟩, 23), (⟨"RiverDeskModel", "wrongRight", "(I)I"⟩, 23), (⟨"RiverDeskModel", "wrongReach", "(I)I"⟩, 23), (⟨"RiverDeskModel", "make", "(III)Z"⟩, 23), (⟨"RiverDeskModel", "age", "()V"⟩, 23), (⟨"RiverDeskModel", "holdsPlan", "(I)Z"⟩, 23)]
theorem lw_r1 : ∀ q ∈ lw_privs_1, lw_okq q := List.forall_mem_cons.mpr ⟨lw_p0, List.forall_mem_cons.mpr ⟨lw_p1, List.forall_mem_cons.mpr ⟨lw_p2, List.forall_mem_cons.mpr ⟨lw_p3, List.forall_mem_cons.mpr ⟨lw_p4, List.forall_mem_cons.mpr ⟨lw_p5, List.forall_mem_cons.mpr ⟨lw_p6, List.forall_mem_cons.mpr ⟨lw_p7, List.forall_mem_cons.mpr ⟨lw_p8, List.forall_mem_cons.mpr ⟨lw_p9, List.forall_mem_cons.mpr ⟨lw_p10, List.forall_mem_cons.mpr ⟨lw_p11, List.forall_mem_cons.mpr ⟨lw_p12, List.forall_mem_cons.mpr ⟨lw_p13, List.forall_mem_cons.mpr ⟨lw_p14, List.forall_mem_cons.mpr ⟨lw_p15, fun _ h => absurd h List.not_mem_nil⟩⟩⟩⟩⟩⟩⟩⟩⟩⟩⟩⟩⟩⟩⟩⟩
theorem lw_p16 : lw_okq (⟨"RiverDeskModel", "natural", "(I)J"⟩, 23) := ⟨⟨by decide +kernel, by decide +kernel⟩, List.mem_of_getElem? (i := 599) (by decide +kernel), List.mem_of_getElem? (i := 752) (by decide +kernel), List.mem_of_getElem? (i := 753) (by decide +kernel)⟩
theorem lw_p17 : lw_okq (⟨"RiverDeskModel", "returned", "(IJ)J"⟩, 23) := ⟨⟨by decide +kernel, by decide +kernel⟩, List.mem_of_getElem? (i := 599) (by decide +kernel), List.mem_of_getElem? (i := 756) (by decide +kernel), List.mem_of_getElem? (i := 757) (by decide +kernel)⟩
theorem lw_p18 : lw_okq (⟨"RiverDeskModel", "isShort", "(I)Z"⟩, 23) := ⟨⟨by decide +kernel, by decide +kernel⟩, List.mem_of_getElem? (i := 599) (by decide +kernel), List.mem_of_getElem? (i := 761) (by decide +kernel), List.mem_of_getElem? (i := 762) (by decide +kernel)⟩
def lw_privs_2 : List (MethodName × Nat) := [(⟨"RiverDeskModel", "natural", "(I)J"⟩, 23), (⟨"RiverDeskModel", "returned", "(IJ)J"⟩, 23), (⟨"RiverDeskModel", "isShort", "(I)Z"⟩, 23)]
theorem lw_r2 : ∀ q ∈ lw_privs_2, lw_okq q := List.forall_mem_cons.mpr ⟨lw_p16, List.forall_mem_cons.mpr ⟨lw_p17, List.forall_mem_cons.mpr ⟨lw_p18, fun _ h => absurd h List.not_mem_nil⟩⟩⟩
def lw_privs : List (MethodName × Nat) := lw_privs_1 ++ (lw_privs_2)
def lw_tbl : List Cond := k2_sels lw_privs ++ tables_1
theorem lw_privs_ok : ∀ q ∈ lw_privs, lw_okq q := by
  show ∀ q ∈ lw_privs_1 ++ (lw_privs_2), lw_okq q
  exact List.forall_mem_append.mpr ⟨lw_r1, lw_r2⟩
/-! the words that all methods share: the good ones of the tables, by their places -/
def gW : List Cond := lw_tbl.filter goodWord
theorem gI {w : Cond} (i : Nat) (h : lw_tbl[i]? = some w) (hg : goodWord w = true) : w ∈ gW := List.mem_filter.mpr ⟨List.mem_of_getElem? h, hg⟩
theorem gW_good {w : Cond} (h : w ∈ gW) : goodWord w = true := (List.mem_filter.mp h).2
theorem gW_in {w : Cond} (h : w ∈ gW) : w ∈ lw_tbl := (List.mem_filter.mp h).1
def RX0 : String := "RiverDesk$Books"
def TX0 : u_T := fun k => match k with
  | 0 => ("RiverDesk$Books", "entries", "[J", true)
  | _ => ("RiverDesk$Books", "day", "I", false)
def tyX0 : Nat → FieldType := fun k => match k with
  | 0 => .array .long
  | _ => .int
theorem nmX0 : ∀ a, a < 2 → ∀ b, b < 2 → a ≠ b → (TX0 a).2.1 ≠ (TX0 b).2.1 := by decide +kernel
theorem tyX0_ok : ∀ k, k < 2 → parseFieldDescriptor (TX0 k).2.2.1 = some (tyX0 k) := by decide +kernel
theorem inX0 : ∀ w ∈ u_ws RX0 TX0 2, w ∈ gW := by
  have h : (u_ws RX0 TX0 2).all (fun w => decide (w ∈ lw_tbl) && goodWord w) = true := by decide +kernel
  intro w hw
  have h1 := List.all_eq_true.mp h w hw
  simp only [Bool.and_eq_true, decide_eq_true_eq] at h1
  exact List.mem_filter.mpr h1
def RX1 : String := "RiverDesk$Plan"
def TX1 : u_T := fun k => match k with
  | 0 => ("RiverDesk$Plan", "gets", "[I", true)
  | 1 => ("RiverDesk$Plan", "flows", "[J", true)
  | _ => ("RiverDesk$Plan", "rooms", "[I", true)
def tyX1 : Nat → FieldType := fun k => match k with
  | 0 => .array .int
  | 1 => .array .long
  | _ => .array .int
theorem nmX1 : ∀ a, a < 3 → ∀ b, b < 3 → a ≠ b → (TX1 a).2.1 ≠ (TX1 b).2.1 := by decide +kernel
theorem tyX1_ok : ∀ k, k < 3 → parseFieldDescriptor (TX1 k).2.2.1 = some (tyX1 k) := by decide +kernel
theorem inX1 : ∀ w ∈ u_ws RX1 TX1 3, w ∈ gW := by
  have h : (u_ws RX1 TX1 3).all (fun w => decide (w ∈ lw_tbl) && goodWord w) = true := by decide +kernel
  intro w hw
  have h1 := List.all_eq_true.mp h w hw
  simp only [Bool.and_eq_true, decide_eq_true_eq] at h1
  exact List.mem_filter.mpr h1
def RX2 : String := "RiverDesk$Reservoirs"
def TX2 : u_T := fun k => match k with
  | 0 => ("RiverDesk$Reservoirs", "there", "[Z", true)
  | 1 => ("RiverDesk$Reservoirs", "reaches", "[I", true)
  | 2 => ("RiverDesk$Reservoirs", "capacities", "[I", true)
  | 3 => ("RiverDesk$Reservoirs", "waters", "[I", true)
  | _ => ("RiverDesk$Reservoirs", "released", "J", false)
def tyX2 : Nat → FieldType := fun k => match k with
  | 0 => .array .boolean
  | 1 => .array .int
  | 2 => .array .int
  | 3 => .array .int
  | _ => .long
theorem nmX2 : ∀ a, a < 5 → ∀ b, b < 5 → a ≠ b → (TX2 a).2.1 ≠ (TX2 b).2.1 := by decide +kernel
theorem tyX2_ok : ∀ k, k < 5 → parseFieldDescriptor (TX2 k).2.2.1 = some (tyX2 k) := by decide +kernel
theorem inX2 : ∀ w ∈ u_ws RX2 TX2 5, w ∈ gW := by
  have h : (u_ws RX2 TX2 5).all (fun w => decide (w ∈ lw_tbl) && goodWord w) = true := by decide +kernel
  intro w hw
  have h1 := List.all_eq_true.mp h w hw
  simp only [Bool.and_eq_true, decide_eq_true_eq] at h1
  exact List.mem_filter.mpr h1
def RX3 : String := "RiverDesk$Rights"
def TX3 : u_T := fun k => match k with
  | 0 => ("RiverDesk$Rights", "there", "[Z", true)
  | 1 => ("RiverDesk$Rights", "reaches", "[I", true)
  | 2 => ("RiverDesk$Rights", "priorities", "[I", true)
  | 3 => ("RiverDesk$Rights", "rates", "[I", true)
  | 4 => ("RiverDesk$Rights", "wants", "[I", true)
  | 5 => ("RiverDesk$Rights", "shares", "[I", true)
  | 6 => ("RiverDesk$Rights", "returns", "[I", true)
  | 7 => ("RiverDesk$Rights", "reservoirs", "[I", true)
  | 8 => ("RiverDesk$Rights", "byAge", "[I", true)
  | _ => ("RiverDesk$Rights", "count", "I", false)
def tyX3 : Nat → FieldType := fun k => match k with
  | 0 => .array .boolean
  | 1 => .array .int
  | 2 => .array .int
  | 3 => .array .int
  | 4 => .array .int
  | 5 => .array .int
  | 6 => .array .int
  | 7 => .array .int
  | 8 => .array .int
  | _ => .int
theorem nmX3 : ∀ a, a < 10 → ∀ b, b < 10 → a ≠ b → (TX3 a).2.1 ≠ (TX3 b).2.1 := by decide +kernel
theorem tyX3_ok : ∀ k, k < 10 → parseFieldDescriptor (TX3 k).2.2.1 = some (tyX3 k) := by decide +kernel
theorem inX3 : ∀ w ∈ u_ws RX3 TX3 10, w ∈ gW := by
  have h : (u_ws RX3 TX3 10).all (fun w => decide (w ∈ lw_tbl) && goodWord w) = true := by decide +kernel
  intro w hw
  have h1 := List.all_eq_true.mp h w hw
  simp only [Bool.and_eq_true, decide_eq_true_eq] at h1
  exact List.mem_filter.mpr h1
def RX4 : String := "RiverDesk$River"
def TX4 : u_T := fun k => match k with
  | 0 => ("RiverDesk$River", "there", "[Z", true)
  | 1 => ("RiverDesk$River", "below", "[I", true)
  | 2 => ("RiverDesk$River", "inflows", "[I", true)
  | 3 => ("RiverDesk$River", "sent", "[J", true)
  | _ => ("RiverDesk$River", "outlet", "I", false)
def tyX4 : Nat → FieldType := fun k => match k with
  | 0 => .array .boolean
  | 1 => .array .int
  | 2 => .array .int
  | 3 => .array .long
  | _ => .int
theorem nmX4 : ∀ a, a < 5 → ∀ b, b < 5 → a ≠ b → (TX4 a).2.1 ≠ (TX4 b).2.1 := by decide +kernel
theorem tyX4_ok : ∀ k, k < 5 → parseFieldDescriptor (TX4 k).2.2.1 = some (tyX4 k) := by decide +kernel
theorem inX4 : ∀ w ∈ u_ws RX4 TX4 5, w ∈ gW := by
  have h : (u_ws RX4 TX4 5).all (fun w => decide (w ∈ lw_tbl) && goodWord w) = true := by decide +kernel
  intro w hw
  have h1 := List.all_eq_true.mp h w hw
  simp only [Bool.and_eq_true, decide_eq_true_eq] at h1
  exact List.mem_filter.mpr h1
def RX5 : String := "RiverDesk"
def TX5 : u_T := fun k => match k with
  | 0 => ("RiverDesk", "river", "LRiverDesk$River;", true)
  | 1 => ("RiverDesk", "reservoirs", "LRiverDesk$Reservoirs;", true)
  | 2 => ("RiverDesk", "rights", "LRiverDesk$Rights;", true)
  | 3 => ("RiverDesk", "books", "LRiverDesk$Books;", true)
  | 4 => ("RiverDesk", "today", "LRiverDesk$Plan;", true)
  | 5 => ("RiverDesk", "supposed", "LRiverDesk$Plan;", true)
  | _ => ("RiverDesk", "todayIsStale", "Z", false)
def tyX5 : Nat → FieldType := fun k => match k with
  | 0 => .object "RiverDesk$River"
  | 1 => .object "RiverDesk$Reservoirs"
  | 2 => .object "RiverDesk$Rights"
  | 3 => .object "RiverDesk$Books"
  | 4 => .object "RiverDesk$Plan"
  | 5 => .object "RiverDesk$Plan"
  | _ => .boolean
theorem nmX5 : ∀ a, a < 7 → ∀ b, b < 7 → a ≠ b → (TX5 a).2.1 ≠ (TX5 b).2.1 := by decide +kernel
theorem tyX5_ok : ∀ k, k < 7 → parseFieldDescriptor (TX5 k).2.2.1 = some (tyX5 k) := by decide +kernel
theorem inX5 : ∀ w ∈ u_ws RX5 TX5 7, w ∈ gW := by
  have h : (u_ws RX5 TX5 7).all (fun w => decide (w ∈ lw_tbl) && goodWord w) = true := by decide +kernel
  intro w hw
  have h1 := List.all_eq_true.mp h w hw
  simp only [Bool.and_eq_true, decide_eq_true_eq] at h1
  exact List.mem_filter.mpr h1
def RX6 : String := "RiverDeskModel"
def TX6 : u_T := fun k => match k with
  | 0 => ("RiverDeskModel", "thrown", "I", false)
  | 1 => ("RiverDeskModel", "isReach", "[Z", true)
  | 2 => ("RiverDeskModel", "down", "[I", true)
  | 3 => ("RiverDeskModel", "inflows", "[I", true)
  | 4 => ("RiverDeskModel", "isStore", "[Z", true)
  | 5 => ("RiverDeskModel", "storeReach", "[I", true)
  | 6 => ("RiverDeskModel", "capacity", "[I", true)
  | 7 => ("RiverDeskModel", "holds", "[I", true)
  | 8 => ("RiverDeskModel", "released", "[J", true)
  | 9 => ("RiverDeskModel", "isRight", "[Z", true)
  | 10 => ("RiverDeskModel", "place", "[I", true)
  | 11 => ("RiverDeskModel", "priority", "[I", true)
  | 12 => ("RiverDeskModel", "rate", "[I", true)
  | 13 => ("RiverDeskModel", "share", "[I", true)
  | 14 => ("RiverDeskModel", "back", "[I", true)
  | 15 => ("RiverDeskModel", "store", "[I", true)
  | 16 => ("RiverDeskModel", "wants", "[I", true)
  | 17 => ("RiverDeskModel", "day", "I", false)
  | 18 => ("RiverDeskModel", "books", "[J", true)
  | 19 => ("RiverDeskModel", "amount", "[I", true)
  | 20 => ("RiverDeskModel", "first", "[I", true)
  | 21 => ("RiverDeskModel", "order", "[I", true)
  | _ => ("RiverDeskModel", "rights", "I", false)
def tyX6 : Nat → FieldType := fun k => match k with
  | 0 => .int
  | 1 => .array .boolean
  | 2 => .array .int
  | 3 => .array .int
  | 4 => .array .boolean
  | 5 => .array .int
  | 6 => .array .int
  | 7 => .array .int
  | 8 => .array .long
  | 9 => .array .boolean
  | 10 => .array .int
  | 11 => .array .int
  | 12 => .array .int
  | 13 => .array .int
  | 14 => .array .int
  | 15 => .array .int
  | 16 => .array .int
  | 17 => .int
  | 18 => .array .long
  | 19 => .array .int
  | 20 => .array .int
  | 21 => .array .int
  | _ => .int
theorem nmX6 : ∀ a, a < 23 → ∀ b, b < 23 → a ≠ b → (TX6 a).2.1 ≠ (TX6 b).2.1 := by decide +kernel
theorem tyX6_ok : ∀ k, k < 23 → parseFieldDescriptor (TX6 k).2.2.1 = some (tyX6 k) := by decide +kernel
theorem inX6 : ∀ w ∈ u_ws RX6 TX6 23, w ∈ gW := by
  have h : (u_ws RX6 TX6 23).all (fun w => decide (w ∈ lw_tbl) && goodWord w) = true := by decide +kernel
  intro w hw
  have h1 := List.all_eq_true.mp h w hw
  simp only [Bool.and_eq_true, decide_eq_true_eq] at h1
  exact List.mem_filter.mpr h1
def RL : String := "RiverDeskLaw"
def RJA : String := "java/util/Arrays"
def RJM : String := "java/lang/Math"
abbrev vwCl : List vw_C := [(RX0, TX0, 2), (RX1, TX1, 3), (RX2, TX2, 5), (RX3, TX3, 10), (RX4, TX4, 5), (RX5, TX5, 7), (RX6, TX6, 23)]
abbrev cX5_init : ByteArray := prog_1_method_1_code
def yX5_init : MethodName := ⟨RX5, "<init>", "()V"⟩
def sX5_init : List Cond := .code yX5_init cX5_init 1 none :: gW
abbrev cX4_init : ByteArray := prog_6_method_1_code
def yX4_init : MethodName := ⟨RX4, "<init>", "()V"⟩
def sX4_init : List Cond := .code yX4_init cX4_init 1 none :: gW
abbrev cX2_init : ByteArray := prog_4_method_1_code
def yX2_init : MethodName := ⟨RX2, "<init>", "()V"⟩
def sX2_init : List Cond := .code yX2_init cX2_init 1 none :: gW
abbrev cX3_init : ByteArray := prog_5_method_1_code
def yX3_init : MethodName := ⟨RX3, "<init>", "()V"⟩
def sX3_init : List Cond := .code yX3_init cX3_init 1 none :: gW
abbrev cX0_init : ByteArray := prog_2_method_1_code
def yX0_init : MethodName := ⟨RX0, "<init>", "()V"⟩
def sX0_init : List Cond := .code yX0_init cX0_init 1 none :: gW
abbrev cX1_init : ByteArray := prog_3_method_1_code
def yX1_init : MethodName := ⟨RX1, "<init>", "()V"⟩
def sX1_init : List Cond := .code yX1_init cX1_init 1 none :: gW
abbrev cX5_plan : ByteArray := prog_1_method_10_code
def yX5_plan : MethodName := ⟨RX5, "plan", "()I"⟩
def sX5_plan : List Cond := .code yX5_plan cX5_plan 3 (some FieldType.int) :: gW
abbrev cX5_settleToday : ByteArray := prog_1_method_20_code
def yX5_settleToday : MethodName := ⟨RX5, "settleToday", "()V"⟩
def sX5_settleToday : List Cond := .code yX5_settleToday cX5_settleToday 1 none :: gW
abbrev cX1_begin : ByteArray := prog_3_method_2_code
def yX1_begin : MethodName := ⟨RX1, "begin", "(LRiverDesk$River;LRiverDesk$Reservoirs;)V"⟩
def sX1_begin : List Cond := .code yX1_begin cX1_begin 4 none :: gW
abbrev cJA_fillI : ByteArray := prog_18_method_103_code
def yJA_fillI : MethodName := ⟨RJA, "fill", "([II)V"⟩
def sJA_fillI : List Cond := .code yJA_fillI cJA_fillI 4 none :: gW
abbrev cJA_fillJ : ByteArray := prog_18_method_101_code
def yJA_fillJ : MethodName := ⟨RJA, "fill", "([JJ)V"⟩
def sJA_fillJ : List Cond := .code yJA_fillJ cJA_fillJ 5 none :: gW
abbrev cX1_pour : ByteArray := prog_3_method_3_code
def yX1_pour : MethodName := ⟨RX1, "pour", "(LRiverDesk$River;I)V"⟩
def sX1_pour : List Cond := .code yX1_pour cX1_pour 5 none :: gW
abbrev cX1_giveAllBut : ByteArray := prog_3_method_4_code
def yX1_giveAllBut : MethodName := ⟨RX1, "giveAllBut", "(LRiverDesk$River;LRiverDesk$Rights;I)V"⟩
def sX1_giveAllBut : List Cond := .code yX1_giveAllBut cX1_giveAllBut 6 none :: gW
abbrev cX1_most : ByteArray := prog_3_method_5_code
def yX1_most : MethodName := ⟨RX1, "most", "(LRiverDesk$River;LRiverDesk$Rights;I)I"⟩
def sX1_most : List Cond := .code yX1_most cX1_most 9 (some FieldType.int) :: gW
abbrev cX3_isStorage : ByteArray := prog_5_method_7_code
def yX3_isStorage : MethodName := ⟨RX3, "isStorage", "(I)Z"⟩
def sX3_isStorage : List Cond := .code yX3_isStorage cX3_isStorage 2 (some FieldType.boolean) :: gW
abbrev cJM_min : ByteArray := prog_13_method_70_code
def yJM_min : MethodName := ⟨RJM, "min", "(JJ)J"⟩
def sJM_min : List Cond := .code yJM_min cJM_min 4 (some FieldType.long) :: gW
abbrev cX3_mostForUse : ByteArray := prog_5_method_9_code
def yX3_mostForUse : MethodName := ⟨RX3, "mostForUse", "(IJ)J"⟩
def sX3_mostForUse : List Cond := .code yX3_mostForUse cX3_mostForUse 5 (some FieldType.long) :: gW
abbrev cX1_give : ByteArray := prog_3_method_6_code
def yX1_give : MethodName := ⟨RX1, "give", "(LRiverDesk$River;LRiverDesk$Rights;II)V"⟩
def sX1_give : List Cond := .code yX1_give cX1_give 8 none :: gW
abbrev cX3_usedOf : ByteArray := prog_5_method_8_code
def yX3_usedOf : MethodName := ⟨RX3, "usedOf", "(II)J"⟩
def sX3_usedOf : List Cond := .code yX3_usedOf cX3_usedOf 3 (some FieldType.long) :: gW
abbrev cX5_isShort : ByteArray := prog_1_method_21_code
def yX5_isShort : MethodName := ⟨RX5, "isShort", "(I)Z"⟩
def sX5_isShort : List Cond := .code yX5_isShort cX5_isShort 2 (some FieldType.boolean) :: gW
abbrev cX5_close : ByteArray := prog_1_method_15_code
def yX5_close : MethodName := ⟨RX5, "close", "()I"⟩
def sX5_close : List Cond := .code yX5_close cX5_close 1 (some FieldType.int) :: gW
abbrev cX0_write : ByteArray := prog_2_method_2_code
def yX0_write : MethodName := ⟨RX0, "write", "(LRiverDesk$River;LRiverDesk$Reservoirs;LRiverDesk$Rights;LRiverDesk$Plan;)V"⟩
def sX0_write : List Cond := .code yX0_write cX0_write 11 none :: gW
abbrev cX0_pageOf : ByteArray := prog_2_method_3_code
def yX0_pageOf : MethodName := ⟨RX0, "pageOf", "(I)I"⟩
def sX0_pageOf : List Cond := .code yX0_pageOf cX0_pageOf 1 (some FieldType.int) :: gW
abbrev cJM_floorMod : ByteArray := prog_13_method_50_code
def yJM_floorMod : MethodName := ⟨RJM, "floorMod", "(II)I"⟩
def sJM_floorMod : List Cond := .code yJM_floorMod cJM_floorMod 3 (some FieldType.int) :: gW
abbrev cX4_allInflow : ByteArray := prog_6_method_5_code
def yX4_allInflow : MethodName := ⟨RX4, "allInflow", "()J"⟩
def sX4_allInflow : List Cond := .code yX4_allInflow cX4_allInflow 4 (some FieldType.long) :: gW
abbrev cX2_beginDay : ByteArray := prog_4_method_4_code
def yX2_beginDay : MethodName := ⟨RX2, "beginDay", "(LRiverDesk$Rights;LRiverDesk$Plan;)V"⟩
def sX2_beginDay : List Cond := .code yX2_beginDay cX2_beginDay 5 none :: gW
abbrev cX4_beginDay : ByteArray := prog_6_method_6_code
def yX4_beginDay : MethodName := ⟨RX4, "beginDay", "()V"⟩
def sX4_beginDay : List Cond := .code yX4_beginDay cX4_beginDay 1 none :: gW
abbrev cX3_beginDay : ByteArray := prog_5_method_10_code
def yX3_beginDay : MethodName := ⟨RX3, "beginDay", "()V"⟩
def sX3_beginDay : List Cond := .code yX3_beginDay cX3_beginDay 1 none :: gW
abbrev cX5_held : ByteArray := prog_1_method_16_code
def yX5_held : MethodName := ⟨RX5, "held", "(II)I"⟩
def sX5_held : List Cond := .code yX5_held cX5_held 3 (some FieldType.int) :: gW
abbrev cX5_book : ByteArray := prog_1_method_17_code
def yX5_book : MethodName := ⟨RX5, "book", "(II)J"⟩
def sX5_book : List Cond := .code yX5_book cX5_book 3 (some FieldType.long) :: gW
abbrev cX0_read : ByteArray := prog_2_method_4_code
def yX0_read : MethodName := ⟨RX0, "read", "(II)J"⟩
def sX0_read : List Cond := .code yX0_read cX0_read 3 (some FieldType.long) :: gW
abbrev cX5_about : ByteArray := prog_1_method_18_code
def yX5_about : MethodName := ⟨RX5, "about", "(II)I"⟩
def sX5_about : List Cond := .code yX5_about cX5_about 3 (some FieldType.int) :: gW
abbrev cX5_aged : ByteArray := prog_1_method_19_code
def yX5_aged : MethodName := ⟨RX5, "aged", "(I)I"⟩
def sX5_aged : List Cond := .code yX5_aged cX5_aged 2 (some FieldType.int) :: gW
abbrev cL_reach : ByteArray := method_3_code
def yL_reach : MethodName := ⟨RL, "reach", "(LRiverDesk;II)I"⟩
def sL_reach : List Cond := .codeWith yL_reach cL_reach 4 (some FieldType.int) [(0, 6, 9, 13), (0, 6, 12, 15), (0, 6, 15, 17)] :: gW
abbrev cX5_reach : ByteArray := prog_1_method_2_code
def yX5_reach : MethodName := ⟨RX5, "reach", "(II)V"⟩
def sX5_reach : List Cond := .code yX5_reach cX5_reach 3 none :: gW
abbrev cX5_checkNumber : ByteArray := prog_1_method_26_code
def yX5_checkNumber : MethodName := ⟨RX5, "checkNumber", "(II)V"⟩
def sX5_checkNumber : List Cond := .code yX5_checkNumber cX5_checkNumber 2 none :: gW
abbrev cX5_checkThere : ByteArray := prog_1_method_27_code
def yX5_checkThere : MethodName := ⟨RX5, "checkThere", "(Z)V"⟩
def sX5_checkThere : List Cond := .code yX5_checkThere cX5_checkThere 1 none :: gW
abbrev cX5_checkFree : ByteArray := prog_1_method_29_code
def yX5_checkFree : MethodName := ⟨RX5, "checkFree", "(Z)V"⟩
def sX5_checkFree : List Cond := .code yX5_checkFree cX5_checkFree 1 none :: gW
abbrev cX4_add : ByteArray := prog_6_method_2_code
def yX4_add : MethodName := ⟨RX4, "add", "(II)V"⟩
def sX4_add : List Cond := .code yX4_add cX4_add 3 none :: gW
abbrev cL_reservoir : ByteArray := method_4_code
def yL_reservoir : MethodName := ⟨RL, "reservoir", "(LRiverDesk;III)I"⟩
def sL_reservoir : List Cond := .codeWith yL_reservoir cL_reservoir 5 (some FieldType.int) [(0, 7, 10, 13), (0, 7, 14, 15), (0, 7, 18, 23), (0, 7, 22, 17)] :: gW
abbrev cX5_reservoir : ByteArray := prog_1_method_3_code
def yX5_reservoir : MethodName := ⟨RX5, "reservoir", "(III)V"⟩
def sX5_reservoir : List Cond := .code yX5_reservoir cX5_reservoir 4 none :: gW
abbrev cX5_checkBetween : ByteArray := prog_1_method_28_code
def yX5_checkBetween : MethodName := ⟨RX5, "checkBetween", "(III)V"⟩
def sX5_checkBetween : List Cond := .code yX5_checkBetween cX5_checkBetween 3 none :: gW
abbrev cX2_add : ByteArray := prog_4_method_2_code
def yX2_add : MethodName := ⟨RX2, "add", "(III)V"⟩
def sX2_add : List Cond := .code yX2_add cX2_add 4 none :: gW
abbrev cL_right : ByteArray := method_5_code
def yL_right : MethodName := ⟨RL, "right", "(LRiverDesk;IIIIII)I"⟩
def sL_right : List Cond := .codeWith yL_right cL_right 8 (some FieldType.int) [(0, 13, 16, 13), (0, 13, 20, 15), (0, 13, 24, 23), (0, 13, 28, 17)] :: gW
abbrev cX5_right : ByteArray := prog_1_method_4_code
def yX5_right : MethodName := ⟨RX5, "right", "(IIIIII)V"⟩
def sX5_right : List Cond := .code yX5_right cX5_right 7 none :: gW
abbrev cX5_checkPath : ByteArray := prog_1_method_25_code
def yX5_checkPath : MethodName := ⟨RX5, "checkPath", "(II)V"⟩
def sX5_checkPath : List Cond := .code yX5_checkPath cX5_checkPath 3 none :: gW
abbrev cX4_leadsTo : ByteArray := prog_6_method_3_code
def yX4_leadsTo : MethodName := ⟨RX4, "leadsTo", "(II)Z"⟩
def sX4_leadsTo : List Cond := .code yX4_leadsTo cX4_leadsTo 5 (some FieldType.boolean) :: gW
abbrev cX3_hasPriority : ByteArray := prog_5_method_6_code
def yX3_hasPriority : MethodName := ⟨RX3, "hasPriority", "(I)Z"⟩
def sX3_hasPriority : List Cond := .code yX3_hasPriority cX3_hasPriority 3 (some FieldType.boolean) :: gW
abbrev cX3_setDirect : ByteArray := prog_5_method_2_code
def yX3_setDirect : MethodName := ⟨RX3, "setDirect", "(III)V"⟩
def sX3_setDirect : List Cond := .code yX3_setDirect cX3_setDirect 4 none :: gW
abbrev cX3_add : ByteArray := prog_5_method_4_code
def yX3_add : MethodName := ⟨RX3, "add", "(IIII)V"⟩
def sX3_add : List Cond := .code yX3_add cX3_add 6 none :: gW
abbrev cL_storage : ByteArray := method_6_code
def yL_storage : MethodName := ⟨RL, "storage", "(LRiverDesk;IIIII)I"⟩
def sL_storage : List Cond := .codeWith yL_storage cL_storage 7 (some FieldType.int) [(0, 11, 14, 13), (0, 11, 18, 15), (0, 11, 22, 23), (0, 11, 26, 17)] :: gW
abbrev cX5_storage : ByteArray := prog_1_method_5_code
def yX5_storage : MethodName := ⟨RX5, "storage", "(IIIII)V"⟩
def sX5_storage : List Cond := .code yX5_storage cX5_storage 6 none :: gW
abbrev cX3_setStorage : ByteArray := prog_5_method_3_code
def yX3_setStorage : MethodName := ⟨RX3, "setStorage", "(II)V"⟩
def sX3_setStorage : List Cond := .code yX3_setStorage cX3_setStorage 3 none :: gW
abbrev cL_drop : ByteArray := method_7_code
def yL_drop : MethodName := ⟨RL, "drop", "(LRiverDesk;I)I"⟩
def sL_drop : List Cond := .codeWith yL_drop cL_drop 3 (some FieldType.int) [(0, 5, 8, 13), (0, 5, 11, 15)] :: gW
abbrev cX5_drop : ByteArray := prog_1_method_6_code
def yX5_drop : MethodName := ⟨RX5, "drop", "(I)V"⟩
def sX5_drop : List Cond := .code yX5_drop cX5_drop 2 none :: gW
abbrev cX5_checkRight : ByteArray := prog_1_method_24_code
def yX5_checkRight : MethodName := ⟨RX5, "checkRight", "(I)V"⟩
def sX5_checkRight : List Cond := .code yX5_checkRight cX5_checkRight 2 none :: gW
abbrev cX3_remove : ByteArray := prog_5_method_5_code
def yX3_remove : MethodName := ⟨RX3, "remove", "(I)V"⟩
def sX3_remove : List Cond := .code yX3_remove cX3_remove 4 none :: gW
abbrev cL_want : ByteArray := method_8_code
def yL_want : MethodName := ⟨RL, "want", "(LRiverDesk;II)I"⟩
def sL_want : List Cond := .codeWith yL_want cL_want 4 (some FieldType.int) [(0, 6, 9, 13), (0, 6, 12, 15), (0, 6, 15, 23)] :: gW
abbrev cX5_want : ByteArray := prog_1_method_7_code
def yX5_want : MethodName := ⟨RX5, "want", "(II)V"⟩
def sX5_want : List Cond := .code yX5_want cX5_want 3 none :: gW
abbrev cL_inflow : ByteArray := method_9_code
def yL_inflow : MethodName := ⟨RL, "inflow", "(LRiverDesk;II)I"⟩
def sL_inflow : List Cond := .codeWith yL_inflow cL_inflow 4 (some FieldType.int) [(0, 6, 9, 13), (0, 6, 12, 15), (0, 6, 15, 23)] :: gW
abbrev cX5_inflow : ByteArray := prog_1_method_8_code
def yX5_inflow : MethodName := ⟨RX5, "inflow", "(II)V"⟩
def sX5_inflow : List Cond := .code yX5_inflow cX5_inflow 3 none :: gW
abbrev cX5_checkReach : ByteArray := prog_1_method_23_code
def yX5_checkReach : MethodName := ⟨RX5, "checkReach", "(I)V"⟩
def sX5_checkReach : List Cond := .code yX5_checkReach cX5_checkReach 2 none :: gW
abbrev cL_release : ByteArray := method_10_code
def yL_release : MethodName := ⟨RL, "release", "(LRiverDesk;III[J)I"⟩
def sL_release : List Cond := .codeWith yL_release cL_release 6 (some FieldType.int) [(0, 12, 15, 13), (0, 12, 19, 15), (0, 12, 23, 23), (0, 12, 27, 17)] :: gW
abbrev cX5_release : ByteArray := prog_1_method_9_code
def yX5_release : MethodName := ⟨RX5, "release", "(III)I"⟩
def sX5_release : List Cond := .code yX5_release cX5_release 4 (some FieldType.int) :: gW
abbrev cX5_checkEnough : ByteArray := prog_1_method_30_code
def yX5_checkEnough : MethodName := ⟨RX5, "checkEnough", "(II)V"⟩
def sX5_checkEnough : List Cond := .code yX5_checkEnough cX5_checkEnough 2 none :: gW
abbrev cX2_letOut : ByteArray := prog_4_method_3_code
def yX2_letOut : MethodName := ⟨RX2, "letOut", "(II)V"⟩
def sX2_letOut : List Cond := .code yX2_letOut cX2_letOut 3 none :: gW
abbrev cX4_send : ByteArray := prog_6_method_4_code
def yX4_send : MethodName := ⟨RX4, "send", "(III)V"⟩
def sX4_send : List Cond := .code yX4_send cX4_send 7 none :: gW
abbrev cL_given : ByteArray := method_11_code
def yL_given : MethodName := ⟨RL, "given", "(LRiverDesk;I[J)I"⟩
def sL_given : List Cond := .codeWith yL_given cL_given 4 (some FieldType.int) [(0, 9, 12, 13), (0, 9, 15, 15)] :: gW
abbrev cX5_given : ByteArray := prog_1_method_11_code
def yX5_given : MethodName := ⟨RX5, "given", "(I)I"⟩
def sX5_given : List Cond := .code yX5_given cX5_given 2 (some FieldType.int) :: gW
abbrev cL_flow : ByteArray := method_12_code
def yL_flow : MethodName := ⟨RL, "flow", "(LRiverDesk;II[J)I"⟩
def sL_flow : List Cond := .codeWith yL_flow cL_flow 5 (some FieldType.int) [(0, 9, 12, 13), (0, 9, 16, 15)] :: gW
abbrev cX5_flow : ByteArray := prog_1_method_12_code
def yX5_flow : MethodName := ⟨RX5, "flow", "(II)J"⟩
def sX5_flow : List Cond := .code yX5_flow cX5_flow 3 (some FieldType.long) :: gW
abbrev cL_call : ByteArray := method_13_code
def yL_call : MethodName := ⟨RL, "call", "(LRiverDesk;I[J)I"⟩
def sL_call : List Cond := .codeWith yL_call cL_call 4 (some FieldType.int) [(0, 9, 12, 13), (0, 9, 15, 15)] :: gW
abbrev cX5_call : ByteArray := prog_1_method_13_code
def yX5_call : MethodName := ⟨RX5, "call", "(I)I"⟩
def sX5_call : List Cond := .code yX5_call cX5_call 3 (some FieldType.int) :: gW
abbrev cX5_oldestThatWouldGetLess : ByteArray := prog_1_method_22_code
def yX5_oldestThatWouldGetLess : MethodName := ⟨RX5, "oldestThatWouldGetLess", "()I"⟩
def sX5_oldestThatWouldGetLess : List Cond := .code yX5_oldestThatWouldGetLess cX5_oldestThatWouldGetLess 3 (some FieldType.int) :: gW
abbrev cL_futile : ByteArray := method_14_code
def yL_futile : MethodName := ⟨RL, "futile", "(LRiverDesk;II[J)I"⟩
def sL_futile : List Cond := .codeWith yL_futile cL_futile 5 (some FieldType.int) [(0, 17, 20, 13), (0, 17, 24, 15)] :: gW
abbrev cX5_futile : ByteArray := prog_1_method_14_code
def yX5_futile : MethodName := ⟨RX5, "futile", "(II)Z"⟩
def sX5_futile : List Cond := .code yX5_futile cX5_futile 3 (some FieldType.boolean) :: gW
abbrev cX6_init : ByteArray := prog_8_method_1_code
def yX6_init : MethodName := ⟨RX6, "<init>", "()V"⟩
def sX6_init : List Cond := .code yX6_init cX6_init 1 none :: gW
abbrev cX6_thrown : ByteArray := prog_8_method_2_code
def yX6_thrown : MethodName := ⟨RX6, "thrown", "()I"⟩
def sX6_thrown : List Cond := .code yX6_thrown cX6_thrown 1 (some FieldType.int) :: gW
abbrev cX6_reach : ByteArray := prog_8_method_5_code
def yX6_reach : MethodName := ⟨RX6, "reach", "(II)V"⟩
def sX6_reach : List Cond := .code yX6_reach cX6_reach 5 none :: gW
abbrev cX6_isNumber : ByteArray := prog_8_method_4_code
def yX6_isNumber : MethodName := ⟨RX6, "isNumber", "(II)Z"⟩
def sX6_isNumber : List Cond := .code yX6_isNumber cX6_isNumber 2 (some FieldType.boolean) :: gW
abbrev cX6_reservoir : ByteArray := prog_8_method_6_code
def yX6_reservoir : MethodName := ⟨RX6, "reservoir", "(III)V"⟩
def sX6_reservoir : List Cond := .code yX6_reservoir cX6_reservoir 4 none :: gW
abbrev cX6_right : ByteArray := prog_8_method_9_code
def yX6_right : MethodName := ⟨RX6, "right", "(IIIIII)V"⟩
def sX6_right : List Cond := .code yX6_right cX6_right 8 none :: gW
abbrev cX6_isOn : ByteArray := prog_8_method_3_code
def yX6_isOn : MethodName := ⟨RX6, "isOn", "(II)Z"⟩
def sX6_isOn : List Cond := .code yX6_isOn cX6_isOn 4 (some FieldType.boolean) :: gW
abbrev cX6_isTaken : ByteArray := prog_8_method_7_code
def yX6_isTaken : MethodName := ⟨RX6, "isTaken", "(II)Z"⟩
def sX6_isTaken : List Cond := .code yX6_isTaken cX6_isTaken 5 (some FieldType.boolean) :: gW
abbrev cX6_lay : ByteArray := prog_8_method_8_code
def yX6_lay : MethodName := ⟨RX6, "lay", "(IIII)V"⟩
def sX6_lay : List Cond := .code yX6_lay cX6_lay 5 none :: gW
abbrev cX6_storage : ByteArray := prog_8_method_10_code
def yX6_storage : MethodName := ⟨RX6, "storage", "(IIIII)V"⟩
def sX6_storage : List Cond := .code yX6_storage cX6_storage 7 none :: gW
abbrev cX6_drop : ByteArray := prog_8_method_13_code
def yX6_drop : MethodName := ⟨RX6, "drop", "(I)V"⟩
def sX6_drop : List Cond := .code yX6_drop cX6_drop 2 none :: gW
abbrev cX6_wrongRight : ByteArray := prog_8_method_11_code
def yX6_wrongRight : MethodName := ⟨RX6, "wrongRight", "(I)I"⟩
def sX6_wrongRight : List Cond := .code yX6_wrongRight cX6_wrongRight 2 (some FieldType.int) :: gW
abbrev cX6_want : ByteArray := prog_8_method_14_code
def yX6_want : MethodName := ⟨RX6, "want", "(II)V"⟩
def sX6_want : List Cond := .code yX6_want cX6_want 3 none :: gW
abbrev cX6_inflow : ByteArray := prog_8_method_15_code
def yX6_inflow : MethodName := ⟨RX6, "inflow", "(II)V"⟩
def sX6_inflow : List Cond := .code yX6_inflow cX6_inflow 3 none :: gW
abbrev cX6_wrongReach : ByteArray := prog_8_method_12_code
def yX6_wrongReach : MethodName := ⟨RX6, "wrongReach", "(I)I"⟩
def sX6_wrongReach : List Cond := .code yX6_wrongReach cX6_wrongReach 2 (some FieldType.int) :: gW
abbrev cX6_release : ByteArray := prog_8_method_16_code
def yX6_release : MethodName := ⟨RX6, "release", "(III)I"⟩
def sX6_release : List Cond := .code yX6_release cX6_release 4 (some FieldType.int) :: gW
abbrev cX6_plan : ByteArray := prog_8_method_23_code
def yX6_plan : MethodName := ⟨RX6, "plan", "()I"⟩
def sX6_plan : List Cond := .code yX6_plan cX6_plan 3 (some FieldType.int) :: gW
abbrev cX6_make : ByteArray := prog_8_method_21_code
def yX6_make : MethodName := ⟨RX6, "make", "(III)Z"⟩
def sX6_make : List Cond := .code yX6_make cX6_make 8 (some FieldType.boolean) :: gW
abbrev cX6_age : ByteArray := prog_8_method_20_code
def yX6_age : MethodName := ⟨RX6, "age", "()V"⟩
def sX6_age : List Cond := .code yX6_age cX6_age 5 none :: gW
abbrev cX6_holdsPlan : ByteArray := prog_8_method_19_code
def yX6_holdsPlan : MethodName := ⟨RX6, "holdsPlan", "(I)Z"⟩
def sX6_holdsPlan : List Cond := .code yX6_holdsPlan cX6_holdsPlan 6 (some FieldType.boolean) :: gW
abbrev cX6_natural : ByteArray := prog_8_method_18_code
def yX6_natural : MethodName := ⟨RX6, "natural", "(I)J"⟩
def sX6_natural : List Cond := .code yX6_natural cX6_natural 5 (some FieldType.long) :: gW
abbrev cX6_returned : ByteArray := prog_8_method_17_code
def yX6_returned : MethodName := ⟨RX6, "returned", "(IJ)J"⟩
def sX6_returned : List Cond := .code yX6_returned cX6_returned 4 (some FieldType.long) :: gW
abbrev cX6_isShort : ByteArray := prog_8_method_22_code
def yX6_isShort : MethodName := ⟨RX6, "isShort", "(I)Z"⟩
def sX6_isShort : List Cond := .code yX6_isShort cX6_isShort 2 (some FieldType.boolean) :: gW
abbrev cX6_given : ByteArray := prog_8_method_24_code
def yX6_given : MethodName := ⟨RX6, "given", "(I)I"⟩
def sX6_given : List Cond := .code yX6_given cX6_given 2 (some FieldType.int) :: gW
abbrev cX6_flow : ByteArray := prog_8_method_25_code
def yX6_flow : MethodName := ⟨RX6, "flow", "(II)J"⟩
def sX6_flow : List Cond := .code yX6_flow cX6_flow 7 (some FieldType.long) :: gW
abbrev cX6_call : ByteArray := prog_8_method_26_code
def yX6_call : MethodName := ⟨RX6, "call", "(I)I"⟩
def sX6_call : List Cond := .code yX6_call cX6_call 3 (some FieldType.int) :: gW
abbrev cX6_futile : ByteArray := prog_8_method_27_code
def yX6_futile : MethodName := ⟨RX6, "futile", "(II)Z"⟩
def sX6_futile : List Cond := .code yX6_futile cX6_futile 4 (some FieldType.boolean) :: gW
abbrev cX6_close : ByteArray := prog_8_method_28_code
def yX6_close : MethodName := ⟨RX6, "close", "()I"⟩
def sX6_close : List Cond := .code yX6_close cX6_close 3 (some FieldType.int) :: gW
abbrev cX6_held : ByteArray := prog_8_method_29_code
def yX6_held : MethodName := ⟨RX6, "held", "(II)I"⟩
def sX6_held : List Cond := .code yX6_held cX6_held 3 (some FieldType.int) :: gW
abbrev cX6_book : ByteArray := prog_8_method_30_code
def yX6_book : MethodName := ⟨RX6, "book", "(II)J"⟩
def sX6_book : List Cond := .code yX6_book cX6_book 3 (some FieldType.long) :: gW
abbrev cX6_about : ByteArray := prog_8_method_31_code
def yX6_about : MethodName := ⟨RX6, "about", "(II)I"⟩
def sX6_about : List Cond := .code yX6_about cX6_about 3 (some FieldType.int) :: gW
abbrev cX6_aged : ByteArray := prog_8_method_32_code
def yX6_aged : MethodName := ⟨RX6, "aged", "(I)I"⟩
def sX6_aged : List Cond := .code yX6_aged cX6_aged 2 (some FieldType.int) :: gW
end
section
theorem w_0 : (Cond.selects "RiverDesk" ⟨"RiverDesk", "settleToday", "()V"⟩ ⟨"RiverDesk", "settleToday", "()V"⟩ : Cond) ∈ gW := gI 0 (by decide +kernel) rfl
theorem w_1 : (Cond.selects "RiverDesk$Plan" ⟨"RiverDesk$Plan", "pour", "(LRiverDesk$River;I)V"⟩ ⟨"RiverDesk$Plan", "pour", "(LRiverDesk$River;I)V"⟩ : Cond) ∈ gW := gI 1 (by decide +kernel) rfl
theorem w_2 : (Cond.selects "RiverDesk" ⟨"RiverDesk", "isShort", "(I)Z"⟩ ⟨"RiverDesk", "isShort", "(I)Z"⟩ : Cond) ∈ gW := gI 2 (by decide +kernel) rfl
theorem w_3 : (Cond.selects "java/lang/Throwable" ⟨"java/lang/Throwable", "fillInStackTrace", "(I)Ljava/lang/Throwable;"⟩ ⟨"java/lang/Throwable", "fillInStackTrace", "(I)Ljava/lang/Throwable;"⟩ : Cond) ∈ gW := gI 3 (by decide +kernel) rfl
theorem w_4 : (Cond.selects "RiverDesk" ⟨"RiverDesk", "checkPath", "(II)V"⟩ ⟨"RiverDesk", "checkPath", "(II)V"⟩ : Cond) ∈ gW := gI 4 (by decide +kernel) rfl
theorem w_5 : (Cond.selects "RiverDesk" ⟨"RiverDesk", "checkRight", "(I)V"⟩ ⟨"RiverDesk", "checkRight", "(I)V"⟩ : Cond) ∈ gW := gI 5 (by decide +kernel) rfl
theorem w_6 : (Cond.selects "RiverDesk" ⟨"RiverDesk", "checkReach", "(I)V"⟩ ⟨"RiverDesk", "checkReach", "(I)V"⟩ : Cond) ∈ gW := gI 6 (by decide +kernel) rfl
theorem w_7 : (Cond.selects "RiverDesk" ⟨"RiverDesk", "oldestThatWouldGetLess", "()I"⟩ ⟨"RiverDesk", "oldestThatWouldGetLess", "()I"⟩ : Cond) ∈ gW := gI 7 (by decide +kernel) rfl
theorem w_8 : (Cond.selects "RiverDeskModel" ⟨"RiverDeskModel", "isOn", "(II)Z"⟩ ⟨"RiverDeskModel", "isOn", "(II)Z"⟩ : Cond) ∈ gW := gI 8 (by decide +kernel) rfl
theorem w_9 : (Cond.selects "RiverDeskModel" ⟨"RiverDeskModel", "isTaken", "(II)Z"⟩ ⟨"RiverDeskModel", "isTaken", "(II)Z"⟩ : Cond) ∈ gW := gI 9 (by decide +kernel) rfl
theorem w_10 : (Cond.selects "RiverDeskModel" ⟨"RiverDeskModel", "lay", "(IIII)V"⟩ ⟨"RiverDeskModel", "lay", "(IIII)V"⟩ : Cond) ∈ gW := gI 10 (by decide +kernel) rfl
theorem w_11 : (Cond.selects "RiverDeskModel" ⟨"RiverDeskModel", "wrongRight", "(I)I"⟩ ⟨"RiverDeskModel", "wrongRight", "(I)I"⟩ : Cond) ∈ gW := gI 11 (by decide +kernel) rfl
theorem w_12 : (Cond.selects "RiverDeskModel" ⟨"RiverDeskModel", "wrongReach", "(I)I"⟩ ⟨"RiverDeskModel", "wrongReach", "(I)I"⟩ : Cond) ∈ gW := gI 12 (by decide +kernel) rfl
theorem w_13 : (Cond.selects "RiverDeskModel" ⟨"RiverDeskModel", "make", "(III)Z"⟩ ⟨"RiverDeskModel", "make", "(III)Z"⟩ : Cond) ∈ gW := gI 13 (by decide +kernel) rfl
theorem w_14 : (Cond.selects "RiverDeskModel" ⟨"RiverDeskModel", "age", "()V"⟩ ⟨"RiverDeskModel", "age", "()V"⟩ : Cond) ∈ gW := gI 14 (by decide +kernel) rfl
theorem w_15 : (Cond.selects "RiverDeskModel" ⟨"RiverDeskModel", "holdsPlan", "(I)Z"⟩ ⟨"RiverDeskModel", "holdsPlan", "(I)Z"⟩ : Cond) ∈ gW := gI 15 (by decide +kernel) rfl
theorem w_16 : (Cond.selects "RiverDeskModel" ⟨"RiverDeskModel", "natural", "(I)J"⟩ ⟨"RiverDeskModel", "natural", "(I)J"⟩ : Cond) ∈ gW := gI 16 (by decide +kernel) rfl
theorem w_17 : (Cond.selects "RiverDeskModel" ⟨"RiverDeskModel", "returned", "(IJ)J"⟩ ⟨"RiverDeskModel", "returned", "(IJ)J"⟩ : Cond) ∈ gW := gI 17 (by decide +kernel) rfl
theorem w_18 : (Cond.selects "RiverDeskModel" ⟨"RiverDeskModel", "isShort", "(I)Z"⟩ ⟨"RiverDeskModel", "isShort", "(I)Z"⟩ : Cond) ∈ gW := gI 18 (by decide +kernel) rfl
theorem w_19 : (Cond.initialized "RiverDeskLaw" : Cond) ∈ gW := gI 19 (by decide +kernel) rfl
theorem w_20 : (Cond.initialized "RiverDesk" : Cond) ∈ gW := gI 20 (by decide +kernel) rfl
theorem w_21 : (Cond.initialized "RiverDesk$River" : Cond) ∈ gW := gI 21 (by decide +kernel) rfl
theorem w_22 : (Cond.initialized "RiverDesk$Reservoirs" : Cond) ∈ gW := gI 22 (by decide +kernel) rfl
theorem w_23 : (Cond.initialized "RiverDesk$Rights" : Cond) ∈ gW := gI 23 (by decide +kernel) rfl
theorem w_24 : (Cond.initialized "RiverDesk$Books" : Cond) ∈ gW := gI 24 (by decide +kernel) rfl
theorem w_25 : (Cond.initialized "RiverDesk$Plan" : Cond) ∈ gW := gI 25 (by decide +kernel) rfl
theorem w_26 : (Cond.initialized "RiverDeskModel" : Cond) ∈ gW := gI 26 (by decide +kernel) rfl
theorem w_27 : (Cond.initialized "java/lang/Throwable" : Cond) ∈ gW := gI 27 (by decide +kernel) rfl
theorem w_28 : (Cond.initialized "java/lang/Exception" : Cond) ∈ gW := gI 28 (by decide +kernel) rfl
theorem w_29 : (Cond.initialized "java/lang/RuntimeException" : Cond) ∈ gW := gI 29 (by decide +kernel) rfl
theorem w_30 : (Cond.initialized "java/lang/IndexOutOfBoundsException" : Cond) ∈ gW := gI 30 (by decide +kernel) rfl
theorem w_31 : (Cond.initialized "java/util/NoSuchElementException" : Cond) ∈ gW := gI 31 (by decide +kernel) rfl
theorem w_32 : (Cond.initialized "java/lang/IllegalStateException" : Cond) ∈ gW := gI 32 (by decide +kernel) rfl
theorem w_33 : (Cond.initialized "java/lang/IllegalArgumentException" : Cond) ∈ gW := gI 33 (by decide +kernel) rfl
theorem w_34 : (Cond.initialized "java/util/Arrays" : Cond) ∈ gW := gI 34 (by decide +kernel) rfl
theorem w_35 : (Cond.initialized "java/lang/Math" : Cond) ∈ gW := gI 35 (by decide +kernel) rfl
theorem w_36 : (Cond.initialized "java/lang/System" : Cond) ∈ gW := gI 36 (by decide +kernel) rfl
theorem w_37 : (Cond.classLink "RiverDeskLaw" 8 "RiverDesk" : Cond) ∈ gW := gI 37 (by decide +kernel) rfl
theorem w_38 : (Cond.instantiable "RiverDesk" 7 : Cond) ∈ gW := gI 38 (by decide +kernel) rfl
theorem w_39 : (Cond.methodLink "RiverDeskLaw" 62 ⟨"RiverDesk", "<init>", "()V"⟩ : Cond) ∈ gW := gI 39 (by decide +kernel) rfl
theorem w_40 : (Cond.instanceMethod ⟨"RiverDesk", "<init>", "()V"⟩ : Cond) ∈ gW := gI 40 (by decide +kernel) rfl
theorem w_41 : (Cond.code ⟨"RiverDesk", "<init>", "()V"⟩ prog_1_method_1_code 1 none : Cond) ∈ gW := gI 41 (by decide +kernel) rfl
theorem w_42 : (Cond.methodLink "RiverDesk" 1 ⟨"java/lang/Object", "<init>", "()V"⟩ : Cond) ∈ gW := gI 42 (by decide +kernel) rfl
theorem w_43 : (Cond.instanceMethod ⟨"java/lang/Object", "<init>", "()V"⟩ : Cond) ∈ gW := gI 43 (by decide +kernel) rfl
theorem w_44 : (Cond.code ⟨"java/lang/Object", "<init>", "()V"⟩ object_method_1_code 1 none : Cond) ∈ gW := gI 44 (by decide +kernel) rfl
theorem w_45 : (Cond.classLink "RiverDesk" 7 "RiverDesk$River" : Cond) ∈ gW := gI 45 (by decide +kernel) rfl
theorem w_46 : (Cond.instantiable "RiverDesk$River" 5 : Cond) ∈ gW := gI 46 (by decide +kernel) rfl
theorem w_48 : (Cond.instanceMethod ⟨"RiverDesk$River", "<init>", "()V"⟩ : Cond) ∈ gW := gI 48 (by decide +kernel) rfl
theorem w_49 : (Cond.code ⟨"RiverDesk$River", "<init>", "()V"⟩ prog_6_method_1_code 1 none : Cond) ∈ gW := gI 49 (by decide +kernel) rfl
theorem w_50 : (Cond.methodLink "RiverDesk$River" 3 ⟨"java/lang/Object", "<init>", "()V"⟩ : Cond) ∈ gW := gI 50 (by decide +kernel) rfl
theorem w_51 : (Cond.fieldLink "RiverDesk$River" 9 "RiverDesk$River" "there" "[Z" : Cond) ∈ gW := gI 51 (by decide +kernel) rfl
theorem w_52 : (Cond.fieldLink "RiverDesk" 55 "RiverDesk$River" "there" "[Z" : Cond) ∈ gW := gI 52 (by decide +kernel) rfl
theorem w_53 : (Cond.fieldLink "RiverDesk$River" 15 "RiverDesk$River" "below" "[I" : Cond) ∈ gW := gI 53 (by decide +kernel) rfl
theorem w_54 : (Cond.fieldLink "RiverDesk$Plan" 48 "RiverDesk$River" "below" "[I" : Cond) ∈ gW := gI 54 (by decide +kernel) rfl
theorem w_55 : (Cond.fieldLink "RiverDesk$River" 19 "RiverDesk$River" "inflows" "[I" : Cond) ∈ gW := gI 55 (by decide +kernel) rfl
theorem w_56 : (Cond.fieldLink "RiverDesk$Plan" 31 "RiverDesk$River" "inflows" "[I" : Cond) ∈ gW := gI 56 (by decide +kernel) rfl
theorem w_57 : (Cond.fieldLink "RiverDesk" 116 "RiverDesk$River" "inflows" "[I" : Cond) ∈ gW := gI 57 (by decide +kernel) rfl
theorem w_58 : (Cond.fieldLink "RiverDesk$River" 22 "RiverDesk$River" "sent" "[J" : Cond) ∈ gW := gI 58 (by decide +kernel) rfl
theorem w_59 : (Cond.fieldLink "RiverDesk" 156 "RiverDesk$River" "sent" "[J" : Cond) ∈ gW := gI 59 (by decide +kernel) rfl
theorem w_60 : (Cond.fieldLink "RiverDesk$River" 26 "RiverDesk$River" "outlet" "I" : Cond) ∈ gW := gI 60 (by decide +kernel) rfl
theorem w_61 : (Cond.fieldLink "RiverDesk" 66 "RiverDesk$River" "outlet" "I" : Cond) ∈ gW := gI 61 (by decide +kernel) rfl
theorem w_62 : (Cond.fieldLink "RiverDesk$Books" 57 "RiverDesk$River" "outlet" "I" : Cond) ∈ gW := gI 62 (by decide +kernel) rfl
theorem w_74 : (Cond.arrayClass FieldType.boolean : Cond) ∈ gW := gI 74 (by decide +kernel) rfl
theorem w_75 : (Cond.arrayClass FieldType.int : Cond) ∈ gW := gI 75 (by decide +kernel) rfl
theorem w_76 : (Cond.arrayClass FieldType.long : Cond) ∈ gW := gI 76 (by decide +kernel) rfl
theorem w_77 : (Cond.classLink "RiverDesk" 16 "RiverDesk$Reservoirs" : Cond) ∈ gW := gI 77 (by decide +kernel) rfl
theorem w_78 : (Cond.instantiable "RiverDesk$Reservoirs" 5 : Cond) ∈ gW := gI 78 (by decide +kernel) rfl
theorem w_80 : (Cond.instanceMethod ⟨"RiverDesk$Reservoirs", "<init>", "()V"⟩ : Cond) ∈ gW := gI 80 (by decide +kernel) rfl
theorem w_81 : (Cond.code ⟨"RiverDesk$Reservoirs", "<init>", "()V"⟩ prog_4_method_1_code 1 none : Cond) ∈ gW := gI 81 (by decide +kernel) rfl
theorem w_82 : (Cond.methodLink "RiverDesk$Reservoirs" 3 ⟨"java/lang/Object", "<init>", "()V"⟩ : Cond) ∈ gW := gI 82 (by decide +kernel) rfl
theorem w_83 : (Cond.fieldLink "RiverDesk$Reservoirs" 9 "RiverDesk$Reservoirs" "there" "[Z" : Cond) ∈ gW := gI 83 (by decide +kernel) rfl
theorem w_84 : (Cond.fieldLink "RiverDesk" 78 "RiverDesk$Reservoirs" "there" "[Z" : Cond) ∈ gW := gI 84 (by decide +kernel) rfl
theorem w_85 : (Cond.fieldLink "RiverDesk$Reservoirs" 15 "RiverDesk$Reservoirs" "reaches" "[I" : Cond) ∈ gW := gI 85 (by decide +kernel) rfl
theorem w_86 : (Cond.fieldLink "RiverDesk" 122 "RiverDesk$Reservoirs" "reaches" "[I" : Cond) ∈ gW := gI 86 (by decide +kernel) rfl
theorem w_87 : (Cond.fieldLink "RiverDesk$Reservoirs" 19 "RiverDesk$Reservoirs" "capacities" "[I" : Cond) ∈ gW := gI 87 (by decide +kernel) rfl
theorem w_88 : (Cond.fieldLink "RiverDesk$Plan" 40 "RiverDesk$Reservoirs" "capacities" "[I" : Cond) ∈ gW := gI 88 (by decide +kernel) rfl
theorem w_89 : (Cond.fieldLink "RiverDesk" 195 "RiverDesk$Reservoirs" "capacities" "[I" : Cond) ∈ gW := gI 89 (by decide +kernel) rfl
theorem w_90 : (Cond.fieldLink "RiverDesk$Reservoirs" 22 "RiverDesk$Reservoirs" "waters" "[I" : Cond) ∈ gW := gI 90 (by decide +kernel) rfl
theorem w_91 : (Cond.fieldLink "RiverDesk$Plan" 45 "RiverDesk$Reservoirs" "waters" "[I" : Cond) ∈ gW := gI 91 (by decide +kernel) rfl
theorem w_92 : (Cond.fieldLink "RiverDesk" 125 "RiverDesk$Reservoirs" "waters" "[I" : Cond) ∈ gW := gI 92 (by decide +kernel) rfl
theorem w_93 : (Cond.fieldLink "RiverDesk$Books" 15 "RiverDesk$Reservoirs" "released" "J" : Cond) ∈ gW := gI 93 (by decide +kernel) rfl
theorem w_94 : (Cond.fieldLink "RiverDesk$Reservoirs" 25 "RiverDesk$Reservoirs" "released" "J" : Cond) ∈ gW := gI 94 (by decide +kernel) rfl
theorem w_106 : (Cond.classLink "RiverDesk" 23 "RiverDesk$Rights" : Cond) ∈ gW := gI 106 (by decide +kernel) rfl
theorem w_107 : (Cond.instantiable "RiverDesk$Rights" 10 : Cond) ∈ gW := gI 107 (by decide +kernel) rfl
theorem w_109 : (Cond.instanceMethod ⟨"RiverDesk$Rights", "<init>", "()V"⟩ : Cond) ∈ gW := gI 109 (by decide +kernel) rfl
theorem w_110 : (Cond.code ⟨"RiverDesk$Rights", "<init>", "()V"⟩ prog_5_method_1_code 1 none : Cond) ∈ gW := gI 110 (by decide +kernel) rfl
theorem w_111 : (Cond.methodLink "RiverDesk$Rights" 3 ⟨"java/lang/Object", "<init>", "()V"⟩ : Cond) ∈ gW := gI 111 (by decide +kernel) rfl
theorem w_112 : (Cond.fieldLink "RiverDesk$Rights" 9 "RiverDesk$Rights" "there" "[Z" : Cond) ∈ gW := gI 112 (by decide +kernel) rfl
theorem w_113 : (Cond.fieldLink "RiverDesk" 85 "RiverDesk$Rights" "there" "[Z" : Cond) ∈ gW := gI 113 (by decide +kernel) rfl
theorem w_114 : (Cond.fieldLink "RiverDesk$Rights" 15 "RiverDesk$Rights" "reaches" "[I" : Cond) ∈ gW := gI 114 (by decide +kernel) rfl
theorem w_115 : (Cond.fieldLink "RiverDesk$Plan" 84 "RiverDesk$Rights" "reaches" "[I" : Cond) ∈ gW := gI 115 (by decide +kernel) rfl
theorem w_116 : (Cond.fieldLink "RiverDesk$Rights" 19 "RiverDesk$Rights" "priorities" "[I" : Cond) ∈ gW := gI 116 (by decide +kernel) rfl
theorem w_117 : (Cond.fieldLink "RiverDesk" 202 "RiverDesk$Rights" "priorities" "[I" : Cond) ∈ gW := gI 117 (by decide +kernel) rfl
theorem w_118 : (Cond.fieldLink "RiverDesk$Rights" 22 "RiverDesk$Rights" "rates" "[I" : Cond) ∈ gW := gI 118 (by decide +kernel) rfl
theorem w_119 : (Cond.fieldLink "RiverDesk" 106 "RiverDesk$Rights" "rates" "[I" : Cond) ∈ gW := gI 119 (by decide +kernel) rfl
theorem w_120 : (Cond.fieldLink "RiverDesk$Rights" 25 "RiverDesk$Rights" "wants" "[I" : Cond) ∈ gW := gI 120 (by decide +kernel) rfl
theorem w_121 : (Cond.fieldLink "RiverDesk$Plan" 68 "RiverDesk$Rights" "wants" "[I" : Cond) ∈ gW := gI 121 (by decide +kernel) rfl
theorem w_122 : (Cond.fieldLink "RiverDesk" 110 "RiverDesk$Rights" "wants" "[I" : Cond) ∈ gW := gI 122 (by decide +kernel) rfl
theorem w_123 : (Cond.fieldLink "RiverDesk$Rights" 28 "RiverDesk$Rights" "shares" "[I" : Cond) ∈ gW := gI 123 (by decide +kernel) rfl
theorem w_124 : (Cond.fieldLink "RiverDesk" 205 "RiverDesk$Rights" "shares" "[I" : Cond) ∈ gW := gI 124 (by decide +kernel) rfl
theorem w_125 : (Cond.fieldLink "RiverDesk$Rights" 31 "RiverDesk$Rights" "returns" "[I" : Cond) ∈ gW := gI 125 (by decide +kernel) rfl
theorem w_126 : (Cond.fieldLink "RiverDesk$Plan" 87 "RiverDesk$Rights" "returns" "[I" : Cond) ∈ gW := gI 126 (by decide +kernel) rfl
theorem w_127 : (Cond.fieldLink "RiverDesk$Rights" 34 "RiverDesk$Rights" "reservoirs" "[I" : Cond) ∈ gW := gI 127 (by decide +kernel) rfl
theorem w_128 : (Cond.fieldLink "RiverDesk$Reservoirs" 42 "RiverDesk$Rights" "reservoirs" "[I" : Cond) ∈ gW := gI 128 (by decide +kernel) rfl
theorem w_129 : (Cond.fieldLink "RiverDesk$Plan" 75 "RiverDesk$Rights" "reservoirs" "[I" : Cond) ∈ gW := gI 129 (by decide +kernel) rfl
theorem w_130 : (Cond.fieldLink "RiverDesk" 208 "RiverDesk$Rights" "reservoirs" "[I" : Cond) ∈ gW := gI 130 (by decide +kernel) rfl
theorem w_131 : (Cond.fieldLink "RiverDesk$Rights" 37 "RiverDesk$Rights" "byAge" "[I" : Cond) ∈ gW := gI 131 (by decide +kernel) rfl
theorem w_132 : (Cond.fieldLink "RiverDesk$Books" 27 "RiverDesk$Rights" "byAge" "[I" : Cond) ∈ gW := gI 132 (by decide +kernel) rfl
theorem w_133 : (Cond.fieldLink "RiverDesk$Reservoirs" 35 "RiverDesk$Rights" "byAge" "[I" : Cond) ∈ gW := gI 133 (by decide +kernel) rfl
theorem w_134 : (Cond.fieldLink "RiverDesk$Plan" 57 "RiverDesk$Rights" "byAge" "[I" : Cond) ∈ gW := gI 134 (by decide +kernel) rfl
theorem w_135 : (Cond.fieldLink "RiverDesk" 143 "RiverDesk$Rights" "byAge" "[I" : Cond) ∈ gW := gI 135 (by decide +kernel) rfl
theorem w_136 : (Cond.fieldLink "RiverDesk$Books" 21 "RiverDesk$Rights" "count" "I" : Cond) ∈ gW := gI 136 (by decide +kernel) rfl
theorem w_137 : (Cond.fieldLink "RiverDesk$Reservoirs" 29 "RiverDesk$Rights" "count" "I" : Cond) ∈ gW := gI 137 (by decide +kernel) rfl
theorem w_138 : (Cond.fieldLink "RiverDesk$Plan" 51 "RiverDesk$Rights" "count" "I" : Cond) ∈ gW := gI 138 (by decide +kernel) rfl
theorem w_139 : (Cond.fieldLink "RiverDesk$Rights" 40 "RiverDesk$Rights" "count" "I" : Cond) ∈ gW := gI 139 (by decide +kernel) rfl
theorem w_140 : (Cond.fieldLink "RiverDesk" 140 "RiverDesk$Rights" "count" "I" : Cond) ∈ gW := gI 140 (by decide +kernel) rfl
theorem w_162 : (Cond.classLink "RiverDesk" 30 "RiverDesk$Books" : Cond) ∈ gW := gI 162 (by decide +kernel) rfl
theorem w_163 : (Cond.instantiable "RiverDesk$Books" 2 : Cond) ∈ gW := gI 163 (by decide +kernel) rfl
theorem w_165 : (Cond.instanceMethod ⟨"RiverDesk$Books", "<init>", "()V"⟩ : Cond) ∈ gW := gI 165 (by decide +kernel) rfl
theorem w_166 : (Cond.code ⟨"RiverDesk$Books", "<init>", "()V"⟩ prog_2_method_1_code 1 none : Cond) ∈ gW := gI 166 (by decide +kernel) rfl
theorem w_167 : (Cond.methodLink "RiverDesk$Books" 3 ⟨"java/lang/Object", "<init>", "()V"⟩ : Cond) ∈ gW := gI 167 (by decide +kernel) rfl
theorem w_168 : (Cond.fieldLink "RiverDesk$Books" 11 "RiverDesk$Books" "entries" "[J" : Cond) ∈ gW := gI 168 (by decide +kernel) rfl
theorem w_169 : (Cond.fieldLink "RiverDesk$Books" 44 "RiverDesk$Books" "day" "I" : Cond) ∈ gW := gI 169 (by decide +kernel) rfl
theorem w_170 : (Cond.fieldLink "RiverDesk" 192 "RiverDesk$Books" "day" "I" : Cond) ∈ gW := gI 170 (by decide +kernel) rfl
theorem w_176 : (Cond.classLink "RiverDesk" 37 "RiverDesk$Plan" : Cond) ∈ gW := gI 176 (by decide +kernel) rfl
theorem w_177 : (Cond.instantiable "RiverDesk$Plan" 3 : Cond) ∈ gW := gI 177 (by decide +kernel) rfl
theorem w_179 : (Cond.instanceMethod ⟨"RiverDesk$Plan", "<init>", "()V"⟩ : Cond) ∈ gW := gI 179 (by decide +kernel) rfl
theorem w_180 : (Cond.code ⟨"RiverDesk$Plan", "<init>", "()V"⟩ prog_3_method_1_code 1 none : Cond) ∈ gW := gI 180 (by decide +kernel) rfl
theorem w_181 : (Cond.methodLink "RiverDesk$Plan" 3 ⟨"java/lang/Object", "<init>", "()V"⟩ : Cond) ∈ gW := gI 181 (by decide +kernel) rfl
theorem w_182 : (Cond.fieldLink "RiverDesk$Plan" 9 "RiverDesk$Plan" "gets" "[I" : Cond) ∈ gW := gI 182 (by decide +kernel) rfl
theorem w_183 : (Cond.fieldLink "RiverDesk$Books" 35 "RiverDesk$Plan" "gets" "[I" : Cond) ∈ gW := gI 183 (by decide +kernel) rfl
theorem w_184 : (Cond.fieldLink "RiverDesk$Reservoirs" 45 "RiverDesk$Plan" "gets" "[I" : Cond) ∈ gW := gI 184 (by decide +kernel) rfl
theorem w_185 : (Cond.fieldLink "RiverDesk" 149 "RiverDesk$Plan" "gets" "[I" : Cond) ∈ gW := gI 185 (by decide +kernel) rfl
theorem w_186 : (Cond.fieldLink "RiverDesk$Plan" 15 "RiverDesk$Plan" "flows" "[J" : Cond) ∈ gW := gI 186 (by decide +kernel) rfl
theorem w_187 : (Cond.fieldLink "RiverDesk$Books" 60 "RiverDesk$Plan" "flows" "[J" : Cond) ∈ gW := gI 187 (by decide +kernel) rfl
theorem w_188 : (Cond.fieldLink "RiverDesk" 152 "RiverDesk$Plan" "flows" "[J" : Cond) ∈ gW := gI 188 (by decide +kernel) rfl
theorem w_189 : (Cond.fieldLink "RiverDesk$Plan" 19 "RiverDesk$Plan" "rooms" "[I" : Cond) ∈ gW := gI 189 (by decide +kernel) rfl
theorem w_197 : (Cond.fieldLink "RiverDesk" 10 "RiverDesk" "river" "LRiverDesk$River;" : Cond) ∈ gW := gI 197 (by decide +kernel) rfl
theorem w_198 : (Cond.fieldLink "RiverDesk" 19 "RiverDesk" "reservoirs" "LRiverDesk$Reservoirs;" : Cond) ∈ gW := gI 198 (by decide +kernel) rfl
theorem w_199 : (Cond.fieldLink "RiverDesk" 26 "RiverDesk" "rights" "LRiverDesk$Rights;" : Cond) ∈ gW := gI 199 (by decide +kernel) rfl
theorem w_200 : (Cond.fieldLink "RiverDesk" 33 "RiverDesk" "books" "LRiverDesk$Books;" : Cond) ∈ gW := gI 200 (by decide +kernel) rfl
theorem w_201 : (Cond.fieldLink "RiverDesk" 40 "RiverDesk" "today" "LRiverDesk$Plan;" : Cond) ∈ gW := gI 201 (by decide +kernel) rfl
theorem w_202 : (Cond.fieldLink "RiverDesk" 44 "RiverDesk" "supposed" "LRiverDesk$Plan;" : Cond) ∈ gW := gI 202 (by decide +kernel) rfl
theorem w_203 : (Cond.fieldLink "RiverDesk" 47 "RiverDesk" "todayIsStale" "Z" : Cond) ∈ gW := gI 203 (by decide +kernel) rfl
theorem w_219 : (Cond.methodLink "RiverDeskLaw" 102 ⟨"RiverDesk", "plan", "()I"⟩ : Cond) ∈ gW := gI 219 (by decide +kernel) rfl
theorem w_220 : (Cond.instanceMethod ⟨"RiverDesk", "plan", "()I"⟩ : Cond) ∈ gW := gI 220 (by decide +kernel) rfl
theorem w_221 : (Cond.selects "RiverDesk" ⟨"RiverDesk", "plan", "()I"⟩ ⟨"RiverDesk", "plan", "()I"⟩ : Cond) ∈ gW := gI 221 (by decide +kernel) rfl
theorem w_222 : (Cond.code ⟨"RiverDesk", "plan", "()I"⟩ prog_1_method_10_code 3 (some FieldType.int) : Cond) ∈ gW := gI 222 (by decide +kernel) rfl
theorem w_223 : (Cond.methodLink "RiverDesk" 137 ⟨"RiverDesk", "settleToday", "()V"⟩ : Cond) ∈ gW := gI 223 (by decide +kernel) rfl
theorem w_225 : (Cond.instanceMethod ⟨"RiverDesk", "settleToday", "()V"⟩ : Cond) ∈ gW := gI 225 (by decide +kernel) rfl
theorem w_226 : (Cond.code ⟨"RiverDesk", "settleToday", "()V"⟩ prog_1_method_20_code 1 none : Cond) ∈ gW := gI 226 (by decide +kernel) rfl
theorem w_227 : (Cond.methodLink "RiverDesk" 161 ⟨"RiverDesk$Plan", "begin", "(LRiverDesk$River;LRiverDesk$Reservoirs;)V"⟩ : Cond) ∈ gW := gI 227 (by decide +kernel) rfl
theorem w_228 : (Cond.instanceMethod ⟨"RiverDesk$Plan", "begin", "(LRiverDesk$River;LRiverDesk$Reservoirs;)V"⟩ : Cond) ∈ gW := gI 228 (by decide +kernel) rfl
theorem w_229 : (Cond.selects "RiverDesk$Plan" ⟨"RiverDesk$Plan", "begin", "(LRiverDesk$River;LRiverDesk$Reservoirs;)V"⟩ ⟨"RiverDesk$Plan", "begin", "(LRiverDesk$River;LRiverDesk$Reservoirs;)V"⟩ : Cond) ∈ gW := gI 229 (by decide +kernel) rfl
theorem w_230 : (Cond.code ⟨"RiverDesk$Plan", "begin", "(LRiverDesk$River;LRiverDesk$Reservoirs;)V"⟩ prog_3_method_2_code 4 none : Cond) ∈ gW := gI 230 (by decide +kernel) rfl
theorem w_231 : (Cond.methodLink "RiverDesk$Plan" 22 ⟨"java/util/Arrays", "fill", "([II)V"⟩ : Cond) ∈ gW := gI 231 (by decide +kernel) rfl
theorem w_232 : (Cond.static ⟨"java/util/Arrays", "fill", "([II)V"⟩ : Cond) ∈ gW := gI 232 (by decide +kernel) rfl
theorem w_233 : (Cond.code ⟨"java/util/Arrays", "fill", "([II)V"⟩ prog_18_method_103_code 4 none : Cond) ∈ gW := gI 233 (by decide +kernel) rfl
theorem w_234 : (Cond.methodLink "RiverDesk$Plan" 28 ⟨"java/util/Arrays", "fill", "([JJ)V"⟩ : Cond) ∈ gW := gI 234 (by decide +kernel) rfl
theorem w_235 : (Cond.static ⟨"java/util/Arrays", "fill", "([JJ)V"⟩ : Cond) ∈ gW := gI 235 (by decide +kernel) rfl
theorem w_236 : (Cond.code ⟨"java/util/Arrays", "fill", "([JJ)V"⟩ prog_18_method_101_code 5 none : Cond) ∈ gW := gI 236 (by decide +kernel) rfl
theorem w_237 : (Cond.methodLink "RiverDesk$Plan" 36 ⟨"RiverDesk$Plan", "pour", "(LRiverDesk$River;I)V"⟩ : Cond) ∈ gW := gI 237 (by decide +kernel) rfl
theorem w_239 : (Cond.instanceMethod ⟨"RiverDesk$Plan", "pour", "(LRiverDesk$River;I)V"⟩ : Cond) ∈ gW := gI 239 (by decide +kernel) rfl
theorem w_240 : (Cond.code ⟨"RiverDesk$Plan", "pour", "(LRiverDesk$River;I)V"⟩ prog_3_method_3_code 5 none : Cond) ∈ gW := gI 240 (by decide +kernel) rfl
theorem w_241 : (Cond.methodLink "RiverDesk" 173 ⟨"RiverDesk$Plan", "giveAllBut", "(LRiverDesk$River;LRiverDesk$Rights;I)V"⟩ : Cond) ∈ gW := gI 241 (by decide +kernel) rfl
theorem w_242 : (Cond.instanceMethod ⟨"RiverDesk$Plan", "giveAllBut", "(LRiverDesk$River;LRiverDesk$Rights;I)V"⟩ : Cond) ∈ gW := gI 242 (by decide +kernel) rfl
theorem w_243 : (Cond.selects "RiverDesk$Plan" ⟨"RiverDesk$Plan", "giveAllBut", "(LRiverDesk$River;LRiverDesk$Rights;I)V"⟩ ⟨"RiverDesk$Plan", "giveAllBut", "(LRiverDesk$River;LRiverDesk$Rights;I)V"⟩ : Cond) ∈ gW := gI 243 (by decide +kernel) rfl
theorem w_244 : (Cond.code ⟨"RiverDesk$Plan", "giveAllBut", "(LRiverDesk$River;LRiverDesk$Rights;I)V"⟩ prog_3_method_4_code 6 none : Cond) ∈ gW := gI 244 (by decide +kernel) rfl
theorem w_245 : (Cond.methodLink "RiverDesk$Plan" 60 ⟨"RiverDesk$Plan", "most", "(LRiverDesk$River;LRiverDesk$Rights;I)I"⟩ : Cond) ∈ gW := gI 245 (by decide +kernel) rfl
theorem w_246 : (Cond.instanceMethod ⟨"RiverDesk$Plan", "most", "(LRiverDesk$River;LRiverDesk$Rights;I)I"⟩ : Cond) ∈ gW := gI 246 (by decide +kernel) rfl
theorem w_247 : (Cond.selects "RiverDesk$Plan" ⟨"RiverDesk$Plan", "most", "(LRiverDesk$River;LRiverDesk$Rights;I)I"⟩ ⟨"RiverDesk$Plan", "most", "(LRiverDesk$River;LRiverDesk$Rights;I)I"⟩ : Cond) ∈ gW := gI 247 (by decide +kernel) rfl
theorem w_248 : (Cond.code ⟨"RiverDesk$Plan", "most", "(LRiverDesk$River;LRiverDesk$Rights;I)I"⟩ prog_3_method_5_code 9 (some FieldType.int) : Cond) ∈ gW := gI 248 (by decide +kernel) rfl
theorem w_249 : (Cond.methodLink "RiverDesk$Plan" 71 ⟨"RiverDesk$Rights", "isStorage", "(I)Z"⟩ : Cond) ∈ gW := gI 249 (by decide +kernel) rfl
theorem w_250 : (Cond.instanceMethod ⟨"RiverDesk$Rights", "isStorage", "(I)Z"⟩ : Cond) ∈ gW := gI 250 (by decide +kernel) rfl
theorem w_251 : (Cond.selects "RiverDesk$Rights" ⟨"RiverDesk$Rights", "isStorage", "(I)Z"⟩ ⟨"RiverDesk$Rights", "isStorage", "(I)Z"⟩ : Cond) ∈ gW := gI 251 (by decide +kernel) rfl
theorem w_252 : (Cond.code ⟨"RiverDesk$Rights", "isStorage", "(I)Z"⟩ prog_5_method_7_code 2 (some FieldType.boolean) : Cond) ∈ gW := gI 252 (by decide +kernel) rfl
theorem w_253 : (Cond.methodLink "RiverDesk$Plan" 78 ⟨"java/lang/Math", "min", "(JJ)J"⟩ : Cond) ∈ gW := gI 253 (by decide +kernel) rfl
theorem w_254 : (Cond.static ⟨"java/lang/Math", "min", "(JJ)J"⟩ : Cond) ∈ gW := gI 254 (by decide +kernel) rfl
theorem w_255 : (Cond.code ⟨"java/lang/Math", "min", "(JJ)J"⟩ prog_13_method_70_code 4 (some FieldType.long) : Cond) ∈ gW := gI 255 (by decide +kernel) rfl
theorem w_256 : (Cond.methodLink "RiverDesk$Plan" 90 ⟨"RiverDesk$Rights", "mostForUse", "(IJ)J"⟩ : Cond) ∈ gW := gI 256 (by decide +kernel) rfl
theorem w_257 : (Cond.instanceMethod ⟨"RiverDesk$Rights", "mostForUse", "(IJ)J"⟩ : Cond) ∈ gW := gI 257 (by decide +kernel) rfl
theorem w_258 : (Cond.selects "RiverDesk$Rights" ⟨"RiverDesk$Rights", "mostForUse", "(IJ)J"⟩ ⟨"RiverDesk$Rights", "mostForUse", "(IJ)J"⟩ : Cond) ∈ gW := gI 258 (by decide +kernel) rfl
theorem w_259 : (Cond.code ⟨"RiverDesk$Rights", "mostForUse", "(IJ)J"⟩ prog_5_method_9_code 5 (some FieldType.long) : Cond) ∈ gW := gI 259 (by decide +kernel) rfl
theorem w_260 : (Cond.constantLong "RiverDesk$Rights" 46 1000000000 : Cond) ∈ gW := gI 260 (by decide +kernel) rfl
theorem w_261 : (Cond.constantLong "RiverDesk$Rights" 44 1000 : Cond) ∈ gW := gI 261 (by decide +kernel) rfl
theorem w_262 : (Cond.methodLink "RiverDesk$Plan" 64 ⟨"RiverDesk$Plan", "give", "(LRiverDesk$River;LRiverDesk$Rights;II)V"⟩ : Cond) ∈ gW := gI 262 (by decide +kernel) rfl
theorem w_263 : (Cond.instanceMethod ⟨"RiverDesk$Plan", "give", "(LRiverDesk$River;LRiverDesk$Rights;II)V"⟩ : Cond) ∈ gW := gI 263 (by decide +kernel) rfl
theorem w_264 : (Cond.selects "RiverDesk$Plan" ⟨"RiverDesk$Plan", "give", "(LRiverDesk$River;LRiverDesk$Rights;II)V"⟩ ⟨"RiverDesk$Plan", "give", "(LRiverDesk$River;LRiverDesk$Rights;II)V"⟩ : Cond) ∈ gW := gI 264 (by decide +kernel) rfl
theorem w_265 : (Cond.code ⟨"RiverDesk$Plan", "give", "(LRiverDesk$River;LRiverDesk$Rights;II)V"⟩ prog_3_method_6_code 8 none : Cond) ∈ gW := gI 265 (by decide +kernel) rfl
theorem w_266 : (Cond.methodLink "RiverDesk$Plan" 94 ⟨"RiverDesk$Rights", "usedOf", "(II)J"⟩ : Cond) ∈ gW := gI 266 (by decide +kernel) rfl
theorem w_267 : (Cond.instanceMethod ⟨"RiverDesk$Rights", "usedOf", "(II)J"⟩ : Cond) ∈ gW := gI 267 (by decide +kernel) rfl
theorem w_268 : (Cond.selects "RiverDesk$Rights" ⟨"RiverDesk$Rights", "usedOf", "(II)J"⟩ ⟨"RiverDesk$Rights", "usedOf", "(II)J"⟩ : Cond) ∈ gW := gI 268 (by decide +kernel) rfl
theorem w_269 : (Cond.code ⟨"RiverDesk$Rights", "usedOf", "(II)J"⟩ prog_5_method_8_code 3 (some FieldType.long) : Cond) ∈ gW := gI 269 (by decide +kernel) rfl
theorem w_270 : (Cond.methodLink "RiverDesk" 146 ⟨"RiverDesk", "isShort", "(I)Z"⟩ : Cond) ∈ gW := gI 270 (by decide +kernel) rfl
theorem w_272 : (Cond.instanceMethod ⟨"RiverDesk", "isShort", "(I)Z"⟩ : Cond) ∈ gW := gI 272 (by decide +kernel) rfl
theorem w_273 : (Cond.code ⟨"RiverDesk", "isShort", "(I)Z"⟩ prog_1_method_21_code 2 (some FieldType.boolean) : Cond) ∈ gW := gI 273 (by decide +kernel) rfl
theorem w_274 : (Cond.methodLink "RiverDeskLaw" 120 ⟨"RiverDesk", "close", "()I"⟩ : Cond) ∈ gW := gI 274 (by decide +kernel) rfl
theorem w_275 : (Cond.instanceMethod ⟨"RiverDesk", "close", "()I"⟩ : Cond) ∈ gW := gI 275 (by decide +kernel) rfl
theorem w_276 : (Cond.selects "RiverDesk" ⟨"RiverDesk", "close", "()I"⟩ ⟨"RiverDesk", "close", "()I"⟩ : Cond) ∈ gW := gI 276 (by decide +kernel) rfl
theorem w_277 : (Cond.code ⟨"RiverDesk", "close", "()I"⟩ prog_1_method_15_code 1 (some FieldType.int) : Cond) ∈ gW := gI 277 (by decide +kernel) rfl
theorem w_278 : (Cond.methodLink "RiverDesk" 181 ⟨"RiverDesk$Books", "write", "(LRiverDesk$River;LRiverDesk$Reservoirs;LRiverDesk$Rights;LRiverDesk$Plan;)V"⟩ : Cond) ∈ gW := gI 278 (by decide +kernel) rfl
theorem w_279 : (Cond.instanceMethod ⟨"RiverDesk$Books", "write", "(LRiverDesk$River;LRiverDesk$Reservoirs;LRiverDesk$Rights;LRiverDesk$Plan;)V"⟩ : Cond) ∈ gW := gI 279 (by decide +kernel) rfl
theorem w_280 : (Cond.selects "RiverDesk$Books" ⟨"RiverDesk$Books", "write", "(LRiverDesk$River;LRiverDesk$Reservoirs;LRiverDesk$Rights;LRiverDesk$Plan;)V"⟩ ⟨"RiverDesk$Books", "write", "(LRiverDesk$River;LRiverDesk$Reservoirs;LRiverDesk$Rights;LRiverDesk$Plan;)V"⟩ : Cond) ∈ gW := gI 280 (by decide +kernel) rfl
theorem w_281 : (Cond.code ⟨"RiverDesk$Books", "write", "(LRiverDesk$River;LRiverDesk$Reservoirs;LRiverDesk$Rights;LRiverDesk$Plan;)V"⟩ prog_2_method_2_code 11 none : Cond) ∈ gW := gI 281 (by decide +kernel) rfl
theorem w_282 : (Cond.methodLink "RiverDesk$Books" 31 ⟨"RiverDesk$Rights", "isStorage", "(I)Z"⟩ : Cond) ∈ gW := gI 282 (by decide +kernel) rfl
theorem w_283 : (Cond.methodLink "RiverDesk$Books" 40 ⟨"RiverDesk$Rights", "usedOf", "(II)J"⟩ : Cond) ∈ gW := gI 283 (by decide +kernel) rfl
theorem w_284 : (Cond.methodLink "RiverDesk$Books" 47 ⟨"RiverDesk$Books", "pageOf", "(I)I"⟩ : Cond) ∈ gW := gI 284 (by decide +kernel) rfl
theorem w_285 : (Cond.static ⟨"RiverDesk$Books", "pageOf", "(I)I"⟩ : Cond) ∈ gW := gI 285 (by decide +kernel) rfl
theorem w_286 : (Cond.code ⟨"RiverDesk$Books", "pageOf", "(I)I"⟩ prog_2_method_3_code 1 (some FieldType.int) : Cond) ∈ gW := gI 286 (by decide +kernel) rfl
theorem w_287 : (Cond.methodLink "RiverDesk$Books" 63 ⟨"java/lang/Math", "floorMod", "(II)I"⟩ : Cond) ∈ gW := gI 287 (by decide +kernel) rfl
theorem w_288 : (Cond.static ⟨"java/lang/Math", "floorMod", "(II)I"⟩ : Cond) ∈ gW := gI 288 (by decide +kernel) rfl
theorem w_289 : (Cond.code ⟨"java/lang/Math", "floorMod", "(II)I"⟩ prog_13_method_50_code 3 (some FieldType.int) : Cond) ∈ gW := gI 289 (by decide +kernel) rfl
theorem w_290 : (Cond.methodLink "RiverDesk$Books" 51 ⟨"RiverDesk$River", "allInflow", "()J"⟩ : Cond) ∈ gW := gI 290 (by decide +kernel) rfl
theorem w_291 : (Cond.instanceMethod ⟨"RiverDesk$River", "allInflow", "()J"⟩ : Cond) ∈ gW := gI 291 (by decide +kernel) rfl
theorem w_292 : (Cond.selects "RiverDesk$River" ⟨"RiverDesk$River", "allInflow", "()J"⟩ ⟨"RiverDesk$River", "allInflow", "()J"⟩ : Cond) ∈ gW := gI 292 (by decide +kernel) rfl
theorem w_293 : (Cond.code ⟨"RiverDesk$River", "allInflow", "()J"⟩ prog_6_method_5_code 4 (some FieldType.long) : Cond) ∈ gW := gI 293 (by decide +kernel) rfl
theorem w_294 : (Cond.methodLink "RiverDesk" 185 ⟨"RiverDesk$Reservoirs", "beginDay", "(LRiverDesk$Rights;LRiverDesk$Plan;)V"⟩ : Cond) ∈ gW := gI 294 (by decide +kernel) rfl
theorem w_295 : (Cond.instanceMethod ⟨"RiverDesk$Reservoirs", "beginDay", "(LRiverDesk$Rights;LRiverDesk$Plan;)V"⟩ : Cond) ∈ gW := gI 295 (by decide +kernel) rfl
theorem w_296 : (Cond.selects "RiverDesk$Reservoirs" ⟨"RiverDesk$Reservoirs", "beginDay", "(LRiverDesk$Rights;LRiverDesk$Plan;)V"⟩ ⟨"RiverDesk$Reservoirs", "beginDay", "(LRiverDesk$Rights;LRiverDesk$Plan;)V"⟩ : Cond) ∈ gW := gI 296 (by decide +kernel) rfl
theorem w_297 : (Cond.code ⟨"RiverDesk$Reservoirs", "beginDay", "(LRiverDesk$Rights;LRiverDesk$Plan;)V"⟩ prog_4_method_4_code 5 none : Cond) ∈ gW := gI 297 (by decide +kernel) rfl
theorem w_298 : (Cond.methodLink "RiverDesk$Reservoirs" 38 ⟨"RiverDesk$Rights", "isStorage", "(I)Z"⟩ : Cond) ∈ gW := gI 298 (by decide +kernel) rfl
theorem w_299 : (Cond.methodLink "RiverDesk" 189 ⟨"RiverDesk$River", "beginDay", "()V"⟩ : Cond) ∈ gW := gI 299 (by decide +kernel) rfl
theorem w_300 : (Cond.instanceMethod ⟨"RiverDesk$River", "beginDay", "()V"⟩ : Cond) ∈ gW := gI 300 (by decide +kernel) rfl
theorem w_301 : (Cond.selects "RiverDesk$River" ⟨"RiverDesk$River", "beginDay", "()V"⟩ ⟨"RiverDesk$River", "beginDay", "()V"⟩ : Cond) ∈ gW := gI 301 (by decide +kernel) rfl
theorem w_302 : (Cond.code ⟨"RiverDesk$River", "beginDay", "()V"⟩ prog_6_method_6_code 1 none : Cond) ∈ gW := gI 302 (by decide +kernel) rfl
theorem w_303 : (Cond.methodLink "RiverDesk$River" 30 ⟨"java/util/Arrays", "fill", "([II)V"⟩ : Cond) ∈ gW := gI 303 (by decide +kernel) rfl
theorem w_304 : (Cond.methodLink "RiverDesk$River" 36 ⟨"java/util/Arrays", "fill", "([JJ)V"⟩ : Cond) ∈ gW := gI 304 (by decide +kernel) rfl
theorem w_305 : (Cond.methodLink "RiverDesk" 191 ⟨"RiverDesk$Rights", "beginDay", "()V"⟩ : Cond) ∈ gW := gI 305 (by decide +kernel) rfl
theorem w_306 : (Cond.instanceMethod ⟨"RiverDesk$Rights", "beginDay", "()V"⟩ : Cond) ∈ gW := gI 306 (by decide +kernel) rfl
theorem w_307 : (Cond.selects "RiverDesk$Rights" ⟨"RiverDesk$Rights", "beginDay", "()V"⟩ ⟨"RiverDesk$Rights", "beginDay", "()V"⟩ : Cond) ∈ gW := gI 307 (by decide +kernel) rfl
theorem w_308 : (Cond.code ⟨"RiverDesk$Rights", "beginDay", "()V"⟩ prog_5_method_10_code 1 none : Cond) ∈ gW := gI 308 (by decide +kernel) rfl
theorem w_309 : (Cond.methodLink "RiverDesk$Rights" 48 ⟨"java/lang/System", "arraycopy", "(Ljava/lang/Object;ILjava/lang/Object;II)V"⟩ : Cond) ∈ gW := gI 309 (by decide +kernel) rfl
theorem w_310 : (Cond.static ⟨"java/lang/System", "arraycopy", "(Ljava/lang/Object;ILjava/lang/Object;II)V"⟩ : Cond) ∈ gW := gI 310 (by decide +kernel) rfl
theorem w_311 : (Cond.native ⟨"java/lang/System", "arraycopy", "(Ljava/lang/Object;ILjava/lang/Object;II)V"⟩ : Cond) ∈ gW := gI 311 (by decide +kernel) rfl
theorem w_312 : (Cond.methodLink "RiverDeskLaw" 124 ⟨"RiverDesk", "held", "(II)I"⟩ : Cond) ∈ gW := gI 312 (by decide +kernel) rfl
theorem w_313 : (Cond.instanceMethod ⟨"RiverDesk", "held", "(II)I"⟩ : Cond) ∈ gW := gI 313 (by decide +kernel) rfl
theorem w_314 : (Cond.selects "RiverDesk" ⟨"RiverDesk", "held", "(II)I"⟩ ⟨"RiverDesk", "held", "(II)I"⟩ : Cond) ∈ gW := gI 314 (by decide +kernel) rfl
theorem w_315 : (Cond.code ⟨"RiverDesk", "held", "(II)I"⟩ prog_1_method_16_code 3 (some FieldType.int) : Cond) ∈ gW := gI 315 (by decide +kernel) rfl
theorem w_316 : (Cond.methodLink "RiverDeskLaw" 129 ⟨"RiverDesk", "book", "(II)J"⟩ : Cond) ∈ gW := gI 316 (by decide +kernel) rfl
theorem w_317 : (Cond.instanceMethod ⟨"RiverDesk", "book", "(II)J"⟩ : Cond) ∈ gW := gI 317 (by decide +kernel) rfl
theorem w_318 : (Cond.selects "RiverDesk" ⟨"RiverDesk", "book", "(II)J"⟩ ⟨"RiverDesk", "book", "(II)J"⟩ : Cond) ∈ gW := gI 318 (by decide +kernel) rfl
theorem w_319 : (Cond.code ⟨"RiverDesk", "book", "(II)J"⟩ prog_1_method_17_code 3 (some FieldType.long) : Cond) ∈ gW := gI 319 (by decide +kernel) rfl
theorem w_320 : (Cond.methodLink "RiverDesk" 198 ⟨"RiverDesk$Books", "read", "(II)J"⟩ : Cond) ∈ gW := gI 320 (by decide +kernel) rfl
theorem w_321 : (Cond.instanceMethod ⟨"RiverDesk$Books", "read", "(II)J"⟩ : Cond) ∈ gW := gI 321 (by decide +kernel) rfl
theorem w_322 : (Cond.selects "RiverDesk$Books" ⟨"RiverDesk$Books", "read", "(II)J"⟩ ⟨"RiverDesk$Books", "read", "(II)J"⟩ : Cond) ∈ gW := gI 322 (by decide +kernel) rfl
theorem w_323 : (Cond.code ⟨"RiverDesk$Books", "read", "(II)J"⟩ prog_2_method_4_code 3 (some FieldType.long) : Cond) ∈ gW := gI 323 (by decide +kernel) rfl
theorem w_324 : (Cond.constantLong "RiverDesk$Books" 69 (-1) : Cond) ∈ gW := gI 324 (by decide +kernel) rfl
theorem w_325 : (Cond.methodLink "RiverDeskLaw" 133 ⟨"RiverDesk", "about", "(II)I"⟩ : Cond) ∈ gW := gI 325 (by decide +kernel) rfl
theorem w_326 : (Cond.instanceMethod ⟨"RiverDesk", "about", "(II)I"⟩ : Cond) ∈ gW := gI 326 (by decide +kernel) rfl
theorem w_327 : (Cond.selects "RiverDesk" ⟨"RiverDesk", "about", "(II)I"⟩ ⟨"RiverDesk", "about", "(II)I"⟩ : Cond) ∈ gW := gI 327 (by decide +kernel) rfl
theorem w_328 : (Cond.code ⟨"RiverDesk", "about", "(II)I"⟩ prog_1_method_18_code 3 (some FieldType.int) : Cond) ∈ gW := gI 328 (by decide +kernel) rfl
theorem w_329 : (Cond.methodLink "RiverDeskLaw" 137 ⟨"RiverDesk", "aged", "(I)I"⟩ : Cond) ∈ gW := gI 329 (by decide +kernel) rfl
theorem w_330 : (Cond.instanceMethod ⟨"RiverDesk", "aged", "(I)I"⟩ : Cond) ∈ gW := gI 330 (by decide +kernel) rfl
theorem w_331 : (Cond.selects "RiverDesk" ⟨"RiverDesk", "aged", "(I)I"⟩ ⟨"RiverDesk", "aged", "(I)I"⟩ : Cond) ∈ gW := gI 331 (by decide +kernel) rfl
theorem w_332 : (Cond.code ⟨"RiverDesk", "aged", "(I)I"⟩ prog_1_method_19_code 2 (some FieldType.int) : Cond) ∈ gW := gI 332 (by decide +kernel) rfl
theorem w_333 : (Cond.methodLink "RiverDeskLaw" 66 ⟨"RiverDeskLaw", "reach", "(LRiverDesk;II)I"⟩ : Cond) ∈ gW := gI 333 (by decide +kernel) rfl
theorem w_334 : (Cond.static ⟨"RiverDeskLaw", "reach", "(LRiverDesk;II)I"⟩ : Cond) ∈ gW := gI 334 (by decide +kernel) rfl
theorem w_335 : (Cond.codeWith ⟨"RiverDeskLaw", "reach", "(LRiverDesk;II)I"⟩ method_3_code 4 (some FieldType.int) [(0, 6, 9, 13), (0, 6, 12, 15), (0, 6, 15, 17)] : Cond) ∈ gW := gI 335 (by decide +kernel) rfl
theorem w_336 : (Cond.classLink "RiverDeskLaw" 13 "java/lang/IndexOutOfBoundsException" : Cond) ∈ gW := gI 336 (by decide +kernel) rfl
theorem w_337 : (Cond.classLink "RiverDeskLaw" 15 "java/util/NoSuchElementException" : Cond) ∈ gW := gI 337 (by decide +kernel) rfl
theorem w_338 : (Cond.classLink "RiverDeskLaw" 17 "java/lang/IllegalStateException" : Cond) ∈ gW := gI 338 (by decide +kernel) rfl
theorem w_339 : (Cond.methodLink "RiverDeskLaw" 7 ⟨"RiverDesk", "reach", "(II)V"⟩ : Cond) ∈ gW := gI 339 (by decide +kernel) rfl
theorem w_340 : (Cond.instanceMethod ⟨"RiverDesk", "reach", "(II)V"⟩ : Cond) ∈ gW := gI 340 (by decide +kernel) rfl
theorem w_341 : (Cond.selects "RiverDesk" ⟨"RiverDesk", "reach", "(II)V"⟩ ⟨"RiverDesk", "reach", "(II)V"⟩ : Cond) ∈ gW := gI 341 (by decide +kernel) rfl
theorem w_342 : (Cond.code ⟨"RiverDesk", "reach", "(II)V"⟩ prog_1_method_2_code 3 none : Cond) ∈ gW := gI 342 (by decide +kernel) rfl
theorem w_343 : (Cond.methodLink "RiverDesk" 51 ⟨"RiverDesk", "checkNumber", "(II)V"⟩ : Cond) ∈ gW := gI 343 (by decide +kernel) rfl
theorem w_344 : (Cond.static ⟨"RiverDesk", "checkNumber", "(II)V"⟩ : Cond) ∈ gW := gI 344 (by decide +kernel) rfl
theorem w_345 : (Cond.code ⟨"RiverDesk", "checkNumber", "(II)V"⟩ prog_1_method_26_code 2 none : Cond) ∈ gW := gI 345 (by decide +kernel) rfl
theorem w_346 : (Cond.classLink "RiverDesk" 221 "java/lang/IndexOutOfBoundsException" : Cond) ∈ gW := gI 346 (by decide +kernel) rfl
theorem w_347 : (Cond.instantiable "java/lang/IndexOutOfBoundsException" 6 : Cond) ∈ gW := gI 347 (by decide +kernel) rfl
theorem w_355 : (Cond.selects "java/lang/IndexOutOfBoundsException" ⟨"java/lang/Throwable", "fillInStackTrace", "(I)Ljava/lang/Throwable;"⟩ ⟨"java/lang/Throwable", "fillInStackTrace", "(I)Ljava/lang/Throwable;"⟩ : Cond) ∈ gW := gI 355 (by decide +kernel) rfl
theorem w_356 : (Cond.selects "java/lang/IndexOutOfBoundsException" ⟨"java/lang/Throwable", "fillInStackTrace", "()Ljava/lang/Throwable;"⟩ ⟨"java/lang/Throwable", "fillInStackTrace", "()Ljava/lang/Throwable;"⟩ : Cond) ∈ gW := gI 356 (by decide +kernel) rfl
theorem w_367 : (Cond.fieldLink "java/lang/Throwable" 198 "java/lang/Throwable" "backtrace" "Ljava/lang/Object;" : Cond) ∈ gW := gI 367 (by decide +kernel) rfl
theorem w_369 : (Cond.instanceMethod ⟨"java/lang/Throwable", "<init>", "()V"⟩ : Cond) ∈ gW := gI 369 (by decide +kernel) rfl
theorem w_370 : (Cond.code ⟨"java/lang/Throwable", "<init>", "()V"⟩ prog_17_method_1_code 1 none : Cond) ∈ gW := gI 370 (by decide +kernel) rfl
theorem w_371 : (Cond.methodLink "java/lang/Throwable" 1 ⟨"java/lang/Object", "<init>", "()V"⟩ : Cond) ∈ gW := gI 371 (by decide +kernel) rfl
theorem w_372 : (Cond.fieldLink "java/lang/Throwable" 13 "java/lang/Throwable" "UNASSIGNED_STACK" "[Ljava/lang/StackTraceElement;" : Cond) ∈ gW := gI 372 (by decide +kernel) rfl
theorem w_374 : (Cond.fieldLink "java/lang/Throwable" 20 "java/lang/Throwable" "SUPPRESSED_SENTINEL" "Ljava/util/List;" : Cond) ∈ gW := gI 374 (by decide +kernel) rfl
theorem w_376 : (Cond.methodLink "java/lang/Throwable" 27 ⟨"java/lang/Throwable", "fillInStackTrace", "()Ljava/lang/Throwable;"⟩ : Cond) ∈ gW := gI 376 (by decide +kernel) rfl
theorem w_377 : (Cond.instanceMethod ⟨"java/lang/Throwable", "fillInStackTrace", "()Ljava/lang/Throwable;"⟩ : Cond) ∈ gW := gI 377 (by decide +kernel) rfl
theorem w_379 : (Cond.selects "java/lang/IllegalArgumentException" ⟨"java/lang/Throwable", "fillInStackTrace", "()Ljava/lang/Throwable;"⟩ ⟨"java/lang/Throwable", "fillInStackTrace", "()Ljava/lang/Throwable;"⟩ : Cond) ∈ gW := gI 379 (by decide +kernel) rfl
theorem w_380 : (Cond.selects "java/lang/IllegalStateException" ⟨"java/lang/Throwable", "fillInStackTrace", "()Ljava/lang/Throwable;"⟩ ⟨"java/lang/Throwable", "fillInStackTrace", "()Ljava/lang/Throwable;"⟩ : Cond) ∈ gW := gI 380 (by decide +kernel) rfl
theorem w_381 : (Cond.selects "java/util/NoSuchElementException" ⟨"java/lang/Throwable", "fillInStackTrace", "()Ljava/lang/Throwable;"⟩ ⟨"java/lang/Throwable", "fillInStackTrace", "()Ljava/lang/Throwable;"⟩ : Cond) ∈ gW := gI 381 (by decide +kernel) rfl
theorem w_383 : (Cond.methodLink "java/lang/Throwable" 202 ⟨"java/lang/Throwable", "fillInStackTrace", "(I)Ljava/lang/Throwable;"⟩ : Cond) ∈ gW := gI 383 (by decide +kernel) rfl
theorem w_385 : (Cond.instanceMethod ⟨"java/lang/Throwable", "fillInStackTrace", "(I)Ljava/lang/Throwable;"⟩ : Cond) ∈ gW := gI 385 (by decide +kernel) rfl
theorem w_386 : (Cond.instantiable "java/lang/Throwable" 6 : Cond) ∈ gW := gI 386 (by decide +kernel) rfl
theorem w_387 : (Cond.native ⟨"java/lang/Throwable", "fillInStackTrace", "(I)Ljava/lang/Throwable;"⟩ : Cond) ∈ gW := gI 387 (by decide +kernel) rfl
theorem w_389 : (Cond.methodLink "RiverDesk" 225 ⟨"java/lang/IndexOutOfBoundsException", "<init>", "(Ljava/lang/String;)V"⟩ : Cond) ∈ gW := gI 389 (by decide +kernel) rfl
theorem w_390 : (Cond.instanceMethod ⟨"java/lang/IndexOutOfBoundsException", "<init>", "(Ljava/lang/String;)V"⟩ : Cond) ∈ gW := gI 390 (by decide +kernel) rfl
theorem w_391 : (Cond.code ⟨"java/lang/IndexOutOfBoundsException", "<init>", "(Ljava/lang/String;)V"⟩ prog_12_method_2_code 2 none : Cond) ∈ gW := gI 391 (by decide +kernel) rfl
theorem w_392 : (Cond.methodLink "java/lang/IndexOutOfBoundsException" 7 ⟨"java/lang/RuntimeException", "<init>", "(Ljava/lang/String;)V"⟩ : Cond) ∈ gW := gI 392 (by decide +kernel) rfl
theorem w_393 : (Cond.instanceMethod ⟨"java/lang/RuntimeException", "<init>", "(Ljava/lang/String;)V"⟩ : Cond) ∈ gW := gI 393 (by decide +kernel) rfl
theorem w_394 : (Cond.code ⟨"java/lang/RuntimeException", "<init>", "(Ljava/lang/String;)V"⟩ prog_14_method_2_code 2 none : Cond) ∈ gW := gI 394 (by decide +kernel) rfl
theorem w_395 : (Cond.methodLink "java/lang/RuntimeException" 7 ⟨"java/lang/Exception", "<init>", "(Ljava/lang/String;)V"⟩ : Cond) ∈ gW := gI 395 (by decide +kernel) rfl
theorem w_396 : (Cond.instanceMethod ⟨"java/lang/Exception", "<init>", "(Ljava/lang/String;)V"⟩ : Cond) ∈ gW := gI 396 (by decide +kernel) rfl
theorem w_397 : (Cond.code ⟨"java/lang/Exception", "<init>", "(Ljava/lang/String;)V"⟩ prog_9_method_2_code 2 none : Cond) ∈ gW := gI 397 (by decide +kernel) rfl
theorem w_398 : (Cond.methodLink "java/lang/Exception" 7 ⟨"java/lang/Throwable", "<init>", "(Ljava/lang/String;)V"⟩ : Cond) ∈ gW := gI 398 (by decide +kernel) rfl
theorem w_399 : (Cond.instanceMethod ⟨"java/lang/Throwable", "<init>", "(Ljava/lang/String;)V"⟩ : Cond) ∈ gW := gI 399 (by decide +kernel) rfl
theorem w_400 : (Cond.code ⟨"java/lang/Throwable", "<init>", "(Ljava/lang/String;)V"⟩ prog_17_method_2_code 2 none : Cond) ∈ gW := gI 400 (by decide +kernel) rfl
theorem w_402 : (Cond.fieldLink "java/lang/Throwable" 31 "java/lang/Throwable" "detailMessage" "Ljava/lang/String;" : Cond) ∈ gW := gI 402 (by decide +kernel) rfl
theorem w_403 : (Cond.fieldLink "java/lang/Throwable" 7 "java/lang/Throwable" "cause" "Ljava/lang/Throwable;" : Cond) ∈ gW := gI 403 (by decide +kernel) rfl
theorem w_404 : (Cond.fieldLink "java/lang/Throwable" 17 "java/lang/Throwable" "stackTrace" "[Ljava/lang/StackTraceElement;" : Cond) ∈ gW := gI 404 (by decide +kernel) rfl
theorem w_405 : (Cond.fieldLink "java/lang/Throwable" 24 "java/lang/Throwable" "suppressedExceptions" "Ljava/util/List;" : Cond) ∈ gW := gI 405 (by decide +kernel) rfl
theorem w_414 : (Cond.arrayClass FieldType.byte : Cond) ∈ gW := gI 414 (by decide +kernel) rfl
theorem w_415 : (Cond.methodLink "RiverDesk" 59 ⟨"RiverDesk", "checkThere", "(Z)V"⟩ : Cond) ∈ gW := gI 415 (by decide +kernel) rfl
theorem w_416 : (Cond.static ⟨"RiverDesk", "checkThere", "(Z)V"⟩ : Cond) ∈ gW := gI 416 (by decide +kernel) rfl
theorem w_417 : (Cond.code ⟨"RiverDesk", "checkThere", "(Z)V"⟩ prog_1_method_27_code 1 none : Cond) ∈ gW := gI 417 (by decide +kernel) rfl
theorem w_418 : (Cond.classLink "RiverDesk" 226 "java/util/NoSuchElementException" : Cond) ∈ gW := gI 418 (by decide +kernel) rfl
theorem w_419 : (Cond.instantiable "java/util/NoSuchElementException" 6 : Cond) ∈ gW := gI 419 (by decide +kernel) rfl
theorem w_421 : (Cond.selects "java/util/NoSuchElementException" ⟨"java/lang/Throwable", "fillInStackTrace", "(I)Ljava/lang/Throwable;"⟩ ⟨"java/lang/Throwable", "fillInStackTrace", "(I)Ljava/lang/Throwable;"⟩ : Cond) ∈ gW := gI 421 (by decide +kernel) rfl
theorem w_428 : (Cond.methodLink "RiverDesk" 230 ⟨"java/util/NoSuchElementException", "<init>", "(Ljava/lang/String;)V"⟩ : Cond) ∈ gW := gI 428 (by decide +kernel) rfl
theorem w_429 : (Cond.instanceMethod ⟨"java/util/NoSuchElementException", "<init>", "(Ljava/lang/String;)V"⟩ : Cond) ∈ gW := gI 429 (by decide +kernel) rfl
theorem w_430 : (Cond.code ⟨"java/util/NoSuchElementException", "<init>", "(Ljava/lang/String;)V"⟩ prog_19_method_4_code 2 none : Cond) ∈ gW := gI 430 (by decide +kernel) rfl
theorem w_431 : (Cond.methodLink "java/util/NoSuchElementException" 13 ⟨"java/lang/RuntimeException", "<init>", "(Ljava/lang/String;)V"⟩ : Cond) ∈ gW := gI 431 (by decide +kernel) rfl
theorem w_434 : (Cond.methodLink "RiverDesk" 63 ⟨"RiverDesk", "checkFree", "(Z)V"⟩ : Cond) ∈ gW := gI 434 (by decide +kernel) rfl
theorem w_435 : (Cond.static ⟨"RiverDesk", "checkFree", "(Z)V"⟩ : Cond) ∈ gW := gI 435 (by decide +kernel) rfl
theorem w_436 : (Cond.code ⟨"RiverDesk", "checkFree", "(Z)V"⟩ prog_1_method_29_code 1 none : Cond) ∈ gW := gI 436 (by decide +kernel) rfl
theorem w_437 : (Cond.classLink "RiverDesk" 233 "java/lang/IllegalStateException" : Cond) ∈ gW := gI 437 (by decide +kernel) rfl
theorem w_438 : (Cond.instantiable "java/lang/IllegalStateException" 6 : Cond) ∈ gW := gI 438 (by decide +kernel) rfl
theorem w_440 : (Cond.selects "java/lang/IllegalStateException" ⟨"java/lang/Throwable", "fillInStackTrace", "(I)Ljava/lang/Throwable;"⟩ ⟨"java/lang/Throwable", "fillInStackTrace", "(I)Ljava/lang/Throwable;"⟩ : Cond) ∈ gW := gI 440 (by decide +kernel) rfl
theorem w_447 : (Cond.methodLink "RiverDesk" 237 ⟨"java/lang/IllegalStateException", "<init>", "(Ljava/lang/String;)V"⟩ : Cond) ∈ gW := gI 447 (by decide +kernel) rfl
theorem w_448 : (Cond.instanceMethod ⟨"java/lang/IllegalStateException", "<init>", "(Ljava/lang/String;)V"⟩ : Cond) ∈ gW := gI 448 (by decide +kernel) rfl
theorem w_449 : (Cond.code ⟨"java/lang/IllegalStateException", "<init>", "(Ljava/lang/String;)V"⟩ prog_11_method_2_code 2 none : Cond) ∈ gW := gI 449 (by decide +kernel) rfl
theorem w_450 : (Cond.methodLink "java/lang/IllegalStateException" 7 ⟨"java/lang/RuntimeException", "<init>", "(Ljava/lang/String;)V"⟩ : Cond) ∈ gW := gI 450 (by decide +kernel) rfl
theorem w_453 : (Cond.methodLink "RiverDesk" 70 ⟨"RiverDesk$River", "add", "(II)V"⟩ : Cond) ∈ gW := gI 453 (by decide +kernel) rfl
theorem w_454 : (Cond.instanceMethod ⟨"RiverDesk$River", "add", "(II)V"⟩ : Cond) ∈ gW := gI 454 (by decide +kernel) rfl
theorem w_455 : (Cond.selects "RiverDesk$River" ⟨"RiverDesk$River", "add", "(II)V"⟩ ⟨"RiverDesk$River", "add", "(II)V"⟩ : Cond) ∈ gW := gI 455 (by decide +kernel) rfl
theorem w_456 : (Cond.code ⟨"RiverDesk$River", "add", "(II)V"⟩ prog_6_method_2_code 3 none : Cond) ∈ gW := gI 456 (by decide +kernel) rfl
theorem w_457 : (Cond.methodLink "RiverDeskLaw" 76 ⟨"RiverDeskLaw", "reservoir", "(LRiverDesk;III)I"⟩ : Cond) ∈ gW := gI 457 (by decide +kernel) rfl
theorem w_458 : (Cond.static ⟨"RiverDeskLaw", "reservoir", "(LRiverDesk;III)I"⟩ : Cond) ∈ gW := gI 458 (by decide +kernel) rfl
theorem w_459 : (Cond.codeWith ⟨"RiverDeskLaw", "reservoir", "(LRiverDesk;III)I"⟩ method_4_code 5 (some FieldType.int) [(0, 7, 10, 13), (0, 7, 14, 15), (0, 7, 18, 23), (0, 7, 22, 17)] : Cond) ∈ gW := gI 459 (by decide +kernel) rfl
theorem w_460 : (Cond.classLink "RiverDeskLaw" 23 "java/lang/IllegalArgumentException" : Cond) ∈ gW := gI 460 (by decide +kernel) rfl
theorem w_461 : (Cond.methodLink "RiverDeskLaw" 19 ⟨"RiverDesk", "reservoir", "(III)V"⟩ : Cond) ∈ gW := gI 461 (by decide +kernel) rfl
theorem w_462 : (Cond.instanceMethod ⟨"RiverDesk", "reservoir", "(III)V"⟩ : Cond) ∈ gW := gI 462 (by decide +kernel) rfl
theorem w_463 : (Cond.selects "RiverDesk" ⟨"RiverDesk", "reservoir", "(III)V"⟩ ⟨"RiverDesk", "reservoir", "(III)V"⟩ : Cond) ∈ gW := gI 463 (by decide +kernel) rfl
theorem w_464 : (Cond.code ⟨"RiverDesk", "reservoir", "(III)V"⟩ prog_1_method_3_code 4 none : Cond) ∈ gW := gI 464 (by decide +kernel) rfl
theorem w_465 : (Cond.constant "RiverDesk" 73 1000000000 : Cond) ∈ gW := gI 465 (by decide +kernel) rfl
theorem w_466 : (Cond.methodLink "RiverDesk" 74 ⟨"RiverDesk", "checkBetween", "(III)V"⟩ : Cond) ∈ gW := gI 466 (by decide +kernel) rfl
theorem w_467 : (Cond.static ⟨"RiverDesk", "checkBetween", "(III)V"⟩ : Cond) ∈ gW := gI 467 (by decide +kernel) rfl
theorem w_468 : (Cond.code ⟨"RiverDesk", "checkBetween", "(III)V"⟩ prog_1_method_28_code 3 none : Cond) ∈ gW := gI 468 (by decide +kernel) rfl
theorem w_469 : (Cond.classLink "RiverDesk" 214 "java/lang/IllegalArgumentException" : Cond) ∈ gW := gI 469 (by decide +kernel) rfl
theorem w_470 : (Cond.instantiable "java/lang/IllegalArgumentException" 6 : Cond) ∈ gW := gI 470 (by decide +kernel) rfl
theorem w_472 : (Cond.selects "java/lang/IllegalArgumentException" ⟨"java/lang/Throwable", "fillInStackTrace", "(I)Ljava/lang/Throwable;"⟩ ⟨"java/lang/Throwable", "fillInStackTrace", "(I)Ljava/lang/Throwable;"⟩ : Cond) ∈ gW := gI 472 (by decide +kernel) rfl
theorem w_479 : (Cond.methodLink "RiverDesk" 218 ⟨"java/lang/IllegalArgumentException", "<init>", "(Ljava/lang/String;)V"⟩ : Cond) ∈ gW := gI 479 (by decide +kernel) rfl
theorem w_480 : (Cond.instanceMethod ⟨"java/lang/IllegalArgumentException", "<init>", "(Ljava/lang/String;)V"⟩ : Cond) ∈ gW := gI 480 (by decide +kernel) rfl
theorem w_481 : (Cond.code ⟨"java/lang/IllegalArgumentException", "<init>", "(Ljava/lang/String;)V"⟩ prog_10_method_2_code 2 none : Cond) ∈ gW := gI 481 (by decide +kernel) rfl
theorem w_482 : (Cond.methodLink "java/lang/IllegalArgumentException" 7 ⟨"java/lang/RuntimeException", "<init>", "(Ljava/lang/String;)V"⟩ : Cond) ∈ gW := gI 482 (by decide +kernel) rfl
theorem w_485 : (Cond.methodLink "RiverDesk" 79 ⟨"RiverDesk$Reservoirs", "add", "(III)V"⟩ : Cond) ∈ gW := gI 485 (by decide +kernel) rfl
theorem w_486 : (Cond.instanceMethod ⟨"RiverDesk$Reservoirs", "add", "(III)V"⟩ : Cond) ∈ gW := gI 486 (by decide +kernel) rfl
theorem w_487 : (Cond.selects "RiverDesk$Reservoirs" ⟨"RiverDesk$Reservoirs", "add", "(III)V"⟩ ⟨"RiverDesk$Reservoirs", "add", "(III)V"⟩ : Cond) ∈ gW := gI 487 (by decide +kernel) rfl
theorem w_488 : (Cond.code ⟨"RiverDesk$Reservoirs", "add", "(III)V"⟩ prog_4_method_2_code 4 none : Cond) ∈ gW := gI 488 (by decide +kernel) rfl
theorem w_489 : (Cond.methodLink "RiverDeskLaw" 80 ⟨"RiverDeskLaw", "right", "(LRiverDesk;IIIIII)I"⟩ : Cond) ∈ gW := gI 489 (by decide +kernel) rfl
theorem w_490 : (Cond.static ⟨"RiverDeskLaw", "right", "(LRiverDesk;IIIIII)I"⟩ : Cond) ∈ gW := gI 490 (by decide +kernel) rfl
theorem w_491 : (Cond.codeWith ⟨"RiverDeskLaw", "right", "(LRiverDesk;IIIIII)I"⟩ method_5_code 8 (some FieldType.int) [(0, 13, 16, 13), (0, 13, 20, 15), (0, 13, 24, 23), (0, 13, 28, 17)] : Cond) ∈ gW := gI 491 (by decide +kernel) rfl
theorem w_492 : (Cond.methodLink "RiverDeskLaw" 25 ⟨"RiverDesk", "right", "(IIIIII)V"⟩ : Cond) ∈ gW := gI 492 (by decide +kernel) rfl
theorem w_493 : (Cond.instanceMethod ⟨"RiverDesk", "right", "(IIIIII)V"⟩ : Cond) ∈ gW := gI 493 (by decide +kernel) rfl
theorem w_494 : (Cond.selects "RiverDesk" ⟨"RiverDesk", "right", "(IIIIII)V"⟩ ⟨"RiverDesk", "right", "(IIIIII)V"⟩ : Cond) ∈ gW := gI 494 (by decide +kernel) rfl
theorem w_495 : (Cond.code ⟨"RiverDesk", "right", "(IIIIII)V"⟩ prog_1_method_4_code 7 none : Cond) ∈ gW := gI 495 (by decide +kernel) rfl
theorem w_496 : (Cond.constant "RiverDesk" 81 1000000 : Cond) ∈ gW := gI 496 (by decide +kernel) rfl
theorem w_497 : (Cond.methodLink "RiverDesk" 82 ⟨"RiverDesk", "checkPath", "(II)V"⟩ : Cond) ∈ gW := gI 497 (by decide +kernel) rfl
theorem w_499 : (Cond.instanceMethod ⟨"RiverDesk", "checkPath", "(II)V"⟩ : Cond) ∈ gW := gI 499 (by decide +kernel) rfl
theorem w_500 : (Cond.code ⟨"RiverDesk", "checkPath", "(II)V"⟩ prog_1_method_25_code 3 none : Cond) ∈ gW := gI 500 (by decide +kernel) rfl
theorem w_501 : (Cond.methodLink "RiverDesk" 210 ⟨"RiverDesk$River", "leadsTo", "(II)Z"⟩ : Cond) ∈ gW := gI 501 (by decide +kernel) rfl
theorem w_502 : (Cond.instanceMethod ⟨"RiverDesk$River", "leadsTo", "(II)Z"⟩ : Cond) ∈ gW := gI 502 (by decide +kernel) rfl
theorem w_503 : (Cond.selects "RiverDesk$River" ⟨"RiverDesk$River", "leadsTo", "(II)Z"⟩ ⟨"RiverDesk$River", "leadsTo", "(II)Z"⟩ : Cond) ∈ gW := gI 503 (by decide +kernel) rfl
theorem w_504 : (Cond.code ⟨"RiverDesk$River", "leadsTo", "(II)Z"⟩ prog_6_method_3_code 5 (some FieldType.boolean) : Cond) ∈ gW := gI 504 (by decide +kernel) rfl
theorem w_506 : (Cond.methodLink "RiverDesk" 86 ⟨"RiverDesk$Rights", "hasPriority", "(I)Z"⟩ : Cond) ∈ gW := gI 506 (by decide +kernel) rfl
theorem w_507 : (Cond.instanceMethod ⟨"RiverDesk$Rights", "hasPriority", "(I)Z"⟩ : Cond) ∈ gW := gI 507 (by decide +kernel) rfl
theorem w_508 : (Cond.selects "RiverDesk$Rights" ⟨"RiverDesk$Rights", "hasPriority", "(I)Z"⟩ ⟨"RiverDesk$Rights", "hasPriority", "(I)Z"⟩ : Cond) ∈ gW := gI 508 (by decide +kernel) rfl
theorem w_509 : (Cond.code ⟨"RiverDesk$Rights", "hasPriority", "(I)Z"⟩ prog_5_method_6_code 3 (some FieldType.boolean) : Cond) ∈ gW := gI 509 (by decide +kernel) rfl
theorem w_510 : (Cond.methodLink "RiverDesk" 90 ⟨"RiverDesk$Rights", "setDirect", "(III)V"⟩ : Cond) ∈ gW := gI 510 (by decide +kernel) rfl
theorem w_511 : (Cond.instanceMethod ⟨"RiverDesk$Rights", "setDirect", "(III)V"⟩ : Cond) ∈ gW := gI 511 (by decide +kernel) rfl
theorem w_512 : (Cond.selects "RiverDesk$Rights" ⟨"RiverDesk$Rights", "setDirect", "(III)V"⟩ ⟨"RiverDesk$Rights", "setDirect", "(III)V"⟩ : Cond) ∈ gW := gI 512 (by decide +kernel) rfl
theorem w_513 : (Cond.code ⟨"RiverDesk$Rights", "setDirect", "(III)V"⟩ prog_5_method_2_code 4 none : Cond) ∈ gW := gI 513 (by decide +kernel) rfl
theorem w_514 : (Cond.methodLink "RiverDesk" 93 ⟨"RiverDesk$Rights", "add", "(IIII)V"⟩ : Cond) ∈ gW := gI 514 (by decide +kernel) rfl
theorem w_515 : (Cond.instanceMethod ⟨"RiverDesk$Rights", "add", "(IIII)V"⟩ : Cond) ∈ gW := gI 515 (by decide +kernel) rfl
theorem w_516 : (Cond.selects "RiverDesk$Rights" ⟨"RiverDesk$Rights", "add", "(IIII)V"⟩ ⟨"RiverDesk$Rights", "add", "(IIII)V"⟩ : Cond) ∈ gW := gI 516 (by decide +kernel) rfl
theorem w_517 : (Cond.code ⟨"RiverDesk$Rights", "add", "(IIII)V"⟩ prog_5_method_4_code 6 none : Cond) ∈ gW := gI 517 (by decide +kernel) rfl
theorem w_518 : (Cond.methodLink "RiverDeskLaw" 84 ⟨"RiverDeskLaw", "storage", "(LRiverDesk;IIIII)I"⟩ : Cond) ∈ gW := gI 518 (by decide +kernel) rfl
theorem w_519 : (Cond.static ⟨"RiverDeskLaw", "storage", "(LRiverDesk;IIIII)I"⟩ : Cond) ∈ gW := gI 519 (by decide +kernel) rfl
theorem w_520 : (Cond.codeWith ⟨"RiverDeskLaw", "storage", "(LRiverDesk;IIIII)I"⟩ method_6_code 7 (some FieldType.int) [(0, 11, 14, 13), (0, 11, 18, 15), (0, 11, 22, 23), (0, 11, 26, 17)] : Cond) ∈ gW := gI 520 (by decide +kernel) rfl
theorem w_521 : (Cond.methodLink "RiverDeskLaw" 29 ⟨"RiverDesk", "storage", "(IIIII)V"⟩ : Cond) ∈ gW := gI 521 (by decide +kernel) rfl
theorem w_522 : (Cond.instanceMethod ⟨"RiverDesk", "storage", "(IIIII)V"⟩ : Cond) ∈ gW := gI 522 (by decide +kernel) rfl
theorem w_523 : (Cond.selects "RiverDesk" ⟨"RiverDesk", "storage", "(IIIII)V"⟩ ⟨"RiverDesk", "storage", "(IIIII)V"⟩ : Cond) ∈ gW := gI 523 (by decide +kernel) rfl
theorem w_524 : (Cond.code ⟨"RiverDesk", "storage", "(IIIII)V"⟩ prog_1_method_5_code 6 none : Cond) ∈ gW := gI 524 (by decide +kernel) rfl
theorem w_525 : (Cond.methodLink "RiverDesk" 96 ⟨"RiverDesk$Rights", "setStorage", "(II)V"⟩ : Cond) ∈ gW := gI 525 (by decide +kernel) rfl
theorem w_526 : (Cond.instanceMethod ⟨"RiverDesk$Rights", "setStorage", "(II)V"⟩ : Cond) ∈ gW := gI 526 (by decide +kernel) rfl
theorem w_527 : (Cond.selects "RiverDesk$Rights" ⟨"RiverDesk$Rights", "setStorage", "(II)V"⟩ ⟨"RiverDesk$Rights", "setStorage", "(II)V"⟩ : Cond) ∈ gW := gI 527 (by decide +kernel) rfl
theorem w_528 : (Cond.code ⟨"RiverDesk$Rights", "setStorage", "(II)V"⟩ prog_5_method_3_code 3 none : Cond) ∈ gW := gI 528 (by decide +kernel) rfl
theorem w_529 : (Cond.methodLink "RiverDeskLaw" 88 ⟨"RiverDeskLaw", "drop", "(LRiverDesk;I)I"⟩ : Cond) ∈ gW := gI 529 (by decide +kernel) rfl
theorem w_530 : (Cond.static ⟨"RiverDeskLaw", "drop", "(LRiverDesk;I)I"⟩ : Cond) ∈ gW := gI 530 (by decide +kernel) rfl
theorem w_531 : (Cond.codeWith ⟨"RiverDeskLaw", "drop", "(LRiverDesk;I)I"⟩ method_7_code 3 (some FieldType.int) [(0, 5, 8, 13), (0, 5, 11, 15)] : Cond) ∈ gW := gI 531 (by decide +kernel) rfl
theorem w_532 : (Cond.methodLink "RiverDeskLaw" 33 ⟨"RiverDesk", "drop", "(I)V"⟩ : Cond) ∈ gW := gI 532 (by decide +kernel) rfl
theorem w_533 : (Cond.instanceMethod ⟨"RiverDesk", "drop", "(I)V"⟩ : Cond) ∈ gW := gI 533 (by decide +kernel) rfl
theorem w_534 : (Cond.selects "RiverDesk" ⟨"RiverDesk", "drop", "(I)V"⟩ ⟨"RiverDesk", "drop", "(I)V"⟩ : Cond) ∈ gW := gI 534 (by decide +kernel) rfl
theorem w_535 : (Cond.code ⟨"RiverDesk", "drop", "(I)V"⟩ prog_1_method_6_code 2 none : Cond) ∈ gW := gI 535 (by decide +kernel) rfl
theorem w_536 : (Cond.methodLink "RiverDesk" 99 ⟨"RiverDesk", "checkRight", "(I)V"⟩ : Cond) ∈ gW := gI 536 (by decide +kernel) rfl
theorem w_538 : (Cond.instanceMethod ⟨"RiverDesk", "checkRight", "(I)V"⟩ : Cond) ∈ gW := gI 538 (by decide +kernel) rfl
theorem w_539 : (Cond.code ⟨"RiverDesk", "checkRight", "(I)V"⟩ prog_1_method_24_code 2 none : Cond) ∈ gW := gI 539 (by decide +kernel) rfl
theorem w_540 : (Cond.methodLink "RiverDesk" 103 ⟨"RiverDesk$Rights", "remove", "(I)V"⟩ : Cond) ∈ gW := gI 540 (by decide +kernel) rfl
theorem w_541 : (Cond.instanceMethod ⟨"RiverDesk$Rights", "remove", "(I)V"⟩ : Cond) ∈ gW := gI 541 (by decide +kernel) rfl
theorem w_542 : (Cond.selects "RiverDesk$Rights" ⟨"RiverDesk$Rights", "remove", "(I)V"⟩ ⟨"RiverDesk$Rights", "remove", "(I)V"⟩ : Cond) ∈ gW := gI 542 (by decide +kernel) rfl
theorem w_543 : (Cond.code ⟨"RiverDesk$Rights", "remove", "(I)V"⟩ prog_5_method_5_code 4 none : Cond) ∈ gW := gI 543 (by decide +kernel) rfl
theorem w_544 : (Cond.methodLink "RiverDeskLaw" 92 ⟨"RiverDeskLaw", "want", "(LRiverDesk;II)I"⟩ : Cond) ∈ gW := gI 544 (by decide +kernel) rfl
theorem w_545 : (Cond.static ⟨"RiverDeskLaw", "want", "(LRiverDesk;II)I"⟩ : Cond) ∈ gW := gI 545 (by decide +kernel) rfl
theorem w_546 : (Cond.codeWith ⟨"RiverDeskLaw", "want", "(LRiverDesk;II)I"⟩ method_8_code 4 (some FieldType.int) [(0, 6, 9, 13), (0, 6, 12, 15), (0, 6, 15, 23)] : Cond) ∈ gW := gI 546 (by decide +kernel) rfl
theorem w_547 : (Cond.methodLink "RiverDeskLaw" 37 ⟨"RiverDesk", "want", "(II)V"⟩ : Cond) ∈ gW := gI 547 (by decide +kernel) rfl
theorem w_548 : (Cond.instanceMethod ⟨"RiverDesk", "want", "(II)V"⟩ : Cond) ∈ gW := gI 548 (by decide +kernel) rfl
theorem w_549 : (Cond.selects "RiverDesk" ⟨"RiverDesk", "want", "(II)V"⟩ ⟨"RiverDesk", "want", "(II)V"⟩ : Cond) ∈ gW := gI 549 (by decide +kernel) rfl
theorem w_550 : (Cond.code ⟨"RiverDesk", "want", "(II)V"⟩ prog_1_method_7_code 3 none : Cond) ∈ gW := gI 550 (by decide +kernel) rfl
theorem w_551 : (Cond.methodLink "RiverDeskLaw" 95 ⟨"RiverDeskLaw", "inflow", "(LRiverDesk;II)I"⟩ : Cond) ∈ gW := gI 551 (by decide +kernel) rfl
theorem w_552 : (Cond.static ⟨"RiverDeskLaw", "inflow", "(LRiverDesk;II)I"⟩ : Cond) ∈ gW := gI 552 (by decide +kernel) rfl
theorem w_553 : (Cond.codeWith ⟨"RiverDeskLaw", "inflow", "(LRiverDesk;II)I"⟩ method_9_code 4 (some FieldType.int) [(0, 6, 9, 13), (0, 6, 12, 15), (0, 6, 15, 23)] : Cond) ∈ gW := gI 553 (by decide +kernel) rfl
theorem w_554 : (Cond.methodLink "RiverDeskLaw" 40 ⟨"RiverDesk", "inflow", "(II)V"⟩ : Cond) ∈ gW := gI 554 (by decide +kernel) rfl
theorem w_555 : (Cond.instanceMethod ⟨"RiverDesk", "inflow", "(II)V"⟩ : Cond) ∈ gW := gI 555 (by decide +kernel) rfl
theorem w_556 : (Cond.selects "RiverDesk" ⟨"RiverDesk", "inflow", "(II)V"⟩ ⟨"RiverDesk", "inflow", "(II)V"⟩ : Cond) ∈ gW := gI 556 (by decide +kernel) rfl
theorem w_557 : (Cond.code ⟨"RiverDesk", "inflow", "(II)V"⟩ prog_1_method_8_code 3 none : Cond) ∈ gW := gI 557 (by decide +kernel) rfl
theorem w_558 : (Cond.methodLink "RiverDesk" 113 ⟨"RiverDesk", "checkReach", "(I)V"⟩ : Cond) ∈ gW := gI 558 (by decide +kernel) rfl
theorem w_560 : (Cond.instanceMethod ⟨"RiverDesk", "checkReach", "(I)V"⟩ : Cond) ∈ gW := gI 560 (by decide +kernel) rfl
theorem w_561 : (Cond.code ⟨"RiverDesk", "checkReach", "(I)V"⟩ prog_1_method_23_code 2 none : Cond) ∈ gW := gI 561 (by decide +kernel) rfl
theorem w_562 : (Cond.methodLink "RiverDeskLaw" 98 ⟨"RiverDeskLaw", "release", "(LRiverDesk;III[J)I"⟩ : Cond) ∈ gW := gI 562 (by decide +kernel) rfl
theorem w_563 : (Cond.static ⟨"RiverDeskLaw", "release", "(LRiverDesk;III[J)I"⟩ : Cond) ∈ gW := gI 563 (by decide +kernel) rfl
theorem w_564 : (Cond.codeWith ⟨"RiverDeskLaw", "release", "(LRiverDesk;III[J)I"⟩ method_10_code 6 (some FieldType.int) [(0, 12, 15, 13), (0, 12, 19, 15), (0, 12, 23, 23), (0, 12, 27, 17)] : Cond) ∈ gW := gI 564 (by decide +kernel) rfl
theorem w_565 : (Cond.methodLink "RiverDeskLaw" 43 ⟨"RiverDesk", "release", "(III)I"⟩ : Cond) ∈ gW := gI 565 (by decide +kernel) rfl
theorem w_566 : (Cond.instanceMethod ⟨"RiverDesk", "release", "(III)I"⟩ : Cond) ∈ gW := gI 566 (by decide +kernel) rfl
theorem w_567 : (Cond.selects "RiverDesk" ⟨"RiverDesk", "release", "(III)I"⟩ ⟨"RiverDesk", "release", "(III)I"⟩ : Cond) ∈ gW := gI 567 (by decide +kernel) rfl
theorem w_568 : (Cond.code ⟨"RiverDesk", "release", "(III)I"⟩ prog_1_method_9_code 4 (some FieldType.int) : Cond) ∈ gW := gI 568 (by decide +kernel) rfl
theorem w_569 : (Cond.constant "RiverDesk" 121 2147483647 : Cond) ∈ gW := gI 569 (by decide +kernel) rfl
theorem w_570 : (Cond.methodLink "RiverDesk" 128 ⟨"RiverDesk", "checkEnough", "(II)V"⟩ : Cond) ∈ gW := gI 570 (by decide +kernel) rfl
theorem w_571 : (Cond.static ⟨"RiverDesk", "checkEnough", "(II)V"⟩ : Cond) ∈ gW := gI 571 (by decide +kernel) rfl
theorem w_572 : (Cond.code ⟨"RiverDesk", "checkEnough", "(II)V"⟩ prog_1_method_30_code 2 none : Cond) ∈ gW := gI 572 (by decide +kernel) rfl
theorem w_574 : (Cond.methodLink "RiverDesk" 131 ⟨"RiverDesk$Reservoirs", "letOut", "(II)V"⟩ : Cond) ∈ gW := gI 574 (by decide +kernel) rfl
theorem w_575 : (Cond.instanceMethod ⟨"RiverDesk$Reservoirs", "letOut", "(II)V"⟩ : Cond) ∈ gW := gI 575 (by decide +kernel) rfl
theorem w_576 : (Cond.selects "RiverDesk$Reservoirs" ⟨"RiverDesk$Reservoirs", "letOut", "(II)V"⟩ ⟨"RiverDesk$Reservoirs", "letOut", "(II)V"⟩ : Cond) ∈ gW := gI 576 (by decide +kernel) rfl
theorem w_577 : (Cond.code ⟨"RiverDesk$Reservoirs", "letOut", "(II)V"⟩ prog_4_method_3_code 3 none : Cond) ∈ gW := gI 577 (by decide +kernel) rfl
theorem w_578 : (Cond.methodLink "RiverDesk" 134 ⟨"RiverDesk$River", "send", "(III)V"⟩ : Cond) ∈ gW := gI 578 (by decide +kernel) rfl
theorem w_579 : (Cond.instanceMethod ⟨"RiverDesk$River", "send", "(III)V"⟩ : Cond) ∈ gW := gI 579 (by decide +kernel) rfl
theorem w_580 : (Cond.selects "RiverDesk$River" ⟨"RiverDesk$River", "send", "(III)V"⟩ ⟨"RiverDesk$River", "send", "(III)V"⟩ : Cond) ∈ gW := gI 580 (by decide +kernel) rfl
theorem w_581 : (Cond.code ⟨"RiverDesk$River", "send", "(III)V"⟩ prog_6_method_4_code 7 none : Cond) ∈ gW := gI 581 (by decide +kernel) rfl
theorem w_582 : (Cond.methodLink "RiverDeskLaw" 106 ⟨"RiverDeskLaw", "given", "(LRiverDesk;I[J)I"⟩ : Cond) ∈ gW := gI 582 (by decide +kernel) rfl
theorem w_583 : (Cond.static ⟨"RiverDeskLaw", "given", "(LRiverDesk;I[J)I"⟩ : Cond) ∈ gW := gI 583 (by decide +kernel) rfl
theorem w_584 : (Cond.codeWith ⟨"RiverDeskLaw", "given", "(LRiverDesk;I[J)I"⟩ method_11_code 4 (some FieldType.int) [(0, 9, 12, 13), (0, 9, 15, 15)] : Cond) ∈ gW := gI 584 (by decide +kernel) rfl
theorem w_585 : (Cond.methodLink "RiverDeskLaw" 47 ⟨"RiverDesk", "given", "(I)I"⟩ : Cond) ∈ gW := gI 585 (by decide +kernel) rfl
theorem w_586 : (Cond.instanceMethod ⟨"RiverDesk", "given", "(I)I"⟩ : Cond) ∈ gW := gI 586 (by decide +kernel) rfl
theorem w_587 : (Cond.selects "RiverDesk" ⟨"RiverDesk", "given", "(I)I"⟩ ⟨"RiverDesk", "given", "(I)I"⟩ : Cond) ∈ gW := gI 587 (by decide +kernel) rfl
theorem w_588 : (Cond.code ⟨"RiverDesk", "given", "(I)I"⟩ prog_1_method_11_code 2 (some FieldType.int) : Cond) ∈ gW := gI 588 (by decide +kernel) rfl
theorem w_589 : (Cond.methodLink "RiverDeskLaw" 110 ⟨"RiverDeskLaw", "flow", "(LRiverDesk;II[J)I"⟩ : Cond) ∈ gW := gI 589 (by decide +kernel) rfl
theorem w_590 : (Cond.static ⟨"RiverDeskLaw", "flow", "(LRiverDesk;II[J)I"⟩ : Cond) ∈ gW := gI 590 (by decide +kernel) rfl
theorem w_591 : (Cond.codeWith ⟨"RiverDeskLaw", "flow", "(LRiverDesk;II[J)I"⟩ method_12_code 5 (some FieldType.int) [(0, 9, 12, 13), (0, 9, 16, 15)] : Cond) ∈ gW := gI 591 (by decide +kernel) rfl
theorem w_592 : (Cond.methodLink "RiverDeskLaw" 51 ⟨"RiverDesk", "flow", "(II)J"⟩ : Cond) ∈ gW := gI 592 (by decide +kernel) rfl
theorem w_593 : (Cond.instanceMethod ⟨"RiverDesk", "flow", "(II)J"⟩ : Cond) ∈ gW := gI 593 (by decide +kernel) rfl
theorem w_594 : (Cond.selects "RiverDesk" ⟨"RiverDesk", "flow", "(II)J"⟩ ⟨"RiverDesk", "flow", "(II)J"⟩ : Cond) ∈ gW := gI 594 (by decide +kernel) rfl
theorem w_595 : (Cond.code ⟨"RiverDesk", "flow", "(II)J"⟩ prog_1_method_12_code 3 (some FieldType.long) : Cond) ∈ gW := gI 595 (by decide +kernel) rfl
theorem w_596 : (Cond.constantLong "RiverDesk" 159 (-1) : Cond) ∈ gW := gI 596 (by decide +kernel) rfl
theorem w_597 : (Cond.methodLink "RiverDeskLaw" 114 ⟨"RiverDeskLaw", "call", "(LRiverDesk;I[J)I"⟩ : Cond) ∈ gW := gI 597 (by decide +kernel) rfl
theorem w_598 : (Cond.static ⟨"RiverDeskLaw", "call", "(LRiverDesk;I[J)I"⟩ : Cond) ∈ gW := gI 598 (by decide +kernel) rfl
theorem w_599 : (Cond.codeWith ⟨"RiverDeskLaw", "call", "(LRiverDesk;I[J)I"⟩ method_13_code 4 (some FieldType.int) [(0, 9, 12, 13), (0, 9, 15, 15)] : Cond) ∈ gW := gI 599 (by decide +kernel) rfl
theorem w_600 : (Cond.methodLink "RiverDeskLaw" 55 ⟨"RiverDesk", "call", "(I)I"⟩ : Cond) ∈ gW := gI 600 (by decide +kernel) rfl
theorem w_601 : (Cond.instanceMethod ⟨"RiverDesk", "call", "(I)I"⟩ : Cond) ∈ gW := gI 601 (by decide +kernel) rfl
theorem w_602 : (Cond.selects "RiverDesk" ⟨"RiverDesk", "call", "(I)I"⟩ ⟨"RiverDesk", "call", "(I)I"⟩ : Cond) ∈ gW := gI 602 (by decide +kernel) rfl
theorem w_603 : (Cond.code ⟨"RiverDesk", "call", "(I)I"⟩ prog_1_method_13_code 3 (some FieldType.int) : Cond) ∈ gW := gI 603 (by decide +kernel) rfl
theorem w_604 : (Cond.methodLink "RiverDesk" 165 ⟨"RiverDesk$Plan", "most", "(LRiverDesk$River;LRiverDesk$Rights;I)I"⟩ : Cond) ∈ gW := gI 604 (by decide +kernel) rfl
theorem w_605 : (Cond.methodLink "RiverDesk" 169 ⟨"RiverDesk$Plan", "give", "(LRiverDesk$River;LRiverDesk$Rights;II)V"⟩ : Cond) ∈ gW := gI 605 (by decide +kernel) rfl
theorem w_606 : (Cond.methodLink "RiverDesk" 177 ⟨"RiverDesk", "oldestThatWouldGetLess", "()I"⟩ : Cond) ∈ gW := gI 606 (by decide +kernel) rfl
theorem w_608 : (Cond.instanceMethod ⟨"RiverDesk", "oldestThatWouldGetLess", "()I"⟩ : Cond) ∈ gW := gI 608 (by decide +kernel) rfl
theorem w_609 : (Cond.code ⟨"RiverDesk", "oldestThatWouldGetLess", "()I"⟩ prog_1_method_22_code 3 (some FieldType.int) : Cond) ∈ gW := gI 609 (by decide +kernel) rfl
theorem w_610 : (Cond.methodLink "RiverDeskLaw" 117 ⟨"RiverDeskLaw", "futile", "(LRiverDesk;II[J)I"⟩ : Cond) ∈ gW := gI 610 (by decide +kernel) rfl
theorem w_611 : (Cond.static ⟨"RiverDeskLaw", "futile", "(LRiverDesk;II[J)I"⟩ : Cond) ∈ gW := gI 611 (by decide +kernel) rfl
theorem w_612 : (Cond.codeWith ⟨"RiverDeskLaw", "futile", "(LRiverDesk;II[J)I"⟩ method_14_code 5 (some FieldType.int) [(0, 17, 20, 13), (0, 17, 24, 15)] : Cond) ∈ gW := gI 612 (by decide +kernel) rfl
theorem w_613 : (Cond.methodLink "RiverDeskLaw" 58 ⟨"RiverDesk", "futile", "(II)Z"⟩ : Cond) ∈ gW := gI 613 (by decide +kernel) rfl
theorem w_614 : (Cond.instanceMethod ⟨"RiverDesk", "futile", "(II)Z"⟩ : Cond) ∈ gW := gI 614 (by decide +kernel) rfl
theorem w_615 : (Cond.selects "RiverDesk" ⟨"RiverDesk", "futile", "(II)Z"⟩ ⟨"RiverDesk", "futile", "(II)Z"⟩ : Cond) ∈ gW := gI 615 (by decide +kernel) rfl
theorem w_616 : (Cond.code ⟨"RiverDesk", "futile", "(II)Z"⟩ prog_1_method_14_code 3 (some FieldType.boolean) : Cond) ∈ gW := gI 616 (by decide +kernel) rfl
theorem w_617 : (Cond.classLink "RiverDeskLaw" 63 "RiverDeskModel" : Cond) ∈ gW := gI 617 (by decide +kernel) rfl
theorem w_618 : (Cond.instantiable "RiverDeskModel" 23 : Cond) ∈ gW := gI 618 (by decide +kernel) rfl
theorem w_619 : (Cond.methodLink "RiverDeskLaw" 65 ⟨"RiverDeskModel", "<init>", "()V"⟩ : Cond) ∈ gW := gI 619 (by decide +kernel) rfl
theorem w_620 : (Cond.instanceMethod ⟨"RiverDeskModel", "<init>", "()V"⟩ : Cond) ∈ gW := gI 620 (by decide +kernel) rfl
theorem w_621 : (Cond.code ⟨"RiverDeskModel", "<init>", "()V"⟩ prog_8_method_1_code 1 none : Cond) ∈ gW := gI 621 (by decide +kernel) rfl
theorem w_622 : (Cond.methodLink "RiverDeskModel" 1 ⟨"java/lang/Object", "<init>", "()V"⟩ : Cond) ∈ gW := gI 622 (by decide +kernel) rfl
theorem w_623 : (Cond.fieldLink "RiverDeskModel" 72 "RiverDeskModel" "thrown" "I" : Cond) ∈ gW := gI 623 (by decide +kernel) rfl
theorem w_624 : (Cond.fieldLink "RiverDeskModel" 7 "RiverDeskModel" "isReach" "[Z" : Cond) ∈ gW := gI 624 (by decide +kernel) rfl
theorem w_625 : (Cond.fieldLink "RiverDeskModel" 13 "RiverDeskModel" "down" "[I" : Cond) ∈ gW := gI 625 (by decide +kernel) rfl
theorem w_626 : (Cond.fieldLink "RiverDeskModel" 17 "RiverDeskModel" "inflows" "[I" : Cond) ∈ gW := gI 626 (by decide +kernel) rfl
theorem w_627 : (Cond.fieldLink "RiverDeskModel" 20 "RiverDeskModel" "isStore" "[Z" : Cond) ∈ gW := gI 627 (by decide +kernel) rfl
theorem w_628 : (Cond.fieldLink "RiverDeskModel" 23 "RiverDeskModel" "storeReach" "[I" : Cond) ∈ gW := gI 628 (by decide +kernel) rfl
theorem w_629 : (Cond.fieldLink "RiverDeskModel" 26 "RiverDeskModel" "capacity" "[I" : Cond) ∈ gW := gI 629 (by decide +kernel) rfl
theorem w_630 : (Cond.fieldLink "RiverDeskModel" 29 "RiverDeskModel" "holds" "[I" : Cond) ∈ gW := gI 630 (by decide +kernel) rfl
theorem w_631 : (Cond.fieldLink "RiverDeskModel" 32 "RiverDeskModel" "released" "[J" : Cond) ∈ gW := gI 631 (by decide +kernel) rfl
theorem w_632 : (Cond.fieldLink "RiverDeskModel" 36 "RiverDeskModel" "isRight" "[Z" : Cond) ∈ gW := gI 632 (by decide +kernel) rfl
theorem w_633 : (Cond.fieldLink "RiverDeskModel" 39 "RiverDeskModel" "place" "[I" : Cond) ∈ gW := gI 633 (by decide +kernel) rfl
theorem w_634 : (Cond.fieldLink "RiverDeskModel" 42 "RiverDeskModel" "priority" "[I" : Cond) ∈ gW := gI 634 (by decide +kernel) rfl
theorem w_635 : (Cond.fieldLink "RiverDeskModel" 45 "RiverDeskModel" "rate" "[I" : Cond) ∈ gW := gI 635 (by decide +kernel) rfl
theorem w_636 : (Cond.fieldLink "RiverDeskModel" 48 "RiverDeskModel" "share" "[I" : Cond) ∈ gW := gI 636 (by decide +kernel) rfl
theorem w_637 : (Cond.fieldLink "RiverDeskModel" 51 "RiverDeskModel" "back" "[I" : Cond) ∈ gW := gI 637 (by decide +kernel) rfl
theorem w_638 : (Cond.fieldLink "RiverDeskModel" 54 "RiverDeskModel" "store" "[I" : Cond) ∈ gW := gI 638 (by decide +kernel) rfl
theorem w_639 : (Cond.fieldLink "RiverDeskModel" 57 "RiverDeskModel" "wants" "[I" : Cond) ∈ gW := gI 639 (by decide +kernel) rfl
theorem w_640 : (Cond.fieldLink "RiverDeskModel" 128 "RiverDeskModel" "day" "I" : Cond) ∈ gW := gI 640 (by decide +kernel) rfl
theorem w_641 : (Cond.fieldLink "RiverDeskModel" 60 "RiverDeskModel" "books" "[J" : Cond) ∈ gW := gI 641 (by decide +kernel) rfl
theorem w_642 : (Cond.fieldLink "RiverDeskModel" 63 "RiverDeskModel" "amount" "[I" : Cond) ∈ gW := gI 642 (by decide +kernel) rfl
theorem w_643 : (Cond.fieldLink "RiverDeskModel" 66 "RiverDeskModel" "first" "[I" : Cond) ∈ gW := gI 643 (by decide +kernel) rfl
theorem w_644 : (Cond.fieldLink "RiverDeskModel" 69 "RiverDeskModel" "order" "[I" : Cond) ∈ gW := gI 644 (by decide +kernel) rfl
theorem w_645 : (Cond.fieldLink "RiverDeskModel" 109 "RiverDeskModel" "rights" "I" : Cond) ∈ gW := gI 645 (by decide +kernel) rfl
theorem w_693 : (Cond.methodLink "RiverDeskLaw" 72 ⟨"RiverDeskModel", "thrown", "()I"⟩ : Cond) ∈ gW := gI 693 (by decide +kernel) rfl
theorem w_694 : (Cond.instanceMethod ⟨"RiverDeskModel", "thrown", "()I"⟩ : Cond) ∈ gW := gI 694 (by decide +kernel) rfl
theorem w_695 : (Cond.selects "RiverDeskModel" ⟨"RiverDeskModel", "thrown", "()I"⟩ ⟨"RiverDeskModel", "thrown", "()I"⟩ : Cond) ∈ gW := gI 695 (by decide +kernel) rfl
theorem w_696 : (Cond.code ⟨"RiverDeskModel", "thrown", "()I"⟩ prog_8_method_2_code 1 (some FieldType.int) : Cond) ∈ gW := gI 696 (by decide +kernel) rfl
theorem w_697 : (Cond.methodLink "RiverDeskLaw" 71 ⟨"RiverDeskModel", "reach", "(II)V"⟩ : Cond) ∈ gW := gI 697 (by decide +kernel) rfl
theorem w_698 : (Cond.instanceMethod ⟨"RiverDeskModel", "reach", "(II)V"⟩ : Cond) ∈ gW := gI 698 (by decide +kernel) rfl
theorem w_699 : (Cond.selects "RiverDeskModel" ⟨"RiverDeskModel", "reach", "(II)V"⟩ ⟨"RiverDeskModel", "reach", "(II)V"⟩ : Cond) ∈ gW := gI 699 (by decide +kernel) rfl
theorem w_700 : (Cond.code ⟨"RiverDeskModel", "reach", "(II)V"⟩ prog_8_method_5_code 5 none : Cond) ∈ gW := gI 700 (by decide +kernel) rfl
theorem w_701 : (Cond.methodLink "RiverDeskModel" 76 ⟨"RiverDeskModel", "isNumber", "(II)Z"⟩ : Cond) ∈ gW := gI 701 (by decide +kernel) rfl
theorem w_702 : (Cond.static ⟨"RiverDeskModel", "isNumber", "(II)Z"⟩ : Cond) ∈ gW := gI 702 (by decide +kernel) rfl
theorem w_703 : (Cond.code ⟨"RiverDeskModel", "isNumber", "(II)Z"⟩ prog_8_method_4_code 2 (some FieldType.boolean) : Cond) ∈ gW := gI 703 (by decide +kernel) rfl
theorem w_704 : (Cond.methodLink "RiverDeskLaw" 79 ⟨"RiverDeskModel", "reservoir", "(III)V"⟩ : Cond) ∈ gW := gI 704 (by decide +kernel) rfl
theorem w_705 : (Cond.instanceMethod ⟨"RiverDeskModel", "reservoir", "(III)V"⟩ : Cond) ∈ gW := gI 705 (by decide +kernel) rfl
theorem w_706 : (Cond.selects "RiverDeskModel" ⟨"RiverDeskModel", "reservoir", "(III)V"⟩ ⟨"RiverDeskModel", "reservoir", "(III)V"⟩ : Cond) ∈ gW := gI 706 (by decide +kernel) rfl
theorem w_707 : (Cond.code ⟨"RiverDeskModel", "reservoir", "(III)V"⟩ prog_8_method_6_code 4 none : Cond) ∈ gW := gI 707 (by decide +kernel) rfl
theorem w_708 : (Cond.constant "RiverDeskModel" 80 1000000000 : Cond) ∈ gW := gI 708 (by decide +kernel) rfl
theorem w_709 : (Cond.methodLink "RiverDeskLaw" 83 ⟨"RiverDeskModel", "right", "(IIIIII)V"⟩ : Cond) ∈ gW := gI 709 (by decide +kernel) rfl
theorem w_710 : (Cond.instanceMethod ⟨"RiverDeskModel", "right", "(IIIIII)V"⟩ : Cond) ∈ gW := gI 710 (by decide +kernel) rfl
theorem w_711 : (Cond.selects "RiverDeskModel" ⟨"RiverDeskModel", "right", "(IIIIII)V"⟩ ⟨"RiverDeskModel", "right", "(IIIIII)V"⟩ : Cond) ∈ gW := gI 711 (by decide +kernel) rfl
theorem w_712 : (Cond.code ⟨"RiverDeskModel", "right", "(IIIIII)V"⟩ prog_8_method_9_code 8 none : Cond) ∈ gW := gI 712 (by decide +kernel) rfl
theorem w_713 : (Cond.constant "RiverDeskModel" 81 1000000 : Cond) ∈ gW := gI 713 (by decide +kernel) rfl
theorem w_714 : (Cond.methodLink "RiverDeskModel" 82 ⟨"RiverDeskModel", "isOn", "(II)Z"⟩ : Cond) ∈ gW := gI 714 (by decide +kernel) rfl
theorem w_716 : (Cond.instanceMethod ⟨"RiverDeskModel", "isOn", "(II)Z"⟩ : Cond) ∈ gW := gI 716 (by decide +kernel) rfl
theorem w_717 : (Cond.code ⟨"RiverDeskModel", "isOn", "(II)Z"⟩ prog_8_method_3_code 4 (some FieldType.boolean) : Cond) ∈ gW := gI 717 (by decide +kernel) rfl
theorem w_718 : (Cond.methodLink "RiverDeskModel" 85 ⟨"RiverDeskModel", "isTaken", "(II)Z"⟩ : Cond) ∈ gW := gI 718 (by decide +kernel) rfl
theorem w_720 : (Cond.instanceMethod ⟨"RiverDeskModel", "isTaken", "(II)Z"⟩ : Cond) ∈ gW := gI 720 (by decide +kernel) rfl
theorem w_721 : (Cond.code ⟨"RiverDeskModel", "isTaken", "(II)Z"⟩ prog_8_method_7_code 5 (some FieldType.boolean) : Cond) ∈ gW := gI 721 (by decide +kernel) rfl
theorem w_722 : (Cond.methodLink "RiverDeskModel" 88 ⟨"RiverDeskModel", "lay", "(IIII)V"⟩ : Cond) ∈ gW := gI 722 (by decide +kernel) rfl
theorem w_724 : (Cond.instanceMethod ⟨"RiverDeskModel", "lay", "(IIII)V"⟩ : Cond) ∈ gW := gI 724 (by decide +kernel) rfl
theorem w_725 : (Cond.code ⟨"RiverDeskModel", "lay", "(IIII)V"⟩ prog_8_method_8_code 5 none : Cond) ∈ gW := gI 725 (by decide +kernel) rfl
theorem w_726 : (Cond.methodLink "RiverDeskLaw" 87 ⟨"RiverDeskModel", "storage", "(IIIII)V"⟩ : Cond) ∈ gW := gI 726 (by decide +kernel) rfl
theorem w_727 : (Cond.instanceMethod ⟨"RiverDeskModel", "storage", "(IIIII)V"⟩ : Cond) ∈ gW := gI 727 (by decide +kernel) rfl
theorem w_728 : (Cond.selects "RiverDeskModel" ⟨"RiverDeskModel", "storage", "(IIIII)V"⟩ ⟨"RiverDeskModel", "storage", "(IIIII)V"⟩ : Cond) ∈ gW := gI 728 (by decide +kernel) rfl
theorem w_729 : (Cond.code ⟨"RiverDeskModel", "storage", "(IIIII)V"⟩ prog_8_method_10_code 7 none : Cond) ∈ gW := gI 729 (by decide +kernel) rfl
theorem w_730 : (Cond.methodLink "RiverDeskLaw" 91 ⟨"RiverDeskModel", "drop", "(I)V"⟩ : Cond) ∈ gW := gI 730 (by decide +kernel) rfl
theorem w_731 : (Cond.instanceMethod ⟨"RiverDeskModel", "drop", "(I)V"⟩ : Cond) ∈ gW := gI 731 (by decide +kernel) rfl
theorem w_732 : (Cond.selects "RiverDeskModel" ⟨"RiverDeskModel", "drop", "(I)V"⟩ ⟨"RiverDeskModel", "drop", "(I)V"⟩ : Cond) ∈ gW := gI 732 (by decide +kernel) rfl
theorem w_733 : (Cond.code ⟨"RiverDeskModel", "drop", "(I)V"⟩ prog_8_method_13_code 2 none : Cond) ∈ gW := gI 733 (by decide +kernel) rfl
theorem w_734 : (Cond.methodLink "RiverDeskModel" 92 ⟨"RiverDeskModel", "wrongRight", "(I)I"⟩ : Cond) ∈ gW := gI 734 (by decide +kernel) rfl
theorem w_736 : (Cond.instanceMethod ⟨"RiverDeskModel", "wrongRight", "(I)I"⟩ : Cond) ∈ gW := gI 736 (by decide +kernel) rfl
theorem w_737 : (Cond.code ⟨"RiverDeskModel", "wrongRight", "(I)I"⟩ prog_8_method_11_code 2 (some FieldType.int) : Cond) ∈ gW := gI 737 (by decide +kernel) rfl
theorem w_738 : (Cond.methodLink "RiverDeskLaw" 94 ⟨"RiverDeskModel", "want", "(II)V"⟩ : Cond) ∈ gW := gI 738 (by decide +kernel) rfl
theorem w_739 : (Cond.instanceMethod ⟨"RiverDeskModel", "want", "(II)V"⟩ : Cond) ∈ gW := gI 739 (by decide +kernel) rfl
theorem w_740 : (Cond.selects "RiverDeskModel" ⟨"RiverDeskModel", "want", "(II)V"⟩ ⟨"RiverDeskModel", "want", "(II)V"⟩ : Cond) ∈ gW := gI 740 (by decide +kernel) rfl
theorem w_741 : (Cond.code ⟨"RiverDeskModel", "want", "(II)V"⟩ prog_8_method_14_code 3 none : Cond) ∈ gW := gI 741 (by decide +kernel) rfl
theorem w_742 : (Cond.methodLink "RiverDeskLaw" 97 ⟨"RiverDeskModel", "inflow", "(II)V"⟩ : Cond) ∈ gW := gI 742 (by decide +kernel) rfl
theorem w_743 : (Cond.instanceMethod ⟨"RiverDeskModel", "inflow", "(II)V"⟩ : Cond) ∈ gW := gI 743 (by decide +kernel) rfl
theorem w_744 : (Cond.selects "RiverDeskModel" ⟨"RiverDeskModel", "inflow", "(II)V"⟩ ⟨"RiverDeskModel", "inflow", "(II)V"⟩ : Cond) ∈ gW := gI 744 (by decide +kernel) rfl
theorem w_745 : (Cond.code ⟨"RiverDeskModel", "inflow", "(II)V"⟩ prog_8_method_15_code 3 none : Cond) ∈ gW := gI 745 (by decide +kernel) rfl
theorem w_746 : (Cond.methodLink "RiverDeskModel" 96 ⟨"RiverDeskModel", "wrongReach", "(I)I"⟩ : Cond) ∈ gW := gI 746 (by decide +kernel) rfl
theorem w_748 : (Cond.instanceMethod ⟨"RiverDeskModel", "wrongReach", "(I)I"⟩ : Cond) ∈ gW := gI 748 (by decide +kernel) rfl
theorem w_749 : (Cond.code ⟨"RiverDeskModel", "wrongReach", "(I)I"⟩ prog_8_method_12_code 2 (some FieldType.int) : Cond) ∈ gW := gI 749 (by decide +kernel) rfl
theorem w_750 : (Cond.methodLink "RiverDeskLaw" 101 ⟨"RiverDeskModel", "release", "(III)I"⟩ : Cond) ∈ gW := gI 750 (by decide +kernel) rfl
theorem w_751 : (Cond.instanceMethod ⟨"RiverDeskModel", "release", "(III)I"⟩ : Cond) ∈ gW := gI 751 (by decide +kernel) rfl
theorem w_752 : (Cond.selects "RiverDeskModel" ⟨"RiverDeskModel", "release", "(III)I"⟩ ⟨"RiverDeskModel", "release", "(III)I"⟩ : Cond) ∈ gW := gI 752 (by decide +kernel) rfl
theorem w_753 : (Cond.code ⟨"RiverDeskModel", "release", "(III)I"⟩ prog_8_method_16_code 4 (some FieldType.int) : Cond) ∈ gW := gI 753 (by decide +kernel) rfl
theorem w_754 : (Cond.methodLink "RiverDeskLaw" 105 ⟨"RiverDeskModel", "plan", "()I"⟩ : Cond) ∈ gW := gI 754 (by decide +kernel) rfl
theorem w_755 : (Cond.instanceMethod ⟨"RiverDeskModel", "plan", "()I"⟩ : Cond) ∈ gW := gI 755 (by decide +kernel) rfl
theorem w_756 : (Cond.selects "RiverDeskModel" ⟨"RiverDeskModel", "plan", "()I"⟩ ⟨"RiverDeskModel", "plan", "()I"⟩ : Cond) ∈ gW := gI 756 (by decide +kernel) rfl
theorem w_757 : (Cond.code ⟨"RiverDeskModel", "plan", "()I"⟩ prog_8_method_23_code 3 (some FieldType.int) : Cond) ∈ gW := gI 757 (by decide +kernel) rfl
theorem w_758 : (Cond.methodLink "RiverDeskModel" 119 ⟨"RiverDeskModel", "make", "(III)Z"⟩ : Cond) ∈ gW := gI 758 (by decide +kernel) rfl
theorem w_760 : (Cond.instanceMethod ⟨"RiverDeskModel", "make", "(III)Z"⟩ : Cond) ∈ gW := gI 760 (by decide +kernel) rfl
theorem w_761 : (Cond.code ⟨"RiverDeskModel", "make", "(III)Z"⟩ prog_8_method_21_code 8 (some FieldType.boolean) : Cond) ∈ gW := gI 761 (by decide +kernel) rfl
theorem w_762 : (Cond.methodLink "RiverDeskModel" 112 ⟨"RiverDeskModel", "age", "()V"⟩ : Cond) ∈ gW := gI 762 (by decide +kernel) rfl
theorem w_764 : (Cond.instanceMethod ⟨"RiverDeskModel", "age", "()V"⟩ : Cond) ∈ gW := gI 764 (by decide +kernel) rfl
theorem w_765 : (Cond.code ⟨"RiverDeskModel", "age", "()V"⟩ prog_8_method_20_code 5 none : Cond) ∈ gW := gI 765 (by decide +kernel) rfl
theorem w_766 : (Cond.methodLink "RiverDeskModel" 115 ⟨"RiverDeskModel", "holdsPlan", "(I)Z"⟩ : Cond) ∈ gW := gI 766 (by decide +kernel) rfl
theorem w_768 : (Cond.instanceMethod ⟨"RiverDeskModel", "holdsPlan", "(I)Z"⟩ : Cond) ∈ gW := gI 768 (by decide +kernel) rfl
theorem w_769 : (Cond.code ⟨"RiverDeskModel", "holdsPlan", "(I)Z"⟩ prog_8_method_19_code 6 (some FieldType.boolean) : Cond) ∈ gW := gI 769 (by decide +kernel) rfl
theorem w_770 : (Cond.methodLink "RiverDeskModel" 105 ⟨"RiverDeskModel", "natural", "(I)J"⟩ : Cond) ∈ gW := gI 770 (by decide +kernel) rfl
theorem w_772 : (Cond.instanceMethod ⟨"RiverDeskModel", "natural", "(I)J"⟩ : Cond) ∈ gW := gI 772 (by decide +kernel) rfl
theorem w_773 : (Cond.code ⟨"RiverDeskModel", "natural", "(I)J"⟩ prog_8_method_18_code 5 (some FieldType.long) : Cond) ∈ gW := gI 773 (by decide +kernel) rfl
theorem w_774 : (Cond.methodLink "RiverDeskModel" 101 ⟨"RiverDeskModel", "returned", "(IJ)J"⟩ : Cond) ∈ gW := gI 774 (by decide +kernel) rfl
theorem w_776 : (Cond.instanceMethod ⟨"RiverDeskModel", "returned", "(IJ)J"⟩ : Cond) ∈ gW := gI 776 (by decide +kernel) rfl
theorem w_777 : (Cond.code ⟨"RiverDeskModel", "returned", "(IJ)J"⟩ prog_8_method_17_code 4 (some FieldType.long) : Cond) ∈ gW := gI 777 (by decide +kernel) rfl
theorem w_778 : (Cond.constantLong "RiverDeskModel" 99 1000 : Cond) ∈ gW := gI 778 (by decide +kernel) rfl
theorem w_779 : (Cond.methodLink "RiverDeskModel" 123 ⟨"RiverDeskModel", "isShort", "(I)Z"⟩ : Cond) ∈ gW := gI 779 (by decide +kernel) rfl
theorem w_781 : (Cond.instanceMethod ⟨"RiverDeskModel", "isShort", "(I)Z"⟩ : Cond) ∈ gW := gI 781 (by decide +kernel) rfl
theorem w_782 : (Cond.code ⟨"RiverDeskModel", "isShort", "(I)Z"⟩ prog_8_method_22_code 2 (some FieldType.boolean) : Cond) ∈ gW := gI 782 (by decide +kernel) rfl
theorem w_783 : (Cond.methodLink "RiverDeskLaw" 109 ⟨"RiverDeskModel", "given", "(I)I"⟩ : Cond) ∈ gW := gI 783 (by decide +kernel) rfl
theorem w_784 : (Cond.instanceMethod ⟨"RiverDeskModel", "given", "(I)I"⟩ : Cond) ∈ gW := gI 784 (by decide +kernel) rfl
theorem w_785 : (Cond.selects "RiverDeskModel" ⟨"RiverDeskModel", "given", "(I)I"⟩ ⟨"RiverDeskModel", "given", "(I)I"⟩ : Cond) ∈ gW := gI 785 (by decide +kernel) rfl
theorem w_786 : (Cond.code ⟨"RiverDeskModel", "given", "(I)I"⟩ prog_8_method_24_code 2 (some FieldType.int) : Cond) ∈ gW := gI 786 (by decide +kernel) rfl
theorem w_787 : (Cond.methodLink "RiverDeskLaw" 113 ⟨"RiverDeskModel", "flow", "(II)J"⟩ : Cond) ∈ gW := gI 787 (by decide +kernel) rfl
theorem w_788 : (Cond.instanceMethod ⟨"RiverDeskModel", "flow", "(II)J"⟩ : Cond) ∈ gW := gI 788 (by decide +kernel) rfl
theorem w_789 : (Cond.selects "RiverDeskModel" ⟨"RiverDeskModel", "flow", "(II)J"⟩ ⟨"RiverDeskModel", "flow", "(II)J"⟩ : Cond) ∈ gW := gI 789 (by decide +kernel) rfl
theorem w_790 : (Cond.code ⟨"RiverDeskModel", "flow", "(II)J"⟩ prog_8_method_25_code 7 (some FieldType.long) : Cond) ∈ gW := gI 790 (by decide +kernel) rfl
theorem w_791 : (Cond.constantLong "RiverDeskModel" 126 (-1) : Cond) ∈ gW := gI 791 (by decide +kernel) rfl
theorem w_792 : (Cond.methodLink "RiverDeskLaw" 116 ⟨"RiverDeskModel", "call", "(I)I"⟩ : Cond) ∈ gW := gI 792 (by decide +kernel) rfl
theorem w_793 : (Cond.instanceMethod ⟨"RiverDeskModel", "call", "(I)I"⟩ : Cond) ∈ gW := gI 793 (by decide +kernel) rfl
theorem w_794 : (Cond.selects "RiverDeskModel" ⟨"RiverDeskModel", "call", "(I)I"⟩ ⟨"RiverDeskModel", "call", "(I)I"⟩ : Cond) ∈ gW := gI 794 (by decide +kernel) rfl
theorem w_795 : (Cond.code ⟨"RiverDeskModel", "call", "(I)I"⟩ prog_8_method_26_code 3 (some FieldType.int) : Cond) ∈ gW := gI 795 (by decide +kernel) rfl
theorem w_796 : (Cond.methodLink "RiverDeskLaw" 119 ⟨"RiverDeskModel", "futile", "(II)Z"⟩ : Cond) ∈ gW := gI 796 (by decide +kernel) rfl
theorem w_797 : (Cond.instanceMethod ⟨"RiverDeskModel", "futile", "(II)Z"⟩ : Cond) ∈ gW := gI 797 (by decide +kernel) rfl
theorem w_798 : (Cond.selects "RiverDeskModel" ⟨"RiverDeskModel", "futile", "(II)Z"⟩ ⟨"RiverDeskModel", "futile", "(II)Z"⟩ : Cond) ∈ gW := gI 798 (by decide +kernel) rfl
theorem w_799 : (Cond.code ⟨"RiverDeskModel", "futile", "(II)Z"⟩ prog_8_method_27_code 4 (some FieldType.boolean) : Cond) ∈ gW := gI 799 (by decide +kernel) rfl
theorem w_800 : (Cond.methodLink "RiverDeskLaw" 123 ⟨"RiverDeskModel", "close", "()I"⟩ : Cond) ∈ gW := gI 800 (by decide +kernel) rfl
theorem w_801 : (Cond.instanceMethod ⟨"RiverDeskModel", "close", "()I"⟩ : Cond) ∈ gW := gI 801 (by decide +kernel) rfl
theorem w_802 : (Cond.selects "RiverDeskModel" ⟨"RiverDeskModel", "close", "()I"⟩ ⟨"RiverDeskModel", "close", "()I"⟩ : Cond) ∈ gW := gI 802 (by decide +kernel) rfl
theorem w_803 : (Cond.code ⟨"RiverDeskModel", "close", "()I"⟩ prog_8_method_28_code 3 (some FieldType.int) : Cond) ∈ gW := gI 803 (by decide +kernel) rfl
theorem w_804 : (Cond.methodLink "RiverDeskLaw" 128 ⟨"RiverDeskModel", "held", "(II)I"⟩ : Cond) ∈ gW := gI 804 (by decide +kernel) rfl
theorem w_805 : (Cond.instanceMethod ⟨"RiverDeskModel", "held", "(II)I"⟩ : Cond) ∈ gW := gI 805 (by decide +kernel) rfl
theorem w_806 : (Cond.selects "RiverDeskModel" ⟨"RiverDeskModel", "held", "(II)I"⟩ ⟨"RiverDeskModel", "held", "(II)I"⟩ : Cond) ∈ gW := gI 806 (by decide +kernel) rfl
theorem w_807 : (Cond.code ⟨"RiverDeskModel", "held", "(II)I"⟩ prog_8_method_29_code 3 (some FieldType.int) : Cond) ∈ gW := gI 807 (by decide +kernel) rfl
theorem w_808 : (Cond.methodLink "RiverDeskLaw" 132 ⟨"RiverDeskModel", "book", "(II)J"⟩ : Cond) ∈ gW := gI 808 (by decide +kernel) rfl
theorem w_809 : (Cond.instanceMethod ⟨"RiverDeskModel", "book", "(II)J"⟩ : Cond) ∈ gW := gI 809 (by decide +kernel) rfl
theorem w_810 : (Cond.selects "RiverDeskModel" ⟨"RiverDeskModel", "book", "(II)J"⟩ ⟨"RiverDeskModel", "book", "(II)J"⟩ : Cond) ∈ gW := gI 810 (by decide +kernel) rfl
theorem w_811 : (Cond.code ⟨"RiverDeskModel", "book", "(II)J"⟩ prog_8_method_30_code 3 (some FieldType.long) : Cond) ∈ gW := gI 811 (by decide +kernel) rfl
theorem w_812 : (Cond.methodLink "RiverDeskLaw" 136 ⟨"RiverDeskModel", "about", "(II)I"⟩ : Cond) ∈ gW := gI 812 (by decide +kernel) rfl
theorem w_813 : (Cond.instanceMethod ⟨"RiverDeskModel", "about", "(II)I"⟩ : Cond) ∈ gW := gI 813 (by decide +kernel) rfl
theorem w_814 : (Cond.selects "RiverDeskModel" ⟨"RiverDeskModel", "about", "(II)I"⟩ ⟨"RiverDeskModel", "about", "(II)I"⟩ : Cond) ∈ gW := gI 814 (by decide +kernel) rfl
theorem w_815 : (Cond.code ⟨"RiverDeskModel", "about", "(II)I"⟩ prog_8_method_31_code 3 (some FieldType.int) : Cond) ∈ gW := gI 815 (by decide +kernel) rfl
theorem w_816 : (Cond.methodLink "RiverDeskLaw" 140 ⟨"RiverDeskModel", "aged", "(I)I"⟩ : Cond) ∈ gW := gI 816 (by decide +kernel) rfl
theorem w_817 : (Cond.instanceMethod ⟨"RiverDeskModel", "aged", "(I)I"⟩ : Cond) ∈ gW := gI 817 (by decide +kernel) rfl
theorem w_818 : (Cond.selects "RiverDeskModel" ⟨"RiverDeskModel", "aged", "(I)I"⟩ ⟨"RiverDeskModel", "aged", "(I)I"⟩ : Cond) ∈ gW := gI 818 (by decide +kernel) rfl
theorem w_819 : (Cond.code ⟨"RiverDeskModel", "aged", "(I)I"⟩ prog_8_method_32_code 2 (some FieldType.int) : Cond) ∈ gW := gI 819 (by decide +kernel) rfl
end
section
/-! numbers: an int is iI z, a long is lI z, for a z : Int; sums, differences and products need no bound -/
def iI (z : Int) : Int32 := Int32.ofInt z
def lI (z : Int) : Int64 := Int64.ofInt z
abbrev inI (z : Int) : Prop := -2147483648 ≤ z ∧ z ≤ 2147483647
abbrev inL (z : Int) : Prop := -9223372036854775808 ≤ z ∧ z ≤ 9223372036854775807
theorem iI_to {z : Int} (h : inI z) : (iI z).toInt = z := Int32.toInt_ofInt_of_le (by have := h.1; omega) (by have := h.2; omega)
theorem lI_to {z : Int} (h : inL z) : (lI z).toInt = z := Int64.toInt_ofInt_of_le (by have := h.1; omega) (by have := h.2; omega)
theorem iI_of (x : Int32) : ∃ z : Int, inI z ∧ x = iI z := ⟨x.toInt, ⟨by have := Int32.le_toInt x; omega, by have := Int32.toInt_lt x; omega⟩, (Int32.ofInt_toInt x).symm⟩
theorem iI_add (a b : Int) : iI a + iI b = iI (a + b) := (Int32.ofInt_add a b).symm
theorem iI_sub (a b : Int) : iI a - iI b = iI (a - b) := (Int32.ofInt_sub a b).symm
theorem iI_mul (a b : Int) : iI a * iI b = iI (a * b) := (Int32.ofInt_mul a b).symm
theorem lI_add (a b : Int) : lI a + lI b = lI (a + b) := (Int64.ofInt_add a b).symm
theorem lI_sub (a b : Int) : lI a - lI b = lI (a - b) := (Int64.ofInt_sub a b).symm
theorem lI_mul (a b : Int) : lI a * lI b = lI (a * b) := (Int64.ofInt_mul a b).symm
theorem iI_le {a b : Int} (ha : inI a) (hb : inI b) : iI a ≤ iI b ↔ a ≤ b := by rw [Int32.le_iff_toInt_le, iI_to ha, iI_to hb]
theorem iI_lt {a b : Int} (ha : inI a) (hb : inI b) : iI a < iI b ↔ a < b := by rw [Int32.lt_iff_toInt_lt, iI_to ha, iI_to hb]
theorem iI_eq {a b : Int} (ha : inI a) (hb : inI b) : iI a = iI b ↔ a = b := by rw [← Int32.toInt_inj, iI_to ha, iI_to hb]
theorem lI_le {a b : Int} (ha : inL a) (hb : inL b) : lI a ≤ lI b ↔ a ≤ b := by rw [Int64.le_iff_toInt_le, lI_to ha, lI_to hb]
theorem lI_lt {a b : Int} (ha : inL a) (hb : inL b) : lI a < lI b ↔ a < b := by rw [Int64.lt_iff_toInt_lt, lI_to ha, lI_to hb]
theorem lI_eq {a b : Int} (ha : inL a) (hb : inL b) : lI a = lI b ↔ a = b := by rw [← Int64.toInt_inj, lI_to ha, lI_to hb]
theorem iI_0 : iI 0 = 0 := rfl
theorem inI_0 : inI 0 := ⟨by decide, by decide⟩
theorem iI_cl {z : Int} (h0 : 0 ≤ z) (h : z ≤ 2147483647) : (iI z).toNatClampNeg = z.toNat := Int32.toNatClampNeg_ofInt_of_le (by omega) (by omega)
theorem iI_in {z : Int} {n : Nat} (h0 : 0 ≤ z) (h : z < n) (hn : n < 2147483648) : vp_in (iI z) n := by
  rw [vp_in_iff, iI_to ⟨by omega, by omega⟩]
  exact ⟨h0, h⟩
theorem iI_l {z : Int} (h : inI z) : (iI z).toInt64 = lI z := Int64.toInt_inj.mp (by rw [Int32.toInt_toInt64, iI_to h, lI_to ⟨by have := h.1; omega, by have := h.2; omega⟩])
theorem lI_i (z : Int) : (lI z).toInt32 = iI z := Int64.toInt32_ofInt
theorem iI_div {a b : Int} (ha : inI a) (h0 : 0 ≤ a) (hb : 0 < b) (hb2 : inI b) : iI a / iI b = iI (a / b) := by
  have hq : a / b ≤ a := Int.ediv_le_self b h0
  have hq0 : 0 ≤ a / b := Int.ediv_nonneg h0 (by omega)
  have hne : iI b ≠ -1 := fun h => by
    have h1 : (iI b).toInt = (-1 : Int32).toInt := by rw [h]
    rw [iI_to hb2, show ((-1 : Int32)).toInt = -1 from by decide] at h1
    omega
  refine Int32.toInt_inj.mp ?_
  rw [Int32.toInt_div_of_ne_right _ _ hne, iI_to ha, iI_to hb2, iI_to ⟨by omega, by have := ha.2; omega⟩]
  exact Int.tdiv_eq_ediv_of_nonneg h0
theorem lI_div {a b : Int} (ha : inL a) (h0 : 0 ≤ a) (hb : 0 < b) (hb2 : inL b) : lI a / lI b = lI (a / b) := by
  have hq : a / b ≤ a := Int.ediv_le_self b h0
  have hq0 : 0 ≤ a / b := Int.ediv_nonneg h0 (by omega)
  have hne : lI b ≠ -1 := fun h => by
    have h1 : (lI b).toInt = (-1 : Int64).toInt := by rw [h]
    rw [lI_to hb2, show ((-1 : Int64)).toInt = -1 from by decide] at h1
    omega
  refine Int64.toInt_inj.mp ?_
  rw [Int64.toInt_div_of_ne_right _ _ hne, lI_to ha, lI_to hb2, lI_to ⟨by omega, by have := ha.2; omega⟩]
  exact Int.tdiv_eq_ediv_of_nonneg h0
theorem iI_ne0 {b : Int} (hb : b ≠ 0) (h : inI b) : ¬ iI b = 0 := fun q => hb ((iI_eq h inI_0).mp (q.trans iI_0.symm))
theorem lI_ne0 {b : Int} (hb : b ≠ 0) (h : inL b) : ¬ lI b = 0 := fun q => hb ((lI_eq h ⟨by decide, by decide⟩).mp (q.trans (show (0 : Int64) = lI 0 from rfl)))
/-- an array's contents, one place changed -/
def uZ (f : Nat → Int) (j : Nat) (x : Int) : Nat → Int := fun k => if k = j then x else f k
theorem uZ_s (f : Nat → Int) (j : Nat) (x : Int) : uZ f j x j = x := by simp [uZ]
theorem uZ_n (f : Nat → Int) {j k : Nat} (x : Int) (h : k ≠ j) : uZ f j x k = f k := by simp [uZ, h]
theorem upd_iI (f : Nat → Int) (j : Nat) (x : Int) : upd (fun k => iI (f k)) j (iI x) = fun k => iI (uZ f j x k) := by
  funext k
  unfold upd uZ
  split <;> rfl
theorem upd_lI (f : Nat → Int) (j : Nat) (x : Int) : vp_updL (fun k => lI (f k)) j (lI x) = fun k => lI (uZ f j x k) := by
  funext k
  unfold vp_updL uZ
  split <;> rfl
/-! the cells: E holds the classes' numbers and those of int[], boolean[], long[] -/
abbrev rE : Type := va_G × ClassId × ClassId × ClassId
abbrev rTy (E : rE) : List (ClassId × FieldType) := [(E.2.1, .int), (E.2.2.1, .boolean), (E.2.2.2, .long)]
abbrev cI (E : rE) (a n : Nat) (f : Nat → Int) : Nat × va_E := (a, .inl (E.2.1, n, .inl (fun k => iI (f k))))
abbrev cZ (E : rE) (a n : Nat) (f : Nat → Int) : Nat × va_E := (a, .inl (E.2.2.1, n, .inl (fun k => iI (f k))))
abbrev cJ (E : rE) (a n : Nat) (f : Nat → Int) : Nat × va_E := (a, .inl (E.2.2.2, n, .inr (.inl (fun k => lI (f k)))))
abbrev cO (a ci : Nat) (fs : List Value) : Nat × va_E := (a, .inr (ci, fs))
abbrev rK (E : rE) (U : State) : Prop := va_K E.1 vwCl (rTy E) U
/-- what is fixed in a method's walk -/
def rC (p : Program) (s : State) (m : MethodId) (args : Array Value) (c : Code) (E : rE) (A : Nat → Prop) (nL : Nat) (cc : ByteArray) (Ts : List Cond) (own : String) : Prop := CallFix p m c cc nL s args Ts own ∧ rK E s ∧ (∀ q, s.heap.size ≤ q → A q) ∧ ∀ w ∈ gW, w ∈ Ts
/-- the goal: at pc, with the cells ws, the locals lv, the operands st, the machine comes to Q -/
def rG (p : Program) (l : Launch) (e : Env) (R : Room) (s : State) (m : MethodId) (args : Array Value) (below : List Frame) (meth : Method) (c : Code) (E : rE) (A : Nat → Prop) (nL cells slots : Nat) (Q : State → Prop) (ws : va_W) (pc : Nat) (lv : List (Nat × Value)) (st : List Value) : Prop :=
  ∀ (H : Heap) (locs : List Loc) (la : Array Slot), va_P E.1 vwCl ws H → va_D A ws → va_S A s.heap H locs → lv_has la nL lv → W p l e R s m args below meth c H locs cells slots Q (F0 m pc la st)
section RV1
variable {p : Program} {l : Launch} {e : Env} {R : Room} {s : State} {m : MethodId} {args : Array Value} {below : List Frame} {meth : Method} {c : Code} {E : rE} {A : Nat → Prop} {nL cells slots : Nat} {Q : State → Prop} {ws : va_W} {pc : Nat} {lv : List (Nat × Value)} {st : List Value} {cc : ByteArray} {Ts : List Cond} {own : String}

theorem rG.plv {lv' : List (Nat × Value)} (ks : List Nat) (h : lv_pick lv ks = lv') (kk : rG p l e R s m args below meth c E A nL cells slots Q ws pc lv' st) : rG p l e R s m args below meth c E A nL cells slots Q ws pc lv st := fun H locs la hP hD hS hl => kk H locs la hP hD hS (lv_sub hl ks h)
theorem rG.pws {ws' : va_W} (h : ws = ws') (kk : rG p l e R s m args below meth c E A nL cells slots Q ws' pc lv st) : rG p l e R s m args below meth c E A nL cells slots Q ws pc lv st := h ▸ kk
theorem rG.pst {st' : List Value} (h : st = st') (kk : rG p l e R s m args below meth c E A nL cells slots Q ws pc lv st') : rG p l e R s m args below meth c E A nL cells slots Q ws pc lv st := h ▸ kk
theorem rG.eqlv {lv' : List (Nat × Value)} (h : lv = lv') (kk : rG p l e R s m args below meth c E A nL cells slots Q ws pc lv' st) : rG p l e R s m args below meth c E A nL cells slots Q ws pc lv st := h ▸ kk
theorem rG.wide {k n : Nat} (h1 : cells ≤ k) (h2 : slots ≤ n) (kk : rG p l e R s m args below meth c E A nL k n Q ws pc lv st) : rG p l e R s m args below meth c E A nL cells slots Q ws pc lv st := fun H locs la hP hD hS hl => W.widen h1 h2 (kk H locs la hP hD hS hl)
theorem sel_map {is : List Nat} {w w' : va_W} (h : is.map (fun i => w[i]?) = w'.map some) : is.filterMap (fun i => w[i]?) = w' := by
  have : is.filterMap (fun i => w[i]?) = (is.map (fun i => w[i]?)).filterMap id := by rw [List.filterMap_map]; rfl
  rw [this, h, List.filterMap_map]
  simp
theorem rG.sub {ws' : va_W} (is : List Nat) (hn : va_nd is = true) (h : is.map (fun i => ws[i]?) = ws'.map some) (kk : rG p l e R s m args below meth c E A nL cells slots Q ws' pc lv st) : rG p l e R s m args below meth c E A nL cells slots Q ws pc lv st := fun H locs la hP hD hS hl => kk H locs la (hP.sub is (sel_map h)) (hD.sub is hn h) hS hl
theorem rg_iconst (C : rC p s m args c E A nL cc Ts own) {n : Int} (hd : decode cc pc = .ok (.iconst n, 1)) (kk : rG p l e R s m args below meth c E A nL cells slots Q ws (pc + 1) lv (.int (iI n) :: st)) : rG p l e R s m args below meth c E A nL cells slots Q ws pc lv st := by
  intro H locs la hP hD hS hl
  exact lv_iconst (v := iI n) C.1.1 C.1.2.1 hd rfl (kk H locs la hP hD hS hl)
theorem rg_bipush (C : rC p s m args c E A nL cc Ts own) {n z : Int} (hd : decode cc pc = .ok (.bipush n, 2)) (hv : (Int8.ofInt n).toInt32 = iI z) (kk : rG p l e R s m args below meth c E A nL cells slots Q ws (pc + 2) lv (.int (iI z) :: st)) : rG p l e R s m args below meth c E A nL cells slots Q ws pc lv st := by
  intro H locs la hP hD hS hl
  exact lv_bipush C.1.1 C.1.2.1 hd hv (kk H locs la hP hD hS hl)
theorem rg_sipush (C : rC p s m args c E A nL cc Ts own) {n z : Int} (hd : decode cc pc = .ok (.sipush n, 3)) (hv : (Int16.ofInt n).toInt32 = iI z) (kk : rG p l e R s m args below meth c E A nL cells slots Q ws (pc + 3) lv (.int (iI z) :: st)) : rG p l e R s m args below meth c E A nL cells slots Q ws pc lv st := by
  intro H locs la hP hD hS hl
  exact lv_sipush C.1.1 C.1.2.1 hd hv (kk H locs la hP hD hS hl)
theorem rg_lconst (C : rC p s m args c E A nL cc Ts own) {n : Fin 2} {z : Int} (hd : decode cc pc = .ok (.lconst n, 1)) (hv : Int64.ofNat (n : Nat) = lI z) (kk : rG p l e R s m args below meth c E A nL cells slots Q ws (pc + 1) lv (.long (lI z) :: st)) : rG p l e R s m args below meth c E A nL cells slots Q ws pc lv st := by
  intro H locs la hP hD hS hl
  exact lv_lconst C.1.1 C.1.2.1 hd hv (kk H locs la hP hD hS hl)
theorem rg_ldc (C : rC p s m args c E A nL cc Ts own) {index : Nat} {v : Int32} {z : Int} (hm : Jvm.Cond.constant own index v ∈ gW) (hv : v = iI z) (hd : decode cc pc = .ok (.ldc index, 2)) (kk : rG p l e R s m args below meth c E A nL cells slots Q ws (pc + 2) lv (.int (iI z) :: st)) : rG p l e R s m args below meth c E A nL cells slots Q ws pc lv st := by
  intro H locs la hP hD hS hl
  subst hv
  exact lv_ldc C.1.1 C.1.2.1 C.1.2.2.2.1 (C.1.2.2.2.2 _ (C.2.2.2 _ hm)) hd (kk H locs la hP hD hS hl)
theorem rg_ldc2 (C : rC p s m args c E A nL cc Ts own) {index : Nat} {v : Int64} {z : Int} (hm : Jvm.Cond.constantLong own index v ∈ gW) (hv : v = lI z) (hd : decode cc pc = .ok (.ldc2_w index, 3)) (kk : rG p l e R s m args below meth c E A nL cells slots Q ws (pc + 3) lv (.long (lI z) :: st)) : rG p l e R s m args below meth c E A nL cells slots Q ws pc lv st := by
  intro H locs la hP hD hS hl
  subst hv
  exact lv_ldc2 C.1.1 C.1.2.1 C.1.2.2.2.1 (C.1.2.2.2.2 _ (C.2.2.2 _ hm)) hd (kk H locs la hP hD hS hl)
theorem rg_iload_n (C : rC p s m args c E A nL cc Ts own) {n : Fin 4} {i : Nat} {v : Int32} (k : Nat) (hd : decode cc pc = .ok (.iload_n n, 1)) (hi : (n : Nat) = i) (hk : lv[k]? = some (i, .int v)) (kk : rG p l e R s m args below meth c E A nL cells slots Q ws (pc + 1) lv (.int v :: st)) : rG p l e R s m args below meth c E A nL cells slots Q ws pc lv st := by
  intro H locs la hP hD hS hl
  exact lv_iload_n C.1.1 C.1.2.1 hd hi (lv_at hl k hk) (kk H locs la hP hD hS hl)
theorem rg_iload (C : rC p s m args c E A nL cc Ts own) {i : Nat} {v : Int32} (k : Nat) (hd : decode cc pc = .ok (.iload i, 2)) (hk : lv[k]? = some (i, .int v)) (kk : rG p l e R s m args below meth c E A nL cells slots Q ws (pc + 2) lv (.int v :: st)) : rG p l e R s m args below meth c E A nL cells slots Q ws pc lv st := by
  intro H locs la hP hD hS hl
  exact lv_iload C.1.1 C.1.2.1 hd (lv_at hl k hk) (kk H locs la hP hD hS hl)
theorem rg_istore_n (C : rC p s m args c E A nL cc Ts own) {n : Fin 4} {i : Nat} {v : Int32} {lv' : List (Nat × Value)} (hd : decode cc pc = .ok (.istore_n n, 1)) (hi : (n : Nat) = i) (hn : i < nL) (h' : (i, Value.int v) :: lv.filter (fun q => !(q.1 == i) && !(q.1 + 1 == i && q.2.category == 2)) = lv') (kk : rG p l e R s m args below meth c E A nL cells slots Q ws (pc + 1) lv' st) : rG p l e R s m args below meth c E A nL cells slots Q ws pc lv (.int v :: st) := by
  intro H locs la hP hD hS hl
  exact lv_istore_n C.1.1 C.1.2.1 hd hi hl hn h' (fun la' hl' => kk H locs la' hP hD hS hl')
theorem rg_istore (C : rC p s m args c E A nL cc Ts own) {i : Nat} {v : Int32} {lv' : List (Nat × Value)} (hd : decode cc pc = .ok (.istore i, 2)) (hn : i < nL) (h' : (i, Value.int v) :: lv.filter (fun q => !(q.1 == i) && !(q.1 + 1 == i && q.2.category == 2)) = lv') (kk : rG p l e R s m args below meth c E A nL cells slots Q ws (pc + 2) lv' st) : rG p l e R s m args below meth c E A nL cells slots Q ws pc lv (.int v :: st) := by
  intro H locs la hP hD hS hl
  exact lv_istore C.1.1 C.1.2.1 hd hl hn h' (fun la' hl' => kk H locs la' hP hD hS hl')
theorem rg_lload_n (C : rC p s m args c E A nL cc Ts own) {n : Fin 4} {i : Nat} {v : Int64} (k : Nat) (hd : decode cc pc = .ok (.lload_n n, 1)) (hi : (n : Nat) = i) (hk : lv[k]? = some (i, .long v)) (kk : rG p l e R s m args below meth c E A nL cells slots Q ws (pc + 1) lv (.long v :: st)) : rG p l e R s m args below meth c E A nL cells slots Q ws pc lv st := by
  intro H locs la hP hD hS hl
  exact lv_lload_n C.1.1 C.1.2.1 hd hi (lv_at hl k hk) (kk H locs la hP hD hS hl)
theorem rg_lload (C : rC p s m args c E A nL cc Ts own) {i : Nat} {v : Int64} (k : Nat) (hd : decode cc pc = .ok (.lload i, 2)) (hk : lv[k]? = some (i, .long v)) (kk : rG p l e R s m args below meth c E A nL cells slots Q ws (pc + 2) lv (.long v :: st)) : rG p l e R s m args below meth c E A nL cells slots Q ws pc lv st := by
  intro H locs la hP hD hS hl
  exact lv_lload C.1.1 C.1.2.1 hd (lv_at hl k hk) (kk H locs la hP hD hS hl)
theorem rg_lstore_n (C : rC p s m args c E A nL cc Ts own) {n : Fin 4} {i : Nat} {v : Int64} {lv' : List (Nat × Value)} (hd : decode cc pc = .ok (.lstore_n n, 1)) (hi : (n : Nat) = i) (hn : i + 1 < nL) (h' : (i, Value.long v) :: lv.filter (fun q => !(q.1 == i) && (!(q.1 == i + 1) && !(q.1 + 1 == i && q.2.category == 2))) = lv') (kk : rG p l e R s m args below meth c E A nL cells slots Q ws (pc + 1) lv' st) : rG p l e R s m args below meth c E A nL cells slots Q ws pc lv (.long v :: st) := by
  intro H locs la hP hD hS hl
  exact lv_lstore_n C.1.1 C.1.2.1 hd hi hl hn h' (fun la' hl' => kk H locs la' hP hD hS hl')
theorem rg_lstore (C : rC p s m args c E A nL cc Ts own) {i : Nat} {v : Int64} {lv' : List (Nat × Value)} (hd : decode cc pc = .ok (.lstore i, 2)) (hn : i + 1 < nL) (h' : (i, Value.long v) :: lv.filter (fun q => !(q.1 == i) && (!(q.1 == i + 1) && !(q.1 + 1 == i && q.2.category == 2))) = lv') (kk : rG p l e R s m args below meth c E A nL cells slots Q ws (pc + 2) lv' st) : rG p l e R s m args below meth c E A nL cells slots Q ws pc lv (.long v :: st) := by
  intro H locs la hP hD hS hl
  exact lv_lstore C.1.1 C.1.2.1 hd hl hn h' (fun la' hl' => kk H locs la' hP hD hS hl')
theorem rg_aload_n (C : rC p s m args c E A nL cc Ts own) {n : Fin 4} {i : Nat} {v : Nat} (k : Nat) (hd : decode cc pc = .ok (.aload_n n, 1)) (hi : (n : Nat) = i) (hk : lv[k]? = some (i, .ref v)) (kk : rG p l e R s m args below meth c E A nL cells slots Q ws (pc + 1) lv (.ref v :: st)) : rG p l e R s m args below meth c E A nL cells slots Q ws pc lv st := by
  intro H locs la hP hD hS hl
  exact lv_aload_n C.1.1 C.1.2.1 hd hi (lv_at hl k hk) (kk H locs la hP hD hS hl)
theorem rg_aload (C : rC p s m args c E A nL cc Ts own) {i : Nat} {v : Nat} (k : Nat) (hd : decode cc pc = .ok (.aload i, 2)) (hk : lv[k]? = some (i, .ref v)) (kk : rG p l e R s m args below meth c E A nL cells slots Q ws (pc + 2) lv (.ref v :: st)) : rG p l e R s m args below meth c E A nL cells slots Q ws pc lv st := by
  intro H locs la hP hD hS hl
  exact lv_aload C.1.1 C.1.2.1 hd (lv_at hl k hk) (kk H locs la hP hD hS hl)
theorem rg_astore_n (C : rC p s m args c E A nL cc Ts own) {n : Fin 4} {i : Nat} {v : Nat} {lv' : List (Nat × Value)} (hd : decode cc pc = .ok (.astore_n n, 1)) (hi : (n : Nat) = i) (hn : i < nL) (h' : (i, Value.ref v) :: lv.filter (fun q => !(q.1 == i) && !(q.1 + 1 == i && q.2.category == 2)) = lv') (kk : rG p l e R s m args below meth c E A nL cells slots Q ws (pc + 1) lv' st) : rG p l e R s m args below meth c E A nL cells slots Q ws pc lv (.ref v :: st) := by
  intro H locs la hP hD hS hl
  exact lv_astore_n C.1.1 C.1.2.1 hd hi hl hn h' (fun la' hl' => kk H locs la' hP hD hS hl')
theorem rg_astore (C : rC p s m args c E A nL cc Ts own) {i : Nat} {v : Nat} {lv' : List (Nat × Value)} (hd : decode cc pc = .ok (.astore i, 2)) (hn : i < nL) (h' : (i, Value.ref v) :: lv.filter (fun q => !(q.1 == i) && !(q.1 + 1 == i && q.2.category == 2)) = lv') (kk : rG p l e R s m args below meth c E A nL cells slots Q ws (pc + 2) lv' st) : rG p l e R s m args below meth c E A nL cells slots Q ws pc lv (.ref v :: st) := by
  intro H locs la hP hD hS hl
  exact lv_astore C.1.1 C.1.2.1 hd hl hn h' (fun la' hl' => kk H locs la' hP hD hS hl')
theorem rg_iinc (C : rC p s m args c E A nL cc Ts own) {i k : Nat} {n z : Int} {lv' : List (Nat × Value)} (hd : decode cc pc = .ok (.iinc i n, 3)) (hk : lv[k]? = some (i, .int (iI z))) (hn : i < nL) (h' : (i, Value.int (iI (z + n))) :: lv.filter (fun q => !(q.1 == i) && !(q.1 + 1 == i && q.2.category == 2)) = lv') (kk : rG p l e R s m args below meth c E A nL cells slots Q ws (pc + 3) lv' st) : rG p l e R s m args below meth c E A nL cells slots Q ws pc lv st := by
  intro H locs la hP hD hS hl
  exact lv_iinc (v := iI (z + n)) C.1.1 C.1.2.1 hd hl hk (iI_add z n) hn h' (fun la' hl' => kk H locs la' hP hD hS hl')
theorem rg_iadd (C : rC p s m args c E A nL cc Ts own) {a b : Int} (hd : decode cc pc = .ok (.iadd, 1)) (kk : rG p l e R s m args below meth c E A nL cells slots Q ws (pc + 1) lv (.int (iI (a + b)) :: st)) : rG p l e R s m args below meth c E A nL cells slots Q ws pc lv (.int (iI b) :: .int (iI a) :: st) := by
  intro H locs la hP hD hS hl
  refine lv_iadd C.1.1 C.1.2.1 hd ?_
  rw [iI_add]
  exact (kk H locs la hP hD hS hl)
theorem rg_isub (C : rC p s m args c E A nL cc Ts own) {a b : Int} (hd : decode cc pc = .ok (.isub, 1)) (kk : rG p l e R s m args below meth c E A nL cells slots Q ws (pc + 1) lv (.int (iI (a - b)) :: st)) : rG p l e R s m args below meth c E A nL cells slots Q ws pc lv (.int (iI b) :: .int (iI a) :: st) := by
  intro H locs la hP hD hS hl
  refine lv_isub C.1.1 C.1.2.1 hd ?_
  rw [iI_sub]
  exact (kk H locs la hP hD hS hl)
theorem rg_imul (C : rC p s m args c E A nL cc Ts own) {a b : Int} (hd : decode cc pc = .ok (.imul, 1)) (kk : rG p l e R s m args below meth c E A nL cells slots Q ws (pc + 1) lv (.int (iI (a * b)) :: st)) : rG p l e R s m args below meth c E A nL cells slots Q ws pc lv (.int (iI b) :: .int (iI a) :: st) := by
  intro H locs la hP hD hS hl
  refine lv_imul C.1.1 C.1.2.1 hd ?_
  rw [iI_mul]
  exact (kk H locs la hP hD hS hl)
theorem rg_ladd (C : rC p s m args c E A nL cc Ts own) {a b : Int} (hd : decode cc pc = .ok (.ladd, 1)) (kk : rG p l e R s m args below meth c E A nL cells slots Q ws (pc + 1) lv (.long (lI (a + b)) :: st)) : rG p l e R s m args below meth c E A nL cells slots Q ws pc lv (.long (lI b) :: .long (lI a) :: st) := by
  intro H locs la hP hD hS hl
  refine lv_ladd C.1.1 C.1.2.1 hd ?_
  rw [lI_add]
  exact (kk H locs la hP hD hS hl)
theorem rg_lsub (C : rC p s m args c E A nL cc Ts own) {a b : Int} (hd : decode cc pc = .ok (.lsub, 1)) (kk : rG p l e R s m args below meth c E A nL cells slots Q ws (pc + 1) lv (.long (lI (a - b)) :: st)) : rG p l e R s m args below meth c E A nL cells slots Q ws pc lv (.long (lI b) :: .long (lI a) :: st) := by
  intro H locs la hP hD hS hl
  refine lv_lsub C.1.1 C.1.2.1 hd ?_
  rw [lI_sub]
  exact (kk H locs la hP hD hS hl)
theorem rg_lmul (C : rC p s m args c E A nL cc Ts own) {a b : Int} (hd : decode cc pc = .ok (.lmul, 1)) (kk : rG p l e R s m args below meth c E A nL cells slots Q ws (pc + 1) lv (.long (lI (a * b)) :: st)) : rG p l e R s m args below meth c E A nL cells slots Q ws pc lv (.long (lI b) :: .long (lI a) :: st) := by
  intro H locs la hP hD hS hl
  refine lv_lmul C.1.1 C.1.2.1 hd ?_
  rw [lI_mul]
  exact (kk H locs la hP hD hS hl)
theorem rg_idiv (C : rC p s m args c E A nL cc Ts own) {a b : Int} (ha : inI a) (h0 : 0 ≤ a) (hb : 0 < b) (hb2 : inI b) (hd : decode cc pc = .ok (.idiv, 1)) (kk : rG p l e R s m args below meth c E A nL cells slots Q ws (pc + 1) lv (.int (iI (a / b)) :: st)) : rG p l e R s m args below meth c E A nL cells slots Q ws pc lv (.int (iI b) :: .int (iI a) :: st) := by
  intro H locs la hP hD hS hl
  refine lv_idiv C.1.1 C.1.2.1 hd (iI_ne0 (by omega) hb2) ?_
  rw [iI_div ha h0 hb hb2]
  exact (kk H locs la hP hD hS hl)
theorem rg_irem (C : rC p s m args c E A nL cc Ts own) {a b : Int} (ha : inI a) (h0 : 0 ≤ a) (hb : 0 < b) (hb2 : inI b) (hd : decode cc pc = .ok (.irem, 1)) (kk : rG p l e R s m args below meth c E A nL cells slots Q ws (pc + 1) lv (.int (iI (a % b)) :: st)) : rG p l e R s m args below meth c E A nL cells slots Q ws pc lv (.int (iI b) :: .int (iI a) :: st) := by
  intro H locs la hP hD hS hl
  refine lv_irem C.1.1 C.1.2.1 hd (iI_ne0 (by omega) hb2) ?_
  rw [iI_div ha h0 hb hb2, iI_mul, iI_sub, show a - a / b * b = a % b from by rw [Int.mul_comm, Int.emod_def]]
  exact (kk H locs la hP hD hS hl)
theorem rg_ldiv (C : rC p s m args c E A nL cc Ts own) {a b : Int} (ha : inL a) (h0 : 0 ≤ a) (hb : 0 < b) (hb2 : inL b) (hd : decode cc pc = .ok (.ldiv, 1)) (kk : rG p l e R s m args below meth c E A nL cells slots Q ws (pc + 1) lv (.long (lI (a / b)) :: st)) : rG p l e R s m args below meth c E A nL cells slots Q ws pc lv (.long (lI b) :: .long (lI a) :: st) := by
  intro H locs la hP hD hS hl
  refine lv_ldiv C.1.1 C.1.2.1 hd (lI_ne0 (by omega) hb2) ?_
  rw [lI_div ha h0 hb hb2]
  exact (kk H locs la hP hD hS hl)
theorem rg_lrem (C : rC p s m args c E A nL cc Ts own) {a b : Int} (ha : inL a) (h0 : 0 ≤ a) (hb : 0 < b) (hb2 : inL b) (hd : decode cc pc = .ok (.lrem, 1)) (kk : rG p l e R s m args below meth c E A nL cells slots Q ws (pc + 1) lv (.long (lI (a % b)) :: st)) : rG p l e R s m args below meth c E A nL cells slots Q ws pc lv (.long (lI b) :: .long (lI a) :: st) := by
  intro H locs la hP hD hS hl
  refine lv_lrem C.1.1 C.1.2.1 hd (lI_ne0 (by omega) hb2) ?_
  rw [lI_div ha h0 hb hb2, lI_mul, lI_sub, show a - a / b * b = a % b from by rw [Int.mul_comm, Int.emod_def]]
  exact (kk H locs la hP hD hS hl)
theorem rg_i2l (C : rC p s m args c E A nL cc Ts own) {z : Int} (hz : inI z) (hd : decode cc pc = .ok (.i2l, 1)) (kk : rG p l e R s m args below meth c E A nL cells slots Q ws (pc + 1) lv (.long (lI z) :: st)) : rG p l e R s m args below meth c E A nL cells slots Q ws pc lv (.int (iI z) :: st) := by
  intro H locs la hP hD hS hl
  exact lv_i2l C.1.1 C.1.2.1 hd (iI_l hz) (kk H locs la hP hD hS hl)
theorem rg_l2i (C : rC p s m args c E A nL cc Ts own) {z : Int} (hd : decode cc pc = .ok (.l2i, 1)) (kk : rG p l e R s m args below meth c E A nL cells slots Q ws (pc + 1) lv (.int (iI z) :: st)) : rG p l e R s m args below meth c E A nL cells slots Q ws pc lv (.long (lI z) :: st) := by
  intro H locs la hP hD hS hl
  exact lv_l2i C.1.1 C.1.2.1 hd (lI_i z) (kk H locs la hP hD hS hl)
theorem rg_dup (C : rC p s m args c E A nL cc Ts own) {v : Value} (hd : decode cc pc = .ok (.dup, 1)) (hv : v.category = 1) (kk : rG p l e R s m args below meth c E A nL cells slots Q ws (pc + 1) lv (v :: v :: st)) : rG p l e R s m args below meth c E A nL cells slots Q ws pc lv (v :: st) := by
  intro H locs la hP hD hS hl
  exact lv_dup C.1.1 C.1.2.1 hd hv (kk H locs la hP hD hS hl)
theorem rg_pop (C : rC p s m args c E A nL cc Ts own) {v : Value} (hd : decode cc pc = .ok (.pop, 1)) (hv : v.category = 1) (kk : rG p l e R s m args below meth c E A nL cells slots Q ws (pc + 1) lv st) : rG p l e R s m args below meth c E A nL cells slots Q ws pc lv (v :: st) := by
  intro H locs la hP hD hS hl
  exact lv_pop C.1.1 C.1.2.1 hd hv (kk H locs la hP hD hS hl)
theorem rg_dup_x1 (C : rC p s m args c E A nL cc Ts own) {v u : Value} (hd : decode cc pc = .ok (.dup_x1, 1)) (hv : v.category = 1) (hu : u.category = 1) (kk : rG p l e R s m args below meth c E A nL cells slots Q ws (pc + 1) lv (v :: u :: v :: st)) : rG p l e R s m args below meth c E A nL cells slots Q ws pc lv (v :: u :: st) := by
  intro H locs la hP hD hS hl
  exact lv_dup_x1 C.1.1 C.1.2.1 hd hv hu (kk H locs la hP hD hS hl)
theorem rg_dup_x2 (C : rC p s m args c E A nL cc Ts own) {v u t : Value} (hd : decode cc pc = .ok (.dup_x2, 1)) (hv : v.category = 1) (hu : u.category = 1) (ht : t.category = 1) (kk : rG p l e R s m args below meth c E A nL cells slots Q ws (pc + 1) lv (v :: u :: t :: v :: st)) : rG p l e R s m args below meth c E A nL cells slots Q ws pc lv (v :: u :: t :: st) := by
  intro H locs la hP hD hS hl
  exact lv_dup_x2 C.1.1 C.1.2.1 hd hv hu ht (kk H locs la hP hD hS hl)
theorem rg_dup2 (C : rC p s m args c E A nL cc Ts own) {v u : Value} (hd : decode cc pc = .ok (.dup2, 1)) (hv : v.category = 1) (hu : u.category = 1) (kk : rG p l e R s m args below meth c E A nL cells slots Q ws (pc + 1) lv (v :: u :: v :: u :: st)) : rG p l e R s m args below meth c E A nL cells slots Q ws pc lv (v :: u :: st) := by
  intro H locs la hP hD hS hl
  exact lv_dup2_11 C.1.1 C.1.2.1 hd hv hu (kk H locs la hP hD hS hl)
theorem rg_dup2_x2 (C : rC p s m args c E A nL cc Ts own) {v u t : Value} (hd : decode cc pc = .ok (.dup2_x2, 1)) (hv : v.category = 2) (hu : u.category = 1) (ht : t.category = 1) (kk : rG p l e R s m args below meth c E A nL cells slots Q ws (pc + 1) lv (v :: u :: t :: v :: st)) : rG p l e R s m args below meth c E A nL cells slots Q ws pc lv (v :: u :: t :: st) := by
  intro H locs la hP hD hS hl
  exact lv_dup2_x2_2 C.1.1 C.1.2.1 hd hv hu ht (kk H locs la hP hD hS hl)
theorem rg_dup2_x1 (C : rC p s m args c E A nL cc Ts own) {v u : Value} (hd : decode cc pc = .ok (.dup2_x1, 1)) (hv : v.category = 2) (hu : u.category = 1) (kk : rG p l e R s m args below meth c E A nL cells slots Q ws (pc + 1) lv (v :: u :: v :: st)) : rG p l e R s m args below meth c E A nL cells slots Q ws pc lv (v :: u :: st) := by
  intro H locs la hP hD hS hl
  exact lv_dup2_x1_2 C.1.1 C.1.2.1 hd hv hu (kk H locs la hP hD hS hl)
theorem rg_goto (C : rC p s m args c E A nL cc Ts own) {off : Int} {tgt : Nat} (hd : decode cc pc = .ok (.goto off, 3)) (ht : (pc : Int) + off = (tgt : Int)) (kk : rG p l e R s m args below meth c E A nL cells slots Q ws tgt lv st) : rG p l e R s m args below meth c E A nL cells slots Q ws pc lv st := by
  intro H locs la hP hD hS hl
  exact lv_goto C.1.1 C.1.2.1 hd ht (kk H locs la hP hD hS hl)
theorem rg_icmp_eq (C : rC p s m args c E A nL cc Ts own) {a b : Int} {off : Int} {tgt : Nat} (ha : inI a) (hb : inI b) (hd : decode cc pc = .ok (.if_icmp .eq off, 3)) (ht : (pc : Int) + off = (tgt : Int)) (kt : a = b → rG p l e R s m args below meth c E A nL cells slots Q ws tgt lv st) (kf : ¬ (a = b) → rG p l e R s m args below meth c E A nL cells slots Q ws (pc + 3) lv st) : rG p l e R s m args below meth c E A nL cells slots Q ws pc lv (.int (iI b) :: .int (iI a) :: st) := by
  intro H locs la hP hD hS hl
  exact lv_icmp_eq C.1.1 C.1.2.1 hd ht (fun h => kt ((iI_eq ha hb).mp h) H locs la hP hD hS hl) (fun h => kf (fun q => h ((iI_eq ha hb).mpr q)) H locs la hP hD hS hl)
theorem rg_if_eq (C : rC p s m args c E A nL cc Ts own) {a : Int} {off : Int} {tgt : Nat} (ha : inI a) (hd : decode cc pc = .ok (.ifCond .eq off, 3)) (ht : (pc : Int) + off = (tgt : Int)) (kt : a = 0 → rG p l e R s m args below meth c E A nL cells slots Q ws tgt lv st) (kf : ¬ (a = 0) → rG p l e R s m args below meth c E A nL cells slots Q ws (pc + 3) lv st) : rG p l e R s m args below meth c E A nL cells slots Q ws pc lv (.int (iI a) :: st) := by
  intro H locs la hP hD hS hl
  exact lv_if_eq C.1.1 C.1.2.1 hd ht (fun h => kt ((iI_eq ha inI_0).mp h) H locs la hP hD hS hl) (fun h => kf (fun q => h ((iI_eq ha inI_0).mpr q)) H locs la hP hD hS hl)
theorem rg_icmp_ne (C : rC p s m args c E A nL cc Ts own) {a b : Int} {off : Int} {tgt : Nat} (ha : inI a) (hb : inI b) (hd : decode cc pc = .ok (.if_icmp .ne off, 3)) (ht : (pc : Int) + off = (tgt : Int)) (kt : a ≠ b → rG p l e R s m args below meth c E A nL cells slots Q ws tgt lv st) (kf : a = b → rG p l e R s m args below meth c E A nL cells slots Q ws (pc + 3) lv st) : rG p l e R s m args below meth c E A nL cells slots Q ws pc lv (.int (iI b) :: .int (iI a) :: st) := by
  intro H locs la hP hD hS hl
  exact lv_icmp_ne C.1.1 C.1.2.1 hd ht (fun h => kt (fun q => h ((iI_eq ha hb).mpr q)) H locs la hP hD hS hl) (fun h => kf ((iI_eq ha hb).mp h) H locs la hP hD hS hl)
theorem rg_if_ne (C : rC p s m args c E A nL cc Ts own) {a : Int} {off : Int} {tgt : Nat} (ha : inI a) (hd : decode cc pc = .ok (.ifCond .ne off, 3)) (ht : (pc : Int) + off = (tgt : Int)) (kt : a ≠ 0 → rG p l e R s m args below meth c E A nL cells slots Q ws tgt lv st) (kf : a = 0 → rG p l e R s m args below meth c E A nL cells slots Q ws (pc + 3) lv st) : rG p l e R s m args below meth c E A nL cells slots Q ws pc lv (.int (iI a) :: st) := by
  intro H locs la hP hD hS hl
  exact lv_if_ne C.1.1 C.1.2.1 hd ht (fun h => kt (fun q => h ((iI_eq ha inI_0).mpr q)) H locs la hP hD hS hl) (fun h => kf ((iI_eq ha inI_0).mp h) H locs la hP hD hS hl)
theorem rg_icmp_lt (C : rC p s m args c E A nL cc Ts own) {a b : Int} {off : Int} {tgt : Nat} (ha : inI a) (hb : inI b) (hd : decode cc pc = .ok (.if_icmp .lt off, 3)) (ht : (pc : Int) + off = (tgt : Int)) (kt : a < b → rG p l e R s m args below meth c E A nL cells slots Q ws tgt lv st) (kf : ¬ (a < b) → rG p l e R s m args below meth c E A nL cells slots Q ws (pc + 3) lv st) : rG p l e R s m args below meth c E A nL cells slots Q ws pc lv (.int (iI b) :: .int (iI a) :: st) := by
  intro H locs la hP hD hS hl
  exact lv_icmp_lt C.1.1 C.1.2.1 hd ht (fun h => kt ((iI_lt ha hb).mp h) H locs la hP hD hS hl) (fun h => kf (fun q => h ((iI_lt ha hb).mpr q)) H locs la hP hD hS hl)
theorem rg_if_lt (C : rC p s m args c E A nL cc Ts own) {a : Int} {off : Int} {tgt : Nat} (ha : inI a) (hd : decode cc pc = .ok (.ifCond .lt off, 3)) (ht : (pc : Int) + off = (tgt : Int)) (kt : a < 0 → rG p l e R s m args below meth c E A nL cells slots Q ws tgt lv st) (kf : ¬ (a < 0) → rG p l e R s m args below meth c E A nL cells slots Q ws (pc + 3) lv st) : rG p l e R s m args below meth c E A nL cells slots Q ws pc lv (.int (iI a) :: st) := by
  intro H locs la hP hD hS hl
  exact lv_if_lt C.1.1 C.1.2.1 hd ht (fun h => kt ((iI_lt ha inI_0).mp h) H locs la hP hD hS hl) (fun h => kf (fun q => h ((iI_lt ha inI_0).mpr q)) H locs la hP hD hS hl)
theorem rg_icmp_ge (C : rC p s m args c E A nL cc Ts own) {a b : Int} {off : Int} {tgt : Nat} (ha : inI a) (hb : inI b) (hd : decode cc pc = .ok (.if_icmp .ge off, 3)) (ht : (pc : Int) + off = (tgt : Int)) (kt : b ≤ a → rG p l e R s m args below meth c E A nL cells slots Q ws tgt lv st) (kf : ¬ (b ≤ a) → rG p l e R s m args below meth c E A nL cells slots Q ws (pc + 3) lv st) : rG p l e R s m args below meth c E A nL cells slots Q ws pc lv (.int (iI b) :: .int (iI a) :: st) := by
  intro H locs la hP hD hS hl
  exact lv_icmp_ge C.1.1 C.1.2.1 hd ht (fun h => kt ((iI_le hb ha).mp h) H locs la hP hD hS hl) (fun h => kf (fun q => h ((iI_le hb ha).mpr q)) H locs la hP hD hS hl)
theorem rg_if_ge (C : rC p s m args c E A nL cc Ts own) {a : Int} {off : Int} {tgt : Nat} (ha : inI a) (hd : decode cc pc = .ok (.ifCond .ge off, 3)) (ht : (pc : Int) + off = (tgt : Int)) (kt : 0 ≤ a → rG p l e R s m args below meth c E A nL cells slots Q ws tgt lv st) (kf : ¬ (0 ≤ a) → rG p l e R s m args below meth c E A nL cells slots Q ws (pc + 3) lv st) : rG p l e R s m args below meth c E A nL cells slots Q ws pc lv (.int (iI a) :: st) := by
  intro H locs la hP hD hS hl
  exact lv_if_ge C.1.1 C.1.2.1 hd ht (fun h => kt ((iI_le inI_0 ha).mp h) H locs la hP hD hS hl) (fun h => kf (fun q => h ((iI_le inI_0 ha).mpr q)) H locs la hP hD hS hl)
theorem rg_icmp_gt (C : rC p s m args c E A nL cc Ts own) {a b : Int} {off : Int} {tgt : Nat} (ha : inI a) (hb : inI b) (hd : decode cc pc = .ok (.if_icmp .gt off, 3)) (ht : (pc : Int) + off = (tgt : Int)) (kt : b < a → rG p l e R s m args below meth c E A nL cells slots Q ws tgt lv st) (kf : ¬ (b < a) → rG p l e R s m args below meth c E A nL cells slots Q ws (pc + 3) lv st) : rG p l e R s m args below meth c E A nL cells slots Q ws pc lv (.int (iI b) :: .int (iI a) :: st) := by
  intro H locs la hP hD hS hl
  exact lv_icmp_gt C.1.1 C.1.2.1 hd ht (fun h => kt ((iI_lt hb ha).mp h) H locs la hP hD hS hl) (fun h => kf (fun q => h ((iI_lt hb ha).mpr q)) H locs la hP hD hS hl)
theorem rg_if_gt (C : rC p s m args c E A nL cc Ts own) {a : Int} {off : Int} {tgt : Nat} (ha : inI a) (hd : decode cc pc = .ok (.ifCond .gt off, 3)) (ht : (pc : Int) + off = (tgt : Int)) (kt : 0 < a → rG p l e R s m args below meth c E A nL cells slots Q ws tgt lv st) (kf : ¬ (0 < a) → rG p l e R s m args below meth c E A nL cells slots Q ws (pc + 3) lv st) : rG p l e R s m args below meth c E A nL cells slots Q ws pc lv (.int (iI a) :: st) := by
  intro H locs la hP hD hS hl
  exact lv_if_gt C.1.1 C.1.2.1 hd ht (fun h => kt ((iI_lt inI_0 ha).mp h) H locs la hP hD hS hl) (fun h => kf (fun q => h ((iI_lt inI_0 ha).mpr q)) H locs la hP hD hS hl)
theorem rg_icmp_le (C : rC p s m args c E A nL cc Ts own) {a b : Int} {off : Int} {tgt : Nat} (ha : inI a) (hb : inI b) (hd : decode cc pc = .ok (.if_icmp .le off, 3)) (ht : (pc : Int) + off = (tgt : Int)) (kt : a ≤ b → rG p l e R s m args below meth c E A nL cells slots Q ws tgt lv st) (kf : ¬ (a ≤ b) → rG p l e R s m args below meth c E A nL cells slots Q ws (pc + 3) lv st) : rG p l e R s m args below meth c E A nL cells slots Q ws pc lv (.int (iI b) :: .int (iI a) :: st) := by
  intro H locs la hP hD hS hl
  exact lv_icmp_le C.1.1 C.1.2.1 hd ht (fun h => kt ((iI_le ha hb).mp h) H locs la hP hD hS hl) (fun h => kf (fun q => h ((iI_le ha hb).mpr q)) H locs la hP hD hS hl)
theorem rg_if_le (C : rC p s m args c E A nL cc Ts own) {a : Int} {off : Int} {tgt : Nat} (ha : inI a) (hd : decode cc pc = .ok (.ifCond .le off, 3)) (ht : (pc : Int) + off = (tgt : Int)) (kt : a ≤ 0 → rG p l e R s m args below meth c E A nL cells slots Q ws tgt lv st) (kf : ¬ (a ≤ 0) → rG p l e R s m args below meth c E A nL cells slots Q ws (pc + 3) lv st) : rG p l e R s m args below meth c E A nL cells slots Q ws pc lv (.int (iI a) :: st) := by
  intro H locs la hP hD hS hl
  exact lv_if_le C.1.1 C.1.2.1 hd ht (fun h => kt ((iI_le ha inI_0).mp h) H locs la hP hD hS hl) (fun h => kf (fun q => h ((iI_le ha inI_0).mpr q)) H locs la hP hD hS hl)
theorem lgc {x y : Int64} : lg_cmp x y = if y < x then 1 else if x = y then 0 else -1 := rfl
theorem rg_lcmp_eq (C : rC p s m args c E A nL cc Ts own) {a b : Int} {off : Int} {tgt : Nat} (ha : inL a) (hb : inL b) (hd : decode cc pc = .ok (.lcmp, 1)) (hd2 : decode cc (pc + 1) = .ok (.ifCond .eq off, 3)) (ht : ((pc + 1 : Nat) : Int) + off = (tgt : Int)) (kt : a = b → rG p l e R s m args below meth c E A nL cells slots Q ws tgt lv st) (kf : ¬ (a = b) → rG p l e R s m args below meth c E A nL cells slots Q ws (pc + 1 + 3) lv st) : rG p l e R s m args below meth c E A nL cells slots Q ws pc lv (.long (lI b) :: .long (lI a) :: st) := by
  intro H locs la hP hD hS hl
  have h1 := lI_lt hb ha
  have h2 := lI_eq ha hb
  refine W.lcmp C.1.1 C.1.2.1 hd ?_
  have hz : ∃ z : Int, lg_cmp (lI a) (lI b) = iI z ∧ inI z ∧ ((z = 1 ∧ b < a) ∨ (z = 0 ∧ a = b) ∨ (z = -1 ∧ a < b)) := by
    rw [lgc]
    by_cases q1 : b < a
    · exact ⟨1, by rw [if_pos (h1.mpr q1)]; rfl, ⟨by decide, by decide⟩, Or.inl ⟨rfl, q1⟩⟩
    · by_cases q2 : a = b
      · exact ⟨0, by rw [if_neg (fun z => q1 (h1.mp z)), if_pos (h2.mpr q2)]; rfl, ⟨by decide, by decide⟩, Or.inr (Or.inl ⟨rfl, q2⟩)⟩
      · exact ⟨-1, by rw [if_neg (fun z => q1 (h1.mp z)), if_neg (fun z => q2 (h2.mp z))]; rfl, ⟨by decide, by decide⟩, Or.inr (Or.inr ⟨rfl, by omega⟩)⟩
  obtain ⟨z, e1, e2, e3⟩ := hz
  rw [e1]
  exact rg_if_eq C e2 hd2 ht (fun h => kt (by omega)) (fun h => kf (by omega)) H locs la hP hD hS hl
theorem rg_lcmp_ne (C : rC p s m args c E A nL cc Ts own) {a b : Int} {off : Int} {tgt : Nat} (ha : inL a) (hb : inL b) (hd : decode cc pc = .ok (.lcmp, 1)) (hd2 : decode cc (pc + 1) = .ok (.ifCond .ne off, 3)) (ht : ((pc + 1 : Nat) : Int) + off = (tgt : Int)) (kt : a ≠ b → rG p l e R s m args below meth c E A nL cells slots Q ws tgt lv st) (kf : a = b → rG p l e R s m args below meth c E A nL cells slots Q ws (pc + 1 + 3) lv st) : rG p l e R s m args below meth c E A nL cells slots Q ws pc lv (.long (lI b) :: .long (lI a) :: st) := by
  intro H locs la hP hD hS hl
  have h1 := lI_lt hb ha
  have h2 := lI_eq ha hb
  refine W.lcmp C.1.1 C.1.2.1 hd ?_
  have hz : ∃ z : Int, lg_cmp (lI a) (lI b) = iI z ∧ inI z ∧ ((z = 1 ∧ b < a) ∨ (z = 0 ∧ a = b) ∨ (z = -1 ∧ a < b)) := by
    rw [lgc]
    by_cases q1 : b < a
    · exact ⟨1, by rw [if_pos (h1.mpr q1)]; rfl, ⟨by decide, by decide⟩, Or.inl ⟨rfl, q1⟩⟩
    · by_cases q2 : a = b
      · exact ⟨0, by rw [if_neg (fun z => q1 (h1.mp z)), if_pos (h2.mpr q2)]; rfl, ⟨by decide, by decide⟩, Or.inr (Or.inl ⟨rfl, q2⟩)⟩
      · exact ⟨-1, by rw [if_neg (fun z => q1 (h1.mp z)), if_neg (fun z => q2 (h2.mp z))]; rfl, ⟨by decide, by decide⟩, Or.inr (Or.inr ⟨rfl, by omega⟩)⟩
  obtain ⟨z, e1, e2, e3⟩ := hz
  rw [e1]
  exact rg_if_ne C e2 hd2 ht (fun h => kt (by omega)) (fun h => kf (by omega)) H locs la hP hD hS hl
theorem rg_lcmp_lt (C : rC p s m args c E A nL cc Ts own) {a b : Int} {off : Int} {tgt : Nat} (ha : inL a) (hb : inL b) (hd : decode cc pc = .ok (.lcmp, 1)) (hd2 : decode cc (pc + 1) = .ok (.ifCond .lt off, 3)) (ht : ((pc + 1 : Nat) : Int) + off = (tgt : Int)) (kt : a < b → rG p l e R s m args below meth c E A nL cells slots Q ws tgt lv st) (kf : ¬ (a < b) → rG p l e R s m args below meth c E A nL cells slots Q ws (pc + 1 + 3) lv st) : rG p l e R s m args below meth c E A nL cells slots Q ws pc lv (.long (lI b) :: .long (lI a) :: st) := by
  intro H locs la hP hD hS hl
  have h1 := lI_lt hb ha
  have h2 := lI_eq ha hb
  refine W.lcmp C.1.1 C.1.2.1 hd ?_
  have hz : ∃ z : Int, lg_cmp (lI a) (lI b) = iI z ∧ inI z ∧ ((z = 1 ∧ b < a) ∨ (z = 0 ∧ a = b) ∨ (z = -1 ∧ a < b)) := by
    rw [lgc]
    by_cases q1 : b < a
    · exact ⟨1, by rw [if_pos (h1.mpr q1)]; rfl, ⟨by decide, by decide⟩, Or.inl ⟨rfl, q1⟩⟩
    · by_cases q2 : a = b
      · exact ⟨0, by rw [if_neg (fun z => q1 (h1.mp z)), if_pos (h2.mpr q2)]; rfl, ⟨by decide, by decide⟩, Or.inr (Or.inl ⟨rfl, q2⟩)⟩
      · exact ⟨-1, by rw [if_neg (fun z => q1 (h1.mp z)), if_neg (fun z => q2 (h2.mp z))]; rfl, ⟨by decide, by decide⟩, Or.inr (Or.inr ⟨rfl, by omega⟩)⟩
  obtain ⟨z, e1, e2, e3⟩ := hz
  rw [e1]
  exact rg_if_lt C e2 hd2 ht (fun h => kt (by omega)) (fun h => kf (by omega)) H locs la hP hD hS hl
theorem rg_lcmp_ge (C : rC p s m args c E A nL cc Ts own) {a b : Int} {off : Int} {tgt : Nat} (ha : inL a) (hb : inL b) (hd : decode cc pc = .ok (.lcmp, 1)) (hd2 : decode cc (pc + 1) = .ok (.ifCond .ge off, 3)) (ht : ((pc + 1 : Nat) : Int) + off = (tgt : Int)) (kt : b ≤ a → rG p l e R s m args below meth c E A nL cells slots Q ws tgt lv st) (kf : ¬ (b ≤ a) → rG p l e R s m args below meth c E A nL cells slots Q ws (pc + 1 + 3) lv st) : rG p l e R s m args below meth c E A nL cells slots Q ws pc lv (.long (lI b) :: .long (lI a) :: st) := by
  intro H locs la hP hD hS hl
  have h1 := lI_lt hb ha
  have h2 := lI_eq ha hb
  refine W.lcmp C.1.1 C.1.2.1 hd ?_
  have hz : ∃ z : Int, lg_cmp (lI a) (lI b) = iI z ∧ inI z ∧ ((z = 1 ∧ b < a) ∨ (z = 0 ∧ a = b) ∨ (z = -1 ∧ a < b)) := by
    rw [lgc]
    by_cases q1 : b < a
    · exact ⟨1, by rw [if_pos (h1.mpr q1)]; rfl, ⟨by decide, by decide⟩, Or.inl ⟨rfl, q1⟩⟩
    · by_cases q2 : a = b
      · exact ⟨0, by rw [if_neg (fun z => q1 (h1.mp z)), if_pos (h2.mpr q2)]; rfl, ⟨by decide, by decide⟩, Or.inr (Or.inl ⟨rfl, q2⟩)⟩
      · exact ⟨-1, by rw [if_neg (fun z => q1 (h1.mp z)), if_neg (fun z => q2 (h2.mp z))]; rfl, ⟨by decide, by decide⟩, Or.inr (Or.inr ⟨rfl, by omega⟩)⟩
  obtain ⟨z, e1, e2, e3⟩ := hz
  rw [e1]
  exact rg_if_ge C e2 hd2 ht (fun h => kt (by omega)) (fun h => kf (by omega)) H locs la hP hD hS hl
theorem rg_lcmp_gt (C : rC p s m args c E A nL cc Ts own) {a b : Int} {off : Int} {tgt : Nat} (ha : inL a) (hb : inL b) (hd : decode cc pc = .ok (.lcmp, 1)) (hd2 : decode cc (pc + 1) = .ok (.ifCond .gt off, 3)) (ht : ((pc + 1 : Nat) : Int) + off = (tgt : Int)) (kt : b < a → rG p l e R s m args below meth c E A nL cells slots Q ws tgt lv st) (kf : ¬ (b < a) → rG p l e R s m args below meth c E A nL cells slots Q ws (pc + 1 + 3) lv st) : rG p l e R s m args below meth c E A nL cells slots Q ws pc lv (.long (lI b) :: .long (lI a) :: st) := by
  intro H locs la hP hD hS hl
  have h1 := lI_lt hb ha
  have h2 := lI_eq ha hb
  refine W.lcmp C.1.1 C.1.2.1 hd ?_
  have hz : ∃ z : Int, lg_cmp (lI a) (lI b) = iI z ∧ inI z ∧ ((z = 1 ∧ b < a) ∨ (z = 0 ∧ a = b) ∨ (z = -1 ∧ a < b)) := by
    rw [lgc]
    by_cases q1 : b < a
    · exact ⟨1, by rw [if_pos (h1.mpr q1)]; rfl, ⟨by decide, by decide⟩, Or.inl ⟨rfl, q1⟩⟩
    · by_cases q2 : a = b
      · exact ⟨0, by rw [if_neg (fun z => q1 (h1.mp z)), if_pos (h2.mpr q2)]; rfl, ⟨by decide, by decide⟩, Or.inr (Or.inl ⟨rfl, q2⟩)⟩
      · exact ⟨-1, by rw [if_neg (fun z => q1 (h1.mp z)), if_neg (fun z => q2 (h2.mp z))]; rfl, ⟨by decide, by decide⟩, Or.inr (Or.inr ⟨rfl, by omega⟩)⟩
  obtain ⟨z, e1, e2, e3⟩ := hz
  rw [e1]
  exact rg_if_gt C e2 hd2 ht (fun h => kt (by omega)) (fun h => kf (by omega)) H locs la hP hD hS hl
theorem rg_lcmp_le (C : rC p s m args c E A nL cc Ts own) {a b : Int} {off : Int} {tgt : Nat} (ha : inL a) (hb : inL b) (hd : decode cc pc = .ok (.lcmp, 1)) (hd2 : decode cc (pc + 1) = .ok (.ifCond .le off, 3)) (ht : ((pc + 1 : Nat) : Int) + off = (tgt : Int)) (kt : a ≤ b → rG p l e R s m args below meth c E A nL cells slots Q ws tgt lv st) (kf : ¬ (a ≤ b) → rG p l e R s m args below meth c E A nL cells slots Q ws (pc + 1 + 3) lv st) : rG p l e R s m args below meth c E A nL cells slots Q ws pc lv (.long (lI b) :: .long (lI a) :: st) := by
  intro H locs la hP hD hS hl
  have h1 := lI_lt hb ha
  have h2 := lI_eq ha hb
  refine W.lcmp C.1.1 C.1.2.1 hd ?_
  have hz : ∃ z : Int, lg_cmp (lI a) (lI b) = iI z ∧ inI z ∧ ((z = 1 ∧ b < a) ∨ (z = 0 ∧ a = b) ∨ (z = -1 ∧ a < b)) := by
    rw [lgc]
    by_cases q1 : b < a
    · exact ⟨1, by rw [if_pos (h1.mpr q1)]; rfl, ⟨by decide, by decide⟩, Or.inl ⟨rfl, q1⟩⟩
    · by_cases q2 : a = b
      · exact ⟨0, by rw [if_neg (fun z => q1 (h1.mp z)), if_pos (h2.mpr q2)]; rfl, ⟨by decide, by decide⟩, Or.inr (Or.inl ⟨rfl, q2⟩)⟩
      · exact ⟨-1, by rw [if_neg (fun z => q1 (h1.mp z)), if_neg (fun z => q2 (h2.mp z))]; rfl, ⟨by decide, by decide⟩, Or.inr (Or.inr ⟨rfl, by omega⟩)⟩
  obtain ⟨z, e1, e2, e3⟩ := hz
  rw [e1]
  exact rg_if_le C e2 hd2 ht (fun h => kt (by omega)) (fun h => kf (by omega)) H locs la hP hD hS hl
theorem rg_tableOut (C : rC p s m args c E A nL cc Ts own) {dflt lo hi : Int} {offs : Array Int} {len tgt : Nat} {z : Int} (hz : inI z) (hd : decode cc pc = .ok (.tableswitch dflt lo hi offs, len)) (h : z < lo ∨ hi < z) (ht : (pc : Int) + dflt = (tgt : Int)) (kk : rG p l e R s m args below meth c E A nL cells slots Q ws tgt lv st) : rG p l e R s m args below meth c E A nL cells slots Q ws pc lv (.int (iI z) :: st) := by
  intro H locs la hP hD hS hl
  exact lv_tableOut C.1.1 C.1.2.1 hd (by rw [iI_to hz]; exact h) ht (kk H locs la hP hD hS hl)
theorem rg_tableIn (C : rC p s m args c E A nL cc Ts own) {dflt lo hi off : Int} {offs : Array Int} {len tgt : Nat} {z : Int} (hz : inI z) (hd : decode cc pc = .ok (.tableswitch dflt lo hi offs, len)) (h1 : ¬ z < lo) (h2 : ¬ hi < z) (ho : offs[(z - lo).toNat]? = some off) (ht : (pc : Int) + off = (tgt : Int)) (kk : rG p l e R s m args below meth c E A nL cells slots Q ws tgt lv st) : rG p l e R s m args below meth c E A nL cells slots Q ws pc lv (.int (iI z) :: st) := by
  intro H locs la hP hD hS hl
  exact lv_tableIn C.1.1 C.1.2.1 hd (by rw [iI_to hz]; exact h1) (by rw [iI_to hz]; exact h2) (by rw [iI_to hz]; exact ho) ht (kk H locs la hP hD hS hl)
/-- a field, as a method's pool index names it -/
def rFld (own : String) (index : Nat) (Cn : String) (T : u_T) (N ci k : Nat) : Prop := (∀ w ∈ u_ws Cn T N, w ∈ gW) ∧ vwCl[ci]? = some (Cn, T, N) ∧ k < N ∧ Cond.fieldLink own index (T k).1 (T k).2.1 (T k).2.2.1 ∈ gW
/-- what the tables say for a store -/
def rLay (T : u_T) (N : Nat) (ty : Nat → FieldType) : Prop := (∀ k, k < N → parseFieldDescriptor (T k).2.2.1 = some (ty k)) ∧ ∀ a, a < N → ∀ b, b < N → a ≠ b → (T a).2.1 ≠ (T b).2.1
theorem rg_get (C : rC p s m args c E A nL cc Ts own) {Cn : String} {T : u_T} {N ci k index a : Nat} {fs : List Value} {v : Value} (F : rFld own index Cn T N ci k) (q0 : Nat) (he : ws[q0]? = some (a, .inr (ci, fs))) (hv : fs[k]? = some v) (hd : decode cc pc = .ok (.getfield index, 3)) (kk : rG p l e R s m args below meth c E A nL cells slots Q ws (pc + 3) lv (v :: st)) : rG p l e R s m args below meth c E A nL cells slots Q ws pc lv (.ref a :: st) := by
  intro H locs la hP hD hS hl
  exact va_get C.1.1 C.1.2.1 C.1.2.2.2.2 (fun w h => C.2.2.2 w (F.1 w h)) C.1.2.2.2.1 C.2.1 hP q0 he F.2.1 k F.2.2.1 (C.1.2.2.2.2 _ (C.2.2.2 _ F.2.2.2)) (fun _ h => h) hv hd (kk H locs la hP hD hS hl)
theorem rg_put (C : rC p s m args c E A nL cc Ts own) {Cn : String} {T : u_T} {N ci k index a : Nat} {fs : List Value} {v : Value} {ty : Nat → FieldType} {ws' : va_W} (F : rFld own index Cn T N ci k) (L : rLay T N ty) (hf : (T k).2.2.2 = false) (q0 : Nat) (he : ws[q0]? = some (a, .inr (ci, fs))) (hn : narrow (ty k) v = v) (hfit : fits (ty k) v = true) (hlen : k < fs.length) (hd : decode cc pc = .ok (.putfield index, 3)) (hw : ws.set q0 (a, .inr (ci, fs.set k v)) = ws') (kk : rG p l e R s m args below meth c E A nL cells slots Q ws' (pc + 3) lv st) : rG p l e R s m args below meth c E A nL cells slots Q ws pc lv (v :: .ref a :: st) := by
  intro H locs la hP hD hS hl
  subst hw
  exact va_put (ty := ty k) C.1.1 C.1.2.1 C.1.2.2.2.2 (fun w h => C.2.2.2 w (F.1 w h)) ty L.1 L.2 C.1.2.2.2.1 C.2.1 hP hD hS q0 he F.2.1 k F.2.2.1 (C.1.2.2.2.2 _ (C.2.2.2 _ F.2.2.2)) (fun _ h => h) hf (L.1 k F.2.2.1) hn hfit hlen hd (fun H1 locs1 hP1 hD1 hS1 => kk H1 locs1 la hP1 hD1 hS1 hl)
theorem rg_putF (C : rC p s m args c E A nL cc Ts own) {Cn : String} {T : u_T} {N ci k index a : Nat} {fs : List Value} {v : Value} {ty : Nat → FieldType} {ws' : va_W} (F : rFld own index Cn T N ci k) (L : rLay T N ty) (hf : (T k).2.2.2 = true) (hin : meth.name = "<init>") (hdc : (T k).1 = own) (q0 : Nat) (he : ws[q0]? = some (a, .inr (ci, fs))) (hn : narrow (ty k) v = v) (hfit : fits (ty k) v = true) (hlen : k < fs.length) (hd : decode cc pc = .ok (.putfield index, 3)) (hw : ws.set q0 (a, .inr (ci, fs.set k v)) = ws') (kk : rG p l e R s m args below meth c E A nL cells slots Q ws' (pc + 3) lv st) : rG p l e R s m args below meth c E A nL cells slots Q ws pc lv (v :: .ref a :: st) := by
  intro H locs la hP hD hS hl
  subst hw
  exact va_putF (ty := ty k) C.1.1 C.1.2.1 C.1.2.2.2.2 (fun w h => C.2.2.2 w (F.1 w h)) ty L.1 L.2 C.1.2.2.2.1 C.2.1 hP hD hS q0 he F.2.1 k F.2.2.1 (C.1.2.2.2.2 _ (C.2.2.2 _ F.2.2.2)) (fun _ h => h) hf hin hdc (L.1 k F.2.2.1) hn hfit hlen hd (fun H1 locs1 hP1 hD1 hS1 => kk H1 locs1 la hP1 hD1 hS1 hl)
theorem rg_iald (C : rC p s m args c E A nL cc Ts own) {a n : Nat} {f : Nat → Int} {z : Int} (q0 : Nat) (ha : ws[q0]? = some (cI E a n f)) (hn : n < 2147483648) (h0 : 0 ≤ z) (h1 : z < (n : Int)) (hd : decode cc pc = .ok (.iaload, 1)) (kk : rG p l e R s m args below meth c E A nL cells slots Q ws (pc + 1) lv (.int (iI (f z.toNat)) :: st)) : rG p l e R s m args below meth c E A nL cells slots Q ws pc lv (.int (iI z) :: .ref a :: st) := by
  intro H locs la hP hD hS hl
  refine va_iald C.1.1 C.1.2.1 C.2.1 hP q0 0 ha rfl (iI_in h0 h1 hn) hd ?_
  rw [iI_cl h0 (by omega)]
  exact (kk H locs la hP hD hS hl)
theorem rg_zald (C : rC p s m args c E A nL cc Ts own) {a n : Nat} {f : Nat → Int} {z : Int} (q0 : Nat) (ha : ws[q0]? = some (cZ E a n f)) (hn : n < 2147483648) (h0 : 0 ≤ z) (h1 : z < (n : Int)) (hd : decode cc pc = .ok (.baload, 1)) (kk : rG p l e R s m args below meth c E A nL cells slots Q ws (pc + 1) lv (.int (iI (f z.toNat)) :: st)) : rG p l e R s m args below meth c E A nL cells slots Q ws pc lv (.int (iI z) :: .ref a :: st) := by
  intro H locs la hP hD hS hl
  refine va_zald C.1.1 C.1.2.1 C.2.1 hP q0 1 ha rfl (iI_in h0 h1 hn) hd ?_
  rw [iI_cl h0 (by omega)]
  exact (kk H locs la hP hD hS hl)
theorem rg_lald (C : rC p s m args c E A nL cc Ts own) {a n : Nat} {f : Nat → Int} {z : Int} (q0 : Nat) (ha : ws[q0]? = some (cJ E a n f)) (hn : n < 2147483648) (h0 : 0 ≤ z) (h1 : z < (n : Int)) (hd : decode cc pc = .ok (.laload, 1)) (kk : rG p l e R s m args below meth c E A nL cells slots Q ws (pc + 1) lv (.long (lI (f z.toNat)) :: st)) : rG p l e R s m args below meth c E A nL cells slots Q ws pc lv (.int (iI z) :: .ref a :: st) := by
  intro H locs la hP hD hS hl
  refine va_lald C.1.1 C.1.2.1 C.2.1 hP q0 2 ha rfl (iI_in h0 h1 hn) hd ?_
  rw [iI_cl h0 (by omega)]
  exact (kk H locs la hP hD hS hl)
theorem rg_iast (C : rC p s m args c E A nL cc Ts own) {a n : Nat} {f : Nat → Int} {z x : Int} {ws' : va_W} (q0 : Nat) (ha : ws[q0]? = some (cI E a n f)) (hn : n < 2147483648) (h0 : 0 ≤ z) (h1 : z < (n : Int)) (hd : decode cc pc = .ok (.iastore, 1)) (hw : ws.set q0 (cI E a n (uZ f z.toNat x)) = ws') (kk : rG p l e R s m args below meth c E A nL cells slots Q ws' (pc + 1) lv st) : rG p l e R s m args below meth c E A nL cells slots Q ws pc lv (.int (iI x) :: .int (iI z) :: .ref a :: st) := by
  intro H locs la hP hD hS hl
  subst hw
  refine va_iast C.1.1 C.1.2.1 C.2.1 hP hD hS q0 0 ha rfl (iI_in h0 h1 hn) hd ?_
  rw [iI_cl h0 (by omega), upd_iI]
  exact fun H1 locs1 hP1 hD1 hS1 => kk H1 locs1 la hP1 hD1 hS1 hl
theorem rg_zast (C : rC p s m args c E A nL cc Ts own) {a n : Nat} {f : Nat → Int} {z x : Int} {ws' : va_W} (q0 : Nat) (ha : ws[q0]? = some (cZ E a n f)) (hn : n < 2147483648) (h0 : 0 ≤ z) (h1 : z < (n : Int)) (hx : vp_nar .boolean (iI x) = iI x) (hd : decode cc pc = .ok (.bastore, 1)) (hw : ws.set q0 (cZ E a n (uZ f z.toNat x)) = ws') (kk : rG p l e R s m args below meth c E A nL cells slots Q ws' (pc + 1) lv st) : rG p l e R s m args below meth c E A nL cells slots Q ws pc lv (.int (iI x) :: .int (iI z) :: .ref a :: st) := by
  intro H locs la hP hD hS hl
  subst hw
  refine va_zast C.1.1 C.1.2.1 C.2.1 hP hD hS q0 1 ha rfl (iI_in h0 h1 hn) hd ?_
  rw [hx, iI_cl h0 (by omega), upd_iI]
  exact fun H1 locs1 hP1 hD1 hS1 => kk H1 locs1 la hP1 hD1 hS1 hl
theorem rg_last (C : rC p s m args c E A nL cc Ts own) {a n : Nat} {f : Nat → Int} {z x : Int} {ws' : va_W} (q0 : Nat) (ha : ws[q0]? = some (cJ E a n f)) (hn : n < 2147483648) (h0 : 0 ≤ z) (h1 : z < (n : Int)) (hd : decode cc pc = .ok (.lastore, 1)) (hw : ws.set q0 (cJ E a n (uZ f z.toNat x)) = ws') (kk : rG p l e R s m args below meth c E A nL cells slots Q ws' (pc + 1) lv st) : rG p l e R s m args below meth c E A nL cells slots Q ws pc lv (.long (lI x) :: .int (iI z) :: .ref a :: st) := by
  intro H locs la hP hD hS hl
  subst hw
  refine va_last C.1.1 C.1.2.1 C.2.1 hP hD hS q0 2 ha rfl (iI_in h0 h1 hn) hd ?_
  rw [iI_cl h0 (by omega), upd_lI]
  exact fun H1 locs1 hP1 hD1 hS1 => kk H1 locs1 la hP1 hD1 hS1 hl
theorem rg_leni (C : rC p s m args c E A nL cc Ts own) {a n : Nat} {f : Nat → Int} (q0 : Nat) (ha : ws[q0]? = some (cI E a n f)) (hd : decode cc pc = .ok (.arraylength, 1)) (kk : rG p l e R s m args below meth c E A nL cells slots Q ws (pc + 1) lv (.int (iI (n : Int)) :: st)) : rG p l e R s m args below meth c E A nL cells slots Q ws pc lv (.ref a :: st) := by
  intro H locs la hP hD hS hl
  exact va_alen (v := iI (n : Int)) C.1.1 C.1.2.1 C.2.1 hP q0 0 ha (ty := .int) rfl (Int32.ofInt_eq_ofNat.symm) hd (kk H locs la hP hD hS hl)
theorem rg_lenz (C : rC p s m args c E A nL cc Ts own) {a n : Nat} {f : Nat → Int} (q0 : Nat) (ha : ws[q0]? = some (cZ E a n f)) (hd : decode cc pc = .ok (.arraylength, 1)) (kk : rG p l e R s m args below meth c E A nL cells slots Q ws (pc + 1) lv (.int (iI (n : Int)) :: st)) : rG p l e R s m args below meth c E A nL cells slots Q ws pc lv (.ref a :: st) := by
  intro H locs la hP hD hS hl
  exact va_alen (v := iI (n : Int)) C.1.1 C.1.2.1 C.2.1 hP q0 1 ha (ty := .boolean) rfl (Int32.ofInt_eq_ofNat.symm) hd (kk H locs la hP hD hS hl)
theorem rg_lenj (C : rC p s m args c E A nL cc Ts own) {a n : Nat} {f : Nat → Int} (q0 : Nat) (ha : ws[q0]? = some (cJ E a n f)) (hd : decode cc pc = .ok (.arraylength, 1)) (kk : rG p l e R s m args below meth c E A nL cells slots Q ws (pc + 1) lv (.int (iI (n : Int)) :: st)) : rG p l e R s m args below meth c E A nL cells slots Q ws pc lv (.ref a :: st) := by
  intro H locs la hP hD hS hl
  exact va_alen (v := iI (n : Int)) C.1.1 C.1.2.1 C.2.1 hP q0 2 ha (ty := .long) rfl (Int32.ofInt_eq_ofNat.symm) hd (kk H locs la hP hD hS hl)
end RV1
end
section
/-! contracts: from the cells cin (and any others, which stay) the method returns r, the cells are cout u -/
def rP (E : rE) (cin : va_W) (sz : Nat) (U : State) : Prop := U.heap.size = sz ∧ rK E U ∧ va_P E.1 vwCl cin U.heap ∧ va_D (fun _ => True) cin
def rQ (E : rE) (cin : va_W) (sz : Nat) {S : Type} (r : Option Value) (cout : S → va_W) : Array Value → State → Outcome → State → Prop := fun _ st o t => (∃ u : S, o = .returned r ∧ rK E t ∧ va_P E.1 vwCl (cout u) t.heap ∧ va_D (va_A cin sz) (cout u)) ∧ va_F (va_A cin sz) st t
def rM (l : Launch) (y : MethodName) (ws : List Cond) (rm : Room) (E : rE) (cin : va_W) (av : List Value) {S : Type} (r : Option Value) (cout : S → va_W) : Prop := ∀ sz : Nat, Met l y ws rm (va_Pc av (rP E cin sz)) (rQ E cin sz r cout) rm.cells rm.slots (va_A cin sz)
theorem rP_blind (E : rE) (cin : va_W) (sz : Nat) (av : List Value) : FrameBlind (va_Pc av (rP E cin sz)) := fun a U g mk q => by
  obtain ⟨q0, q1, qK, qP, qD⟩ := q
  exact ⟨q0, q1, va_K.moved (u := U) (U := U.calling g mk a) (Vm.Alike.refl U.vm) qK, qP, qD⟩
theorem rM.of {l : Launch} {y : MethodName} {ws ws' : List Cond} {rm : Room} {E : rE} {cin : va_W} {av : List Value} {S : Type} {r : Option Value} {cout : S → va_W} {cc : ByteArray} {maxL : Nat} {ret : Option FieldType}
    (hy : plainName y.cls = true) (hw : ws = Cond.code y cc maxL ret :: ws') (hle : (lg_sl av).length ≤ maxL)
    (hg : ∀ w ∈ gW, w ∈ ws)
    (body : ∀ (p : Program) (e : Env) (s : State) (m : MethodId) (args : Array Value) (below : List Frame) (meth : Method) (c : Code) (A : Nat → Prop) (Q : State → Prop), A = va_A cin s.heap.size → Q = MQ below (rQ E cin s.heap.size r cout) args s rm.cells rm.slots A → rC p s m args c E A maxL cc ws y.cls → meth.sig.returnType = ret → meth.locks = false → meth.name = y.name →
      rG p l e rm s m args below meth c E A maxL 0 0 Q cin 0 (lv_args 0 av) []) : rM l y ws rm E cin av r cout := by
  intro sz
  refine Met.ofW (cc := cc) (maxL := maxL) (ret := ret) hy hw ?_
  intro p e s m args below meth c s₁ B hml hv
  obtain ⟨rfl, hsz, hK, hP, hD0⟩ := hv
  subst hsz
  have hb := body p e s m av.toArray below meth c (va_A cin s.heap.size) _ rfl rfl ⟨⟨B.exec, B.bytes, hml, findClass_of_methodNamed B.named, atoms_spec (ws := ws) B.pre⟩, hK, fun q h => Or.inr h, hg⟩ B.returns B.notSynchronized (name_of_methodNamed B.named B.method).1
  rw [lg_entry_eq]
  exact hb s.heap [] _ hP hD0.self va_S.rf (lv_entry av hle)
section RV2
variable {p : Program} {l : Launch} {e : Env} {R : Room} {s : State} {m : MethodId} {args : Array Value} {below : List Frame} {meth : Method} {c : Code} {E : rE} {A : Nat → Prop} {nL cells slots : Nat} {Q : State → Prop} {ws : va_W} {pc : Nat} {lv : List (Nat × Value)} {st : List Value} {cc : ByteArray} {Ts : List Cond} {own : String}
variable {S : Type} {cin wr : va_W} {cout w' : S → va_W} {r : Option Value}
theorem rg_iret (C : rC p s m args c E A nL cc Ts own) (hA : A = va_A cin s.heap.size) (hQ : Q = MQ below (rQ E cin s.heap.size r cout) args s cells slots A) (hr : meth.sig.returnType = some .int) (hlk : meth.locks = false) (u : S) (hw : ws = cout u) {v : Int32} (hv : r = some (.int v)) (hd : decode cc pc = .ok (.ireturn, 1)) : rG p l e R s m args below meth c E A nL cells slots Q ws pc lv [.int v] := by
  intro H locs la hP hD hS hl
  subst hQ hv hw hA
  exact W.iret C.1.1 C.1.2.1 hr (fun t ht hW => ⟨⟨u, rfl, va_K.moved hW.alike C.2.1, by rw [ht]; exact hP, hD⟩, hS.F ht⟩) hS.2.2 hd hlk
theorem rg_zret (C : rC p s m args c E A nL cc Ts own) (hA : A = va_A cin s.heap.size) (hQ : Q = MQ below (rQ E cin s.heap.size r cout) args s cells slots A) {ty : FieldType} (hr : meth.sig.returnType = some ty) (hlk : meth.locks = false) (u : S) (hw : ws = cout u) {v : Int32} (hn : narrow ty (.int v) = .int v) (hv : r = some (.int v)) (hd : decode cc pc = .ok (.ireturn, 1)) : rG p l e R s m args below meth c E A nL cells slots Q ws pc lv [.int v] := by
  intro H locs la hP hD hS hl
  subst hQ hv hw hA
  exact W.zret C.1.1 C.1.2.1 hr hn (fun t ht hW => ⟨⟨u, rfl, va_K.moved hW.alike C.2.1, by rw [ht]; exact hP, hD⟩, hS.F ht⟩) hS.2.2 hd hlk
theorem rg_lret (C : rC p s m args c E A nL cc Ts own) (hA : A = va_A cin s.heap.size) (hQ : Q = MQ below (rQ E cin s.heap.size r cout) args s cells slots A) (hr : meth.sig.returnType = some .long) (hlk : meth.locks = false) (u : S) (hw : ws = cout u) {v : Int64} (hv : r = some (.long v)) (hd : decode cc pc = .ok (.lreturn, 1)) : rG p l e R s m args below meth c E A nL cells slots Q ws pc lv [.long v] := by
  intro H locs la hP hD hS hl
  subst hQ hv hw hA
  exact W.lret C.1.1 C.1.2.1 hr (fun t ht hW => ⟨⟨u, rfl, va_K.moved hW.alike C.2.1, by rw [ht]; exact hP, hD⟩, hS.F ht⟩) hS.2.2 hd hlk
theorem rg_vret (C : rC p s m args c E A nL cc Ts own) (hA : A = va_A cin s.heap.size) (hQ : Q = MQ below (rQ E cin s.heap.size r cout) args s cells slots A) (hr : meth.sig.returnType = none) (hlk : meth.locks = false) (u : S) (hw : ws = cout u) (hv : r = none) (hd : decode cc pc = .ok (.return_, 1)) : rG p l e R s m args below meth c E A nL cells slots Q ws pc lv [] := by
  intro H locs la hP hD hS hl
  subst hQ hv hw hA
  exact W.vret C.1.1 C.1.2.1 hr (fun t ht hW => ⟨⟨u, rfl, va_K.moved hW.alike C.2.1, by rw [ht]; exact hP, hD⟩, hS.F ht⟩) hS.2.2 hd hlk
/-- behind a call: the callee's cells and the rest, in the order that ps says -/
theorem rg_after {H : Heap} {locs : List Loc} {la : Array Slot} {mc ms : Nat} {st0 rest : List Value} {av : Array Value} (C : rC p s m args c E A nL cc Ts own)
    (hP : va_P E.1 vwCl ws H) (hD : va_D A ws) (hS : va_S A s.heap H locs) (hl : lv_has la nL lv)
    (run : va_Run p l e R s m args below meth c H locs cells slots mc ms (F0 m pc la st0) rest (rQ E cin H.size r cout av) (va_A cin H.size))
    (isC isR ps : List Nat) (hC : isC.map (fun i => ws[i]?) = cin.map some) (hR : isR.map (fun i => ws[i]?) = wr.map some) (hnR : va_nd isR = true) (hdis : ∀ i ∈ isR, i ∉ isC)
    (hps : ∀ u, ps.map (fun i => (wr ++ cout u)[i]?) = (w' u).map some) (hnp : va_nd ps = true)
    (kk : ∀ u, rG p l e R s m args below meth c E A nL (cells + mc) (slots + ms) Q (w' u) (pc + 3) lv (r.toList ++ rest)) : W p l e R s m args below meth c H locs cells slots Q (F0 m pc la st0) := by
  have hFc := va_free (wc := cin) hD hS C.2.2.1 isC hC
  intro T hT X
  obtain ⟨v, st₀, t, T', L, h0, X', hL, e1, e2, ⟨⟨u, hv, hK1, hP1, hD1⟩, hz, hk⟩, stp⟩ := run T hT X
  cases hv
  rw [h0] at hz hk
  rw [← e1] at hz hk hP1
  obtain ⟨hPj, hDj⟩ := va_join (wr := wr) (w1 := cout u) hP hD isC isR hC hR hnR hdis hk hFc hP1 hD1
  have hS1 : va_S A s.heap T'.heap (locs ++ L) := ⟨Nat.le_trans hS.1 hz, fun q h1 h2 => by
      rw [hk q (Nat.lt_of_lt_of_le h1 hS.1) (fun z => h2 (hFc q z))]
      exact hS.2.1 q h1 h2, fun q hq => by
      rcases List.mem_append.mp hq with h | h
      · exact hS.2.2 q h
      · exact hFc _ (hL q h)⟩
  obtain ⟨t2, a1, b1⟩ := kk u T'.heap (locs ++ L) la (hPj.sub ps (sel_map (hps u))) (hDj.sub ps hnp (hps u)) hS1 hl T' rfl X'
  exact ⟨t2, stp t2 a1, b1⟩
variable {y : MethodName} {bytes : ByteArray} {maxL index n : Nat} {ret : Option FieldType} {wsy : List Cond} {rm : Room} {As rest : List Value} {b : Nat}
theorem rg_callV {Cn : String} {T : u_T} {N ci : Nat} {fs : List Value} (C : rC p s m args c E A nL cc Ts own) (M : rM l y wsy rm E cin (.ref b :: As) r cout) (cw : CallW R s args own Cn index y bytes maxL ret wsy rm rm.cells rm.slots n)
    (isC isR ps : List Nat) (hC : isC.map (fun i => ws[i]?) = cin.map some) (hR : isR.map (fun i => ws[i]?) = wr.map some) (hnC : va_nd isC = true) (hnR : va_nd isR = true) (hdis : ∀ i ∈ isR, i ∉ isC)
    (hps : ∀ u, ps.map (fun i => (wr ++ cout u)[i]?) = (w' u).map some) (hnp : va_nd ps = true)
    (q0 : Nat) (he : cin[q0]? = some (b, .inr (ci, fs))) (hc : vwCl[ci]? = some (Cn, T, N)) (hn : As.length = n) (hst : st = As.reverse ++ .ref b :: rest) (hroom : (rest.map fun v => v.category).sum ≤ 8)
    (hd : decode cc pc = .ok (.invokevirtual index, 3)) (hf : cells + rm.cells ≤ R.cells ∧ slots + rm.slots ≤ R.slots)
    (kk : ∀ u, rG p l e R s m args below meth c E A nL (cells + rm.cells) (slots + rm.slots) Q (w' u) (pc + 3) lv (r.toList ++ rest)) : rG p l e R s m args below meth c E A nL cells slots Q ws pc lv st := by
  intro H locs la hP hD hS hl
  subst hst
  have hPc := hP.sub isC (sel_map hC)
  have hDc := hD.sub isC hnC hC
  exact rg_after C hP hD hS hl (va_runV (As := As) (rest := rest) C.1 (M H.size) cw ⟨rP_blind E cin H.size _, va_recv C.2.1 hPc hc he, fun U hU hW => ⟨rfl, by rw [hU], va_K.moved hW.alike C.2.1, by rw [hU]; exact hPc, hDc.weaken (fun _ _ _ _ => trivial)⟩⟩ rfl hn hl.1 rfl (lv_room hroom) hd hf) isC isR ps hC hR hnR hdis hps hnp kk
theorem rg_callS (C : rC p s m args c E A nL cc Ts own) (M : rM l y wsy rm E cin As r cout) (cw : CallB R s args own index y bytes maxL ret wsy rm rm.cells rm.slots n ∧ (Cond.static y).before args s = true)
    (isC isR ps : List Nat) (hC : isC.map (fun i => ws[i]?) = cin.map some) (hR : isR.map (fun i => ws[i]?) = wr.map some) (hnC : va_nd isC = true) (hnR : va_nd isR = true) (hdis : ∀ i ∈ isR, i ∉ isC)
    (hps : ∀ u, ps.map (fun i => (wr ++ cout u)[i]?) = (w' u).map some) (hnp : va_nd ps = true)
    (hn : As.length = n) (hst : st = As.reverse ++ rest) (hroom : (rest.map fun v => v.category).sum ≤ 8)
    (hd : decode cc pc = .ok (.invokestatic index, 3)) (hf : cells + rm.cells ≤ R.cells ∧ slots + rm.slots ≤ R.slots)
    (kk : ∀ u, rG p l e R s m args below meth c E A nL (cells + rm.cells) (slots + rm.slots) Q (w' u) (pc + 3) lv (r.toList ++ rest)) : rG p l e R s m args below meth c E A nL cells slots Q ws pc lv st := by
  intro H locs la hP hD hS hl
  subst hst
  have hPc := hP.sub isC (sel_map hC)
  have hDc := hD.sub isC hnC hC
  exact rg_after C hP hD hS hl (va_runS (As := As) (rest := rest) C.1 (M H.size) cw ⟨rP_blind E cin H.size _, fun U hU hW => ⟨rfl, by rw [hU], va_K.moved hW.alike C.2.1, by rw [hU]; exact hPc, hDc.weaken (fun _ _ _ _ => trivial)⟩⟩ rfl hn hl.1 rfl (lv_room hroom) hd hf) isC isR ps hC hR hnR hdis hps hnp kk
theorem rg_callI (C : rC p s m args c E A nL cc Ts own) (M : rM l y wsy rm E cin (.ref b :: As) r cout) (cw : CallB R s args own index y bytes maxL none wsy rm rm.cells rm.slots n ∧ y.name = "<init>" ∧ (Cond.instanceMethod y).before args s = true)
    (isC isR ps : List Nat) (hC : isC.map (fun i => ws[i]?) = cin.map some) (hR : isR.map (fun i => ws[i]?) = wr.map some) (hnC : va_nd isC = true) (hnR : va_nd isR = true) (hdis : ∀ i ∈ isR, i ∉ isC)
    (hps : ∀ u, ps.map (fun i => (wr ++ cout u)[i]?) = (w' u).map some) (hnp : va_nd ps = true)
    (hn : As.length = n) (hst : st = As.reverse ++ .ref b :: rest) (hroom : (rest.map fun v => v.category).sum ≤ 8)
    (hd : decode cc pc = .ok (.invokespecial index, 3)) (hf : cells + rm.cells ≤ R.cells ∧ slots + rm.slots ≤ R.slots)
    (kk : ∀ u, rG p l e R s m args below meth c E A nL (cells + rm.cells) (slots + rm.slots) Q (w' u) (pc + 3) lv (r.toList ++ rest)) : rG p l e R s m args below meth c E A nL cells slots Q ws pc lv st := by
  intro H locs la hP hD hS hl
  subst hst
  have hPc := hP.sub isC (sel_map hC)
  have hDc := hD.sub isC hnC hC
  exact rg_after C hP hD hS hl (va_runI (As := As) (rest := rest) C.1 (M H.size) cw ⟨rP_blind E cin H.size _, fun U hU hW => ⟨rfl, by rw [hU], va_K.moved hW.alike C.2.1, by rw [hU]; exact hPc, hDc.weaken (fun _ _ _ _ => trivial)⟩⟩ rfl hn hl.1 rfl (lv_room hroom) hd hf) isC isR ps hC hR hnR hdis hps hnp kk
/-! the words of a call, out of the shared ones -/
theorem gAll {big ws : List Cond} (hb : ∀ w ∈ gW, w ∈ big) (hw : ∀ w ∈ ws, w ∈ gW) : GoodIn big ws := fun w h => ⟨hb w (hw w h), good_of_word (gW_good (hw w h))⟩
/-- what the tables say of a method that objects have, and of a static one -/
def rMV (y : MethodName) (Cn : String) (bytes : ByteArray) (maxL : Nat) (ret : Option FieldType) (n : Nat) : Prop := Cond.instanceMethod y ∈ gW ∧ Cond.selects Cn y y ∈ gW ∧ Cond.initialized Cn ∈ gW ∧ Cond.code y bytes maxL ret ∈ gW ∧ (y.cls = Cn ∧ y.cls ≠ "java/lang/invoke/MethodHandle" ∧ y.cls ≠ "java/lang/invoke/VarHandle" ∧ (parseMethodDescriptor y.desc).map (fun d => d.parameters.length) = some n)
def rMS (y : MethodName) (bytes : ByteArray) (maxL : Nat) (ret : Option FieldType) (n : Nat) : Prop := Cond.static y ∈ gW ∧ Cond.initialized y.cls ∈ gW ∧ Cond.code y bytes maxL ret ∈ gW ∧ (y.cls ≠ "java/lang/invoke/MethodHandle" ∧ y.cls ≠ "java/lang/invoke/VarHandle" ∧ (parseMethodDescriptor y.desc).map (fun d => d.parameters.length) = some n)
theorem rcwV {Cn : String} (C : rC p s m args c E A nL cc Ts own) (hM : rMV y Cn bytes maxL ret n) (hl : Cond.methodLink own index y ∈ gW) (hR : rm.frames + 1 ≤ R.frames ∧ 8 + (maxL + 11) + rm.locals ≤ R.locals) : CallW R s args own Cn index y bytes maxL ret (Cond.code y bytes maxL ret :: gW) rm rm.cells rm.slots n := by
  obtain ⟨h1, h2, h3, h4, h5⟩ := hM
  refine cwV n C.1.2.2.2.2 (gAll C.2.2.2 fun w h => ?_) rfl rfl rfl h5 hR
  simp only [wsV, List.mem_append, List.mem_cons, List.not_mem_nil, or_false] at h
  rcases h with (rfl | rfl | rfl | rfl) | rfl | h
  · exact hl
  · exact h1
  · exact h2
  · exact h3
  · exact h4
  · exact h
theorem rcwS (C : rC p s m args c E A nL cc Ts own) (hM : rMS y bytes maxL ret n) (hl : Cond.methodLink own index y ∈ gW) (hR : rm.frames + 1 ≤ R.frames ∧ 8 + (maxL + 11) + rm.locals ≤ R.locals) : CallB R s args own index y bytes maxL ret (Cond.code y bytes maxL ret :: gW) rm rm.cells rm.slots n ∧ (Cond.static y).before args s = true := by
  obtain ⟨h1, h2, h3, h4⟩ := hM
  refine va_cwS n C.1.2.2.2.2 (gAll C.2.2.2 fun w h => ?_) rfl rfl rfl h4 hR
  simp only [va_wsS, List.mem_append, List.mem_cons, List.not_mem_nil, or_false] at h
  rcases h with (rfl | rfl | rfl) | rfl | h
  · exact hl
  · exact h1
  · exact h2
  · exact h3
  · exact h
end RV2
end
section
theorem layX0 : rLay TX0 2 tyX0 := ⟨tyX0_ok, nmX0⟩
theorem layX1 : rLay TX1 3 tyX1 := ⟨tyX1_ok, nmX1⟩
theorem layX2 : rLay TX2 5 tyX2 := ⟨tyX2_ok, nmX2⟩
theorem layX3 : rLay TX3 10 tyX3 := ⟨tyX3_ok, nmX3⟩
theorem layX4 : rLay TX4 5 tyX4 := ⟨tyX4_ok, nmX4⟩
theorem layX5 : rLay TX5 7 tyX5 := ⟨tyX5_ok, nmX5⟩
theorem layX6 : rLay TX6 23 tyX6 := ⟨tyX6_ok, nmX6⟩
theorem fX4_9 : rFld RX4 9 RX4 TX4 5 4 0 := ⟨inX4, rfl, by decide, w_51⟩
theorem fX5_55 : rFld RX5 55 RX4 TX4 5 4 0 := ⟨inX4, rfl, by decide, w_52⟩
theorem fX4_15 : rFld RX4 15 RX4 TX4 5 4 1 := ⟨inX4, rfl, by decide, w_53⟩
theorem fX1_48 : rFld RX1 48 RX4 TX4 5 4 1 := ⟨inX4, rfl, by decide, w_54⟩
theorem fX4_19 : rFld RX4 19 RX4 TX4 5 4 2 := ⟨inX4, rfl, by decide, w_55⟩
theorem fX1_31 : rFld RX1 31 RX4 TX4 5 4 2 := ⟨inX4, rfl, by decide, w_56⟩
theorem fX5_116 : rFld RX5 116 RX4 TX4 5 4 2 := ⟨inX4, rfl, by decide, w_57⟩
theorem fX4_22 : rFld RX4 22 RX4 TX4 5 4 3 := ⟨inX4, rfl, by decide, w_58⟩
theorem fX5_156 : rFld RX5 156 RX4 TX4 5 4 3 := ⟨inX4, rfl, by decide, w_59⟩
theorem fX4_26 : rFld RX4 26 RX4 TX4 5 4 4 := ⟨inX4, rfl, by decide, w_60⟩
theorem fX5_66 : rFld RX5 66 RX4 TX4 5 4 4 := ⟨inX4, rfl, by decide, w_61⟩
theorem fX0_57 : rFld RX0 57 RX4 TX4 5 4 4 := ⟨inX4, rfl, by decide, w_62⟩
theorem fX2_9 : rFld RX2 9 RX2 TX2 5 2 0 := ⟨inX2, rfl, by decide, w_83⟩
theorem fX5_78 : rFld RX5 78 RX2 TX2 5 2 0 := ⟨inX2, rfl, by decide, w_84⟩
theorem fX2_15 : rFld RX2 15 RX2 TX2 5 2 1 := ⟨inX2, rfl, by decide, w_85⟩
theorem fX5_122 : rFld RX5 122 RX2 TX2 5 2 1 := ⟨inX2, rfl, by decide, w_86⟩
theorem fX2_19 : rFld RX2 19 RX2 TX2 5 2 2 := ⟨inX2, rfl, by decide, w_87⟩
theorem fX1_40 : rFld RX1 40 RX2 TX2 5 2 2 := ⟨inX2, rfl, by decide, w_88⟩
theorem fX5_195 : rFld RX5 195 RX2 TX2 5 2 2 := ⟨inX2, rfl, by decide, w_89⟩
theorem fX2_22 : rFld RX2 22 RX2 TX2 5 2 3 := ⟨inX2, rfl, by decide, w_90⟩
theorem fX1_45 : rFld RX1 45 RX2 TX2 5 2 3 := ⟨inX2, rfl, by decide, w_91⟩
theorem fX5_125 : rFld RX5 125 RX2 TX2 5 2 3 := ⟨inX2, rfl, by decide, w_92⟩
theorem fX0_15 : rFld RX0 15 RX2 TX2 5 2 4 := ⟨inX2, rfl, by decide, w_93⟩
theorem fX2_25 : rFld RX2 25 RX2 TX2 5 2 4 := ⟨inX2, rfl, by decide, w_94⟩
theorem fX3_9 : rFld RX3 9 RX3 TX3 10 3 0 := ⟨inX3, rfl, by decide, w_112⟩
theorem fX5_85 : rFld RX5 85 RX3 TX3 10 3 0 := ⟨inX3, rfl, by decide, w_113⟩
theorem fX3_15 : rFld RX3 15 RX3 TX3 10 3 1 := ⟨inX3, rfl, by decide, w_114⟩
theorem fX1_84 : rFld RX1 84 RX3 TX3 10 3 1 := ⟨inX3, rfl, by decide, w_115⟩
theorem fX3_19 : rFld RX3 19 RX3 TX3 10 3 2 := ⟨inX3, rfl, by decide, w_116⟩
theorem fX5_202 : rFld RX5 202 RX3 TX3 10 3 2 := ⟨inX3, rfl, by decide, w_117⟩
theorem fX3_22 : rFld RX3 22 RX3 TX3 10 3 3 := ⟨inX3, rfl, by decide, w_118⟩
theorem fX5_106 : rFld RX5 106 RX3 TX3 10 3 3 := ⟨inX3, rfl, by decide, w_119⟩
theorem fX3_25 : rFld RX3 25 RX3 TX3 10 3 4 := ⟨inX3, rfl, by decide, w_120⟩
theorem fX1_68 : rFld RX1 68 RX3 TX3 10 3 4 := ⟨inX3, rfl, by decide, w_121⟩
theorem fX5_110 : rFld RX5 110 RX3 TX3 10 3 4 := ⟨inX3, rfl, by decide, w_122⟩
theorem fX3_28 : rFld RX3 28 RX3 TX3 10 3 5 := ⟨inX3, rfl, by decide, w_123⟩
theorem fX5_205 : rFld RX5 205 RX3 TX3 10 3 5 := ⟨inX3, rfl, by decide, w_124⟩
theorem fX3_31 : rFld RX3 31 RX3 TX3 10 3 6 := ⟨inX3, rfl, by decide, w_125⟩
theorem fX1_87 : rFld RX1 87 RX3 TX3 10 3 6 := ⟨inX3, rfl, by decide, w_126⟩
theorem fX3_34 : rFld RX3 34 RX3 TX3 10 3 7 := ⟨inX3, rfl, by decide, w_127⟩
theorem fX2_42 : rFld RX2 42 RX3 TX3 10 3 7 := ⟨inX3, rfl, by decide, w_128⟩
theorem fX1_75 : rFld RX1 75 RX3 TX3 10 3 7 := ⟨inX3, rfl, by decide, w_129⟩
theorem fX5_208 : rFld RX5 208 RX3 TX3 10 3 7 := ⟨inX3, rfl, by decide, w_130⟩
theorem fX3_37 : rFld RX3 37 RX3 TX3 10 3 8 := ⟨inX3, rfl, by decide, w_131⟩
theorem fX0_27 : rFld RX0 27 RX3 TX3 10 3 8 := ⟨inX3, rfl, by decide, w_132⟩
theorem fX2_35 : rFld RX2 35 RX3 TX3 10 3 8 := ⟨inX3, rfl, by decide, w_133⟩
theorem fX1_57 : rFld RX1 57 RX3 TX3 10 3 8 := ⟨inX3, rfl, by decide, w_134⟩
theorem fX5_143 : rFld RX5 143 RX3 TX3 10 3 8 := ⟨inX3, rfl, by decide, w_135⟩
theorem fX0_21 : rFld RX0 21 RX3 TX3 10 3 9 := ⟨inX3, rfl, by decide, w_136⟩
theorem fX2_29 : rFld RX2 29 RX3 TX3 10 3 9 := ⟨inX3, rfl, by decide, w_137⟩
theorem fX1_51 : rFld RX1 51 RX3 TX3 10 3 9 := ⟨inX3, rfl, by decide, w_138⟩
theorem fX3_40 : rFld RX3 40 RX3 TX3 10 3 9 := ⟨inX3, rfl, by decide, w_139⟩
theorem fX5_140 : rFld RX5 140 RX3 TX3 10 3 9 := ⟨inX3, rfl, by decide, w_140⟩
theorem fX0_11 : rFld RX0 11 RX0 TX0 2 0 0 := ⟨inX0, rfl, by decide, w_168⟩
theorem fX0_44 : rFld RX0 44 RX0 TX0 2 0 1 := ⟨inX0, rfl, by decide, w_169⟩
theorem fX5_192 : rFld RX5 192 RX0 TX0 2 0 1 := ⟨inX0, rfl, by decide, w_170⟩
theorem fX1_9 : rFld RX1 9 RX1 TX1 3 1 0 := ⟨inX1, rfl, by decide, w_182⟩
theorem fX0_35 : rFld RX0 35 RX1 TX1 3 1 0 := ⟨inX1, rfl, by decide, w_183⟩
theorem fX2_45 : rFld RX2 45 RX1 TX1 3 1 0 := ⟨inX1, rfl, by decide, w_184⟩
theorem fX5_149 : rFld RX5 149 RX1 TX1 3 1 0 := ⟨inX1, rfl, by decide, w_185⟩
theorem fX1_15 : rFld RX1 15 RX1 TX1 3 1 1 := ⟨inX1, rfl, by decide, w_186⟩
theorem fX0_60 : rFld RX0 60 RX1 TX1 3 1 1 := ⟨inX1, rfl, by decide, w_187⟩
theorem fX5_152 : rFld RX5 152 RX1 TX1 3 1 1 := ⟨inX1, rfl, by decide, w_188⟩
theorem fX1_19 : rFld RX1 19 RX1 TX1 3 1 2 := ⟨inX1, rfl, by decide, w_189⟩
theorem fX5_10 : rFld RX5 10 RX5 TX5 7 5 0 := ⟨inX5, rfl, by decide, w_197⟩
theorem fX5_19 : rFld RX5 19 RX5 TX5 7 5 1 := ⟨inX5, rfl, by decide, w_198⟩
theorem fX5_26 : rFld RX5 26 RX5 TX5 7 5 2 := ⟨inX5, rfl, by decide, w_199⟩
theorem fX5_33 : rFld RX5 33 RX5 TX5 7 5 3 := ⟨inX5, rfl, by decide, w_200⟩
theorem fX5_40 : rFld RX5 40 RX5 TX5 7 5 4 := ⟨inX5, rfl, by decide, w_201⟩
theorem fX5_44 : rFld RX5 44 RX5 TX5 7 5 5 := ⟨inX5, rfl, by decide, w_202⟩
theorem fX5_47 : rFld RX5 47 RX5 TX5 7 5 6 := ⟨inX5, rfl, by decide, w_203⟩
theorem fX6_72 : rFld RX6 72 RX6 TX6 23 6 0 := ⟨inX6, rfl, by decide, w_623⟩
theorem fX6_7 : rFld RX6 7 RX6 TX6 23 6 1 := ⟨inX6, rfl, by decide, w_624⟩
theorem fX6_13 : rFld RX6 13 RX6 TX6 23 6 2 := ⟨inX6, rfl, by decide, w_625⟩
theorem fX6_17 : rFld RX6 17 RX6 TX6 23 6 3 := ⟨inX6, rfl, by decide, w_626⟩
theorem fX6_20 : rFld RX6 20 RX6 TX6 23 6 4 := ⟨inX6, rfl, by decide, w_627⟩
theorem fX6_23 : rFld RX6 23 RX6 TX6 23 6 5 := ⟨inX6, rfl, by decide, w_628⟩
theorem fX6_26 : rFld RX6 26 RX6 TX6 23 6 6 := ⟨inX6, rfl, by decide, w_629⟩
theorem fX6_29 : rFld RX6 29 RX6 TX6 23 6 7 := ⟨inX6, rfl, by decide, w_630⟩
theorem fX6_32 : rFld RX6 32 RX6 TX6 23 6 8 := ⟨inX6, rfl, by decide, w_631⟩
theorem fX6_36 : rFld RX6 36 RX6 TX6 23 6 9 := ⟨inX6, rfl, by decide, w_632⟩
theorem fX6_39 : rFld RX6 39 RX6 TX6 23 6 10 := ⟨inX6, rfl, by decide, w_633⟩
theorem fX6_42 : rFld RX6 42 RX6 TX6 23 6 11 := ⟨inX6, rfl, by decide, w_634⟩
theorem fX6_45 : rFld RX6 45 RX6 TX6 23 6 12 := ⟨inX6, rfl, by decide, w_635⟩
theorem fX6_48 : rFld RX6 48 RX6 TX6 23 6 13 := ⟨inX6, rfl, by decide, w_636⟩
theorem fX6_51 : rFld RX6 51 RX6 TX6 23 6 14 := ⟨inX6, rfl, by decide, w_637⟩
theorem fX6_54 : rFld RX6 54 RX6 TX6 23 6 15 := ⟨inX6, rfl, by decide, w_638⟩
theorem fX6_57 : rFld RX6 57 RX6 TX6 23 6 16 := ⟨inX6, rfl, by decide, w_639⟩
theorem fX6_128 : rFld RX6 128 RX6 TX6 23 6 17 := ⟨inX6, rfl, by decide, w_640⟩
theorem fX6_60 : rFld RX6 60 RX6 TX6 23 6 18 := ⟨inX6, rfl, by decide, w_641⟩
theorem fX6_63 : rFld RX6 63 RX6 TX6 23 6 19 := ⟨inX6, rfl, by decide, w_642⟩
theorem fX6_66 : rFld RX6 66 RX6 TX6 23 6 20 := ⟨inX6, rfl, by decide, w_643⟩
theorem fX6_69 : rFld RX6 69 RX6 TX6 23 6 21 := ⟨inX6, rfl, by decide, w_644⟩
theorem fX6_109 : rFld RX6 109 RX6 TX6 23 6 22 := ⟨inX6, rfl, by decide, w_645⟩
theorem mX5_plan : rMV yX5_plan RX5 cX5_plan 3 (some FieldType.int) 0 := ⟨w_220, w_221, w_20, w_222, by decide +kernel⟩
theorem mX5_settleToday : rMV yX5_settleToday RX5 cX5_settleToday 1 none 0 := ⟨w_225, w_0, w_20, w_226, by decide +kernel⟩
theorem mX1_begin : rMV yX1_begin RX1 cX1_begin 4 none 2 := ⟨w_228, w_229, w_25, w_230, by decide +kernel⟩
theorem mJA_fillI : rMS yJA_fillI cJA_fillI 4 none 2 := ⟨w_232, w_34, w_233, by decide +kernel⟩
theorem mJA_fillJ : rMS yJA_fillJ cJA_fillJ 5 none 2 := ⟨w_235, w_34, w_236, by decide +kernel⟩
theorem mX1_pour : rMV yX1_pour RX1 cX1_pour 5 none 2 := ⟨w_239, w_1, w_25, w_240, by decide +kernel⟩
theorem mX1_giveAllBut : rMV yX1_giveAllBut RX1 cX1_giveAllBut 6 none 3 := ⟨w_242, w_243, w_25, w_244, by decide +kernel⟩
theorem mX1_most : rMV yX1_most RX1 cX1_most 9 (some FieldType.int) 3 := ⟨w_246, w_247, w_25, w_248, by decide +kernel⟩
theorem mX3_isStorage : rMV yX3_isStorage RX3 cX3_isStorage 2 (some FieldType.boolean) 1 := ⟨w_250, w_251, w_23, w_252, by decide +kernel⟩
theorem mJM_min : rMS yJM_min cJM_min 4 (some FieldType.long) 2 := ⟨w_254, w_35, w_255, by decide +kernel⟩
theorem mX3_mostForUse : rMV yX3_mostForUse RX3 cX3_mostForUse 5 (some FieldType.long) 2 := ⟨w_257, w_258, w_23, w_259, by decide +kernel⟩
theorem mX1_give : rMV yX1_give RX1 cX1_give 8 none 4 := ⟨w_263, w_264, w_25, w_265, by decide +kernel⟩
theorem mX3_usedOf : rMV yX3_usedOf RX3 cX3_usedOf 3 (some FieldType.long) 2 := ⟨w_267, w_268, w_23, w_269, by decide +kernel⟩
theorem mX5_isShort : rMV yX5_isShort RX5 cX5_isShort 2 (some FieldType.boolean) 1 := ⟨w_272, w_2, w_20, w_273, by decide +kernel⟩
theorem mX5_close : rMV yX5_close RX5 cX5_close 1 (some FieldType.int) 0 := ⟨w_275, w_276, w_20, w_277, by decide +kernel⟩
theorem mX0_write : rMV yX0_write RX0 cX0_write 11 none 4 := ⟨w_279, w_280, w_24, w_281, by decide +kernel⟩
theorem mX0_pageOf : rMS yX0_pageOf cX0_pageOf 1 (some FieldType.int) 1 := ⟨w_285, w_24, w_286, by decide +kernel⟩
theorem mJM_floorMod : rMS yJM_floorMod cJM_floorMod 3 (some FieldType.int) 2 := ⟨w_288, w_35, w_289, by decide +kernel⟩
theorem mX4_allInflow : rMV yX4_allInflow RX4 cX4_allInflow 4 (some FieldType.long) 0 := ⟨w_291, w_292, w_21, w_293, by decide +kernel⟩
theorem mX2_beginDay : rMV yX2_beginDay RX2 cX2_beginDay 5 none 2 := ⟨w_295, w_296, w_22, w_297, by decide +kernel⟩
theorem mX4_beginDay : rMV yX4_beginDay RX4 cX4_beginDay 1 none 0 := ⟨w_300, w_301, w_21, w_302, by decide +kernel⟩
theorem mX3_beginDay : rMV yX3_beginDay RX3 cX3_beginDay 1 none 0 := ⟨w_306, w_307, w_23, w_308, by decide +kernel⟩
theorem mX5_held : rMV yX5_held RX5 cX5_held 3 (some FieldType.int) 2 := ⟨w_313, w_314, w_20, w_315, by decide +kernel⟩
theorem mX5_book : rMV yX5_book RX5 cX5_book 3 (some FieldType.long) 2 := ⟨w_317, w_318, w_20, w_319, by decide +kernel⟩
theorem mX0_read : rMV yX0_read RX0 cX0_read 3 (some FieldType.long) 2 := ⟨w_321, w_322, w_24, w_323, by decide +kernel⟩
theorem mX5_about : rMV yX5_about RX5 cX5_about 3 (some FieldType.int) 2 := ⟨w_326, w_327, w_20, w_328, by decide +kernel⟩
theorem mX5_aged : rMV yX5_aged RX5 cX5_aged 2 (some FieldType.int) 1 := ⟨w_330, w_331, w_20, w_332, by decide +kernel⟩
theorem mX5_reach : rMV yX5_reach RX5 cX5_reach 3 none 2 := ⟨w_340, w_341, w_20, w_342, by decide +kernel⟩
theorem mX5_checkNumber : rMS yX5_checkNumber cX5_checkNumber 2 none 2 := ⟨w_344, w_20, w_345, by decide +kernel⟩
theorem mX5_checkThere : rMS yX5_checkThere cX5_checkThere 1 none 1 := ⟨w_416, w_20, w_417, by decide +kernel⟩
theorem mX5_checkFree : rMS yX5_checkFree cX5_checkFree 1 none 1 := ⟨w_435, w_20, w_436, by decide +kernel⟩
theorem mX4_add : rMV yX4_add RX4 cX4_add 3 none 2 := ⟨w_454, w_455, w_21, w_456, by decide +kernel⟩
theorem mX5_reservoir : rMV yX5_reservoir RX5 cX5_reservoir 4 none 3 := ⟨w_462, w_463, w_20, w_464, by decide +kernel⟩
theorem mX5_checkBetween : rMS yX5_checkBetween cX5_checkBetween 3 none 3 := ⟨w_467, w_20, w_468, by decide +kernel⟩
theorem mX2_add : rMV yX2_add RX2 cX2_add 4 none 3 := ⟨w_486, w_487, w_22, w_488, by decide +kernel⟩
theorem mX5_right : rMV yX5_right RX5 cX5_right 7 none 6 := ⟨w_493, w_494, w_20, w_495, by decide +kernel⟩
theorem mX5_checkPath : rMV yX5_checkPath RX5 cX5_checkPath 3 none 2 := ⟨w_499, w_4, w_20, w_500, by decide +kernel⟩
theorem mX4_leadsTo : rMV yX4_leadsTo RX4 cX4_leadsTo 5 (some FieldType.boolean) 2 := ⟨w_502, w_503, w_21, w_504, by decide +kernel⟩
theorem mX3_hasPriority : rMV yX3_hasPriority RX3 cX3_hasPriority 3 (some FieldType.boolean) 1 := ⟨w_507, w_508, w_23, w_509, by decide +kernel⟩
theorem mX3_setDirect : rMV yX3_setDirect RX3 cX3_setDirect 4 none 3 := ⟨w_511, w_512, w_23, w_513, by decide +kernel⟩
theorem mX3_add : rMV yX3_add RX3 cX3_add 6 none 4 := ⟨w_515, w_516, w_23, w_517, by decide +kernel⟩
theorem mX5_storage : rMV yX5_storage RX5 cX5_storage 6 none 5 := ⟨w_522, w_523, w_20, w_524, by decide +kernel⟩
theorem mX3_setStorage : rMV yX3_setStorage RX3 cX3_setStorage 3 none 2 := ⟨w_526, w_527, w_23, w_528, by decide +kernel⟩
theorem mX5_drop : rMV yX5_drop RX5 cX5_drop 2 none 1 := ⟨w_533, w_534, w_20, w_535, by decide +kernel⟩
theorem mX5_checkRight : rMV yX5_checkRight RX5 cX5_checkRight 2 none 1 := ⟨w_538, w_5, w_20, w_539, by decide +kernel⟩
theorem mX3_remove : rMV yX3_remove RX3 cX3_remove 4 none 1 := ⟨w_541, w_542, w_23, w_543, by decide +kernel⟩
theorem mX5_want : rMV yX5_want RX5 cX5_want 3 none 2 := ⟨w_548, w_549, w_20, w_550, by decide +kernel⟩
theorem mX5_inflow : rMV yX5_inflow RX5 cX5_inflow 3 none 2 := ⟨w_555, w_556, w_20, w_557, by decide +kernel⟩
theorem mX5_checkReach : rMV yX5_checkReach RX5 cX5_checkReach 2 none 1 := ⟨w_560, w_6, w_20, w_561, by decide +kernel⟩
theorem mX5_release : rMV yX5_release RX5 cX5_release 4 (some FieldType.int) 3 := ⟨w_566, w_567, w_20, w_568, by decide +kernel⟩
theorem mX5_checkEnough : rMS yX5_checkEnough cX5_checkEnough 2 none 2 := ⟨w_571, w_20, w_572, by decide +kernel⟩
theorem mX2_letOut : rMV yX2_letOut RX2 cX2_letOut 3 none 2 := ⟨w_575, w_576, w_22, w_577, by decide +kernel⟩
theorem mX4_send : rMV yX4_send RX4 cX4_send 7 none 3 := ⟨w_579, w_580, w_21, w_581, by decide +kernel⟩
theorem mX5_given : rMV yX5_given RX5 cX5_given 2 (some FieldType.int) 1 := ⟨w_586, w_587, w_20, w_588, by decide +kernel⟩
theorem mX5_flow : rMV yX5_flow RX5 cX5_flow 3 (some FieldType.long) 2 := ⟨w_593, w_594, w_20, w_595, by decide +kernel⟩
theorem mX5_call : rMV yX5_call RX5 cX5_call 3 (some FieldType.int) 1 := ⟨w_601, w_602, w_20, w_603, by decide +kernel⟩
theorem mX5_oldestThatWouldGetLess : rMV yX5_oldestThatWouldGetLess RX5 cX5_oldestThatWouldGetLess 3 (some FieldType.int) 0 := ⟨w_608, w_7, w_20, w_609, by decide +kernel⟩
theorem mX5_futile : rMV yX5_futile RX5 cX5_futile 3 (some FieldType.boolean) 2 := ⟨w_614, w_615, w_20, w_616, by decide +kernel⟩
theorem mX6_thrown : rMV yX6_thrown RX6 cX6_thrown 1 (some FieldType.int) 0 := ⟨w_694, w_695, w_26, w_696, by decide +kernel⟩
theorem mX6_reach : rMV yX6_reach RX6 cX6_reach 5 none 2 := ⟨w_698, w_699, w_26, w_700, by decide +kernel⟩
theorem mX6_isNumber : rMS yX6_isNumber cX6_isNumber 2 (some FieldType.boolean) 2 := ⟨w_702, w_26, w_703, by decide +kernel⟩
theorem mX6_reservoir : rMV yX6_reservoir RX6 cX6_reservoir 4 none 3 := ⟨w_705, w_706, w_26, w_707, by decide +kernel⟩
theorem mX6_right : rMV yX6_right RX6 cX6_right 8 none 6 := ⟨w_710, w_711, w_26, w_712, by decide +kernel⟩
theorem mX6_isOn : rMV yX6_isOn RX6 cX6_isOn 4 (some FieldType.boolean) 2 := ⟨w_716, w_8, w_26, w_717, by decide +kernel⟩
theorem mX6_isTaken : rMV yX6_isTaken RX6 cX6_isTaken 5 (some FieldType.boolean) 2 := ⟨w_720, w_9, w_26, w_721, by decide +kernel⟩
theorem mX6_lay : rMV yX6_lay RX6 cX6_lay 5 none 4 := ⟨w_724, w_10, w_26, w_725, by decide +kernel⟩
theorem mX6_storage : rMV yX6_storage RX6 cX6_storage 7 none 5 := ⟨w_727, w_728, w_26, w_729, by decide +kernel⟩
theorem mX6_drop : rMV yX6_drop RX6 cX6_drop 2 none 1 := ⟨w_731, w_732, w_26, w_733, by decide +kernel⟩
theorem mX6_wrongRight : rMV yX6_wrongRight RX6 cX6_wrongRight 2 (some FieldType.int) 1 := ⟨w_736, w_11, w_26, w_737, by decide +kernel⟩
theorem mX6_want : rMV yX6_want RX6 cX6_want 3 none 2 := ⟨w_739, w_740, w_26, w_741, by decide +kernel⟩
theorem mX6_inflow : rMV yX6_inflow RX6 cX6_inflow 3 none 2 := ⟨w_743, w_744, w_26, w_745, by decide +kernel⟩
theorem mX6_wrongReach : rMV yX6_wrongReach RX6 cX6_wrongReach 2 (some FieldType.int) 1 := ⟨w_748, w_12, w_26, w_749, by decide +kernel⟩
theorem mX6_release : rMV yX6_release RX6 cX6_release 4 (some FieldType.int) 3 := ⟨w_751, w_752, w_26, w_753, by decide +kernel⟩
theorem mX6_plan : rMV yX6_plan RX6 cX6_plan 3 (some FieldType.int) 0 := ⟨w_755, w_756, w_26, w_757, by decide +kernel⟩
theorem mX6_make : rMV yX6_make RX6 cX6_make 8 (some FieldType.boolean) 3 := ⟨w_760, w_13, w_26, w_761, by decide +kernel⟩
theorem mX6_age : rMV yX6_age RX6 cX6_age 5 none 0 := ⟨w_764, w_14, w_26, w_765, by decide +kernel⟩
theorem mX6_holdsPlan : rMV yX6_holdsPlan RX6 cX6_holdsPlan 6 (some FieldType.boolean) 1 := ⟨w_768, w_15, w_26, w_769, by decide +kernel⟩
theorem mX6_natural : rMV yX6_natural RX6 cX6_natural 5 (some FieldType.long) 1 := ⟨w_772, w_16, w_26, w_773, by decide +kernel⟩
theorem mX6_returned : rMV yX6_returned RX6 cX6_returned 4 (some FieldType.long) 2 := ⟨w_776, w_17, w_26, w_777, by decide +kernel⟩
theorem mX6_isShort : rMV yX6_isShort RX6 cX6_isShort 2 (some FieldType.boolean) 1 := ⟨w_781, w_18, w_26, w_782, by decide +kernel⟩
theorem mX6_given : rMV yX6_given RX6 cX6_given 2 (some FieldType.int) 1 := ⟨w_784, w_785, w_26, w_786, by decide +kernel⟩
theorem mX6_flow : rMV yX6_flow RX6 cX6_flow 7 (some FieldType.long) 2 := ⟨w_788, w_789, w_26, w_790, by decide +kernel⟩
theorem mX6_call : rMV yX6_call RX6 cX6_call 3 (some FieldType.int) 1 := ⟨w_793, w_794, w_26, w_795, by decide +kernel⟩
theorem mX6_futile : rMV yX6_futile RX6 cX6_futile 4 (some FieldType.boolean) 2 := ⟨w_797, w_798, w_26, w_799, by decide +kernel⟩
theorem mX6_close : rMV yX6_close RX6 cX6_close 3 (some FieldType.int) 0 := ⟨w_801, w_802, w_26, w_803, by decide +kernel⟩
theorem mX6_held : rMV yX6_held RX6 cX6_held 3 (some FieldType.int) 2 := ⟨w_805, w_806, w_26, w_807, by decide +kernel⟩
theorem mX6_book : rMV yX6_book RX6 cX6_book 3 (some FieldType.long) 2 := ⟨w_809, w_810, w_26, w_811, by decide +kernel⟩
theorem mX6_about : rMV yX6_about RX6 cX6_about 3 (some FieldType.int) 2 := ⟨w_813, w_814, w_26, w_815, by decide +kernel⟩
theorem mX6_aged : rMV yX6_aged RX6 cX6_aged 2 (some FieldType.int) 1 := ⟨w_817, w_818, w_26, w_819, by decide +kernel⟩
end
section
theorem dX5_init_0 : decode cX5_init 0 = .ok (.aload_n 0, 1) := by decide +kernel
theorem dX5_init_1 : decode cX5_init 1 = .ok (.invokespecial 1, 3) := by decide +kernel
theorem dX5_init_4 : decode cX5_init 4 = .ok (.aload_n 0, 1) := by decide +kernel
theorem dX5_init_5 : decode cX5_init 5 = .ok (.new 7, 3) := by decide +kernel
theorem dX5_init_8 : decode cX5_init 8 = .ok (.dup, 1) := by decide +kernel
theorem dX5_init_9 : decode cX5_init 9 = .ok (.invokespecial 9, 3) := by decide +kernel
theorem dX5_init_12 : decode cX5_init 12 = .ok (.putfield 10, 3) := by decide +kernel
theorem dX5_init_15 : decode cX5_init 15 = .ok (.aload_n 0, 1) := by decide +kernel
theorem dX5_init_16 : decode cX5_init 16 = .ok (.new 16, 3) := by decide +kernel
theorem dX5_init_19 : decode cX5_init 19 = .ok (.dup, 1) := by decide +kernel
theorem dX5_init_20 : decode cX5_init 20 = .ok (.invokespecial 18, 3) := by decide +kernel
theorem dX5_init_23 : decode cX5_init 23 = .ok (.putfield 19, 3) := by decide +kernel
theorem dX5_init_26 : decode cX5_init 26 = .ok (.aload_n 0, 1) := by decide +kernel
theorem dX5_init_27 : decode cX5_init 27 = .ok (.new 23, 3) := by decide +kernel
theorem dX5_init_30 : decode cX5_init 30 = .ok (.dup, 1) := by decide +kernel
theorem dX5_init_31 : decode cX5_init 31 = .ok (.invokespecial 25, 3) := by decide +kernel
theorem dX5_init_34 : decode cX5_init 34 = .ok (.putfield 26, 3) := by decide +kernel
theorem dX5_init_37 : decode cX5_init 37 = .ok (.aload_n 0, 1) := by decide +kernel
theorem dX5_init_38 : decode cX5_init 38 = .ok (.new 30, 3) := by decide +kernel
theorem dX5_init_41 : decode cX5_init 41 = .ok (.dup, 1) := by decide +kernel
theorem dX5_init_42 : decode cX5_init 42 = .ok (.invokespecial 32, 3) := by decide +kernel
theorem dX5_init_45 : decode cX5_init 45 = .ok (.putfield 33, 3) := by decide +kernel
theorem dX5_init_48 : decode cX5_init 48 = .ok (.aload_n 0, 1) := by decide +kernel
theorem dX5_init_49 : decode cX5_init 49 = .ok (.new 37, 3) := by decide +kernel
theorem dX5_init_52 : decode cX5_init 52 = .ok (.dup, 1) := by decide +kernel
theorem dX5_init_53 : decode cX5_init 53 = .ok (.invokespecial 39, 3) := by decide +kernel
theorem dX5_init_56 : decode cX5_init 56 = .ok (.putfield 40, 3) := by decide +kernel
theorem dX5_init_59 : decode cX5_init 59 = .ok (.aload_n 0, 1) := by decide +kernel
theorem dX5_init_60 : decode cX5_init 60 = .ok (.new 37, 3) := by decide +kernel
theorem dX5_init_63 : decode cX5_init 63 = .ok (.dup, 1) := by decide +kernel
theorem dX5_init_64 : decode cX5_init 64 = .ok (.invokespecial 39, 3) := by decide +kernel
theorem dX5_init_67 : decode cX5_init 67 = .ok (.putfield 44, 3) := by decide +kernel
theorem dX5_init_70 : decode cX5_init 70 = .ok (.aload_n 0, 1) := by decide +kernel
theorem dX5_init_71 : decode cX5_init 71 = .ok (.iconst 1, 1) := by decide +kernel
theorem dX5_init_72 : decode cX5_init 72 = .ok (.putfield 47, 3) := by decide +kernel
theorem dX5_init_75 : decode cX5_init 75 = .ok (.return_, 1) := by decide +kernel
theorem dX4_init_0 : decode cX4_init 0 = .ok (.aload_n 0, 1) := by decide +kernel
theorem dX4_init_1 : decode cX4_init 1 = .ok (.invokespecial 3, 3) := by decide +kernel
theorem dX4_init_4 : decode cX4_init 4 = .ok (.aload_n 0, 1) := by decide +kernel
theorem dX4_init_5 : decode cX4_init 5 = .ok (.bipush 32, 2) := by decide +kernel
theorem dX4_init_7 : decode cX4_init 7 = .ok (.newarray .boolean, 2) := by decide +kernel
theorem dX4_init_9 : decode cX4_init 9 = .ok (.putfield 9, 3) := by decide +kernel
theorem dX4_init_12 : decode cX4_init 12 = .ok (.aload_n 0, 1) := by decide +kernel
theorem dX4_init_13 : decode cX4_init 13 = .ok (.bipush 32, 2) := by decide +kernel
theorem dX4_init_15 : decode cX4_init 15 = .ok (.newarray .int, 2) := by decide +kernel
theorem dX4_init_17 : decode cX4_init 17 = .ok (.putfield 15, 3) := by decide +kernel
theorem dX4_init_20 : decode cX4_init 20 = .ok (.aload_n 0, 1) := by decide +kernel
theorem dX4_init_21 : decode cX4_init 21 = .ok (.bipush 32, 2) := by decide +kernel
theorem dX4_init_23 : decode cX4_init 23 = .ok (.newarray .int, 2) := by decide +kernel
theorem dX4_init_25 : decode cX4_init 25 = .ok (.putfield 19, 3) := by decide +kernel
theorem dX4_init_28 : decode cX4_init 28 = .ok (.aload_n 0, 1) := by decide +kernel
theorem dX4_init_29 : decode cX4_init 29 = .ok (.bipush 32, 2) := by decide +kernel
theorem dX4_init_31 : decode cX4_init 31 = .ok (.newarray .long, 2) := by decide +kernel
theorem dX4_init_33 : decode cX4_init 33 = .ok (.putfield 22, 3) := by decide +kernel
theorem dX4_init_36 : decode cX4_init 36 = .ok (.aload_n 0, 1) := by decide +kernel
theorem dX4_init_37 : decode cX4_init 37 = .ok (.iconst (-1), 1) := by decide +kernel
theorem dX4_init_38 : decode cX4_init 38 = .ok (.putfield 26, 3) := by decide +kernel
theorem dX4_init_41 : decode cX4_init 41 = .ok (.return_, 1) := by decide +kernel
theorem dX2_init_0 : decode cX2_init 0 = .ok (.aload_n 0, 1) := by decide +kernel
theorem dX2_init_1 : decode cX2_init 1 = .ok (.invokespecial 3, 3) := by decide +kernel
theorem dX2_init_4 : decode cX2_init 4 = .ok (.aload_n 0, 1) := by decide +kernel
theorem dX2_init_5 : decode cX2_init 5 = .ok (.bipush 8, 2) := by decide +kernel
theorem dX2_init_7 : decode cX2_init 7 = .ok (.newarray .boolean, 2) := by decide +kernel
theorem dX2_init_9 : decode cX2_init 9 = .ok (.putfield 9, 3) := by decide +kernel
theorem dX2_init_12 : decode cX2_init 12 = .ok (.aload_n 0, 1) := by decide +kernel
theorem dX2_init_13 : decode cX2_init 13 = .ok (.bipush 8, 2) := by decide +kernel
theorem dX2_init_15 : decode cX2_init 15 = .ok (.newarray .int, 2) := by decide +kernel
theorem dX2_init_17 : decode cX2_init 17 = .ok (.putfield 15, 3) := by decide +kernel
theorem dX2_init_20 : decode cX2_init 20 = .ok (.aload_n 0, 1) := by decide +kernel
theorem dX2_init_21 : decode cX2_init 21 = .ok (.bipush 8, 2) := by decide +kernel
theorem dX2_init_23 : decode cX2_init 23 = .ok (.newarray .int, 2) := by decide +kernel
theorem dX2_init_25 : decode cX2_init 25 = .ok (.putfield 19, 3) := by decide +kernel
theorem dX2_init_28 : decode cX2_init 28 = .ok (.aload_n 0, 1) := by decide +kernel
theorem dX2_init_29 : decode cX2_init 29 = .ok (.bipush 8, 2) := by decide +kernel
theorem dX2_init_31 : decode cX2_init 31 = .ok (.newarray .int, 2) := by decide +kernel
theorem dX2_init_33 : decode cX2_init 33 = .ok (.putfield 22, 3) := by decide +kernel
theorem dX2_init_36 : decode cX2_init 36 = .ok (.return_, 1) := by decide +kernel
theorem dX3_init_0 : decode cX3_init 0 = .ok (.aload_n 0, 1) := by decide +kernel
theorem dX3_init_1 : decode cX3_init 1 = .ok (.invokespecial 3, 3) := by decide +kernel
theorem dX3_init_4 : decode cX3_init 4 = .ok (.aload_n 0, 1) := by decide +kernel
theorem dX3_init_5 : decode cX3_init 5 = .ok (.bipush 40, 2) := by decide +kernel
theorem dX3_init_7 : decode cX3_init 7 = .ok (.newarray .boolean, 2) := by decide +kernel
theorem dX3_init_9 : decode cX3_init 9 = .ok (.putfield 9, 3) := by decide +kernel
theorem dX3_init_12 : decode cX3_init 12 = .ok (.aload_n 0, 1) := by decide +kernel
theorem dX3_init_13 : decode cX3_init 13 = .ok (.bipush 40, 2) := by decide +kernel
theorem dX3_init_15 : decode cX3_init 15 = .ok (.newarray .int, 2) := by decide +kernel
theorem dX3_init_17 : decode cX3_init 17 = .ok (.putfield 15, 3) := by decide +kernel
theorem dX3_init_20 : decode cX3_init 20 = .ok (.aload_n 0, 1) := by decide +kernel
theorem dX3_init_21 : decode cX3_init 21 = .ok (.bipush 40, 2) := by decide +kernel
theorem dX3_init_23 : decode cX3_init 23 = .ok (.newarray .int, 2) := by decide +kernel
theorem dX3_init_25 : decode cX3_init 25 = .ok (.putfield 19, 3) := by decide +kernel
theorem dX3_init_28 : decode cX3_init 28 = .ok (.aload_n 0, 1) := by decide +kernel
theorem dX3_init_29 : decode cX3_init 29 = .ok (.bipush 40, 2) := by decide +kernel
theorem dX3_init_31 : decode cX3_init 31 = .ok (.newarray .int, 2) := by decide +kernel
theorem dX3_init_33 : decode cX3_init 33 = .ok (.putfield 22, 3) := by decide +kernel
theorem dX3_init_36 : decode cX3_init 36 = .ok (.aload_n 0, 1) := by decide +kernel
theorem dX3_init_37 : decode cX3_init 37 = .ok (.bipush 40, 2) := by decide +kernel
theorem dX3_init_39 : decode cX3_init 39 = .ok (.newarray .int, 2) := by decide +kernel
theorem dX3_init_41 : decode cX3_init 41 = .ok (.putfield 25, 3) := by decide +kernel
theorem dX3_init_44 : decode cX3_init 44 = .ok (.aload_n 0, 1) := by decide +kernel
theorem dX3_init_45 : decode cX3_init 45 = .ok (.bipush 40, 2) := by decide +kernel
theorem dX3_init_47 : decode cX3_init 47 = .ok (.newarray .int, 2) := by decide +kernel
theorem dX3_init_49 : decode cX3_init 49 = .ok (.putfield 28, 3) := by decide +kernel
theorem dX3_init_52 : decode cX3_init 52 = .ok (.aload_n 0, 1) := by decide +kernel
theorem dX3_init_53 : decode cX3_init 53 = .ok (.bipush 40, 2) := by decide +kernel
theorem dX3_init_55 : decode cX3_init 55 = .ok (.newarray .int, 2) := by decide +kernel
theorem dX3_init_57 : decode cX3_init 57 = .ok (.putfield 31, 3) := by decide +kernel
theorem dX3_init_60 : decode cX3_init 60 = .ok (.aload_n 0, 1) := by decide +kernel
theorem dX3_init_61 : decode cX3_init 61 = .ok (.bipush 40, 2) := by decide +kernel
theorem dX3_init_63 : decode cX3_init 63 = .ok (.newarray .int, 2) := by decide +kernel
theorem dX3_init_65 : decode cX3_init 65 = .ok (.putfield 34, 3) := by decide +kernel
theorem dX3_init_68 : decode cX3_init 68 = .ok (.aload_n 0, 1) := by decide +kernel
theorem dX3_init_69 : decode cX3_init 69 = .ok (.bipush 40, 2) := by decide +kernel
theorem dX3_init_71 : decode cX3_init 71 = .ok (.newarray .int, 2) := by decide +kernel
theorem dX3_init_73 : decode cX3_init 73 = .ok (.putfield 37, 3) := by decide +kernel
theorem dX3_init_76 : decode cX3_init 76 = .ok (.return_, 1) := by decide +kernel
theorem dX0_init_0 : decode cX0_init 0 = .ok (.aload_n 0, 1) := by decide +kernel
theorem dX0_init_1 : decode cX0_init 1 = .ok (.invokespecial 3, 3) := by decide +kernel
theorem dX0_init_4 : decode cX0_init 4 = .ok (.aload_n 0, 1) := by decide +kernel
theorem dX0_init_5 : decode cX0_init 5 = .ok (.sipush 300, 3) := by decide +kernel
theorem dX0_init_8 : decode cX0_init 8 = .ok (.newarray .long, 2) := by decide +kernel
theorem dX0_init_10 : decode cX0_init 10 = .ok (.putfield 11, 3) := by decide +kernel
theorem dX0_init_13 : decode cX0_init 13 = .ok (.return_, 1) := by decide +kernel
theorem dX1_init_0 : decode cX1_init 0 = .ok (.aload_n 0, 1) := by decide +kernel
theorem dX1_init_1 : decode cX1_init 1 = .ok (.invokespecial 3, 3) := by decide +kernel
theorem dX1_init_4 : decode cX1_init 4 = .ok (.aload_n 0, 1) := by decide +kernel
theorem dX1_init_5 : decode cX1_init 5 = .ok (.bipush 40, 2) := by decide +kernel
theorem dX1_init_7 : decode cX1_init 7 = .ok (.newarray .int, 2) := by decide +kernel
theorem dX1_init_9 : decode cX1_init 9 = .ok (.putfield 9, 3) := by decide +kernel
theorem dX1_init_12 : decode cX1_init 12 = .ok (.aload_n 0, 1) := by decide +kernel
theorem dX1_init_13 : decode cX1_init 13 = .ok (.bipush 32, 2) := by decide +kernel
theorem dX1_init_15 : decode cX1_init 15 = .ok (.newarray .long, 2) := by decide +kernel
theorem dX1_init_17 : decode cX1_init 17 = .ok (.putfield 15, 3) := by decide +kernel
theorem dX1_init_20 : decode cX1_init 20 = .ok (.aload_n 0, 1) := by decide +kernel
theorem dX1_init_21 : decode cX1_init 21 = .ok (.bipush 8, 2) := by decide +kernel
theorem dX1_init_23 : decode cX1_init 23 = .ok (.newarray .int, 2) := by decide +kernel
theorem dX1_init_25 : decode cX1_init 25 = .ok (.putfield 19, 3) := by decide +kernel
theorem dX1_init_28 : decode cX1_init 28 = .ok (.return_, 1) := by decide +kernel
theorem dX5_plan_0 : decode cX5_plan 0 = .ok (.aload_n 0, 1) := by decide +kernel
theorem dX5_plan_1 : decode cX5_plan 1 = .ok (.invokevirtual 137, 3) := by decide +kernel
theorem dX5_plan_4 : decode cX5_plan 4 = .ok (.iconst 0, 1) := by decide +kernel
theorem dX5_plan_5 : decode cX5_plan 5 = .ok (.istore_n 1, 1) := by decide +kernel
theorem dX5_plan_6 : decode cX5_plan 6 = .ok (.iconst 0, 1) := by decide +kernel
theorem dX5_plan_7 : decode cX5_plan 7 = .ok (.istore_n 2, 1) := by decide +kernel
theorem dX5_plan_8 : decode cX5_plan 8 = .ok (.iload_n 2, 1) := by decide +kernel
theorem dX5_plan_9 : decode cX5_plan 9 = .ok (.aload_n 0, 1) := by decide +kernel
theorem dX5_plan_10 : decode cX5_plan 10 = .ok (.getfield 26, 3) := by decide +kernel
theorem dX5_plan_13 : decode cX5_plan 13 = .ok (.getfield 140, 3) := by decide +kernel
theorem dX5_plan_16 : decode cX5_plan 16 = .ok (.if_icmp .ge 28, 3) := by decide +kernel
theorem dX5_plan_19 : decode cX5_plan 19 = .ok (.aload_n 0, 1) := by decide +kernel
theorem dX5_plan_20 : decode cX5_plan 20 = .ok (.aload_n 0, 1) := by decide +kernel
theorem dX5_plan_21 : decode cX5_plan 21 = .ok (.getfield 26, 3) := by decide +kernel
theorem dX5_plan_24 : decode cX5_plan 24 = .ok (.getfield 143, 3) := by decide +kernel
theorem dX5_plan_27 : decode cX5_plan 27 = .ok (.iload_n 2, 1) := by decide +kernel
theorem dX5_plan_28 : decode cX5_plan 28 = .ok (.iaload, 1) := by decide +kernel
theorem dX5_plan_29 : decode cX5_plan 29 = .ok (.invokevirtual 146, 3) := by decide +kernel
theorem dX5_plan_32 : decode cX5_plan 32 = .ok (.ifCond .eq 6, 3) := by decide +kernel
theorem dX5_plan_35 : decode cX5_plan 35 = .ok (.iinc 1 1, 3) := by decide +kernel
theorem dX5_plan_38 : decode cX5_plan 38 = .ok (.iinc 2 1, 3) := by decide +kernel
theorem dX5_plan_41 : decode cX5_plan 41 = .ok (.goto (-33), 3) := by decide +kernel
theorem dX5_plan_44 : decode cX5_plan 44 = .ok (.iload_n 1, 1) := by decide +kernel
theorem dX5_plan_45 : decode cX5_plan 45 = .ok (.ireturn, 1) := by decide +kernel
theorem dX5_settleToday_0 : decode cX5_settleToday 0 = .ok (.aload_n 0, 1) := by decide +kernel
theorem dX5_settleToday_1 : decode cX5_settleToday 1 = .ok (.getfield 47, 3) := by decide +kernel
theorem dX5_settleToday_4 : decode cX5_settleToday 4 = .ok (.ifCond .eq 39, 3) := by decide +kernel
theorem dX5_settleToday_7 : decode cX5_settleToday 7 = .ok (.aload_n 0, 1) := by decide +kernel
theorem dX5_settleToday_8 : decode cX5_settleToday 8 = .ok (.getfield 40, 3) := by decide +kernel
theorem dX5_settleToday_11 : decode cX5_settleToday 11 = .ok (.aload_n 0, 1) := by decide +kernel
theorem dX5_settleToday_12 : decode cX5_settleToday 12 = .ok (.getfield 10, 3) := by decide +kernel
theorem dX5_settleToday_15 : decode cX5_settleToday 15 = .ok (.aload_n 0, 1) := by decide +kernel
theorem dX5_settleToday_16 : decode cX5_settleToday 16 = .ok (.getfield 19, 3) := by decide +kernel
theorem dX5_settleToday_19 : decode cX5_settleToday 19 = .ok (.invokevirtual 161, 3) := by decide +kernel
theorem dX5_settleToday_22 : decode cX5_settleToday 22 = .ok (.aload_n 0, 1) := by decide +kernel
theorem dX5_settleToday_23 : decode cX5_settleToday 23 = .ok (.getfield 40, 3) := by decide +kernel
theorem dX5_settleToday_26 : decode cX5_settleToday 26 = .ok (.aload_n 0, 1) := by decide +kernel
theorem dX5_settleToday_27 : decode cX5_settleToday 27 = .ok (.getfield 10, 3) := by decide +kernel
theorem dX5_settleToday_30 : decode cX5_settleToday 30 = .ok (.aload_n 0, 1) := by decide +kernel
theorem dX5_settleToday_31 : decode cX5_settleToday 31 = .ok (.getfield 26, 3) := by decide +kernel
theorem dX5_settleToday_34 : decode cX5_settleToday 34 = .ok (.iconst (-1), 1) := by decide +kernel
theorem dX5_settleToday_35 : decode cX5_settleToday 35 = .ok (.invokevirtual 173, 3) := by decide +kernel
theorem dX5_settleToday_38 : decode cX5_settleToday 38 = .ok (.aload_n 0, 1) := by decide +kernel
theorem dX5_settleToday_39 : decode cX5_settleToday 39 = .ok (.iconst 0, 1) := by decide +kernel
theorem dX5_settleToday_40 : decode cX5_settleToday 40 = .ok (.putfield 47, 3) := by decide +kernel
theorem dX5_settleToday_43 : decode cX5_settleToday 43 = .ok (.return_, 1) := by decide +kernel
theorem dX1_begin_0 : decode cX1_begin 0 = .ok (.aload_n 0, 1) := by decide +kernel
theorem dX1_begin_1 : decode cX1_begin 1 = .ok (.getfield 9, 3) := by decide +kernel
theorem dX1_begin_4 : decode cX1_begin 4 = .ok (.iconst 0, 1) := by decide +kernel
theorem dX1_begin_5 : decode cX1_begin 5 = .ok (.invokestatic 22, 3) := by decide +kernel
theorem dX1_begin_8 : decode cX1_begin 8 = .ok (.aload_n 0, 1) := by decide +kernel
theorem dX1_begin_9 : decode cX1_begin 9 = .ok (.getfield 15, 3) := by decide +kernel
theorem dX1_begin_12 : decode cX1_begin 12 = .ok (.lconst 0, 1) := by decide +kernel
theorem dX1_begin_13 : decode cX1_begin 13 = .ok (.invokestatic 28, 3) := by decide +kernel
theorem dX1_begin_16 : decode cX1_begin 16 = .ok (.iconst 0, 1) := by decide +kernel
theorem dX1_begin_17 : decode cX1_begin 17 = .ok (.istore_n 3, 1) := by decide +kernel
theorem dX1_begin_18 : decode cX1_begin 18 = .ok (.iload_n 3, 1) := by decide +kernel
theorem dX1_begin_19 : decode cX1_begin 19 = .ok (.bipush 32, 2) := by decide +kernel
theorem dX1_begin_21 : decode cX1_begin 21 = .ok (.if_icmp .ge 24, 3) := by decide +kernel
theorem dX1_begin_24 : decode cX1_begin 24 = .ok (.aload_n 1, 1) := by decide +kernel
theorem dX1_begin_25 : decode cX1_begin 25 = .ok (.getfield 31, 3) := by decide +kernel
theorem dX1_begin_28 : decode cX1_begin 28 = .ok (.iload_n 3, 1) := by decide +kernel
theorem dX1_begin_29 : decode cX1_begin 29 = .ok (.iaload, 1) := by decide +kernel
theorem dX1_begin_30 : decode cX1_begin 30 = .ok (.ifCond .le 9, 3) := by decide +kernel
theorem dX1_begin_33 : decode cX1_begin 33 = .ok (.aload_n 0, 1) := by decide +kernel
theorem dX1_begin_34 : decode cX1_begin 34 = .ok (.aload_n 1, 1) := by decide +kernel
theorem dX1_begin_35 : decode cX1_begin 35 = .ok (.iload_n 3, 1) := by decide +kernel
theorem dX1_begin_36 : decode cX1_begin 36 = .ok (.invokevirtual 36, 3) := by decide +kernel
theorem dX1_begin_39 : decode cX1_begin 39 = .ok (.iinc 3 1, 3) := by decide +kernel
theorem dX1_begin_42 : decode cX1_begin 42 = .ok (.goto (-24), 3) := by decide +kernel
theorem dX1_begin_45 : decode cX1_begin 45 = .ok (.iconst 0, 1) := by decide +kernel
theorem dX1_begin_46 : decode cX1_begin 46 = .ok (.istore_n 3, 1) := by decide +kernel
theorem dX1_begin_47 : decode cX1_begin 47 = .ok (.iload_n 3, 1) := by decide +kernel
theorem dX1_begin_48 : decode cX1_begin 48 = .ok (.bipush 8, 2) := by decide +kernel
theorem dX1_begin_50 : decode cX1_begin 50 = .ok (.if_icmp .ge 28, 3) := by decide +kernel
theorem dX1_begin_53 : decode cX1_begin 53 = .ok (.aload_n 0, 1) := by decide +kernel
theorem dX1_begin_54 : decode cX1_begin 54 = .ok (.getfield 19, 3) := by decide +kernel
theorem dX1_begin_57 : decode cX1_begin 57 = .ok (.iload_n 3, 1) := by decide +kernel
theorem dX1_begin_58 : decode cX1_begin 58 = .ok (.aload_n 2, 1) := by decide +kernel
theorem dX1_begin_59 : decode cX1_begin 59 = .ok (.getfield 40, 3) := by decide +kernel
theorem dX1_begin_62 : decode cX1_begin 62 = .ok (.iload_n 3, 1) := by decide +kernel
theorem dX1_begin_63 : decode cX1_begin 63 = .ok (.iaload, 1) := by decide +kernel
theorem dX1_begin_64 : decode cX1_begin 64 = .ok (.aload_n 2, 1) := by decide +kernel
theorem dX1_begin_65 : decode cX1_begin 65 = .ok (.getfield 45, 3) := by decide +kernel
theorem dX1_begin_68 : decode cX1_begin 68 = .ok (.iload_n 3, 1) := by decide +kernel
theorem dX1_begin_69 : decode cX1_begin 69 = .ok (.iaload, 1) := by decide +kernel
theorem dX1_begin_70 : decode cX1_begin 70 = .ok (.isub, 1) := by decide +kernel
theorem dX1_begin_71 : decode cX1_begin 71 = .ok (.iastore, 1) := by decide +kernel
theorem dX1_begin_72 : decode cX1_begin 72 = .ok (.iinc 3 1, 3) := by decide +kernel
theorem dX1_begin_75 : decode cX1_begin 75 = .ok (.goto (-28), 3) := by decide +kernel
theorem dX1_begin_78 : decode cX1_begin 78 = .ok (.return_, 1) := by decide +kernel
theorem dJA_fillI_0 : decode cJA_fillI 0 = .ok (.iconst 0, 1) := by decide +kernel
theorem dJA_fillI_1 : decode cJA_fillI 1 = .ok (.istore_n 2, 1) := by decide +kernel
theorem dJA_fillI_2 : decode cJA_fillI 2 = .ok (.aload_n 0, 1) := by decide +kernel
theorem dJA_fillI_3 : decode cJA_fillI 3 = .ok (.arraylength, 1) := by decide +kernel
theorem dJA_fillI_4 : decode cJA_fillI 4 = .ok (.istore_n 3, 1) := by decide +kernel
theorem dJA_fillI_5 : decode cJA_fillI 5 = .ok (.iload_n 2, 1) := by decide +kernel
theorem dJA_fillI_6 : decode cJA_fillI 6 = .ok (.iload_n 3, 1) := by decide +kernel
theorem dJA_fillI_7 : decode cJA_fillI 7 = .ok (.if_icmp .ge 13, 3) := by decide +kernel
theorem dJA_fillI_10 : decode cJA_fillI 10 = .ok (.aload_n 0, 1) := by decide +kernel
theorem dJA_fillI_11 : decode cJA_fillI 11 = .ok (.iload_n 2, 1) := by decide +kernel
theorem dJA_fillI_12 : decode cJA_fillI 12 = .ok (.iload_n 1, 1) := by decide +kernel
theorem dJA_fillI_13 : decode cJA_fillI 13 = .ok (.iastore, 1) := by decide +kernel
theorem dJA_fillI_14 : decode cJA_fillI 14 = .ok (.iinc 2 1, 3) := by decide +kernel
theorem dJA_fillI_17 : decode cJA_fillI 17 = .ok (.goto (-12), 3) := by decide +kernel
theorem dJA_fillI_20 : decode cJA_fillI 20 = .ok (.return_, 1) := by decide +kernel
theorem dJA_fillJ_0 : decode cJA_fillJ 0 = .ok (.iconst 0, 1) := by decide +kernel
theorem dJA_fillJ_1 : decode cJA_fillJ 1 = .ok (.istore_n 3, 1) := by decide +kernel
theorem dJA_fillJ_2 : decode cJA_fillJ 2 = .ok (.aload_n 0, 1) := by decide +kernel
theorem dJA_fillJ_3 : decode cJA_fillJ 3 = .ok (.arraylength, 1) := by decide +kernel
theorem dJA_fillJ_4 : decode cJA_fillJ 4 = .ok (.istore 4, 2) := by decide +kernel
theorem dJA_fillJ_6 : decode cJA_fillJ 6 = .ok (.iload_n 3, 1) := by decide +kernel
theorem dJA_fillJ_7 : decode cJA_fillJ 7 = .ok (.iload 4, 2) := by decide +kernel
theorem dJA_fillJ_9 : decode cJA_fillJ 9 = .ok (.if_icmp .ge 13, 3) := by decide +kernel
theorem dJA_fillJ_12 : decode cJA_fillJ 12 = .ok (.aload_n 0, 1) := by decide +kernel
theorem dJA_fillJ_13 : decode cJA_fillJ 13 = .ok (.iload_n 3, 1) := by decide +kernel
theorem dJA_fillJ_14 : decode cJA_fillJ 14 = .ok (.lload_n 1, 1) := by decide +kernel
theorem dJA_fillJ_15 : decode cJA_fillJ 15 = .ok (.lastore, 1) := by decide +kernel
theorem dJA_fillJ_16 : decode cJA_fillJ 16 = .ok (.iinc 3 1, 3) := by decide +kernel
theorem dJA_fillJ_19 : decode cJA_fillJ 19 = .ok (.goto (-13), 3) := by decide +kernel
theorem dJA_fillJ_22 : decode cJA_fillJ 22 = .ok (.return_, 1) := by decide +kernel
theorem dX1_pour_0 : decode cX1_pour 0 = .ok (.iload_n 2, 1) := by decide +kernel
theorem dX1_pour_1 : decode cX1_pour 1 = .ok (.istore_n 3, 1) := by decide +kernel
theorem dX1_pour_2 : decode cX1_pour 2 = .ok (.iconst 0, 1) := by decide +kernel
theorem dX1_pour_3 : decode cX1_pour 3 = .ok (.istore 4, 2) := by decide +kernel
theorem dX1_pour_5 : decode cX1_pour 5 = .ok (.iload 4, 2) := by decide +kernel
theorem dX1_pour_7 : decode cX1_pour 7 = .ok (.bipush 32, 2) := by decide +kernel
theorem dX1_pour_9 : decode cX1_pour 9 = .ok (.if_icmp .ge 37, 3) := by decide +kernel
theorem dX1_pour_12 : decode cX1_pour 12 = .ok (.iload_n 3, 1) := by decide +kernel
theorem dX1_pour_13 : decode cX1_pour 13 = .ok (.iconst (-1), 1) := by decide +kernel
theorem dX1_pour_14 : decode cX1_pour 14 = .ok (.if_icmp .eq 32, 3) := by decide +kernel
theorem dX1_pour_17 : decode cX1_pour 17 = .ok (.aload_n 0, 1) := by decide +kernel
theorem dX1_pour_18 : decode cX1_pour 18 = .ok (.getfield 15, 3) := by decide +kernel
theorem dX1_pour_21 : decode cX1_pour 21 = .ok (.iload_n 3, 1) := by decide +kernel
theorem dX1_pour_22 : decode cX1_pour 22 = .ok (.dup2, 1) := by decide +kernel
theorem dX1_pour_23 : decode cX1_pour 23 = .ok (.laload, 1) := by decide +kernel
theorem dX1_pour_24 : decode cX1_pour 24 = .ok (.aload_n 1, 1) := by decide +kernel
theorem dX1_pour_25 : decode cX1_pour 25 = .ok (.getfield 31, 3) := by decide +kernel
theorem dX1_pour_28 : decode cX1_pour 28 = .ok (.iload_n 2, 1) := by decide +kernel
theorem dX1_pour_29 : decode cX1_pour 29 = .ok (.iaload, 1) := by decide +kernel
theorem dX1_pour_30 : decode cX1_pour 30 = .ok (.i2l, 1) := by decide +kernel
theorem dX1_pour_31 : decode cX1_pour 31 = .ok (.ladd, 1) := by decide +kernel
theorem dX1_pour_32 : decode cX1_pour 32 = .ok (.lastore, 1) := by decide +kernel
theorem dX1_pour_33 : decode cX1_pour 33 = .ok (.aload_n 1, 1) := by decide +kernel
theorem dX1_pour_34 : decode cX1_pour 34 = .ok (.getfield 48, 3) := by decide +kernel
theorem dX1_pour_37 : decode cX1_pour 37 = .ok (.iload_n 3, 1) := by decide +kernel
theorem dX1_pour_38 : decode cX1_pour 38 = .ok (.iaload, 1) := by decide +kernel
theorem dX1_pour_39 : decode cX1_pour 39 = .ok (.istore_n 3, 1) := by decide +kernel
theorem dX1_pour_40 : decode cX1_pour 40 = .ok (.iinc 4 1, 3) := by decide +kernel
theorem dX1_pour_43 : decode cX1_pour 43 = .ok (.goto (-38), 3) := by decide +kernel
theorem dX1_pour_46 : decode cX1_pour 46 = .ok (.return_, 1) := by decide +kernel
theorem dX1_giveAllBut_0 : decode cX1_giveAllBut 0 = .ok (.iconst 0, 1) := by decide +kernel
theorem dX1_giveAllBut_1 : decode cX1_giveAllBut 1 = .ok (.istore 4, 2) := by decide +kernel
theorem dX1_giveAllBut_3 : decode cX1_giveAllBut 3 = .ok (.iload 4, 2) := by decide +kernel
theorem dX1_giveAllBut_5 : decode cX1_giveAllBut 5 = .ok (.aload_n 2, 1) := by decide +kernel
theorem dX1_giveAllBut_6 : decode cX1_giveAllBut 6 = .ok (.getfield 51, 3) := by decide +kernel
theorem dX1_giveAllBut_9 : decode cX1_giveAllBut 9 = .ok (.if_icmp .ge 40, 3) := by decide +kernel
theorem dX1_giveAllBut_12 : decode cX1_giveAllBut 12 = .ok (.aload_n 2, 1) := by decide +kernel
theorem dX1_giveAllBut_13 : decode cX1_giveAllBut 13 = .ok (.getfield 57, 3) := by decide +kernel
theorem dX1_giveAllBut_16 : decode cX1_giveAllBut 16 = .ok (.iload 4, 2) := by decide +kernel
theorem dX1_giveAllBut_18 : decode cX1_giveAllBut 18 = .ok (.iaload, 1) := by decide +kernel
theorem dX1_giveAllBut_19 : decode cX1_giveAllBut 19 = .ok (.istore 5, 2) := by decide +kernel
theorem dX1_giveAllBut_21 : decode cX1_giveAllBut 21 = .ok (.iload 5, 2) := by decide +kernel
theorem dX1_giveAllBut_23 : decode cX1_giveAllBut 23 = .ok (.iload_n 3, 1) := by decide +kernel
theorem dX1_giveAllBut_24 : decode cX1_giveAllBut 24 = .ok (.if_icmp .eq 19, 3) := by decide +kernel
theorem dX1_giveAllBut_27 : decode cX1_giveAllBut 27 = .ok (.aload_n 0, 1) := by decide +kernel
theorem dX1_giveAllBut_28 : decode cX1_giveAllBut 28 = .ok (.aload_n 1, 1) := by decide +kernel
theorem dX1_giveAllBut_29 : decode cX1_giveAllBut 29 = .ok (.aload_n 2, 1) := by decide +kernel
theorem dX1_giveAllBut_30 : decode cX1_giveAllBut 30 = .ok (.iload 5, 2) := by decide +kernel
theorem dX1_giveAllBut_32 : decode cX1_giveAllBut 32 = .ok (.aload_n 0, 1) := by decide +kernel
theorem dX1_giveAllBut_33 : decode cX1_giveAllBut 33 = .ok (.aload_n 1, 1) := by decide +kernel
theorem dX1_giveAllBut_34 : decode cX1_giveAllBut 34 = .ok (.aload_n 2, 1) := by decide +kernel
theorem dX1_giveAllBut_35 : decode cX1_giveAllBut 35 = .ok (.iload 5, 2) := by decide +kernel
theorem dX1_giveAllBut_37 : decode cX1_giveAllBut 37 = .ok (.invokevirtual 60, 3) := by decide +kernel
theorem dX1_giveAllBut_40 : decode cX1_giveAllBut 40 = .ok (.invokevirtual 64, 3) := by decide +kernel
theorem dX1_giveAllBut_43 : decode cX1_giveAllBut 43 = .ok (.iinc 4 1, 3) := by decide +kernel
theorem dX1_giveAllBut_46 : decode cX1_giveAllBut 46 = .ok (.goto (-43), 3) := by decide +kernel
theorem dX1_giveAllBut_49 : decode cX1_giveAllBut 49 = .ok (.return_, 1) := by decide +kernel
theorem dX1_most_0 : decode cX1_most 0 = .ok (.aload_n 2, 1) := by decide +kernel
theorem dX1_most_1 : decode cX1_most 1 = .ok (.getfield 68, 3) := by decide +kernel
theorem dX1_most_4 : decode cX1_most 4 = .ok (.iload_n 3, 1) := by decide +kernel
theorem dX1_most_5 : decode cX1_most 5 = .ok (.iaload, 1) := by decide +kernel
theorem dX1_most_6 : decode cX1_most 6 = .ok (.i2l, 1) := by decide +kernel
theorem dX1_most_7 : decode cX1_most 7 = .ok (.lstore 4, 2) := by decide +kernel
theorem dX1_most_9 : decode cX1_most 9 = .ok (.aload_n 2, 1) := by decide +kernel
theorem dX1_most_10 : decode cX1_most 10 = .ok (.iload_n 3, 1) := by decide +kernel
theorem dX1_most_11 : decode cX1_most 11 = .ok (.invokevirtual 71, 3) := by decide +kernel
theorem dX1_most_14 : decode cX1_most 14 = .ok (.ifCond .eq 22, 3) := by decide +kernel
theorem dX1_most_17 : decode cX1_most 17 = .ok (.lload 4, 2) := by decide +kernel
theorem dX1_most_19 : decode cX1_most 19 = .ok (.aload_n 0, 1) := by decide +kernel
theorem dX1_most_20 : decode cX1_most 20 = .ok (.getfield 19, 3) := by decide +kernel
theorem dX1_most_23 : decode cX1_most 23 = .ok (.aload_n 2, 1) := by decide +kernel
theorem dX1_most_24 : decode cX1_most 24 = .ok (.getfield 75, 3) := by decide +kernel
theorem dX1_most_27 : decode cX1_most 27 = .ok (.iload_n 3, 1) := by decide +kernel
theorem dX1_most_28 : decode cX1_most 28 = .ok (.iaload, 1) := by decide +kernel
theorem dX1_most_29 : decode cX1_most 29 = .ok (.iaload, 1) := by decide +kernel
theorem dX1_most_30 : decode cX1_most 30 = .ok (.i2l, 1) := by decide +kernel
theorem dX1_most_31 : decode cX1_most 31 = .ok (.invokestatic 78, 3) := by decide +kernel
theorem dX1_most_34 : decode cX1_most 34 = .ok (.lstore 4, 2) := by decide +kernel
theorem dX1_most_36 : decode cX1_most 36 = .ok (.iconst 0, 1) := by decide +kernel
theorem dX1_most_37 : decode cX1_most 37 = .ok (.istore 6, 2) := by decide +kernel
theorem dX1_most_39 : decode cX1_most 39 = .ok (.aload_n 2, 1) := by decide +kernel
theorem dX1_most_40 : decode cX1_most 40 = .ok (.getfield 84, 3) := by decide +kernel
theorem dX1_most_43 : decode cX1_most 43 = .ok (.iload_n 3, 1) := by decide +kernel
theorem dX1_most_44 : decode cX1_most 44 = .ok (.iaload, 1) := by decide +kernel
theorem dX1_most_45 : decode cX1_most 45 = .ok (.istore 7, 2) := by decide +kernel
theorem dX1_most_47 : decode cX1_most 47 = .ok (.iconst 0, 1) := by decide +kernel
theorem dX1_most_48 : decode cX1_most 48 = .ok (.istore 8, 2) := by decide +kernel
theorem dX1_most_50 : decode cX1_most 50 = .ok (.iload 8, 2) := by decide +kernel
theorem dX1_most_52 : decode cX1_most 52 = .ok (.bipush 32, 2) := by decide +kernel
theorem dX1_most_54 : decode cX1_most 54 = .ok (.if_icmp .ge 81, 3) := by decide +kernel
theorem dX1_most_57 : decode cX1_most 57 = .ok (.iload 7, 2) := by decide +kernel
theorem dX1_most_59 : decode cX1_most 59 = .ok (.iconst (-1), 1) := by decide +kernel
theorem dX1_most_60 : decode cX1_most 60 = .ok (.if_icmp .eq 75, 3) := by decide +kernel
theorem dX1_most_63 : decode cX1_most 63 = .ok (.iload 6, 2) := by decide +kernel
theorem dX1_most_65 : decode cX1_most 65 = .ok (.ifCond .ne 14, 3) := by decide +kernel
theorem dX1_most_68 : decode cX1_most 68 = .ok (.iload 7, 2) := by decide +kernel
theorem dX1_most_70 : decode cX1_most 70 = .ok (.aload_n 2, 1) := by decide +kernel
theorem dX1_most_71 : decode cX1_most 71 = .ok (.getfield 87, 3) := by decide +kernel
theorem dX1_most_74 : decode cX1_most 74 = .ok (.iload_n 3, 1) := by decide +kernel
theorem dX1_most_75 : decode cX1_most 75 = .ok (.iaload, 1) := by decide +kernel
theorem dX1_most_76 : decode cX1_most 76 = .ok (.if_icmp .ne 7, 3) := by decide +kernel
theorem dX1_most_79 : decode cX1_most 79 = .ok (.iconst 1, 1) := by decide +kernel
theorem dX1_most_80 : decode cX1_most 80 = .ok (.goto 4, 3) := by decide +kernel
theorem dX1_most_83 : decode cX1_most 83 = .ok (.iconst 0, 1) := by decide +kernel
theorem dX1_most_84 : decode cX1_most 84 = .ok (.istore 6, 2) := by decide +kernel
theorem dX1_most_86 : decode cX1_most 86 = .ok (.lload 4, 2) := by decide +kernel
theorem dX1_most_88 : decode cX1_most 88 = .ok (.iload 6, 2) := by decide +kernel
theorem dX1_most_90 : decode cX1_most 90 = .ok (.ifCond .eq 18, 3) := by decide +kernel
theorem dX1_most_93 : decode cX1_most 93 = .ok (.aload_n 2, 1) := by decide +kernel
theorem dX1_most_94 : decode cX1_most 94 = .ok (.iload_n 3, 1) := by decide +kernel
theorem dX1_most_95 : decode cX1_most 95 = .ok (.aload_n 0, 1) := by decide +kernel
theorem dX1_most_96 : decode cX1_most 96 = .ok (.getfield 15, 3) := by decide +kernel
theorem dX1_most_99 : decode cX1_most 99 = .ok (.iload 7, 2) := by decide +kernel
theorem dX1_most_101 : decode cX1_most 101 = .ok (.laload, 1) := by decide +kernel
theorem dX1_most_102 : decode cX1_most 102 = .ok (.invokevirtual 90, 3) := by decide +kernel
theorem dX1_most_105 : decode cX1_most 105 = .ok (.goto 10, 3) := by decide +kernel
theorem dX1_most_108 : decode cX1_most 108 = .ok (.aload_n 0, 1) := by decide +kernel
theorem dX1_most_109 : decode cX1_most 109 = .ok (.getfield 15, 3) := by decide +kernel
theorem dX1_most_112 : decode cX1_most 112 = .ok (.iload 7, 2) := by decide +kernel
theorem dX1_most_114 : decode cX1_most 114 = .ok (.laload, 1) := by decide +kernel
theorem dX1_most_115 : decode cX1_most 115 = .ok (.invokestatic 78, 3) := by decide +kernel
theorem dX1_most_118 : decode cX1_most 118 = .ok (.lstore 4, 2) := by decide +kernel
theorem dX1_most_120 : decode cX1_most 120 = .ok (.aload_n 1, 1) := by decide +kernel
theorem dX1_most_121 : decode cX1_most 121 = .ok (.getfield 48, 3) := by decide +kernel
theorem dX1_most_124 : decode cX1_most 124 = .ok (.iload 7, 2) := by decide +kernel
theorem dX1_most_126 : decode cX1_most 126 = .ok (.iaload, 1) := by decide +kernel
theorem dX1_most_127 : decode cX1_most 127 = .ok (.istore 7, 2) := by decide +kernel
theorem dX1_most_129 : decode cX1_most 129 = .ok (.iinc 8 1, 3) := by decide +kernel
theorem dX1_most_132 : decode cX1_most 132 = .ok (.goto (-82), 3) := by decide +kernel
theorem dX1_most_135 : decode cX1_most 135 = .ok (.lload 4, 2) := by decide +kernel
theorem dX1_most_137 : decode cX1_most 137 = .ok (.l2i, 1) := by decide +kernel
theorem dX1_most_138 : decode cX1_most 138 = .ok (.ireturn, 1) := by decide +kernel
theorem dX3_isStorage_0 : decode cX3_isStorage 0 = .ok (.aload_n 0, 1) := by decide +kernel
theorem dX3_isStorage_1 : decode cX3_isStorage 1 = .ok (.getfield 34, 3) := by decide +kernel
theorem dX3_isStorage_4 : decode cX3_isStorage 4 = .ok (.iload_n 1, 1) := by decide +kernel
theorem dX3_isStorage_5 : decode cX3_isStorage 5 = .ok (.iaload, 1) := by decide +kernel
theorem dX3_isStorage_6 : decode cX3_isStorage 6 = .ok (.iconst (-1), 1) := by decide +kernel
theorem dX3_isStorage_7 : decode cX3_isStorage 7 = .ok (.if_icmp .eq 7, 3) := by decide +kernel
theorem dX3_isStorage_10 : decode cX3_isStorage 10 = .ok (.iconst 1, 1) := by decide +kernel
theorem dX3_isStorage_11 : decode cX3_isStorage 11 = .ok (.goto 4, 3) := by decide +kernel
theorem dX3_isStorage_14 : decode cX3_isStorage 14 = .ok (.iconst 0, 1) := by decide +kernel
theorem dX3_isStorage_15 : decode cX3_isStorage 15 = .ok (.ireturn, 1) := by decide +kernel
theorem dJM_min_0 : decode cJM_min 0 = .ok (.lload_n 0, 1) := by decide +kernel
theorem dJM_min_1 : decode cJM_min 1 = .ok (.lload_n 2, 1) := by decide +kernel
theorem dJM_min_2 : decode cJM_min 2 = .ok (.lcmp, 1) := by decide +kernel
theorem dJM_min_3 : decode cJM_min 3 = .ok (.ifCond .gt 7, 3) := by decide +kernel
theorem dJM_min_6 : decode cJM_min 6 = .ok (.lload_n 0, 1) := by decide +kernel
theorem dJM_min_7 : decode cJM_min 7 = .ok (.goto 4, 3) := by decide +kernel
theorem dJM_min_10 : decode cJM_min 10 = .ok (.lload_n 2, 1) := by decide +kernel
theorem dJM_min_11 : decode cJM_min 11 = .ok (.lreturn, 1) := by decide +kernel
theorem dX3_mostForUse_0 : decode cX3_mostForUse 0 = .ok (.sipush 1000, 3) := by decide +kernel
theorem dX3_mostForUse_3 : decode cX3_mostForUse 3 = .ok (.aload_n 0, 1) := by decide +kernel
theorem dX3_mostForUse_4 : decode cX3_mostForUse 4 = .ok (.getfield 28, 3) := by decide +kernel
theorem dX3_mostForUse_7 : decode cX3_mostForUse 7 = .ok (.iload_n 1, 1) := by decide +kernel
theorem dX3_mostForUse_8 : decode cX3_mostForUse 8 = .ok (.iaload, 1) := by decide +kernel
theorem dX3_mostForUse_9 : decode cX3_mostForUse 9 = .ok (.isub, 1) := by decide +kernel
theorem dX3_mostForUse_10 : decode cX3_mostForUse 10 = .ok (.istore 4, 2) := by decide +kernel
theorem dX3_mostForUse_12 : decode cX3_mostForUse 12 = .ok (.iload 4, 2) := by decide +kernel
theorem dX3_mostForUse_14 : decode cX3_mostForUse 14 = .ok (.ifCond .gt 9, 3) := by decide +kernel
theorem dX3_mostForUse_17 : decode cX3_mostForUse 17 = .ok (.ldc2_w 46, 3) := by decide +kernel
theorem dX3_mostForUse_20 : decode cX3_mostForUse 20 = .ok (.goto 12, 3) := by decide +kernel
theorem dX3_mostForUse_23 : decode cX3_mostForUse 23 = .ok (.lload_n 2, 1) := by decide +kernel
theorem dX3_mostForUse_24 : decode cX3_mostForUse 24 = .ok (.ldc2_w 44, 3) := by decide +kernel
theorem dX3_mostForUse_27 : decode cX3_mostForUse 27 = .ok (.lmul, 1) := by decide +kernel
theorem dX3_mostForUse_28 : decode cX3_mostForUse 28 = .ok (.iload 4, 2) := by decide +kernel
theorem dX3_mostForUse_30 : decode cX3_mostForUse 30 = .ok (.i2l, 1) := by decide +kernel
theorem dX3_mostForUse_31 : decode cX3_mostForUse 31 = .ok (.ldiv, 1) := by decide +kernel
theorem dX3_mostForUse_32 : decode cX3_mostForUse 32 = .ok (.lreturn, 1) := by decide +kernel
theorem dX1_give_0 : decode cX1_give 0 = .ok (.aload_n 0, 1) := by decide +kernel
theorem dX1_give_1 : decode cX1_give 1 = .ok (.getfield 9, 3) := by decide +kernel
theorem dX1_give_4 : decode cX1_give 4 = .ok (.iload_n 3, 1) := by decide +kernel
theorem dX1_give_5 : decode cX1_give 5 = .ok (.iload 4, 2) := by decide +kernel
theorem dX1_give_7 : decode cX1_give 7 = .ok (.iastore, 1) := by decide +kernel
theorem dX1_give_8 : decode cX1_give 8 = .ok (.aload_n 2, 1) := by decide +kernel
theorem dX1_give_9 : decode cX1_give 9 = .ok (.iload_n 3, 1) := by decide +kernel
theorem dX1_give_10 : decode cX1_give 10 = .ok (.invokevirtual 71, 3) := by decide +kernel
theorem dX1_give_13 : decode cX1_give 13 = .ok (.ifCond .eq 19, 3) := by decide +kernel
theorem dX1_give_16 : decode cX1_give 16 = .ok (.aload_n 0, 1) := by decide +kernel
theorem dX1_give_17 : decode cX1_give 17 = .ok (.getfield 19, 3) := by decide +kernel
theorem dX1_give_20 : decode cX1_give 20 = .ok (.aload_n 2, 1) := by decide +kernel
theorem dX1_give_21 : decode cX1_give 21 = .ok (.getfield 75, 3) := by decide +kernel
theorem dX1_give_24 : decode cX1_give 24 = .ok (.iload_n 3, 1) := by decide +kernel
theorem dX1_give_25 : decode cX1_give 25 = .ok (.iaload, 1) := by decide +kernel
theorem dX1_give_26 : decode cX1_give 26 = .ok (.dup2, 1) := by decide +kernel
theorem dX1_give_27 : decode cX1_give 27 = .ok (.iaload, 1) := by decide +kernel
theorem dX1_give_28 : decode cX1_give 28 = .ok (.iload 4, 2) := by decide +kernel
theorem dX1_give_30 : decode cX1_give 30 = .ok (.isub, 1) := by decide +kernel
theorem dX1_give_31 : decode cX1_give 31 = .ok (.iastore, 1) := by decide +kernel
theorem dX1_give_32 : decode cX1_give 32 = .ok (.iconst 0, 1) := by decide +kernel
theorem dX1_give_33 : decode cX1_give 33 = .ok (.istore 5, 2) := by decide +kernel
theorem dX1_give_35 : decode cX1_give 35 = .ok (.aload_n 2, 1) := by decide +kernel
theorem dX1_give_36 : decode cX1_give 36 = .ok (.getfield 84, 3) := by decide +kernel
theorem dX1_give_39 : decode cX1_give 39 = .ok (.iload_n 3, 1) := by decide +kernel
theorem dX1_give_40 : decode cX1_give 40 = .ok (.iaload, 1) := by decide +kernel
theorem dX1_give_41 : decode cX1_give 41 = .ok (.istore 6, 2) := by decide +kernel
theorem dX1_give_43 : decode cX1_give 43 = .ok (.iconst 0, 1) := by decide +kernel
theorem dX1_give_44 : decode cX1_give 44 = .ok (.istore 7, 2) := by decide +kernel
theorem dX1_give_46 : decode cX1_give 46 = .ok (.iload 7, 2) := by decide +kernel
theorem dX1_give_48 : decode cX1_give 48 = .ok (.bipush 32, 2) := by decide +kernel
theorem dX1_give_50 : decode cX1_give 50 = .ok (.if_icmp .ge 75, 3) := by decide +kernel
theorem dX1_give_53 : decode cX1_give 53 = .ok (.iload 6, 2) := by decide +kernel
theorem dX1_give_55 : decode cX1_give 55 = .ok (.iconst (-1), 1) := by decide +kernel
theorem dX1_give_56 : decode cX1_give 56 = .ok (.if_icmp .eq 69, 3) := by decide +kernel
theorem dX1_give_59 : decode cX1_give 59 = .ok (.iload 5, 2) := by decide +kernel
theorem dX1_give_61 : decode cX1_give 61 = .ok (.ifCond .ne 14, 3) := by decide +kernel
theorem dX1_give_64 : decode cX1_give 64 = .ok (.iload 6, 2) := by decide +kernel
theorem dX1_give_66 : decode cX1_give 66 = .ok (.aload_n 2, 1) := by decide +kernel
theorem dX1_give_67 : decode cX1_give 67 = .ok (.getfield 87, 3) := by decide +kernel
theorem dX1_give_70 : decode cX1_give 70 = .ok (.iload_n 3, 1) := by decide +kernel
theorem dX1_give_71 : decode cX1_give 71 = .ok (.iaload, 1) := by decide +kernel
theorem dX1_give_72 : decode cX1_give 72 = .ok (.if_icmp .ne 7, 3) := by decide +kernel
theorem dX1_give_75 : decode cX1_give 75 = .ok (.iconst 1, 1) := by decide +kernel
theorem dX1_give_76 : decode cX1_give 76 = .ok (.goto 4, 3) := by decide +kernel
theorem dX1_give_79 : decode cX1_give 79 = .ok (.iconst 0, 1) := by decide +kernel
theorem dX1_give_80 : decode cX1_give 80 = .ok (.istore 5, 2) := by decide +kernel
theorem dX1_give_82 : decode cX1_give 82 = .ok (.aload_n 0, 1) := by decide +kernel
theorem dX1_give_83 : decode cX1_give 83 = .ok (.getfield 15, 3) := by decide +kernel
theorem dX1_give_86 : decode cX1_give 86 = .ok (.iload 6, 2) := by decide +kernel
theorem dX1_give_88 : decode cX1_give 88 = .ok (.dup2, 1) := by decide +kernel
theorem dX1_give_89 : decode cX1_give 89 = .ok (.laload, 1) := by decide +kernel
theorem dX1_give_90 : decode cX1_give 90 = .ok (.iload 5, 2) := by decide +kernel
theorem dX1_give_92 : decode cX1_give 92 = .ok (.ifCond .eq 13, 3) := by decide +kernel
theorem dX1_give_95 : decode cX1_give 95 = .ok (.aload_n 2, 1) := by decide +kernel
theorem dX1_give_96 : decode cX1_give 96 = .ok (.iload_n 3, 1) := by decide +kernel
theorem dX1_give_97 : decode cX1_give 97 = .ok (.iload 4, 2) := by decide +kernel
theorem dX1_give_99 : decode cX1_give 99 = .ok (.invokevirtual 94, 3) := by decide +kernel
theorem dX1_give_102 : decode cX1_give 102 = .ok (.goto 6, 3) := by decide +kernel
theorem dX1_give_105 : decode cX1_give 105 = .ok (.iload 4, 2) := by decide +kernel
theorem dX1_give_107 : decode cX1_give 107 = .ok (.i2l, 1) := by decide +kernel
theorem dX1_give_108 : decode cX1_give 108 = .ok (.lsub, 1) := by decide +kernel
theorem dX1_give_109 : decode cX1_give 109 = .ok (.lastore, 1) := by decide +kernel
theorem dX1_give_110 : decode cX1_give 110 = .ok (.aload_n 1, 1) := by decide +kernel
theorem dX1_give_111 : decode cX1_give 111 = .ok (.getfield 48, 3) := by decide +kernel
theorem dX1_give_114 : decode cX1_give 114 = .ok (.iload 6, 2) := by decide +kernel
theorem dX1_give_116 : decode cX1_give 116 = .ok (.iaload, 1) := by decide +kernel
theorem dX1_give_117 : decode cX1_give 117 = .ok (.istore 6, 2) := by decide +kernel
theorem dX1_give_119 : decode cX1_give 119 = .ok (.iinc 7 1, 3) := by decide +kernel
theorem dX1_give_122 : decode cX1_give 122 = .ok (.goto (-76), 3) := by decide +kernel
theorem dX1_give_125 : decode cX1_give 125 = .ok (.return_, 1) := by decide +kernel
theorem dX3_usedOf_0 : decode cX3_usedOf 0 = .ok (.iload_n 2, 1) := by decide +kernel
theorem dX3_usedOf_1 : decode cX3_usedOf 1 = .ok (.i2l, 1) := by decide +kernel
theorem dX3_usedOf_2 : decode cX3_usedOf 2 = .ok (.iload_n 2, 1) := by decide +kernel
theorem dX3_usedOf_3 : decode cX3_usedOf 3 = .ok (.i2l, 1) := by decide +kernel
theorem dX3_usedOf_4 : decode cX3_usedOf 4 = .ok (.aload_n 0, 1) := by decide +kernel
theorem dX3_usedOf_5 : decode cX3_usedOf 5 = .ok (.getfield 28, 3) := by decide +kernel
theorem dX3_usedOf_8 : decode cX3_usedOf 8 = .ok (.iload_n 1, 1) := by decide +kernel
theorem dX3_usedOf_9 : decode cX3_usedOf 9 = .ok (.iaload, 1) := by decide +kernel
theorem dX3_usedOf_10 : decode cX3_usedOf 10 = .ok (.i2l, 1) := by decide +kernel
theorem dX3_usedOf_11 : decode cX3_usedOf 11 = .ok (.lmul, 1) := by decide +kernel
theorem dX3_usedOf_12 : decode cX3_usedOf 12 = .ok (.ldc2_w 44, 3) := by decide +kernel
theorem dX3_usedOf_15 : decode cX3_usedOf 15 = .ok (.ldiv, 1) := by decide +kernel
theorem dX3_usedOf_16 : decode cX3_usedOf 16 = .ok (.lsub, 1) := by decide +kernel
theorem dX3_usedOf_17 : decode cX3_usedOf 17 = .ok (.lreturn, 1) := by decide +kernel
theorem dX5_isShort_0 : decode cX5_isShort 0 = .ok (.aload_n 0, 1) := by decide +kernel
theorem dX5_isShort_1 : decode cX5_isShort 1 = .ok (.getfield 40, 3) := by decide +kernel
theorem dX5_isShort_4 : decode cX5_isShort 4 = .ok (.getfield 149, 3) := by decide +kernel
theorem dX5_isShort_7 : decode cX5_isShort 7 = .ok (.iload_n 1, 1) := by decide +kernel
theorem dX5_isShort_8 : decode cX5_isShort 8 = .ok (.iaload, 1) := by decide +kernel
theorem dX5_isShort_9 : decode cX5_isShort 9 = .ok (.aload_n 0, 1) := by decide +kernel
theorem dX5_isShort_10 : decode cX5_isShort 10 = .ok (.getfield 26, 3) := by decide +kernel
theorem dX5_isShort_13 : decode cX5_isShort 13 = .ok (.getfield 110, 3) := by decide +kernel
theorem dX5_isShort_16 : decode cX5_isShort 16 = .ok (.iload_n 1, 1) := by decide +kernel
theorem dX5_isShort_17 : decode cX5_isShort 17 = .ok (.iaload, 1) := by decide +kernel
theorem dX5_isShort_18 : decode cX5_isShort 18 = .ok (.if_icmp .ge 7, 3) := by decide +kernel
theorem dX5_isShort_21 : decode cX5_isShort 21 = .ok (.iconst 1, 1) := by decide +kernel
theorem dX5_isShort_22 : decode cX5_isShort 22 = .ok (.goto 4, 3) := by decide +kernel
theorem dX5_isShort_25 : decode cX5_isShort 25 = .ok (.iconst 0, 1) := by decide +kernel
theorem dX5_isShort_26 : decode cX5_isShort 26 = .ok (.ireturn, 1) := by decide +kernel
theorem dX5_close_0 : decode cX5_close 0 = .ok (.aload_n 0, 1) := by decide +kernel
theorem dX5_close_1 : decode cX5_close 1 = .ok (.invokevirtual 137, 3) := by decide +kernel
theorem dX5_close_4 : decode cX5_close 4 = .ok (.aload_n 0, 1) := by decide +kernel
theorem dX5_close_5 : decode cX5_close 5 = .ok (.getfield 33, 3) := by decide +kernel
theorem dX5_close_8 : decode cX5_close 8 = .ok (.aload_n 0, 1) := by decide +kernel
theorem dX5_close_9 : decode cX5_close 9 = .ok (.getfield 10, 3) := by decide +kernel
theorem dX5_close_12 : decode cX5_close 12 = .ok (.aload_n 0, 1) := by decide +kernel
theorem dX5_close_13 : decode cX5_close 13 = .ok (.getfield 19, 3) := by decide +kernel
theorem dX5_close_16 : decode cX5_close 16 = .ok (.aload_n 0, 1) := by decide +kernel
theorem dX5_close_17 : decode cX5_close 17 = .ok (.getfield 26, 3) := by decide +kernel
theorem dX5_close_20 : decode cX5_close 20 = .ok (.aload_n 0, 1) := by decide +kernel
theorem dX5_close_21 : decode cX5_close 21 = .ok (.getfield 40, 3) := by decide +kernel
theorem dX5_close_24 : decode cX5_close 24 = .ok (.invokevirtual 181, 3) := by decide +kernel
theorem dX5_close_27 : decode cX5_close 27 = .ok (.aload_n 0, 1) := by decide +kernel
theorem dX5_close_28 : decode cX5_close 28 = .ok (.getfield 19, 3) := by decide +kernel
theorem dX5_close_31 : decode cX5_close 31 = .ok (.aload_n 0, 1) := by decide +kernel
theorem dX5_close_32 : decode cX5_close 32 = .ok (.getfield 26, 3) := by decide +kernel
theorem dX5_close_35 : decode cX5_close 35 = .ok (.aload_n 0, 1) := by decide +kernel
theorem dX5_close_36 : decode cX5_close 36 = .ok (.getfield 40, 3) := by decide +kernel
theorem dX5_close_39 : decode cX5_close 39 = .ok (.invokevirtual 185, 3) := by decide +kernel
theorem dX5_close_42 : decode cX5_close 42 = .ok (.aload_n 0, 1) := by decide +kernel
theorem dX5_close_43 : decode cX5_close 43 = .ok (.getfield 10, 3) := by decide +kernel
theorem dX5_close_46 : decode cX5_close 46 = .ok (.invokevirtual 189, 3) := by decide +kernel
theorem dX5_close_49 : decode cX5_close 49 = .ok (.aload_n 0, 1) := by decide +kernel
theorem dX5_close_50 : decode cX5_close 50 = .ok (.getfield 26, 3) := by decide +kernel
theorem dX5_close_53 : decode cX5_close 53 = .ok (.invokevirtual 191, 3) := by decide +kernel
theorem dX5_close_56 : decode cX5_close 56 = .ok (.aload_n 0, 1) := by decide +kernel
theorem dX5_close_57 : decode cX5_close 57 = .ok (.iconst 1, 1) := by decide +kernel
theorem dX5_close_58 : decode cX5_close 58 = .ok (.putfield 47, 3) := by decide +kernel
theorem dX5_close_61 : decode cX5_close 61 = .ok (.aload_n 0, 1) := by decide +kernel
theorem dX5_close_62 : decode cX5_close 62 = .ok (.getfield 33, 3) := by decide +kernel
theorem dX5_close_65 : decode cX5_close 65 = .ok (.getfield 192, 3) := by decide +kernel
theorem dX5_close_68 : decode cX5_close 68 = .ok (.ireturn, 1) := by decide +kernel
theorem dX0_write_0 : decode cX0_write 0 = .ok (.aload_n 2, 1) := by decide +kernel
theorem dX0_write_1 : decode cX0_write 1 = .ok (.getfield 15, 3) := by decide +kernel
theorem dX0_write_4 : decode cX0_write 4 = .ok (.lstore 5, 2) := by decide +kernel
theorem dX0_write_6 : decode cX0_write 6 = .ok (.lconst 0, 1) := by decide +kernel
theorem dX0_write_7 : decode cX0_write 7 = .ok (.lstore 7, 2) := by decide +kernel
theorem dX0_write_9 : decode cX0_write 9 = .ok (.iconst 0, 1) := by decide +kernel
theorem dX0_write_10 : decode cX0_write 10 = .ok (.istore 9, 2) := by decide +kernel
theorem dX0_write_12 : decode cX0_write 12 = .ok (.iload 9, 2) := by decide +kernel
theorem dX0_write_14 : decode cX0_write 14 = .ok (.aload_n 3, 1) := by decide +kernel
theorem dX0_write_15 : decode cX0_write 15 = .ok (.getfield 21, 3) := by decide +kernel
theorem dX0_write_18 : decode cX0_write 18 = .ok (.if_icmp .ge 63, 3) := by decide +kernel
theorem dX0_write_21 : decode cX0_write 21 = .ok (.aload_n 3, 1) := by decide +kernel
theorem dX0_write_22 : decode cX0_write 22 = .ok (.getfield 27, 3) := by decide +kernel
theorem dX0_write_25 : decode cX0_write 25 = .ok (.iload 9, 2) := by decide +kernel
theorem dX0_write_27 : decode cX0_write 27 = .ok (.iaload, 1) := by decide +kernel
theorem dX0_write_28 : decode cX0_write 28 = .ok (.istore 10, 2) := by decide +kernel
theorem dX0_write_30 : decode cX0_write 30 = .ok (.aload_n 3, 1) := by decide +kernel
theorem dX0_write_31 : decode cX0_write 31 = .ok (.iload 10, 2) := by decide +kernel
theorem dX0_write_33 : decode cX0_write 33 = .ok (.invokevirtual 31, 3) := by decide +kernel
theorem dX0_write_36 : decode cX0_write 36 = .ok (.ifCond .eq 20, 3) := by decide +kernel
theorem dX0_write_39 : decode cX0_write 39 = .ok (.lload 7, 2) := by decide +kernel
theorem dX0_write_41 : decode cX0_write 41 = .ok (.aload 4, 2) := by decide +kernel
theorem dX0_write_43 : decode cX0_write 43 = .ok (.getfield 35, 3) := by decide +kernel
theorem dX0_write_46 : decode cX0_write 46 = .ok (.iload 10, 2) := by decide +kernel
theorem dX0_write_48 : decode cX0_write 48 = .ok (.iaload, 1) := by decide +kernel
theorem dX0_write_49 : decode cX0_write 49 = .ok (.i2l, 1) := by decide +kernel
theorem dX0_write_50 : decode cX0_write 50 = .ok (.ladd, 1) := by decide +kernel
theorem dX0_write_51 : decode cX0_write 51 = .ok (.lstore 7, 2) := by decide +kernel
theorem dX0_write_53 : decode cX0_write 53 = .ok (.goto 22, 3) := by decide +kernel
theorem dX0_write_56 : decode cX0_write 56 = .ok (.lload 5, 2) := by decide +kernel
theorem dX0_write_58 : decode cX0_write 58 = .ok (.aload_n 3, 1) := by decide +kernel
theorem dX0_write_59 : decode cX0_write 59 = .ok (.iload 10, 2) := by decide +kernel
theorem dX0_write_61 : decode cX0_write 61 = .ok (.aload 4, 2) := by decide +kernel
theorem dX0_write_63 : decode cX0_write 63 = .ok (.getfield 35, 3) := by decide +kernel
theorem dX0_write_66 : decode cX0_write 66 = .ok (.iload 10, 2) := by decide +kernel
theorem dX0_write_68 : decode cX0_write 68 = .ok (.iaload, 1) := by decide +kernel
theorem dX0_write_69 : decode cX0_write 69 = .ok (.invokevirtual 40, 3) := by decide +kernel
theorem dX0_write_72 : decode cX0_write 72 = .ok (.ladd, 1) := by decide +kernel
theorem dX0_write_73 : decode cX0_write 73 = .ok (.lstore 5, 2) := by decide +kernel
theorem dX0_write_75 : decode cX0_write 75 = .ok (.iinc 9 1, 3) := by decide +kernel
theorem dX0_write_78 : decode cX0_write 78 = .ok (.goto (-66), 3) := by decide +kernel
theorem dX0_write_81 : decode cX0_write 81 = .ok (.aload_n 0, 1) := by decide +kernel
theorem dX0_write_82 : decode cX0_write 82 = .ok (.getfield 44, 3) := by decide +kernel
theorem dX0_write_85 : decode cX0_write 85 = .ok (.invokestatic 47, 3) := by decide +kernel
theorem dX0_write_88 : decode cX0_write 88 = .ok (.istore 9, 2) := by decide +kernel
theorem dX0_write_90 : decode cX0_write 90 = .ok (.aload_n 0, 1) := by decide +kernel
theorem dX0_write_91 : decode cX0_write 91 = .ok (.getfield 11, 3) := by decide +kernel
theorem dX0_write_94 : decode cX0_write 94 = .ok (.iload 9, 2) := by decide +kernel
theorem dX0_write_96 : decode cX0_write 96 = .ok (.iconst 0, 1) := by decide +kernel
theorem dX0_write_97 : decode cX0_write 97 = .ok (.iadd, 1) := by decide +kernel
theorem dX0_write_98 : decode cX0_write 98 = .ok (.aload_n 1, 1) := by decide +kernel
theorem dX0_write_99 : decode cX0_write 99 = .ok (.invokevirtual 51, 3) := by decide +kernel
theorem dX0_write_102 : decode cX0_write 102 = .ok (.lastore, 1) := by decide +kernel
theorem dX0_write_103 : decode cX0_write 103 = .ok (.aload_n 0, 1) := by decide +kernel
theorem dX0_write_104 : decode cX0_write 104 = .ok (.getfield 11, 3) := by decide +kernel
theorem dX0_write_107 : decode cX0_write 107 = .ok (.iload 9, 2) := by decide +kernel
theorem dX0_write_109 : decode cX0_write 109 = .ok (.iconst 1, 1) := by decide +kernel
theorem dX0_write_110 : decode cX0_write 110 = .ok (.iadd, 1) := by decide +kernel
theorem dX0_write_111 : decode cX0_write 111 = .ok (.aload_n 1, 1) := by decide +kernel
theorem dX0_write_112 : decode cX0_write 112 = .ok (.getfield 57, 3) := by decide +kernel
theorem dX0_write_115 : decode cX0_write 115 = .ok (.iconst (-1), 1) := by decide +kernel
theorem dX0_write_116 : decode cX0_write 116 = .ok (.if_icmp .ne 7, 3) := by decide +kernel
theorem dX0_write_119 : decode cX0_write 119 = .ok (.lconst 0, 1) := by decide +kernel
theorem dX0_write_120 : decode cX0_write 120 = .ok (.goto 13, 3) := by decide +kernel
theorem dX0_write_123 : decode cX0_write 123 = .ok (.aload 4, 2) := by decide +kernel
theorem dX0_write_125 : decode cX0_write 125 = .ok (.getfield 60, 3) := by decide +kernel
theorem dX0_write_128 : decode cX0_write 128 = .ok (.aload_n 1, 1) := by decide +kernel
theorem dX0_write_129 : decode cX0_write 129 = .ok (.getfield 57, 3) := by decide +kernel
theorem dX0_write_132 : decode cX0_write 132 = .ok (.laload, 1) := by decide +kernel
theorem dX0_write_133 : decode cX0_write 133 = .ok (.lastore, 1) := by decide +kernel
theorem dX0_write_134 : decode cX0_write 134 = .ok (.aload_n 0, 1) := by decide +kernel
theorem dX0_write_135 : decode cX0_write 135 = .ok (.getfield 11, 3) := by decide +kernel
theorem dX0_write_138 : decode cX0_write 138 = .ok (.iload 9, 2) := by decide +kernel
theorem dX0_write_140 : decode cX0_write 140 = .ok (.iconst 2, 1) := by decide +kernel
theorem dX0_write_141 : decode cX0_write 141 = .ok (.iadd, 1) := by decide +kernel
theorem dX0_write_142 : decode cX0_write 142 = .ok (.lload 5, 2) := by decide +kernel
theorem dX0_write_144 : decode cX0_write 144 = .ok (.lastore, 1) := by decide +kernel
theorem dX0_write_145 : decode cX0_write 145 = .ok (.aload_n 0, 1) := by decide +kernel
theorem dX0_write_146 : decode cX0_write 146 = .ok (.getfield 11, 3) := by decide +kernel
theorem dX0_write_149 : decode cX0_write 149 = .ok (.iload 9, 2) := by decide +kernel
theorem dX0_write_151 : decode cX0_write 151 = .ok (.iconst 3, 1) := by decide +kernel
theorem dX0_write_152 : decode cX0_write 152 = .ok (.iadd, 1) := by decide +kernel
theorem dX0_write_153 : decode cX0_write 153 = .ok (.lload 7, 2) := by decide +kernel
theorem dX0_write_155 : decode cX0_write 155 = .ok (.lastore, 1) := by decide +kernel
theorem dX0_write_156 : decode cX0_write 156 = .ok (.aload_n 0, 1) := by decide +kernel
theorem dX0_write_157 : decode cX0_write 157 = .ok (.getfield 11, 3) := by decide +kernel
theorem dX0_write_160 : decode cX0_write 160 = .ok (.iload 9, 2) := by decide +kernel
theorem dX0_write_162 : decode cX0_write 162 = .ok (.iconst 4, 1) := by decide +kernel
theorem dX0_write_163 : decode cX0_write 163 = .ok (.iadd, 1) := by decide +kernel
theorem dX0_write_164 : decode cX0_write 164 = .ok (.aload_n 2, 1) := by decide +kernel
theorem dX0_write_165 : decode cX0_write 165 = .ok (.getfield 15, 3) := by decide +kernel
theorem dX0_write_168 : decode cX0_write 168 = .ok (.lastore, 1) := by decide +kernel
theorem dX0_write_169 : decode cX0_write 169 = .ok (.aload_n 0, 1) := by decide +kernel
theorem dX0_write_170 : decode cX0_write 170 = .ok (.dup, 1) := by decide +kernel
theorem dX0_write_171 : decode cX0_write 171 = .ok (.getfield 44, 3) := by decide +kernel
theorem dX0_write_174 : decode cX0_write 174 = .ok (.iconst 1, 1) := by decide +kernel
theorem dX0_write_175 : decode cX0_write 175 = .ok (.iadd, 1) := by decide +kernel
theorem dX0_write_176 : decode cX0_write 176 = .ok (.putfield 44, 3) := by decide +kernel
theorem dX0_write_179 : decode cX0_write 179 = .ok (.return_, 1) := by decide +kernel
theorem dX0_pageOf_0 : decode cX0_pageOf 0 = .ok (.iload_n 0, 1) := by decide +kernel
theorem dX0_pageOf_1 : decode cX0_pageOf 1 = .ok (.bipush 60, 2) := by decide +kernel
theorem dX0_pageOf_3 : decode cX0_pageOf 3 = .ok (.invokestatic 63, 3) := by decide +kernel
theorem dX0_pageOf_6 : decode cX0_pageOf 6 = .ok (.iconst 5, 1) := by decide +kernel
theorem dX0_pageOf_7 : decode cX0_pageOf 7 = .ok (.imul, 1) := by decide +kernel
theorem dX0_pageOf_8 : decode cX0_pageOf 8 = .ok (.ireturn, 1) := by decide +kernel
theorem dJM_floorMod_0 : decode cJM_floorMod 0 = .ok (.iload_n 0, 1) := by decide +kernel
theorem dJM_floorMod_1 : decode cJM_floorMod 1 = .ok (.iload_n 1, 1) := by decide +kernel
theorem dJM_floorMod_2 : decode cJM_floorMod 2 = .ok (.irem, 1) := by decide +kernel
theorem dJM_floorMod_3 : decode cJM_floorMod 3 = .ok (.istore_n 2, 1) := by decide +kernel
theorem dJM_floorMod_4 : decode cJM_floorMod 4 = .ok (.iload_n 0, 1) := by decide +kernel
theorem dJM_floorMod_5 : decode cJM_floorMod 5 = .ok (.iload_n 1, 1) := by decide +kernel
theorem dJM_floorMod_6 : decode cJM_floorMod 6 = .ok (.ixor, 1) := by decide +kernel
theorem dJM_floorMod_7 : decode cJM_floorMod 7 = .ok (.ifCond .ge 11, 3) := by decide +kernel
theorem dJM_floorMod_10 : decode cJM_floorMod 10 = .ok (.iload_n 2, 1) := by decide +kernel
theorem dJM_floorMod_11 : decode cJM_floorMod 11 = .ok (.ifCond .eq 7, 3) := by decide +kernel
theorem dJM_floorMod_14 : decode cJM_floorMod 14 = .ok (.iload_n 2, 1) := by decide +kernel
theorem dJM_floorMod_15 : decode cJM_floorMod 15 = .ok (.iload_n 1, 1) := by decide +kernel
theorem dJM_floorMod_16 : decode cJM_floorMod 16 = .ok (.iadd, 1) := by decide +kernel
theorem dJM_floorMod_17 : decode cJM_floorMod 17 = .ok (.ireturn, 1) := by decide +kernel
theorem dJM_floorMod_18 : decode cJM_floorMod 18 = .ok (.iload_n 2, 1) := by decide +kernel
theorem dJM_floorMod_19 : decode cJM_floorMod 19 = .ok (.ireturn, 1) := by decide +kernel
theorem dX4_allInflow_0 : decode cX4_allInflow 0 = .ok (.lconst 0, 1) := by decide +kernel
theorem dX4_allInflow_1 : decode cX4_allInflow 1 = .ok (.lstore_n 1, 1) := by decide +kernel
theorem dX4_allInflow_2 : decode cX4_allInflow 2 = .ok (.iconst 0, 1) := by decide +kernel
theorem dX4_allInflow_3 : decode cX4_allInflow 3 = .ok (.istore_n 3, 1) := by decide +kernel
theorem dX4_allInflow_4 : decode cX4_allInflow 4 = .ok (.iload_n 3, 1) := by decide +kernel
theorem dX4_allInflow_5 : decode cX4_allInflow 5 = .ok (.bipush 32, 2) := by decide +kernel
theorem dX4_allInflow_7 : decode cX4_allInflow 7 = .ok (.if_icmp .ge 19, 3) := by decide +kernel
theorem dX4_allInflow_10 : decode cX4_allInflow 10 = .ok (.lload_n 1, 1) := by decide +kernel
theorem dX4_allInflow_11 : decode cX4_allInflow 11 = .ok (.aload_n 0, 1) := by decide +kernel
theorem dX4_allInflow_12 : decode cX4_allInflow 12 = .ok (.getfield 19, 3) := by decide +kernel
theorem dX4_allInflow_15 : decode cX4_allInflow 15 = .ok (.iload_n 3, 1) := by decide +kernel
theorem dX4_allInflow_16 : decode cX4_allInflow 16 = .ok (.iaload, 1) := by decide +kernel
theorem dX4_allInflow_17 : decode cX4_allInflow 17 = .ok (.i2l, 1) := by decide +kernel
theorem dX4_allInflow_18 : decode cX4_allInflow 18 = .ok (.ladd, 1) := by decide +kernel
theorem dX4_allInflow_19 : decode cX4_allInflow 19 = .ok (.lstore_n 1, 1) := by decide +kernel
theorem dX4_allInflow_20 : decode cX4_allInflow 20 = .ok (.iinc 3 1, 3) := by decide +kernel
theorem dX4_allInflow_23 : decode cX4_allInflow 23 = .ok (.goto (-19), 3) := by decide +kernel
theorem dX4_allInflow_26 : decode cX4_allInflow 26 = .ok (.lload_n 1, 1) := by decide +kernel
theorem dX4_allInflow_27 : decode cX4_allInflow 27 = .ok (.lreturn, 1) := by decide +kernel
theorem dX2_beginDay_0 : decode cX2_beginDay 0 = .ok (.iconst 0, 1) := by decide +kernel
theorem dX2_beginDay_1 : decode cX2_beginDay 1 = .ok (.istore_n 3, 1) := by decide +kernel
theorem dX2_beginDay_2 : decode cX2_beginDay 2 = .ok (.iload_n 3, 1) := by decide +kernel
theorem dX2_beginDay_3 : decode cX2_beginDay 3 = .ok (.aload_n 1, 1) := by decide +kernel
theorem dX2_beginDay_4 : decode cX2_beginDay 4 = .ok (.getfield 29, 3) := by decide +kernel
theorem dX2_beginDay_7 : decode cX2_beginDay 7 = .ok (.if_icmp .ge 48, 3) := by decide +kernel
theorem dX2_beginDay_10 : decode cX2_beginDay 10 = .ok (.aload_n 1, 1) := by decide +kernel
theorem dX2_beginDay_11 : decode cX2_beginDay 11 = .ok (.getfield 35, 3) := by decide +kernel
theorem dX2_beginDay_14 : decode cX2_beginDay 14 = .ok (.iload_n 3, 1) := by decide +kernel
theorem dX2_beginDay_15 : decode cX2_beginDay 15 = .ok (.iaload, 1) := by decide +kernel
theorem dX2_beginDay_16 : decode cX2_beginDay 16 = .ok (.istore 4, 2) := by decide +kernel
theorem dX2_beginDay_18 : decode cX2_beginDay 18 = .ok (.aload_n 1, 1) := by decide +kernel
theorem dX2_beginDay_19 : decode cX2_beginDay 19 = .ok (.iload 4, 2) := by decide +kernel
theorem dX2_beginDay_21 : decode cX2_beginDay 21 = .ok (.invokevirtual 38, 3) := by decide +kernel
theorem dX2_beginDay_24 : decode cX2_beginDay 24 = .ok (.ifCond .eq 25, 3) := by decide +kernel
theorem dX2_beginDay_27 : decode cX2_beginDay 27 = .ok (.aload_n 0, 1) := by decide +kernel
theorem dX2_beginDay_28 : decode cX2_beginDay 28 = .ok (.getfield 22, 3) := by decide +kernel
theorem dX2_beginDay_31 : decode cX2_beginDay 31 = .ok (.aload_n 1, 1) := by decide +kernel
theorem dX2_beginDay_32 : decode cX2_beginDay 32 = .ok (.getfield 42, 3) := by decide +kernel
theorem dX2_beginDay_35 : decode cX2_beginDay 35 = .ok (.iload 4, 2) := by decide +kernel
theorem dX2_beginDay_37 : decode cX2_beginDay 37 = .ok (.iaload, 1) := by decide +kernel
theorem dX2_beginDay_38 : decode cX2_beginDay 38 = .ok (.dup2, 1) := by decide +kernel
theorem dX2_beginDay_39 : decode cX2_beginDay 39 = .ok (.iaload, 1) := by decide +kernel
theorem dX2_beginDay_40 : decode cX2_beginDay 40 = .ok (.aload_n 2, 1) := by decide +kernel
theorem dX2_beginDay_41 : decode cX2_beginDay 41 = .ok (.getfield 45, 3) := by decide +kernel
theorem dX2_beginDay_44 : decode cX2_beginDay 44 = .ok (.iload 4, 2) := by decide +kernel
theorem dX2_beginDay_46 : decode cX2_beginDay 46 = .ok (.iaload, 1) := by decide +kernel
theorem dX2_beginDay_47 : decode cX2_beginDay 47 = .ok (.iadd, 1) := by decide +kernel
theorem dX2_beginDay_48 : decode cX2_beginDay 48 = .ok (.iastore, 1) := by decide +kernel
theorem dX2_beginDay_49 : decode cX2_beginDay 49 = .ok (.iinc 3 1, 3) := by decide +kernel
theorem dX2_beginDay_52 : decode cX2_beginDay 52 = .ok (.goto (-50), 3) := by decide +kernel
theorem dX2_beginDay_55 : decode cX2_beginDay 55 = .ok (.aload_n 0, 1) := by decide +kernel
theorem dX2_beginDay_56 : decode cX2_beginDay 56 = .ok (.lconst 0, 1) := by decide +kernel
theorem dX2_beginDay_57 : decode cX2_beginDay 57 = .ok (.putfield 25, 3) := by decide +kernel
theorem dX2_beginDay_60 : decode cX2_beginDay 60 = .ok (.return_, 1) := by decide +kernel
theorem dX4_beginDay_0 : decode cX4_beginDay 0 = .ok (.aload_n 0, 1) := by decide +kernel
theorem dX4_beginDay_1 : decode cX4_beginDay 1 = .ok (.getfield 19, 3) := by decide +kernel
theorem dX4_beginDay_4 : decode cX4_beginDay 4 = .ok (.iconst 0, 1) := by decide +kernel
theorem dX4_beginDay_5 : decode cX4_beginDay 5 = .ok (.invokestatic 30, 3) := by decide +kernel
theorem dX4_beginDay_8 : decode cX4_beginDay 8 = .ok (.aload_n 0, 1) := by decide +kernel
theorem dX4_beginDay_9 : decode cX4_beginDay 9 = .ok (.getfield 22, 3) := by decide +kernel
theorem dX4_beginDay_12 : decode cX4_beginDay 12 = .ok (.lconst 0, 1) := by decide +kernel
theorem dX4_beginDay_13 : decode cX4_beginDay 13 = .ok (.invokestatic 36, 3) := by decide +kernel
theorem dX4_beginDay_16 : decode cX4_beginDay 16 = .ok (.return_, 1) := by decide +kernel
theorem dX3_beginDay_0 : decode cX3_beginDay 0 = .ok (.aload_n 0, 1) := by decide +kernel
theorem dX3_beginDay_1 : decode cX3_beginDay 1 = .ok (.getfield 22, 3) := by decide +kernel
theorem dX3_beginDay_4 : decode cX3_beginDay 4 = .ok (.iconst 0, 1) := by decide +kernel
theorem dX3_beginDay_5 : decode cX3_beginDay 5 = .ok (.aload_n 0, 1) := by decide +kernel
theorem dX3_beginDay_6 : decode cX3_beginDay 6 = .ok (.getfield 25, 3) := by decide +kernel
theorem dX3_beginDay_9 : decode cX3_beginDay 9 = .ok (.iconst 0, 1) := by decide +kernel
theorem dX3_beginDay_10 : decode cX3_beginDay 10 = .ok (.bipush 40, 2) := by decide +kernel
theorem dX3_beginDay_12 : decode cX3_beginDay 12 = .ok (.invokestatic 48, 3) := by decide +kernel
theorem dX3_beginDay_15 : decode cX3_beginDay 15 = .ok (.return_, 1) := by decide +kernel
theorem dX5_held_0 : decode cX5_held 0 = .ok (.iload_n 1, 1) := by decide +kernel
theorem dX5_held_1 : decode cX5_held 1 = .ok (.ifCond .lt 21, 3) := by decide +kernel
theorem dX5_held_4 : decode cX5_held 4 = .ok (.iload_n 1, 1) := by decide +kernel
theorem dX5_held_5 : decode cX5_held 5 = .ok (.bipush 8, 2) := by decide +kernel
theorem dX5_held_7 : decode cX5_held 7 = .ok (.if_icmp .ge 15, 3) := by decide +kernel
theorem dX5_held_10 : decode cX5_held 10 = .ok (.aload_n 0, 1) := by decide +kernel
theorem dX5_held_11 : decode cX5_held 11 = .ok (.getfield 19, 3) := by decide +kernel
theorem dX5_held_14 : decode cX5_held 14 = .ok (.getfield 78, 3) := by decide +kernel
theorem dX5_held_17 : decode cX5_held 17 = .ok (.iload_n 1, 1) := by decide +kernel
theorem dX5_held_18 : decode cX5_held 18 = .ok (.baload, 1) := by decide +kernel
theorem dX5_held_19 : decode cX5_held 19 = .ok (.ifCond .ne 5, 3) := by decide +kernel
theorem dX5_held_22 : decode cX5_held 22 = .ok (.iconst (-1), 1) := by decide +kernel
theorem dX5_held_23 : decode cX5_held 23 = .ok (.ireturn, 1) := by decide +kernel
theorem dX5_held_24 : decode cX5_held 24 = .ok (.iload_n 2, 1) := by decide +kernel
theorem dX5_held_25 : decode cX5_held 25 = .ok (.tableswitch 57 0 2 #[27, 37, 47], 27) := by decide +kernel
theorem dX5_held_52 : decode cX5_held 52 = .ok (.aload_n 0, 1) := by decide +kernel
theorem dX5_held_53 : decode cX5_held 53 = .ok (.getfield 19, 3) := by decide +kernel
theorem dX5_held_56 : decode cX5_held 56 = .ok (.getfield 125, 3) := by decide +kernel
theorem dX5_held_59 : decode cX5_held 59 = .ok (.iload_n 1, 1) := by decide +kernel
theorem dX5_held_60 : decode cX5_held 60 = .ok (.iaload, 1) := by decide +kernel
theorem dX5_held_61 : decode cX5_held 61 = .ok (.ireturn, 1) := by decide +kernel
theorem dX5_held_62 : decode cX5_held 62 = .ok (.aload_n 0, 1) := by decide +kernel
theorem dX5_held_63 : decode cX5_held 63 = .ok (.getfield 19, 3) := by decide +kernel
theorem dX5_held_66 : decode cX5_held 66 = .ok (.getfield 195, 3) := by decide +kernel
theorem dX5_held_69 : decode cX5_held 69 = .ok (.iload_n 1, 1) := by decide +kernel
theorem dX5_held_70 : decode cX5_held 70 = .ok (.iaload, 1) := by decide +kernel
theorem dX5_held_71 : decode cX5_held 71 = .ok (.ireturn, 1) := by decide +kernel
theorem dX5_held_72 : decode cX5_held 72 = .ok (.aload_n 0, 1) := by decide +kernel
theorem dX5_held_73 : decode cX5_held 73 = .ok (.getfield 19, 3) := by decide +kernel
theorem dX5_held_76 : decode cX5_held 76 = .ok (.getfield 122, 3) := by decide +kernel
theorem dX5_held_79 : decode cX5_held 79 = .ok (.iload_n 1, 1) := by decide +kernel
theorem dX5_held_80 : decode cX5_held 80 = .ok (.iaload, 1) := by decide +kernel
theorem dX5_held_81 : decode cX5_held 81 = .ok (.ireturn, 1) := by decide +kernel
theorem dX5_held_82 : decode cX5_held 82 = .ok (.iconst (-1), 1) := by decide +kernel
theorem dX5_held_83 : decode cX5_held 83 = .ok (.ireturn, 1) := by decide +kernel
theorem dX5_book_0 : decode cX5_book 0 = .ok (.aload_n 0, 1) := by decide +kernel
theorem dX5_book_1 : decode cX5_book 1 = .ok (.getfield 33, 3) := by decide +kernel
theorem dX5_book_4 : decode cX5_book 4 = .ok (.iload_n 1, 1) := by decide +kernel
theorem dX5_book_5 : decode cX5_book 5 = .ok (.iload_n 2, 1) := by decide +kernel
theorem dX5_book_6 : decode cX5_book 6 = .ok (.invokevirtual 198, 3) := by decide +kernel
theorem dX5_book_9 : decode cX5_book 9 = .ok (.lreturn, 1) := by decide +kernel
theorem dX0_read_0 : decode cX0_read 0 = .ok (.iload_n 1, 1) := by decide +kernel
theorem dX0_read_1 : decode cX0_read 1 = .ok (.ifCond .lt 31, 3) := by decide +kernel
theorem dX0_read_4 : decode cX0_read 4 = .ok (.iload_n 1, 1) := by decide +kernel
theorem dX0_read_5 : decode cX0_read 5 = .ok (.aload_n 0, 1) := by decide +kernel
theorem dX0_read_6 : decode cX0_read 6 = .ok (.getfield 44, 3) := by decide +kernel
theorem dX0_read_9 : decode cX0_read 9 = .ok (.if_icmp .ge 23, 3) := by decide +kernel
theorem dX0_read_12 : decode cX0_read 12 = .ok (.iload_n 1, 1) := by decide +kernel
theorem dX0_read_13 : decode cX0_read 13 = .ok (.aload_n 0, 1) := by decide +kernel
theorem dX0_read_14 : decode cX0_read 14 = .ok (.getfield 44, 3) := by decide +kernel
theorem dX0_read_17 : decode cX0_read 17 = .ok (.bipush 60, 2) := by decide +kernel
theorem dX0_read_19 : decode cX0_read 19 = .ok (.isub, 1) := by decide +kernel
theorem dX0_read_20 : decode cX0_read 20 = .ok (.if_icmp .lt 12, 3) := by decide +kernel
theorem dX0_read_23 : decode cX0_read 23 = .ok (.iload_n 2, 1) := by decide +kernel
theorem dX0_read_24 : decode cX0_read 24 = .ok (.ifCond .lt 8, 3) := by decide +kernel
theorem dX0_read_27 : decode cX0_read 27 = .ok (.iload_n 2, 1) := by decide +kernel
theorem dX0_read_28 : decode cX0_read 28 = .ok (.iconst 5, 1) := by decide +kernel
theorem dX0_read_29 : decode cX0_read 29 = .ok (.if_icmp .lt 7, 3) := by decide +kernel
theorem dX0_read_32 : decode cX0_read 32 = .ok (.ldc2_w 69, 3) := by decide +kernel
theorem dX0_read_35 : decode cX0_read 35 = .ok (.lreturn, 1) := by decide +kernel
theorem dX0_read_36 : decode cX0_read 36 = .ok (.aload_n 0, 1) := by decide +kernel
theorem dX0_read_37 : decode cX0_read 37 = .ok (.getfield 11, 3) := by decide +kernel
theorem dX0_read_40 : decode cX0_read 40 = .ok (.iload_n 1, 1) := by decide +kernel
theorem dX0_read_41 : decode cX0_read 41 = .ok (.invokestatic 47, 3) := by decide +kernel
theorem dX0_read_44 : decode cX0_read 44 = .ok (.iload_n 2, 1) := by decide +kernel
theorem dX0_read_45 : decode cX0_read 45 = .ok (.iadd, 1) := by decide +kernel
theorem dX0_read_46 : decode cX0_read 46 = .ok (.laload, 1) := by decide +kernel
theorem dX0_read_47 : decode cX0_read 47 = .ok (.lreturn, 1) := by decide +kernel
theorem dX5_about_0 : decode cX5_about 0 = .ok (.iload_n 1, 1) := by decide +kernel
theorem dX5_about_1 : decode cX5_about 1 = .ok (.ifCond .lt 21, 3) := by decide +kernel
theorem dX5_about_4 : decode cX5_about 4 = .ok (.iload_n 1, 1) := by decide +kernel
theorem dX5_about_5 : decode cX5_about 5 = .ok (.bipush 40, 2) := by decide +kernel
theorem dX5_about_7 : decode cX5_about 7 = .ok (.if_icmp .ge 15, 3) := by decide +kernel
theorem dX5_about_10 : decode cX5_about 10 = .ok (.aload_n 0, 1) := by decide +kernel
theorem dX5_about_11 : decode cX5_about 11 = .ok (.getfield 26, 3) := by decide +kernel
theorem dX5_about_14 : decode cX5_about 14 = .ok (.getfield 85, 3) := by decide +kernel
theorem dX5_about_17 : decode cX5_about 17 = .ok (.iload_n 1, 1) := by decide +kernel
theorem dX5_about_18 : decode cX5_about 18 = .ok (.baload, 1) := by decide +kernel
theorem dX5_about_19 : decode cX5_about 19 = .ok (.ifCond .ne 5, 3) := by decide +kernel
theorem dX5_about_22 : decode cX5_about 22 = .ok (.iconst (-1), 1) := by decide +kernel
theorem dX5_about_23 : decode cX5_about 23 = .ok (.ireturn, 1) := by decide +kernel
theorem dX5_about_24 : decode cX5_about 24 = .ok (.iload_n 2, 1) := by decide +kernel
theorem dX5_about_25 : decode cX5_about 25 = .ok (.tableswitch 85 0 4 #[35, 45, 55, 65, 75], 35) := by decide +kernel
theorem dX5_about_60 : decode cX5_about 60 = .ok (.aload_n 0, 1) := by decide +kernel
theorem dX5_about_61 : decode cX5_about 61 = .ok (.getfield 26, 3) := by decide +kernel
theorem dX5_about_64 : decode cX5_about 64 = .ok (.getfield 202, 3) := by decide +kernel
theorem dX5_about_67 : decode cX5_about 67 = .ok (.iload_n 1, 1) := by decide +kernel
theorem dX5_about_68 : decode cX5_about 68 = .ok (.iaload, 1) := by decide +kernel
theorem dX5_about_69 : decode cX5_about 69 = .ok (.ireturn, 1) := by decide +kernel
theorem dX5_about_70 : decode cX5_about 70 = .ok (.aload_n 0, 1) := by decide +kernel
theorem dX5_about_71 : decode cX5_about 71 = .ok (.getfield 26, 3) := by decide +kernel
theorem dX5_about_74 : decode cX5_about 74 = .ok (.getfield 106, 3) := by decide +kernel
theorem dX5_about_77 : decode cX5_about 77 = .ok (.iload_n 1, 1) := by decide +kernel
theorem dX5_about_78 : decode cX5_about 78 = .ok (.iaload, 1) := by decide +kernel
theorem dX5_about_79 : decode cX5_about 79 = .ok (.ireturn, 1) := by decide +kernel
theorem dX5_about_80 : decode cX5_about 80 = .ok (.aload_n 0, 1) := by decide +kernel
theorem dX5_about_81 : decode cX5_about 81 = .ok (.getfield 26, 3) := by decide +kernel
theorem dX5_about_84 : decode cX5_about 84 = .ok (.getfield 110, 3) := by decide +kernel
theorem dX5_about_87 : decode cX5_about 87 = .ok (.iload_n 1, 1) := by decide +kernel
theorem dX5_about_88 : decode cX5_about 88 = .ok (.iaload, 1) := by decide +kernel
theorem dX5_about_89 : decode cX5_about 89 = .ok (.ireturn, 1) := by decide +kernel
theorem dX5_about_90 : decode cX5_about 90 = .ok (.aload_n 0, 1) := by decide +kernel
theorem dX5_about_91 : decode cX5_about 91 = .ok (.getfield 26, 3) := by decide +kernel
theorem dX5_about_94 : decode cX5_about 94 = .ok (.getfield 205, 3) := by decide +kernel
theorem dX5_about_97 : decode cX5_about 97 = .ok (.iload_n 1, 1) := by decide +kernel
theorem dX5_about_98 : decode cX5_about 98 = .ok (.iaload, 1) := by decide +kernel
theorem dX5_about_99 : decode cX5_about 99 = .ok (.ireturn, 1) := by decide +kernel
theorem dX5_about_100 : decode cX5_about 100 = .ok (.aload_n 0, 1) := by decide +kernel
theorem dX5_about_101 : decode cX5_about 101 = .ok (.getfield 26, 3) := by decide +kernel
theorem dX5_about_104 : decode cX5_about 104 = .ok (.getfield 208, 3) := by decide +kernel
theorem dX5_about_107 : decode cX5_about 107 = .ok (.iload_n 1, 1) := by decide +kernel
theorem dX5_about_108 : decode cX5_about 108 = .ok (.iaload, 1) := by decide +kernel
theorem dX5_about_109 : decode cX5_about 109 = .ok (.ireturn, 1) := by decide +kernel
theorem dX5_about_110 : decode cX5_about 110 = .ok (.iconst (-1), 1) := by decide +kernel
theorem dX5_about_111 : decode cX5_about 111 = .ok (.ireturn, 1) := by decide +kernel
theorem dX5_aged_0 : decode cX5_aged 0 = .ok (.iload_n 1, 1) := by decide +kernel
theorem dX5_aged_1 : decode cX5_aged 1 = .ok (.ifCond .lt 14, 3) := by decide +kernel
theorem dX5_aged_4 : decode cX5_aged 4 = .ok (.iload_n 1, 1) := by decide +kernel
theorem dX5_aged_5 : decode cX5_aged 5 = .ok (.aload_n 0, 1) := by decide +kernel
theorem dX5_aged_6 : decode cX5_aged 6 = .ok (.getfield 26, 3) := by decide +kernel
theorem dX5_aged_9 : decode cX5_aged 9 = .ok (.getfield 140, 3) := by decide +kernel
theorem dX5_aged_12 : decode cX5_aged 12 = .ok (.if_icmp .lt 7, 3) := by decide +kernel
theorem dX5_aged_15 : decode cX5_aged 15 = .ok (.iconst (-1), 1) := by decide +kernel
theorem dX5_aged_16 : decode cX5_aged 16 = .ok (.goto 12, 3) := by decide +kernel
theorem dX5_aged_19 : decode cX5_aged 19 = .ok (.aload_n 0, 1) := by decide +kernel
theorem dX5_aged_20 : decode cX5_aged 20 = .ok (.getfield 26, 3) := by decide +kernel
theorem dX5_aged_23 : decode cX5_aged 23 = .ok (.getfield 143, 3) := by decide +kernel
theorem dX5_aged_26 : decode cX5_aged 26 = .ok (.iload_n 1, 1) := by decide +kernel
theorem dX5_aged_27 : decode cX5_aged 27 = .ok (.iaload, 1) := by decide +kernel
theorem dX5_aged_28 : decode cX5_aged 28 = .ok (.ireturn, 1) := by decide +kernel
theorem dL_reach_0 : decode cL_reach 0 = .ok (.aload_n 0, 1) := by decide +kernel
theorem dL_reach_1 : decode cL_reach 1 = .ok (.iload_n 1, 1) := by decide +kernel
theorem dL_reach_2 : decode cL_reach 2 = .ok (.iload_n 2, 1) := by decide +kernel
theorem dL_reach_3 : decode cL_reach 3 = .ok (.invokevirtual 7, 3) := by decide +kernel
theorem dL_reach_6 : decode cL_reach 6 = .ok (.goto 12, 3) := by decide +kernel
theorem dL_reach_9 : decode cL_reach 9 = .ok (.astore_n 3, 1) := by decide +kernel
theorem dL_reach_10 : decode cL_reach 10 = .ok (.iconst 1, 1) := by decide +kernel
theorem dL_reach_11 : decode cL_reach 11 = .ok (.ireturn, 1) := by decide +kernel
theorem dL_reach_12 : decode cL_reach 12 = .ok (.astore_n 3, 1) := by decide +kernel
theorem dL_reach_13 : decode cL_reach 13 = .ok (.iconst 2, 1) := by decide +kernel
theorem dL_reach_14 : decode cL_reach 14 = .ok (.ireturn, 1) := by decide +kernel
theorem dL_reach_15 : decode cL_reach 15 = .ok (.astore_n 3, 1) := by decide +kernel
theorem dL_reach_16 : decode cL_reach 16 = .ok (.iconst 3, 1) := by decide +kernel
theorem dL_reach_17 : decode cL_reach 17 = .ok (.ireturn, 1) := by decide +kernel
theorem dL_reach_18 : decode cL_reach 18 = .ok (.iconst 0, 1) := by decide +kernel
theorem dL_reach_19 : decode cL_reach 19 = .ok (.ireturn, 1) := by decide +kernel
theorem dX5_reach_0 : decode cX5_reach 0 = .ok (.iload_n 1, 1) := by decide +kernel
end
section
theorem dX5_reach_1 : decode cX5_reach 1 = .ok (.bipush 32, 2) := by decide +kernel
theorem dX5_reach_3 : decode cX5_reach 3 = .ok (.invokestatic 51, 3) := by decide +kernel
theorem dX5_reach_6 : decode cX5_reach 6 = .ok (.iload_n 2, 1) := by decide +kernel
theorem dX5_reach_7 : decode cX5_reach 7 = .ok (.iconst (-1), 1) := by decide +kernel
theorem dX5_reach_8 : decode cX5_reach 8 = .ok (.if_icmp .eq 21, 3) := by decide +kernel
theorem dX5_reach_11 : decode cX5_reach 11 = .ok (.iload_n 2, 1) := by decide +kernel
theorem dX5_reach_12 : decode cX5_reach 12 = .ok (.bipush 32, 2) := by decide +kernel
theorem dX5_reach_14 : decode cX5_reach 14 = .ok (.invokestatic 51, 3) := by decide +kernel
theorem dX5_reach_17 : decode cX5_reach 17 = .ok (.aload_n 0, 1) := by decide +kernel
theorem dX5_reach_18 : decode cX5_reach 18 = .ok (.getfield 10, 3) := by decide +kernel
theorem dX5_reach_21 : decode cX5_reach 21 = .ok (.getfield 55, 3) := by decide +kernel
theorem dX5_reach_24 : decode cX5_reach 24 = .ok (.iload_n 2, 1) := by decide +kernel
theorem dX5_reach_25 : decode cX5_reach 25 = .ok (.baload, 1) := by decide +kernel
theorem dX5_reach_26 : decode cX5_reach 26 = .ok (.invokestatic 59, 3) := by decide +kernel
theorem dX5_reach_29 : decode cX5_reach 29 = .ok (.aload_n 0, 1) := by decide +kernel
theorem dX5_reach_30 : decode cX5_reach 30 = .ok (.getfield 10, 3) := by decide +kernel
theorem dX5_reach_33 : decode cX5_reach 33 = .ok (.getfield 55, 3) := by decide +kernel
theorem dX5_reach_36 : decode cX5_reach 36 = .ok (.iload_n 1, 1) := by decide +kernel
theorem dX5_reach_37 : decode cX5_reach 37 = .ok (.baload, 1) := by decide +kernel
theorem dX5_reach_38 : decode cX5_reach 38 = .ok (.invokestatic 63, 3) := by decide +kernel
theorem dX5_reach_41 : decode cX5_reach 41 = .ok (.iload_n 2, 1) := by decide +kernel
theorem dX5_reach_42 : decode cX5_reach 42 = .ok (.iconst (-1), 1) := by decide +kernel
theorem dX5_reach_43 : decode cX5_reach 43 = .ok (.if_icmp .ne 18, 3) := by decide +kernel
theorem dX5_reach_46 : decode cX5_reach 46 = .ok (.aload_n 0, 1) := by decide +kernel
theorem dX5_reach_47 : decode cX5_reach 47 = .ok (.getfield 10, 3) := by decide +kernel
theorem dX5_reach_50 : decode cX5_reach 50 = .ok (.getfield 66, 3) := by decide +kernel
theorem dX5_reach_53 : decode cX5_reach 53 = .ok (.iconst (-1), 1) := by decide +kernel
theorem dX5_reach_54 : decode cX5_reach 54 = .ok (.if_icmp .eq 7, 3) := by decide +kernel
theorem dX5_reach_57 : decode cX5_reach 57 = .ok (.iconst 1, 1) := by decide +kernel
theorem dX5_reach_58 : decode cX5_reach 58 = .ok (.goto 4, 3) := by decide +kernel
theorem dX5_reach_61 : decode cX5_reach 61 = .ok (.iconst 0, 1) := by decide +kernel
theorem dX5_reach_62 : decode cX5_reach 62 = .ok (.invokestatic 63, 3) := by decide +kernel
theorem dX5_reach_65 : decode cX5_reach 65 = .ok (.aload_n 0, 1) := by decide +kernel
theorem dX5_reach_66 : decode cX5_reach 66 = .ok (.getfield 10, 3) := by decide +kernel
theorem dX5_reach_69 : decode cX5_reach 69 = .ok (.iload_n 1, 1) := by decide +kernel
theorem dX5_reach_70 : decode cX5_reach 70 = .ok (.iload_n 2, 1) := by decide +kernel
theorem dX5_reach_71 : decode cX5_reach 71 = .ok (.invokevirtual 70, 3) := by decide +kernel
theorem dX5_reach_74 : decode cX5_reach 74 = .ok (.aload_n 0, 1) := by decide +kernel
theorem dX5_reach_75 : decode cX5_reach 75 = .ok (.iconst 1, 1) := by decide +kernel
theorem dX5_reach_76 : decode cX5_reach 76 = .ok (.putfield 47, 3) := by decide +kernel
theorem dX5_reach_79 : decode cX5_reach 79 = .ok (.return_, 1) := by decide +kernel
theorem dX5_checkNumber_0 : decode cX5_checkNumber 0 = .ok (.iload_n 0, 1) := by decide +kernel
theorem dX5_checkNumber_1 : decode cX5_checkNumber 1 = .ok (.ifCond .lt 8, 3) := by decide +kernel
theorem dX5_checkNumber_4 : decode cX5_checkNumber 4 = .ok (.iload_n 0, 1) := by decide +kernel
theorem dX5_checkNumber_5 : decode cX5_checkNumber 5 = .ok (.iload_n 1, 1) := by decide +kernel
theorem dX5_checkNumber_6 : decode cX5_checkNumber 6 = .ok (.if_icmp .lt 13, 3) := by decide +kernel
theorem dX5_checkNumber_9 : decode cX5_checkNumber 9 = .ok (.new 221, 3) := by decide +kernel
theorem dX5_checkNumber_12 : decode cX5_checkNumber 12 = .ok (.dup, 1) := by decide +kernel
theorem dX5_checkNumber_13 : decode cX5_checkNumber 13 = .ok (.ldc 223, 2) := by decide +kernel
theorem dX5_checkNumber_15 : decode cX5_checkNumber 15 = .ok (.invokespecial 225, 3) := by decide +kernel
theorem dX5_checkNumber_18 : decode cX5_checkNumber 18 = .ok (.athrow, 1) := by decide +kernel
theorem dX5_checkNumber_19 : decode cX5_checkNumber 19 = .ok (.return_, 1) := by decide +kernel
theorem dX5_checkThere_0 : decode cX5_checkThere 0 = .ok (.iload_n 0, 1) := by decide +kernel
theorem dX5_checkThere_1 : decode cX5_checkThere 1 = .ok (.ifCond .ne 13, 3) := by decide +kernel
theorem dX5_checkThere_4 : decode cX5_checkThere 4 = .ok (.new 226, 3) := by decide +kernel
theorem dX5_checkThere_7 : decode cX5_checkThere 7 = .ok (.dup, 1) := by decide +kernel
theorem dX5_checkThere_8 : decode cX5_checkThere 8 = .ok (.ldc 228, 2) := by decide +kernel
theorem dX5_checkThere_10 : decode cX5_checkThere 10 = .ok (.invokespecial 230, 3) := by decide +kernel
theorem dX5_checkThere_13 : decode cX5_checkThere 13 = .ok (.athrow, 1) := by decide +kernel
theorem dX5_checkThere_14 : decode cX5_checkThere 14 = .ok (.return_, 1) := by decide +kernel
theorem dX5_checkFree_0 : decode cX5_checkFree 0 = .ok (.iload_n 0, 1) := by decide +kernel
theorem dX5_checkFree_1 : decode cX5_checkFree 1 = .ok (.ifCond .eq 13, 3) := by decide +kernel
theorem dX5_checkFree_4 : decode cX5_checkFree 4 = .ok (.new 233, 3) := by decide +kernel
theorem dX5_checkFree_7 : decode cX5_checkFree 7 = .ok (.dup, 1) := by decide +kernel
theorem dX5_checkFree_8 : decode cX5_checkFree 8 = .ok (.ldc 235, 2) := by decide +kernel
theorem dX5_checkFree_10 : decode cX5_checkFree 10 = .ok (.invokespecial 237, 3) := by decide +kernel
theorem dX5_checkFree_13 : decode cX5_checkFree 13 = .ok (.athrow, 1) := by decide +kernel
theorem dX5_checkFree_14 : decode cX5_checkFree 14 = .ok (.return_, 1) := by decide +kernel
theorem dX4_add_0 : decode cX4_add 0 = .ok (.aload_n 0, 1) := by decide +kernel
theorem dX4_add_1 : decode cX4_add 1 = .ok (.getfield 9, 3) := by decide +kernel
theorem dX4_add_4 : decode cX4_add 4 = .ok (.iload_n 1, 1) := by decide +kernel
theorem dX4_add_5 : decode cX4_add 5 = .ok (.iconst 1, 1) := by decide +kernel
theorem dX4_add_6 : decode cX4_add 6 = .ok (.bastore, 1) := by decide +kernel
theorem dX4_add_7 : decode cX4_add 7 = .ok (.aload_n 0, 1) := by decide +kernel
theorem dX4_add_8 : decode cX4_add 8 = .ok (.getfield 15, 3) := by decide +kernel
theorem dX4_add_11 : decode cX4_add 11 = .ok (.iload_n 1, 1) := by decide +kernel
theorem dX4_add_12 : decode cX4_add 12 = .ok (.iload_n 2, 1) := by decide +kernel
theorem dX4_add_13 : decode cX4_add 13 = .ok (.iastore, 1) := by decide +kernel
theorem dX4_add_14 : decode cX4_add 14 = .ok (.iload_n 2, 1) := by decide +kernel
theorem dX4_add_15 : decode cX4_add 15 = .ok (.iconst (-1), 1) := by decide +kernel
theorem dX4_add_16 : decode cX4_add 16 = .ok (.if_icmp .ne 8, 3) := by decide +kernel
theorem dX4_add_19 : decode cX4_add 19 = .ok (.aload_n 0, 1) := by decide +kernel
theorem dX4_add_20 : decode cX4_add 20 = .ok (.iload_n 1, 1) := by decide +kernel
theorem dX4_add_21 : decode cX4_add 21 = .ok (.putfield 26, 3) := by decide +kernel
theorem dX4_add_24 : decode cX4_add 24 = .ok (.return_, 1) := by decide +kernel
theorem dL_reservoir_0 : decode cL_reservoir 0 = .ok (.aload_n 0, 1) := by decide +kernel
theorem dL_reservoir_1 : decode cL_reservoir 1 = .ok (.iload_n 1, 1) := by decide +kernel
theorem dL_reservoir_2 : decode cL_reservoir 2 = .ok (.iload_n 2, 1) := by decide +kernel
theorem dL_reservoir_3 : decode cL_reservoir 3 = .ok (.iload_n 3, 1) := by decide +kernel
theorem dL_reservoir_4 : decode cL_reservoir 4 = .ok (.invokevirtual 19, 3) := by decide +kernel
theorem dL_reservoir_7 : decode cL_reservoir 7 = .ok (.goto 19, 3) := by decide +kernel
theorem dL_reservoir_10 : decode cL_reservoir 10 = .ok (.astore 4, 2) := by decide +kernel
theorem dL_reservoir_12 : decode cL_reservoir 12 = .ok (.iconst 1, 1) := by decide +kernel
theorem dL_reservoir_13 : decode cL_reservoir 13 = .ok (.ireturn, 1) := by decide +kernel
theorem dL_reservoir_14 : decode cL_reservoir 14 = .ok (.astore 4, 2) := by decide +kernel
theorem dL_reservoir_16 : decode cL_reservoir 16 = .ok (.iconst 2, 1) := by decide +kernel
theorem dL_reservoir_17 : decode cL_reservoir 17 = .ok (.ireturn, 1) := by decide +kernel
theorem dL_reservoir_18 : decode cL_reservoir 18 = .ok (.astore 4, 2) := by decide +kernel
theorem dL_reservoir_20 : decode cL_reservoir 20 = .ok (.iconst 3, 1) := by decide +kernel
theorem dL_reservoir_21 : decode cL_reservoir 21 = .ok (.ireturn, 1) := by decide +kernel
theorem dL_reservoir_22 : decode cL_reservoir 22 = .ok (.astore 4, 2) := by decide +kernel
theorem dL_reservoir_24 : decode cL_reservoir 24 = .ok (.iconst 4, 1) := by decide +kernel
theorem dL_reservoir_25 : decode cL_reservoir 25 = .ok (.ireturn, 1) := by decide +kernel
theorem dL_reservoir_26 : decode cL_reservoir 26 = .ok (.iconst 0, 1) := by decide +kernel
theorem dL_reservoir_27 : decode cL_reservoir 27 = .ok (.ireturn, 1) := by decide +kernel
theorem dX5_reservoir_0 : decode cX5_reservoir 0 = .ok (.iload_n 1, 1) := by decide +kernel
theorem dX5_reservoir_1 : decode cX5_reservoir 1 = .ok (.bipush 8, 2) := by decide +kernel
theorem dX5_reservoir_3 : decode cX5_reservoir 3 = .ok (.invokestatic 51, 3) := by decide +kernel
theorem dX5_reservoir_6 : decode cX5_reservoir 6 = .ok (.iload_n 2, 1) := by decide +kernel
theorem dX5_reservoir_7 : decode cX5_reservoir 7 = .ok (.bipush 32, 2) := by decide +kernel
theorem dX5_reservoir_9 : decode cX5_reservoir 9 = .ok (.invokestatic 51, 3) := by decide +kernel
theorem dX5_reservoir_12 : decode cX5_reservoir 12 = .ok (.aload_n 0, 1) := by decide +kernel
theorem dX5_reservoir_13 : decode cX5_reservoir 13 = .ok (.getfield 10, 3) := by decide +kernel
theorem dX5_reservoir_16 : decode cX5_reservoir 16 = .ok (.getfield 55, 3) := by decide +kernel
theorem dX5_reservoir_19 : decode cX5_reservoir 19 = .ok (.iload_n 2, 1) := by decide +kernel
theorem dX5_reservoir_20 : decode cX5_reservoir 20 = .ok (.baload, 1) := by decide +kernel
theorem dX5_reservoir_21 : decode cX5_reservoir 21 = .ok (.invokestatic 59, 3) := by decide +kernel
theorem dX5_reservoir_24 : decode cX5_reservoir 24 = .ok (.iload_n 3, 1) := by decide +kernel
theorem dX5_reservoir_25 : decode cX5_reservoir 25 = .ok (.iconst 0, 1) := by decide +kernel
theorem dX5_reservoir_26 : decode cX5_reservoir 26 = .ok (.ldc 73, 2) := by decide +kernel
theorem dX5_reservoir_28 : decode cX5_reservoir 28 = .ok (.invokestatic 74, 3) := by decide +kernel
theorem dX5_reservoir_31 : decode cX5_reservoir 31 = .ok (.aload_n 0, 1) := by decide +kernel
theorem dX5_reservoir_32 : decode cX5_reservoir 32 = .ok (.getfield 19, 3) := by decide +kernel
theorem dX5_reservoir_35 : decode cX5_reservoir 35 = .ok (.getfield 78, 3) := by decide +kernel
theorem dX5_reservoir_38 : decode cX5_reservoir 38 = .ok (.iload_n 1, 1) := by decide +kernel
theorem dX5_reservoir_39 : decode cX5_reservoir 39 = .ok (.baload, 1) := by decide +kernel
theorem dX5_reservoir_40 : decode cX5_reservoir 40 = .ok (.invokestatic 63, 3) := by decide +kernel
theorem dX5_reservoir_43 : decode cX5_reservoir 43 = .ok (.aload_n 0, 1) := by decide +kernel
theorem dX5_reservoir_44 : decode cX5_reservoir 44 = .ok (.getfield 19, 3) := by decide +kernel
theorem dX5_reservoir_47 : decode cX5_reservoir 47 = .ok (.iload_n 1, 1) := by decide +kernel
theorem dX5_reservoir_48 : decode cX5_reservoir 48 = .ok (.iload_n 2, 1) := by decide +kernel
theorem dX5_reservoir_49 : decode cX5_reservoir 49 = .ok (.iload_n 3, 1) := by decide +kernel
theorem dX5_reservoir_50 : decode cX5_reservoir 50 = .ok (.invokevirtual 79, 3) := by decide +kernel
theorem dX5_reservoir_53 : decode cX5_reservoir 53 = .ok (.aload_n 0, 1) := by decide +kernel
theorem dX5_reservoir_54 : decode cX5_reservoir 54 = .ok (.iconst 1, 1) := by decide +kernel
theorem dX5_reservoir_55 : decode cX5_reservoir 55 = .ok (.putfield 47, 3) := by decide +kernel
theorem dX5_reservoir_58 : decode cX5_reservoir 58 = .ok (.return_, 1) := by decide +kernel
theorem dX5_checkBetween_0 : decode cX5_checkBetween 0 = .ok (.iload_n 0, 1) := by decide +kernel
theorem dX5_checkBetween_1 : decode cX5_checkBetween 1 = .ok (.iload_n 1, 1) := by decide +kernel
theorem dX5_checkBetween_2 : decode cX5_checkBetween 2 = .ok (.if_icmp .lt 8, 3) := by decide +kernel
theorem dX5_checkBetween_5 : decode cX5_checkBetween 5 = .ok (.iload_n 0, 1) := by decide +kernel
theorem dX5_checkBetween_6 : decode cX5_checkBetween 6 = .ok (.iload_n 2, 1) := by decide +kernel
theorem dX5_checkBetween_7 : decode cX5_checkBetween 7 = .ok (.if_icmp .le 13, 3) := by decide +kernel
theorem dX5_checkBetween_10 : decode cX5_checkBetween 10 = .ok (.new 214, 3) := by decide +kernel
theorem dX5_checkBetween_13 : decode cX5_checkBetween 13 = .ok (.dup, 1) := by decide +kernel
theorem dX5_checkBetween_14 : decode cX5_checkBetween 14 = .ok (.ldc 231, 2) := by decide +kernel
theorem dX5_checkBetween_16 : decode cX5_checkBetween 16 = .ok (.invokespecial 218, 3) := by decide +kernel
theorem dX5_checkBetween_19 : decode cX5_checkBetween 19 = .ok (.athrow, 1) := by decide +kernel
theorem dX5_checkBetween_20 : decode cX5_checkBetween 20 = .ok (.return_, 1) := by decide +kernel
theorem dX2_add_0 : decode cX2_add 0 = .ok (.aload_n 0, 1) := by decide +kernel
theorem dX2_add_1 : decode cX2_add 1 = .ok (.getfield 9, 3) := by decide +kernel
theorem dX2_add_4 : decode cX2_add 4 = .ok (.iload_n 1, 1) := by decide +kernel
theorem dX2_add_5 : decode cX2_add 5 = .ok (.iconst 1, 1) := by decide +kernel
theorem dX2_add_6 : decode cX2_add 6 = .ok (.bastore, 1) := by decide +kernel
theorem dX2_add_7 : decode cX2_add 7 = .ok (.aload_n 0, 1) := by decide +kernel
theorem dX2_add_8 : decode cX2_add 8 = .ok (.getfield 15, 3) := by decide +kernel
theorem dX2_add_11 : decode cX2_add 11 = .ok (.iload_n 1, 1) := by decide +kernel
theorem dX2_add_12 : decode cX2_add 12 = .ok (.iload_n 2, 1) := by decide +kernel
theorem dX2_add_13 : decode cX2_add 13 = .ok (.iastore, 1) := by decide +kernel
theorem dX2_add_14 : decode cX2_add 14 = .ok (.aload_n 0, 1) := by decide +kernel
theorem dX2_add_15 : decode cX2_add 15 = .ok (.getfield 19, 3) := by decide +kernel
theorem dX2_add_18 : decode cX2_add 18 = .ok (.iload_n 1, 1) := by decide +kernel
theorem dX2_add_19 : decode cX2_add 19 = .ok (.iload_n 3, 1) := by decide +kernel
theorem dX2_add_20 : decode cX2_add 20 = .ok (.iastore, 1) := by decide +kernel
theorem dX2_add_21 : decode cX2_add 21 = .ok (.return_, 1) := by decide +kernel
theorem dL_right_0 : decode cL_right 0 = .ok (.aload_n 0, 1) := by decide +kernel
theorem dL_right_1 : decode cL_right 1 = .ok (.iload_n 1, 1) := by decide +kernel
theorem dL_right_2 : decode cL_right 2 = .ok (.iload_n 2, 1) := by decide +kernel
theorem dL_right_3 : decode cL_right 3 = .ok (.iload_n 3, 1) := by decide +kernel
theorem dL_right_4 : decode cL_right 4 = .ok (.iload 4, 2) := by decide +kernel
theorem dL_right_6 : decode cL_right 6 = .ok (.iload 5, 2) := by decide +kernel
theorem dL_right_8 : decode cL_right 8 = .ok (.iload 6, 2) := by decide +kernel
theorem dL_right_10 : decode cL_right 10 = .ok (.invokevirtual 25, 3) := by decide +kernel
theorem dL_right_13 : decode cL_right 13 = .ok (.goto 19, 3) := by decide +kernel
theorem dL_right_16 : decode cL_right 16 = .ok (.astore 7, 2) := by decide +kernel
theorem dL_right_18 : decode cL_right 18 = .ok (.iconst 1, 1) := by decide +kernel
theorem dL_right_19 : decode cL_right 19 = .ok (.ireturn, 1) := by decide +kernel
theorem dL_right_20 : decode cL_right 20 = .ok (.astore 7, 2) := by decide +kernel
theorem dL_right_22 : decode cL_right 22 = .ok (.iconst 2, 1) := by decide +kernel
theorem dL_right_23 : decode cL_right 23 = .ok (.ireturn, 1) := by decide +kernel
theorem dL_right_24 : decode cL_right 24 = .ok (.astore 7, 2) := by decide +kernel
theorem dL_right_26 : decode cL_right 26 = .ok (.iconst 3, 1) := by decide +kernel
theorem dL_right_27 : decode cL_right 27 = .ok (.ireturn, 1) := by decide +kernel
theorem dL_right_28 : decode cL_right 28 = .ok (.astore 7, 2) := by decide +kernel
theorem dL_right_30 : decode cL_right 30 = .ok (.iconst 4, 1) := by decide +kernel
theorem dL_right_31 : decode cL_right 31 = .ok (.ireturn, 1) := by decide +kernel
theorem dL_right_32 : decode cL_right 32 = .ok (.iconst 0, 1) := by decide +kernel
theorem dL_right_33 : decode cL_right 33 = .ok (.ireturn, 1) := by decide +kernel
theorem dX5_right_0 : decode cX5_right 0 = .ok (.iload_n 1, 1) := by decide +kernel
theorem dX5_right_1 : decode cX5_right 1 = .ok (.bipush 40, 2) := by decide +kernel
theorem dX5_right_3 : decode cX5_right 3 = .ok (.invokestatic 51, 3) := by decide +kernel
theorem dX5_right_6 : decode cX5_right 6 = .ok (.iload_n 2, 1) := by decide +kernel
theorem dX5_right_7 : decode cX5_right 7 = .ok (.bipush 32, 2) := by decide +kernel
theorem dX5_right_9 : decode cX5_right 9 = .ok (.invokestatic 51, 3) := by decide +kernel
theorem dX5_right_12 : decode cX5_right 12 = .ok (.iload 6, 2) := by decide +kernel
theorem dX5_right_14 : decode cX5_right 14 = .ok (.bipush 32, 2) := by decide +kernel
theorem dX5_right_16 : decode cX5_right 16 = .ok (.invokestatic 51, 3) := by decide +kernel
theorem dX5_right_19 : decode cX5_right 19 = .ok (.aload_n 0, 1) := by decide +kernel
theorem dX5_right_20 : decode cX5_right 20 = .ok (.getfield 10, 3) := by decide +kernel
theorem dX5_right_23 : decode cX5_right 23 = .ok (.getfield 55, 3) := by decide +kernel
theorem dX5_right_26 : decode cX5_right 26 = .ok (.iload_n 2, 1) := by decide +kernel
theorem dX5_right_27 : decode cX5_right 27 = .ok (.baload, 1) := by decide +kernel
theorem dX5_right_28 : decode cX5_right 28 = .ok (.invokestatic 59, 3) := by decide +kernel
theorem dX5_right_31 : decode cX5_right 31 = .ok (.aload_n 0, 1) := by decide +kernel
theorem dX5_right_32 : decode cX5_right 32 = .ok (.getfield 10, 3) := by decide +kernel
theorem dX5_right_35 : decode cX5_right 35 = .ok (.getfield 55, 3) := by decide +kernel
theorem dX5_right_38 : decode cX5_right 38 = .ok (.iload 6, 2) := by decide +kernel
theorem dX5_right_40 : decode cX5_right 40 = .ok (.baload, 1) := by decide +kernel
theorem dX5_right_41 : decode cX5_right 41 = .ok (.invokestatic 59, 3) := by decide +kernel
theorem dX5_right_44 : decode cX5_right 44 = .ok (.iload_n 3, 1) := by decide +kernel
theorem dX5_right_45 : decode cX5_right 45 = .ok (.iconst 1, 1) := by decide +kernel
theorem dX5_right_46 : decode cX5_right 46 = .ok (.ldc 81, 2) := by decide +kernel
theorem dX5_right_48 : decode cX5_right 48 = .ok (.invokestatic 74, 3) := by decide +kernel
theorem dX5_right_51 : decode cX5_right 51 = .ok (.iload 4, 2) := by decide +kernel
theorem dX5_right_53 : decode cX5_right 53 = .ok (.iconst 0, 1) := by decide +kernel
theorem dX5_right_54 : decode cX5_right 54 = .ok (.ldc 73, 2) := by decide +kernel
theorem dX5_right_56 : decode cX5_right 56 = .ok (.invokestatic 74, 3) := by decide +kernel
theorem dX5_right_59 : decode cX5_right 59 = .ok (.iload 5, 2) := by decide +kernel
theorem dX5_right_61 : decode cX5_right 61 = .ok (.iconst 0, 1) := by decide +kernel
theorem dX5_right_62 : decode cX5_right 62 = .ok (.sipush 1000, 3) := by decide +kernel
theorem dX5_right_65 : decode cX5_right 65 = .ok (.invokestatic 74, 3) := by decide +kernel
theorem dX5_right_68 : decode cX5_right 68 = .ok (.aload_n 0, 1) := by decide +kernel
theorem dX5_right_69 : decode cX5_right 69 = .ok (.iload_n 2, 1) := by decide +kernel
theorem dX5_right_70 : decode cX5_right 70 = .ok (.iload 6, 2) := by decide +kernel
theorem dX5_right_72 : decode cX5_right 72 = .ok (.invokevirtual 82, 3) := by decide +kernel
theorem dX5_right_75 : decode cX5_right 75 = .ok (.aload_n 0, 1) := by decide +kernel
theorem dX5_right_76 : decode cX5_right 76 = .ok (.getfield 26, 3) := by decide +kernel
theorem dX5_right_79 : decode cX5_right 79 = .ok (.getfield 85, 3) := by decide +kernel
theorem dX5_right_82 : decode cX5_right 82 = .ok (.iload_n 1, 1) := by decide +kernel
theorem dX5_right_83 : decode cX5_right 83 = .ok (.baload, 1) := by decide +kernel
theorem dX5_right_84 : decode cX5_right 84 = .ok (.invokestatic 63, 3) := by decide +kernel
theorem dX5_right_87 : decode cX5_right 87 = .ok (.aload_n 0, 1) := by decide +kernel
theorem dX5_right_88 : decode cX5_right 88 = .ok (.getfield 26, 3) := by decide +kernel
theorem dX5_right_91 : decode cX5_right 91 = .ok (.iload_n 3, 1) := by decide +kernel
theorem dX5_right_92 : decode cX5_right 92 = .ok (.invokevirtual 86, 3) := by decide +kernel
theorem dX5_right_95 : decode cX5_right 95 = .ok (.invokestatic 63, 3) := by decide +kernel
theorem dX5_right_98 : decode cX5_right 98 = .ok (.aload_n 0, 1) := by decide +kernel
theorem dX5_right_99 : decode cX5_right 99 = .ok (.getfield 26, 3) := by decide +kernel
theorem dX5_right_102 : decode cX5_right 102 = .ok (.iload_n 1, 1) := by decide +kernel
theorem dX5_right_103 : decode cX5_right 103 = .ok (.iload 5, 2) := by decide +kernel
theorem dX5_right_105 : decode cX5_right 105 = .ok (.iload 6, 2) := by decide +kernel
theorem dX5_right_107 : decode cX5_right 107 = .ok (.invokevirtual 90, 3) := by decide +kernel
theorem dX5_right_110 : decode cX5_right 110 = .ok (.aload_n 0, 1) := by decide +kernel
theorem dX5_right_111 : decode cX5_right 111 = .ok (.getfield 26, 3) := by decide +kernel
theorem dX5_right_114 : decode cX5_right 114 = .ok (.iload_n 1, 1) := by decide +kernel
theorem dX5_right_115 : decode cX5_right 115 = .ok (.iload_n 2, 1) := by decide +kernel
theorem dX5_right_116 : decode cX5_right 116 = .ok (.iload_n 3, 1) := by decide +kernel
theorem dX5_right_117 : decode cX5_right 117 = .ok (.iload 4, 2) := by decide +kernel
theorem dX5_right_119 : decode cX5_right 119 = .ok (.invokevirtual 93, 3) := by decide +kernel
theorem dX5_right_122 : decode cX5_right 122 = .ok (.aload_n 0, 1) := by decide +kernel
theorem dX5_right_123 : decode cX5_right 123 = .ok (.iconst 1, 1) := by decide +kernel
theorem dX5_right_124 : decode cX5_right 124 = .ok (.putfield 47, 3) := by decide +kernel
theorem dX5_right_127 : decode cX5_right 127 = .ok (.return_, 1) := by decide +kernel
theorem dX5_checkPath_0 : decode cX5_checkPath 0 = .ok (.aload_n 0, 1) := by decide +kernel
theorem dX5_checkPath_1 : decode cX5_checkPath 1 = .ok (.getfield 10, 3) := by decide +kernel
theorem dX5_checkPath_4 : decode cX5_checkPath 4 = .ok (.iload_n 1, 1) := by decide +kernel
theorem dX5_checkPath_5 : decode cX5_checkPath 5 = .ok (.iload_n 2, 1) := by decide +kernel
theorem dX5_checkPath_6 : decode cX5_checkPath 6 = .ok (.invokevirtual 210, 3) := by decide +kernel
theorem dX5_checkPath_9 : decode cX5_checkPath 9 = .ok (.ifCond .ne 13, 3) := by decide +kernel
theorem dX5_checkPath_12 : decode cX5_checkPath 12 = .ok (.new 214, 3) := by decide +kernel
theorem dX5_checkPath_15 : decode cX5_checkPath 15 = .ok (.dup, 1) := by decide +kernel
theorem dX5_checkPath_16 : decode cX5_checkPath 16 = .ok (.ldc 216, 2) := by decide +kernel
theorem dX5_checkPath_18 : decode cX5_checkPath 18 = .ok (.invokespecial 218, 3) := by decide +kernel
theorem dX5_checkPath_21 : decode cX5_checkPath 21 = .ok (.athrow, 1) := by decide +kernel
theorem dX5_checkPath_22 : decode cX5_checkPath 22 = .ok (.return_, 1) := by decide +kernel
theorem dX4_leadsTo_0 : decode cX4_leadsTo 0 = .ok (.iload_n 1, 1) := by decide +kernel
theorem dX4_leadsTo_1 : decode cX4_leadsTo 1 = .ok (.istore_n 3, 1) := by decide +kernel
theorem dX4_leadsTo_2 : decode cX4_leadsTo 2 = .ok (.iconst 0, 1) := by decide +kernel
theorem dX4_leadsTo_3 : decode cX4_leadsTo 3 = .ok (.istore 4, 2) := by decide +kernel
theorem dX4_leadsTo_5 : decode cX4_leadsTo 5 = .ok (.iload 4, 2) := by decide +kernel
theorem dX4_leadsTo_7 : decode cX4_leadsTo 7 = .ok (.bipush 32, 2) := by decide +kernel
theorem dX4_leadsTo_9 : decode cX4_leadsTo 9 = .ok (.if_icmp .ge 28, 3) := by decide +kernel
theorem dX4_leadsTo_12 : decode cX4_leadsTo 12 = .ok (.iload_n 3, 1) := by decide +kernel
theorem dX4_leadsTo_13 : decode cX4_leadsTo 13 = .ok (.iconst (-1), 1) := by decide +kernel
theorem dX4_leadsTo_14 : decode cX4_leadsTo 14 = .ok (.if_icmp .eq 23, 3) := by decide +kernel
theorem dX4_leadsTo_17 : decode cX4_leadsTo 17 = .ok (.iload_n 3, 1) := by decide +kernel
theorem dX4_leadsTo_18 : decode cX4_leadsTo 18 = .ok (.iload_n 2, 1) := by decide +kernel
theorem dX4_leadsTo_19 : decode cX4_leadsTo 19 = .ok (.if_icmp .ne 5, 3) := by decide +kernel
theorem dX4_leadsTo_22 : decode cX4_leadsTo 22 = .ok (.iconst 1, 1) := by decide +kernel
theorem dX4_leadsTo_23 : decode cX4_leadsTo 23 = .ok (.ireturn, 1) := by decide +kernel
theorem dX4_leadsTo_24 : decode cX4_leadsTo 24 = .ok (.aload_n 0, 1) := by decide +kernel
theorem dX4_leadsTo_25 : decode cX4_leadsTo 25 = .ok (.getfield 15, 3) := by decide +kernel
theorem dX4_leadsTo_28 : decode cX4_leadsTo 28 = .ok (.iload_n 3, 1) := by decide +kernel
theorem dX4_leadsTo_29 : decode cX4_leadsTo 29 = .ok (.iaload, 1) := by decide +kernel
theorem dX4_leadsTo_30 : decode cX4_leadsTo 30 = .ok (.istore_n 3, 1) := by decide +kernel
theorem dX4_leadsTo_31 : decode cX4_leadsTo 31 = .ok (.iinc 4 1, 3) := by decide +kernel
theorem dX4_leadsTo_34 : decode cX4_leadsTo 34 = .ok (.goto (-29), 3) := by decide +kernel
theorem dX4_leadsTo_37 : decode cX4_leadsTo 37 = .ok (.iconst 0, 1) := by decide +kernel
theorem dX4_leadsTo_38 : decode cX4_leadsTo 38 = .ok (.ireturn, 1) := by decide +kernel
theorem dX3_hasPriority_0 : decode cX3_hasPriority 0 = .ok (.iconst 0, 1) := by decide +kernel
theorem dX3_hasPriority_1 : decode cX3_hasPriority 1 = .ok (.istore_n 2, 1) := by decide +kernel
theorem dX3_hasPriority_2 : decode cX3_hasPriority 2 = .ok (.iload_n 2, 1) := by decide +kernel
theorem dX3_hasPriority_3 : decode cX3_hasPriority 3 = .ok (.aload_n 0, 1) := by decide +kernel
theorem dX3_hasPriority_4 : decode cX3_hasPriority 4 = .ok (.getfield 40, 3) := by decide +kernel
theorem dX3_hasPriority_7 : decode cX3_hasPriority 7 = .ok (.if_icmp .ge 26, 3) := by decide +kernel
theorem dX3_hasPriority_10 : decode cX3_hasPriority 10 = .ok (.aload_n 0, 1) := by decide +kernel
theorem dX3_hasPriority_11 : decode cX3_hasPriority 11 = .ok (.getfield 19, 3) := by decide +kernel
theorem dX3_hasPriority_14 : decode cX3_hasPriority 14 = .ok (.aload_n 0, 1) := by decide +kernel
theorem dX3_hasPriority_15 : decode cX3_hasPriority 15 = .ok (.getfield 37, 3) := by decide +kernel
theorem dX3_hasPriority_18 : decode cX3_hasPriority 18 = .ok (.iload_n 2, 1) := by decide +kernel
theorem dX3_hasPriority_19 : decode cX3_hasPriority 19 = .ok (.iaload, 1) := by decide +kernel
theorem dX3_hasPriority_20 : decode cX3_hasPriority 20 = .ok (.iaload, 1) := by decide +kernel
theorem dX3_hasPriority_21 : decode cX3_hasPriority 21 = .ok (.iload_n 1, 1) := by decide +kernel
theorem dX3_hasPriority_22 : decode cX3_hasPriority 22 = .ok (.if_icmp .ne 5, 3) := by decide +kernel
theorem dX3_hasPriority_25 : decode cX3_hasPriority 25 = .ok (.iconst 1, 1) := by decide +kernel
theorem dX3_hasPriority_26 : decode cX3_hasPriority 26 = .ok (.ireturn, 1) := by decide +kernel
theorem dX3_hasPriority_27 : decode cX3_hasPriority 27 = .ok (.iinc 2 1, 3) := by decide +kernel
theorem dX3_hasPriority_30 : decode cX3_hasPriority 30 = .ok (.goto (-28), 3) := by decide +kernel
theorem dX3_hasPriority_33 : decode cX3_hasPriority 33 = .ok (.iconst 0, 1) := by decide +kernel
theorem dX3_hasPriority_34 : decode cX3_hasPriority 34 = .ok (.ireturn, 1) := by decide +kernel
theorem dX3_setDirect_0 : decode cX3_setDirect 0 = .ok (.aload_n 0, 1) := by decide +kernel
theorem dX3_setDirect_1 : decode cX3_setDirect 1 = .ok (.getfield 28, 3) := by decide +kernel
theorem dX3_setDirect_4 : decode cX3_setDirect 4 = .ok (.iload_n 1, 1) := by decide +kernel
theorem dX3_setDirect_5 : decode cX3_setDirect 5 = .ok (.iload_n 2, 1) := by decide +kernel
theorem dX3_setDirect_6 : decode cX3_setDirect 6 = .ok (.iastore, 1) := by decide +kernel
theorem dX3_setDirect_7 : decode cX3_setDirect 7 = .ok (.aload_n 0, 1) := by decide +kernel
theorem dX3_setDirect_8 : decode cX3_setDirect 8 = .ok (.getfield 31, 3) := by decide +kernel
theorem dX3_setDirect_11 : decode cX3_setDirect 11 = .ok (.iload_n 1, 1) := by decide +kernel
theorem dX3_setDirect_12 : decode cX3_setDirect 12 = .ok (.iload_n 3, 1) := by decide +kernel
theorem dX3_setDirect_13 : decode cX3_setDirect 13 = .ok (.iastore, 1) := by decide +kernel
theorem dX3_setDirect_14 : decode cX3_setDirect 14 = .ok (.aload_n 0, 1) := by decide +kernel
theorem dX3_setDirect_15 : decode cX3_setDirect 15 = .ok (.getfield 34, 3) := by decide +kernel
theorem dX3_setDirect_18 : decode cX3_setDirect 18 = .ok (.iload_n 1, 1) := by decide +kernel
theorem dX3_setDirect_19 : decode cX3_setDirect 19 = .ok (.iconst (-1), 1) := by decide +kernel
theorem dX3_setDirect_20 : decode cX3_setDirect 20 = .ok (.iastore, 1) := by decide +kernel
theorem dX3_setDirect_21 : decode cX3_setDirect 21 = .ok (.return_, 1) := by decide +kernel
theorem dX3_add_0 : decode cX3_add 0 = .ok (.aload_n 0, 1) := by decide +kernel
theorem dX3_add_1 : decode cX3_add 1 = .ok (.getfield 9, 3) := by decide +kernel
theorem dX3_add_4 : decode cX3_add 4 = .ok (.iload_n 1, 1) := by decide +kernel
theorem dX3_add_5 : decode cX3_add 5 = .ok (.iconst 1, 1) := by decide +kernel
theorem dX3_add_6 : decode cX3_add 6 = .ok (.bastore, 1) := by decide +kernel
theorem dX3_add_7 : decode cX3_add 7 = .ok (.aload_n 0, 1) := by decide +kernel
theorem dX3_add_8 : decode cX3_add 8 = .ok (.getfield 15, 3) := by decide +kernel
theorem dX3_add_11 : decode cX3_add 11 = .ok (.iload_n 1, 1) := by decide +kernel
theorem dX3_add_12 : decode cX3_add 12 = .ok (.iload_n 2, 1) := by decide +kernel
theorem dX3_add_13 : decode cX3_add 13 = .ok (.iastore, 1) := by decide +kernel
theorem dX3_add_14 : decode cX3_add 14 = .ok (.aload_n 0, 1) := by decide +kernel
theorem dX3_add_15 : decode cX3_add 15 = .ok (.getfield 19, 3) := by decide +kernel
theorem dX3_add_18 : decode cX3_add 18 = .ok (.iload_n 1, 1) := by decide +kernel
theorem dX3_add_19 : decode cX3_add 19 = .ok (.iload_n 3, 1) := by decide +kernel
theorem dX3_add_20 : decode cX3_add 20 = .ok (.iastore, 1) := by decide +kernel
theorem dX3_add_21 : decode cX3_add 21 = .ok (.aload_n 0, 1) := by decide +kernel
theorem dX3_add_22 : decode cX3_add 22 = .ok (.getfield 22, 3) := by decide +kernel
theorem dX3_add_25 : decode cX3_add 25 = .ok (.iload_n 1, 1) := by decide +kernel
theorem dX3_add_26 : decode cX3_add 26 = .ok (.iload 4, 2) := by decide +kernel
theorem dX3_add_28 : decode cX3_add 28 = .ok (.iastore, 1) := by decide +kernel
theorem dX3_add_29 : decode cX3_add 29 = .ok (.aload_n 0, 1) := by decide +kernel
theorem dX3_add_30 : decode cX3_add 30 = .ok (.getfield 25, 3) := by decide +kernel
theorem dX3_add_33 : decode cX3_add 33 = .ok (.iload_n 1, 1) := by decide +kernel
theorem dX3_add_34 : decode cX3_add 34 = .ok (.iload 4, 2) := by decide +kernel
theorem dX3_add_36 : decode cX3_add 36 = .ok (.iastore, 1) := by decide +kernel
theorem dX3_add_37 : decode cX3_add 37 = .ok (.aload_n 0, 1) := by decide +kernel
theorem dX3_add_38 : decode cX3_add 38 = .ok (.getfield 40, 3) := by decide +kernel
theorem dX3_add_41 : decode cX3_add 41 = .ok (.istore 5, 2) := by decide +kernel
theorem dX3_add_43 : decode cX3_add 43 = .ok (.iload 5, 2) := by decide +kernel
theorem dX3_add_45 : decode cX3_add 45 = .ok (.ifCond .le 43, 3) := by decide +kernel
theorem dX3_add_48 : decode cX3_add 48 = .ok (.aload_n 0, 1) := by decide +kernel
theorem dX3_add_49 : decode cX3_add 49 = .ok (.getfield 19, 3) := by decide +kernel
theorem dX3_add_52 : decode cX3_add 52 = .ok (.aload_n 0, 1) := by decide +kernel
theorem dX3_add_53 : decode cX3_add 53 = .ok (.getfield 37, 3) := by decide +kernel
theorem dX3_add_56 : decode cX3_add 56 = .ok (.iload 5, 2) := by decide +kernel
theorem dX3_add_58 : decode cX3_add 58 = .ok (.iconst 1, 1) := by decide +kernel
theorem dX3_add_59 : decode cX3_add 59 = .ok (.isub, 1) := by decide +kernel
theorem dX3_add_60 : decode cX3_add 60 = .ok (.iaload, 1) := by decide +kernel
theorem dX3_add_61 : decode cX3_add 61 = .ok (.iaload, 1) := by decide +kernel
theorem dX3_add_62 : decode cX3_add 62 = .ok (.iload_n 3, 1) := by decide +kernel
theorem dX3_add_63 : decode cX3_add 63 = .ok (.if_icmp .le 25, 3) := by decide +kernel
theorem dX3_add_66 : decode cX3_add 66 = .ok (.aload_n 0, 1) := by decide +kernel
theorem dX3_add_67 : decode cX3_add 67 = .ok (.getfield 37, 3) := by decide +kernel
theorem dX3_add_70 : decode cX3_add 70 = .ok (.iload 5, 2) := by decide +kernel
theorem dX3_add_72 : decode cX3_add 72 = .ok (.aload_n 0, 1) := by decide +kernel
theorem dX3_add_73 : decode cX3_add 73 = .ok (.getfield 37, 3) := by decide +kernel
theorem dX3_add_76 : decode cX3_add 76 = .ok (.iload 5, 2) := by decide +kernel
theorem dX3_add_78 : decode cX3_add 78 = .ok (.iconst 1, 1) := by decide +kernel
theorem dX3_add_79 : decode cX3_add 79 = .ok (.isub, 1) := by decide +kernel
theorem dX3_add_80 : decode cX3_add 80 = .ok (.iaload, 1) := by decide +kernel
theorem dX3_add_81 : decode cX3_add 81 = .ok (.iastore, 1) := by decide +kernel
theorem dX3_add_82 : decode cX3_add 82 = .ok (.iinc 5 (-1), 3) := by decide +kernel
theorem dX3_add_85 : decode cX3_add 85 = .ok (.goto (-42), 3) := by decide +kernel
theorem dX3_add_88 : decode cX3_add 88 = .ok (.aload_n 0, 1) := by decide +kernel
theorem dX3_add_89 : decode cX3_add 89 = .ok (.getfield 37, 3) := by decide +kernel
theorem dX3_add_92 : decode cX3_add 92 = .ok (.iload 5, 2) := by decide +kernel
theorem dX3_add_94 : decode cX3_add 94 = .ok (.iload_n 1, 1) := by decide +kernel
theorem dX3_add_95 : decode cX3_add 95 = .ok (.iastore, 1) := by decide +kernel
theorem dX3_add_96 : decode cX3_add 96 = .ok (.aload_n 0, 1) := by decide +kernel
theorem dX3_add_97 : decode cX3_add 97 = .ok (.dup, 1) := by decide +kernel
theorem dX3_add_98 : decode cX3_add 98 = .ok (.getfield 40, 3) := by decide +kernel
theorem dX3_add_101 : decode cX3_add 101 = .ok (.iconst 1, 1) := by decide +kernel
theorem dX3_add_102 : decode cX3_add 102 = .ok (.iadd, 1) := by decide +kernel
theorem dX3_add_103 : decode cX3_add 103 = .ok (.putfield 40, 3) := by decide +kernel
theorem dX3_add_106 : decode cX3_add 106 = .ok (.return_, 1) := by decide +kernel
theorem dL_storage_0 : decode cL_storage 0 = .ok (.aload_n 0, 1) := by decide +kernel
theorem dL_storage_1 : decode cL_storage 1 = .ok (.iload_n 1, 1) := by decide +kernel
theorem dL_storage_2 : decode cL_storage 2 = .ok (.iload_n 2, 1) := by decide +kernel
theorem dL_storage_3 : decode cL_storage 3 = .ok (.iload_n 3, 1) := by decide +kernel
theorem dL_storage_4 : decode cL_storage 4 = .ok (.iload 4, 2) := by decide +kernel
theorem dL_storage_6 : decode cL_storage 6 = .ok (.iload 5, 2) := by decide +kernel
theorem dL_storage_8 : decode cL_storage 8 = .ok (.invokevirtual 29, 3) := by decide +kernel
theorem dL_storage_11 : decode cL_storage 11 = .ok (.goto 19, 3) := by decide +kernel
theorem dL_storage_14 : decode cL_storage 14 = .ok (.astore 6, 2) := by decide +kernel
theorem dL_storage_16 : decode cL_storage 16 = .ok (.iconst 1, 1) := by decide +kernel
theorem dL_storage_17 : decode cL_storage 17 = .ok (.ireturn, 1) := by decide +kernel
theorem dL_storage_18 : decode cL_storage 18 = .ok (.astore 6, 2) := by decide +kernel
theorem dL_storage_20 : decode cL_storage 20 = .ok (.iconst 2, 1) := by decide +kernel
theorem dL_storage_21 : decode cL_storage 21 = .ok (.ireturn, 1) := by decide +kernel
theorem dL_storage_22 : decode cL_storage 22 = .ok (.astore 6, 2) := by decide +kernel
theorem dL_storage_24 : decode cL_storage 24 = .ok (.iconst 3, 1) := by decide +kernel
theorem dL_storage_25 : decode cL_storage 25 = .ok (.ireturn, 1) := by decide +kernel
theorem dL_storage_26 : decode cL_storage 26 = .ok (.astore 6, 2) := by decide +kernel
theorem dL_storage_28 : decode cL_storage 28 = .ok (.iconst 4, 1) := by decide +kernel
theorem dL_storage_29 : decode cL_storage 29 = .ok (.ireturn, 1) := by decide +kernel
theorem dL_storage_30 : decode cL_storage 30 = .ok (.iconst 0, 1) := by decide +kernel
theorem dL_storage_31 : decode cL_storage 31 = .ok (.ireturn, 1) := by decide +kernel
theorem dX5_storage_0 : decode cX5_storage 0 = .ok (.iload_n 1, 1) := by decide +kernel
theorem dX5_storage_1 : decode cX5_storage 1 = .ok (.bipush 40, 2) := by decide +kernel
theorem dX5_storage_3 : decode cX5_storage 3 = .ok (.invokestatic 51, 3) := by decide +kernel
theorem dX5_storage_6 : decode cX5_storage 6 = .ok (.iload_n 2, 1) := by decide +kernel
theorem dX5_storage_7 : decode cX5_storage 7 = .ok (.bipush 32, 2) := by decide +kernel
theorem dX5_storage_9 : decode cX5_storage 9 = .ok (.invokestatic 51, 3) := by decide +kernel
theorem dX5_storage_12 : decode cX5_storage 12 = .ok (.iload 5, 2) := by decide +kernel
theorem dX5_storage_14 : decode cX5_storage 14 = .ok (.bipush 8, 2) := by decide +kernel
theorem dX5_storage_16 : decode cX5_storage 16 = .ok (.invokestatic 51, 3) := by decide +kernel
theorem dX5_storage_19 : decode cX5_storage 19 = .ok (.aload_n 0, 1) := by decide +kernel
theorem dX5_storage_20 : decode cX5_storage 20 = .ok (.getfield 10, 3) := by decide +kernel
theorem dX5_storage_23 : decode cX5_storage 23 = .ok (.getfield 55, 3) := by decide +kernel
theorem dX5_storage_26 : decode cX5_storage 26 = .ok (.iload_n 2, 1) := by decide +kernel
theorem dX5_storage_27 : decode cX5_storage 27 = .ok (.baload, 1) := by decide +kernel
theorem dX5_storage_28 : decode cX5_storage 28 = .ok (.invokestatic 59, 3) := by decide +kernel
theorem dX5_storage_31 : decode cX5_storage 31 = .ok (.aload_n 0, 1) := by decide +kernel
theorem dX5_storage_32 : decode cX5_storage 32 = .ok (.getfield 19, 3) := by decide +kernel
theorem dX5_storage_35 : decode cX5_storage 35 = .ok (.getfield 78, 3) := by decide +kernel
theorem dX5_storage_38 : decode cX5_storage 38 = .ok (.iload 5, 2) := by decide +kernel
theorem dX5_storage_40 : decode cX5_storage 40 = .ok (.baload, 1) := by decide +kernel
theorem dX5_storage_41 : decode cX5_storage 41 = .ok (.invokestatic 59, 3) := by decide +kernel
theorem dX5_storage_44 : decode cX5_storage 44 = .ok (.iload_n 3, 1) := by decide +kernel
theorem dX5_storage_45 : decode cX5_storage 45 = .ok (.iconst 1, 1) := by decide +kernel
theorem dX5_storage_46 : decode cX5_storage 46 = .ok (.ldc 81, 2) := by decide +kernel
theorem dX5_storage_48 : decode cX5_storage 48 = .ok (.invokestatic 74, 3) := by decide +kernel
theorem dX5_storage_51 : decode cX5_storage 51 = .ok (.iload 4, 2) := by decide +kernel
theorem dX5_storage_53 : decode cX5_storage 53 = .ok (.iconst 0, 1) := by decide +kernel
theorem dX5_storage_54 : decode cX5_storage 54 = .ok (.ldc 73, 2) := by decide +kernel
theorem dX5_storage_56 : decode cX5_storage 56 = .ok (.invokestatic 74, 3) := by decide +kernel
theorem dX5_storage_59 : decode cX5_storage 59 = .ok (.aload_n 0, 1) := by decide +kernel
theorem dX5_storage_60 : decode cX5_storage 60 = .ok (.getfield 26, 3) := by decide +kernel
theorem dX5_storage_63 : decode cX5_storage 63 = .ok (.getfield 85, 3) := by decide +kernel
theorem dX5_storage_66 : decode cX5_storage 66 = .ok (.iload_n 1, 1) := by decide +kernel
theorem dX5_storage_67 : decode cX5_storage 67 = .ok (.baload, 1) := by decide +kernel
theorem dX5_storage_68 : decode cX5_storage 68 = .ok (.invokestatic 63, 3) := by decide +kernel
theorem dX5_storage_71 : decode cX5_storage 71 = .ok (.aload_n 0, 1) := by decide +kernel
theorem dX5_storage_72 : decode cX5_storage 72 = .ok (.getfield 26, 3) := by decide +kernel
theorem dX5_storage_75 : decode cX5_storage 75 = .ok (.iload_n 3, 1) := by decide +kernel
theorem dX5_storage_76 : decode cX5_storage 76 = .ok (.invokevirtual 86, 3) := by decide +kernel
theorem dX5_storage_79 : decode cX5_storage 79 = .ok (.invokestatic 63, 3) := by decide +kernel
theorem dX5_storage_82 : decode cX5_storage 82 = .ok (.aload_n 0, 1) := by decide +kernel
theorem dX5_storage_83 : decode cX5_storage 83 = .ok (.getfield 26, 3) := by decide +kernel
theorem dX5_storage_86 : decode cX5_storage 86 = .ok (.iload_n 1, 1) := by decide +kernel
theorem dX5_storage_87 : decode cX5_storage 87 = .ok (.iload 5, 2) := by decide +kernel
theorem dX5_storage_89 : decode cX5_storage 89 = .ok (.invokevirtual 96, 3) := by decide +kernel
theorem dX5_storage_92 : decode cX5_storage 92 = .ok (.aload_n 0, 1) := by decide +kernel
theorem dX5_storage_93 : decode cX5_storage 93 = .ok (.getfield 26, 3) := by decide +kernel
theorem dX5_storage_96 : decode cX5_storage 96 = .ok (.iload_n 1, 1) := by decide +kernel
theorem dX5_storage_97 : decode cX5_storage 97 = .ok (.iload_n 2, 1) := by decide +kernel
theorem dX5_storage_98 : decode cX5_storage 98 = .ok (.iload_n 3, 1) := by decide +kernel
theorem dX5_storage_99 : decode cX5_storage 99 = .ok (.iload 4, 2) := by decide +kernel
theorem dX5_storage_101 : decode cX5_storage 101 = .ok (.invokevirtual 93, 3) := by decide +kernel
theorem dX5_storage_104 : decode cX5_storage 104 = .ok (.aload_n 0, 1) := by decide +kernel
theorem dX5_storage_105 : decode cX5_storage 105 = .ok (.iconst 1, 1) := by decide +kernel
theorem dX5_storage_106 : decode cX5_storage 106 = .ok (.putfield 47, 3) := by decide +kernel
theorem dX5_storage_109 : decode cX5_storage 109 = .ok (.return_, 1) := by decide +kernel
theorem dX3_setStorage_0 : decode cX3_setStorage 0 = .ok (.aload_n 0, 1) := by decide +kernel
theorem dX3_setStorage_1 : decode cX3_setStorage 1 = .ok (.getfield 28, 3) := by decide +kernel
theorem dX3_setStorage_4 : decode cX3_setStorage 4 = .ok (.iload_n 1, 1) := by decide +kernel
theorem dX3_setStorage_5 : decode cX3_setStorage 5 = .ok (.iconst (-1), 1) := by decide +kernel
theorem dX3_setStorage_6 : decode cX3_setStorage 6 = .ok (.iastore, 1) := by decide +kernel
theorem dX3_setStorage_7 : decode cX3_setStorage 7 = .ok (.aload_n 0, 1) := by decide +kernel
theorem dX3_setStorage_8 : decode cX3_setStorage 8 = .ok (.getfield 31, 3) := by decide +kernel
theorem dX3_setStorage_11 : decode cX3_setStorage 11 = .ok (.iload_n 1, 1) := by decide +kernel
theorem dX3_setStorage_12 : decode cX3_setStorage 12 = .ok (.iconst (-1), 1) := by decide +kernel
theorem dX3_setStorage_13 : decode cX3_setStorage 13 = .ok (.iastore, 1) := by decide +kernel
theorem dX3_setStorage_14 : decode cX3_setStorage 14 = .ok (.aload_n 0, 1) := by decide +kernel
theorem dX3_setStorage_15 : decode cX3_setStorage 15 = .ok (.getfield 34, 3) := by decide +kernel
theorem dX3_setStorage_18 : decode cX3_setStorage 18 = .ok (.iload_n 1, 1) := by decide +kernel
theorem dX3_setStorage_19 : decode cX3_setStorage 19 = .ok (.iload_n 2, 1) := by decide +kernel
theorem dX3_setStorage_20 : decode cX3_setStorage 20 = .ok (.iastore, 1) := by decide +kernel
theorem dX3_setStorage_21 : decode cX3_setStorage 21 = .ok (.return_, 1) := by decide +kernel
theorem dL_drop_0 : decode cL_drop 0 = .ok (.aload_n 0, 1) := by decide +kernel
theorem dL_drop_1 : decode cL_drop 1 = .ok (.iload_n 1, 1) := by decide +kernel
theorem dL_drop_2 : decode cL_drop 2 = .ok (.invokevirtual 33, 3) := by decide +kernel
theorem dL_drop_5 : decode cL_drop 5 = .ok (.goto 9, 3) := by decide +kernel
theorem dL_drop_8 : decode cL_drop 8 = .ok (.astore_n 2, 1) := by decide +kernel
theorem dL_drop_9 : decode cL_drop 9 = .ok (.iconst 1, 1) := by decide +kernel
theorem dL_drop_10 : decode cL_drop 10 = .ok (.ireturn, 1) := by decide +kernel
theorem dL_drop_11 : decode cL_drop 11 = .ok (.astore_n 2, 1) := by decide +kernel
theorem dL_drop_12 : decode cL_drop 12 = .ok (.iconst 2, 1) := by decide +kernel
theorem dL_drop_13 : decode cL_drop 13 = .ok (.ireturn, 1) := by decide +kernel
theorem dL_drop_14 : decode cL_drop 14 = .ok (.iconst 0, 1) := by decide +kernel
theorem dL_drop_15 : decode cL_drop 15 = .ok (.ireturn, 1) := by decide +kernel
theorem dX5_drop_0 : decode cX5_drop 0 = .ok (.aload_n 0, 1) := by decide +kernel
theorem dX5_drop_1 : decode cX5_drop 1 = .ok (.iload_n 1, 1) := by decide +kernel
theorem dX5_drop_2 : decode cX5_drop 2 = .ok (.invokevirtual 99, 3) := by decide +kernel
theorem dX5_drop_5 : decode cX5_drop 5 = .ok (.aload_n 0, 1) := by decide +kernel
theorem dX5_drop_6 : decode cX5_drop 6 = .ok (.getfield 26, 3) := by decide +kernel
theorem dX5_drop_9 : decode cX5_drop 9 = .ok (.iload_n 1, 1) := by decide +kernel
theorem dX5_drop_10 : decode cX5_drop 10 = .ok (.invokevirtual 103, 3) := by decide +kernel
theorem dX5_drop_13 : decode cX5_drop 13 = .ok (.aload_n 0, 1) := by decide +kernel
theorem dX5_drop_14 : decode cX5_drop 14 = .ok (.iconst 1, 1) := by decide +kernel
theorem dX5_drop_15 : decode cX5_drop 15 = .ok (.putfield 47, 3) := by decide +kernel
theorem dX5_drop_18 : decode cX5_drop 18 = .ok (.return_, 1) := by decide +kernel
theorem dX5_checkRight_0 : decode cX5_checkRight 0 = .ok (.iload_n 1, 1) := by decide +kernel
theorem dX5_checkRight_1 : decode cX5_checkRight 1 = .ok (.bipush 40, 2) := by decide +kernel
theorem dX5_checkRight_3 : decode cX5_checkRight 3 = .ok (.invokestatic 51, 3) := by decide +kernel
theorem dX5_checkRight_6 : decode cX5_checkRight 6 = .ok (.aload_n 0, 1) := by decide +kernel
theorem dX5_checkRight_7 : decode cX5_checkRight 7 = .ok (.getfield 26, 3) := by decide +kernel
theorem dX5_checkRight_10 : decode cX5_checkRight 10 = .ok (.getfield 85, 3) := by decide +kernel
theorem dX5_checkRight_13 : decode cX5_checkRight 13 = .ok (.iload_n 1, 1) := by decide +kernel
theorem dX5_checkRight_14 : decode cX5_checkRight 14 = .ok (.baload, 1) := by decide +kernel
theorem dX5_checkRight_15 : decode cX5_checkRight 15 = .ok (.invokestatic 59, 3) := by decide +kernel
theorem dX5_checkRight_18 : decode cX5_checkRight 18 = .ok (.return_, 1) := by decide +kernel
theorem dX3_remove_0 : decode cX3_remove 0 = .ok (.aload_n 0, 1) := by decide +kernel
theorem dX3_remove_1 : decode cX3_remove 1 = .ok (.getfield 9, 3) := by decide +kernel
theorem dX3_remove_4 : decode cX3_remove 4 = .ok (.iload_n 1, 1) := by decide +kernel
theorem dX3_remove_5 : decode cX3_remove 5 = .ok (.iconst 0, 1) := by decide +kernel
theorem dX3_remove_6 : decode cX3_remove 6 = .ok (.bastore, 1) := by decide +kernel
theorem dX3_remove_7 : decode cX3_remove 7 = .ok (.iconst 0, 1) := by decide +kernel
theorem dX3_remove_8 : decode cX3_remove 8 = .ok (.istore_n 2, 1) := by decide +kernel
theorem dX3_remove_9 : decode cX3_remove 9 = .ok (.iconst 0, 1) := by decide +kernel
theorem dX3_remove_10 : decode cX3_remove 10 = .ok (.istore_n 3, 1) := by decide +kernel
theorem dX3_remove_11 : decode cX3_remove 11 = .ok (.iload_n 3, 1) := by decide +kernel
theorem dX3_remove_12 : decode cX3_remove 12 = .ok (.aload_n 0, 1) := by decide +kernel
theorem dX3_remove_13 : decode cX3_remove 13 = .ok (.getfield 40, 3) := by decide +kernel
theorem dX3_remove_16 : decode cX3_remove 16 = .ok (.if_icmp .ge 34, 3) := by decide +kernel
theorem dX3_remove_19 : decode cX3_remove 19 = .ok (.aload_n 0, 1) := by decide +kernel
theorem dX3_remove_20 : decode cX3_remove 20 = .ok (.getfield 37, 3) := by decide +kernel
theorem dX3_remove_23 : decode cX3_remove 23 = .ok (.iload_n 3, 1) := by decide +kernel
theorem dX3_remove_24 : decode cX3_remove 24 = .ok (.iaload, 1) := by decide +kernel
theorem dX3_remove_25 : decode cX3_remove 25 = .ok (.iload_n 1, 1) := by decide +kernel
theorem dX3_remove_26 : decode cX3_remove 26 = .ok (.if_icmp .eq 18, 3) := by decide +kernel
theorem dX3_remove_29 : decode cX3_remove 29 = .ok (.aload_n 0, 1) := by decide +kernel
theorem dX3_remove_30 : decode cX3_remove 30 = .ok (.getfield 37, 3) := by decide +kernel
theorem dX3_remove_33 : decode cX3_remove 33 = .ok (.iload_n 2, 1) := by decide +kernel
theorem dX3_remove_34 : decode cX3_remove 34 = .ok (.aload_n 0, 1) := by decide +kernel
theorem dX3_remove_35 : decode cX3_remove 35 = .ok (.getfield 37, 3) := by decide +kernel
theorem dX3_remove_38 : decode cX3_remove 38 = .ok (.iload_n 3, 1) := by decide +kernel
theorem dX3_remove_39 : decode cX3_remove 39 = .ok (.iaload, 1) := by decide +kernel
theorem dX3_remove_40 : decode cX3_remove 40 = .ok (.iastore, 1) := by decide +kernel
theorem dX3_remove_41 : decode cX3_remove 41 = .ok (.iinc 2 1, 3) := by decide +kernel
theorem dX3_remove_44 : decode cX3_remove 44 = .ok (.iinc 3 1, 3) := by decide +kernel
theorem dX3_remove_47 : decode cX3_remove 47 = .ok (.goto (-36), 3) := by decide +kernel
theorem dX3_remove_50 : decode cX3_remove 50 = .ok (.aload_n 0, 1) := by decide +kernel
theorem dX3_remove_51 : decode cX3_remove 51 = .ok (.iload_n 2, 1) := by decide +kernel
theorem dX3_remove_52 : decode cX3_remove 52 = .ok (.putfield 40, 3) := by decide +kernel
theorem dX3_remove_55 : decode cX3_remove 55 = .ok (.return_, 1) := by decide +kernel
theorem dL_want_0 : decode cL_want 0 = .ok (.aload_n 0, 1) := by decide +kernel
theorem dL_want_1 : decode cL_want 1 = .ok (.iload_n 1, 1) := by decide +kernel
theorem dL_want_2 : decode cL_want 2 = .ok (.iload_n 2, 1) := by decide +kernel
theorem dL_want_3 : decode cL_want 3 = .ok (.invokevirtual 37, 3) := by decide +kernel
theorem dL_want_6 : decode cL_want 6 = .ok (.goto 12, 3) := by decide +kernel
theorem dL_want_9 : decode cL_want 9 = .ok (.astore_n 3, 1) := by decide +kernel
theorem dL_want_10 : decode cL_want 10 = .ok (.iconst 1, 1) := by decide +kernel
theorem dL_want_11 : decode cL_want 11 = .ok (.ireturn, 1) := by decide +kernel
theorem dL_want_12 : decode cL_want 12 = .ok (.astore_n 3, 1) := by decide +kernel
theorem dL_want_13 : decode cL_want 13 = .ok (.iconst 2, 1) := by decide +kernel
theorem dL_want_14 : decode cL_want 14 = .ok (.ireturn, 1) := by decide +kernel
theorem dL_want_15 : decode cL_want 15 = .ok (.astore_n 3, 1) := by decide +kernel
theorem dL_want_16 : decode cL_want 16 = .ok (.iconst 3, 1) := by decide +kernel
theorem dL_want_17 : decode cL_want 17 = .ok (.ireturn, 1) := by decide +kernel
theorem dL_want_18 : decode cL_want 18 = .ok (.iconst 0, 1) := by decide +kernel
theorem dL_want_19 : decode cL_want 19 = .ok (.ireturn, 1) := by decide +kernel
theorem dX5_want_0 : decode cX5_want 0 = .ok (.aload_n 0, 1) := by decide +kernel
theorem dX5_want_1 : decode cX5_want 1 = .ok (.iload_n 1, 1) := by decide +kernel
theorem dX5_want_2 : decode cX5_want 2 = .ok (.invokevirtual 99, 3) := by decide +kernel
theorem dX5_want_5 : decode cX5_want 5 = .ok (.iload_n 2, 1) := by decide +kernel
theorem dX5_want_6 : decode cX5_want 6 = .ok (.iconst 0, 1) := by decide +kernel
theorem dX5_want_7 : decode cX5_want 7 = .ok (.aload_n 0, 1) := by decide +kernel
theorem dX5_want_8 : decode cX5_want 8 = .ok (.getfield 26, 3) := by decide +kernel
theorem dX5_want_11 : decode cX5_want 11 = .ok (.getfield 106, 3) := by decide +kernel
theorem dX5_want_14 : decode cX5_want 14 = .ok (.iload_n 1, 1) := by decide +kernel
theorem dX5_want_15 : decode cX5_want 15 = .ok (.iaload, 1) := by decide +kernel
theorem dX5_want_16 : decode cX5_want 16 = .ok (.invokestatic 74, 3) := by decide +kernel
theorem dX5_want_19 : decode cX5_want 19 = .ok (.aload_n 0, 1) := by decide +kernel
theorem dX5_want_20 : decode cX5_want 20 = .ok (.getfield 26, 3) := by decide +kernel
theorem dX5_want_23 : decode cX5_want 23 = .ok (.getfield 110, 3) := by decide +kernel
theorem dX5_want_26 : decode cX5_want 26 = .ok (.iload_n 1, 1) := by decide +kernel
theorem dX5_want_27 : decode cX5_want 27 = .ok (.iload_n 2, 1) := by decide +kernel
theorem dX5_want_28 : decode cX5_want 28 = .ok (.iastore, 1) := by decide +kernel
theorem dX5_want_29 : decode cX5_want 29 = .ok (.aload_n 0, 1) := by decide +kernel
theorem dX5_want_30 : decode cX5_want 30 = .ok (.iconst 1, 1) := by decide +kernel
theorem dX5_want_31 : decode cX5_want 31 = .ok (.putfield 47, 3) := by decide +kernel
theorem dX5_want_34 : decode cX5_want 34 = .ok (.return_, 1) := by decide +kernel
theorem dL_inflow_0 : decode cL_inflow 0 = .ok (.aload_n 0, 1) := by decide +kernel
theorem dL_inflow_1 : decode cL_inflow 1 = .ok (.iload_n 1, 1) := by decide +kernel
theorem dL_inflow_2 : decode cL_inflow 2 = .ok (.iload_n 2, 1) := by decide +kernel
theorem dL_inflow_3 : decode cL_inflow 3 = .ok (.invokevirtual 40, 3) := by decide +kernel
theorem dL_inflow_6 : decode cL_inflow 6 = .ok (.goto 12, 3) := by decide +kernel
theorem dL_inflow_9 : decode cL_inflow 9 = .ok (.astore_n 3, 1) := by decide +kernel
theorem dL_inflow_10 : decode cL_inflow 10 = .ok (.iconst 1, 1) := by decide +kernel
theorem dL_inflow_11 : decode cL_inflow 11 = .ok (.ireturn, 1) := by decide +kernel
theorem dL_inflow_12 : decode cL_inflow 12 = .ok (.astore_n 3, 1) := by decide +kernel
theorem dL_inflow_13 : decode cL_inflow 13 = .ok (.iconst 2, 1) := by decide +kernel
theorem dL_inflow_14 : decode cL_inflow 14 = .ok (.ireturn, 1) := by decide +kernel
theorem dL_inflow_15 : decode cL_inflow 15 = .ok (.astore_n 3, 1) := by decide +kernel
theorem dL_inflow_16 : decode cL_inflow 16 = .ok (.iconst 3, 1) := by decide +kernel
theorem dL_inflow_17 : decode cL_inflow 17 = .ok (.ireturn, 1) := by decide +kernel
theorem dL_inflow_18 : decode cL_inflow 18 = .ok (.iconst 0, 1) := by decide +kernel
theorem dL_inflow_19 : decode cL_inflow 19 = .ok (.ireturn, 1) := by decide +kernel
theorem dX5_inflow_0 : decode cX5_inflow 0 = .ok (.aload_n 0, 1) := by decide +kernel
theorem dX5_inflow_1 : decode cX5_inflow 1 = .ok (.iload_n 1, 1) := by decide +kernel
theorem dX5_inflow_2 : decode cX5_inflow 2 = .ok (.invokevirtual 113, 3) := by decide +kernel
theorem dX5_inflow_5 : decode cX5_inflow 5 = .ok (.iload_n 2, 1) := by decide +kernel
theorem dX5_inflow_6 : decode cX5_inflow 6 = .ok (.iconst 0, 1) := by decide +kernel
theorem dX5_inflow_7 : decode cX5_inflow 7 = .ok (.ldc 73, 2) := by decide +kernel
theorem dX5_inflow_9 : decode cX5_inflow 9 = .ok (.invokestatic 74, 3) := by decide +kernel
theorem dX5_inflow_12 : decode cX5_inflow 12 = .ok (.aload_n 0, 1) := by decide +kernel
theorem dX5_inflow_13 : decode cX5_inflow 13 = .ok (.getfield 10, 3) := by decide +kernel
theorem dX5_inflow_16 : decode cX5_inflow 16 = .ok (.getfield 116, 3) := by decide +kernel
theorem dX5_inflow_19 : decode cX5_inflow 19 = .ok (.iload_n 1, 1) := by decide +kernel
theorem dX5_inflow_20 : decode cX5_inflow 20 = .ok (.iload_n 2, 1) := by decide +kernel
theorem dX5_inflow_21 : decode cX5_inflow 21 = .ok (.iastore, 1) := by decide +kernel
theorem dX5_inflow_22 : decode cX5_inflow 22 = .ok (.aload_n 0, 1) := by decide +kernel
theorem dX5_inflow_23 : decode cX5_inflow 23 = .ok (.iconst 1, 1) := by decide +kernel
theorem dX5_inflow_24 : decode cX5_inflow 24 = .ok (.putfield 47, 3) := by decide +kernel
theorem dX5_inflow_27 : decode cX5_inflow 27 = .ok (.return_, 1) := by decide +kernel
theorem dX5_checkReach_0 : decode cX5_checkReach 0 = .ok (.iload_n 1, 1) := by decide +kernel
theorem dX5_checkReach_1 : decode cX5_checkReach 1 = .ok (.bipush 32, 2) := by decide +kernel
theorem dX5_checkReach_3 : decode cX5_checkReach 3 = .ok (.invokestatic 51, 3) := by decide +kernel
theorem dX5_checkReach_6 : decode cX5_checkReach 6 = .ok (.aload_n 0, 1) := by decide +kernel
theorem dX5_checkReach_7 : decode cX5_checkReach 7 = .ok (.getfield 10, 3) := by decide +kernel
theorem dX5_checkReach_10 : decode cX5_checkReach 10 = .ok (.getfield 55, 3) := by decide +kernel
theorem dX5_checkReach_13 : decode cX5_checkReach 13 = .ok (.iload_n 1, 1) := by decide +kernel
theorem dX5_checkReach_14 : decode cX5_checkReach 14 = .ok (.baload, 1) := by decide +kernel
theorem dX5_checkReach_15 : decode cX5_checkReach 15 = .ok (.invokestatic 59, 3) := by decide +kernel
theorem dX5_checkReach_18 : decode cX5_checkReach 18 = .ok (.return_, 1) := by decide +kernel
theorem dL_release_0 : decode cL_release 0 = .ok (.aload 4, 2) := by decide +kernel
theorem dL_release_2 : decode cL_release 2 = .ok (.iconst 0, 1) := by decide +kernel
theorem dL_release_3 : decode cL_release 3 = .ok (.aload_n 0, 1) := by decide +kernel
theorem dL_release_4 : decode cL_release 4 = .ok (.iload_n 1, 1) := by decide +kernel
theorem dL_release_5 : decode cL_release 5 = .ok (.iload_n 2, 1) := by decide +kernel
theorem dL_release_6 : decode cL_release 6 = .ok (.iload_n 3, 1) := by decide +kernel
theorem dL_release_7 : decode cL_release 7 = .ok (.invokevirtual 43, 3) := by decide +kernel
theorem dL_release_10 : decode cL_release 10 = .ok (.i2l, 1) := by decide +kernel
theorem dL_release_11 : decode cL_release 11 = .ok (.lastore, 1) := by decide +kernel
theorem dL_release_12 : decode cL_release 12 = .ok (.goto 19, 3) := by decide +kernel
theorem dL_release_15 : decode cL_release 15 = .ok (.astore 5, 2) := by decide +kernel
theorem dL_release_17 : decode cL_release 17 = .ok (.iconst 1, 1) := by decide +kernel
theorem dL_release_18 : decode cL_release 18 = .ok (.ireturn, 1) := by decide +kernel
theorem dL_release_19 : decode cL_release 19 = .ok (.astore 5, 2) := by decide +kernel
theorem dL_release_21 : decode cL_release 21 = .ok (.iconst 2, 1) := by decide +kernel
theorem dL_release_22 : decode cL_release 22 = .ok (.ireturn, 1) := by decide +kernel
theorem dL_release_23 : decode cL_release 23 = .ok (.astore 5, 2) := by decide +kernel
theorem dL_release_25 : decode cL_release 25 = .ok (.iconst 3, 1) := by decide +kernel
theorem dL_release_26 : decode cL_release 26 = .ok (.ireturn, 1) := by decide +kernel
theorem dL_release_27 : decode cL_release 27 = .ok (.astore 5, 2) := by decide +kernel
theorem dL_release_29 : decode cL_release 29 = .ok (.iconst 4, 1) := by decide +kernel
theorem dL_release_30 : decode cL_release 30 = .ok (.ireturn, 1) := by decide +kernel
theorem dL_release_31 : decode cL_release 31 = .ok (.iconst 0, 1) := by decide +kernel
theorem dL_release_32 : decode cL_release 32 = .ok (.ireturn, 1) := by decide +kernel
theorem dX5_release_0 : decode cX5_release 0 = .ok (.iload_n 1, 1) := by decide +kernel
theorem dX5_release_1 : decode cX5_release 1 = .ok (.bipush 8, 2) := by decide +kernel
theorem dX5_release_3 : decode cX5_release 3 = .ok (.invokestatic 51, 3) := by decide +kernel
theorem dX5_release_6 : decode cX5_release 6 = .ok (.iload_n 3, 1) := by decide +kernel
theorem dX5_release_7 : decode cX5_release 7 = .ok (.bipush 32, 2) := by decide +kernel
theorem dX5_release_9 : decode cX5_release 9 = .ok (.invokestatic 51, 3) := by decide +kernel
theorem dX5_release_12 : decode cX5_release 12 = .ok (.aload_n 0, 1) := by decide +kernel
theorem dX5_release_13 : decode cX5_release 13 = .ok (.getfield 19, 3) := by decide +kernel
theorem dX5_release_16 : decode cX5_release 16 = .ok (.getfield 78, 3) := by decide +kernel
theorem dX5_release_19 : decode cX5_release 19 = .ok (.iload_n 1, 1) := by decide +kernel
theorem dX5_release_20 : decode cX5_release 20 = .ok (.baload, 1) := by decide +kernel
theorem dX5_release_21 : decode cX5_release 21 = .ok (.invokestatic 59, 3) := by decide +kernel
theorem dX5_release_24 : decode cX5_release 24 = .ok (.aload_n 0, 1) := by decide +kernel
theorem dX5_release_25 : decode cX5_release 25 = .ok (.getfield 10, 3) := by decide +kernel
theorem dX5_release_28 : decode cX5_release 28 = .ok (.getfield 55, 3) := by decide +kernel
theorem dX5_release_31 : decode cX5_release 31 = .ok (.iload_n 3, 1) := by decide +kernel
theorem dX5_release_32 : decode cX5_release 32 = .ok (.baload, 1) := by decide +kernel
theorem dX5_release_33 : decode cX5_release 33 = .ok (.invokestatic 59, 3) := by decide +kernel
theorem dX5_release_36 : decode cX5_release 36 = .ok (.iload_n 2, 1) := by decide +kernel
theorem dX5_release_37 : decode cX5_release 37 = .ok (.iconst 0, 1) := by decide +kernel
theorem dX5_release_38 : decode cX5_release 38 = .ok (.ldc 121, 2) := by decide +kernel
theorem dX5_release_40 : decode cX5_release 40 = .ok (.invokestatic 74, 3) := by decide +kernel
theorem dX5_release_43 : decode cX5_release 43 = .ok (.aload_n 0, 1) := by decide +kernel
theorem dX5_release_44 : decode cX5_release 44 = .ok (.aload_n 0, 1) := by decide +kernel
theorem dX5_release_45 : decode cX5_release 45 = .ok (.getfield 19, 3) := by decide +kernel
theorem dX5_release_48 : decode cX5_release 48 = .ok (.getfield 122, 3) := by decide +kernel
theorem dX5_release_51 : decode cX5_release 51 = .ok (.iload_n 1, 1) := by decide +kernel
theorem dX5_release_52 : decode cX5_release 52 = .ok (.iaload, 1) := by decide +kernel
theorem dX5_release_53 : decode cX5_release 53 = .ok (.iload_n 3, 1) := by decide +kernel
theorem dX5_release_54 : decode cX5_release 54 = .ok (.invokevirtual 82, 3) := by decide +kernel
theorem dX5_release_57 : decode cX5_release 57 = .ok (.aload_n 0, 1) := by decide +kernel
theorem dX5_release_58 : decode cX5_release 58 = .ok (.getfield 19, 3) := by decide +kernel
theorem dX5_release_61 : decode cX5_release 61 = .ok (.getfield 125, 3) := by decide +kernel
theorem dX5_release_64 : decode cX5_release 64 = .ok (.iload_n 1, 1) := by decide +kernel
theorem dX5_release_65 : decode cX5_release 65 = .ok (.iaload, 1) := by decide +kernel
theorem dX5_release_66 : decode cX5_release 66 = .ok (.iload_n 2, 1) := by decide +kernel
theorem dX5_release_67 : decode cX5_release 67 = .ok (.invokestatic 128, 3) := by decide +kernel
theorem dX5_release_70 : decode cX5_release 70 = .ok (.aload_n 0, 1) := by decide +kernel
theorem dX5_release_71 : decode cX5_release 71 = .ok (.getfield 19, 3) := by decide +kernel
theorem dX5_release_74 : decode cX5_release 74 = .ok (.iload_n 1, 1) := by decide +kernel
theorem dX5_release_75 : decode cX5_release 75 = .ok (.iload_n 2, 1) := by decide +kernel
theorem dX5_release_76 : decode cX5_release 76 = .ok (.invokevirtual 131, 3) := by decide +kernel
theorem dX5_release_79 : decode cX5_release 79 = .ok (.aload_n 0, 1) := by decide +kernel
theorem dX5_release_80 : decode cX5_release 80 = .ok (.getfield 10, 3) := by decide +kernel
theorem dX5_release_83 : decode cX5_release 83 = .ok (.aload_n 0, 1) := by decide +kernel
theorem dX5_release_84 : decode cX5_release 84 = .ok (.getfield 19, 3) := by decide +kernel
theorem dX5_release_87 : decode cX5_release 87 = .ok (.getfield 122, 3) := by decide +kernel
theorem dX5_release_90 : decode cX5_release 90 = .ok (.iload_n 1, 1) := by decide +kernel
theorem dX5_release_91 : decode cX5_release 91 = .ok (.iaload, 1) := by decide +kernel
theorem dX5_release_92 : decode cX5_release 92 = .ok (.iload_n 3, 1) := by decide +kernel
theorem dX5_release_93 : decode cX5_release 93 = .ok (.iload_n 2, 1) := by decide +kernel
theorem dX5_release_94 : decode cX5_release 94 = .ok (.invokevirtual 134, 3) := by decide +kernel
theorem dX5_release_97 : decode cX5_release 97 = .ok (.aload_n 0, 1) := by decide +kernel
theorem dX5_release_98 : decode cX5_release 98 = .ok (.iconst 1, 1) := by decide +kernel
theorem dX5_release_99 : decode cX5_release 99 = .ok (.putfield 47, 3) := by decide +kernel
theorem dX5_release_102 : decode cX5_release 102 = .ok (.aload_n 0, 1) := by decide +kernel
theorem dX5_release_103 : decode cX5_release 103 = .ok (.getfield 19, 3) := by decide +kernel
theorem dX5_release_106 : decode cX5_release 106 = .ok (.getfield 125, 3) := by decide +kernel
theorem dX5_release_109 : decode cX5_release 109 = .ok (.iload_n 1, 1) := by decide +kernel
theorem dX5_release_110 : decode cX5_release 110 = .ok (.iaload, 1) := by decide +kernel
theorem dX5_release_111 : decode cX5_release 111 = .ok (.ireturn, 1) := by decide +kernel
theorem dX5_checkEnough_0 : decode cX5_checkEnough 0 = .ok (.iload_n 0, 1) := by decide +kernel
theorem dX5_checkEnough_1 : decode cX5_checkEnough 1 = .ok (.iload_n 1, 1) := by decide +kernel
theorem dX5_checkEnough_2 : decode cX5_checkEnough 2 = .ok (.if_icmp .ge 13, 3) := by decide +kernel
theorem dX5_checkEnough_5 : decode cX5_checkEnough 5 = .ok (.new 233, 3) := by decide +kernel
theorem dX5_checkEnough_8 : decode cX5_checkEnough 8 = .ok (.dup, 1) := by decide +kernel
theorem dX5_checkEnough_9 : decode cX5_checkEnough 9 = .ok (.ldc 238, 2) := by decide +kernel
theorem dX5_checkEnough_11 : decode cX5_checkEnough 11 = .ok (.invokespecial 237, 3) := by decide +kernel
theorem dX5_checkEnough_14 : decode cX5_checkEnough 14 = .ok (.athrow, 1) := by decide +kernel
theorem dX5_checkEnough_15 : decode cX5_checkEnough 15 = .ok (.return_, 1) := by decide +kernel
theorem dX2_letOut_0 : decode cX2_letOut 0 = .ok (.aload_n 0, 1) := by decide +kernel
theorem dX2_letOut_1 : decode cX2_letOut 1 = .ok (.getfield 22, 3) := by decide +kernel
theorem dX2_letOut_4 : decode cX2_letOut 4 = .ok (.iload_n 1, 1) := by decide +kernel
theorem dX2_letOut_5 : decode cX2_letOut 5 = .ok (.dup2, 1) := by decide +kernel
theorem dX2_letOut_6 : decode cX2_letOut 6 = .ok (.iaload, 1) := by decide +kernel
theorem dX2_letOut_7 : decode cX2_letOut 7 = .ok (.iload_n 2, 1) := by decide +kernel
theorem dX2_letOut_8 : decode cX2_letOut 8 = .ok (.isub, 1) := by decide +kernel
theorem dX2_letOut_9 : decode cX2_letOut 9 = .ok (.iastore, 1) := by decide +kernel
theorem dX2_letOut_10 : decode cX2_letOut 10 = .ok (.aload_n 0, 1) := by decide +kernel
theorem dX2_letOut_11 : decode cX2_letOut 11 = .ok (.dup, 1) := by decide +kernel
theorem dX2_letOut_12 : decode cX2_letOut 12 = .ok (.getfield 25, 3) := by decide +kernel
theorem dX2_letOut_15 : decode cX2_letOut 15 = .ok (.iload_n 2, 1) := by decide +kernel
theorem dX2_letOut_16 : decode cX2_letOut 16 = .ok (.i2l, 1) := by decide +kernel
theorem dX2_letOut_17 : decode cX2_letOut 17 = .ok (.ladd, 1) := by decide +kernel
theorem dX2_letOut_18 : decode cX2_letOut 18 = .ok (.putfield 25, 3) := by decide +kernel
theorem dX2_letOut_21 : decode cX2_letOut 21 = .ok (.return_, 1) := by decide +kernel
theorem dX4_send_0 : decode cX4_send 0 = .ok (.iconst 0, 1) := by decide +kernel
theorem dX4_send_1 : decode cX4_send 1 = .ok (.istore 4, 2) := by decide +kernel
theorem dX4_send_3 : decode cX4_send 3 = .ok (.iload_n 1, 1) := by decide +kernel
theorem dX4_send_4 : decode cX4_send 4 = .ok (.istore 5, 2) := by decide +kernel
theorem dX4_send_6 : decode cX4_send 6 = .ok (.iconst 0, 1) := by decide +kernel
theorem dX4_send_7 : decode cX4_send 7 = .ok (.istore 6, 2) := by decide +kernel
theorem dX4_send_9 : decode cX4_send 9 = .ok (.iload 6, 2) := by decide +kernel
theorem dX4_send_11 : decode cX4_send 11 = .ok (.bipush 32, 2) := by decide +kernel
theorem dX4_send_13 : decode cX4_send 13 = .ok (.if_icmp .ge 54, 3) := by decide +kernel
theorem dX4_send_16 : decode cX4_send 16 = .ok (.iload 5, 2) := by decide +kernel
theorem dX4_send_18 : decode cX4_send 18 = .ok (.iconst (-1), 1) := by decide +kernel
theorem dX4_send_19 : decode cX4_send 19 = .ok (.if_icmp .eq 48, 3) := by decide +kernel
theorem dX4_send_22 : decode cX4_send 22 = .ok (.iload 4, 2) := by decide +kernel
theorem dX4_send_24 : decode cX4_send 24 = .ok (.ifCond .ne 43, 3) := by decide +kernel
theorem dX4_send_27 : decode cX4_send 27 = .ok (.aload_n 0, 1) := by decide +kernel
theorem dX4_send_28 : decode cX4_send 28 = .ok (.getfield 22, 3) := by decide +kernel
theorem dX4_send_31 : decode cX4_send 31 = .ok (.iload 5, 2) := by decide +kernel
theorem dX4_send_33 : decode cX4_send 33 = .ok (.dup2, 1) := by decide +kernel
theorem dX4_send_34 : decode cX4_send 34 = .ok (.laload, 1) := by decide +kernel
theorem dX4_send_35 : decode cX4_send 35 = .ok (.iload_n 3, 1) := by decide +kernel
theorem dX4_send_36 : decode cX4_send 36 = .ok (.i2l, 1) := by decide +kernel
theorem dX4_send_37 : decode cX4_send 37 = .ok (.ladd, 1) := by decide +kernel
theorem dX4_send_38 : decode cX4_send 38 = .ok (.lastore, 1) := by decide +kernel
theorem dX4_send_39 : decode cX4_send 39 = .ok (.iload 5, 2) := by decide +kernel
theorem dX4_send_41 : decode cX4_send 41 = .ok (.iload_n 2, 1) := by decide +kernel
theorem dX4_send_42 : decode cX4_send 42 = .ok (.if_icmp .ne 7, 3) := by decide +kernel
theorem dX4_send_45 : decode cX4_send 45 = .ok (.iconst 1, 1) := by decide +kernel
theorem dX4_send_46 : decode cX4_send 46 = .ok (.goto 4, 3) := by decide +kernel
theorem dX4_send_49 : decode cX4_send 49 = .ok (.iconst 0, 1) := by decide +kernel
theorem dX4_send_50 : decode cX4_send 50 = .ok (.istore 4, 2) := by decide +kernel
theorem dX4_send_52 : decode cX4_send 52 = .ok (.aload_n 0, 1) := by decide +kernel
theorem dX4_send_53 : decode cX4_send 53 = .ok (.getfield 15, 3) := by decide +kernel
theorem dX4_send_56 : decode cX4_send 56 = .ok (.iload 5, 2) := by decide +kernel
theorem dX4_send_58 : decode cX4_send 58 = .ok (.iaload, 1) := by decide +kernel
theorem dX4_send_59 : decode cX4_send 59 = .ok (.istore 5, 2) := by decide +kernel
theorem dX4_send_61 : decode cX4_send 61 = .ok (.iinc 6 1, 3) := by decide +kernel
theorem dX4_send_64 : decode cX4_send 64 = .ok (.goto (-55), 3) := by decide +kernel
theorem dX4_send_67 : decode cX4_send 67 = .ok (.return_, 1) := by decide +kernel
theorem dL_given_0 : decode cL_given 0 = .ok (.aload_n 2, 1) := by decide +kernel
theorem dL_given_1 : decode cL_given 1 = .ok (.iconst 0, 1) := by decide +kernel
theorem dL_given_2 : decode cL_given 2 = .ok (.aload_n 0, 1) := by decide +kernel
theorem dL_given_3 : decode cL_given 3 = .ok (.iload_n 1, 1) := by decide +kernel
theorem dL_given_4 : decode cL_given 4 = .ok (.invokevirtual 47, 3) := by decide +kernel
theorem dL_given_7 : decode cL_given 7 = .ok (.i2l, 1) := by decide +kernel
theorem dL_given_8 : decode cL_given 8 = .ok (.lastore, 1) := by decide +kernel
theorem dL_given_9 : decode cL_given 9 = .ok (.goto 9, 3) := by decide +kernel
theorem dL_given_12 : decode cL_given 12 = .ok (.astore_n 3, 1) := by decide +kernel
theorem dL_given_13 : decode cL_given 13 = .ok (.iconst 1, 1) := by decide +kernel
theorem dL_given_14 : decode cL_given 14 = .ok (.ireturn, 1) := by decide +kernel
theorem dL_given_15 : decode cL_given 15 = .ok (.astore_n 3, 1) := by decide +kernel
theorem dL_given_16 : decode cL_given 16 = .ok (.iconst 2, 1) := by decide +kernel
theorem dL_given_17 : decode cL_given 17 = .ok (.ireturn, 1) := by decide +kernel
theorem dL_given_18 : decode cL_given 18 = .ok (.iconst 0, 1) := by decide +kernel
theorem dL_given_19 : decode cL_given 19 = .ok (.ireturn, 1) := by decide +kernel
theorem dX5_given_0 : decode cX5_given 0 = .ok (.aload_n 0, 1) := by decide +kernel
theorem dX5_given_1 : decode cX5_given 1 = .ok (.iload_n 1, 1) := by decide +kernel
theorem dX5_given_2 : decode cX5_given 2 = .ok (.invokevirtual 99, 3) := by decide +kernel
theorem dX5_given_5 : decode cX5_given 5 = .ok (.aload_n 0, 1) := by decide +kernel
theorem dX5_given_6 : decode cX5_given 6 = .ok (.invokevirtual 137, 3) := by decide +kernel
theorem dX5_given_9 : decode cX5_given 9 = .ok (.aload_n 0, 1) := by decide +kernel
theorem dX5_given_10 : decode cX5_given 10 = .ok (.getfield 40, 3) := by decide +kernel
theorem dX5_given_13 : decode cX5_given 13 = .ok (.getfield 149, 3) := by decide +kernel
theorem dX5_given_16 : decode cX5_given 16 = .ok (.iload_n 1, 1) := by decide +kernel
theorem dX5_given_17 : decode cX5_given 17 = .ok (.iaload, 1) := by decide +kernel
theorem dX5_given_18 : decode cX5_given 18 = .ok (.ireturn, 1) := by decide +kernel
theorem dL_flow_0 : decode cL_flow 0 = .ok (.aload_n 3, 1) := by decide +kernel
theorem dL_flow_1 : decode cL_flow 1 = .ok (.iconst 0, 1) := by decide +kernel
theorem dL_flow_2 : decode cL_flow 2 = .ok (.aload_n 0, 1) := by decide +kernel
theorem dL_flow_3 : decode cL_flow 3 = .ok (.iload_n 1, 1) := by decide +kernel
theorem dL_flow_4 : decode cL_flow 4 = .ok (.iload_n 2, 1) := by decide +kernel
theorem dL_flow_5 : decode cL_flow 5 = .ok (.invokevirtual 51, 3) := by decide +kernel
theorem dL_flow_8 : decode cL_flow 8 = .ok (.lastore, 1) := by decide +kernel
theorem dL_flow_9 : decode cL_flow 9 = .ok (.goto 11, 3) := by decide +kernel
theorem dL_flow_12 : decode cL_flow 12 = .ok (.astore 4, 2) := by decide +kernel
theorem dL_flow_14 : decode cL_flow 14 = .ok (.iconst 1, 1) := by decide +kernel
theorem dL_flow_15 : decode cL_flow 15 = .ok (.ireturn, 1) := by decide +kernel
theorem dL_flow_16 : decode cL_flow 16 = .ok (.astore 4, 2) := by decide +kernel
theorem dL_flow_18 : decode cL_flow 18 = .ok (.iconst 2, 1) := by decide +kernel
theorem dL_flow_19 : decode cL_flow 19 = .ok (.ireturn, 1) := by decide +kernel
theorem dL_flow_20 : decode cL_flow 20 = .ok (.iconst 0, 1) := by decide +kernel
theorem dL_flow_21 : decode cL_flow 21 = .ok (.ireturn, 1) := by decide +kernel
theorem dX5_flow_0 : decode cX5_flow 0 = .ok (.aload_n 0, 1) := by decide +kernel
theorem dX5_flow_1 : decode cX5_flow 1 = .ok (.iload_n 1, 1) := by decide +kernel
theorem dX5_flow_2 : decode cX5_flow 2 = .ok (.invokevirtual 113, 3) := by decide +kernel
theorem dX5_flow_5 : decode cX5_flow 5 = .ok (.iload_n 2, 1) := by decide +kernel
theorem dX5_flow_6 : decode cX5_flow 6 = .ok (.ifCond .ne 17, 3) := by decide +kernel
theorem dX5_flow_9 : decode cX5_flow 9 = .ok (.aload_n 0, 1) := by decide +kernel
theorem dX5_flow_10 : decode cX5_flow 10 = .ok (.invokevirtual 137, 3) := by decide +kernel
theorem dX5_flow_13 : decode cX5_flow 13 = .ok (.aload_n 0, 1) := by decide +kernel
theorem dX5_flow_14 : decode cX5_flow 14 = .ok (.getfield 40, 3) := by decide +kernel
theorem dX5_flow_17 : decode cX5_flow 17 = .ok (.getfield 152, 3) := by decide +kernel
theorem dX5_flow_20 : decode cX5_flow 20 = .ok (.iload_n 1, 1) := by decide +kernel
theorem dX5_flow_21 : decode cX5_flow 21 = .ok (.laload, 1) := by decide +kernel
theorem dX5_flow_22 : decode cX5_flow 22 = .ok (.lreturn, 1) := by decide +kernel
theorem dX5_flow_23 : decode cX5_flow 23 = .ok (.iload_n 2, 1) := by decide +kernel
theorem dX5_flow_24 : decode cX5_flow 24 = .ok (.iconst 1, 1) := by decide +kernel
theorem dX5_flow_25 : decode cX5_flow 25 = .ok (.if_icmp .ne 15, 3) := by decide +kernel
theorem dX5_flow_28 : decode cX5_flow 28 = .ok (.aload_n 0, 1) := by decide +kernel
theorem dX5_flow_29 : decode cX5_flow 29 = .ok (.getfield 10, 3) := by decide +kernel
theorem dX5_flow_32 : decode cX5_flow 32 = .ok (.getfield 156, 3) := by decide +kernel
theorem dX5_flow_35 : decode cX5_flow 35 = .ok (.iload_n 1, 1) := by decide +kernel
theorem dX5_flow_36 : decode cX5_flow 36 = .ok (.laload, 1) := by decide +kernel
theorem dX5_flow_37 : decode cX5_flow 37 = .ok (.goto 6, 3) := by decide +kernel
theorem dX5_flow_40 : decode cX5_flow 40 = .ok (.ldc2_w 159, 3) := by decide +kernel
theorem dX5_flow_43 : decode cX5_flow 43 = .ok (.lreturn, 1) := by decide +kernel
theorem dL_call_0 : decode cL_call 0 = .ok (.aload_n 2, 1) := by decide +kernel
theorem dL_call_1 : decode cL_call 1 = .ok (.iconst 0, 1) := by decide +kernel
theorem dL_call_2 : decode cL_call 2 = .ok (.aload_n 0, 1) := by decide +kernel
theorem dL_call_3 : decode cL_call 3 = .ok (.iload_n 1, 1) := by decide +kernel
theorem dL_call_4 : decode cL_call 4 = .ok (.invokevirtual 55, 3) := by decide +kernel
theorem dL_call_7 : decode cL_call 7 = .ok (.i2l, 1) := by decide +kernel
theorem dL_call_8 : decode cL_call 8 = .ok (.lastore, 1) := by decide +kernel
theorem dL_call_9 : decode cL_call 9 = .ok (.goto 9, 3) := by decide +kernel
theorem dL_call_12 : decode cL_call 12 = .ok (.astore_n 3, 1) := by decide +kernel
theorem dL_call_13 : decode cL_call 13 = .ok (.iconst 1, 1) := by decide +kernel
theorem dL_call_14 : decode cL_call 14 = .ok (.ireturn, 1) := by decide +kernel
theorem dL_call_15 : decode cL_call 15 = .ok (.astore_n 3, 1) := by decide +kernel
theorem dL_call_16 : decode cL_call 16 = .ok (.iconst 2, 1) := by decide +kernel
theorem dL_call_17 : decode cL_call 17 = .ok (.ireturn, 1) := by decide +kernel
theorem dL_call_18 : decode cL_call 18 = .ok (.iconst 0, 1) := by decide +kernel
theorem dL_call_19 : decode cL_call 19 = .ok (.ireturn, 1) := by decide +kernel
theorem dX5_call_0 : decode cX5_call 0 = .ok (.aload_n 0, 1) := by decide +kernel
theorem dX5_call_1 : decode cX5_call 1 = .ok (.iload_n 1, 1) := by decide +kernel
theorem dX5_call_2 : decode cX5_call 2 = .ok (.invokevirtual 99, 3) := by decide +kernel
theorem dX5_call_5 : decode cX5_call 5 = .ok (.aload_n 0, 1) := by decide +kernel
theorem dX5_call_6 : decode cX5_call 6 = .ok (.invokevirtual 137, 3) := by decide +kernel
theorem dX5_call_9 : decode cX5_call 9 = .ok (.aload_n 0, 1) := by decide +kernel
theorem dX5_call_10 : decode cX5_call 10 = .ok (.iload_n 1, 1) := by decide +kernel
theorem dX5_call_11 : decode cX5_call 11 = .ok (.invokevirtual 146, 3) := by decide +kernel
theorem dX5_call_14 : decode cX5_call 14 = .ok (.ifCond .ne 5, 3) := by decide +kernel
theorem dX5_call_17 : decode cX5_call 17 = .ok (.iconst (-1), 1) := by decide +kernel
theorem dX5_call_18 : decode cX5_call 18 = .ok (.ireturn, 1) := by decide +kernel
theorem dX5_call_19 : decode cX5_call 19 = .ok (.aload_n 0, 1) := by decide +kernel
theorem dX5_call_20 : decode cX5_call 20 = .ok (.getfield 40, 3) := by decide +kernel
theorem dX5_call_23 : decode cX5_call 23 = .ok (.getfield 149, 3) := by decide +kernel
theorem dX5_call_26 : decode cX5_call 26 = .ok (.iload_n 1, 1) := by decide +kernel
theorem dX5_call_27 : decode cX5_call 27 = .ok (.iaload, 1) := by decide +kernel
theorem dX5_call_28 : decode cX5_call 28 = .ok (.iconst 1, 1) := by decide +kernel
theorem dX5_call_29 : decode cX5_call 29 = .ok (.iadd, 1) := by decide +kernel
theorem dX5_call_30 : decode cX5_call 30 = .ok (.istore_n 2, 1) := by decide +kernel
theorem dX5_call_31 : decode cX5_call 31 = .ok (.aload_n 0, 1) := by decide +kernel
theorem dX5_call_32 : decode cX5_call 32 = .ok (.getfield 44, 3) := by decide +kernel
theorem dX5_call_35 : decode cX5_call 35 = .ok (.aload_n 0, 1) := by decide +kernel
theorem dX5_call_36 : decode cX5_call 36 = .ok (.getfield 10, 3) := by decide +kernel
theorem dX5_call_39 : decode cX5_call 39 = .ok (.aload_n 0, 1) := by decide +kernel
theorem dX5_call_40 : decode cX5_call 40 = .ok (.getfield 19, 3) := by decide +kernel
theorem dX5_call_43 : decode cX5_call 43 = .ok (.invokevirtual 161, 3) := by decide +kernel
theorem dX5_call_46 : decode cX5_call 46 = .ok (.aload_n 0, 1) := by decide +kernel
theorem dX5_call_47 : decode cX5_call 47 = .ok (.getfield 44, 3) := by decide +kernel
theorem dX5_call_50 : decode cX5_call 50 = .ok (.aload_n 0, 1) := by decide +kernel
theorem dX5_call_51 : decode cX5_call 51 = .ok (.getfield 10, 3) := by decide +kernel
theorem dX5_call_54 : decode cX5_call 54 = .ok (.aload_n 0, 1) := by decide +kernel
theorem dX5_call_55 : decode cX5_call 55 = .ok (.getfield 26, 3) := by decide +kernel
theorem dX5_call_58 : decode cX5_call 58 = .ok (.iload_n 1, 1) := by decide +kernel
theorem dX5_call_59 : decode cX5_call 59 = .ok (.invokevirtual 165, 3) := by decide +kernel
theorem dX5_call_62 : decode cX5_call 62 = .ok (.iload_n 2, 1) := by decide +kernel
theorem dX5_call_63 : decode cX5_call 63 = .ok (.if_icmp .ge 5, 3) := by decide +kernel
theorem dX5_call_66 : decode cX5_call 66 = .ok (.iconst (-1), 1) := by decide +kernel
end
section
theorem dX5_call_67 : decode cX5_call 67 = .ok (.ireturn, 1) := by decide +kernel
theorem dX5_call_68 : decode cX5_call 68 = .ok (.aload_n 0, 1) := by decide +kernel
theorem dX5_call_69 : decode cX5_call 69 = .ok (.getfield 44, 3) := by decide +kernel
theorem dX5_call_72 : decode cX5_call 72 = .ok (.aload_n 0, 1) := by decide +kernel
theorem dX5_call_73 : decode cX5_call 73 = .ok (.getfield 10, 3) := by decide +kernel
theorem dX5_call_76 : decode cX5_call 76 = .ok (.aload_n 0, 1) := by decide +kernel
theorem dX5_call_77 : decode cX5_call 77 = .ok (.getfield 26, 3) := by decide +kernel
theorem dX5_call_80 : decode cX5_call 80 = .ok (.iload_n 1, 1) := by decide +kernel
theorem dX5_call_81 : decode cX5_call 81 = .ok (.iload_n 2, 1) := by decide +kernel
theorem dX5_call_82 : decode cX5_call 82 = .ok (.invokevirtual 169, 3) := by decide +kernel
theorem dX5_call_85 : decode cX5_call 85 = .ok (.aload_n 0, 1) := by decide +kernel
theorem dX5_call_86 : decode cX5_call 86 = .ok (.getfield 44, 3) := by decide +kernel
theorem dX5_call_89 : decode cX5_call 89 = .ok (.aload_n 0, 1) := by decide +kernel
theorem dX5_call_90 : decode cX5_call 90 = .ok (.getfield 10, 3) := by decide +kernel
theorem dX5_call_93 : decode cX5_call 93 = .ok (.aload_n 0, 1) := by decide +kernel
theorem dX5_call_94 : decode cX5_call 94 = .ok (.getfield 26, 3) := by decide +kernel
theorem dX5_call_97 : decode cX5_call 97 = .ok (.iload_n 1, 1) := by decide +kernel
theorem dX5_call_98 : decode cX5_call 98 = .ok (.invokevirtual 173, 3) := by decide +kernel
theorem dX5_call_101 : decode cX5_call 101 = .ok (.aload_n 0, 1) := by decide +kernel
theorem dX5_call_102 : decode cX5_call 102 = .ok (.invokevirtual 177, 3) := by decide +kernel
theorem dX5_call_105 : decode cX5_call 105 = .ok (.ireturn, 1) := by decide +kernel
theorem dX5_oldestThatWouldGetLess_0 : decode cX5_oldestThatWouldGetLess 0 = .ok (.iconst 0, 1) := by decide +kernel
theorem dX5_oldestThatWouldGetLess_1 : decode cX5_oldestThatWouldGetLess 1 = .ok (.istore_n 1, 1) := by decide +kernel
theorem dX5_oldestThatWouldGetLess_2 : decode cX5_oldestThatWouldGetLess 2 = .ok (.iload_n 1, 1) := by decide +kernel
theorem dX5_oldestThatWouldGetLess_3 : decode cX5_oldestThatWouldGetLess 3 = .ok (.aload_n 0, 1) := by decide +kernel
theorem dX5_oldestThatWouldGetLess_4 : decode cX5_oldestThatWouldGetLess 4 = .ok (.getfield 26, 3) := by decide +kernel
theorem dX5_oldestThatWouldGetLess_7 : decode cX5_oldestThatWouldGetLess 7 = .ok (.getfield 140, 3) := by decide +kernel
theorem dX5_oldestThatWouldGetLess_10 : decode cX5_oldestThatWouldGetLess 10 = .ok (.if_icmp .ge 42, 3) := by decide +kernel
theorem dX5_oldestThatWouldGetLess_13 : decode cX5_oldestThatWouldGetLess 13 = .ok (.aload_n 0, 1) := by decide +kernel
theorem dX5_oldestThatWouldGetLess_14 : decode cX5_oldestThatWouldGetLess 14 = .ok (.getfield 26, 3) := by decide +kernel
theorem dX5_oldestThatWouldGetLess_17 : decode cX5_oldestThatWouldGetLess 17 = .ok (.getfield 143, 3) := by decide +kernel
theorem dX5_oldestThatWouldGetLess_20 : decode cX5_oldestThatWouldGetLess 20 = .ok (.iload_n 1, 1) := by decide +kernel
theorem dX5_oldestThatWouldGetLess_21 : decode cX5_oldestThatWouldGetLess 21 = .ok (.iaload, 1) := by decide +kernel
theorem dX5_oldestThatWouldGetLess_22 : decode cX5_oldestThatWouldGetLess 22 = .ok (.istore_n 2, 1) := by decide +kernel
theorem dX5_oldestThatWouldGetLess_23 : decode cX5_oldestThatWouldGetLess 23 = .ok (.aload_n 0, 1) := by decide +kernel
theorem dX5_oldestThatWouldGetLess_24 : decode cX5_oldestThatWouldGetLess 24 = .ok (.getfield 44, 3) := by decide +kernel
theorem dX5_oldestThatWouldGetLess_27 : decode cX5_oldestThatWouldGetLess 27 = .ok (.getfield 149, 3) := by decide +kernel
theorem dX5_oldestThatWouldGetLess_30 : decode cX5_oldestThatWouldGetLess 30 = .ok (.iload_n 2, 1) := by decide +kernel
theorem dX5_oldestThatWouldGetLess_31 : decode cX5_oldestThatWouldGetLess 31 = .ok (.iaload, 1) := by decide +kernel
theorem dX5_oldestThatWouldGetLess_32 : decode cX5_oldestThatWouldGetLess 32 = .ok (.aload_n 0, 1) := by decide +kernel
theorem dX5_oldestThatWouldGetLess_33 : decode cX5_oldestThatWouldGetLess 33 = .ok (.getfield 40, 3) := by decide +kernel
theorem dX5_oldestThatWouldGetLess_36 : decode cX5_oldestThatWouldGetLess 36 = .ok (.getfield 149, 3) := by decide +kernel
theorem dX5_oldestThatWouldGetLess_39 : decode cX5_oldestThatWouldGetLess 39 = .ok (.iload_n 2, 1) := by decide +kernel
theorem dX5_oldestThatWouldGetLess_40 : decode cX5_oldestThatWouldGetLess 40 = .ok (.iaload, 1) := by decide +kernel
theorem dX5_oldestThatWouldGetLess_41 : decode cX5_oldestThatWouldGetLess 41 = .ok (.if_icmp .ge 5, 3) := by decide +kernel
theorem dX5_oldestThatWouldGetLess_44 : decode cX5_oldestThatWouldGetLess 44 = .ok (.iload_n 2, 1) := by decide +kernel
theorem dX5_oldestThatWouldGetLess_45 : decode cX5_oldestThatWouldGetLess 45 = .ok (.ireturn, 1) := by decide +kernel
theorem dX5_oldestThatWouldGetLess_46 : decode cX5_oldestThatWouldGetLess 46 = .ok (.iinc 1 1, 3) := by decide +kernel
theorem dX5_oldestThatWouldGetLess_49 : decode cX5_oldestThatWouldGetLess 49 = .ok (.goto (-47), 3) := by decide +kernel
theorem dX5_oldestThatWouldGetLess_52 : decode cX5_oldestThatWouldGetLess 52 = .ok (.iconst (-1), 1) := by decide +kernel
theorem dX5_oldestThatWouldGetLess_53 : decode cX5_oldestThatWouldGetLess 53 = .ok (.ireturn, 1) := by decide +kernel
theorem dL_futile_0 : decode cL_futile 0 = .ok (.aload_n 3, 1) := by decide +kernel
theorem dL_futile_1 : decode cL_futile 1 = .ok (.iconst 0, 1) := by decide +kernel
theorem dL_futile_2 : decode cL_futile 2 = .ok (.aload_n 0, 1) := by decide +kernel
theorem dL_futile_3 : decode cL_futile 3 = .ok (.iload_n 1, 1) := by decide +kernel
theorem dL_futile_4 : decode cL_futile 4 = .ok (.iload_n 2, 1) := by decide +kernel
theorem dL_futile_5 : decode cL_futile 5 = .ok (.invokevirtual 58, 3) := by decide +kernel
theorem dL_futile_8 : decode cL_futile 8 = .ok (.ifCond .eq 7, 3) := by decide +kernel
theorem dL_futile_11 : decode cL_futile 11 = .ok (.lconst 1, 1) := by decide +kernel
theorem dL_futile_12 : decode cL_futile 12 = .ok (.goto 4, 3) := by decide +kernel
theorem dL_futile_15 : decode cL_futile 15 = .ok (.lconst 0, 1) := by decide +kernel
theorem dL_futile_16 : decode cL_futile 16 = .ok (.lastore, 1) := by decide +kernel
theorem dL_futile_17 : decode cL_futile 17 = .ok (.goto 11, 3) := by decide +kernel
theorem dL_futile_20 : decode cL_futile 20 = .ok (.astore 4, 2) := by decide +kernel
theorem dL_futile_22 : decode cL_futile 22 = .ok (.iconst 1, 1) := by decide +kernel
theorem dL_futile_23 : decode cL_futile 23 = .ok (.ireturn, 1) := by decide +kernel
theorem dL_futile_24 : decode cL_futile 24 = .ok (.astore 4, 2) := by decide +kernel
theorem dL_futile_26 : decode cL_futile 26 = .ok (.iconst 2, 1) := by decide +kernel
theorem dL_futile_27 : decode cL_futile 27 = .ok (.ireturn, 1) := by decide +kernel
theorem dL_futile_28 : decode cL_futile 28 = .ok (.iconst 0, 1) := by decide +kernel
theorem dL_futile_29 : decode cL_futile 29 = .ok (.ireturn, 1) := by decide +kernel
theorem dX5_futile_0 : decode cX5_futile 0 = .ok (.iload_n 1, 1) := by decide +kernel
theorem dX5_futile_1 : decode cX5_futile 1 = .ok (.bipush 40, 2) := by decide +kernel
theorem dX5_futile_3 : decode cX5_futile 3 = .ok (.invokestatic 51, 3) := by decide +kernel
theorem dX5_futile_6 : decode cX5_futile 6 = .ok (.iload_n 2, 1) := by decide +kernel
theorem dX5_futile_7 : decode cX5_futile 7 = .ok (.bipush 40, 2) := by decide +kernel
theorem dX5_futile_9 : decode cX5_futile 9 = .ok (.invokestatic 51, 3) := by decide +kernel
theorem dX5_futile_12 : decode cX5_futile 12 = .ok (.aload_n 0, 1) := by decide +kernel
theorem dX5_futile_13 : decode cX5_futile 13 = .ok (.getfield 26, 3) := by decide +kernel
theorem dX5_futile_16 : decode cX5_futile 16 = .ok (.getfield 85, 3) := by decide +kernel
theorem dX5_futile_19 : decode cX5_futile 19 = .ok (.iload_n 1, 1) := by decide +kernel
theorem dX5_futile_20 : decode cX5_futile 20 = .ok (.baload, 1) := by decide +kernel
theorem dX5_futile_21 : decode cX5_futile 21 = .ok (.invokestatic 59, 3) := by decide +kernel
theorem dX5_futile_24 : decode cX5_futile 24 = .ok (.aload_n 0, 1) := by decide +kernel
theorem dX5_futile_25 : decode cX5_futile 25 = .ok (.getfield 26, 3) := by decide +kernel
theorem dX5_futile_28 : decode cX5_futile 28 = .ok (.getfield 85, 3) := by decide +kernel
theorem dX5_futile_31 : decode cX5_futile 31 = .ok (.iload_n 2, 1) := by decide +kernel
theorem dX5_futile_32 : decode cX5_futile 32 = .ok (.baload, 1) := by decide +kernel
theorem dX5_futile_33 : decode cX5_futile 33 = .ok (.invokestatic 59, 3) := by decide +kernel
theorem dX5_futile_36 : decode cX5_futile 36 = .ok (.aload_n 0, 1) := by decide +kernel
theorem dX5_futile_37 : decode cX5_futile 37 = .ok (.invokevirtual 137, 3) := by decide +kernel
theorem dX5_futile_40 : decode cX5_futile 40 = .ok (.aload_n 0, 1) := by decide +kernel
theorem dX5_futile_41 : decode cX5_futile 41 = .ok (.getfield 44, 3) := by decide +kernel
theorem dX5_futile_44 : decode cX5_futile 44 = .ok (.aload_n 0, 1) := by decide +kernel
theorem dX5_futile_45 : decode cX5_futile 45 = .ok (.getfield 10, 3) := by decide +kernel
theorem dX5_futile_48 : decode cX5_futile 48 = .ok (.aload_n 0, 1) := by decide +kernel
theorem dX5_futile_49 : decode cX5_futile 49 = .ok (.getfield 19, 3) := by decide +kernel
theorem dX5_futile_52 : decode cX5_futile 52 = .ok (.invokevirtual 161, 3) := by decide +kernel
theorem dX5_futile_55 : decode cX5_futile 55 = .ok (.aload_n 0, 1) := by decide +kernel
theorem dX5_futile_56 : decode cX5_futile 56 = .ok (.getfield 44, 3) := by decide +kernel
theorem dX5_futile_59 : decode cX5_futile 59 = .ok (.aload_n 0, 1) := by decide +kernel
theorem dX5_futile_60 : decode cX5_futile 60 = .ok (.getfield 10, 3) := by decide +kernel
theorem dX5_futile_63 : decode cX5_futile 63 = .ok (.aload_n 0, 1) := by decide +kernel
theorem dX5_futile_64 : decode cX5_futile 64 = .ok (.getfield 26, 3) := by decide +kernel
theorem dX5_futile_67 : decode cX5_futile 67 = .ok (.iload_n 1, 1) := by decide +kernel
theorem dX5_futile_68 : decode cX5_futile 68 = .ok (.invokevirtual 173, 3) := by decide +kernel
theorem dX5_futile_71 : decode cX5_futile 71 = .ok (.aload_n 0, 1) := by decide +kernel
theorem dX5_futile_72 : decode cX5_futile 72 = .ok (.getfield 44, 3) := by decide +kernel
theorem dX5_futile_75 : decode cX5_futile 75 = .ok (.getfield 149, 3) := by decide +kernel
theorem dX5_futile_78 : decode cX5_futile 78 = .ok (.iload_n 2, 1) := by decide +kernel
theorem dX5_futile_79 : decode cX5_futile 79 = .ok (.iaload, 1) := by decide +kernel
theorem dX5_futile_80 : decode cX5_futile 80 = .ok (.aload_n 0, 1) := by decide +kernel
theorem dX5_futile_81 : decode cX5_futile 81 = .ok (.getfield 40, 3) := by decide +kernel
theorem dX5_futile_84 : decode cX5_futile 84 = .ok (.getfield 149, 3) := by decide +kernel
theorem dX5_futile_87 : decode cX5_futile 87 = .ok (.iload_n 2, 1) := by decide +kernel
theorem dX5_futile_88 : decode cX5_futile 88 = .ok (.iaload, 1) := by decide +kernel
theorem dX5_futile_89 : decode cX5_futile 89 = .ok (.if_icmp .ne 7, 3) := by decide +kernel
theorem dX5_futile_92 : decode cX5_futile 92 = .ok (.iconst 1, 1) := by decide +kernel
theorem dX5_futile_93 : decode cX5_futile 93 = .ok (.goto 4, 3) := by decide +kernel
theorem dX5_futile_96 : decode cX5_futile 96 = .ok (.iconst 0, 1) := by decide +kernel
theorem dX5_futile_97 : decode cX5_futile 97 = .ok (.ireturn, 1) := by decide +kernel
theorem dX6_init_0 : decode cX6_init 0 = .ok (.aload_n 0, 1) := by decide +kernel
theorem dX6_init_1 : decode cX6_init 1 = .ok (.invokespecial 1, 3) := by decide +kernel
theorem dX6_init_4 : decode cX6_init 4 = .ok (.aload_n 0, 1) := by decide +kernel
theorem dX6_init_5 : decode cX6_init 5 = .ok (.bipush 32, 2) := by decide +kernel
theorem dX6_init_7 : decode cX6_init 7 = .ok (.newarray .boolean, 2) := by decide +kernel
theorem dX6_init_9 : decode cX6_init 9 = .ok (.putfield 7, 3) := by decide +kernel
theorem dX6_init_12 : decode cX6_init 12 = .ok (.aload_n 0, 1) := by decide +kernel
theorem dX6_init_13 : decode cX6_init 13 = .ok (.bipush 32, 2) := by decide +kernel
theorem dX6_init_15 : decode cX6_init 15 = .ok (.newarray .int, 2) := by decide +kernel
theorem dX6_init_17 : decode cX6_init 17 = .ok (.putfield 13, 3) := by decide +kernel
theorem dX6_init_20 : decode cX6_init 20 = .ok (.aload_n 0, 1) := by decide +kernel
theorem dX6_init_21 : decode cX6_init 21 = .ok (.bipush 32, 2) := by decide +kernel
theorem dX6_init_23 : decode cX6_init 23 = .ok (.newarray .int, 2) := by decide +kernel
theorem dX6_init_25 : decode cX6_init 25 = .ok (.putfield 17, 3) := by decide +kernel
theorem dX6_init_28 : decode cX6_init 28 = .ok (.aload_n 0, 1) := by decide +kernel
theorem dX6_init_29 : decode cX6_init 29 = .ok (.bipush 8, 2) := by decide +kernel
theorem dX6_init_31 : decode cX6_init 31 = .ok (.newarray .boolean, 2) := by decide +kernel
theorem dX6_init_33 : decode cX6_init 33 = .ok (.putfield 20, 3) := by decide +kernel
theorem dX6_init_36 : decode cX6_init 36 = .ok (.aload_n 0, 1) := by decide +kernel
theorem dX6_init_37 : decode cX6_init 37 = .ok (.bipush 8, 2) := by decide +kernel
theorem dX6_init_39 : decode cX6_init 39 = .ok (.newarray .int, 2) := by decide +kernel
theorem dX6_init_41 : decode cX6_init 41 = .ok (.putfield 23, 3) := by decide +kernel
theorem dX6_init_44 : decode cX6_init 44 = .ok (.aload_n 0, 1) := by decide +kernel
theorem dX6_init_45 : decode cX6_init 45 = .ok (.bipush 8, 2) := by decide +kernel
theorem dX6_init_47 : decode cX6_init 47 = .ok (.newarray .int, 2) := by decide +kernel
theorem dX6_init_49 : decode cX6_init 49 = .ok (.putfield 26, 3) := by decide +kernel
theorem dX6_init_52 : decode cX6_init 52 = .ok (.aload_n 0, 1) := by decide +kernel
theorem dX6_init_53 : decode cX6_init 53 = .ok (.bipush 8, 2) := by decide +kernel
theorem dX6_init_55 : decode cX6_init 55 = .ok (.newarray .int, 2) := by decide +kernel
theorem dX6_init_57 : decode cX6_init 57 = .ok (.putfield 29, 3) := by decide +kernel
theorem dX6_init_60 : decode cX6_init 60 = .ok (.aload_n 0, 1) := by decide +kernel
theorem dX6_init_61 : decode cX6_init 61 = .ok (.sipush 256, 3) := by decide +kernel
theorem dX6_init_64 : decode cX6_init 64 = .ok (.newarray .long, 2) := by decide +kernel
theorem dX6_init_66 : decode cX6_init 66 = .ok (.putfield 32, 3) := by decide +kernel
theorem dX6_init_69 : decode cX6_init 69 = .ok (.aload_n 0, 1) := by decide +kernel
theorem dX6_init_70 : decode cX6_init 70 = .ok (.bipush 40, 2) := by decide +kernel
theorem dX6_init_72 : decode cX6_init 72 = .ok (.newarray .boolean, 2) := by decide +kernel
theorem dX6_init_74 : decode cX6_init 74 = .ok (.putfield 36, 3) := by decide +kernel
theorem dX6_init_77 : decode cX6_init 77 = .ok (.aload_n 0, 1) := by decide +kernel
theorem dX6_init_78 : decode cX6_init 78 = .ok (.bipush 40, 2) := by decide +kernel
theorem dX6_init_80 : decode cX6_init 80 = .ok (.newarray .int, 2) := by decide +kernel
theorem dX6_init_82 : decode cX6_init 82 = .ok (.putfield 39, 3) := by decide +kernel
theorem dX6_init_85 : decode cX6_init 85 = .ok (.aload_n 0, 1) := by decide +kernel
theorem dX6_init_86 : decode cX6_init 86 = .ok (.bipush 40, 2) := by decide +kernel
theorem dX6_init_88 : decode cX6_init 88 = .ok (.newarray .int, 2) := by decide +kernel
theorem dX6_init_90 : decode cX6_init 90 = .ok (.putfield 42, 3) := by decide +kernel
theorem dX6_init_93 : decode cX6_init 93 = .ok (.aload_n 0, 1) := by decide +kernel
theorem dX6_init_94 : decode cX6_init 94 = .ok (.bipush 40, 2) := by decide +kernel
theorem dX6_init_96 : decode cX6_init 96 = .ok (.newarray .int, 2) := by decide +kernel
theorem dX6_init_98 : decode cX6_init 98 = .ok (.putfield 45, 3) := by decide +kernel
theorem dX6_init_101 : decode cX6_init 101 = .ok (.aload_n 0, 1) := by decide +kernel
theorem dX6_init_102 : decode cX6_init 102 = .ok (.bipush 40, 2) := by decide +kernel
theorem dX6_init_104 : decode cX6_init 104 = .ok (.newarray .int, 2) := by decide +kernel
theorem dX6_init_106 : decode cX6_init 106 = .ok (.putfield 48, 3) := by decide +kernel
theorem dX6_init_109 : decode cX6_init 109 = .ok (.aload_n 0, 1) := by decide +kernel
theorem dX6_init_110 : decode cX6_init 110 = .ok (.bipush 40, 2) := by decide +kernel
theorem dX6_init_112 : decode cX6_init 112 = .ok (.newarray .int, 2) := by decide +kernel
theorem dX6_init_114 : decode cX6_init 114 = .ok (.putfield 51, 3) := by decide +kernel
theorem dX6_init_117 : decode cX6_init 117 = .ok (.aload_n 0, 1) := by decide +kernel
theorem dX6_init_118 : decode cX6_init 118 = .ok (.bipush 40, 2) := by decide +kernel
theorem dX6_init_120 : decode cX6_init 120 = .ok (.newarray .int, 2) := by decide +kernel
theorem dX6_init_122 : decode cX6_init 122 = .ok (.putfield 54, 3) := by decide +kernel
theorem dX6_init_125 : decode cX6_init 125 = .ok (.aload_n 0, 1) := by decide +kernel
theorem dX6_init_126 : decode cX6_init 126 = .ok (.bipush 40, 2) := by decide +kernel
theorem dX6_init_128 : decode cX6_init 128 = .ok (.newarray .int, 2) := by decide +kernel
theorem dX6_init_130 : decode cX6_init 130 = .ok (.putfield 57, 3) := by decide +kernel
theorem dX6_init_133 : decode cX6_init 133 = .ok (.aload_n 0, 1) := by decide +kernel
theorem dX6_init_134 : decode cX6_init 134 = .ok (.sipush 300, 3) := by decide +kernel
theorem dX6_init_137 : decode cX6_init 137 = .ok (.newarray .long, 2) := by decide +kernel
theorem dX6_init_139 : decode cX6_init 139 = .ok (.putfield 60, 3) := by decide +kernel
theorem dX6_init_142 : decode cX6_init 142 = .ok (.aload_n 0, 1) := by decide +kernel
theorem dX6_init_143 : decode cX6_init 143 = .ok (.bipush 40, 2) := by decide +kernel
theorem dX6_init_145 : decode cX6_init 145 = .ok (.newarray .int, 2) := by decide +kernel
theorem dX6_init_147 : decode cX6_init 147 = .ok (.putfield 63, 3) := by decide +kernel
theorem dX6_init_150 : decode cX6_init 150 = .ok (.aload_n 0, 1) := by decide +kernel
theorem dX6_init_151 : decode cX6_init 151 = .ok (.bipush 40, 2) := by decide +kernel
theorem dX6_init_153 : decode cX6_init 153 = .ok (.newarray .int, 2) := by decide +kernel
theorem dX6_init_155 : decode cX6_init 155 = .ok (.putfield 66, 3) := by decide +kernel
theorem dX6_init_158 : decode cX6_init 158 = .ok (.aload_n 0, 1) := by decide +kernel
theorem dX6_init_159 : decode cX6_init 159 = .ok (.bipush 40, 2) := by decide +kernel
theorem dX6_init_161 : decode cX6_init 161 = .ok (.newarray .int, 2) := by decide +kernel
theorem dX6_init_163 : decode cX6_init 163 = .ok (.putfield 69, 3) := by decide +kernel
theorem dX6_init_166 : decode cX6_init 166 = .ok (.return_, 1) := by decide +kernel
theorem dX6_thrown_0 : decode cX6_thrown 0 = .ok (.aload_n 0, 1) := by decide +kernel
theorem dX6_thrown_1 : decode cX6_thrown 1 = .ok (.getfield 72, 3) := by decide +kernel
theorem dX6_thrown_4 : decode cX6_thrown 4 = .ok (.ireturn, 1) := by decide +kernel
theorem dX6_reach_0 : decode cX6_reach 0 = .ok (.aload_n 0, 1) := by decide +kernel
theorem dX6_reach_1 : decode cX6_reach 1 = .ok (.iload_n 1, 1) := by decide +kernel
theorem dX6_reach_2 : decode cX6_reach 2 = .ok (.bipush 32, 2) := by decide +kernel
theorem dX6_reach_4 : decode cX6_reach 4 = .ok (.invokestatic 76, 3) := by decide +kernel
theorem dX6_reach_7 : decode cX6_reach 7 = .ok (.ifCond .eq 14, 3) := by decide +kernel
theorem dX6_reach_10 : decode cX6_reach 10 = .ok (.iload_n 2, 1) := by decide +kernel
theorem dX6_reach_11 : decode cX6_reach 11 = .ok (.iconst (-1), 1) := by decide +kernel
theorem dX6_reach_12 : decode cX6_reach 12 = .ok (.if_icmp .lt 9, 3) := by decide +kernel
theorem dX6_reach_15 : decode cX6_reach 15 = .ok (.iload_n 2, 1) := by decide +kernel
theorem dX6_reach_16 : decode cX6_reach 16 = .ok (.bipush 31, 2) := by decide +kernel
theorem dX6_reach_18 : decode cX6_reach 18 = .ok (.if_icmp .le 7, 3) := by decide +kernel
theorem dX6_reach_21 : decode cX6_reach 21 = .ok (.iconst 1, 1) := by decide +kernel
theorem dX6_reach_22 : decode cX6_reach 22 = .ok (.goto 4, 3) := by decide +kernel
theorem dX6_reach_25 : decode cX6_reach 25 = .ok (.iconst 0, 1) := by decide +kernel
theorem dX6_reach_26 : decode cX6_reach 26 = .ok (.putfield 72, 3) := by decide +kernel
theorem dX6_reach_29 : decode cX6_reach 29 = .ok (.aload_n 0, 1) := by decide +kernel
theorem dX6_reach_30 : decode cX6_reach 30 = .ok (.getfield 72, 3) := by decide +kernel
theorem dX6_reach_33 : decode cX6_reach 33 = .ok (.ifCond .ne 21, 3) := by decide +kernel
theorem dX6_reach_36 : decode cX6_reach 36 = .ok (.iload_n 2, 1) := by decide +kernel
theorem dX6_reach_37 : decode cX6_reach 37 = .ok (.ifCond .lt 17, 3) := by decide +kernel
theorem dX6_reach_40 : decode cX6_reach 40 = .ok (.aload_n 0, 1) := by decide +kernel
theorem dX6_reach_41 : decode cX6_reach 41 = .ok (.getfield 7, 3) := by decide +kernel
theorem dX6_reach_44 : decode cX6_reach 44 = .ok (.iload_n 2, 1) := by decide +kernel
theorem dX6_reach_45 : decode cX6_reach 45 = .ok (.baload, 1) := by decide +kernel
theorem dX6_reach_46 : decode cX6_reach 46 = .ok (.ifCond .ne 8, 3) := by decide +kernel
theorem dX6_reach_49 : decode cX6_reach 49 = .ok (.aload_n 0, 1) := by decide +kernel
theorem dX6_reach_50 : decode cX6_reach 50 = .ok (.iconst 2, 1) := by decide +kernel
theorem dX6_reach_51 : decode cX6_reach 51 = .ok (.putfield 72, 3) := by decide +kernel
theorem dX6_reach_54 : decode cX6_reach 54 = .ok (.iconst 0, 1) := by decide +kernel
theorem dX6_reach_55 : decode cX6_reach 55 = .ok (.istore_n 3, 1) := by decide +kernel
theorem dX6_reach_56 : decode cX6_reach 56 = .ok (.iconst 0, 1) := by decide +kernel
theorem dX6_reach_57 : decode cX6_reach 57 = .ok (.istore 4, 2) := by decide +kernel
theorem dX6_reach_59 : decode cX6_reach 59 = .ok (.iload 4, 2) := by decide +kernel
theorem dX6_reach_61 : decode cX6_reach 61 = .ok (.bipush 32, 2) := by decide +kernel
theorem dX6_reach_63 : decode cX6_reach 63 = .ok (.if_icmp .ge 40, 3) := by decide +kernel
theorem dX6_reach_66 : decode cX6_reach 66 = .ok (.iload_n 3, 1) := by decide +kernel
theorem dX6_reach_67 : decode cX6_reach 67 = .ok (.ifCond .ne 24, 3) := by decide +kernel
theorem dX6_reach_70 : decode cX6_reach 70 = .ok (.aload_n 0, 1) := by decide +kernel
theorem dX6_reach_71 : decode cX6_reach 71 = .ok (.getfield 7, 3) := by decide +kernel
theorem dX6_reach_74 : decode cX6_reach 74 = .ok (.iload 4, 2) := by decide +kernel
theorem dX6_reach_76 : decode cX6_reach 76 = .ok (.baload, 1) := by decide +kernel
theorem dX6_reach_77 : decode cX6_reach 77 = .ok (.ifCond .eq 18, 3) := by decide +kernel
theorem dX6_reach_80 : decode cX6_reach 80 = .ok (.aload_n 0, 1) := by decide +kernel
theorem dX6_reach_81 : decode cX6_reach 81 = .ok (.getfield 13, 3) := by decide +kernel
theorem dX6_reach_84 : decode cX6_reach 84 = .ok (.iload 4, 2) := by decide +kernel
theorem dX6_reach_86 : decode cX6_reach 86 = .ok (.iaload, 1) := by decide +kernel
theorem dX6_reach_87 : decode cX6_reach 87 = .ok (.iconst (-1), 1) := by decide +kernel
theorem dX6_reach_88 : decode cX6_reach 88 = .ok (.if_icmp .ne 7, 3) := by decide +kernel
theorem dX6_reach_91 : decode cX6_reach 91 = .ok (.iconst 1, 1) := by decide +kernel
theorem dX6_reach_92 : decode cX6_reach 92 = .ok (.goto 4, 3) := by decide +kernel
theorem dX6_reach_95 : decode cX6_reach 95 = .ok (.iconst 0, 1) := by decide +kernel
theorem dX6_reach_96 : decode cX6_reach 96 = .ok (.istore_n 3, 1) := by decide +kernel
theorem dX6_reach_97 : decode cX6_reach 97 = .ok (.iinc 4 1, 3) := by decide +kernel
theorem dX6_reach_100 : decode cX6_reach 100 = .ok (.goto (-41), 3) := by decide +kernel
theorem dX6_reach_103 : decode cX6_reach 103 = .ok (.aload_n 0, 1) := by decide +kernel
theorem dX6_reach_104 : decode cX6_reach 104 = .ok (.getfield 72, 3) := by decide +kernel
theorem dX6_reach_107 : decode cX6_reach 107 = .ok (.ifCond .ne 26, 3) := by decide +kernel
theorem dX6_reach_110 : decode cX6_reach 110 = .ok (.aload_n 0, 1) := by decide +kernel
theorem dX6_reach_111 : decode cX6_reach 111 = .ok (.getfield 7, 3) := by decide +kernel
theorem dX6_reach_114 : decode cX6_reach 114 = .ok (.iload_n 1, 1) := by decide +kernel
theorem dX6_reach_115 : decode cX6_reach 115 = .ok (.baload, 1) := by decide +kernel
theorem dX6_reach_116 : decode cX6_reach 116 = .ok (.ifCond .ne 12, 3) := by decide +kernel
theorem dX6_reach_119 : decode cX6_reach 119 = .ok (.iload_n 2, 1) := by decide +kernel
theorem dX6_reach_120 : decode cX6_reach 120 = .ok (.iconst (-1), 1) := by decide +kernel
theorem dX6_reach_121 : decode cX6_reach 121 = .ok (.if_icmp .ne 12, 3) := by decide +kernel
theorem dX6_reach_124 : decode cX6_reach 124 = .ok (.iload_n 3, 1) := by decide +kernel
theorem dX6_reach_125 : decode cX6_reach 125 = .ok (.ifCond .eq 8, 3) := by decide +kernel
theorem dX6_reach_128 : decode cX6_reach 128 = .ok (.aload_n 0, 1) := by decide +kernel
theorem dX6_reach_129 : decode cX6_reach 129 = .ok (.iconst 3, 1) := by decide +kernel
theorem dX6_reach_130 : decode cX6_reach 130 = .ok (.putfield 72, 3) := by decide +kernel
theorem dX6_reach_133 : decode cX6_reach 133 = .ok (.aload_n 0, 1) := by decide +kernel
theorem dX6_reach_134 : decode cX6_reach 134 = .ok (.getfield 72, 3) := by decide +kernel
theorem dX6_reach_137 : decode cX6_reach 137 = .ok (.ifCond .le 4, 3) := by decide +kernel
theorem dX6_reach_140 : decode cX6_reach 140 = .ok (.return_, 1) := by decide +kernel
theorem dX6_reach_141 : decode cX6_reach 141 = .ok (.aload_n 0, 1) := by decide +kernel
theorem dX6_reach_142 : decode cX6_reach 142 = .ok (.getfield 7, 3) := by decide +kernel
theorem dX6_reach_145 : decode cX6_reach 145 = .ok (.iload_n 1, 1) := by decide +kernel
theorem dX6_reach_146 : decode cX6_reach 146 = .ok (.iconst 1, 1) := by decide +kernel
theorem dX6_reach_147 : decode cX6_reach 147 = .ok (.bastore, 1) := by decide +kernel
theorem dX6_reach_148 : decode cX6_reach 148 = .ok (.aload_n 0, 1) := by decide +kernel
theorem dX6_reach_149 : decode cX6_reach 149 = .ok (.getfield 13, 3) := by decide +kernel
theorem dX6_reach_152 : decode cX6_reach 152 = .ok (.iload_n 1, 1) := by decide +kernel
theorem dX6_reach_153 : decode cX6_reach 153 = .ok (.iload_n 2, 1) := by decide +kernel
theorem dX6_reach_154 : decode cX6_reach 154 = .ok (.iastore, 1) := by decide +kernel
theorem dX6_reach_155 : decode cX6_reach 155 = .ok (.aload_n 0, 1) := by decide +kernel
theorem dX6_reach_156 : decode cX6_reach 156 = .ok (.getfield 17, 3) := by decide +kernel
theorem dX6_reach_159 : decode cX6_reach 159 = .ok (.iload_n 1, 1) := by decide +kernel
theorem dX6_reach_160 : decode cX6_reach 160 = .ok (.iconst 0, 1) := by decide +kernel
theorem dX6_reach_161 : decode cX6_reach 161 = .ok (.iastore, 1) := by decide +kernel
theorem dX6_reach_162 : decode cX6_reach 162 = .ok (.return_, 1) := by decide +kernel
theorem dX6_isNumber_0 : decode cX6_isNumber 0 = .ok (.iload_n 0, 1) := by decide +kernel
theorem dX6_isNumber_1 : decode cX6_isNumber 1 = .ok (.ifCond .lt 12, 3) := by decide +kernel
theorem dX6_isNumber_4 : decode cX6_isNumber 4 = .ok (.iload_n 0, 1) := by decide +kernel
theorem dX6_isNumber_5 : decode cX6_isNumber 5 = .ok (.iload_n 1, 1) := by decide +kernel
theorem dX6_isNumber_6 : decode cX6_isNumber 6 = .ok (.if_icmp .ge 7, 3) := by decide +kernel
theorem dX6_isNumber_9 : decode cX6_isNumber 9 = .ok (.iconst 1, 1) := by decide +kernel
theorem dX6_isNumber_10 : decode cX6_isNumber 10 = .ok (.goto 4, 3) := by decide +kernel
theorem dX6_isNumber_13 : decode cX6_isNumber 13 = .ok (.iconst 0, 1) := by decide +kernel
theorem dX6_isNumber_14 : decode cX6_isNumber 14 = .ok (.ireturn, 1) := by decide +kernel
theorem dX6_reservoir_0 : decode cX6_reservoir 0 = .ok (.aload_n 0, 1) := by decide +kernel
theorem dX6_reservoir_1 : decode cX6_reservoir 1 = .ok (.iload_n 1, 1) := by decide +kernel
theorem dX6_reservoir_2 : decode cX6_reservoir 2 = .ok (.bipush 8, 2) := by decide +kernel
theorem dX6_reservoir_4 : decode cX6_reservoir 4 = .ok (.invokestatic 76, 3) := by decide +kernel
theorem dX6_reservoir_7 : decode cX6_reservoir 7 = .ok (.ifCond .eq 12, 3) := by decide +kernel
theorem dX6_reservoir_10 : decode cX6_reservoir 10 = .ok (.iload_n 2, 1) := by decide +kernel
theorem dX6_reservoir_11 : decode cX6_reservoir 11 = .ok (.bipush 32, 2) := by decide +kernel
theorem dX6_reservoir_13 : decode cX6_reservoir 13 = .ok (.invokestatic 76, 3) := by decide +kernel
theorem dX6_reservoir_16 : decode cX6_reservoir 16 = .ok (.ifCond .ne 7, 3) := by decide +kernel
theorem dX6_reservoir_19 : decode cX6_reservoir 19 = .ok (.iconst 1, 1) := by decide +kernel
theorem dX6_reservoir_20 : decode cX6_reservoir 20 = .ok (.goto 44, 3) := by decide +kernel
theorem dX6_reservoir_23 : decode cX6_reservoir 23 = .ok (.aload_n 0, 1) := by decide +kernel
theorem dX6_reservoir_24 : decode cX6_reservoir 24 = .ok (.getfield 7, 3) := by decide +kernel
theorem dX6_reservoir_27 : decode cX6_reservoir 27 = .ok (.iload_n 2, 1) := by decide +kernel
theorem dX6_reservoir_28 : decode cX6_reservoir 28 = .ok (.baload, 1) := by decide +kernel
theorem dX6_reservoir_29 : decode cX6_reservoir 29 = .ok (.ifCond .ne 7, 3) := by decide +kernel
theorem dX6_reservoir_32 : decode cX6_reservoir 32 = .ok (.iconst 2, 1) := by decide +kernel
theorem dX6_reservoir_33 : decode cX6_reservoir 33 = .ok (.goto 31, 3) := by decide +kernel
theorem dX6_reservoir_36 : decode cX6_reservoir 36 = .ok (.iload_n 3, 1) := by decide +kernel
theorem dX6_reservoir_37 : decode cX6_reservoir 37 = .ok (.ifCond .lt 9, 3) := by decide +kernel
theorem dX6_reservoir_40 : decode cX6_reservoir 40 = .ok (.iload_n 3, 1) := by decide +kernel
theorem dX6_reservoir_41 : decode cX6_reservoir 41 = .ok (.ldc 80, 2) := by decide +kernel
theorem dX6_reservoir_43 : decode cX6_reservoir 43 = .ok (.if_icmp .le 7, 3) := by decide +kernel
theorem dX6_reservoir_46 : decode cX6_reservoir 46 = .ok (.iconst 3, 1) := by decide +kernel
theorem dX6_reservoir_47 : decode cX6_reservoir 47 = .ok (.goto 17, 3) := by decide +kernel
theorem dX6_reservoir_50 : decode cX6_reservoir 50 = .ok (.aload_n 0, 1) := by decide +kernel
theorem dX6_reservoir_51 : decode cX6_reservoir 51 = .ok (.getfield 20, 3) := by decide +kernel
theorem dX6_reservoir_54 : decode cX6_reservoir 54 = .ok (.iload_n 1, 1) := by decide +kernel
theorem dX6_reservoir_55 : decode cX6_reservoir 55 = .ok (.baload, 1) := by decide +kernel
theorem dX6_reservoir_56 : decode cX6_reservoir 56 = .ok (.ifCond .eq 7, 3) := by decide +kernel
theorem dX6_reservoir_59 : decode cX6_reservoir 59 = .ok (.iconst 4, 1) := by decide +kernel
theorem dX6_reservoir_60 : decode cX6_reservoir 60 = .ok (.goto 4, 3) := by decide +kernel
theorem dX6_reservoir_63 : decode cX6_reservoir 63 = .ok (.iconst 0, 1) := by decide +kernel
theorem dX6_reservoir_64 : decode cX6_reservoir 64 = .ok (.putfield 72, 3) := by decide +kernel
theorem dX6_reservoir_67 : decode cX6_reservoir 67 = .ok (.aload_n 0, 1) := by decide +kernel
theorem dX6_reservoir_68 : decode cX6_reservoir 68 = .ok (.getfield 72, 3) := by decide +kernel
theorem dX6_reservoir_71 : decode cX6_reservoir 71 = .ok (.ifCond .le 4, 3) := by decide +kernel
theorem dX6_reservoir_74 : decode cX6_reservoir 74 = .ok (.return_, 1) := by decide +kernel
theorem dX6_reservoir_75 : decode cX6_reservoir 75 = .ok (.aload_n 0, 1) := by decide +kernel
theorem dX6_reservoir_76 : decode cX6_reservoir 76 = .ok (.getfield 20, 3) := by decide +kernel
theorem dX6_reservoir_79 : decode cX6_reservoir 79 = .ok (.iload_n 1, 1) := by decide +kernel
theorem dX6_reservoir_80 : decode cX6_reservoir 80 = .ok (.iconst 1, 1) := by decide +kernel
theorem dX6_reservoir_81 : decode cX6_reservoir 81 = .ok (.bastore, 1) := by decide +kernel
theorem dX6_reservoir_82 : decode cX6_reservoir 82 = .ok (.aload_n 0, 1) := by decide +kernel
theorem dX6_reservoir_83 : decode cX6_reservoir 83 = .ok (.getfield 23, 3) := by decide +kernel
theorem dX6_reservoir_86 : decode cX6_reservoir 86 = .ok (.iload_n 1, 1) := by decide +kernel
theorem dX6_reservoir_87 : decode cX6_reservoir 87 = .ok (.iload_n 2, 1) := by decide +kernel
theorem dX6_reservoir_88 : decode cX6_reservoir 88 = .ok (.iastore, 1) := by decide +kernel
theorem dX6_reservoir_89 : decode cX6_reservoir 89 = .ok (.aload_n 0, 1) := by decide +kernel
theorem dX6_reservoir_90 : decode cX6_reservoir 90 = .ok (.getfield 26, 3) := by decide +kernel
theorem dX6_reservoir_93 : decode cX6_reservoir 93 = .ok (.iload_n 1, 1) := by decide +kernel
theorem dX6_reservoir_94 : decode cX6_reservoir 94 = .ok (.iload_n 3, 1) := by decide +kernel
theorem dX6_reservoir_95 : decode cX6_reservoir 95 = .ok (.iastore, 1) := by decide +kernel
theorem dX6_reservoir_96 : decode cX6_reservoir 96 = .ok (.aload_n 0, 1) := by decide +kernel
theorem dX6_reservoir_97 : decode cX6_reservoir 97 = .ok (.getfield 29, 3) := by decide +kernel
theorem dX6_reservoir_100 : decode cX6_reservoir 100 = .ok (.iload_n 1, 1) := by decide +kernel
theorem dX6_reservoir_101 : decode cX6_reservoir 101 = .ok (.iconst 0, 1) := by decide +kernel
theorem dX6_reservoir_102 : decode cX6_reservoir 102 = .ok (.iastore, 1) := by decide +kernel
theorem dX6_reservoir_103 : decode cX6_reservoir 103 = .ok (.return_, 1) := by decide +kernel
theorem dX6_right_0 : decode cX6_right 0 = .ok (.aload_n 0, 1) := by decide +kernel
theorem dX6_right_1 : decode cX6_right 1 = .ok (.iload_n 1, 1) := by decide +kernel
theorem dX6_right_2 : decode cX6_right 2 = .ok (.bipush 40, 2) := by decide +kernel
theorem dX6_right_4 : decode cX6_right 4 = .ok (.invokestatic 76, 3) := by decide +kernel
theorem dX6_right_7 : decode cX6_right 7 = .ok (.ifCond .eq 22, 3) := by decide +kernel
theorem dX6_right_10 : decode cX6_right 10 = .ok (.iload_n 2, 1) := by decide +kernel
theorem dX6_right_11 : decode cX6_right 11 = .ok (.bipush 32, 2) := by decide +kernel
theorem dX6_right_13 : decode cX6_right 13 = .ok (.invokestatic 76, 3) := by decide +kernel
theorem dX6_right_16 : decode cX6_right 16 = .ok (.ifCond .eq 13, 3) := by decide +kernel
theorem dX6_right_19 : decode cX6_right 19 = .ok (.iload 6, 2) := by decide +kernel
theorem dX6_right_21 : decode cX6_right 21 = .ok (.bipush 32, 2) := by decide +kernel
theorem dX6_right_23 : decode cX6_right 23 = .ok (.invokestatic 76, 3) := by decide +kernel
theorem dX6_right_26 : decode cX6_right 26 = .ok (.ifCond .ne 7, 3) := by decide +kernel
theorem dX6_right_29 : decode cX6_right 29 = .ok (.iconst 1, 1) := by decide +kernel
theorem dX6_right_30 : decode cX6_right 30 = .ok (.goto 27, 3) := by decide +kernel
theorem dX6_right_33 : decode cX6_right 33 = .ok (.aload_n 0, 1) := by decide +kernel
theorem dX6_right_34 : decode cX6_right 34 = .ok (.getfield 7, 3) := by decide +kernel
theorem dX6_right_37 : decode cX6_right 37 = .ok (.iload_n 2, 1) := by decide +kernel
theorem dX6_right_38 : decode cX6_right 38 = .ok (.baload, 1) := by decide +kernel
theorem dX6_right_39 : decode cX6_right 39 = .ok (.ifCond .eq 13, 3) := by decide +kernel
theorem dX6_right_42 : decode cX6_right 42 = .ok (.aload_n 0, 1) := by decide +kernel
theorem dX6_right_43 : decode cX6_right 43 = .ok (.getfield 7, 3) := by decide +kernel
theorem dX6_right_46 : decode cX6_right 46 = .ok (.iload 6, 2) := by decide +kernel
theorem dX6_right_48 : decode cX6_right 48 = .ok (.baload, 1) := by decide +kernel
theorem dX6_right_49 : decode cX6_right 49 = .ok (.ifCond .ne 7, 3) := by decide +kernel
theorem dX6_right_52 : decode cX6_right 52 = .ok (.iconst 2, 1) := by decide +kernel
theorem dX6_right_53 : decode cX6_right 53 = .ok (.goto 4, 3) := by decide +kernel
theorem dX6_right_56 : decode cX6_right 56 = .ok (.iconst 0, 1) := by decide +kernel
theorem dX6_right_57 : decode cX6_right 57 = .ok (.putfield 72, 3) := by decide +kernel
theorem dX6_right_60 : decode cX6_right 60 = .ok (.iload_n 3, 1) := by decide +kernel
theorem dX6_right_61 : decode cX6_right 61 = .ok (.iconst 1, 1) := by decide +kernel
theorem dX6_right_62 : decode cX6_right 62 = .ok (.if_icmp .lt 38, 3) := by decide +kernel
theorem dX6_right_65 : decode cX6_right 65 = .ok (.iload_n 3, 1) := by decide +kernel
theorem dX6_right_66 : decode cX6_right 66 = .ok (.ldc 81, 2) := by decide +kernel
theorem dX6_right_68 : decode cX6_right 68 = .ok (.if_icmp .gt 32, 3) := by decide +kernel
theorem dX6_right_71 : decode cX6_right 71 = .ok (.iload 4, 2) := by decide +kernel
theorem dX6_right_73 : decode cX6_right 73 = .ok (.ifCond .lt 27, 3) := by decide +kernel
theorem dX6_right_76 : decode cX6_right 76 = .ok (.iload 4, 2) := by decide +kernel
theorem dX6_right_78 : decode cX6_right 78 = .ok (.ldc 80, 2) := by decide +kernel
theorem dX6_right_80 : decode cX6_right 80 = .ok (.if_icmp .gt 20, 3) := by decide +kernel
theorem dX6_right_83 : decode cX6_right 83 = .ok (.iload 5, 2) := by decide +kernel
theorem dX6_right_85 : decode cX6_right 85 = .ok (.ifCond .lt 15, 3) := by decide +kernel
theorem dX6_right_88 : decode cX6_right 88 = .ok (.iload 5, 2) := by decide +kernel
theorem dX6_right_90 : decode cX6_right 90 = .ok (.sipush 1000, 3) := by decide +kernel
theorem dX6_right_93 : decode cX6_right 93 = .ok (.if_icmp .gt 7, 3) := by decide +kernel
theorem dX6_right_96 : decode cX6_right 96 = .ok (.iconst 1, 1) := by decide +kernel
theorem dX6_right_97 : decode cX6_right 97 = .ok (.goto 4, 3) := by decide +kernel
theorem dX6_right_100 : decode cX6_right 100 = .ok (.iconst 0, 1) := by decide +kernel
theorem dX6_right_101 : decode cX6_right 101 = .ok (.istore 7, 2) := by decide +kernel
theorem dX6_right_103 : decode cX6_right 103 = .ok (.aload_n 0, 1) := by decide +kernel
theorem dX6_right_104 : decode cX6_right 104 = .ok (.getfield 72, 3) := by decide +kernel
theorem dX6_right_107 : decode cX6_right 107 = .ok (.ifCond .ne 40, 3) := by decide +kernel
theorem dX6_right_110 : decode cX6_right 110 = .ok (.aload_n 0, 1) := by decide +kernel
theorem dX6_right_111 : decode cX6_right 111 = .ok (.iload 7, 2) := by decide +kernel
theorem dX6_right_113 : decode cX6_right 113 = .ok (.ifCond .eq 13, 3) := by decide +kernel
theorem dX6_right_116 : decode cX6_right 116 = .ok (.aload_n 0, 1) := by decide +kernel
theorem dX6_right_117 : decode cX6_right 117 = .ok (.iload_n 2, 1) := by decide +kernel
theorem dX6_right_118 : decode cX6_right 118 = .ok (.iload 6, 2) := by decide +kernel
theorem dX6_right_120 : decode cX6_right 120 = .ok (.invokevirtual 82, 3) := by decide +kernel
theorem dX6_right_123 : decode cX6_right 123 = .ok (.ifCond .ne 7, 3) := by decide +kernel
theorem dX6_right_126 : decode cX6_right 126 = .ok (.iconst 3, 1) := by decide +kernel
theorem dX6_right_127 : decode cX6_right 127 = .ok (.goto 17, 3) := by decide +kernel
theorem dX6_right_130 : decode cX6_right 130 = .ok (.aload_n 0, 1) := by decide +kernel
theorem dX6_right_131 : decode cX6_right 131 = .ok (.iload_n 1, 1) := by decide +kernel
theorem dX6_right_132 : decode cX6_right 132 = .ok (.iload_n 3, 1) := by decide +kernel
theorem dX6_right_133 : decode cX6_right 133 = .ok (.invokevirtual 85, 3) := by decide +kernel
theorem dX6_right_136 : decode cX6_right 136 = .ok (.ifCond .eq 7, 3) := by decide +kernel
theorem dX6_right_139 : decode cX6_right 139 = .ok (.iconst 4, 1) := by decide +kernel
theorem dX6_right_140 : decode cX6_right 140 = .ok (.goto 4, 3) := by decide +kernel
theorem dX6_right_143 : decode cX6_right 143 = .ok (.iconst 0, 1) := by decide +kernel
theorem dX6_right_144 : decode cX6_right 144 = .ok (.putfield 72, 3) := by decide +kernel
theorem dX6_right_147 : decode cX6_right 147 = .ok (.aload_n 0, 1) := by decide +kernel
theorem dX6_right_148 : decode cX6_right 148 = .ok (.getfield 72, 3) := by decide +kernel
theorem dX6_right_151 : decode cX6_right 151 = .ok (.ifCond .le 4, 3) := by decide +kernel
theorem dX6_right_154 : decode cX6_right 154 = .ok (.return_, 1) := by decide +kernel
theorem dX6_right_155 : decode cX6_right 155 = .ok (.aload_n 0, 1) := by decide +kernel
theorem dX6_right_156 : decode cX6_right 156 = .ok (.iload_n 1, 1) := by decide +kernel
theorem dX6_right_157 : decode cX6_right 157 = .ok (.iload_n 2, 1) := by decide +kernel
theorem dX6_right_158 : decode cX6_right 158 = .ok (.iload_n 3, 1) := by decide +kernel
theorem dX6_right_159 : decode cX6_right 159 = .ok (.iload 4, 2) := by decide +kernel
theorem dX6_right_161 : decode cX6_right 161 = .ok (.invokevirtual 88, 3) := by decide +kernel
theorem dX6_right_164 : decode cX6_right 164 = .ok (.aload_n 0, 1) := by decide +kernel
theorem dX6_right_165 : decode cX6_right 165 = .ok (.getfield 48, 3) := by decide +kernel
theorem dX6_right_168 : decode cX6_right 168 = .ok (.iload_n 1, 1) := by decide +kernel
theorem dX6_right_169 : decode cX6_right 169 = .ok (.iload 5, 2) := by decide +kernel
theorem dX6_right_171 : decode cX6_right 171 = .ok (.iastore, 1) := by decide +kernel
theorem dX6_right_172 : decode cX6_right 172 = .ok (.aload_n 0, 1) := by decide +kernel
theorem dX6_right_173 : decode cX6_right 173 = .ok (.getfield 51, 3) := by decide +kernel
theorem dX6_right_176 : decode cX6_right 176 = .ok (.iload_n 1, 1) := by decide +kernel
theorem dX6_right_177 : decode cX6_right 177 = .ok (.iload 6, 2) := by decide +kernel
theorem dX6_right_179 : decode cX6_right 179 = .ok (.iastore, 1) := by decide +kernel
theorem dX6_right_180 : decode cX6_right 180 = .ok (.aload_n 0, 1) := by decide +kernel
theorem dX6_right_181 : decode cX6_right 181 = .ok (.getfield 54, 3) := by decide +kernel
theorem dX6_right_184 : decode cX6_right 184 = .ok (.iload_n 1, 1) := by decide +kernel
theorem dX6_right_185 : decode cX6_right 185 = .ok (.iconst (-1), 1) := by decide +kernel
theorem dX6_right_186 : decode cX6_right 186 = .ok (.iastore, 1) := by decide +kernel
theorem dX6_right_187 : decode cX6_right 187 = .ok (.return_, 1) := by decide +kernel
theorem dX6_isOn_0 : decode cX6_isOn 0 = .ok (.iload_n 1, 1) := by decide +kernel
theorem dX6_isOn_1 : decode cX6_isOn 1 = .ok (.istore_n 3, 1) := by decide +kernel
theorem dX6_isOn_2 : decode cX6_isOn 2 = .ok (.iload_n 3, 1) := by decide +kernel
theorem dX6_isOn_3 : decode cX6_isOn 3 = .ok (.ifCond .lt 18, 3) := by decide +kernel
theorem dX6_isOn_6 : decode cX6_isOn 6 = .ok (.iload_n 3, 1) := by decide +kernel
theorem dX6_isOn_7 : decode cX6_isOn 7 = .ok (.iload_n 2, 1) := by decide +kernel
theorem dX6_isOn_8 : decode cX6_isOn 8 = .ok (.if_icmp .eq 13, 3) := by decide +kernel
theorem dX6_isOn_11 : decode cX6_isOn 11 = .ok (.aload_n 0, 1) := by decide +kernel
theorem dX6_isOn_12 : decode cX6_isOn 12 = .ok (.getfield 13, 3) := by decide +kernel
theorem dX6_isOn_15 : decode cX6_isOn 15 = .ok (.iload_n 3, 1) := by decide +kernel
theorem dX6_isOn_16 : decode cX6_isOn 16 = .ok (.iaload, 1) := by decide +kernel
theorem dX6_isOn_17 : decode cX6_isOn 17 = .ok (.istore_n 3, 1) := by decide +kernel
theorem dX6_isOn_18 : decode cX6_isOn 18 = .ok (.goto (-16), 3) := by decide +kernel
theorem dX6_isOn_21 : decode cX6_isOn 21 = .ok (.iload_n 3, 1) := by decide +kernel
theorem dX6_isOn_22 : decode cX6_isOn 22 = .ok (.iload_n 2, 1) := by decide +kernel
theorem dX6_isOn_23 : decode cX6_isOn 23 = .ok (.if_icmp .ne 7, 3) := by decide +kernel
theorem dX6_isOn_26 : decode cX6_isOn 26 = .ok (.iconst 1, 1) := by decide +kernel
theorem dX6_isOn_27 : decode cX6_isOn 27 = .ok (.goto 4, 3) := by decide +kernel
theorem dX6_isOn_30 : decode cX6_isOn 30 = .ok (.iconst 0, 1) := by decide +kernel
theorem dX6_isOn_31 : decode cX6_isOn 31 = .ok (.ireturn, 1) := by decide +kernel
theorem dX6_isTaken_0 : decode cX6_isTaken 0 = .ok (.aload_n 0, 1) := by decide +kernel
theorem dX6_isTaken_1 : decode cX6_isTaken 1 = .ok (.getfield 36, 3) := by decide +kernel
theorem dX6_isTaken_4 : decode cX6_isTaken 4 = .ok (.iload_n 1, 1) := by decide +kernel
theorem dX6_isTaken_5 : decode cX6_isTaken 5 = .ok (.baload, 1) := by decide +kernel
theorem dX6_isTaken_6 : decode cX6_isTaken 6 = .ok (.istore_n 3, 1) := by decide +kernel
theorem dX6_isTaken_7 : decode cX6_isTaken 7 = .ok (.iconst 0, 1) := by decide +kernel
theorem dX6_isTaken_8 : decode cX6_isTaken 8 = .ok (.istore 4, 2) := by decide +kernel
theorem dX6_isTaken_10 : decode cX6_isTaken 10 = .ok (.iload 4, 2) := by decide +kernel
theorem dX6_isTaken_12 : decode cX6_isTaken 12 = .ok (.bipush 40, 2) := by decide +kernel
theorem dX6_isTaken_14 : decode cX6_isTaken 14 = .ok (.if_icmp .ge 40, 3) := by decide +kernel
theorem dX6_isTaken_17 : decode cX6_isTaken 17 = .ok (.iload_n 3, 1) := by decide +kernel
theorem dX6_isTaken_18 : decode cX6_isTaken 18 = .ok (.ifCond .ne 24, 3) := by decide +kernel
theorem dX6_isTaken_21 : decode cX6_isTaken 21 = .ok (.aload_n 0, 1) := by decide +kernel
theorem dX6_isTaken_22 : decode cX6_isTaken 22 = .ok (.getfield 36, 3) := by decide +kernel
theorem dX6_isTaken_25 : decode cX6_isTaken 25 = .ok (.iload 4, 2) := by decide +kernel
theorem dX6_isTaken_27 : decode cX6_isTaken 27 = .ok (.baload, 1) := by decide +kernel
theorem dX6_isTaken_28 : decode cX6_isTaken 28 = .ok (.ifCond .eq 18, 3) := by decide +kernel
theorem dX6_isTaken_31 : decode cX6_isTaken 31 = .ok (.aload_n 0, 1) := by decide +kernel
theorem dX6_isTaken_32 : decode cX6_isTaken 32 = .ok (.getfield 42, 3) := by decide +kernel
theorem dX6_isTaken_35 : decode cX6_isTaken 35 = .ok (.iload 4, 2) := by decide +kernel
theorem dX6_isTaken_37 : decode cX6_isTaken 37 = .ok (.iaload, 1) := by decide +kernel
theorem dX6_isTaken_38 : decode cX6_isTaken 38 = .ok (.iload_n 2, 1) := by decide +kernel
theorem dX6_isTaken_39 : decode cX6_isTaken 39 = .ok (.if_icmp .ne 7, 3) := by decide +kernel
theorem dX6_isTaken_42 : decode cX6_isTaken 42 = .ok (.iconst 1, 1) := by decide +kernel
theorem dX6_isTaken_43 : decode cX6_isTaken 43 = .ok (.goto 4, 3) := by decide +kernel
theorem dX6_isTaken_46 : decode cX6_isTaken 46 = .ok (.iconst 0, 1) := by decide +kernel
theorem dX6_isTaken_47 : decode cX6_isTaken 47 = .ok (.istore_n 3, 1) := by decide +kernel
theorem dX6_isTaken_48 : decode cX6_isTaken 48 = .ok (.iinc 4 1, 3) := by decide +kernel
theorem dX6_isTaken_51 : decode cX6_isTaken 51 = .ok (.goto (-41), 3) := by decide +kernel
theorem dX6_isTaken_54 : decode cX6_isTaken 54 = .ok (.iload_n 3, 1) := by decide +kernel
theorem dX6_isTaken_55 : decode cX6_isTaken 55 = .ok (.ireturn, 1) := by decide +kernel
theorem dX6_lay_0 : decode cX6_lay 0 = .ok (.aload_n 0, 1) := by decide +kernel
theorem dX6_lay_1 : decode cX6_lay 1 = .ok (.getfield 36, 3) := by decide +kernel
theorem dX6_lay_4 : decode cX6_lay 4 = .ok (.iload_n 1, 1) := by decide +kernel
theorem dX6_lay_5 : decode cX6_lay 5 = .ok (.iconst 1, 1) := by decide +kernel
theorem dX6_lay_6 : decode cX6_lay 6 = .ok (.bastore, 1) := by decide +kernel
theorem dX6_lay_7 : decode cX6_lay 7 = .ok (.aload_n 0, 1) := by decide +kernel
theorem dX6_lay_8 : decode cX6_lay 8 = .ok (.getfield 39, 3) := by decide +kernel
theorem dX6_lay_11 : decode cX6_lay 11 = .ok (.iload_n 1, 1) := by decide +kernel
theorem dX6_lay_12 : decode cX6_lay 12 = .ok (.iload_n 2, 1) := by decide +kernel
theorem dX6_lay_13 : decode cX6_lay 13 = .ok (.iastore, 1) := by decide +kernel
theorem dX6_lay_14 : decode cX6_lay 14 = .ok (.aload_n 0, 1) := by decide +kernel
theorem dX6_lay_15 : decode cX6_lay 15 = .ok (.getfield 42, 3) := by decide +kernel
theorem dX6_lay_18 : decode cX6_lay 18 = .ok (.iload_n 1, 1) := by decide +kernel
theorem dX6_lay_19 : decode cX6_lay 19 = .ok (.iload_n 3, 1) := by decide +kernel
theorem dX6_lay_20 : decode cX6_lay 20 = .ok (.iastore, 1) := by decide +kernel
theorem dX6_lay_21 : decode cX6_lay 21 = .ok (.aload_n 0, 1) := by decide +kernel
theorem dX6_lay_22 : decode cX6_lay 22 = .ok (.getfield 45, 3) := by decide +kernel
theorem dX6_lay_25 : decode cX6_lay 25 = .ok (.iload_n 1, 1) := by decide +kernel
theorem dX6_lay_26 : decode cX6_lay 26 = .ok (.iload 4, 2) := by decide +kernel
theorem dX6_lay_28 : decode cX6_lay 28 = .ok (.iastore, 1) := by decide +kernel
theorem dX6_lay_29 : decode cX6_lay 29 = .ok (.aload_n 0, 1) := by decide +kernel
theorem dX6_lay_30 : decode cX6_lay 30 = .ok (.getfield 57, 3) := by decide +kernel
theorem dX6_lay_33 : decode cX6_lay 33 = .ok (.iload_n 1, 1) := by decide +kernel
theorem dX6_lay_34 : decode cX6_lay 34 = .ok (.iload 4, 2) := by decide +kernel
theorem dX6_lay_36 : decode cX6_lay 36 = .ok (.iastore, 1) := by decide +kernel
theorem dX6_lay_37 : decode cX6_lay 37 = .ok (.return_, 1) := by decide +kernel
theorem dX6_storage_0 : decode cX6_storage 0 = .ok (.aload_n 0, 1) := by decide +kernel
theorem dX6_storage_1 : decode cX6_storage 1 = .ok (.iload_n 1, 1) := by decide +kernel
theorem dX6_storage_2 : decode cX6_storage 2 = .ok (.bipush 40, 2) := by decide +kernel
theorem dX6_storage_4 : decode cX6_storage 4 = .ok (.invokestatic 76, 3) := by decide +kernel
theorem dX6_storage_7 : decode cX6_storage 7 = .ok (.ifCond .eq 22, 3) := by decide +kernel
theorem dX6_storage_10 : decode cX6_storage 10 = .ok (.iload_n 2, 1) := by decide +kernel
theorem dX6_storage_11 : decode cX6_storage 11 = .ok (.bipush 32, 2) := by decide +kernel
theorem dX6_storage_13 : decode cX6_storage 13 = .ok (.invokestatic 76, 3) := by decide +kernel
theorem dX6_storage_16 : decode cX6_storage 16 = .ok (.ifCond .eq 13, 3) := by decide +kernel
theorem dX6_storage_19 : decode cX6_storage 19 = .ok (.iload 5, 2) := by decide +kernel
theorem dX6_storage_21 : decode cX6_storage 21 = .ok (.bipush 8, 2) := by decide +kernel
theorem dX6_storage_23 : decode cX6_storage 23 = .ok (.invokestatic 76, 3) := by decide +kernel
theorem dX6_storage_26 : decode cX6_storage 26 = .ok (.ifCond .ne 7, 3) := by decide +kernel
theorem dX6_storage_29 : decode cX6_storage 29 = .ok (.iconst 1, 1) := by decide +kernel
theorem dX6_storage_30 : decode cX6_storage 30 = .ok (.goto 27, 3) := by decide +kernel
theorem dX6_storage_33 : decode cX6_storage 33 = .ok (.aload_n 0, 1) := by decide +kernel
theorem dX6_storage_34 : decode cX6_storage 34 = .ok (.getfield 7, 3) := by decide +kernel
theorem dX6_storage_37 : decode cX6_storage 37 = .ok (.iload_n 2, 1) := by decide +kernel
theorem dX6_storage_38 : decode cX6_storage 38 = .ok (.baload, 1) := by decide +kernel
theorem dX6_storage_39 : decode cX6_storage 39 = .ok (.ifCond .eq 13, 3) := by decide +kernel
theorem dX6_storage_42 : decode cX6_storage 42 = .ok (.aload_n 0, 1) := by decide +kernel
theorem dX6_storage_43 : decode cX6_storage 43 = .ok (.getfield 20, 3) := by decide +kernel
theorem dX6_storage_46 : decode cX6_storage 46 = .ok (.iload 5, 2) := by decide +kernel
theorem dX6_storage_48 : decode cX6_storage 48 = .ok (.baload, 1) := by decide +kernel
theorem dX6_storage_49 : decode cX6_storage 49 = .ok (.ifCond .ne 7, 3) := by decide +kernel
theorem dX6_storage_52 : decode cX6_storage 52 = .ok (.iconst 2, 1) := by decide +kernel
theorem dX6_storage_53 : decode cX6_storage 53 = .ok (.goto 4, 3) := by decide +kernel
theorem dX6_storage_56 : decode cX6_storage 56 = .ok (.iconst 0, 1) := by decide +kernel
theorem dX6_storage_57 : decode cX6_storage 57 = .ok (.putfield 72, 3) := by decide +kernel
theorem dX6_storage_60 : decode cX6_storage 60 = .ok (.iload_n 3, 1) := by decide +kernel
theorem dX6_storage_61 : decode cX6_storage 61 = .ok (.iconst 1, 1) := by decide +kernel
theorem dX6_storage_62 : decode cX6_storage 62 = .ok (.if_icmp .lt 25, 3) := by decide +kernel
theorem dX6_storage_65 : decode cX6_storage 65 = .ok (.iload_n 3, 1) := by decide +kernel
theorem dX6_storage_66 : decode cX6_storage 66 = .ok (.ldc 81, 2) := by decide +kernel
theorem dX6_storage_68 : decode cX6_storage 68 = .ok (.if_icmp .gt 19, 3) := by decide +kernel
theorem dX6_storage_71 : decode cX6_storage 71 = .ok (.iload 4, 2) := by decide +kernel
theorem dX6_storage_73 : decode cX6_storage 73 = .ok (.ifCond .lt 14, 3) := by decide +kernel
theorem dX6_storage_76 : decode cX6_storage 76 = .ok (.iload 4, 2) := by decide +kernel
theorem dX6_storage_78 : decode cX6_storage 78 = .ok (.ldc 80, 2) := by decide +kernel
theorem dX6_storage_80 : decode cX6_storage 80 = .ok (.if_icmp .gt 7, 3) := by decide +kernel
theorem dX6_storage_83 : decode cX6_storage 83 = .ok (.iconst 1, 1) := by decide +kernel
theorem dX6_storage_84 : decode cX6_storage 84 = .ok (.goto 4, 3) := by decide +kernel
theorem dX6_storage_87 : decode cX6_storage 87 = .ok (.iconst 0, 1) := by decide +kernel
theorem dX6_storage_88 : decode cX6_storage 88 = .ok (.istore 6, 2) := by decide +kernel
theorem dX6_storage_90 : decode cX6_storage 90 = .ok (.aload_n 0, 1) := by decide +kernel
theorem dX6_storage_91 : decode cX6_storage 91 = .ok (.getfield 72, 3) := by decide +kernel
theorem dX6_storage_94 : decode cX6_storage 94 = .ok (.ifCond .ne 30, 3) := by decide +kernel
theorem dX6_storage_97 : decode cX6_storage 97 = .ok (.aload_n 0, 1) := by decide +kernel
theorem dX6_storage_98 : decode cX6_storage 98 = .ok (.iload 6, 2) := by decide +kernel
theorem dX6_storage_100 : decode cX6_storage 100 = .ok (.ifCond .ne 7, 3) := by decide +kernel
theorem dX6_storage_103 : decode cX6_storage 103 = .ok (.iconst 3, 1) := by decide +kernel
theorem dX6_storage_104 : decode cX6_storage 104 = .ok (.goto 17, 3) := by decide +kernel
theorem dX6_storage_107 : decode cX6_storage 107 = .ok (.aload_n 0, 1) := by decide +kernel
theorem dX6_storage_108 : decode cX6_storage 108 = .ok (.iload_n 1, 1) := by decide +kernel
theorem dX6_storage_109 : decode cX6_storage 109 = .ok (.iload_n 3, 1) := by decide +kernel
theorem dX6_storage_110 : decode cX6_storage 110 = .ok (.invokevirtual 85, 3) := by decide +kernel
theorem dX6_storage_113 : decode cX6_storage 113 = .ok (.ifCond .eq 7, 3) := by decide +kernel
theorem dX6_storage_116 : decode cX6_storage 116 = .ok (.iconst 4, 1) := by decide +kernel
theorem dX6_storage_117 : decode cX6_storage 117 = .ok (.goto 4, 3) := by decide +kernel
theorem dX6_storage_120 : decode cX6_storage 120 = .ok (.iconst 0, 1) := by decide +kernel
theorem dX6_storage_121 : decode cX6_storage 121 = .ok (.putfield 72, 3) := by decide +kernel
theorem dX6_storage_124 : decode cX6_storage 124 = .ok (.aload_n 0, 1) := by decide +kernel
theorem dX6_storage_125 : decode cX6_storage 125 = .ok (.getfield 72, 3) := by decide +kernel
theorem dX6_storage_128 : decode cX6_storage 128 = .ok (.ifCond .le 4, 3) := by decide +kernel
theorem dX6_storage_131 : decode cX6_storage 131 = .ok (.return_, 1) := by decide +kernel
theorem dX6_storage_132 : decode cX6_storage 132 = .ok (.aload_n 0, 1) := by decide +kernel
theorem dX6_storage_133 : decode cX6_storage 133 = .ok (.iload_n 1, 1) := by decide +kernel
theorem dX6_storage_134 : decode cX6_storage 134 = .ok (.iload_n 2, 1) := by decide +kernel
theorem dX6_storage_135 : decode cX6_storage 135 = .ok (.iload_n 3, 1) := by decide +kernel
theorem dX6_storage_136 : decode cX6_storage 136 = .ok (.iload 4, 2) := by decide +kernel
theorem dX6_storage_138 : decode cX6_storage 138 = .ok (.invokevirtual 88, 3) := by decide +kernel
theorem dX6_storage_141 : decode cX6_storage 141 = .ok (.aload_n 0, 1) := by decide +kernel
theorem dX6_storage_142 : decode cX6_storage 142 = .ok (.getfield 48, 3) := by decide +kernel
theorem dX6_storage_145 : decode cX6_storage 145 = .ok (.iload_n 1, 1) := by decide +kernel
theorem dX6_storage_146 : decode cX6_storage 146 = .ok (.iconst 0, 1) := by decide +kernel
theorem dX6_storage_147 : decode cX6_storage 147 = .ok (.iastore, 1) := by decide +kernel
theorem dX6_storage_148 : decode cX6_storage 148 = .ok (.aload_n 0, 1) := by decide +kernel
theorem dX6_storage_149 : decode cX6_storage 149 = .ok (.getfield 51, 3) := by decide +kernel
theorem dX6_storage_152 : decode cX6_storage 152 = .ok (.iload_n 1, 1) := by decide +kernel
theorem dX6_storage_153 : decode cX6_storage 153 = .ok (.iload_n 2, 1) := by decide +kernel
theorem dX6_storage_154 : decode cX6_storage 154 = .ok (.iastore, 1) := by decide +kernel
theorem dX6_storage_155 : decode cX6_storage 155 = .ok (.aload_n 0, 1) := by decide +kernel
theorem dX6_storage_156 : decode cX6_storage 156 = .ok (.getfield 54, 3) := by decide +kernel
theorem dX6_storage_159 : decode cX6_storage 159 = .ok (.iload_n 1, 1) := by decide +kernel
theorem dX6_storage_160 : decode cX6_storage 160 = .ok (.iload 5, 2) := by decide +kernel
theorem dX6_storage_162 : decode cX6_storage 162 = .ok (.iastore, 1) := by decide +kernel
theorem dX6_storage_163 : decode cX6_storage 163 = .ok (.return_, 1) := by decide +kernel
theorem dX6_drop_0 : decode cX6_drop 0 = .ok (.aload_n 0, 1) := by decide +kernel
theorem dX6_drop_1 : decode cX6_drop 1 = .ok (.aload_n 0, 1) := by decide +kernel
theorem dX6_drop_2 : decode cX6_drop 2 = .ok (.iload_n 1, 1) := by decide +kernel
theorem dX6_drop_3 : decode cX6_drop 3 = .ok (.invokevirtual 92, 3) := by decide +kernel
theorem dX6_drop_6 : decode cX6_drop 6 = .ok (.putfield 72, 3) := by decide +kernel
theorem dX6_drop_9 : decode cX6_drop 9 = .ok (.aload_n 0, 1) := by decide +kernel
theorem dX6_drop_10 : decode cX6_drop 10 = .ok (.getfield 72, 3) := by decide +kernel
theorem dX6_drop_13 : decode cX6_drop 13 = .ok (.ifCond .ne 10, 3) := by decide +kernel
theorem dX6_drop_16 : decode cX6_drop 16 = .ok (.aload_n 0, 1) := by decide +kernel
theorem dX6_drop_17 : decode cX6_drop 17 = .ok (.getfield 36, 3) := by decide +kernel
theorem dX6_drop_20 : decode cX6_drop 20 = .ok (.iload_n 1, 1) := by decide +kernel
theorem dX6_drop_21 : decode cX6_drop 21 = .ok (.iconst 0, 1) := by decide +kernel
theorem dX6_drop_22 : decode cX6_drop 22 = .ok (.bastore, 1) := by decide +kernel
theorem dX6_drop_23 : decode cX6_drop 23 = .ok (.return_, 1) := by decide +kernel
theorem dX6_wrongRight_0 : decode cX6_wrongRight 0 = .ok (.iload_n 1, 1) := by decide +kernel
theorem dX6_wrongRight_1 : decode cX6_wrongRight 1 = .ok (.bipush 40, 2) := by decide +kernel
theorem dX6_wrongRight_3 : decode cX6_wrongRight 3 = .ok (.invokestatic 76, 3) := by decide +kernel
theorem dX6_wrongRight_6 : decode cX6_wrongRight 6 = .ok (.ifCond .ne 7, 3) := by decide +kernel
theorem dX6_wrongRight_9 : decode cX6_wrongRight 9 = .ok (.iconst 1, 1) := by decide +kernel
theorem dX6_wrongRight_10 : decode cX6_wrongRight 10 = .ok (.goto 17, 3) := by decide +kernel
theorem dX6_wrongRight_13 : decode cX6_wrongRight 13 = .ok (.aload_n 0, 1) := by decide +kernel
theorem dX6_wrongRight_14 : decode cX6_wrongRight 14 = .ok (.getfield 36, 3) := by decide +kernel
theorem dX6_wrongRight_17 : decode cX6_wrongRight 17 = .ok (.iload_n 1, 1) := by decide +kernel
theorem dX6_wrongRight_18 : decode cX6_wrongRight 18 = .ok (.baload, 1) := by decide +kernel
theorem dX6_wrongRight_19 : decode cX6_wrongRight 19 = .ok (.ifCond .eq 7, 3) := by decide +kernel
theorem dX6_wrongRight_22 : decode cX6_wrongRight 22 = .ok (.iconst 0, 1) := by decide +kernel
theorem dX6_wrongRight_23 : decode cX6_wrongRight 23 = .ok (.goto 4, 3) := by decide +kernel
theorem dX6_wrongRight_26 : decode cX6_wrongRight 26 = .ok (.iconst 2, 1) := by decide +kernel
theorem dX6_wrongRight_27 : decode cX6_wrongRight 27 = .ok (.ireturn, 1) := by decide +kernel
theorem dX6_want_0 : decode cX6_want 0 = .ok (.aload_n 0, 1) := by decide +kernel
theorem dX6_want_1 : decode cX6_want 1 = .ok (.aload_n 0, 1) := by decide +kernel
theorem dX6_want_2 : decode cX6_want 2 = .ok (.iload_n 1, 1) := by decide +kernel
theorem dX6_want_3 : decode cX6_want 3 = .ok (.invokevirtual 92, 3) := by decide +kernel
theorem dX6_want_6 : decode cX6_want 6 = .ok (.putfield 72, 3) := by decide +kernel
theorem dX6_want_9 : decode cX6_want 9 = .ok (.aload_n 0, 1) := by decide +kernel
theorem dX6_want_10 : decode cX6_want 10 = .ok (.getfield 72, 3) := by decide +kernel
theorem dX6_want_13 : decode cX6_want 13 = .ok (.ifCond .ne 22, 3) := by decide +kernel
theorem dX6_want_16 : decode cX6_want 16 = .ok (.iload_n 2, 1) := by decide +kernel
theorem dX6_want_17 : decode cX6_want 17 = .ok (.ifCond .lt 13, 3) := by decide +kernel
theorem dX6_want_20 : decode cX6_want 20 = .ok (.iload_n 2, 1) := by decide +kernel
theorem dX6_want_21 : decode cX6_want 21 = .ok (.aload_n 0, 1) := by decide +kernel
theorem dX6_want_22 : decode cX6_want 22 = .ok (.getfield 45, 3) := by decide +kernel
theorem dX6_want_25 : decode cX6_want 25 = .ok (.iload_n 1, 1) := by decide +kernel
theorem dX6_want_26 : decode cX6_want 26 = .ok (.iaload, 1) := by decide +kernel
theorem dX6_want_27 : decode cX6_want 27 = .ok (.if_icmp .le 8, 3) := by decide +kernel
theorem dX6_want_30 : decode cX6_want 30 = .ok (.aload_n 0, 1) := by decide +kernel
theorem dX6_want_31 : decode cX6_want 31 = .ok (.iconst 3, 1) := by decide +kernel
theorem dX6_want_32 : decode cX6_want 32 = .ok (.putfield 72, 3) := by decide +kernel
theorem dX6_want_35 : decode cX6_want 35 = .ok (.aload_n 0, 1) := by decide +kernel
theorem dX6_want_36 : decode cX6_want 36 = .ok (.getfield 72, 3) := by decide +kernel
theorem dX6_want_39 : decode cX6_want 39 = .ok (.ifCond .ne 10, 3) := by decide +kernel
theorem dX6_want_42 : decode cX6_want 42 = .ok (.aload_n 0, 1) := by decide +kernel
theorem dX6_want_43 : decode cX6_want 43 = .ok (.getfield 57, 3) := by decide +kernel
theorem dX6_want_46 : decode cX6_want 46 = .ok (.iload_n 1, 1) := by decide +kernel
theorem dX6_want_47 : decode cX6_want 47 = .ok (.iload_n 2, 1) := by decide +kernel
theorem dX6_want_48 : decode cX6_want 48 = .ok (.iastore, 1) := by decide +kernel
theorem dX6_want_49 : decode cX6_want 49 = .ok (.return_, 1) := by decide +kernel
theorem dX6_inflow_0 : decode cX6_inflow 0 = .ok (.aload_n 0, 1) := by decide +kernel
theorem dX6_inflow_1 : decode cX6_inflow 1 = .ok (.aload_n 0, 1) := by decide +kernel
theorem dX6_inflow_2 : decode cX6_inflow 2 = .ok (.iload_n 1, 1) := by decide +kernel
theorem dX6_inflow_3 : decode cX6_inflow 3 = .ok (.invokevirtual 96, 3) := by decide +kernel
theorem dX6_inflow_6 : decode cX6_inflow 6 = .ok (.putfield 72, 3) := by decide +kernel
theorem dX6_inflow_9 : decode cX6_inflow 9 = .ok (.aload_n 0, 1) := by decide +kernel
theorem dX6_inflow_10 : decode cX6_inflow 10 = .ok (.getfield 72, 3) := by decide +kernel
theorem dX6_inflow_13 : decode cX6_inflow 13 = .ok (.ifCond .ne 18, 3) := by decide +kernel
theorem dX6_inflow_16 : decode cX6_inflow 16 = .ok (.iload_n 2, 1) := by decide +kernel
theorem dX6_inflow_17 : decode cX6_inflow 17 = .ok (.ifCond .lt 9, 3) := by decide +kernel
theorem dX6_inflow_20 : decode cX6_inflow 20 = .ok (.iload_n 2, 1) := by decide +kernel
theorem dX6_inflow_21 : decode cX6_inflow 21 = .ok (.ldc 80, 2) := by decide +kernel
theorem dX6_inflow_23 : decode cX6_inflow 23 = .ok (.if_icmp .le 8, 3) := by decide +kernel
theorem dX6_inflow_26 : decode cX6_inflow 26 = .ok (.aload_n 0, 1) := by decide +kernel
theorem dX6_inflow_27 : decode cX6_inflow 27 = .ok (.iconst 3, 1) := by decide +kernel
theorem dX6_inflow_28 : decode cX6_inflow 28 = .ok (.putfield 72, 3) := by decide +kernel
theorem dX6_inflow_31 : decode cX6_inflow 31 = .ok (.aload_n 0, 1) := by decide +kernel
theorem dX6_inflow_32 : decode cX6_inflow 32 = .ok (.getfield 72, 3) := by decide +kernel
theorem dX6_inflow_35 : decode cX6_inflow 35 = .ok (.ifCond .ne 10, 3) := by decide +kernel
theorem dX6_inflow_38 : decode cX6_inflow 38 = .ok (.aload_n 0, 1) := by decide +kernel
theorem dX6_inflow_39 : decode cX6_inflow 39 = .ok (.getfield 17, 3) := by decide +kernel
theorem dX6_inflow_42 : decode cX6_inflow 42 = .ok (.iload_n 1, 1) := by decide +kernel
theorem dX6_inflow_43 : decode cX6_inflow 43 = .ok (.iload_n 2, 1) := by decide +kernel
theorem dX6_inflow_44 : decode cX6_inflow 44 = .ok (.iastore, 1) := by decide +kernel
theorem dX6_inflow_45 : decode cX6_inflow 45 = .ok (.return_, 1) := by decide +kernel
theorem dX6_wrongReach_0 : decode cX6_wrongReach 0 = .ok (.iload_n 1, 1) := by decide +kernel
theorem dX6_wrongReach_1 : decode cX6_wrongReach 1 = .ok (.bipush 32, 2) := by decide +kernel
theorem dX6_wrongReach_3 : decode cX6_wrongReach 3 = .ok (.invokestatic 76, 3) := by decide +kernel
theorem dX6_wrongReach_6 : decode cX6_wrongReach 6 = .ok (.ifCond .ne 7, 3) := by decide +kernel
theorem dX6_wrongReach_9 : decode cX6_wrongReach 9 = .ok (.iconst 1, 1) := by decide +kernel
theorem dX6_wrongReach_10 : decode cX6_wrongReach 10 = .ok (.goto 17, 3) := by decide +kernel
theorem dX6_wrongReach_13 : decode cX6_wrongReach 13 = .ok (.aload_n 0, 1) := by decide +kernel
theorem dX6_wrongReach_14 : decode cX6_wrongReach 14 = .ok (.getfield 7, 3) := by decide +kernel
theorem dX6_wrongReach_17 : decode cX6_wrongReach 17 = .ok (.iload_n 1, 1) := by decide +kernel
theorem dX6_wrongReach_18 : decode cX6_wrongReach 18 = .ok (.baload, 1) := by decide +kernel
theorem dX6_wrongReach_19 : decode cX6_wrongReach 19 = .ok (.ifCond .eq 7, 3) := by decide +kernel
theorem dX6_wrongReach_22 : decode cX6_wrongReach 22 = .ok (.iconst 0, 1) := by decide +kernel
theorem dX6_wrongReach_23 : decode cX6_wrongReach 23 = .ok (.goto 4, 3) := by decide +kernel
theorem dX6_wrongReach_26 : decode cX6_wrongReach 26 = .ok (.iconst 2, 1) := by decide +kernel
theorem dX6_wrongReach_27 : decode cX6_wrongReach 27 = .ok (.ireturn, 1) := by decide +kernel
theorem dX6_release_0 : decode cX6_release 0 = .ok (.aload_n 0, 1) := by decide +kernel
theorem dX6_release_1 : decode cX6_release 1 = .ok (.iload_n 1, 1) := by decide +kernel
theorem dX6_release_2 : decode cX6_release 2 = .ok (.bipush 8, 2) := by decide +kernel
theorem dX6_release_4 : decode cX6_release 4 = .ok (.invokestatic 76, 3) := by decide +kernel
theorem dX6_release_7 : decode cX6_release 7 = .ok (.ifCond .eq 12, 3) := by decide +kernel
theorem dX6_release_10 : decode cX6_release 10 = .ok (.iload_n 3, 1) := by decide +kernel
theorem dX6_release_11 : decode cX6_release 11 = .ok (.bipush 32, 2) := by decide +kernel
theorem dX6_release_13 : decode cX6_release 13 = .ok (.invokestatic 76, 3) := by decide +kernel
theorem dX6_release_16 : decode cX6_release 16 = .ok (.ifCond .ne 7, 3) := by decide +kernel
theorem dX6_release_19 : decode cX6_release 19 = .ok (.iconst 1, 1) := by decide +kernel
theorem dX6_release_20 : decode cX6_release 20 = .ok (.goto 26, 3) := by decide +kernel
theorem dX6_release_23 : decode cX6_release 23 = .ok (.aload_n 0, 1) := by decide +kernel
theorem dX6_release_24 : decode cX6_release 24 = .ok (.getfield 20, 3) := by decide +kernel
theorem dX6_release_27 : decode cX6_release 27 = .ok (.iload_n 1, 1) := by decide +kernel
theorem dX6_release_28 : decode cX6_release 28 = .ok (.baload, 1) := by decide +kernel
theorem dX6_release_29 : decode cX6_release 29 = .ok (.ifCond .eq 12, 3) := by decide +kernel
theorem dX6_release_32 : decode cX6_release 32 = .ok (.aload_n 0, 1) := by decide +kernel
theorem dX6_release_33 : decode cX6_release 33 = .ok (.getfield 7, 3) := by decide +kernel
theorem dX6_release_36 : decode cX6_release 36 = .ok (.iload_n 3, 1) := by decide +kernel
theorem dX6_release_37 : decode cX6_release 37 = .ok (.baload, 1) := by decide +kernel
theorem dX6_release_38 : decode cX6_release 38 = .ok (.ifCond .ne 7, 3) := by decide +kernel
theorem dX6_release_41 : decode cX6_release 41 = .ok (.iconst 2, 1) := by decide +kernel
theorem dX6_release_42 : decode cX6_release 42 = .ok (.goto 4, 3) := by decide +kernel
theorem dX6_release_45 : decode cX6_release 45 = .ok (.iconst 0, 1) := by decide +kernel
theorem dX6_release_46 : decode cX6_release 46 = .ok (.putfield 72, 3) := by decide +kernel
theorem dX6_release_49 : decode cX6_release 49 = .ok (.aload_n 0, 1) := by decide +kernel
theorem dX6_release_50 : decode cX6_release 50 = .ok (.getfield 72, 3) := by decide +kernel
theorem dX6_release_53 : decode cX6_release 53 = .ok (.ifCond .ne 44, 3) := by decide +kernel
theorem dX6_release_56 : decode cX6_release 56 = .ok (.aload_n 0, 1) := by decide +kernel
theorem dX6_release_57 : decode cX6_release 57 = .ok (.iload_n 2, 1) := by decide +kernel
theorem dX6_release_58 : decode cX6_release 58 = .ok (.ifCond .lt 17, 3) := by decide +kernel
theorem dX6_release_61 : decode cX6_release 61 = .ok (.aload_n 0, 1) := by decide +kernel
theorem dX6_release_62 : decode cX6_release 62 = .ok (.aload_n 0, 1) := by decide +kernel
theorem dX6_release_63 : decode cX6_release 63 = .ok (.getfield 23, 3) := by decide +kernel
theorem dX6_release_66 : decode cX6_release 66 = .ok (.iload_n 1, 1) := by decide +kernel
theorem dX6_release_67 : decode cX6_release 67 = .ok (.iaload, 1) := by decide +kernel
theorem dX6_release_68 : decode cX6_release 68 = .ok (.iload_n 3, 1) := by decide +kernel
theorem dX6_release_69 : decode cX6_release 69 = .ok (.invokevirtual 82, 3) := by decide +kernel
theorem dX6_release_72 : decode cX6_release 72 = .ok (.ifCond .ne 7, 3) := by decide +kernel
theorem dX6_release_75 : decode cX6_release 75 = .ok (.iconst 3, 1) := by decide +kernel
theorem dX6_release_76 : decode cX6_release 76 = .ok (.goto 18, 3) := by decide +kernel
theorem dX6_release_79 : decode cX6_release 79 = .ok (.iload_n 2, 1) := by decide +kernel
theorem dX6_release_80 : decode cX6_release 80 = .ok (.aload_n 0, 1) := by decide +kernel
theorem dX6_release_81 : decode cX6_release 81 = .ok (.getfield 29, 3) := by decide +kernel
theorem dX6_release_84 : decode cX6_release 84 = .ok (.iload_n 1, 1) := by decide +kernel
theorem dX6_release_85 : decode cX6_release 85 = .ok (.iaload, 1) := by decide +kernel
theorem dX6_release_86 : decode cX6_release 86 = .ok (.if_icmp .le 7, 3) := by decide +kernel
theorem dX6_release_89 : decode cX6_release 89 = .ok (.iconst 4, 1) := by decide +kernel
theorem dX6_release_90 : decode cX6_release 90 = .ok (.goto 4, 3) := by decide +kernel
theorem dX6_release_93 : decode cX6_release 93 = .ok (.iconst 0, 1) := by decide +kernel
theorem dX6_release_94 : decode cX6_release 94 = .ok (.putfield 72, 3) := by decide +kernel
theorem dX6_release_97 : decode cX6_release 97 = .ok (.aload_n 0, 1) := by decide +kernel
theorem dX6_release_98 : decode cX6_release 98 = .ok (.getfield 72, 3) := by decide +kernel
theorem dX6_release_101 : decode cX6_release 101 = .ok (.ifCond .le 5, 3) := by decide +kernel
theorem dX6_release_104 : decode cX6_release 104 = .ok (.iconst 0, 1) := by decide +kernel
theorem dX6_release_105 : decode cX6_release 105 = .ok (.ireturn, 1) := by decide +kernel
theorem dX6_release_106 : decode cX6_release 106 = .ok (.aload_n 0, 1) := by decide +kernel
theorem dX6_release_107 : decode cX6_release 107 = .ok (.getfield 29, 3) := by decide +kernel
theorem dX6_release_110 : decode cX6_release 110 = .ok (.iload_n 1, 1) := by decide +kernel
theorem dX6_release_111 : decode cX6_release 111 = .ok (.dup2, 1) := by decide +kernel
theorem dX6_release_112 : decode cX6_release 112 = .ok (.iaload, 1) := by decide +kernel
theorem dX6_release_113 : decode cX6_release 113 = .ok (.iload_n 2, 1) := by decide +kernel
theorem dX6_release_114 : decode cX6_release 114 = .ok (.isub, 1) := by decide +kernel
theorem dX6_release_115 : decode cX6_release 115 = .ok (.iastore, 1) := by decide +kernel
theorem dX6_release_116 : decode cX6_release 116 = .ok (.aload_n 0, 1) := by decide +kernel
theorem dX6_release_117 : decode cX6_release 117 = .ok (.getfield 32, 3) := by decide +kernel
theorem dX6_release_120 : decode cX6_release 120 = .ok (.bipush 32, 2) := by decide +kernel
theorem dX6_release_122 : decode cX6_release 122 = .ok (.iload_n 1, 1) := by decide +kernel
theorem dX6_release_123 : decode cX6_release 123 = .ok (.imul, 1) := by decide +kernel
theorem dX6_release_124 : decode cX6_release 124 = .ok (.iload_n 3, 1) := by decide +kernel
theorem dX6_release_125 : decode cX6_release 125 = .ok (.iadd, 1) := by decide +kernel
theorem dX6_release_126 : decode cX6_release 126 = .ok (.dup2, 1) := by decide +kernel
theorem dX6_release_127 : decode cX6_release 127 = .ok (.laload, 1) := by decide +kernel
theorem dX6_release_128 : decode cX6_release 128 = .ok (.iload_n 2, 1) := by decide +kernel
theorem dX6_release_129 : decode cX6_release 129 = .ok (.i2l, 1) := by decide +kernel
theorem dX6_release_130 : decode cX6_release 130 = .ok (.ladd, 1) := by decide +kernel
theorem dX6_release_131 : decode cX6_release 131 = .ok (.lastore, 1) := by decide +kernel
theorem dX6_release_132 : decode cX6_release 132 = .ok (.aload_n 0, 1) := by decide +kernel
theorem dX6_release_133 : decode cX6_release 133 = .ok (.getfield 29, 3) := by decide +kernel
theorem dX6_release_136 : decode cX6_release 136 = .ok (.iload_n 1, 1) := by decide +kernel
theorem dX6_release_137 : decode cX6_release 137 = .ok (.iaload, 1) := by decide +kernel
theorem dX6_release_138 : decode cX6_release 138 = .ok (.ireturn, 1) := by decide +kernel
theorem dX6_plan_0 : decode cX6_plan 0 = .ok (.aload_n 0, 1) := by decide +kernel
theorem dX6_plan_1 : decode cX6_plan 1 = .ok (.iconst 0, 1) := by decide +kernel
theorem dX6_plan_2 : decode cX6_plan 2 = .ok (.putfield 72, 3) := by decide +kernel
theorem dX6_plan_5 : decode cX6_plan 5 = .ok (.aload_n 0, 1) := by decide +kernel
theorem dX6_plan_6 : decode cX6_plan 6 = .ok (.iconst (-1), 1) := by decide +kernel
theorem dX6_plan_7 : decode cX6_plan 7 = .ok (.iconst (-1), 1) := by decide +kernel
theorem dX6_plan_8 : decode cX6_plan 8 = .ok (.iconst 0, 1) := by decide +kernel
theorem dX6_plan_9 : decode cX6_plan 9 = .ok (.invokevirtual 119, 3) := by decide +kernel
theorem dX6_plan_12 : decode cX6_plan 12 = .ok (.pop, 1) := by decide +kernel
theorem dX6_plan_13 : decode cX6_plan 13 = .ok (.iconst 0, 1) := by decide +kernel
theorem dX6_plan_14 : decode cX6_plan 14 = .ok (.istore_n 1, 1) := by decide +kernel
theorem dX6_plan_15 : decode cX6_plan 15 = .ok (.iconst 0, 1) := by decide +kernel
theorem dX6_plan_16 : decode cX6_plan 16 = .ok (.istore_n 2, 1) := by decide +kernel
theorem dX6_plan_17 : decode cX6_plan 17 = .ok (.iload_n 2, 1) := by decide +kernel
theorem dX6_plan_18 : decode cX6_plan 18 = .ok (.aload_n 0, 1) := by decide +kernel
theorem dX6_plan_19 : decode cX6_plan 19 = .ok (.getfield 109, 3) := by decide +kernel
theorem dX6_plan_22 : decode cX6_plan 22 = .ok (.if_icmp .ge 30, 3) := by decide +kernel
theorem dX6_plan_25 : decode cX6_plan 25 = .ok (.aload_n 0, 1) := by decide +kernel
theorem dX6_plan_26 : decode cX6_plan 26 = .ok (.aload_n 0, 1) := by decide +kernel
theorem dX6_plan_27 : decode cX6_plan 27 = .ok (.getfield 69, 3) := by decide +kernel
theorem dX6_plan_30 : decode cX6_plan 30 = .ok (.iload_n 2, 1) := by decide +kernel
theorem dX6_plan_31 : decode cX6_plan 31 = .ok (.iaload, 1) := by decide +kernel
theorem dX6_plan_32 : decode cX6_plan 32 = .ok (.invokevirtual 123, 3) := by decide +kernel
theorem dX6_plan_35 : decode cX6_plan 35 = .ok (.ifCond .eq 9, 3) := by decide +kernel
theorem dX6_plan_38 : decode cX6_plan 38 = .ok (.iload_n 1, 1) := by decide +kernel
theorem dX6_plan_39 : decode cX6_plan 39 = .ok (.iconst 1, 1) := by decide +kernel
theorem dX6_plan_40 : decode cX6_plan 40 = .ok (.iadd, 1) := by decide +kernel
theorem dX6_plan_41 : decode cX6_plan 41 = .ok (.goto 4, 3) := by decide +kernel
theorem dX6_plan_44 : decode cX6_plan 44 = .ok (.iload_n 1, 1) := by decide +kernel
theorem dX6_plan_45 : decode cX6_plan 45 = .ok (.istore_n 1, 1) := by decide +kernel
theorem dX6_plan_46 : decode cX6_plan 46 = .ok (.iinc 2 1, 3) := by decide +kernel
theorem dX6_plan_49 : decode cX6_plan 49 = .ok (.goto (-32), 3) := by decide +kernel
theorem dX6_plan_52 : decode cX6_plan 52 = .ok (.iload_n 1, 1) := by decide +kernel
theorem dX6_plan_53 : decode cX6_plan 53 = .ok (.ireturn, 1) := by decide +kernel
theorem dX6_make_0 : decode cX6_make 0 = .ok (.aload_n 0, 1) := by decide +kernel
theorem dX6_make_1 : decode cX6_make 1 = .ok (.invokevirtual 112, 3) := by decide +kernel
theorem dX6_make_4 : decode cX6_make 4 = .ok (.iconst 0, 1) := by decide +kernel
theorem dX6_make_5 : decode cX6_make 5 = .ok (.istore 4, 2) := by decide +kernel
theorem dX6_make_7 : decode cX6_make 7 = .ok (.iload 4, 2) := by decide +kernel
theorem dX6_make_9 : decode cX6_make 9 = .ok (.bipush 40, 2) := by decide +kernel
theorem dX6_make_11 : decode cX6_make 11 = .ok (.if_icmp .ge 17, 3) := by decide +kernel
theorem dX6_make_14 : decode cX6_make 14 = .ok (.aload_n 0, 1) := by decide +kernel
theorem dX6_make_15 : decode cX6_make 15 = .ok (.getfield 63, 3) := by decide +kernel
theorem dX6_make_18 : decode cX6_make 18 = .ok (.iload 4, 2) := by decide +kernel
theorem dX6_make_20 : decode cX6_make 20 = .ok (.iconst 0, 1) := by decide +kernel
theorem dX6_make_21 : decode cX6_make 21 = .ok (.iastore, 1) := by decide +kernel
theorem dX6_make_22 : decode cX6_make 22 = .ok (.iinc 4 1, 3) := by decide +kernel
theorem dX6_make_25 : decode cX6_make 25 = .ok (.goto (-18), 3) := by decide +kernel
theorem dX6_make_28 : decode cX6_make 28 = .ok (.iload_n 2, 1) := by decide +kernel
theorem dX6_make_29 : decode cX6_make 29 = .ok (.ifCond .lt 20, 3) := by decide +kernel
theorem dX6_make_32 : decode cX6_make 32 = .ok (.aload_n 0, 1) := by decide +kernel
theorem dX6_make_33 : decode cX6_make 33 = .ok (.getfield 63, 3) := by decide +kernel
theorem dX6_make_36 : decode cX6_make 36 = .ok (.iload_n 2, 1) := by decide +kernel
theorem dX6_make_37 : decode cX6_make 37 = .ok (.iload_n 3, 1) := by decide +kernel
theorem dX6_make_38 : decode cX6_make 38 = .ok (.iastore, 1) := by decide +kernel
theorem dX6_make_39 : decode cX6_make 39 = .ok (.aload_n 0, 1) := by decide +kernel
theorem dX6_make_40 : decode cX6_make 40 = .ok (.iload_n 2, 1) := by decide +kernel
theorem dX6_make_41 : decode cX6_make 41 = .ok (.invokevirtual 115, 3) := by decide +kernel
theorem dX6_make_44 : decode cX6_make 44 = .ok (.ifCond .ne 5, 3) := by decide +kernel
theorem dX6_make_47 : decode cX6_make 47 = .ok (.iconst 0, 1) := by decide +kernel
theorem dX6_make_48 : decode cX6_make 48 = .ok (.ireturn, 1) := by decide +kernel
theorem dX6_make_49 : decode cX6_make 49 = .ok (.iconst 0, 1) := by decide +kernel
theorem dX6_make_50 : decode cX6_make 50 = .ok (.istore 4, 2) := by decide +kernel
theorem dX6_make_52 : decode cX6_make 52 = .ok (.iload 4, 2) := by decide +kernel
theorem dX6_make_54 : decode cX6_make 54 = .ok (.aload_n 0, 1) := by decide +kernel
theorem dX6_make_55 : decode cX6_make 55 = .ok (.getfield 109, 3) := by decide +kernel
theorem dX6_make_58 : decode cX6_make 58 = .ok (.if_icmp .ge 115, 3) := by decide +kernel
theorem dX6_make_61 : decode cX6_make 61 = .ok (.aload_n 0, 1) := by decide +kernel
theorem dX6_make_62 : decode cX6_make 62 = .ok (.getfield 69, 3) := by decide +kernel
theorem dX6_make_65 : decode cX6_make 65 = .ok (.iload 4, 2) := by decide +kernel
theorem dX6_make_67 : decode cX6_make 67 = .ok (.iaload, 1) := by decide +kernel
theorem dX6_make_68 : decode cX6_make 68 = .ok (.istore 5, 2) := by decide +kernel
theorem dX6_make_70 : decode cX6_make 70 = .ok (.iload 5, 2) := by decide +kernel
theorem dX6_make_72 : decode cX6_make 72 = .ok (.iload_n 1, 1) := by decide +kernel
theorem dX6_make_73 : decode cX6_make 73 = .ok (.if_icmp .eq 94, 3) := by decide +kernel
theorem dX6_make_76 : decode cX6_make 76 = .ok (.iload 5, 2) := by decide +kernel
theorem dX6_make_78 : decode cX6_make 78 = .ok (.iload_n 2, 1) := by decide +kernel
theorem dX6_make_79 : decode cX6_make 79 = .ok (.if_icmp .ne 6, 3) := by decide +kernel
theorem dX6_make_82 : decode cX6_make 82 = .ok (.goto 85, 3) := by decide +kernel
theorem dX6_make_85 : decode cX6_make 85 = .ok (.iconst 0, 1) := by decide +kernel
theorem dX6_make_86 : decode cX6_make 86 = .ok (.istore 6, 2) := by decide +kernel
theorem dX6_make_88 : decode cX6_make 88 = .ok (.aload_n 0, 1) := by decide +kernel
theorem dX6_make_89 : decode cX6_make 89 = .ok (.getfield 57, 3) := by decide +kernel
theorem dX6_make_92 : decode cX6_make 92 = .ok (.iload 5, 2) := by decide +kernel
theorem dX6_make_94 : decode cX6_make 94 = .ok (.iaload, 1) := by decide +kernel
theorem dX6_make_95 : decode cX6_make 95 = .ok (.iconst 1, 1) := by decide +kernel
theorem dX6_make_96 : decode cX6_make 96 = .ok (.iadd, 1) := by decide +kernel
theorem dX6_make_97 : decode cX6_make 97 = .ok (.istore 7, 2) := by decide +kernel
theorem dX6_make_99 : decode cX6_make 99 = .ok (.iload 7, 2) := by decide +kernel
theorem dX6_make_101 : decode cX6_make 101 = .ok (.iload 6, 2) := by decide +kernel
theorem dX6_make_103 : decode cX6_make 103 = .ok (.isub, 1) := by decide +kernel
theorem dX6_make_104 : decode cX6_make 104 = .ok (.iconst 1, 1) := by decide +kernel
theorem dX6_make_105 : decode cX6_make 105 = .ok (.if_icmp .le 53, 3) := by decide +kernel
theorem dX6_make_108 : decode cX6_make 108 = .ok (.aload_n 0, 1) := by decide +kernel
theorem dX6_make_109 : decode cX6_make 109 = .ok (.getfield 63, 3) := by decide +kernel
end
section
theorem dX6_make_112 : decode cX6_make 112 = .ok (.iload 5, 2) := by decide +kernel
theorem dX6_make_114 : decode cX6_make 114 = .ok (.iload 6, 2) := by decide +kernel
theorem dX6_make_116 : decode cX6_make 116 = .ok (.iload 7, 2) := by decide +kernel
theorem dX6_make_118 : decode cX6_make 118 = .ok (.iload 6, 2) := by decide +kernel
theorem dX6_make_120 : decode cX6_make 120 = .ok (.isub, 1) := by decide +kernel
theorem dX6_make_121 : decode cX6_make 121 = .ok (.iconst 2, 1) := by decide +kernel
theorem dX6_make_122 : decode cX6_make 122 = .ok (.idiv, 1) := by decide +kernel
theorem dX6_make_123 : decode cX6_make 123 = .ok (.iadd, 1) := by decide +kernel
theorem dX6_make_124 : decode cX6_make 124 = .ok (.iastore, 1) := by decide +kernel
theorem dX6_make_125 : decode cX6_make 125 = .ok (.aload_n 0, 1) := by decide +kernel
theorem dX6_make_126 : decode cX6_make 126 = .ok (.iload 5, 2) := by decide +kernel
theorem dX6_make_128 : decode cX6_make 128 = .ok (.invokevirtual 115, 3) := by decide +kernel
theorem dX6_make_131 : decode cX6_make 131 = .ok (.ifCond .eq 15, 3) := by decide +kernel
theorem dX6_make_134 : decode cX6_make 134 = .ok (.aload_n 0, 1) := by decide +kernel
theorem dX6_make_135 : decode cX6_make 135 = .ok (.getfield 63, 3) := by decide +kernel
theorem dX6_make_138 : decode cX6_make 138 = .ok (.iload 5, 2) := by decide +kernel
theorem dX6_make_140 : decode cX6_make 140 = .ok (.iaload, 1) := by decide +kernel
theorem dX6_make_141 : decode cX6_make 141 = .ok (.istore 6, 2) := by decide +kernel
theorem dX6_make_143 : decode cX6_make 143 = .ok (.goto (-44), 3) := by decide +kernel
theorem dX6_make_146 : decode cX6_make 146 = .ok (.aload_n 0, 1) := by decide +kernel
theorem dX6_make_147 : decode cX6_make 147 = .ok (.getfield 63, 3) := by decide +kernel
theorem dX6_make_150 : decode cX6_make 150 = .ok (.iload 5, 2) := by decide +kernel
theorem dX6_make_152 : decode cX6_make 152 = .ok (.iaload, 1) := by decide +kernel
theorem dX6_make_153 : decode cX6_make 153 = .ok (.istore 7, 2) := by decide +kernel
theorem dX6_make_155 : decode cX6_make 155 = .ok (.goto (-56), 3) := by decide +kernel
theorem dX6_make_158 : decode cX6_make 158 = .ok (.aload_n 0, 1) := by decide +kernel
theorem dX6_make_159 : decode cX6_make 159 = .ok (.getfield 63, 3) := by decide +kernel
theorem dX6_make_162 : decode cX6_make 162 = .ok (.iload 5, 2) := by decide +kernel
theorem dX6_make_164 : decode cX6_make 164 = .ok (.iload 6, 2) := by decide +kernel
theorem dX6_make_166 : decode cX6_make 166 = .ok (.iastore, 1) := by decide +kernel
theorem dX6_make_167 : decode cX6_make 167 = .ok (.iinc 4 1, 3) := by decide +kernel
theorem dX6_make_170 : decode cX6_make 170 = .ok (.goto (-118), 3) := by decide +kernel
theorem dX6_make_173 : decode cX6_make 173 = .ok (.iconst 1, 1) := by decide +kernel
theorem dX6_make_174 : decode cX6_make 174 = .ok (.ireturn, 1) := by decide +kernel
theorem dX6_age_0 : decode cX6_age 0 = .ok (.aload_n 0, 1) := by decide +kernel
theorem dX6_age_1 : decode cX6_age 1 = .ok (.iconst 0, 1) := by decide +kernel
theorem dX6_age_2 : decode cX6_age 2 = .ok (.putfield 109, 3) := by decide +kernel
theorem dX6_age_5 : decode cX6_age 5 = .ok (.iconst 0, 1) := by decide +kernel
theorem dX6_age_6 : decode cX6_age 6 = .ok (.istore_n 1, 1) := by decide +kernel
theorem dX6_age_7 : decode cX6_age 7 = .ok (.iconst 1, 1) := by decide +kernel
theorem dX6_age_8 : decode cX6_age 8 = .ok (.istore_n 2, 1) := by decide +kernel
theorem dX6_age_9 : decode cX6_age 9 = .ok (.iload_n 2, 1) := by decide +kernel
theorem dX6_age_10 : decode cX6_age 10 = .ok (.ifCond .eq 109, 3) := by decide +kernel
theorem dX6_age_13 : decode cX6_age 13 = .ok (.iconst (-1), 1) := by decide +kernel
theorem dX6_age_14 : decode cX6_age 14 = .ok (.istore_n 3, 1) := by decide +kernel
theorem dX6_age_15 : decode cX6_age 15 = .ok (.iconst 0, 1) := by decide +kernel
theorem dX6_age_16 : decode cX6_age 16 = .ok (.istore 4, 2) := by decide +kernel
theorem dX6_age_18 : decode cX6_age 18 = .ok (.iload 4, 2) := by decide +kernel
theorem dX6_age_20 : decode cX6_age 20 = .ok (.bipush 40, 2) := by decide +kernel
theorem dX6_age_22 : decode cX6_age 22 = .ok (.if_icmp .ge 53, 3) := by decide +kernel
theorem dX6_age_25 : decode cX6_age 25 = .ok (.aload_n 0, 1) := by decide +kernel
theorem dX6_age_26 : decode cX6_age 26 = .ok (.getfield 36, 3) := by decide +kernel
theorem dX6_age_29 : decode cX6_age 29 = .ok (.iload 4, 2) := by decide +kernel
theorem dX6_age_31 : decode cX6_age 31 = .ok (.baload, 1) := by decide +kernel
theorem dX6_age_32 : decode cX6_age 32 = .ok (.ifCond .eq 37, 3) := by decide +kernel
theorem dX6_age_35 : decode cX6_age 35 = .ok (.aload_n 0, 1) := by decide +kernel
theorem dX6_age_36 : decode cX6_age 36 = .ok (.getfield 42, 3) := by decide +kernel
theorem dX6_age_39 : decode cX6_age 39 = .ok (.iload 4, 2) := by decide +kernel
theorem dX6_age_41 : decode cX6_age 41 = .ok (.iaload, 1) := by decide +kernel
theorem dX6_age_42 : decode cX6_age 42 = .ok (.iload_n 1, 1) := by decide +kernel
theorem dX6_age_43 : decode cX6_age 43 = .ok (.if_icmp .le 26, 3) := by decide +kernel
theorem dX6_age_46 : decode cX6_age 46 = .ok (.iload_n 3, 1) := by decide +kernel
theorem dX6_age_47 : decode cX6_age 47 = .ok (.ifCond .lt 19, 3) := by decide +kernel
theorem dX6_age_50 : decode cX6_age 50 = .ok (.aload_n 0, 1) := by decide +kernel
theorem dX6_age_51 : decode cX6_age 51 = .ok (.getfield 42, 3) := by decide +kernel
theorem dX6_age_54 : decode cX6_age 54 = .ok (.iload 4, 2) := by decide +kernel
theorem dX6_age_56 : decode cX6_age 56 = .ok (.iaload, 1) := by decide +kernel
theorem dX6_age_57 : decode cX6_age 57 = .ok (.aload_n 0, 1) := by decide +kernel
theorem dX6_age_58 : decode cX6_age 58 = .ok (.getfield 42, 3) := by decide +kernel
theorem dX6_age_61 : decode cX6_age 61 = .ok (.iload_n 3, 1) := by decide +kernel
theorem dX6_age_62 : decode cX6_age 62 = .ok (.iaload, 1) := by decide +kernel
theorem dX6_age_63 : decode cX6_age 63 = .ok (.if_icmp .ge 6, 3) := by decide +kernel
theorem dX6_age_66 : decode cX6_age 66 = .ok (.iload 4, 2) := by decide +kernel
theorem dX6_age_68 : decode cX6_age 68 = .ok (.istore_n 3, 1) := by decide +kernel
theorem dX6_age_69 : decode cX6_age 69 = .ok (.iinc 4 1, 3) := by decide +kernel
theorem dX6_age_72 : decode cX6_age 72 = .ok (.goto (-54), 3) := by decide +kernel
theorem dX6_age_75 : decode cX6_age 75 = .ok (.iload_n 3, 1) := by decide +kernel
theorem dX6_age_76 : decode cX6_age 76 = .ok (.ifCond .lt 7, 3) := by decide +kernel
theorem dX6_age_79 : decode cX6_age 79 = .ok (.iconst 1, 1) := by decide +kernel
theorem dX6_age_80 : decode cX6_age 80 = .ok (.goto 4, 3) := by decide +kernel
theorem dX6_age_83 : decode cX6_age 83 = .ok (.iconst 0, 1) := by decide +kernel
theorem dX6_age_84 : decode cX6_age 84 = .ok (.istore_n 2, 1) := by decide +kernel
theorem dX6_age_85 : decode cX6_age 85 = .ok (.iload_n 2, 1) := by decide +kernel
theorem dX6_age_86 : decode cX6_age 86 = .ok (.ifCond .eq 30, 3) := by decide +kernel
theorem dX6_age_89 : decode cX6_age 89 = .ok (.aload_n 0, 1) := by decide +kernel
theorem dX6_age_90 : decode cX6_age 90 = .ok (.getfield 69, 3) := by decide +kernel
theorem dX6_age_93 : decode cX6_age 93 = .ok (.aload_n 0, 1) := by decide +kernel
theorem dX6_age_94 : decode cX6_age 94 = .ok (.getfield 109, 3) := by decide +kernel
theorem dX6_age_97 : decode cX6_age 97 = .ok (.iload_n 3, 1) := by decide +kernel
theorem dX6_age_98 : decode cX6_age 98 = .ok (.iastore, 1) := by decide +kernel
theorem dX6_age_99 : decode cX6_age 99 = .ok (.aload_n 0, 1) := by decide +kernel
theorem dX6_age_100 : decode cX6_age 100 = .ok (.dup, 1) := by decide +kernel
theorem dX6_age_101 : decode cX6_age 101 = .ok (.getfield 109, 3) := by decide +kernel
theorem dX6_age_104 : decode cX6_age 104 = .ok (.iconst 1, 1) := by decide +kernel
theorem dX6_age_105 : decode cX6_age 105 = .ok (.iadd, 1) := by decide +kernel
theorem dX6_age_106 : decode cX6_age 106 = .ok (.putfield 109, 3) := by decide +kernel
theorem dX6_age_109 : decode cX6_age 109 = .ok (.aload_n 0, 1) := by decide +kernel
theorem dX6_age_110 : decode cX6_age 110 = .ok (.getfield 42, 3) := by decide +kernel
theorem dX6_age_113 : decode cX6_age 113 = .ok (.iload_n 3, 1) := by decide +kernel
theorem dX6_age_114 : decode cX6_age 114 = .ok (.iaload, 1) := by decide +kernel
theorem dX6_age_115 : decode cX6_age 115 = .ok (.istore_n 1, 1) := by decide +kernel
theorem dX6_age_116 : decode cX6_age 116 = .ok (.goto (-107), 3) := by decide +kernel
theorem dX6_age_119 : decode cX6_age 119 = .ok (.return_, 1) := by decide +kernel
theorem dX6_holdsPlan_0 : decode cX6_holdsPlan 0 = .ok (.iconst 1, 1) := by decide +kernel
theorem dX6_holdsPlan_1 : decode cX6_holdsPlan 1 = .ok (.istore_n 2, 1) := by decide +kernel
theorem dX6_holdsPlan_2 : decode cX6_holdsPlan 2 = .ok (.aload_n 0, 1) := by decide +kernel
theorem dX6_holdsPlan_3 : decode cX6_holdsPlan 3 = .ok (.getfield 39, 3) := by decide +kernel
theorem dX6_holdsPlan_6 : decode cX6_holdsPlan 6 = .ok (.iload_n 1, 1) := by decide +kernel
theorem dX6_holdsPlan_7 : decode cX6_holdsPlan 7 = .ok (.iaload, 1) := by decide +kernel
theorem dX6_holdsPlan_8 : decode cX6_holdsPlan 8 = .ok (.istore_n 3, 1) := by decide +kernel
theorem dX6_holdsPlan_9 : decode cX6_holdsPlan 9 = .ok (.iload_n 3, 1) := by decide +kernel
theorem dX6_holdsPlan_10 : decode cX6_holdsPlan 10 = .ok (.ifCond .lt 33, 3) := by decide +kernel
theorem dX6_holdsPlan_13 : decode cX6_holdsPlan 13 = .ok (.iload_n 2, 1) := by decide +kernel
theorem dX6_holdsPlan_14 : decode cX6_holdsPlan 14 = .ok (.ifCond .eq 29, 3) := by decide +kernel
theorem dX6_holdsPlan_17 : decode cX6_holdsPlan 17 = .ok (.aload_n 0, 1) := by decide +kernel
theorem dX6_holdsPlan_18 : decode cX6_holdsPlan 18 = .ok (.iload_n 3, 1) := by decide +kernel
theorem dX6_holdsPlan_19 : decode cX6_holdsPlan 19 = .ok (.invokevirtual 105, 3) := by decide +kernel
theorem dX6_holdsPlan_22 : decode cX6_holdsPlan 22 = .ok (.lconst 0, 1) := by decide +kernel
theorem dX6_holdsPlan_23 : decode cX6_holdsPlan 23 = .ok (.lcmp, 1) := by decide +kernel
theorem dX6_holdsPlan_24 : decode cX6_holdsPlan 24 = .ok (.ifCond .lt 7, 3) := by decide +kernel
theorem dX6_holdsPlan_27 : decode cX6_holdsPlan 27 = .ok (.iconst 1, 1) := by decide +kernel
theorem dX6_holdsPlan_28 : decode cX6_holdsPlan 28 = .ok (.goto 4, 3) := by decide +kernel
theorem dX6_holdsPlan_31 : decode cX6_holdsPlan 31 = .ok (.iconst 0, 1) := by decide +kernel
theorem dX6_holdsPlan_32 : decode cX6_holdsPlan 32 = .ok (.istore_n 2, 1) := by decide +kernel
theorem dX6_holdsPlan_33 : decode cX6_holdsPlan 33 = .ok (.aload_n 0, 1) := by decide +kernel
theorem dX6_holdsPlan_34 : decode cX6_holdsPlan 34 = .ok (.getfield 13, 3) := by decide +kernel
theorem dX6_holdsPlan_37 : decode cX6_holdsPlan 37 = .ok (.iload_n 3, 1) := by decide +kernel
theorem dX6_holdsPlan_38 : decode cX6_holdsPlan 38 = .ok (.iaload, 1) := by decide +kernel
theorem dX6_holdsPlan_39 : decode cX6_holdsPlan 39 = .ok (.istore_n 3, 1) := by decide +kernel
theorem dX6_holdsPlan_40 : decode cX6_holdsPlan 40 = .ok (.goto (-31), 3) := by decide +kernel
theorem dX6_holdsPlan_43 : decode cX6_holdsPlan 43 = .ok (.aload_n 0, 1) := by decide +kernel
theorem dX6_holdsPlan_44 : decode cX6_holdsPlan 44 = .ok (.getfield 54, 3) := by decide +kernel
theorem dX6_holdsPlan_47 : decode cX6_holdsPlan 47 = .ok (.iload_n 1, 1) := by decide +kernel
theorem dX6_holdsPlan_48 : decode cX6_holdsPlan 48 = .ok (.iaload, 1) := by decide +kernel
theorem dX6_holdsPlan_49 : decode cX6_holdsPlan 49 = .ok (.ifCond .lt 7, 3) := by decide +kernel
theorem dX6_holdsPlan_52 : decode cX6_holdsPlan 52 = .ok (.iload_n 2, 1) := by decide +kernel
theorem dX6_holdsPlan_53 : decode cX6_holdsPlan 53 = .ok (.ifCond .ne 5, 3) := by decide +kernel
theorem dX6_holdsPlan_56 : decode cX6_holdsPlan 56 = .ok (.iload_n 2, 1) := by decide +kernel
theorem dX6_holdsPlan_57 : decode cX6_holdsPlan 57 = .ok (.ireturn, 1) := by decide +kernel
theorem dX6_holdsPlan_58 : decode cX6_holdsPlan 58 = .ok (.lconst 0, 1) := by decide +kernel
theorem dX6_holdsPlan_59 : decode cX6_holdsPlan 59 = .ok (.lstore_n 3, 1) := by decide +kernel
theorem dX6_holdsPlan_60 : decode cX6_holdsPlan 60 = .ok (.iconst 0, 1) := by decide +kernel
theorem dX6_holdsPlan_61 : decode cX6_holdsPlan 61 = .ok (.istore 5, 2) := by decide +kernel
theorem dX6_holdsPlan_63 : decode cX6_holdsPlan 63 = .ok (.iload 5, 2) := by decide +kernel
theorem dX6_holdsPlan_65 : decode cX6_holdsPlan 65 = .ok (.bipush 40, 2) := by decide +kernel
theorem dX6_holdsPlan_67 : decode cX6_holdsPlan 67 = .ok (.if_icmp .ge 50, 3) := by decide +kernel
theorem dX6_holdsPlan_70 : decode cX6_holdsPlan 70 = .ok (.aload_n 0, 1) := by decide +kernel
theorem dX6_holdsPlan_71 : decode cX6_holdsPlan 71 = .ok (.getfield 36, 3) := by decide +kernel
theorem dX6_holdsPlan_74 : decode cX6_holdsPlan 74 = .ok (.iload 5, 2) := by decide +kernel
theorem dX6_holdsPlan_76 : decode cX6_holdsPlan 76 = .ok (.baload, 1) := by decide +kernel
theorem dX6_holdsPlan_77 : decode cX6_holdsPlan 77 = .ok (.ifCond .eq 32, 3) := by decide +kernel
theorem dX6_holdsPlan_80 : decode cX6_holdsPlan 80 = .ok (.aload_n 0, 1) := by decide +kernel
theorem dX6_holdsPlan_81 : decode cX6_holdsPlan 81 = .ok (.getfield 54, 3) := by decide +kernel
theorem dX6_holdsPlan_84 : decode cX6_holdsPlan 84 = .ok (.iload 5, 2) := by decide +kernel
theorem dX6_holdsPlan_86 : decode cX6_holdsPlan 86 = .ok (.iaload, 1) := by decide +kernel
theorem dX6_holdsPlan_87 : decode cX6_holdsPlan 87 = .ok (.aload_n 0, 1) := by decide +kernel
theorem dX6_holdsPlan_88 : decode cX6_holdsPlan 88 = .ok (.getfield 54, 3) := by decide +kernel
theorem dX6_holdsPlan_91 : decode cX6_holdsPlan 91 = .ok (.iload_n 1, 1) := by decide +kernel
theorem dX6_holdsPlan_92 : decode cX6_holdsPlan 92 = .ok (.iaload, 1) := by decide +kernel
theorem dX6_holdsPlan_93 : decode cX6_holdsPlan 93 = .ok (.if_icmp .ne 16, 3) := by decide +kernel
theorem dX6_holdsPlan_96 : decode cX6_holdsPlan 96 = .ok (.lload_n 3, 1) := by decide +kernel
theorem dX6_holdsPlan_97 : decode cX6_holdsPlan 97 = .ok (.aload_n 0, 1) := by decide +kernel
theorem dX6_holdsPlan_98 : decode cX6_holdsPlan 98 = .ok (.getfield 63, 3) := by decide +kernel
theorem dX6_holdsPlan_101 : decode cX6_holdsPlan 101 = .ok (.iload 5, 2) := by decide +kernel
theorem dX6_holdsPlan_103 : decode cX6_holdsPlan 103 = .ok (.iaload, 1) := by decide +kernel
theorem dX6_holdsPlan_104 : decode cX6_holdsPlan 104 = .ok (.i2l, 1) := by decide +kernel
theorem dX6_holdsPlan_105 : decode cX6_holdsPlan 105 = .ok (.ladd, 1) := by decide +kernel
theorem dX6_holdsPlan_106 : decode cX6_holdsPlan 106 = .ok (.goto 4, 3) := by decide +kernel
theorem dX6_holdsPlan_109 : decode cX6_holdsPlan 109 = .ok (.lload_n 3, 1) := by decide +kernel
theorem dX6_holdsPlan_110 : decode cX6_holdsPlan 110 = .ok (.lstore_n 3, 1) := by decide +kernel
theorem dX6_holdsPlan_111 : decode cX6_holdsPlan 111 = .ok (.iinc 5 1, 3) := by decide +kernel
theorem dX6_holdsPlan_114 : decode cX6_holdsPlan 114 = .ok (.goto (-51), 3) := by decide +kernel
theorem dX6_holdsPlan_117 : decode cX6_holdsPlan 117 = .ok (.lload_n 3, 1) := by decide +kernel
theorem dX6_holdsPlan_118 : decode cX6_holdsPlan 118 = .ok (.aload_n 0, 1) := by decide +kernel
theorem dX6_holdsPlan_119 : decode cX6_holdsPlan 119 = .ok (.getfield 26, 3) := by decide +kernel
theorem dX6_holdsPlan_122 : decode cX6_holdsPlan 122 = .ok (.aload_n 0, 1) := by decide +kernel
theorem dX6_holdsPlan_123 : decode cX6_holdsPlan 123 = .ok (.getfield 54, 3) := by decide +kernel
theorem dX6_holdsPlan_126 : decode cX6_holdsPlan 126 = .ok (.iload_n 1, 1) := by decide +kernel
theorem dX6_holdsPlan_127 : decode cX6_holdsPlan 127 = .ok (.iaload, 1) := by decide +kernel
theorem dX6_holdsPlan_128 : decode cX6_holdsPlan 128 = .ok (.iaload, 1) := by decide +kernel
theorem dX6_holdsPlan_129 : decode cX6_holdsPlan 129 = .ok (.aload_n 0, 1) := by decide +kernel
theorem dX6_holdsPlan_130 : decode cX6_holdsPlan 130 = .ok (.getfield 29, 3) := by decide +kernel
theorem dX6_holdsPlan_133 : decode cX6_holdsPlan 133 = .ok (.aload_n 0, 1) := by decide +kernel
theorem dX6_holdsPlan_134 : decode cX6_holdsPlan 134 = .ok (.getfield 54, 3) := by decide +kernel
theorem dX6_holdsPlan_137 : decode cX6_holdsPlan 137 = .ok (.iload_n 1, 1) := by decide +kernel
theorem dX6_holdsPlan_138 : decode cX6_holdsPlan 138 = .ok (.iaload, 1) := by decide +kernel
theorem dX6_holdsPlan_139 : decode cX6_holdsPlan 139 = .ok (.iaload, 1) := by decide +kernel
theorem dX6_holdsPlan_140 : decode cX6_holdsPlan 140 = .ok (.isub, 1) := by decide +kernel
theorem dX6_holdsPlan_141 : decode cX6_holdsPlan 141 = .ok (.i2l, 1) := by decide +kernel
theorem dX6_holdsPlan_142 : decode cX6_holdsPlan 142 = .ok (.lcmp, 1) := by decide +kernel
theorem dX6_holdsPlan_143 : decode cX6_holdsPlan 143 = .ok (.ifCond .gt 7, 3) := by decide +kernel
theorem dX6_holdsPlan_146 : decode cX6_holdsPlan 146 = .ok (.iconst 1, 1) := by decide +kernel
theorem dX6_holdsPlan_147 : decode cX6_holdsPlan 147 = .ok (.goto 4, 3) := by decide +kernel
theorem dX6_holdsPlan_150 : decode cX6_holdsPlan 150 = .ok (.iconst 0, 1) := by decide +kernel
theorem dX6_holdsPlan_151 : decode cX6_holdsPlan 151 = .ok (.ireturn, 1) := by decide +kernel
theorem dX6_natural_0 : decode cX6_natural 0 = .ok (.lconst 0, 1) := by decide +kernel
theorem dX6_natural_1 : decode cX6_natural 1 = .ok (.lstore_n 2, 1) := by decide +kernel
theorem dX6_natural_2 : decode cX6_natural 2 = .ok (.iconst 0, 1) := by decide +kernel
theorem dX6_natural_3 : decode cX6_natural 3 = .ok (.istore 4, 2) := by decide +kernel
theorem dX6_natural_5 : decode cX6_natural 5 = .ok (.iload 4, 2) := by decide +kernel
theorem dX6_natural_7 : decode cX6_natural 7 = .ok (.bipush 32, 2) := by decide +kernel
theorem dX6_natural_9 : decode cX6_natural 9 = .ok (.if_icmp .ge 44, 3) := by decide +kernel
theorem dX6_natural_12 : decode cX6_natural 12 = .ok (.aload_n 0, 1) := by decide +kernel
theorem dX6_natural_13 : decode cX6_natural 13 = .ok (.getfield 7, 3) := by decide +kernel
theorem dX6_natural_16 : decode cX6_natural 16 = .ok (.iload 4, 2) := by decide +kernel
theorem dX6_natural_18 : decode cX6_natural 18 = .ok (.baload, 1) := by decide +kernel
theorem dX6_natural_19 : decode cX6_natural 19 = .ok (.ifCond .eq 26, 3) := by decide +kernel
theorem dX6_natural_22 : decode cX6_natural 22 = .ok (.aload_n 0, 1) := by decide +kernel
theorem dX6_natural_23 : decode cX6_natural 23 = .ok (.iload 4, 2) := by decide +kernel
theorem dX6_natural_25 : decode cX6_natural 25 = .ok (.iload_n 1, 1) := by decide +kernel
theorem dX6_natural_26 : decode cX6_natural 26 = .ok (.invokevirtual 82, 3) := by decide +kernel
theorem dX6_natural_29 : decode cX6_natural 29 = .ok (.ifCond .eq 16, 3) := by decide +kernel
theorem dX6_natural_32 : decode cX6_natural 32 = .ok (.lload_n 2, 1) := by decide +kernel
theorem dX6_natural_33 : decode cX6_natural 33 = .ok (.aload_n 0, 1) := by decide +kernel
theorem dX6_natural_34 : decode cX6_natural 34 = .ok (.getfield 17, 3) := by decide +kernel
theorem dX6_natural_37 : decode cX6_natural 37 = .ok (.iload 4, 2) := by decide +kernel
theorem dX6_natural_39 : decode cX6_natural 39 = .ok (.iaload, 1) := by decide +kernel
theorem dX6_natural_40 : decode cX6_natural 40 = .ok (.i2l, 1) := by decide +kernel
theorem dX6_natural_41 : decode cX6_natural 41 = .ok (.ladd, 1) := by decide +kernel
theorem dX6_natural_42 : decode cX6_natural 42 = .ok (.goto 4, 3) := by decide +kernel
theorem dX6_natural_45 : decode cX6_natural 45 = .ok (.lload_n 2, 1) := by decide +kernel
theorem dX6_natural_46 : decode cX6_natural 46 = .ok (.lstore_n 2, 1) := by decide +kernel
theorem dX6_natural_47 : decode cX6_natural 47 = .ok (.iinc 4 1, 3) := by decide +kernel
theorem dX6_natural_50 : decode cX6_natural 50 = .ok (.goto (-45), 3) := by decide +kernel
theorem dX6_natural_53 : decode cX6_natural 53 = .ok (.iconst 0, 1) := by decide +kernel
theorem dX6_natural_54 : decode cX6_natural 54 = .ok (.istore 4, 2) := by decide +kernel
theorem dX6_natural_56 : decode cX6_natural 56 = .ok (.iload 4, 2) := by decide +kernel
theorem dX6_natural_58 : decode cX6_natural 58 = .ok (.bipush 40, 2) := by decide +kernel
theorem dX6_natural_60 : decode cX6_natural 60 = .ok (.if_icmp .ge 98, 3) := by decide +kernel
theorem dX6_natural_63 : decode cX6_natural 63 = .ok (.aload_n 0, 1) := by decide +kernel
theorem dX6_natural_64 : decode cX6_natural 64 = .ok (.getfield 36, 3) := by decide +kernel
theorem dX6_natural_67 : decode cX6_natural 67 = .ok (.iload 4, 2) := by decide +kernel
theorem dX6_natural_69 : decode cX6_natural 69 = .ok (.baload, 1) := by decide +kernel
theorem dX6_natural_70 : decode cX6_natural 70 = .ok (.ifCond .ne 6, 3) := by decide +kernel
theorem dX6_natural_73 : decode cX6_natural 73 = .ok (.goto 79, 3) := by decide +kernel
theorem dX6_natural_76 : decode cX6_natural 76 = .ok (.aload_n 0, 1) := by decide +kernel
theorem dX6_natural_77 : decode cX6_natural 77 = .ok (.aload_n 0, 1) := by decide +kernel
theorem dX6_natural_78 : decode cX6_natural 78 = .ok (.getfield 39, 3) := by decide +kernel
theorem dX6_natural_81 : decode cX6_natural 81 = .ok (.iload 4, 2) := by decide +kernel
theorem dX6_natural_83 : decode cX6_natural 83 = .ok (.iaload, 1) := by decide +kernel
theorem dX6_natural_84 : decode cX6_natural 84 = .ok (.iload_n 1, 1) := by decide +kernel
theorem dX6_natural_85 : decode cX6_natural 85 = .ok (.invokevirtual 82, 3) := by decide +kernel
theorem dX6_natural_88 : decode cX6_natural 88 = .ok (.ifCond .eq 16, 3) := by decide +kernel
theorem dX6_natural_91 : decode cX6_natural 91 = .ok (.lload_n 2, 1) := by decide +kernel
theorem dX6_natural_92 : decode cX6_natural 92 = .ok (.aload_n 0, 1) := by decide +kernel
theorem dX6_natural_93 : decode cX6_natural 93 = .ok (.getfield 63, 3) := by decide +kernel
theorem dX6_natural_96 : decode cX6_natural 96 = .ok (.iload 4, 2) := by decide +kernel
theorem dX6_natural_98 : decode cX6_natural 98 = .ok (.iaload, 1) := by decide +kernel
theorem dX6_natural_99 : decode cX6_natural 99 = .ok (.i2l, 1) := by decide +kernel
theorem dX6_natural_100 : decode cX6_natural 100 = .ok (.lsub, 1) := by decide +kernel
theorem dX6_natural_101 : decode cX6_natural 101 = .ok (.goto 4, 3) := by decide +kernel
theorem dX6_natural_104 : decode cX6_natural 104 = .ok (.lload_n 2, 1) := by decide +kernel
theorem dX6_natural_105 : decode cX6_natural 105 = .ok (.lstore_n 2, 1) := by decide +kernel
theorem dX6_natural_106 : decode cX6_natural 106 = .ok (.aload_n 0, 1) := by decide +kernel
theorem dX6_natural_107 : decode cX6_natural 107 = .ok (.getfield 54, 3) := by decide +kernel
theorem dX6_natural_110 : decode cX6_natural 110 = .ok (.iload 4, 2) := by decide +kernel
theorem dX6_natural_112 : decode cX6_natural 112 = .ok (.iaload, 1) := by decide +kernel
theorem dX6_natural_113 : decode cX6_natural 113 = .ok (.ifCond .ge 37, 3) := by decide +kernel
theorem dX6_natural_116 : decode cX6_natural 116 = .ok (.aload_n 0, 1) := by decide +kernel
theorem dX6_natural_117 : decode cX6_natural 117 = .ok (.aload_n 0, 1) := by decide +kernel
theorem dX6_natural_118 : decode cX6_natural 118 = .ok (.getfield 51, 3) := by decide +kernel
theorem dX6_natural_121 : decode cX6_natural 121 = .ok (.iload 4, 2) := by decide +kernel
theorem dX6_natural_123 : decode cX6_natural 123 = .ok (.iaload, 1) := by decide +kernel
theorem dX6_natural_124 : decode cX6_natural 124 = .ok (.iload_n 1, 1) := by decide +kernel
theorem dX6_natural_125 : decode cX6_natural 125 = .ok (.invokevirtual 82, 3) := by decide +kernel
theorem dX6_natural_128 : decode cX6_natural 128 = .ok (.ifCond .eq 22, 3) := by decide +kernel
theorem dX6_natural_131 : decode cX6_natural 131 = .ok (.lload_n 2, 1) := by decide +kernel
theorem dX6_natural_132 : decode cX6_natural 132 = .ok (.aload_n 0, 1) := by decide +kernel
theorem dX6_natural_133 : decode cX6_natural 133 = .ok (.iload 4, 2) := by decide +kernel
theorem dX6_natural_135 : decode cX6_natural 135 = .ok (.aload_n 0, 1) := by decide +kernel
theorem dX6_natural_136 : decode cX6_natural 136 = .ok (.getfield 63, 3) := by decide +kernel
theorem dX6_natural_139 : decode cX6_natural 139 = .ok (.iload 4, 2) := by decide +kernel
theorem dX6_natural_141 : decode cX6_natural 141 = .ok (.iaload, 1) := by decide +kernel
theorem dX6_natural_142 : decode cX6_natural 142 = .ok (.i2l, 1) := by decide +kernel
theorem dX6_natural_143 : decode cX6_natural 143 = .ok (.invokevirtual 101, 3) := by decide +kernel
theorem dX6_natural_146 : decode cX6_natural 146 = .ok (.ladd, 1) := by decide +kernel
theorem dX6_natural_147 : decode cX6_natural 147 = .ok (.goto 4, 3) := by decide +kernel
theorem dX6_natural_150 : decode cX6_natural 150 = .ok (.lload_n 2, 1) := by decide +kernel
theorem dX6_natural_151 : decode cX6_natural 151 = .ok (.lstore_n 2, 1) := by decide +kernel
theorem dX6_natural_152 : decode cX6_natural 152 = .ok (.iinc 4 1, 3) := by decide +kernel
theorem dX6_natural_155 : decode cX6_natural 155 = .ok (.goto (-99), 3) := by decide +kernel
theorem dX6_natural_158 : decode cX6_natural 158 = .ok (.lload_n 2, 1) := by decide +kernel
theorem dX6_natural_159 : decode cX6_natural 159 = .ok (.lreturn, 1) := by decide +kernel
theorem dX6_returned_0 : decode cX6_returned 0 = .ok (.lload_n 2, 1) := by decide +kernel
theorem dX6_returned_1 : decode cX6_returned 1 = .ok (.aload_n 0, 1) := by decide +kernel
theorem dX6_returned_2 : decode cX6_returned 2 = .ok (.getfield 48, 3) := by decide +kernel
theorem dX6_returned_5 : decode cX6_returned 5 = .ok (.iload_n 1, 1) := by decide +kernel
theorem dX6_returned_6 : decode cX6_returned 6 = .ok (.iaload, 1) := by decide +kernel
theorem dX6_returned_7 : decode cX6_returned 7 = .ok (.i2l, 1) := by decide +kernel
theorem dX6_returned_8 : decode cX6_returned 8 = .ok (.lmul, 1) := by decide +kernel
theorem dX6_returned_9 : decode cX6_returned 9 = .ok (.ldc2_w 99, 3) := by decide +kernel
theorem dX6_returned_12 : decode cX6_returned 12 = .ok (.ldiv, 1) := by decide +kernel
theorem dX6_returned_13 : decode cX6_returned 13 = .ok (.lreturn, 1) := by decide +kernel
theorem dX6_isShort_0 : decode cX6_isShort 0 = .ok (.aload_n 0, 1) := by decide +kernel
theorem dX6_isShort_1 : decode cX6_isShort 1 = .ok (.getfield 63, 3) := by decide +kernel
theorem dX6_isShort_4 : decode cX6_isShort 4 = .ok (.iload_n 1, 1) := by decide +kernel
theorem dX6_isShort_5 : decode cX6_isShort 5 = .ok (.iaload, 1) := by decide +kernel
theorem dX6_isShort_6 : decode cX6_isShort 6 = .ok (.aload_n 0, 1) := by decide +kernel
theorem dX6_isShort_7 : decode cX6_isShort 7 = .ok (.getfield 57, 3) := by decide +kernel
theorem dX6_isShort_10 : decode cX6_isShort 10 = .ok (.iload_n 1, 1) := by decide +kernel
theorem dX6_isShort_11 : decode cX6_isShort 11 = .ok (.iaload, 1) := by decide +kernel
theorem dX6_isShort_12 : decode cX6_isShort 12 = .ok (.if_icmp .ge 7, 3) := by decide +kernel
theorem dX6_isShort_15 : decode cX6_isShort 15 = .ok (.iconst 1, 1) := by decide +kernel
theorem dX6_isShort_16 : decode cX6_isShort 16 = .ok (.goto 4, 3) := by decide +kernel
theorem dX6_isShort_19 : decode cX6_isShort 19 = .ok (.iconst 0, 1) := by decide +kernel
theorem dX6_isShort_20 : decode cX6_isShort 20 = .ok (.ireturn, 1) := by decide +kernel
theorem dX6_given_0 : decode cX6_given 0 = .ok (.aload_n 0, 1) := by decide +kernel
theorem dX6_given_1 : decode cX6_given 1 = .ok (.aload_n 0, 1) := by decide +kernel
theorem dX6_given_2 : decode cX6_given 2 = .ok (.iload_n 1, 1) := by decide +kernel
theorem dX6_given_3 : decode cX6_given 3 = .ok (.invokevirtual 92, 3) := by decide +kernel
theorem dX6_given_6 : decode cX6_given 6 = .ok (.putfield 72, 3) := by decide +kernel
theorem dX6_given_9 : decode cX6_given 9 = .ok (.aload_n 0, 1) := by decide +kernel
theorem dX6_given_10 : decode cX6_given 10 = .ok (.getfield 72, 3) := by decide +kernel
theorem dX6_given_13 : decode cX6_given 13 = .ok (.ifCond .le 5, 3) := by decide +kernel
theorem dX6_given_16 : decode cX6_given 16 = .ok (.iconst 0, 1) := by decide +kernel
theorem dX6_given_17 : decode cX6_given 17 = .ok (.ireturn, 1) := by decide +kernel
theorem dX6_given_18 : decode cX6_given 18 = .ok (.aload_n 0, 1) := by decide +kernel
theorem dX6_given_19 : decode cX6_given 19 = .ok (.iconst (-1), 1) := by decide +kernel
theorem dX6_given_20 : decode cX6_given 20 = .ok (.iconst (-1), 1) := by decide +kernel
theorem dX6_given_21 : decode cX6_given 21 = .ok (.iconst 0, 1) := by decide +kernel
theorem dX6_given_22 : decode cX6_given 22 = .ok (.invokevirtual 119, 3) := by decide +kernel
theorem dX6_given_25 : decode cX6_given 25 = .ok (.pop, 1) := by decide +kernel
theorem dX6_given_26 : decode cX6_given 26 = .ok (.aload_n 0, 1) := by decide +kernel
theorem dX6_given_27 : decode cX6_given 27 = .ok (.getfield 63, 3) := by decide +kernel
theorem dX6_given_30 : decode cX6_given 30 = .ok (.iload_n 1, 1) := by decide +kernel
theorem dX6_given_31 : decode cX6_given 31 = .ok (.iaload, 1) := by decide +kernel
theorem dX6_given_32 : decode cX6_given 32 = .ok (.ireturn, 1) := by decide +kernel
theorem dX6_flow_0 : decode cX6_flow 0 = .ok (.aload_n 0, 1) := by decide +kernel
theorem dX6_flow_1 : decode cX6_flow 1 = .ok (.aload_n 0, 1) := by decide +kernel
theorem dX6_flow_2 : decode cX6_flow 2 = .ok (.iload_n 1, 1) := by decide +kernel
theorem dX6_flow_3 : decode cX6_flow 3 = .ok (.invokevirtual 96, 3) := by decide +kernel
theorem dX6_flow_6 : decode cX6_flow 6 = .ok (.putfield 72, 3) := by decide +kernel
theorem dX6_flow_9 : decode cX6_flow 9 = .ok (.aload_n 0, 1) := by decide +kernel
theorem dX6_flow_10 : decode cX6_flow 10 = .ok (.getfield 72, 3) := by decide +kernel
theorem dX6_flow_13 : decode cX6_flow 13 = .ok (.ifCond .le 5, 3) := by decide +kernel
theorem dX6_flow_16 : decode cX6_flow 16 = .ok (.lconst 0, 1) := by decide +kernel
theorem dX6_flow_17 : decode cX6_flow 17 = .ok (.lreturn, 1) := by decide +kernel
theorem dX6_flow_18 : decode cX6_flow 18 = .ok (.iload_n 2, 1) := by decide +kernel
theorem dX6_flow_19 : decode cX6_flow 19 = .ok (.ifCond .ne 17, 3) := by decide +kernel
theorem dX6_flow_22 : decode cX6_flow 22 = .ok (.aload_n 0, 1) := by decide +kernel
theorem dX6_flow_23 : decode cX6_flow 23 = .ok (.iconst (-1), 1) := by decide +kernel
theorem dX6_flow_24 : decode cX6_flow 24 = .ok (.iconst (-1), 1) := by decide +kernel
theorem dX6_flow_25 : decode cX6_flow 25 = .ok (.iconst 0, 1) := by decide +kernel
theorem dX6_flow_26 : decode cX6_flow 26 = .ok (.invokevirtual 119, 3) := by decide +kernel
theorem dX6_flow_29 : decode cX6_flow 29 = .ok (.pop, 1) := by decide +kernel
theorem dX6_flow_30 : decode cX6_flow 30 = .ok (.aload_n 0, 1) := by decide +kernel
theorem dX6_flow_31 : decode cX6_flow 31 = .ok (.iload_n 1, 1) := by decide +kernel
theorem dX6_flow_32 : decode cX6_flow 32 = .ok (.invokevirtual 105, 3) := by decide +kernel
theorem dX6_flow_35 : decode cX6_flow 35 = .ok (.lreturn, 1) := by decide +kernel
theorem dX6_flow_36 : decode cX6_flow 36 = .ok (.iload_n 2, 1) := by decide +kernel
theorem dX6_flow_37 : decode cX6_flow 37 = .ok (.iconst 1, 1) := by decide +kernel
theorem dX6_flow_38 : decode cX6_flow 38 = .ok (.if_icmp .eq 7, 3) := by decide +kernel
theorem dX6_flow_41 : decode cX6_flow 41 = .ok (.ldc2_w 126, 3) := by decide +kernel
theorem dX6_flow_44 : decode cX6_flow 44 = .ok (.lreturn, 1) := by decide +kernel
theorem dX6_flow_45 : decode cX6_flow 45 = .ok (.lconst 0, 1) := by decide +kernel
theorem dX6_flow_46 : decode cX6_flow 46 = .ok (.lstore_n 3, 1) := by decide +kernel
theorem dX6_flow_47 : decode cX6_flow 47 = .ok (.iconst 0, 1) := by decide +kernel
theorem dX6_flow_48 : decode cX6_flow 48 = .ok (.istore 5, 2) := by decide +kernel
theorem dX6_flow_50 : decode cX6_flow 50 = .ok (.iload 5, 2) := by decide +kernel
theorem dX6_flow_52 : decode cX6_flow 52 = .ok (.bipush 8, 2) := by decide +kernel
theorem dX6_flow_54 : decode cX6_flow 54 = .ok (.if_icmp .ge 84, 3) := by decide +kernel
theorem dX6_flow_57 : decode cX6_flow 57 = .ok (.iconst 0, 1) := by decide +kernel
theorem dX6_flow_58 : decode cX6_flow 58 = .ok (.istore 6, 2) := by decide +kernel
theorem dX6_flow_60 : decode cX6_flow 60 = .ok (.iload 6, 2) := by decide +kernel
theorem dX6_flow_62 : decode cX6_flow 62 = .ok (.bipush 32, 2) := by decide +kernel
theorem dX6_flow_64 : decode cX6_flow 64 = .ok (.if_icmp .ge 68, 3) := by decide +kernel
theorem dX6_flow_67 : decode cX6_flow 67 = .ok (.aload_n 0, 1) := by decide +kernel
theorem dX6_flow_68 : decode cX6_flow 68 = .ok (.getfield 32, 3) := by decide +kernel
theorem dX6_flow_71 : decode cX6_flow 71 = .ok (.bipush 32, 2) := by decide +kernel
theorem dX6_flow_73 : decode cX6_flow 73 = .ok (.iload 5, 2) := by decide +kernel
theorem dX6_flow_75 : decode cX6_flow 75 = .ok (.imul, 1) := by decide +kernel
theorem dX6_flow_76 : decode cX6_flow 76 = .ok (.iload 6, 2) := by decide +kernel
theorem dX6_flow_78 : decode cX6_flow 78 = .ok (.iadd, 1) := by decide +kernel
theorem dX6_flow_79 : decode cX6_flow 79 = .ok (.laload, 1) := by decide +kernel
theorem dX6_flow_80 : decode cX6_flow 80 = .ok (.lconst 0, 1) := by decide +kernel
theorem dX6_flow_81 : decode cX6_flow 81 = .ok (.lcmp, 1) := by decide +kernel
theorem dX6_flow_82 : decode cX6_flow 82 = .ok (.ifCond .le 44, 3) := by decide +kernel
theorem dX6_flow_85 : decode cX6_flow 85 = .ok (.aload_n 0, 1) := by decide +kernel
theorem dX6_flow_86 : decode cX6_flow 86 = .ok (.aload_n 0, 1) := by decide +kernel
theorem dX6_flow_87 : decode cX6_flow 87 = .ok (.getfield 23, 3) := by decide +kernel
theorem dX6_flow_90 : decode cX6_flow 90 = .ok (.iload 5, 2) := by decide +kernel
theorem dX6_flow_92 : decode cX6_flow 92 = .ok (.iaload, 1) := by decide +kernel
theorem dX6_flow_93 : decode cX6_flow 93 = .ok (.iload_n 1, 1) := by decide +kernel
theorem dX6_flow_94 : decode cX6_flow 94 = .ok (.invokevirtual 82, 3) := by decide +kernel
theorem dX6_flow_97 : decode cX6_flow 97 = .ok (.ifCond .eq 29, 3) := by decide +kernel
theorem dX6_flow_100 : decode cX6_flow 100 = .ok (.aload_n 0, 1) := by decide +kernel
theorem dX6_flow_101 : decode cX6_flow 101 = .ok (.iload_n 1, 1) := by decide +kernel
theorem dX6_flow_102 : decode cX6_flow 102 = .ok (.iload 6, 2) := by decide +kernel
theorem dX6_flow_104 : decode cX6_flow 104 = .ok (.invokevirtual 82, 3) := by decide +kernel
theorem dX6_flow_107 : decode cX6_flow 107 = .ok (.ifCond .eq 19, 3) := by decide +kernel
theorem dX6_flow_110 : decode cX6_flow 110 = .ok (.lload_n 3, 1) := by decide +kernel
theorem dX6_flow_111 : decode cX6_flow 111 = .ok (.aload_n 0, 1) := by decide +kernel
theorem dX6_flow_112 : decode cX6_flow 112 = .ok (.getfield 32, 3) := by decide +kernel
theorem dX6_flow_115 : decode cX6_flow 115 = .ok (.bipush 32, 2) := by decide +kernel
theorem dX6_flow_117 : decode cX6_flow 117 = .ok (.iload 5, 2) := by decide +kernel
theorem dX6_flow_119 : decode cX6_flow 119 = .ok (.imul, 1) := by decide +kernel
theorem dX6_flow_120 : decode cX6_flow 120 = .ok (.iload 6, 2) := by decide +kernel
theorem dX6_flow_122 : decode cX6_flow 122 = .ok (.iadd, 1) := by decide +kernel
theorem dX6_flow_123 : decode cX6_flow 123 = .ok (.laload, 1) := by decide +kernel
theorem dX6_flow_124 : decode cX6_flow 124 = .ok (.ladd, 1) := by decide +kernel
theorem dX6_flow_125 : decode cX6_flow 125 = .ok (.lstore_n 3, 1) := by decide +kernel
theorem dX6_flow_126 : decode cX6_flow 126 = .ok (.iinc 6 1, 3) := by decide +kernel
theorem dX6_flow_129 : decode cX6_flow 129 = .ok (.goto (-69), 3) := by decide +kernel
theorem dX6_flow_132 : decode cX6_flow 132 = .ok (.iinc 5 1, 3) := by decide +kernel
theorem dX6_flow_135 : decode cX6_flow 135 = .ok (.goto (-85), 3) := by decide +kernel
theorem dX6_flow_138 : decode cX6_flow 138 = .ok (.lload_n 3, 1) := by decide +kernel
theorem dX6_flow_139 : decode cX6_flow 139 = .ok (.lreturn, 1) := by decide +kernel
theorem dX6_call_0 : decode cX6_call 0 = .ok (.aload_n 0, 1) := by decide +kernel
theorem dX6_call_1 : decode cX6_call 1 = .ok (.aload_n 0, 1) := by decide +kernel
theorem dX6_call_2 : decode cX6_call 2 = .ok (.iload_n 1, 1) := by decide +kernel
theorem dX6_call_3 : decode cX6_call 3 = .ok (.invokevirtual 92, 3) := by decide +kernel
theorem dX6_call_6 : decode cX6_call 6 = .ok (.putfield 72, 3) := by decide +kernel
theorem dX6_call_9 : decode cX6_call 9 = .ok (.aload_n 0, 1) := by decide +kernel
theorem dX6_call_10 : decode cX6_call 10 = .ok (.getfield 72, 3) := by decide +kernel
theorem dX6_call_13 : decode cX6_call 13 = .ok (.ifCond .le 5, 3) := by decide +kernel
theorem dX6_call_16 : decode cX6_call 16 = .ok (.iconst 0, 1) := by decide +kernel
theorem dX6_call_17 : decode cX6_call 17 = .ok (.ireturn, 1) := by decide +kernel
theorem dX6_call_18 : decode cX6_call 18 = .ok (.aload_n 0, 1) := by decide +kernel
theorem dX6_call_19 : decode cX6_call 19 = .ok (.iconst (-1), 1) := by decide +kernel
theorem dX6_call_20 : decode cX6_call 20 = .ok (.iconst (-1), 1) := by decide +kernel
theorem dX6_call_21 : decode cX6_call 21 = .ok (.iconst 0, 1) := by decide +kernel
theorem dX6_call_22 : decode cX6_call 22 = .ok (.invokevirtual 119, 3) := by decide +kernel
theorem dX6_call_25 : decode cX6_call 25 = .ok (.pop, 1) := by decide +kernel
theorem dX6_call_26 : decode cX6_call 26 = .ok (.aload_n 0, 1) := by decide +kernel
theorem dX6_call_27 : decode cX6_call 27 = .ok (.iload_n 1, 1) := by decide +kernel
theorem dX6_call_28 : decode cX6_call 28 = .ok (.invokevirtual 123, 3) := by decide +kernel
theorem dX6_call_31 : decode cX6_call 31 = .ok (.ifCond .ne 5, 3) := by decide +kernel
theorem dX6_call_34 : decode cX6_call 34 = .ok (.iconst (-1), 1) := by decide +kernel
theorem dX6_call_35 : decode cX6_call 35 = .ok (.ireturn, 1) := by decide +kernel
theorem dX6_call_36 : decode cX6_call 36 = .ok (.iconst 0, 1) := by decide +kernel
theorem dX6_call_37 : decode cX6_call 37 = .ok (.istore_n 2, 1) := by decide +kernel
theorem dX6_call_38 : decode cX6_call 38 = .ok (.iload_n 2, 1) := by decide +kernel
theorem dX6_call_39 : decode cX6_call 39 = .ok (.bipush 40, 2) := by decide +kernel
theorem dX6_call_41 : decode cX6_call 41 = .ok (.if_icmp .ge 21, 3) := by decide +kernel
theorem dX6_call_44 : decode cX6_call 44 = .ok (.aload_n 0, 1) := by decide +kernel
theorem dX6_call_45 : decode cX6_call 45 = .ok (.getfield 66, 3) := by decide +kernel
theorem dX6_call_48 : decode cX6_call 48 = .ok (.iload_n 2, 1) := by decide +kernel
theorem dX6_call_49 : decode cX6_call 49 = .ok (.aload_n 0, 1) := by decide +kernel
theorem dX6_call_50 : decode cX6_call 50 = .ok (.getfield 63, 3) := by decide +kernel
theorem dX6_call_53 : decode cX6_call 53 = .ok (.iload_n 2, 1) := by decide +kernel
theorem dX6_call_54 : decode cX6_call 54 = .ok (.iaload, 1) := by decide +kernel
theorem dX6_call_55 : decode cX6_call 55 = .ok (.iastore, 1) := by decide +kernel
theorem dX6_call_56 : decode cX6_call 56 = .ok (.iinc 2 1, 3) := by decide +kernel
theorem dX6_call_59 : decode cX6_call 59 = .ok (.goto (-21), 3) := by decide +kernel
theorem dX6_call_62 : decode cX6_call 62 = .ok (.aload_n 0, 1) := by decide +kernel
theorem dX6_call_63 : decode cX6_call 63 = .ok (.iconst (-1), 1) := by decide +kernel
theorem dX6_call_64 : decode cX6_call 64 = .ok (.iload_n 1, 1) := by decide +kernel
theorem dX6_call_65 : decode cX6_call 65 = .ok (.aload_n 0, 1) := by decide +kernel
theorem dX6_call_66 : decode cX6_call 66 = .ok (.getfield 66, 3) := by decide +kernel
theorem dX6_call_69 : decode cX6_call 69 = .ok (.iload_n 1, 1) := by decide +kernel
theorem dX6_call_70 : decode cX6_call 70 = .ok (.iaload, 1) := by decide +kernel
theorem dX6_call_71 : decode cX6_call 71 = .ok (.iconst 1, 1) := by decide +kernel
theorem dX6_call_72 : decode cX6_call 72 = .ok (.iadd, 1) := by decide +kernel
theorem dX6_call_73 : decode cX6_call 73 = .ok (.invokevirtual 119, 3) := by decide +kernel
theorem dX6_call_76 : decode cX6_call 76 = .ok (.ifCond .ne 5, 3) := by decide +kernel
theorem dX6_call_79 : decode cX6_call 79 = .ok (.iconst (-1), 1) := by decide +kernel
theorem dX6_call_80 : decode cX6_call 80 = .ok (.ireturn, 1) := by decide +kernel
theorem dX6_call_81 : decode cX6_call 81 = .ok (.iconst 0, 1) := by decide +kernel
theorem dX6_call_82 : decode cX6_call 82 = .ok (.istore_n 2, 1) := by decide +kernel
theorem dX6_call_83 : decode cX6_call 83 = .ok (.iload_n 2, 1) := by decide +kernel
theorem dX6_call_84 : decode cX6_call 84 = .ok (.aload_n 0, 1) := by decide +kernel
theorem dX6_call_85 : decode cX6_call 85 = .ok (.getfield 109, 3) := by decide +kernel
theorem dX6_call_88 : decode cX6_call 88 = .ok (.if_icmp .ge 34, 3) := by decide +kernel
theorem dX6_call_91 : decode cX6_call 91 = .ok (.aload_n 0, 1) := by decide +kernel
theorem dX6_call_92 : decode cX6_call 92 = .ok (.getfield 63, 3) := by decide +kernel
theorem dX6_call_95 : decode cX6_call 95 = .ok (.aload_n 0, 1) := by decide +kernel
theorem dX6_call_96 : decode cX6_call 96 = .ok (.getfield 69, 3) := by decide +kernel
theorem dX6_call_99 : decode cX6_call 99 = .ok (.iload_n 2, 1) := by decide +kernel
theorem dX6_call_100 : decode cX6_call 100 = .ok (.iaload, 1) := by decide +kernel
theorem dX6_call_101 : decode cX6_call 101 = .ok (.iaload, 1) := by decide +kernel
theorem dX6_call_102 : decode cX6_call 102 = .ok (.aload_n 0, 1) := by decide +kernel
theorem dX6_call_103 : decode cX6_call 103 = .ok (.getfield 66, 3) := by decide +kernel
theorem dX6_call_106 : decode cX6_call 106 = .ok (.aload_n 0, 1) := by decide +kernel
theorem dX6_call_107 : decode cX6_call 107 = .ok (.getfield 69, 3) := by decide +kernel
theorem dX6_call_110 : decode cX6_call 110 = .ok (.iload_n 2, 1) := by decide +kernel
theorem dX6_call_111 : decode cX6_call 111 = .ok (.iaload, 1) := by decide +kernel
theorem dX6_call_112 : decode cX6_call 112 = .ok (.iaload, 1) := by decide +kernel
theorem dX6_call_113 : decode cX6_call 113 = .ok (.if_icmp .lt 9, 3) := by decide +kernel
theorem dX6_call_116 : decode cX6_call 116 = .ok (.iinc 2 1, 3) := by decide +kernel
theorem dX6_call_119 : decode cX6_call 119 = .ok (.goto (-36), 3) := by decide +kernel
theorem dX6_call_122 : decode cX6_call 122 = .ok (.iload_n 2, 1) := by decide +kernel
theorem dX6_call_123 : decode cX6_call 123 = .ok (.aload_n 0, 1) := by decide +kernel
theorem dX6_call_124 : decode cX6_call 124 = .ok (.getfield 109, 3) := by decide +kernel
theorem dX6_call_127 : decode cX6_call 127 = .ok (.if_icmp .ge 12, 3) := by decide +kernel
theorem dX6_call_130 : decode cX6_call 130 = .ok (.aload_n 0, 1) := by decide +kernel
theorem dX6_call_131 : decode cX6_call 131 = .ok (.getfield 69, 3) := by decide +kernel
theorem dX6_call_134 : decode cX6_call 134 = .ok (.iload_n 2, 1) := by decide +kernel
theorem dX6_call_135 : decode cX6_call 135 = .ok (.iaload, 1) := by decide +kernel
theorem dX6_call_136 : decode cX6_call 136 = .ok (.goto 4, 3) := by decide +kernel
theorem dX6_call_139 : decode cX6_call 139 = .ok (.iconst (-1), 1) := by decide +kernel
theorem dX6_call_140 : decode cX6_call 140 = .ok (.ireturn, 1) := by decide +kernel
theorem dX6_futile_0 : decode cX6_futile 0 = .ok (.aload_n 0, 1) := by decide +kernel
theorem dX6_futile_1 : decode cX6_futile 1 = .ok (.iload_n 1, 1) := by decide +kernel
theorem dX6_futile_2 : decode cX6_futile 2 = .ok (.bipush 40, 2) := by decide +kernel
theorem dX6_futile_4 : decode cX6_futile 4 = .ok (.invokestatic 76, 3) := by decide +kernel
theorem dX6_futile_7 : decode cX6_futile 7 = .ok (.ifCond .eq 12, 3) := by decide +kernel
theorem dX6_futile_10 : decode cX6_futile 10 = .ok (.iload_n 2, 1) := by decide +kernel
theorem dX6_futile_11 : decode cX6_futile 11 = .ok (.bipush 40, 2) := by decide +kernel
theorem dX6_futile_13 : decode cX6_futile 13 = .ok (.invokestatic 76, 3) := by decide +kernel
theorem dX6_futile_16 : decode cX6_futile 16 = .ok (.ifCond .ne 7, 3) := by decide +kernel
theorem dX6_futile_19 : decode cX6_futile 19 = .ok (.iconst 1, 1) := by decide +kernel
theorem dX6_futile_20 : decode cX6_futile 20 = .ok (.goto 26, 3) := by decide +kernel
theorem dX6_futile_23 : decode cX6_futile 23 = .ok (.aload_n 0, 1) := by decide +kernel
theorem dX6_futile_24 : decode cX6_futile 24 = .ok (.getfield 36, 3) := by decide +kernel
theorem dX6_futile_27 : decode cX6_futile 27 = .ok (.iload_n 1, 1) := by decide +kernel
theorem dX6_futile_28 : decode cX6_futile 28 = .ok (.baload, 1) := by decide +kernel
theorem dX6_futile_29 : decode cX6_futile 29 = .ok (.ifCond .eq 12, 3) := by decide +kernel
theorem dX6_futile_32 : decode cX6_futile 32 = .ok (.aload_n 0, 1) := by decide +kernel
theorem dX6_futile_33 : decode cX6_futile 33 = .ok (.getfield 36, 3) := by decide +kernel
theorem dX6_futile_36 : decode cX6_futile 36 = .ok (.iload_n 2, 1) := by decide +kernel
theorem dX6_futile_37 : decode cX6_futile 37 = .ok (.baload, 1) := by decide +kernel
theorem dX6_futile_38 : decode cX6_futile 38 = .ok (.ifCond .ne 7, 3) := by decide +kernel
theorem dX6_futile_41 : decode cX6_futile 41 = .ok (.iconst 2, 1) := by decide +kernel
theorem dX6_futile_42 : decode cX6_futile 42 = .ok (.goto 4, 3) := by decide +kernel
theorem dX6_futile_45 : decode cX6_futile 45 = .ok (.iconst 0, 1) := by decide +kernel
theorem dX6_futile_46 : decode cX6_futile 46 = .ok (.putfield 72, 3) := by decide +kernel
theorem dX6_futile_49 : decode cX6_futile 49 = .ok (.aload_n 0, 1) := by decide +kernel
theorem dX6_futile_50 : decode cX6_futile 50 = .ok (.getfield 72, 3) := by decide +kernel
theorem dX6_futile_53 : decode cX6_futile 53 = .ok (.ifCond .le 5, 3) := by decide +kernel
theorem dX6_futile_56 : decode cX6_futile 56 = .ok (.iconst 0, 1) := by decide +kernel
theorem dX6_futile_57 : decode cX6_futile 57 = .ok (.ireturn, 1) := by decide +kernel
theorem dX6_futile_58 : decode cX6_futile 58 = .ok (.aload_n 0, 1) := by decide +kernel
theorem dX6_futile_59 : decode cX6_futile 59 = .ok (.iconst (-1), 1) := by decide +kernel
theorem dX6_futile_60 : decode cX6_futile 60 = .ok (.iconst (-1), 1) := by decide +kernel
theorem dX6_futile_61 : decode cX6_futile 61 = .ok (.iconst 0, 1) := by decide +kernel
theorem dX6_futile_62 : decode cX6_futile 62 = .ok (.invokevirtual 119, 3) := by decide +kernel
theorem dX6_futile_65 : decode cX6_futile 65 = .ok (.pop, 1) := by decide +kernel
theorem dX6_futile_66 : decode cX6_futile 66 = .ok (.aload_n 0, 1) := by decide +kernel
theorem dX6_futile_67 : decode cX6_futile 67 = .ok (.getfield 63, 3) := by decide +kernel
theorem dX6_futile_70 : decode cX6_futile 70 = .ok (.iload_n 2, 1) := by decide +kernel
theorem dX6_futile_71 : decode cX6_futile 71 = .ok (.iaload, 1) := by decide +kernel
theorem dX6_futile_72 : decode cX6_futile 72 = .ok (.istore_n 3, 1) := by decide +kernel
theorem dX6_futile_73 : decode cX6_futile 73 = .ok (.aload_n 0, 1) := by decide +kernel
theorem dX6_futile_74 : decode cX6_futile 74 = .ok (.iload_n 1, 1) := by decide +kernel
theorem dX6_futile_75 : decode cX6_futile 75 = .ok (.iconst (-1), 1) := by decide +kernel
theorem dX6_futile_76 : decode cX6_futile 76 = .ok (.iconst 0, 1) := by decide +kernel
theorem dX6_futile_77 : decode cX6_futile 77 = .ok (.invokevirtual 119, 3) := by decide +kernel
theorem dX6_futile_80 : decode cX6_futile 80 = .ok (.pop, 1) := by decide +kernel
theorem dX6_futile_81 : decode cX6_futile 81 = .ok (.aload_n 0, 1) := by decide +kernel
theorem dX6_futile_82 : decode cX6_futile 82 = .ok (.getfield 63, 3) := by decide +kernel
theorem dX6_futile_85 : decode cX6_futile 85 = .ok (.iload_n 2, 1) := by decide +kernel
theorem dX6_futile_86 : decode cX6_futile 86 = .ok (.iaload, 1) := by decide +kernel
theorem dX6_futile_87 : decode cX6_futile 87 = .ok (.iload_n 3, 1) := by decide +kernel
theorem dX6_futile_88 : decode cX6_futile 88 = .ok (.if_icmp .ne 7, 3) := by decide +kernel
theorem dX6_futile_91 : decode cX6_futile 91 = .ok (.iconst 1, 1) := by decide +kernel
theorem dX6_futile_92 : decode cX6_futile 92 = .ok (.goto 4, 3) := by decide +kernel
theorem dX6_futile_95 : decode cX6_futile 95 = .ok (.iconst 0, 1) := by decide +kernel
theorem dX6_futile_96 : decode cX6_futile 96 = .ok (.ireturn, 1) := by decide +kernel
theorem dX6_close_0 : decode cX6_close 0 = .ok (.aload_n 0, 1) := by decide +kernel
theorem dX6_close_1 : decode cX6_close 1 = .ok (.iconst 0, 1) := by decide +kernel
theorem dX6_close_2 : decode cX6_close 2 = .ok (.putfield 72, 3) := by decide +kernel
theorem dX6_close_5 : decode cX6_close 5 = .ok (.aload_n 0, 1) := by decide +kernel
theorem dX6_close_6 : decode cX6_close 6 = .ok (.iconst (-1), 1) := by decide +kernel
theorem dX6_close_7 : decode cX6_close 7 = .ok (.iconst (-1), 1) := by decide +kernel
theorem dX6_close_8 : decode cX6_close 8 = .ok (.iconst 0, 1) := by decide +kernel
theorem dX6_close_9 : decode cX6_close 9 = .ok (.invokevirtual 119, 3) := by decide +kernel
theorem dX6_close_12 : decode cX6_close 12 = .ok (.pop, 1) := by decide +kernel
theorem dX6_close_13 : decode cX6_close 13 = .ok (.iconst 5, 1) := by decide +kernel
theorem dX6_close_14 : decode cX6_close 14 = .ok (.aload_n 0, 1) := by decide +kernel
theorem dX6_close_15 : decode cX6_close 15 = .ok (.getfield 128, 3) := by decide +kernel
theorem dX6_close_18 : decode cX6_close 18 = .ok (.bipush 60, 2) := by decide +kernel
theorem dX6_close_20 : decode cX6_close 20 = .ok (.irem, 1) := by decide +kernel
theorem dX6_close_21 : decode cX6_close 21 = .ok (.imul, 1) := by decide +kernel
theorem dX6_close_22 : decode cX6_close 22 = .ok (.istore_n 1, 1) := by decide +kernel
theorem dX6_close_23 : decode cX6_close 23 = .ok (.iconst 0, 1) := by decide +kernel
theorem dX6_close_24 : decode cX6_close 24 = .ok (.istore_n 2, 1) := by decide +kernel
theorem dX6_close_25 : decode cX6_close 25 = .ok (.iload_n 2, 1) := by decide +kernel
theorem dX6_close_26 : decode cX6_close 26 = .ok (.iconst 5, 1) := by decide +kernel
theorem dX6_close_27 : decode cX6_close 27 = .ok (.if_icmp .ge 18, 3) := by decide +kernel
theorem dX6_close_30 : decode cX6_close 30 = .ok (.aload_n 0, 1) := by decide +kernel
theorem dX6_close_31 : decode cX6_close 31 = .ok (.getfield 60, 3) := by decide +kernel
theorem dX6_close_34 : decode cX6_close 34 = .ok (.iload_n 1, 1) := by decide +kernel
theorem dX6_close_35 : decode cX6_close 35 = .ok (.iload_n 2, 1) := by decide +kernel
theorem dX6_close_36 : decode cX6_close 36 = .ok (.iadd, 1) := by decide +kernel
theorem dX6_close_37 : decode cX6_close 37 = .ok (.lconst 0, 1) := by decide +kernel
theorem dX6_close_38 : decode cX6_close 38 = .ok (.lastore, 1) := by decide +kernel
theorem dX6_close_39 : decode cX6_close 39 = .ok (.iinc 2 1, 3) := by decide +kernel
theorem dX6_close_42 : decode cX6_close 42 = .ok (.goto (-17), 3) := by decide +kernel
theorem dX6_close_45 : decode cX6_close 45 = .ok (.iconst 0, 1) := by decide +kernel
theorem dX6_close_46 : decode cX6_close 46 = .ok (.istore_n 2, 1) := by decide +kernel
theorem dX6_close_47 : decode cX6_close 47 = .ok (.iload_n 2, 1) := by decide +kernel
theorem dX6_close_48 : decode cX6_close 48 = .ok (.bipush 32, 2) := by decide +kernel
theorem dX6_close_50 : decode cX6_close 50 = .ok (.if_icmp .ge 60, 3) := by decide +kernel
theorem dX6_close_53 : decode cX6_close 53 = .ok (.aload_n 0, 1) := by decide +kernel
theorem dX6_close_54 : decode cX6_close 54 = .ok (.getfield 7, 3) := by decide +kernel
theorem dX6_close_57 : decode cX6_close 57 = .ok (.iload_n 2, 1) := by decide +kernel
theorem dX6_close_58 : decode cX6_close 58 = .ok (.baload, 1) := by decide +kernel
theorem dX6_close_59 : decode cX6_close 59 = .ok (.ifCond .ne 6, 3) := by decide +kernel
theorem dX6_close_62 : decode cX6_close 62 = .ok (.goto 42, 3) := by decide +kernel
theorem dX6_close_65 : decode cX6_close 65 = .ok (.aload_n 0, 1) := by decide +kernel
theorem dX6_close_66 : decode cX6_close 66 = .ok (.getfield 60, 3) := by decide +kernel
theorem dX6_close_69 : decode cX6_close 69 = .ok (.iload_n 1, 1) := by decide +kernel
theorem dX6_close_70 : decode cX6_close 70 = .ok (.dup2, 1) := by decide +kernel
theorem dX6_close_71 : decode cX6_close 71 = .ok (.laload, 1) := by decide +kernel
theorem dX6_close_72 : decode cX6_close 72 = .ok (.aload_n 0, 1) := by decide +kernel
theorem dX6_close_73 : decode cX6_close 73 = .ok (.getfield 17, 3) := by decide +kernel
theorem dX6_close_76 : decode cX6_close 76 = .ok (.iload_n 2, 1) := by decide +kernel
theorem dX6_close_77 : decode cX6_close 77 = .ok (.iaload, 1) := by decide +kernel
theorem dX6_close_78 : decode cX6_close 78 = .ok (.i2l, 1) := by decide +kernel
theorem dX6_close_79 : decode cX6_close 79 = .ok (.ladd, 1) := by decide +kernel
theorem dX6_close_80 : decode cX6_close 80 = .ok (.lastore, 1) := by decide +kernel
theorem dX6_close_81 : decode cX6_close 81 = .ok (.aload_n 0, 1) := by decide +kernel
theorem dX6_close_82 : decode cX6_close 82 = .ok (.getfield 13, 3) := by decide +kernel
theorem dX6_close_85 : decode cX6_close 85 = .ok (.iload_n 2, 1) := by decide +kernel
theorem dX6_close_86 : decode cX6_close 86 = .ok (.iaload, 1) := by decide +kernel
theorem dX6_close_87 : decode cX6_close 87 = .ok (.iconst (-1), 1) := by decide +kernel
theorem dX6_close_88 : decode cX6_close 88 = .ok (.if_icmp .ne 16, 3) := by decide +kernel
theorem dX6_close_91 : decode cX6_close 91 = .ok (.aload_n 0, 1) := by decide +kernel
theorem dX6_close_92 : decode cX6_close 92 = .ok (.getfield 60, 3) := by decide +kernel
theorem dX6_close_95 : decode cX6_close 95 = .ok (.iload_n 1, 1) := by decide +kernel
theorem dX6_close_96 : decode cX6_close 96 = .ok (.iconst 1, 1) := by decide +kernel
theorem dX6_close_97 : decode cX6_close 97 = .ok (.iadd, 1) := by decide +kernel
theorem dX6_close_98 : decode cX6_close 98 = .ok (.aload_n 0, 1) := by decide +kernel
theorem dX6_close_99 : decode cX6_close 99 = .ok (.iload_n 2, 1) := by decide +kernel
theorem dX6_close_100 : decode cX6_close 100 = .ok (.invokevirtual 105, 3) := by decide +kernel
theorem dX6_close_103 : decode cX6_close 103 = .ok (.lastore, 1) := by decide +kernel
theorem dX6_close_104 : decode cX6_close 104 = .ok (.iinc 2 1, 3) := by decide +kernel
theorem dX6_close_107 : decode cX6_close 107 = .ok (.goto (-60), 3) := by decide +kernel
theorem dX6_close_110 : decode cX6_close 110 = .ok (.iconst 0, 1) := by decide +kernel
theorem dX6_close_111 : decode cX6_close 111 = .ok (.istore_n 2, 1) := by decide +kernel
theorem dX6_close_112 : decode cX6_close 112 = .ok (.iload_n 2, 1) := by decide +kernel
theorem dX6_close_113 : decode cX6_close 113 = .ok (.sipush 256, 3) := by decide +kernel
theorem dX6_close_116 : decode cX6_close 116 = .ok (.if_icmp .ge 33, 3) := by decide +kernel
theorem dX6_close_119 : decode cX6_close 119 = .ok (.aload_n 0, 1) := by decide +kernel
theorem dX6_close_120 : decode cX6_close 120 = .ok (.getfield 60, 3) := by decide +kernel
theorem dX6_close_123 : decode cX6_close 123 = .ok (.iload_n 1, 1) := by decide +kernel
theorem dX6_close_124 : decode cX6_close 124 = .ok (.iconst 4, 1) := by decide +kernel
theorem dX6_close_125 : decode cX6_close 125 = .ok (.iadd, 1) := by decide +kernel
theorem dX6_close_126 : decode cX6_close 126 = .ok (.dup2, 1) := by decide +kernel
theorem dX6_close_127 : decode cX6_close 127 = .ok (.laload, 1) := by decide +kernel
theorem dX6_close_128 : decode cX6_close 128 = .ok (.aload_n 0, 1) := by decide +kernel
theorem dX6_close_129 : decode cX6_close 129 = .ok (.getfield 32, 3) := by decide +kernel
theorem dX6_close_132 : decode cX6_close 132 = .ok (.iload_n 2, 1) := by decide +kernel
theorem dX6_close_133 : decode cX6_close 133 = .ok (.laload, 1) := by decide +kernel
theorem dX6_close_134 : decode cX6_close 134 = .ok (.ladd, 1) := by decide +kernel
theorem dX6_close_135 : decode cX6_close 135 = .ok (.lastore, 1) := by decide +kernel
theorem dX6_close_136 : decode cX6_close 136 = .ok (.aload_n 0, 1) := by decide +kernel
theorem dX6_close_137 : decode cX6_close 137 = .ok (.getfield 32, 3) := by decide +kernel
theorem dX6_close_140 : decode cX6_close 140 = .ok (.iload_n 2, 1) := by decide +kernel
theorem dX6_close_141 : decode cX6_close 141 = .ok (.lconst 0, 1) := by decide +kernel
theorem dX6_close_142 : decode cX6_close 142 = .ok (.lastore, 1) := by decide +kernel
theorem dX6_close_143 : decode cX6_close 143 = .ok (.iinc 2 1, 3) := by decide +kernel
theorem dX6_close_146 : decode cX6_close 146 = .ok (.goto (-34), 3) := by decide +kernel
theorem dX6_close_149 : decode cX6_close 149 = .ok (.aload_n 0, 1) := by decide +kernel
theorem dX6_close_150 : decode cX6_close 150 = .ok (.getfield 60, 3) := by decide +kernel
theorem dX6_close_153 : decode cX6_close 153 = .ok (.iload_n 1, 1) := by decide +kernel
theorem dX6_close_154 : decode cX6_close 154 = .ok (.iconst 2, 1) := by decide +kernel
theorem dX6_close_155 : decode cX6_close 155 = .ok (.iadd, 1) := by decide +kernel
theorem dX6_close_156 : decode cX6_close 156 = .ok (.aload_n 0, 1) := by decide +kernel
theorem dX6_close_157 : decode cX6_close 157 = .ok (.getfield 60, 3) := by decide +kernel
theorem dX6_close_160 : decode cX6_close 160 = .ok (.iload_n 1, 1) := by decide +kernel
theorem dX6_close_161 : decode cX6_close 161 = .ok (.iconst 4, 1) := by decide +kernel
theorem dX6_close_162 : decode cX6_close 162 = .ok (.iadd, 1) := by decide +kernel
theorem dX6_close_163 : decode cX6_close 163 = .ok (.laload, 1) := by decide +kernel
theorem dX6_close_164 : decode cX6_close 164 = .ok (.lastore, 1) := by decide +kernel
theorem dX6_close_165 : decode cX6_close 165 = .ok (.iconst 0, 1) := by decide +kernel
theorem dX6_close_166 : decode cX6_close 166 = .ok (.istore_n 2, 1) := by decide +kernel
theorem dX6_close_167 : decode cX6_close 167 = .ok (.iload_n 2, 1) := by decide +kernel
theorem dX6_close_168 : decode cX6_close 168 = .ok (.bipush 40, 2) := by decide +kernel
theorem dX6_close_170 : decode cX6_close 170 = .ok (.if_icmp .ge 114, 3) := by decide +kernel
theorem dX6_close_173 : decode cX6_close 173 = .ok (.aload_n 0, 1) := by decide +kernel
theorem dX6_close_174 : decode cX6_close 174 = .ok (.getfield 36, 3) := by decide +kernel
theorem dX6_close_177 : decode cX6_close 177 = .ok (.iload_n 2, 1) := by decide +kernel
theorem dX6_close_178 : decode cX6_close 178 = .ok (.baload, 1) := by decide +kernel
theorem dX6_close_179 : decode cX6_close 179 = .ok (.ifCond .ne 6, 3) := by decide +kernel
theorem dX6_close_182 : decode cX6_close 182 = .ok (.goto 96, 3) := by decide +kernel
theorem dX6_close_185 : decode cX6_close 185 = .ok (.aload_n 0, 1) := by decide +kernel
theorem dX6_close_186 : decode cX6_close 186 = .ok (.getfield 54, 3) := by decide +kernel
theorem dX6_close_189 : decode cX6_close 189 = .ok (.iload_n 2, 1) := by decide +kernel
theorem dX6_close_190 : decode cX6_close 190 = .ok (.iaload, 1) := by decide +kernel
theorem dX6_close_191 : decode cX6_close 191 = .ok (.ifCond .ge 37, 3) := by decide +kernel
theorem dX6_close_194 : decode cX6_close 194 = .ok (.aload_n 0, 1) := by decide +kernel
theorem dX6_close_195 : decode cX6_close 195 = .ok (.getfield 60, 3) := by decide +kernel
theorem dX6_close_198 : decode cX6_close 198 = .ok (.iload_n 1, 1) := by decide +kernel
theorem dX6_close_199 : decode cX6_close 199 = .ok (.iconst 2, 1) := by decide +kernel
theorem dX6_close_200 : decode cX6_close 200 = .ok (.iadd, 1) := by decide +kernel
theorem dX6_close_201 : decode cX6_close 201 = .ok (.dup2, 1) := by decide +kernel
theorem dX6_close_202 : decode cX6_close 202 = .ok (.laload, 1) := by decide +kernel
theorem dX6_close_203 : decode cX6_close 203 = .ok (.aload_n 0, 1) := by decide +kernel
theorem dX6_close_204 : decode cX6_close 204 = .ok (.getfield 63, 3) := by decide +kernel
theorem dX6_close_207 : decode cX6_close 207 = .ok (.iload_n 2, 1) := by decide +kernel
theorem dX6_close_208 : decode cX6_close 208 = .ok (.iaload, 1) := by decide +kernel
theorem dX6_close_209 : decode cX6_close 209 = .ok (.i2l, 1) := by decide +kernel
theorem dX6_close_210 : decode cX6_close 210 = .ok (.aload_n 0, 1) := by decide +kernel
theorem dX6_close_211 : decode cX6_close 211 = .ok (.iload_n 2, 1) := by decide +kernel
theorem dX6_close_212 : decode cX6_close 212 = .ok (.aload_n 0, 1) := by decide +kernel
theorem dX6_close_213 : decode cX6_close 213 = .ok (.getfield 63, 3) := by decide +kernel
theorem dX6_close_216 : decode cX6_close 216 = .ok (.iload_n 2, 1) := by decide +kernel
theorem dX6_close_217 : decode cX6_close 217 = .ok (.iaload, 1) := by decide +kernel
theorem dX6_close_218 : decode cX6_close 218 = .ok (.i2l, 1) := by decide +kernel
theorem dX6_close_219 : decode cX6_close 219 = .ok (.invokevirtual 101, 3) := by decide +kernel
theorem dX6_close_222 : decode cX6_close 222 = .ok (.lsub, 1) := by decide +kernel
theorem dX6_close_223 : decode cX6_close 223 = .ok (.ladd, 1) := by decide +kernel
theorem dX6_close_224 : decode cX6_close 224 = .ok (.lastore, 1) := by decide +kernel
theorem dX6_close_225 : decode cX6_close 225 = .ok (.goto 41, 3) := by decide +kernel
theorem dX6_close_228 : decode cX6_close 228 = .ok (.aload_n 0, 1) := by decide +kernel
theorem dX6_close_229 : decode cX6_close 229 = .ok (.getfield 60, 3) := by decide +kernel
theorem dX6_close_232 : decode cX6_close 232 = .ok (.iload_n 1, 1) := by decide +kernel
theorem dX6_close_233 : decode cX6_close 233 = .ok (.iconst 3, 1) := by decide +kernel
theorem dX6_close_234 : decode cX6_close 234 = .ok (.iadd, 1) := by decide +kernel
theorem dX6_close_235 : decode cX6_close 235 = .ok (.dup2, 1) := by decide +kernel
theorem dX6_close_236 : decode cX6_close 236 = .ok (.laload, 1) := by decide +kernel
theorem dX6_close_237 : decode cX6_close 237 = .ok (.aload_n 0, 1) := by decide +kernel
theorem dX6_close_238 : decode cX6_close 238 = .ok (.getfield 63, 3) := by decide +kernel
theorem dX6_close_241 : decode cX6_close 241 = .ok (.iload_n 2, 1) := by decide +kernel
theorem dX6_close_242 : decode cX6_close 242 = .ok (.iaload, 1) := by decide +kernel
theorem dX6_close_243 : decode cX6_close 243 = .ok (.i2l, 1) := by decide +kernel
theorem dX6_close_244 : decode cX6_close 244 = .ok (.ladd, 1) := by decide +kernel
theorem dX6_close_245 : decode cX6_close 245 = .ok (.lastore, 1) := by decide +kernel
theorem dX6_close_246 : decode cX6_close 246 = .ok (.aload_n 0, 1) := by decide +kernel
theorem dX6_close_247 : decode cX6_close 247 = .ok (.getfield 29, 3) := by decide +kernel
theorem dX6_close_250 : decode cX6_close 250 = .ok (.aload_n 0, 1) := by decide +kernel
theorem dX6_close_251 : decode cX6_close 251 = .ok (.getfield 54, 3) := by decide +kernel
theorem dX6_close_254 : decode cX6_close 254 = .ok (.iload_n 2, 1) := by decide +kernel
theorem dX6_close_255 : decode cX6_close 255 = .ok (.iaload, 1) := by decide +kernel
theorem dX6_close_256 : decode cX6_close 256 = .ok (.dup2, 1) := by decide +kernel
theorem dX6_close_257 : decode cX6_close 257 = .ok (.iaload, 1) := by decide +kernel
theorem dX6_close_258 : decode cX6_close 258 = .ok (.aload_n 0, 1) := by decide +kernel
theorem dX6_close_259 : decode cX6_close 259 = .ok (.getfield 63, 3) := by decide +kernel
theorem dX6_close_262 : decode cX6_close 262 = .ok (.iload_n 2, 1) := by decide +kernel
theorem dX6_close_263 : decode cX6_close 263 = .ok (.iaload, 1) := by decide +kernel
theorem dX6_close_264 : decode cX6_close 264 = .ok (.iadd, 1) := by decide +kernel
theorem dX6_close_265 : decode cX6_close 265 = .ok (.iastore, 1) := by decide +kernel
theorem dX6_close_266 : decode cX6_close 266 = .ok (.aload_n 0, 1) := by decide +kernel
theorem dX6_close_267 : decode cX6_close 267 = .ok (.getfield 57, 3) := by decide +kernel
theorem dX6_close_270 : decode cX6_close 270 = .ok (.iload_n 2, 1) := by decide +kernel
theorem dX6_close_271 : decode cX6_close 271 = .ok (.aload_n 0, 1) := by decide +kernel
theorem dX6_close_272 : decode cX6_close 272 = .ok (.getfield 45, 3) := by decide +kernel
theorem dX6_close_275 : decode cX6_close 275 = .ok (.iload_n 2, 1) := by decide +kernel
theorem dX6_close_276 : decode cX6_close 276 = .ok (.iaload, 1) := by decide +kernel
theorem dX6_close_277 : decode cX6_close 277 = .ok (.iastore, 1) := by decide +kernel
theorem dX6_close_278 : decode cX6_close 278 = .ok (.iinc 2 1, 3) := by decide +kernel
theorem dX6_close_281 : decode cX6_close 281 = .ok (.goto (-114), 3) := by decide +kernel
theorem dX6_close_284 : decode cX6_close 284 = .ok (.iconst 0, 1) := by decide +kernel
theorem dX6_close_285 : decode cX6_close 285 = .ok (.istore_n 2, 1) := by decide +kernel
theorem dX6_close_286 : decode cX6_close 286 = .ok (.iload_n 2, 1) := by decide +kernel
theorem dX6_close_287 : decode cX6_close 287 = .ok (.bipush 32, 2) := by decide +kernel
theorem dX6_close_289 : decode cX6_close 289 = .ok (.if_icmp .ge 16, 3) := by decide +kernel
theorem dX6_close_292 : decode cX6_close 292 = .ok (.aload_n 0, 1) := by decide +kernel
theorem dX6_close_293 : decode cX6_close 293 = .ok (.getfield 17, 3) := by decide +kernel
theorem dX6_close_296 : decode cX6_close 296 = .ok (.iload_n 2, 1) := by decide +kernel
theorem dX6_close_297 : decode cX6_close 297 = .ok (.iconst 0, 1) := by decide +kernel
theorem dX6_close_298 : decode cX6_close 298 = .ok (.iastore, 1) := by decide +kernel
theorem dX6_close_299 : decode cX6_close 299 = .ok (.iinc 2 1, 3) := by decide +kernel
theorem dX6_close_302 : decode cX6_close 302 = .ok (.goto (-16), 3) := by decide +kernel
theorem dX6_close_305 : decode cX6_close 305 = .ok (.aload_n 0, 1) := by decide +kernel
theorem dX6_close_306 : decode cX6_close 306 = .ok (.dup, 1) := by decide +kernel
theorem dX6_close_307 : decode cX6_close 307 = .ok (.getfield 128, 3) := by decide +kernel
theorem dX6_close_310 : decode cX6_close 310 = .ok (.iconst 1, 1) := by decide +kernel
theorem dX6_close_311 : decode cX6_close 311 = .ok (.iadd, 1) := by decide +kernel
theorem dX6_close_312 : decode cX6_close 312 = .ok (.putfield 128, 3) := by decide +kernel
theorem dX6_close_315 : decode cX6_close 315 = .ok (.aload_n 0, 1) := by decide +kernel
theorem dX6_close_316 : decode cX6_close 316 = .ok (.getfield 128, 3) := by decide +kernel
theorem dX6_close_319 : decode cX6_close 319 = .ok (.ireturn, 1) := by decide +kernel
theorem dX6_held_0 : decode cX6_held 0 = .ok (.aload_n 0, 1) := by decide +kernel
theorem dX6_held_1 : decode cX6_held 1 = .ok (.iconst 0, 1) := by decide +kernel
theorem dX6_held_2 : decode cX6_held 2 = .ok (.putfield 72, 3) := by decide +kernel
theorem dX6_held_5 : decode cX6_held 5 = .ok (.iload_n 1, 1) := by decide +kernel
theorem dX6_held_6 : decode cX6_held 6 = .ok (.bipush 8, 2) := by decide +kernel
theorem dX6_held_8 : decode cX6_held 8 = .ok (.invokestatic 76, 3) := by decide +kernel
theorem dX6_held_11 : decode cX6_held 11 = .ok (.ifCond .eq 12, 3) := by decide +kernel
theorem dX6_held_14 : decode cX6_held 14 = .ok (.aload_n 0, 1) := by decide +kernel
theorem dX6_held_15 : decode cX6_held 15 = .ok (.getfield 20, 3) := by decide +kernel
theorem dX6_held_18 : decode cX6_held 18 = .ok (.iload_n 1, 1) := by decide +kernel
theorem dX6_held_19 : decode cX6_held 19 = .ok (.baload, 1) := by decide +kernel
theorem dX6_held_20 : decode cX6_held 20 = .ok (.ifCond .ne 5, 3) := by decide +kernel
theorem dX6_held_23 : decode cX6_held 23 = .ok (.iconst (-1), 1) := by decide +kernel
theorem dX6_held_24 : decode cX6_held 24 = .ok (.ireturn, 1) := by decide +kernel
theorem dX6_held_25 : decode cX6_held 25 = .ok (.iload_n 2, 1) := by decide +kernel
theorem dX6_held_26 : decode cX6_held 26 = .ok (.ifCond .ne 12, 3) := by decide +kernel
theorem dX6_held_29 : decode cX6_held 29 = .ok (.aload_n 0, 1) := by decide +kernel
theorem dX6_held_30 : decode cX6_held 30 = .ok (.getfield 29, 3) := by decide +kernel
theorem dX6_held_33 : decode cX6_held 33 = .ok (.iload_n 1, 1) := by decide +kernel
theorem dX6_held_34 : decode cX6_held 34 = .ok (.iaload, 1) := by decide +kernel
theorem dX6_held_35 : decode cX6_held 35 = .ok (.goto 32, 3) := by decide +kernel
theorem dX6_held_38 : decode cX6_held 38 = .ok (.iload_n 2, 1) := by decide +kernel
theorem dX6_held_39 : decode cX6_held 39 = .ok (.iconst 1, 1) := by decide +kernel
theorem dX6_held_40 : decode cX6_held 40 = .ok (.if_icmp .ne 12, 3) := by decide +kernel
theorem dX6_held_43 : decode cX6_held 43 = .ok (.aload_n 0, 1) := by decide +kernel
theorem dX6_held_44 : decode cX6_held 44 = .ok (.getfield 26, 3) := by decide +kernel
theorem dX6_held_47 : decode cX6_held 47 = .ok (.iload_n 1, 1) := by decide +kernel
theorem dX6_held_48 : decode cX6_held 48 = .ok (.iaload, 1) := by decide +kernel
theorem dX6_held_49 : decode cX6_held 49 = .ok (.goto 18, 3) := by decide +kernel
theorem dX6_held_52 : decode cX6_held 52 = .ok (.iload_n 2, 1) := by decide +kernel
theorem dX6_held_53 : decode cX6_held 53 = .ok (.iconst 2, 1) := by decide +kernel
theorem dX6_held_54 : decode cX6_held 54 = .ok (.if_icmp .ne 12, 3) := by decide +kernel
theorem dX6_held_57 : decode cX6_held 57 = .ok (.aload_n 0, 1) := by decide +kernel
theorem dX6_held_58 : decode cX6_held 58 = .ok (.getfield 23, 3) := by decide +kernel
theorem dX6_held_61 : decode cX6_held 61 = .ok (.iload_n 1, 1) := by decide +kernel
theorem dX6_held_62 : decode cX6_held 62 = .ok (.iaload, 1) := by decide +kernel
theorem dX6_held_63 : decode cX6_held 63 = .ok (.goto 4, 3) := by decide +kernel
theorem dX6_held_66 : decode cX6_held 66 = .ok (.iconst (-1), 1) := by decide +kernel
theorem dX6_held_67 : decode cX6_held 67 = .ok (.ireturn, 1) := by decide +kernel
theorem dX6_book_0 : decode cX6_book 0 = .ok (.aload_n 0, 1) := by decide +kernel
theorem dX6_book_1 : decode cX6_book 1 = .ok (.iconst 0, 1) := by decide +kernel
theorem dX6_book_2 : decode cX6_book 2 = .ok (.putfield 72, 3) := by decide +kernel
theorem dX6_book_5 : decode cX6_book 5 = .ok (.iload_n 1, 1) := by decide +kernel
theorem dX6_book_6 : decode cX6_book 6 = .ok (.ifCond .lt 31, 3) := by decide +kernel
theorem dX6_book_9 : decode cX6_book 9 = .ok (.iload_n 1, 1) := by decide +kernel
theorem dX6_book_10 : decode cX6_book 10 = .ok (.aload_n 0, 1) := by decide +kernel
theorem dX6_book_11 : decode cX6_book 11 = .ok (.getfield 128, 3) := by decide +kernel
theorem dX6_book_14 : decode cX6_book 14 = .ok (.if_icmp .ge 23, 3) := by decide +kernel
theorem dX6_book_17 : decode cX6_book 17 = .ok (.iload_n 1, 1) := by decide +kernel
theorem dX6_book_18 : decode cX6_book 18 = .ok (.aload_n 0, 1) := by decide +kernel
theorem dX6_book_19 : decode cX6_book 19 = .ok (.getfield 128, 3) := by decide +kernel
theorem dX6_book_22 : decode cX6_book 22 = .ok (.bipush 60, 2) := by decide +kernel
theorem dX6_book_24 : decode cX6_book 24 = .ok (.isub, 1) := by decide +kernel
theorem dX6_book_25 : decode cX6_book 25 = .ok (.if_icmp .lt 12, 3) := by decide +kernel
theorem dX6_book_28 : decode cX6_book 28 = .ok (.iload_n 2, 1) := by decide +kernel
theorem dX6_book_29 : decode cX6_book 29 = .ok (.ifCond .lt 8, 3) := by decide +kernel
theorem dX6_book_32 : decode cX6_book 32 = .ok (.iload_n 2, 1) := by decide +kernel
theorem dX6_book_33 : decode cX6_book 33 = .ok (.iconst 4, 1) := by decide +kernel
theorem dX6_book_34 : decode cX6_book 34 = .ok (.if_icmp .le 9, 3) := by decide +kernel
theorem dX6_book_37 : decode cX6_book 37 = .ok (.ldc2_w 126, 3) := by decide +kernel
theorem dX6_book_40 : decode cX6_book 40 = .ok (.goto 16, 3) := by decide +kernel
theorem dX6_book_43 : decode cX6_book 43 = .ok (.aload_n 0, 1) := by decide +kernel
theorem dX6_book_44 : decode cX6_book 44 = .ok (.getfield 60, 3) := by decide +kernel
theorem dX6_book_47 : decode cX6_book 47 = .ok (.iconst 5, 1) := by decide +kernel
theorem dX6_book_48 : decode cX6_book 48 = .ok (.iload_n 1, 1) := by decide +kernel
theorem dX6_book_49 : decode cX6_book 49 = .ok (.bipush 60, 2) := by decide +kernel
theorem dX6_book_51 : decode cX6_book 51 = .ok (.irem, 1) := by decide +kernel
theorem dX6_book_52 : decode cX6_book 52 = .ok (.imul, 1) := by decide +kernel
theorem dX6_book_53 : decode cX6_book 53 = .ok (.iload_n 2, 1) := by decide +kernel
theorem dX6_book_54 : decode cX6_book 54 = .ok (.iadd, 1) := by decide +kernel
theorem dX6_book_55 : decode cX6_book 55 = .ok (.laload, 1) := by decide +kernel
theorem dX6_book_56 : decode cX6_book 56 = .ok (.lreturn, 1) := by decide +kernel
theorem dX6_about_0 : decode cX6_about 0 = .ok (.aload_n 0, 1) := by decide +kernel
theorem dX6_about_1 : decode cX6_about 1 = .ok (.iconst 0, 1) := by decide +kernel
theorem dX6_about_2 : decode cX6_about 2 = .ok (.putfield 72, 3) := by decide +kernel
theorem dX6_about_5 : decode cX6_about 5 = .ok (.iload_n 1, 1) := by decide +kernel
theorem dX6_about_6 : decode cX6_about 6 = .ok (.bipush 40, 2) := by decide +kernel
theorem dX6_about_8 : decode cX6_about 8 = .ok (.invokestatic 76, 3) := by decide +kernel
theorem dX6_about_11 : decode cX6_about 11 = .ok (.ifCond .eq 12, 3) := by decide +kernel
theorem dX6_about_14 : decode cX6_about 14 = .ok (.aload_n 0, 1) := by decide +kernel
theorem dX6_about_15 : decode cX6_about 15 = .ok (.getfield 36, 3) := by decide +kernel
theorem dX6_about_18 : decode cX6_about 18 = .ok (.iload_n 1, 1) := by decide +kernel
theorem dX6_about_19 : decode cX6_about 19 = .ok (.baload, 1) := by decide +kernel
theorem dX6_about_20 : decode cX6_about 20 = .ok (.ifCond .ne 5, 3) := by decide +kernel
theorem dX6_about_23 : decode cX6_about 23 = .ok (.iconst (-1), 1) := by decide +kernel
theorem dX6_about_24 : decode cX6_about 24 = .ok (.ireturn, 1) := by decide +kernel
theorem dX6_about_25 : decode cX6_about 25 = .ok (.iload_n 2, 1) := by decide +kernel
theorem dX6_about_26 : decode cX6_about 26 = .ok (.tableswitch 82 0 4 #[34, 41, 48, 55, 75], 34) := by decide +kernel
theorem dX6_about_60 : decode cX6_about 60 = .ok (.aload_n 0, 1) := by decide +kernel
theorem dX6_about_61 : decode cX6_about 61 = .ok (.getfield 42, 3) := by decide +kernel
theorem dX6_about_64 : decode cX6_about 64 = .ok (.iload_n 1, 1) := by decide +kernel
theorem dX6_about_65 : decode cX6_about 65 = .ok (.iaload, 1) := by decide +kernel
theorem dX6_about_66 : decode cX6_about 66 = .ok (.ireturn, 1) := by decide +kernel
theorem dX6_about_67 : decode cX6_about 67 = .ok (.aload_n 0, 1) := by decide +kernel
theorem dX6_about_68 : decode cX6_about 68 = .ok (.getfield 45, 3) := by decide +kernel
theorem dX6_about_71 : decode cX6_about 71 = .ok (.iload_n 1, 1) := by decide +kernel
theorem dX6_about_72 : decode cX6_about 72 = .ok (.iaload, 1) := by decide +kernel
theorem dX6_about_73 : decode cX6_about 73 = .ok (.ireturn, 1) := by decide +kernel
theorem dX6_about_74 : decode cX6_about 74 = .ok (.aload_n 0, 1) := by decide +kernel
theorem dX6_about_75 : decode cX6_about 75 = .ok (.getfield 57, 3) := by decide +kernel
theorem dX6_about_78 : decode cX6_about 78 = .ok (.iload_n 1, 1) := by decide +kernel
theorem dX6_about_79 : decode cX6_about 79 = .ok (.iaload, 1) := by decide +kernel
theorem dX6_about_80 : decode cX6_about 80 = .ok (.ireturn, 1) := by decide +kernel
theorem dX6_about_81 : decode cX6_about 81 = .ok (.aload_n 0, 1) := by decide +kernel
theorem dX6_about_82 : decode cX6_about 82 = .ok (.getfield 54, 3) := by decide +kernel
theorem dX6_about_85 : decode cX6_about 85 = .ok (.iload_n 1, 1) := by decide +kernel
theorem dX6_about_86 : decode cX6_about 86 = .ok (.iaload, 1) := by decide +kernel
theorem dX6_about_87 : decode cX6_about 87 = .ok (.ifCond .ge 12, 3) := by decide +kernel
theorem dX6_about_90 : decode cX6_about 90 = .ok (.aload_n 0, 1) := by decide +kernel
theorem dX6_about_91 : decode cX6_about 91 = .ok (.getfield 48, 3) := by decide +kernel
theorem dX6_about_94 : decode cX6_about 94 = .ok (.iload_n 1, 1) := by decide +kernel
theorem dX6_about_95 : decode cX6_about 95 = .ok (.iaload, 1) := by decide +kernel
theorem dX6_about_96 : decode cX6_about 96 = .ok (.goto 4, 3) := by decide +kernel
theorem dX6_about_99 : decode cX6_about 99 = .ok (.iconst (-1), 1) := by decide +kernel
theorem dX6_about_100 : decode cX6_about 100 = .ok (.ireturn, 1) := by decide +kernel
theorem dX6_about_101 : decode cX6_about 101 = .ok (.aload_n 0, 1) := by decide +kernel
theorem dX6_about_102 : decode cX6_about 102 = .ok (.getfield 54, 3) := by decide +kernel
theorem dX6_about_105 : decode cX6_about 105 = .ok (.iload_n 1, 1) := by decide +kernel
theorem dX6_about_106 : decode cX6_about 106 = .ok (.iaload, 1) := by decide +kernel
theorem dX6_about_107 : decode cX6_about 107 = .ok (.ireturn, 1) := by decide +kernel
theorem dX6_about_108 : decode cX6_about 108 = .ok (.iconst (-1), 1) := by decide +kernel
theorem dX6_about_109 : decode cX6_about 109 = .ok (.ireturn, 1) := by decide +kernel
theorem dX6_aged_0 : decode cX6_aged 0 = .ok (.aload_n 0, 1) := by decide +kernel
theorem dX6_aged_1 : decode cX6_aged 1 = .ok (.iconst 0, 1) := by decide +kernel
theorem dX6_aged_2 : decode cX6_aged 2 = .ok (.putfield 72, 3) := by decide +kernel
theorem dX6_aged_5 : decode cX6_aged 5 = .ok (.aload_n 0, 1) := by decide +kernel
theorem dX6_aged_6 : decode cX6_aged 6 = .ok (.invokevirtual 112, 3) := by decide +kernel
theorem dX6_aged_9 : decode cX6_aged 9 = .ok (.iload_n 1, 1) := by decide +kernel
theorem dX6_aged_10 : decode cX6_aged 10 = .ok (.ifCond .lt 11, 3) := by decide +kernel
theorem dX6_aged_13 : decode cX6_aged 13 = .ok (.iload_n 1, 1) := by decide +kernel
theorem dX6_aged_14 : decode cX6_aged 14 = .ok (.aload_n 0, 1) := by decide +kernel
theorem dX6_aged_15 : decode cX6_aged 15 = .ok (.getfield 109, 3) := by decide +kernel
theorem dX6_aged_18 : decode cX6_aged 18 = .ok (.if_icmp .lt 7, 3) := by decide +kernel
theorem dX6_aged_21 : decode cX6_aged 21 = .ok (.iconst (-1), 1) := by decide +kernel
theorem dX6_aged_22 : decode cX6_aged 22 = .ok (.goto 9, 3) := by decide +kernel
theorem dX6_aged_25 : decode cX6_aged 25 = .ok (.aload_n 0, 1) := by decide +kernel
theorem dX6_aged_26 : decode cX6_aged 26 = .ok (.getfield 69, 3) := by decide +kernel
theorem dX6_aged_29 : decode cX6_aged 29 = .ok (.iload_n 1, 1) := by decide +kernel
theorem dX6_aged_30 : decode cX6_aged 30 = .ok (.iaload, 1) := by decide +kernel
theorem dX6_aged_31 : decode cX6_aged 31 = .ok (.ireturn, 1) := by decide +kernel
end
section
/-! pure rows: sums, paths of the river, what a right takes, the most that it can get -/
def sumTo (f : Nat → Int) : Nat → Int
  | 0 => 0
  | n + 1 => sumTo f n + f n
theorem sumTo_congr {f g : Nat → Int} : ∀ {n : Nat}, (∀ k, k < n → f k = g k) → sumTo f n = sumTo g n
  | 0, _ => rfl
  | n + 1, h => by
    show sumTo f n + f n = sumTo g n + g n
    rw [sumTo_congr (fun k hk => h k (by omega)), h n (by omega)]
theorem sumTo_nonneg {f : Nat → Int} : ∀ {n : Nat}, (∀ k, k < n → 0 ≤ f k) → 0 ≤ sumTo f n
  | 0, _ => Int.le_refl _
  | n + 1, h => by
    show 0 ≤ sumTo f n + f n
    have h1 := sumTo_nonneg (fun k hk => h k (by omega)) (f := f) (n := n)
    have h2 := h n (by omega)
    omega
theorem sumTo_le {f : Nat → Int} {b : Int} : ∀ {n : Nat}, (∀ k, k < n → f k ≤ b) → sumTo f n ≤ n * b
  | 0, _ => by simp [sumTo]
  | n + 1, h => by
    show sumTo f n + f n ≤ ((n + 1 : Nat) : Int) * b
    have h1 := sumTo_le (fun k hk => h k (by omega)) (f := f) (n := n) (b := b)
    have h2 := h n (by omega)
    have h3 : ((n + 1 : Nat) : Int) * b = n * b + b := by rw [Int.natCast_add, Int.add_mul]; simp
    omega
theorem sumTo_add (f g : Nat → Int) : ∀ n : Nat, sumTo (fun k => f k + g k) n = sumTo f n + sumTo g n
  | 0 => rfl
  | n + 1 => by
    show sumTo (fun k => f k + g k) n + (f n + g n) = (sumTo f n + f n) + (sumTo g n + g n)
    rw [sumTo_add f g n]; omega
theorem sumTo_neg (f : Nat → Int) : ∀ n : Nat, sumTo (fun k => - f k) n = - sumTo f n
  | 0 => rfl
  | n + 1 => by
    show sumTo (fun k => - f k) n + - f n = - (sumTo f n + f n)
    rw [sumTo_neg f n]; omega
theorem sumTo_zero {f : Nat → Int} : ∀ {n : Nat}, (∀ k, k < n → f k = 0) → sumTo f n = 0
  | 0, _ => rfl
  | n + 1, h => by
    show sumTo f n + f n = 0
    rw [sumTo_zero (fun k hk => h k (by omega)), h n (by omega)]; rfl
/-- one term changed -/
theorem sumTo_upd {f g : Nat → Int} {j : Nat} : ∀ {n : Nat}, j < n → (∀ k, k < n → k ≠ j → g k = f k) → sumTo g n = sumTo f n - f j + g j
  | 0, h, _ => absurd h (Nat.not_lt_zero _)
  | n + 1, h, hk => by
    show sumTo g n + g n = sumTo f n + f n - f j + g j
    by_cases e : j = n
    · subst e
      rw [sumTo_congr (f := g) (g := f) (fun k h1 => hk k (by omega) (by omega))]; omega
    · rw [sumTo_upd (f := f) (g := g) (j := j) (n := n) (by omega) (fun k h1 h2 => hk k (by omega) h2), hk n (by omega) (fun q => e q.symm)]; omega
theorem sumTo_mono {f g : Nat → Int} : ∀ {n : Nat}, (∀ k, k < n → f k ≤ g k) → sumTo f n ≤ sumTo g n
  | 0, _ => Int.le_refl _
  | n + 1, h => by
    show sumTo f n + f n ≤ sumTo g n + g n
    have h1 := sumTo_mono (fun k hk => h k (by omega)) (f := f) (g := g) (n := n)
    have h2 := h n (by omega)
    omega
/-! paths: the reaches from r on downwards, at most n of them -/
def pth (d : Nat → Int) : Nat → Int → List Nat
  | 0, _ => []
  | n + 1, r => if r < 0 then [] else r.toNat :: pth d n (d r.toNat)
theorem pth_neg {d : Nat → Int} {n : Nat} {r : Int} (h : r < 0) : pth d n r = [] := by
  cases n with
  | zero => rfl
  | succ n => exact if_pos h
theorem pth_pos {d : Nat → Int} {n : Nat} {r : Int} (h : 0 ≤ r) : pth d (n + 1) r = r.toNat :: pth d n (d r.toNat) := if_neg (by omega)
/-- within n steps the path comes out of the river -/
def pEnd (d : Nat → Int) : Nat → Int → Prop
  | 0, r => r < 0
  | n + 1, r => r < 0 ∨ pEnd d n (d r.toNat)
theorem pEnd_mono {d : Nat → Int} : ∀ {n k : Nat} {r : Int}, n ≤ k → pEnd d n r → pEnd d k r
  | 0, 0, _, _, h => h
  | 0, _ + 1, _, _, h => Or.inl h
  | _ + 1, 0, _, hk, _ => absurd hk (by omega)
  | n + 1, k + 1, r, hk, h => by
    rcases h with h | h
    · exact Or.inl h
    · exact Or.inr (pEnd_mono (by omega) h)
theorem pth_fuel {d : Nat → Int} : ∀ {n k : Nat} {r : Int}, pEnd d n r → n ≤ k → pth d k r = pth d n r
  | 0, k, r, h, _ => by
    rw [pth_neg (show r < 0 from h), pth_neg (show r < 0 from h)]
  | n + 1, 0, _, _, hk => absurd hk (by omega)
  | n + 1, k + 1, r, h, hk => by
    by_cases h0 : r < 0
    · rw [pth_neg h0, pth_neg h0]
    · rw [pth_pos (by omega), pth_pos (by omega), pth_fuel (h.resolve_left h0) (by omega)]
/-- a path's tail from a reach on it is that reach's own path -/
theorem pth_mem {d : Nat → Int} : ∀ {n : Nat} {r : Int} {t : Nat}, pEnd d n r → t ∈ pth d n r → pEnd d n (t : Int) ∧ ∀ u, u ∈ pth d n (t : Int) → u ∈ pth d n r
  | 0, r, t, _, h => by cases h
  | n + 1, r, t, hE, h => by
    by_cases h0 : r < 0
    · rw [pth_neg h0] at h; cases h
    · have hE1 := hE.resolve_left h0
      have hp : pth d (n + 1) r = r.toNat :: pth d n (d r.toNat) := pth_pos (by omega)
      rw [hp] at h
      rcases List.mem_cons.mp h with h | h
      · have e : (t : Int) = r := by rw [h, Int.toNat_of_nonneg (by omega)]
        rw [e]
        exact ⟨hE, fun u hu => hu⟩
      · obtain ⟨h1, h2⟩ := pth_mem hE1 h
        refine ⟨pEnd_mono (by omega) h1, fun u hu => ?_⟩
        rw [pth_fuel h1 (Nat.le_succ n)] at hu
        rw [hp]
        exact List.mem_cons_of_mem _ (h2 u hu)
theorem pth_self {d : Nat → Int} {n : Nat} {r : Int} (h : 0 ≤ r) : r.toNat ∈ pth d (n + 1) r := by
  rw [pth_pos h]; exact List.mem_cons_self
/-- no reach is on its own path's tail -/
theorem pth_notail {d : Nat → Int} : ∀ {n : Nat} {r : Int}, pEnd d n r → 0 ≤ r → r.toNat ∉ pth d n (d r.toNat)
  | 0, r, h, h0 => absurd h (by show ¬ r < 0; omega)
  | n + 1, r, h, h0 => by
    intro hm
    have hE := h.resolve_left (by omega)
    have hE' := pEnd_mono (Nat.le_succ n) hE
    rw [pth_fuel hE (Nat.le_succ n)] at hm
    obtain ⟨h1, h2⟩ := pth_mem hE hm
    rw [Int.toNat_of_nonneg h0] at h1
    have h3 := pth_notail h1 h0
    exact h3 hm
/-! what is used of a diversion, and the most that may be diverted where so much may be used -/
theorem used_le {a t s u : Int} (ht : t = a * s) (h2 : s < 1000) : a - t / 1000 ≤ u ↔ a ≤ u * 1000 / (1000 - s) := by
  rw [Int.le_ediv_iff_mul_le (by omega)]
  have e : a * (1000 - s) = a * 1000 - t := by rw [ht, Int.mul_sub]
  rw [e]
  omega
theorem used_all (a : Int) : a - a * 1000 / 1000 = 0 := by
  rw [Int.mul_ediv_cancel _ (by decide)]; omega
/-- the least of m and of b over a list -/
def minP (b : Nat → Int) : Int → List Nat → Int
  | m, [] => m
  | m, r :: l => minP b (min m (b r)) l
theorem le_minP {b : Nat → Int} {a : Int} : ∀ {l : List Nat} {m : Int}, a ≤ minP b m l ↔ a ≤ m ∧ ∀ r, r ∈ l → a ≤ b r
  | [], m => ⟨fun h => ⟨h, fun _ hr => by cases hr⟩, fun h => h.1⟩
  | x :: l, m => by
    show a ≤ minP b (min m (b x)) l ↔ _
    rw [le_minP]
    constructor
    · rintro ⟨h1, h2⟩
      refine ⟨by omega, fun r hr => ?_⟩
      rcases List.mem_cons.mp hr with rfl | hr
      · omega
      · exact h2 r hr
    · rintro ⟨h1, h2⟩
      have := h2 x List.mem_cons_self
      exact ⟨by omega, fun r hr => h2 r (List.mem_cons_of_mem _ hr)⟩
theorem minP_congr {b b' : Nat → Int} : ∀ {l : List Nat} {m : Int}, (∀ r, r ∈ l → b r = b' r) → minP b m l = minP b' m l
  | [], _, _ => rfl
  | x :: l, m, h => by
    show minP b (min m (b x)) l = minP b' (min m (b' x)) l
    rw [h x List.mem_cons_self]
    exact minP_congr (fun r hr => h r (List.mem_cons_of_mem _ hr))
theorem minP_le {b : Nat → Int} {l : List Nat} {m : Int} : minP b m l ≤ m := (le_minP.mp (Int.le_refl _)).1
/-- what a right with reach pl, share sh and return reach rt (below 0: none) takes at r of a diversion of a -/
def took (d : Nat → Int) (pl sh rt a : Int) (r : Nat) : Int := if r ∈ pth d 32 pl then (if r ∈ pth d 32 rt then a - a * sh / 1000 else a) else 0
/-- the bound that the flow f at r puts on it -/
def bnd (d : Nat → Int) (sh rt : Int) (f : Nat → Int) (r : Nat) : Int := if r ∈ pth d 32 rt then (if 1000 - sh ≤ 0 then 1000000000 else f r * 1000 / (1000 - sh)) else f r
theorem rt_nn {d : Nat → Int} {rt : Int} {r n : Nat} (h : r ∈ pth d n rt) : 0 ≤ rt := by
  by_cases q : rt < 0
  · rw [pth_neg q] at h; cases h
  · omega
theorem took_le {d : Nat → Int} {pl sh rt a : Int} {f : Nat → Int} {r : Nat} (hr : r ∈ pth d 32 pl) (hs : 0 ≤ rt → 0 ≤ sh ∧ sh ≤ 1000) (ha : a ≤ 1000000000) (hf : 0 ≤ f r) : took d pl sh rt a r ≤ f r ↔ a ≤ bnd d sh rt f r := by
  unfold took bnd
  rw [if_pos hr]
  by_cases h : r ∈ pth d 32 rt
  · rw [if_pos h, if_pos h]
    obtain ⟨h1, h2⟩ := hs (rt_nn h)
    by_cases h3 : 1000 - sh ≤ 0
    · have : sh = 1000 := by omega
      rw [if_pos h3, this, used_all]
      omega
    · rw [if_neg h3]
      exact used_le rfl (by omega)
  · rw [if_neg h, if_neg h]
/-- its first bound: what it wants, and its reservoir's room -/
def mos0 (st wn ro : Int) : Int := if st < 0 then wn else min wn ro
def mostZ (d : Nat → Int) (pl sh rt st wn ro : Int) (f : Nat → Int) : Int := minP (bnd d sh rt f) (mos0 st wn ro) (pth d 32 pl)
theorem le_most {d : Nat → Int} {pl sh rt st wn ro a : Int} {f : Nat → Int} (hs : 0 ≤ rt → 0 ≤ sh ∧ sh ≤ 1000) (ha : a ≤ wn) (hw : wn ≤ 1000000000) (hf : ∀ r, r ∈ pth d 32 pl → 0 ≤ f r) : a ≤ mostZ d pl sh rt st wn ro f ↔ (∀ r, r ∈ pth d 32 pl → took d pl sh rt a r ≤ f r) ∧ (0 ≤ st → a ≤ ro) := by
  unfold mostZ
  rw [le_minP]
  constructor
  · rintro ⟨h1, h2⟩
    refine ⟨fun r hr => (took_le hr hs (by omega) (hf r hr)).mpr (h2 r hr), fun h => ?_⟩
    unfold mos0 at h1
    rw [if_neg (by omega)] at h1
    omega
  · rintro ⟨h1, h2⟩
    refine ⟨?_, fun r hr => (took_le hr hs (by omega) (hf r hr)).mp (h1 r hr)⟩
    unfold mos0
    by_cases h : st < 0
    · rw [if_pos h]; exact ha
    · rw [if_neg h]
      have := h2 (by omega)
      omega
theorem took_0 (d : Nat → Int) (pl sh rt : Int) (r : Nat) : took d pl sh rt 0 r = 0 := by
  unfold took
  split
  · split
    · rw [Int.zero_mul]; rfl
    · rfl
  · rfl
theorem took_nonneg {d : Nat → Int} {pl sh rt a : Int} {r : Nat} (hs : 0 ≤ rt → 0 ≤ sh ∧ sh ≤ 1000) (ha : 0 ≤ a) : 0 ≤ took d pl sh rt a r := by
  unfold took
  split
  · split
    · rename_i h
      obtain ⟨h1, h2⟩ := hs (rt_nn h)
      have e : a * sh ≤ a * 1000 := Int.mul_le_mul_of_nonneg_left h2 ha
      omega
    · exact ha
  · exact Int.le_refl _
theorem took_le_self {d : Nat → Int} {pl sh rt a : Int} {r : Nat} (hs : 0 ≤ rt → 0 ≤ sh ∧ sh ≤ 1000) (ha : 0 ≤ a) : took d pl sh rt a r ≤ a := by
  unfold took
  split
  · split
    · rename_i h
      obtain ⟨h1, h2⟩ := hs (rt_nn h)
      have e : 0 ≤ a * sh := Int.mul_nonneg ha h1
      omega
    · exact Int.le_refl _
  · exact ha
/-- walking down from the right's reach: has the return reach come? -/
def cbOk (d : Nat → Int) (n : Nat) (rt a : Int) (cb : Bool) : Prop := pEnd d n a ∧ (cb = true → ∀ r, r ∈ pth d n a → r ∈ pth d 32 rt) ∧ (cb = false → rt < 0 ∨ rt.toNat ∈ pth d n a)
theorem cb_here {d : Nat → Int} {n : Nat} {rt a : Int} {cb : Bool} (hn : n < 32) (h : cbOk d (n + 1) rt a cb) (ha : 0 ≤ a) : ((cb || decide (a = rt)) = true ↔ a.toNat ∈ pth d 32 rt) ∧ cbOk d n rt (d a.toNat) (cb || decide (a = rt)) := by
  obtain ⟨hE, h1, h2⟩ := h
  have hE1 := hE.resolve_left (by omega)
  rw [pth_pos ha] at h1 h2
  cases cb with
  | true =>
    have h3 := h1 rfl
    refine ⟨⟨fun _ => h3 _ List.mem_cons_self, fun _ => rfl⟩, hE1, fun _ r hr => h3 r (List.mem_cons_of_mem _ hr), fun q => (by cases q)⟩
  | false =>
    rw [Bool.false_or]
    by_cases e : a = rt
    · subst e
      have hp : pth d 32 a = a.toNat :: pth d n (d a.toNat) := by
        rw [pth_fuel hE (by omega), pth_pos ha]
      refine ⟨⟨fun _ => by rw [hp]; exact List.mem_cons_self, fun _ => decide_eq_true rfl⟩, hE1, fun _ r hr => by rw [hp]; exact List.mem_cons_of_mem _ hr, fun q => ?_⟩
      rw [decide_eq_true rfl] at q; cases q
    · have hd : decide (a = rt) = false := decide_eq_false e
      rw [hd]
      refine ⟨⟨fun q => (by cases q), fun q => ?_⟩, hE1, fun q => (by cases q), fun _ => ?_⟩
      · exfalso
        have hrt := rt_nn q
        rcases h2 rfl with h3 | h3
        · omega
        · rcases List.mem_cons.mp h3 with h4 | h4
          · exact e (by omega)
          · obtain ⟨q1, q2⟩ := pth_mem hE1 h4
            rw [Int.toNat_of_nonneg hrt] at q1 q2
            rw [pth_fuel q1 (by omega)] at q
            exact pth_notail hE ha (by rw [pth_fuel hE1 (Nat.le_succ n)]; exact q2 _ q)
      · by_cases hr : rt < 0
        · exact Or.inl hr
        · rcases h2 rfl with h3 | h3
          · exact Or.inl h3
          · rcases List.mem_cons.mp h3 with h4 | h4
            · exact absurd (show a = rt by omega) e
            · exact Or.inr h4
end
section
def bZ (b : Bool) : Int := if b then 1 else 0
theorem bZ_nar (b : Bool) : narrow .boolean (.int (iI (bZ b))) = .int (iI (bZ b)) := by cases b <;> rfl
theorem bZ_t : bZ true = 1 := rfl
theorem bZ_f : bZ false = 0 := rfl
theorem bZ_in (b : Bool) : inI (bZ b) := by cases b <;> exact ⟨by decide, by decide⟩
theorem bZ_01 (b : Bool) : bZ b = 0 ∨ bZ b = 1 := by cases b <;> simp [bZ]
theorem bZ_0 {b : Bool} : bZ b = 0 ↔ b = false := by cases b <;> simp [bZ]
theorem bZ_n0 {b : Bool} : bZ b ≠ 0 ↔ b = true := by cases b <;> simp [bZ]
/-- is reach t on the path of r? -/
def onP (d : Nat → Int) (r t : Int) : Bool := decide (0 ≤ t ∧ t.toNat ∈ pth d 32 r)
theorem onP_step {d : Nat → Int} {a t k : Int} (hk : 0 ≤ k) (hk2 : k < 32) (ha : 0 ≤ a) : (0 ≤ t ∧ t.toNat ∈ pth d (32 - k).toNat a) ↔ (a = t ∨ (0 ≤ t ∧ t.toNat ∈ pth d (32 - (k + 1)).toNat (d a.toNat))) := by
  rw [show (32 - k).toNat = (32 - (k + 1)).toNat + 1 by omega, pth_pos ha]
  constructor
  · rintro ⟨h1, h2⟩
    rcases List.mem_cons.mp h2 with h | h
    · exact Or.inl (by omega)
    · exact Or.inr ⟨h1, h⟩
  · rintro (h | ⟨h1, h2⟩)
    · subst h
      exact ⟨ha, List.mem_cons_self⟩
    · exact ⟨h1, List.mem_cons_of_mem _ h2⟩
theorem onP_end {d : Nat → Int} {a t k : Int} (h : 32 ≤ k ∨ a < 0) : ¬ (0 ≤ t ∧ t.toNat ∈ pth d (32 - k).toNat a) := by
  rintro ⟨_, h2⟩
  rcases h with h | h
  · rw [show (32 - k).toNat = 0 by omega] at h2; cases h2
  · rw [pth_neg h] at h2; cases h2
/-- water sent from a down to t: so much more at each reach -/
def sendZ (d : Nat → Int) (t am : Int) : Nat → Int → (Nat → Int) → Nat → Int
  | 0, _, f => f
  | n + 1, a, f => if a < 0 then f else if a = t then uZ f a.toNat (f a.toNat + am) else sendZ d t am n (d a.toNat) (uZ f a.toNat (f a.toNat + am))
theorem sendZ_end {d : Nat → Int} {t am a k : Int} {f : Nat → Int} (h : 32 ≤ k ∨ a < 0) : sendZ d t am (32 - k).toNat a f = f := by
  rcases h with h | h
  · rw [show (32 - k).toNat = 0 by omega]; rfl
  · generalize (32 - k).toNat = n
    cases n with
    | zero => rfl
    | succ n => exact if_pos h
theorem sendZ_hit {d : Nat → Int} {t am a k : Int} {f : Nat → Int} (hk : 0 ≤ k) (hk2 : k < 32) (ha : 0 ≤ a) (h : a = t) : sendZ d t am (32 - k).toNat a f = uZ f a.toNat (f a.toNat + am) := by
  rw [show (32 - k).toNat = (32 - (k + 1)).toNat + 1 by omega]
  unfold sendZ
  rw [if_neg (by omega), if_pos h]
theorem sendZ_on {d : Nat → Int} {t am a k : Int} {f : Nat → Int} (hk : 0 ≤ k) (hk2 : k < 32) (ha : 0 ≤ a) (h : a ≠ t) : sendZ d t am (32 - k).toNat a f = sendZ d t am (32 - (k + 1)).toNat (d a.toNat) (uZ f a.toNat (f a.toNat + am)) := by
  rw [show (32 - k).toNat = (32 - (k + 1)).toNat + 1 by omega]
  rw [show sendZ d t am ((32 - (k + 1)).toNat + 1) a f = if a < 0 then f else if a = t then uZ f a.toNat (f a.toNat + am) else sendZ d t am (32 - (k + 1)).toNat (d a.toNat) (uZ f a.toNat (f a.toNat + am)) from rfl, if_neg (by omega), if_neg h]
theorem sumTo_s (f : Nat → Int) {k : Int} (hk : 0 ≤ k) : sumTo f (k + 1).toNat = sumTo f k.toNat + f k.toNat := by
  rw [show (k + 1).toNat = k.toNat + 1 by omega]; rfl
end
section
/-- the rights' order with one more in its place -/
def insA (pr : Nat → Int) (p i : Int) : Nat → (Nat → Int) → Nat → Int
  | 0, f => uZ f 0 i
  | k + 1, f => if pr (f k).toNat > p then insA pr p i k (uZ f (k + 1) (f k)) else uZ f (k + 1) i
theorem insA_stop {pr : Nat → Int} {p i a : Int} {f : Nat → Int} (h0 : 0 ≤ a) (h : a ≤ 0 ∨ pr (f (a - 1).toNat).toNat ≤ p) : insA pr p i a.toNat f = uZ f a.toNat i := by
  by_cases e : a ≤ 0
  · rw [show a.toNat = 0 by omega]; rfl
  · have h1 := h.resolve_left e
    rw [show a.toNat = (a - 1).toNat + 1 by omega]
    exact if_neg (by omega)
theorem insA_on {pr : Nat → Int} {p i a : Int} {f : Nat → Int} (h0 : 0 < a) (h : ¬ pr (f (a - 1).toNat).toNat ≤ p) : insA pr p i a.toNat f = insA pr p i (a - 1).toNat (uZ f a.toNat (f (a - 1).toNat)) := by
  have e : a.toNat = (a - 1).toNat + 1 := by omega
  rw [e]
  exact if_pos (by omega)
/-- the rights' order with one less: how many, and which -/
def remL (i : Int) : Nat → Nat → Nat → (Nat → Int) → Nat × (Nat → Int)
  | 0, _, kept, f => (kept, f)
  | n + 1, k, kept, f => if f k = i then remL i n (k + 1) kept f else remL i n (k + 1) (kept + 1) (uZ f kept (f k))
theorem remL_end {i c k : Int} {kept : Nat} {f : Nat → Int} (h : c ≤ k) : remL i (c - k).toNat k.toNat kept f = (kept, f) := by
  rw [show (c - k).toNat = 0 by omega]; rfl
theorem remL_hit {i c k : Int} {kept : Nat} {f : Nat → Int} (h0 : 0 ≤ k) (h : k < c) (e : f k.toNat = i) : remL i (c - k).toNat k.toNat kept f = remL i (c - (k + 1)).toNat (k + 1).toNat kept f := by
  rw [show (c - k).toNat = (c - (k + 1)).toNat + 1 by omega, show (k + 1).toNat = k.toNat + 1 by omega]
  exact if_pos e
theorem remL_on {i c k : Int} {kept : Nat} {f : Nat → Int} (h0 : 0 ≤ k) (h : k < c) (e : ¬ f k.toNat = i) : remL i (c - k).toNat k.toNat kept f = remL i (c - (k + 1)).toNat (k + 1).toNat (kept + 1) (uZ f kept (f k.toNat)) := by
  rw [show (c - k).toNat = (c - (k + 1)).toNat + 1 by omega, show (k + 1).toNat = k.toNat + 1 by omega]
  exact if_neg e
def hasP (pr ag : Nat → Int) (p : Int) : Nat → Bool
  | 0 => false
  | n + 1 => hasP pr ag p n || decide (pr (ag n).toNat = p)
theorem hasP_iff {pr ag : Nat → Int} {p : Int} : ∀ {n : Nat}, hasP pr ag p n = true ↔ ∃ j, j < n ∧ pr (ag j).toNat = p
  | 0 => ⟨fun h => (by cases h), fun ⟨_, h, _⟩ => absurd h (Nat.not_lt_zero _)⟩
  | n + 1 => by
    show (hasP pr ag p n || decide (pr (ag n).toNat = p)) = true ↔ _
    rw [Bool.or_eq_true, hasP_iff, decide_eq_true_iff]
    constructor
    · rintro (⟨j, h1, h2⟩ | h)
      · exact ⟨j, by omega, h2⟩
      · exact ⟨n, by omega, h⟩
    · rintro ⟨j, h1, h2⟩
      by_cases e : j = n
      · subst e; exact Or.inr h2
      · exact Or.inl ⟨j, by omega, h2⟩
def filZ (f : Nat → Int) (v : Int) (n : Nat) : Nat → Int := fun k => if k < n then v else f k
theorem filZ_0 (f : Nat → Int) (v : Int) : filZ f v 0 = f := rfl
theorem filZ_s (f : Nat → Int) (v : Int) {k : Int} (hk : 0 ≤ k) : uZ (filZ f v k.toNat) k.toNat v = filZ f v (k + 1).toNat := by
  funext j
  unfold uZ filZ
  by_cases h1 : j = k.toNat
  · rw [if_pos h1, if_pos (by omega)]
  · rw [if_neg h1]
    by_cases h2 : j < k.toNat
    · rw [if_pos h2, if_pos (by omega)]
    · rw [if_neg h2, if_neg (by omega)]
def cpZ (f g : Nat → Int) (n : Nat) : Nat → Int := fun k => if k < n then f k else g k
theorem cpy_iI (f g : Nat → Int) (n : Nat) : va_cpy (fun k => iI (f k)) (fun k => iI (g k)) 0 0 n = fun k => iI (cpZ f g n k) := by
  funext k
  unfold va_cpy cpZ
  by_cases h : k < n
  · rw [if_pos ⟨Nat.zero_le _, by omega⟩, if_pos h]; simp
  · rw [if_neg (fun q => h (by omega)), if_neg h]
section RV4
variable {p : Program} {l : Launch} {e : Env} {R : Room} {s : State} {m : MethodId} {args : Array Value} {below : List Frame} {meth : Method} {c : Code} {E : rE} {A : Nat → Prop} {nL cells slots : Nat} {Q : State → Prop} {ws : va_W} {pc : Nat} {lv : List (Nat × Value)} {st : List Value} {cc : ByteArray} {Ts : List Cond} {own : String}
/-- System.arraycopy from the start of one int array to the start of another -/
theorem rg_copyi (C : rC p s m args c E A nL cc Ts own) {index a0 a1 n : Nat} {f g : Nat → Int} {z : Int} {ws' : va_W} (q0 q1 : Nat) (h0 : ws[q0]? = some (cI E a0 n f)) (h1 : ws[q1]? = some (cI E a1 n g)) (hz : z = (n : Int)) (hn : n < 2147483648)
    (w1 : Cond.methodLink own index arraycopyName ∈ gW) (w2 : Cond.native arraycopyName ∈ gW) (w3 : Cond.static arraycopyName ∈ gW) (w4 : Cond.initialized "java/lang/System" ∈ gW)
    (hfr : 1 ≤ R.frames) (hlo : (st.map fun v => v.category).sum + (nativeFrameWords "java/lang/System" "arraycopy" 5 + 11) ≤ R.locals) (hd : decode cc pc = .ok (.invokestatic index, 3))
    (hw : ws.set q1 (cI E a1 n (cpZ f g n)) = ws') (kk : rG p l e R s m args below meth c E A nL cells slots Q ws' (pc + 3) lv st) : rG p l e R s m args below meth c E A nL cells slots Q ws pc lv (.int (iI z) :: .int (iI 0) :: .ref a1 :: .int (iI 0) :: .ref a0 :: st) := by
  intro H locs la hP hD hS hl
  subst hw hz
  have hcl : (iI (n : Int)).toNatClampNeg = n := by rw [iI_cl (by omega) (by omega)]; simp
  have hc0 : (iI 0).toNatClampNeg = 0 := rfl
  have hge : ¬ iI (n : Int) < 0 := fun q => by
    have := (iI_lt (a := (n : Int)) (b := 0) ⟨by omega, by omega⟩ inI_0).mp q
    omega
  refine va_copyi C.1.1 C.1.2.1 (by rw [C.1.2.2.1]; exact hl.1.symm) C.1.2.2.2.1 (C.1.2.2.2.2 _ (C.2.2.2 _ w1)) (C.1.2.2.2.2 _ (C.2.2.2 _ w2)) (C.1.2.2.2.2 _ (C.2.2.2 _ w3)) (C.1.2.2.2.2 _ (C.2.2.2 _ w4)) C.2.1 hP hD hS q0 q1 0 0 h0 h1 rfl rfl rfl (by decide) (by decide) hge (by rw [hcl, hc0]; omega) (by rw [hcl, hc0]; omega) (fun _ _ => rfl) hfr hlo hd ?_
  rw [hcl, hc0, cpy_iI]
  exact fun H1 locs1 hP1 hD1 hS1 => kk H1 locs1 la hP1 hD1 hS1 hl
/-- Math.min of two longs -/
theorem rg_minl (C : rC p s m args c E A nL cc Ts own) {index : Nat} {x y : Int} (hx : inL x) (hy : inL y)
    (w1 : Cond.methodLink own index Lib.MathLoose.min_long.x ∈ gW) (w2 : Cond.static Lib.MathLoose.min_long.x ∈ gW) (w3 : Cond.initialized "java/lang/Math" ∈ gW) (w4 : Cond.code Lib.MathLoose.min_long.x Lib.MathLoose.min_long.code 4 (some .long) ∈ gW)
    (hfr : 1 ≤ R.frames) (hlo : (st.map fun v => v.category).sum + 15 ≤ R.locals) (hc : cells ≤ R.cells) (hs : slots ≤ R.slots) (hd : decode cc pc = .ok (.invokestatic index, 3))
    (kk : rG p l e R s m args below meth c E A nL cells slots Q ws (pc + 3) lv (.long (lI (min x y)) :: st)) : rG p l e R s m args below meth c E A nL cells slots Q ws pc lv (.long (lI y) :: .long (lI x) :: st) := by
  intro H locs la hP hD hS hl
  refine va_mmin_long C.1.1 C.1.2.1 (by rw [C.1.2.2.1]; exact hl.1.symm) C.1.2.2.2.1 (C.1.2.2.2.2 _ (C.2.2.2 _ w1)) (C.1.2.2.2.2 _ (C.2.2.2 _ w2)) (C.1.2.2.2.2 _ (C.2.2.2 _ w3)) (C.1.2.2.2.2 _ (C.2.2.2 _ w4)) hfr hlo hc hs hd ?_
  have e9 : (if lI y < lI x then lI y else lI x) = lI (min x y) := by
    by_cases q : y < x
    · rw [if_pos ((lI_lt hy hx).mpr q), show min x y = y by omega]
    · rw [if_neg (fun z => q ((lI_lt hy hx).mp z)), show min x y = x by omega]
  rw [e9]
  exact kk H locs la hP hD hS hl
end RV4
end
section
theorem rM.ofF {l : Launch} {y : MethodName} {ws ws' : List Cond} {rm : Room} {E : rE} {cin : va_W} {av : List Value} {S : Type} {r : Option Value} {cout : S → va_W} {cc : ByteArray} {maxL : Nat} {ret : Option FieldType}
    (hy : plainFor y = true) (hw : ws = Cond.code y cc maxL ret :: ws') (hle : (lg_sl av).length ≤ maxL)
    (hg : ∀ w ∈ gW, w ∈ ws)
    (body : ∀ (p : Program) (e : Env) (s : State) (m : MethodId) (args : Array Value) (below : List Frame) (meth : Method) (c : Code) (A : Nat → Prop) (Q : State → Prop), A = va_A cin s.heap.size → Q = MQ below (rQ E cin s.heap.size r cout) args s rm.cells rm.slots A → rC p s m args c E A maxL cc ws y.cls → meth.sig.returnType = ret → meth.locks = false → meth.name = y.name →
      rG p l e rm s m args below meth c E A maxL 0 0 Q cin 0 (lv_args 0 av) []) : rM l y ws rm E cin av r cout := by
  intro sz
  refine va_MetF (cc := cc) (maxL := maxL) (ret := ret) hy hw ?_
  intro p e s m args below meth c s₁ B hml hv
  obtain ⟨rfl, hsz, hK, hP, hD0⟩ := hv
  subst hsz
  have hb := body p e s m av.toArray below meth c (va_A cin s.heap.size) _ rfl rfl ⟨⟨B.exec, B.bytes, hml, findClass_of_methodNamed B.named, atoms_spec (ws := ws) B.pre⟩, hK, fun q h => Or.inr h, hg⟩ B.returns B.notSynchronized (name_of_methodNamed B.named B.method).1
  rw [lg_entry_eq]
  exact hb s.heap [] _ hP hD0.self va_S.rf (lv_entry av hle)
section RV5
variable {p : Program} {l : Launch} {e : Env} {R : Room} {s : State} {m : MethodId} {args : Array Value} {below : List Frame} {meth : Method} {c : Code} {E : rE} {A : Nat → Prop} {nL cells slots : Nat} {Q : State → Prop} {ws : va_W} {pc : Nat} {lv : List (Nat × Value)} {st : List Value} {cc : ByteArray} {Ts : List Cond} {own : String}
theorem xor_nn {x y : Int32} (hx : 0 ≤ x.toInt) (hy : 0 ≤ y.toInt) : 0 ≤ (x ^^^ y).toInt := by
  have h1 : x.toBitVec.msb = false := by rw [BitVec.msb_eq_toInt]; exact decide_eq_false (by have : x.toBitVec.toInt = x.toInt := rfl; omega)
  have h2 : y.toBitVec.msb = false := by rw [BitVec.msb_eq_toInt]; exact decide_eq_false (by have : y.toBitVec.toInt = y.toInt := rfl; omega)
  have h3 : (x ^^^ y).toBitVec.msb = false := by rw [Int32.toBitVec_xor, BitVec.msb_xor, h1, h2]; rfl
  rw [BitVec.msb_eq_toInt] at h3
  have h4 := of_decide_eq_false h3
  have h5 : (x ^^^ y).toBitVec.toInt = (x ^^^ y).toInt := rfl
  omega
/-- of two numbers that are not below 0: what comes is not below 0 -/
theorem rg_ixor (C : rC p s m args c E A nL cc Ts own) {a b : Int} (ha : 0 ≤ a ∧ a ≤ 2147483647) (hb : 0 ≤ b ∧ b ≤ 2147483647) (hd : decode cc pc = .ok (.ixor, 1)) (kk : ∀ z : Int, (0 ≤ z ∧ z ≤ 2147483647) → rG p l e R s m args below meth c E A nL cells slots Q ws (pc + 1) lv (.int (iI z) :: st)) : rG p l e R s m args below meth c E A nL cells slots Q ws pc lv (.int (iI b) :: .int (iI a) :: st) := by
  intro H locs la hP hD hS hl
  refine lv_ixor C.1.1 C.1.2.1 hd ?_
  obtain ⟨z, hz, ez⟩ := iI_of (iI a ^^^ iI b)
  have h0 : 0 ≤ z := by
    have := xor_nn (x := iI a) (y := iI b) (by rw [iI_to ⟨by omega, by omega⟩]; exact ha.1) (by rw [iI_to ⟨by omega, by omega⟩]; exact hb.1)
    rw [ez, iI_to hz] at this
    exact this
  rw [ez]
  exact kk z ⟨h0, hz.2⟩ H locs la hP hD hS hl
end RV5
/-- the reservoirs' waters when a day is closed -/
def watZ (st ag get wat : Nat → Int) : Nat → Nat → Int
  | 0 => wat
  | k + 1 => if st (ag k).toNat ≠ -1 then uZ (watZ st ag get wat k) (st (ag k).toNat).toNat (watZ st ag get wat k (st (ag k).toNat).toNat + get (ag k).toNat) else watZ st ag get wat k
theorem dec0 {P : Prop} [Decidable P] : bZ (decide P) = 0 ↔ ¬ P := by rw [bZ_0, decide_eq_false_iff_not]
theorem watZ_no {st ag get wat : Nat → Int} {k : Int} (hk : 0 ≤ k) (h : bZ (decide (st (ag k.toNat).toNat ≠ -1)) = 0) : watZ st ag get wat (k + 1).toNat = watZ st ag get wat k.toNat := by
  rw [show (k + 1).toNat = k.toNat + 1 by omega]
  exact if_neg (dec0.mp h)
theorem watZ_yes {st ag get wat : Nat → Int} {k : Int} (hk : 0 ≤ k) (h : ¬ bZ (decide (st (ag k.toNat).toNat ≠ -1)) = 0) : watZ st ag get wat (k + 1).toNat = uZ (watZ st ag get wat k.toNat) (st (ag k.toNat).toNat).toNat (watZ st ag get wat k.toNat (st (ag k.toNat).toNat).toNat + get (ag k.toNat).toNat) := by
  rw [show (k + 1).toNat = k.toNat + 1 by omega]
  exact if_pos (Decidable.byContradiction fun q => h (dec0.mpr q))
/-- an inflow of am at a goes down to the outlet -/
def pourZ (d : Nat → Int) (am : Int) : Nat → Int → (Nat → Int) → Nat → Int
  | 0, _, f => f
  | n + 1, a, f => if a < 0 then f else pourZ d am n (d a.toNat) (uZ f a.toNat (f a.toNat + am))
theorem pourZ_end {d : Nat → Int} {am a k : Int} {f : Nat → Int} (h : 32 ≤ k ∨ a < 0) : pourZ d am (32 - k).toNat a f = f := by
  rcases h with h | h
  · rw [show (32 - k).toNat = 0 by omega]; rfl
  · generalize (32 - k).toNat = n
    cases n with
    | zero => rfl
    | succ n => exact if_pos h
theorem pourZ_on {d : Nat → Int} {am a k : Int} {f : Nat → Int} (hk : 0 ≤ k) (hk2 : k < 32) (ha : 0 ≤ a) : pourZ d am (32 - k).toNat a f = pourZ d am (32 - (k + 1)).toNat (d a.toNat) (uZ f a.toNat (f a.toNat + am)) := by
  rw [show (32 - k).toNat = (32 - (k + 1)).toNat + 1 by omega]
  exact if_neg (by omega)
def begF (d inf f : Nat → Int) : Nat → Nat → Int
  | 0 => f
  | k + 1 => if inf k ≤ 0 then begF d inf f k else pourZ d (inf k) 32 (k : Int) (begF d inf f k)
theorem begF_no {d inf f : Nat → Int} {k : Int} (hk : 0 ≤ k) (h : inf k.toNat ≤ 0) : begF d inf f (k + 1).toNat = begF d inf f k.toNat := by
  rw [show (k + 1).toNat = k.toNat + 1 by omega]
  exact if_pos h
theorem begF_yes {d inf f : Nat → Int} {k : Int} (hk : 0 ≤ k) (h : ¬ inf k.toNat ≤ 0) : begF d inf f (k + 1).toNat = pourZ d (inf k.toNat) 32 k (begF d inf f k.toNat) := by
  rw [show (k + 1).toNat = k.toNat + 1 by omega]
  have e : ((k.toNat : Nat) : Int) = k := by omega
  rw [show begF d inf f (k.toNat + 1) = if inf k.toNat ≤ 0 then begF d inf f k.toNat else pourZ d (inf k.toNat) 32 ((k.toNat : Nat) : Int) (begF d inf f k.toNat) from rfl, if_neg h, e]
def begR (cap wat roo : Nat → Int) (n : Nat) : Nat → Int := fun j => if j < n then cap j - wat j else roo j
theorem begR_s (cap wat roo : Nat → Int) {k : Int} (hk : 0 ≤ k) : uZ (begR cap wat roo k.toNat) k.toNat (cap k.toNat - wat k.toNat) = begR cap wat roo (k + 1).toNat := by
  funext j
  unfold uZ begR
  by_cases h1 : j = k.toNat
  · rw [if_pos h1, if_pos (by omega), h1]
  · rw [if_neg h1]
    by_cases h2 : j < k.toNat
    · rw [if_pos h2, if_pos (by omega)]
    · rw [if_neg h2, if_neg (by omega)]
/-- the bound at a reach where what comes back has come -/
def mfu (sh f : Int) : Int := if 1000 - sh ≤ 0 then 1000000000 else f * 1000 / (1000 - sh)
/-- the most that a right can get: walking down -/
def mosW (d : Nat → Int) (sh rt : Int) (f : Nat → Int) : Nat → Int → Bool → Int → Int
  | 0, _, _, m => m
  | n + 1, a, cb, m => if a < 0 then m else mosW d sh rt f n (d a.toNat) (cb || decide (a = rt)) (min m (if (cb || decide (a = rt)) = true then mfu sh (f a.toNat) else f a.toNat))
theorem mosW_end {d : Nat → Int} {sh rt a k m : Int} {f : Nat → Int} {cb : Bool} (h : 32 ≤ k ∨ a < 0) : mosW d sh rt f (32 - k).toNat a cb m = m := by
  rcases h with h | h
  · rw [show (32 - k).toNat = 0 by omega]; rfl
  · generalize (32 - k).toNat = n
    cases n with
    | zero => rfl
    | succ n => exact if_pos h
theorem mosW_t {d : Nat → Int} {sh rt a k m : Int} {f : Nat → Int} {cb : Bool} (hk : 0 ≤ k) (hk2 : k < 32) (ha : 0 ≤ a) (h : cb = true ∨ a = rt) : mosW d sh rt f (32 - k).toNat a cb m = mosW d sh rt f (32 - (k + 1)).toNat (d a.toNat) true (min m (mfu sh (f a.toNat))) := by
  have hc : (cb || decide (a = rt)) = true := by rw [Bool.or_eq_true, decide_eq_true_iff]; exact h
  rw [show (32 - k).toNat = (32 - (k + 1)).toNat + 1 by omega]
  rw [show mosW d sh rt f ((32 - (k + 1)).toNat + 1) a cb m = if a < 0 then m else mosW d sh rt f (32 - (k + 1)).toNat (d a.toNat) (cb || decide (a = rt)) (min m (if (cb || decide (a = rt)) = true then mfu sh (f a.toNat) else f a.toNat)) from rfl, if_neg (by omega), hc, if_pos rfl]
theorem mosW_f {d : Nat → Int} {sh rt a k m : Int} {f : Nat → Int} {cb : Bool} (hk : 0 ≤ k) (hk2 : k < 32) (ha : 0 ≤ a) (h1 : cb = false) (h2 : a ≠ rt) : mosW d sh rt f (32 - k).toNat a cb m = mosW d sh rt f (32 - (k + 1)).toNat (d a.toNat) false (min m (f a.toNat)) := by
  have hc : (cb || decide (a = rt)) = false := by rw [h1, decide_eq_false h2]; rfl
  rw [show (32 - k).toNat = (32 - (k + 1)).toNat + 1 by omega]
  rw [show mosW d sh rt f ((32 - (k + 1)).toNat + 1) a cb m = if a < 0 then m else mosW d sh rt f (32 - (k + 1)).toNat (d a.toNat) (cb || decide (a = rt)) (min m (if (cb || decide (a = rt)) = true then mfu sh (f a.toNat) else f a.toNat)) from rfl, if_neg (by omega), hc, if_neg (by decide)]
theorem mfu_in {sh f : Int} (hs : 0 ≤ sh ∧ sh ≤ 1000) (hf : 0 ≤ f ∧ f ≤ 1000000000000) : 0 ≤ mfu sh f ∧ mfu sh f ≤ 1000000000000000 := by
  unfold mfu
  split
  · omega
  · have h1 : f * 1000 / (1000 - sh) ≤ f * 1000 := Int.ediv_le_self _ (by omega)
    have h2 : 0 ≤ f * 1000 / (1000 - sh) := Int.ediv_nonneg (by omega) (by omega)
    omega
/-- what a right's getting am leaves of the flows: walking down -/
def givW (d : Nat → Int) (sh rt am : Int) : Nat → Int → Bool → (Nat → Int) → Nat → Int
  | 0, _, _, f => f
  | n + 1, a, cb, f => if a < 0 then f else givW d sh rt am n (d a.toNat) (cb || decide (a = rt)) (uZ f a.toNat (f a.toNat - (if (cb || decide (a = rt)) = true then am - am * sh / 1000 else am)))
theorem givW_end {d : Nat → Int} {sh rt am a k : Int} {f : Nat → Int} {cb : Bool} (h : 32 ≤ k ∨ a < 0) : givW d sh rt am (32 - k).toNat a cb f = f := by
  rcases h with h | h
  · rw [show (32 - k).toNat = 0 by omega]; rfl
  · generalize (32 - k).toNat = n
    cases n with
    | zero => rfl
    | succ n => exact if_pos h
theorem givW_t {d : Nat → Int} {sh rt am a k : Int} {f : Nat → Int} {cb : Bool} (hk : 0 ≤ k) (hk2 : k < 32) (ha : 0 ≤ a) (h : cb = true ∨ a = rt) : givW d sh rt am (32 - k).toNat a cb f = givW d sh rt am (32 - (k + 1)).toNat (d a.toNat) true (uZ f a.toNat (f a.toNat - (am - am * sh / 1000))) := by
  have hc : (cb || decide (a = rt)) = true := by rw [Bool.or_eq_true, decide_eq_true_iff]; exact h
  rw [show (32 - k).toNat = (32 - (k + 1)).toNat + 1 by omega]
  rw [show givW d sh rt am ((32 - (k + 1)).toNat + 1) a cb f = if a < 0 then f else givW d sh rt am (32 - (k + 1)).toNat (d a.toNat) (cb || decide (a = rt)) (uZ f a.toNat (f a.toNat - (if (cb || decide (a = rt)) = true then am - am * sh / 1000 else am))) from rfl, if_neg (by omega), hc, if_pos rfl]
theorem givW_f {d : Nat → Int} {sh rt am a k : Int} {f : Nat → Int} {cb : Bool} (hk : 0 ≤ k) (hk2 : k < 32) (ha : 0 ≤ a) (h1 : cb = false) (h2 : a ≠ rt) : givW d sh rt am (32 - k).toNat a cb f = givW d sh rt am (32 - (k + 1)).toNat (d a.toNat) false (uZ f a.toNat (f a.toNat - am)) := by
  have hc : (cb || decide (a = rt)) = false := by rw [h1, decide_eq_false h2]; rfl
  rw [show (32 - k).toNat = (32 - (k + 1)).toNat + 1 by omega]
  rw [show givW d sh rt am ((32 - (k + 1)).toNat + 1) a cb f = if a < 0 then f else givW d sh rt am (32 - (k + 1)).toNat (d a.toNat) (cb || decide (a = rt)) (uZ f a.toNat (f a.toNat - (if (cb || decide (a = rt)) = true then am - am * sh / 1000 else am))) from rfl, if_neg (by omega), hc, if_neg (by decide)]
theorem bZ_T {cb : Bool} (h : bZ cb ≠ 0) : cb = true := bZ_n0.mp h
theorem bZ_F {cb : Bool} (h : bZ cb = 0) : cb = false := bZ_0.mp h
/-- the used, and the stored, of the first k rights by age -/
def useS (st sh ag get : Nat → Int) (j : Nat) : Int := if st (ag j).toNat ≠ -1 then 0 else get (ag j).toNat - get (ag j).toNat * sh (ag j).toNat / 1000
def stoS (st ag get : Nat → Int) (j : Nat) : Int := if st (ag j).toNat ≠ -1 then get (ag j).toNat else 0
theorem min9 {m b : Int} (h : 0 ≤ m ∧ m ≤ 1000000000) (hb : 0 ≤ b) : 0 ≤ min m b ∧ min m b ≤ 1000000000 := by omega
theorem wideL {b : Int} (h : 0 ≤ b ∧ b ≤ 1000000000000000) : inL b := by omega
end
section
abbrev rX4_add : Room := { frames := 0, cells := 0, slots := 0, locals := 0 }
set_option maxHeartbeats 4000000 in
set_option maxRecDepth 100000 in
/-- River.add -/
theorem kX4_add (l : Launch) (E : rE) (q0 : Nat) (q1 : Nat) (q2 : Nat) (q3 : Nat) (q4 : Nat) (th : Nat → Int) (be : Nat → Int) (inf : Nat → Int) (snt : Nat → Int) (out : Int) (r : Int) (d : Int) (hr0 : 0 ≤ r ∧ r < 32) (hd0 : inI d) : rM l yX4_add sX4_add rX4_add E [cO q0 4 [.ref q1, .ref q2, .ref q3, .ref q4, .int (iI out)], cZ E q1 32 th, cI E q2 32 be, cI E q3 32 inf, cJ E q4 32 snt] [.ref q0, .int (iI r), .int (iI d)] none (fun _ : Unit => [cO q0 4 [.ref q1, .ref q2, .ref q3, .ref q4, .int (iI (if d = -1 then r else out))], cZ E q1 32 (uZ th r.toNat 1), cI E q2 32 (uZ be r.toNat d), cI E q3 32 inf, cJ E q4 32 snt]) := by
  refine rM.of (cc := cX4_add) (maxL := 3) (ret := none) (by decide) rfl (Nat.le_of_ble_eq_true rfl) (fun w h => List.mem_cons_of_mem _ h) ?_
  intro p e s m args below meth c A Q hA hQ C hr hlk hnm
  have C : rC p s m args c E A 3 cX4_add sX4_add RX4 := C
  show rG p l e rX4_add s m args below meth c E A 3 0 0 Q [cO q0 4 [.ref q1, .ref q2, .ref q3, .ref q4, .int (iI out)], cZ E q1 32 th, cI E q2 32 be, cI E q3 32 inf, cJ E q4 32 snt] 0 [(0, .ref q0), (1, .int (iI r)), (2, .int (iI d))] []
  refine rg_aload_n C 0 dX4_add_0 rfl rfl ?_
  refine rg_get C fX4_9 0 rfl rfl dX4_add_1 ?_
  refine rg_iload_n C 1 dX4_add_4 rfl rfl ?_
  refine rg_iconst C dX4_add_5 ?_
  refine rg_zast (ws' := [cO q0 4 [.ref q1, .ref q2, .ref q3, .ref q4, .int (iI out)], cZ E q1 32 (uZ th r.toNat 1), cI E q2 32 be, cI E q3 32 inf, cJ E q4 32 snt]) C 1 rfl (by decide) (by omega) (by omega) (by decide) dX4_add_6 rfl ?_
  refine rg_aload_n C 0 dX4_add_7 rfl rfl ?_
  refine rg_get C fX4_15 0 rfl rfl dX4_add_8 ?_
  refine rg_iload_n C 1 dX4_add_11 rfl rfl ?_
  refine rg_iload_n C 2 dX4_add_12 rfl rfl ?_
  refine rg_iast (ws' := [cO q0 4 [.ref q1, .ref q2, .ref q3, .ref q4, .int (iI out)], cZ E q1 32 (uZ th r.toNat 1), cI E q2 32 (uZ be r.toNat d), cI E q3 32 inf, cJ E q4 32 snt]) C 2 rfl (by decide) (by omega) (by omega) dX4_add_13 rfl ?_
  refine rg_iload_n C 2 dX4_add_14 rfl rfl ?_
  refine rg_iconst C dX4_add_15 ?_
  refine rg_icmp_ne (tgt := 24) C hd0 ⟨by decide, by decide⟩ dX4_add_16 (by decide) (fun h_16 => ?_) (fun h_16 => ?_)
  · exact rg_vret C hA hQ hr hlk () (by rw [if_neg (by omega)]) rfl dX4_add_24
  · refine rg_aload_n C 0 dX4_add_19 rfl rfl ?_
    refine rg_iload_n C 1 dX4_add_20 rfl rfl ?_
    refine rg_put (ws' := [cO q0 4 [.ref q1, .ref q2, .ref q3, .ref q4, .int (iI r)], cZ E q1 32 (uZ th r.toNat 1), cI E q2 32 (uZ be r.toNat d), cI E q3 32 inf, cJ E q4 32 snt]) C fX4_26 layX4 rfl 0 rfl rfl rfl (Nat.le_of_ble_eq_true rfl) dX4_add_21 rfl ?_
    exact rg_vret C hA hQ hr hlk () (by rw [if_pos (by omega)]) rfl dX4_add_24
abbrev rX4_leadsTo : Room := { frames := 0, cells := 0, slots := 0, locals := 0 }
set_option maxHeartbeats 4000000 in
set_option maxRecDepth 100000 in
/-- River.leadsTo -/
theorem kX4_leadsTo (l : Launch) (E : rE) (q0 : Nat) (q1 : Nat) (q2 : Nat) (q3 : Nat) (q4 : Nat) (th : Nat → Int) (be : Nat → Int) (inf : Nat → Int) (snt : Nat → Int) (out : Int) (fr : Int) (to : Int) (hbe : ∀ r : Nat, r < 32 → -1 ≤ be r ∧ be r < 32) (hf : -1 ≤ fr ∧ fr < 32) (ht : inI to) : rM l yX4_leadsTo sX4_leadsTo rX4_leadsTo E [cO q0 4 [.ref q1, .ref q2, .ref q3, .ref q4, .int (iI out)], cZ E q1 32 th, cI E q2 32 be, cI E q3 32 inf, cJ E q4 32 snt] [.ref q0, .int (iI fr), .int (iI to)] (some (.int (iI (bZ (onP be fr to))))) (fun _ : Unit => [cO q0 4 [.ref q1, .ref q2, .ref q3, .ref q4, .int (iI out)], cZ E q1 32 th, cI E q2 32 be, cI E q3 32 inf, cJ E q4 32 snt]) := by
  refine rM.of (cc := cX4_leadsTo) (maxL := 5) (ret := (some FieldType.boolean)) (by decide) rfl (Nat.le_of_ble_eq_true rfl) (fun w h => List.mem_cons_of_mem _ h) ?_
  intro p e s m args below meth c A Q hA hQ C hr hlk hnm
  have C : rC p s m args c E A 5 cX4_leadsTo sX4_leadsTo RX4 := C
  have L5 : ∀ (n : Nat) (k : Int) (a : Int), (0 ≤ k ∧ k ≤ 32) → (-1 ≤ a ∧ a < 32) → ((0 ≤ to ∧ to.toNat ∈ pth be 32 fr) ↔ (0 ≤ to ∧ to.toNat ∈ pth be (32 - k).toNat a)) → ((32 - k).toNat < n) → rG p l e rX4_leadsTo s m args below meth c E A 5 0 0 Q [cO q0 4 [.ref q1, .ref q2, .ref q3, .ref q4, .int (iI out)], cZ E q1 32 th, cI E q2 32 be, cI E q3 32 inf, cJ E q4 32 snt] 5 [(0, .ref q0), (1, .int (iI fr)), (2, .int (iI to)), (3, .int (iI a)), (4, .int (iI k))] [] := by
    intro n
    induction n with
    | zero => intro k a h1 h2 h3 hm; exact absurd hm (Nat.not_lt_zero _)
    | succ n ih =>
      intro k a h1 h2 h3 hm
      refine rg_iload C 4 dX4_leadsTo_5 rfl ?_
      refine rg_bipush (z := 32) C dX4_leadsTo_7 (by decide) ?_
      refine rg_icmp_ge (tgt := 37) C ⟨by omega, by omega⟩ ⟨by decide, by decide⟩ dX4_leadsTo_9 (by decide) (fun h_9 => ?_) (fun h_9 => ?_)
      · refine rg_iconst C dX4_leadsTo_37 ?_
        exact rg_zret C hA hQ hr hlk () rfl (by first | rfl | decide | exact (bZ_nar _)) (by rw [show onP be fr to = false from decide_eq_false (fun q => onP_end (by omega) (h3.mp q))]; rfl) dX4_leadsTo_38
      · refine rg_iload_n C 3 dX4_leadsTo_12 rfl rfl ?_
        refine rg_iconst C dX4_leadsTo_13 ?_
        refine rg_icmp_eq (tgt := 37) C ⟨by omega, by omega⟩ ⟨by decide, by decide⟩ dX4_leadsTo_14 (by decide) (fun h_14 => ?_) (fun h_14 => ?_)
        · refine rg_iconst C dX4_leadsTo_37 ?_
          exact rg_zret C hA hQ hr hlk () rfl (by first | rfl | decide | exact (bZ_nar _)) (by rw [show onP be fr to = false from decide_eq_false (fun q => onP_end (by omega) (h3.mp q))]; rfl) dX4_leadsTo_38
        · refine rg_iload_n C 3 dX4_leadsTo_17 rfl rfl ?_
          refine rg_iload_n C 2 dX4_leadsTo_18 rfl rfl ?_
          refine rg_icmp_ne (tgt := 24) C ⟨by omega, by omega⟩ ht dX4_leadsTo_19 (by decide) (fun h_19 => ?_) (fun h_19 => ?_)
          · have hb9 := hbe a.toNat (by omega)
            refine rg_aload_n C 0 dX4_leadsTo_24 rfl rfl ?_
            refine rg_get C fX4_15 0 rfl rfl dX4_leadsTo_25 ?_
            refine rg_iload_n C 3 dX4_leadsTo_28 rfl rfl ?_
            refine rg_iald C 2 rfl (by decide) (by omega) (by omega) dX4_leadsTo_29 ?_
            refine rg_istore_n (lv' := [(3, .int (iI (be a.toNat))), (0, .ref q0), (1, .int (iI fr)), (2, .int (iI to)), (4, .int (iI k))]) C dX4_leadsTo_30 rfl (by decide) rfl ?_
            refine rg_iinc (k := 4) (lv' := [(4, .int (iI (k + 1))), (3, .int (iI (be a.toNat))), (0, .ref q0), (1, .int (iI fr)), (2, .int (iI to))]) C dX4_leadsTo_31 rfl (by decide) rfl ?_
            refine rg_goto (tgt := 5) C dX4_leadsTo_34 (by decide) ?_
            refine rG.plv [2, 3, 4, 1, 0] rfl ?_
            exact ih (k + 1) (be a.toNat) (by omega) hb9 (h3.trans ((onP_step h1.1 (by omega) (by omega)).trans ⟨fun h => h.resolve_left (fun q => h_19 q), Or.inr⟩)) (by omega)
          · refine rg_iconst C dX4_leadsTo_22 ?_
            exact rg_zret C hA hQ hr hlk () rfl (by first | rfl | decide | exact (bZ_nar _)) (by rw [show onP be fr to = true from decide_eq_true (h3.mpr ((onP_step h1.1 (by omega) (by omega)).mpr (Or.inl h_19)))]; rfl) dX4_leadsTo_23
  show rG p l e rX4_leadsTo s m args below meth c E A 5 0 0 Q [cO q0 4 [.ref q1, .ref q2, .ref q3, .ref q4, .int (iI out)], cZ E q1 32 th, cI E q2 32 be, cI E q3 32 inf, cJ E q4 32 snt] 0 [(0, .ref q0), (1, .int (iI fr)), (2, .int (iI to))] []
  refine rg_iload_n C 1 dX4_leadsTo_0 rfl rfl ?_
  refine rg_istore_n (lv' := [(3, .int (iI fr)), (0, .ref q0), (1, .int (iI fr)), (2, .int (iI to))]) C dX4_leadsTo_1 rfl (by decide) rfl ?_
  refine rg_iconst C dX4_leadsTo_2 ?_
  refine rg_istore (lv' := [(4, .int (iI 0)), (3, .int (iI fr)), (0, .ref q0), (1, .int (iI fr)), (2, .int (iI to))]) C dX4_leadsTo_3 (by decide) rfl ?_
  refine rG.plv [2, 3, 4, 1, 0] rfl ?_
  exact L5 _ 0 fr (by omega) (by omega) (Iff.rfl) (Nat.lt_succ_self _)
abbrev rX4_send : Room := { frames := 0, cells := 0, slots := 0, locals := 0 }
set_option maxHeartbeats 4000000 in
set_option maxRecDepth 100000 in
/-- River.send -/
theorem kX4_send (l : Launch) (E : rE) (q0 : Nat) (q1 : Nat) (q2 : Nat) (q3 : Nat) (q4 : Nat) (th : Nat → Int) (be : Nat → Int) (inf : Nat → Int) (snt : Nat → Int) (out : Int) (fr : Int) (to : Int) (am : Int) (hbe : ∀ r : Nat, r < 32 → -1 ≤ be r ∧ be r < 32) (hf : -1 ≤ fr ∧ fr < 32) (ht : inI to) (ham : inI am) : rM l yX4_send sX4_send rX4_send E [cO q0 4 [.ref q1, .ref q2, .ref q3, .ref q4, .int (iI out)], cZ E q1 32 th, cI E q2 32 be, cI E q3 32 inf, cJ E q4 32 snt] [.ref q0, .int (iI fr), .int (iI to), .int (iI am)] none (fun _ : Unit => [cO q0 4 [.ref q1, .ref q2, .ref q3, .ref q4, .int (iI out)], cZ E q1 32 th, cI E q2 32 be, cI E q3 32 inf, cJ E q4 32 (sendZ be to am 32 fr snt)]) := by
  refine rM.of (cc := cX4_send) (maxL := 7) (ret := none) (by decide) rfl (Nat.le_of_ble_eq_true rfl) (fun w h => List.mem_cons_of_mem _ h) ?_
  intro p e s m args below meth c A Q hA hQ C hr hlk hnm
  have C : rC p s m args c E A 7 cX4_send sX4_send RX4 := C
  have L9 : ∀ (n : Nat) (k : Int) (a : Int) (ar : Int) (sn : Nat → Int), (0 ≤ k ∧ k ≤ 32) → (-1 ≤ a ∧ a < 32) → (ar = 0 ∨ ar = 1) → (sendZ be to am 32 fr snt = if ar = 0 then sendZ be to am (32 - k).toNat a sn else sn) → ((32 - k).toNat < n) → rG p l e rX4_send s m args below meth c E A 7 0 0 Q [cO q0 4 [.ref q1, .ref q2, .ref q3, .ref q4, .int (iI out)], cZ E q1 32 th, cI E q2 32 be, cI E q3 32 inf, cJ E q4 32 sn] 9 [(0, .ref q0), (1, .int (iI fr)), (2, .int (iI to)), (3, .int (iI am)), (4, .int (iI ar)), (5, .int (iI a)), (6, .int (iI k))] [] := by
    intro n
    induction n with
    | zero => intro k a ar sn h1 h2 h4 h3 hm; exact absurd hm (Nat.not_lt_zero _)
    | succ n ih =>
      intro k a ar sn h1 h2 h4 h3 hm
      refine rg_iload C 6 dX4_send_9 rfl ?_
      refine rg_bipush (z := 32) C dX4_send_11 (by decide) ?_
      refine rg_icmp_ge (tgt := 67) C ⟨by omega, by omega⟩ ⟨by decide, by decide⟩ dX4_send_13 (by decide) (fun h_13 => ?_) (fun h_13 => ?_)
      · have e9 : sendZ be to am 32 fr snt = sn := by
          rw [h3]
          split
          · exact sendZ_end (by omega)
          · rfl
        exact rg_vret C hA hQ hr hlk () (by rw [e9]) rfl dX4_send_67
      · refine rg_iload C 5 dX4_send_16 rfl ?_
        refine rg_iconst C dX4_send_18 ?_
        refine rg_icmp_eq (tgt := 67) C ⟨by omega, by omega⟩ ⟨by decide, by decide⟩ dX4_send_19 (by decide) (fun h_19 => ?_) (fun h_19 => ?_)
        · have e9 : sendZ be to am 32 fr snt = sn := by
            rw [h3]
            split
            · exact sendZ_end (by omega)
            · rfl
          exact rg_vret C hA hQ hr hlk () (by rw [e9]) rfl dX4_send_67
        · refine rg_iload C 4 dX4_send_22 rfl ?_
          refine rg_if_ne (tgt := 67) C ⟨by omega, by omega⟩ dX4_send_24 (by decide) (fun h_24 => ?_) (fun h_24 => ?_)
          · have e9 : sendZ be to am 32 fr snt = sn := by
              rw [h3]
              split
              · exact sendZ_end (by omega)
              · rfl
            exact rg_vret C hA hQ hr hlk () (by rw [e9]) rfl dX4_send_67
          · refine rg_aload_n C 0 dX4_send_27 rfl rfl ?_
            refine rg_get C fX4_22 0 rfl rfl dX4_send_28 ?_
            refine rg_iload C 5 dX4_send_31 rfl ?_
            refine rg_dup2 C dX4_send_33 rfl rfl ?_
            refine rg_lald C 4 rfl (by decide) (by omega) (by omega) dX4_send_34 ?_
            refine rg_iload_n C 3 dX4_send_35 rfl rfl ?_
            refine rg_i2l C ham dX4_send_36 ?_
            refine rg_ladd C dX4_send_37 ?_
            refine rg_last (ws' := [cO q0 4 [.ref q1, .ref q2, .ref q3, .ref q4, .int (iI out)], cZ E q1 32 th, cI E q2 32 be, cI E q3 32 inf, cJ E q4 32 (uZ sn a.toNat ((sn a.toNat) + am))]) C 4 rfl (by decide) (by omega) (by omega) dX4_send_38 rfl ?_
            have hb9 := hbe a.toNat (by omega)
            refine rg_iload C 5 dX4_send_39 rfl ?_
            refine rg_iload_n C 2 dX4_send_41 rfl rfl ?_
            refine rg_icmp_ne (tgt := 49) C ⟨by omega, by omega⟩ ht dX4_send_42 (by decide) (fun h_42 => ?_) (fun h_42 => ?_)
            · refine rg_iconst C dX4_send_49 ?_
              refine rg_istore (lv' := [(4, .int (iI 0)), (0, .ref q0), (1, .int (iI fr)), (2, .int (iI to)), (3, .int (iI am)), (5, .int (iI a)), (6, .int (iI k))]) C dX4_send_50 (by decide) rfl ?_
              refine rg_aload_n C 1 dX4_send_52 rfl rfl ?_
              refine rg_get C fX4_15 0 rfl rfl dX4_send_53 ?_
              refine rg_iload C 5 dX4_send_56 rfl ?_
              refine rg_iald C 2 rfl (by decide) (by omega) (by omega) dX4_send_58 ?_
              refine rg_istore (lv' := [(5, .int (iI (be a.toNat))), (4, .int (iI 0)), (0, .ref q0), (1, .int (iI fr)), (2, .int (iI to)), (3, .int (iI am)), (6, .int (iI k))]) C dX4_send_59 (by decide) rfl ?_
              refine rg_iinc (k := 6) (lv' := [(6, .int (iI (k + 1))), (5, .int (iI (be a.toNat))), (4, .int (iI 0)), (0, .ref q0), (1, .int (iI fr)), (2, .int (iI to)), (3, .int (iI am))]) C dX4_send_61 rfl (by decide) rfl ?_
              refine rg_goto (tgt := 9) C dX4_send_64 (by decide) ?_
              refine rG.plv [3, 4, 5, 6, 2, 1, 0] rfl ?_
              exact ih (k + 1) (be a.toNat) 0 (uZ sn a.toNat ((sn a.toNat) + am)) (by omega) hb9 (Or.inl rfl) (by rw [h3, if_pos (by omega), if_pos rfl]; exact sendZ_on h1.1 (by omega) (by omega) h_42) (by omega)
            · refine rg_iconst C dX4_send_45 ?_
              refine rg_goto (tgt := 50) C dX4_send_46 (by decide) ?_
              refine rg_istore (lv' := [(4, .int (iI 1)), (0, .ref q0), (1, .int (iI fr)), (2, .int (iI to)), (3, .int (iI am)), (5, .int (iI a)), (6, .int (iI k))]) C dX4_send_50 (by decide) rfl ?_
              refine rg_aload_n C 1 dX4_send_52 rfl rfl ?_
              refine rg_get C fX4_15 0 rfl rfl dX4_send_53 ?_
              refine rg_iload C 5 dX4_send_56 rfl ?_
              refine rg_iald C 2 rfl (by decide) (by omega) (by omega) dX4_send_58 ?_
              refine rg_istore (lv' := [(5, .int (iI (be a.toNat))), (4, .int (iI 1)), (0, .ref q0), (1, .int (iI fr)), (2, .int (iI to)), (3, .int (iI am)), (6, .int (iI k))]) C dX4_send_59 (by decide) rfl ?_
              refine rg_iinc (k := 6) (lv' := [(6, .int (iI (k + 1))), (5, .int (iI (be a.toNat))), (4, .int (iI 1)), (0, .ref q0), (1, .int (iI fr)), (2, .int (iI to)), (3, .int (iI am))]) C dX4_send_61 rfl (by decide) rfl ?_
              refine rg_goto (tgt := 9) C dX4_send_64 (by decide) ?_
              refine rG.plv [3, 4, 5, 6, 2, 1, 0] rfl ?_
              exact ih (k + 1) (be a.toNat) 1 (uZ sn a.toNat ((sn a.toNat) + am)) (by omega) hb9 (Or.inr rfl) (by rw [h3, if_pos (by omega), if_neg (by decide)]; exact sendZ_hit h1.1 (by omega) (by omega) h_42) (by omega)
  show rG p l e rX4_send s m args below meth c E A 7 0 0 Q [cO q0 4 [.ref q1, .ref q2, .ref q3, .ref q4, .int (iI out)], cZ E q1 32 th, cI E q2 32 be, cI E q3 32 inf, cJ E q4 32 snt] 0 [(0, .ref q0), (1, .int (iI fr)), (2, .int (iI to)), (3, .int (iI am))] []
  refine rg_iconst C dX4_send_0 ?_
  refine rg_istore (lv' := [(4, .int (iI 0)), (0, .ref q0), (1, .int (iI fr)), (2, .int (iI to)), (3, .int (iI am))]) C dX4_send_1 (by decide) rfl ?_
  refine rg_iload_n C 2 dX4_send_3 rfl rfl ?_
  refine rg_istore (lv' := [(5, .int (iI fr)), (4, .int (iI 0)), (0, .ref q0), (1, .int (iI fr)), (2, .int (iI to)), (3, .int (iI am))]) C dX4_send_4 (by decide) rfl ?_
  refine rg_iconst C dX4_send_6 ?_
  refine rg_istore (lv' := [(6, .int (iI 0)), (5, .int (iI fr)), (4, .int (iI 0)), (0, .ref q0), (1, .int (iI fr)), (2, .int (iI to)), (3, .int (iI am))]) C dX4_send_7 (by decide) rfl ?_
  refine rG.plv [3, 4, 5, 6, 2, 1, 0] rfl ?_
  exact L9 _ 0 fr 0 snt (by omega) (by omega) (Or.inl rfl) (by rw [if_pos rfl]; rfl) (Nat.lt_succ_self _)
abbrev rX4_allInflow : Room := { frames := 0, cells := 0, slots := 0, locals := 0 }
set_option maxHeartbeats 4000000 in
set_option maxRecDepth 100000 in
/-- River.allInflow -/
theorem kX4_allInflow (l : Launch) (E : rE) (q0 : Nat) (q1 : Nat) (q2 : Nat) (q3 : Nat) (q4 : Nat) (th : Nat → Int) (be : Nat → Int) (inf : Nat → Int) (snt : Nat → Int) (out : Int) (hin : ∀ r : Nat, r < 32 → inI (inf r)) : rM l yX4_allInflow sX4_allInflow rX4_allInflow E [cO q0 4 [.ref q1, .ref q2, .ref q3, .ref q4, .int (iI out)], cZ E q1 32 th, cI E q2 32 be, cI E q3 32 inf, cJ E q4 32 snt] [.ref q0] (some (.long (lI (sumTo inf 32)))) (fun _ : Unit => [cO q0 4 [.ref q1, .ref q2, .ref q3, .ref q4, .int (iI out)], cZ E q1 32 th, cI E q2 32 be, cI E q3 32 inf, cJ E q4 32 snt]) := by
  refine rM.of (cc := cX4_allInflow) (maxL := 4) (ret := (some FieldType.long)) (by decide) rfl (Nat.le_of_ble_eq_true rfl) (fun w h => List.mem_cons_of_mem _ h) ?_
  intro p e s m args below meth c A Q hA hQ C hr hlk hnm
  have C : rC p s m args c E A 4 cX4_allInflow sX4_allInflow RX4 := C
  have L4 : ∀ (n : Nat) (k : Int) (ac : Int), (0 ≤ k ∧ k ≤ 32) → (ac = sumTo inf k.toNat) → ((32 - k).toNat < n) → rG p l e rX4_allInflow s m args below meth c E A 4 0 0 Q [cO q0 4 [.ref q1, .ref q2, .ref q3, .ref q4, .int (iI out)], cZ E q1 32 th, cI E q2 32 be, cI E q3 32 inf, cJ E q4 32 snt] 4 [(0, .ref q0), (1, .long (lI ac)), (3, .int (iI k))] [] := by
    intro n
    induction n with
    | zero => intro k ac h1 h3 hm; exact absurd hm (Nat.not_lt_zero _)
    | succ n ih =>
      intro k ac h1 h3 hm
      refine rg_iload_n C 2 dX4_allInflow_4 rfl rfl ?_
      refine rg_bipush (z := 32) C dX4_allInflow_5 (by decide) ?_
      refine rg_icmp_ge (tgt := 26) C ⟨by omega, by omega⟩ ⟨by decide, by decide⟩ dX4_allInflow_7 (by decide) (fun h_7 => ?_) (fun h_7 => ?_)
      · refine rg_lload_n C 1 dX4_allInflow_26 rfl rfl ?_
        exact rg_lret C hA hQ hr hlk () rfl (by rw [h3, show k.toNat = 32 by omega]) dX4_allInflow_27
      · refine rg_lload_n C 1 dX4_allInflow_10 rfl rfl ?_
        refine rg_aload_n C 0 dX4_allInflow_11 rfl rfl ?_
        refine rg_get C fX4_19 0 rfl rfl dX4_allInflow_12 ?_
        refine rg_iload_n C 2 dX4_allInflow_15 rfl rfl ?_
        refine rg_iald C 3 rfl (by decide) (by omega) (by omega) dX4_allInflow_16 ?_
        refine rg_i2l C (hin k.toNat (by omega)) dX4_allInflow_17 ?_
        refine rg_ladd C dX4_allInflow_18 ?_
        refine rg_lstore_n (lv' := [(1, .long (lI (ac + (inf k.toNat)))), (0, .ref q0), (3, .int (iI k))]) C dX4_allInflow_19 rfl (by decide) rfl ?_
        refine rg_iinc (k := 2) (lv' := [(3, .int (iI (k + 1))), (1, .long (lI (ac + (inf k.toNat)))), (0, .ref q0)]) C dX4_allInflow_20 rfl (by decide) rfl ?_
        refine rg_goto (tgt := 4) C dX4_allInflow_23 (by decide) ?_
        refine rG.plv [2, 1, 0] rfl ?_
        exact ih (k + 1) (ac + (inf k.toNat)) (by omega) (by rw [sumTo_s inf h1.1, h3]) (by omega)
  show rG p l e rX4_allInflow s m args below meth c E A 4 0 0 Q [cO q0 4 [.ref q1, .ref q2, .ref q3, .ref q4, .int (iI out)], cZ E q1 32 th, cI E q2 32 be, cI E q3 32 inf, cJ E q4 32 snt] 0 [(0, .ref q0)] []
  refine rg_lconst (z := 0) C dX4_allInflow_0 (by decide) ?_
  refine rg_lstore_n (lv' := [(1, .long (lI 0)), (0, .ref q0)]) C dX4_allInflow_1 rfl (by decide) rfl ?_
  refine rg_iconst C dX4_allInflow_2 ?_
  refine rg_istore_n (lv' := [(3, .int (iI 0)), (1, .long (lI 0)), (0, .ref q0)]) C dX4_allInflow_3 rfl (by decide) rfl ?_
  refine rG.plv [2, 1, 0] rfl ?_
  exact L4 _ 0 0 (by omega) rfl (Nat.lt_succ_self _)
end
section
abbrev rX3_setDirect : Room := { frames := 0, cells := 0, slots := 0, locals := 0 }
set_option maxHeartbeats 4000000 in
set_option maxRecDepth 100000 in
/-- Rights.setDirect -/
theorem kX3_setDirect (l : Launch) (E : rE) (q0 : Nat) (q1 : Nat) (q2 : Nat) (q3 : Nat) (q4 : Nat) (q5 : Nat) (q6 : Nat) (q7 : Nat) (q8 : Nat) (q9 : Nat) (g : Nat → Int) (pl : Nat → Int) (pr : Nat → Int) (ra : Nat → Int) (wn : Nat → Int) (sh : Nat → Int) (rt : Nat → Int) (st : Nat → Int) (ag : Nat → Int) (cn : Int) (r : Int) (a : Int) (b : Int) (hri : 0 ≤ r ∧ r < 40) : rM l yX3_setDirect sX3_setDirect rX3_setDirect E [cO q0 3 [.ref q1, .ref q2, .ref q3, .ref q4, .ref q5, .ref q6, .ref q7, .ref q8, .ref q9, .int (iI cn)], cZ E q1 40 g, cI E q2 40 pl, cI E q3 40 pr, cI E q4 40 ra, cI E q5 40 wn, cI E q6 40 sh, cI E q7 40 rt, cI E q8 40 st, cI E q9 40 ag] [.ref q0, .int (iI r), .int (iI a), .int (iI b)] none (fun _ : Unit => [cO q0 3 [.ref q1, .ref q2, .ref q3, .ref q4, .ref q5, .ref q6, .ref q7, .ref q8, .ref q9, .int (iI cn)], cZ E q1 40 g, cI E q2 40 pl, cI E q3 40 pr, cI E q4 40 ra, cI E q5 40 wn, cI E q6 40 (uZ sh r.toNat a), cI E q7 40 (uZ rt r.toNat b), cI E q8 40 (uZ st r.toNat (-1)), cI E q9 40 ag]) := by
  refine rM.of (cc := cX3_setDirect) (maxL := 4) (ret := none) (by decide) rfl (Nat.le_of_ble_eq_true rfl) (fun w h => List.mem_cons_of_mem _ h) ?_
  intro p e s m args below meth c A Q hA hQ C hr hlk hnm
  have C : rC p s m args c E A 4 cX3_setDirect sX3_setDirect RX3 := C
  show rG p l e rX3_setDirect s m args below meth c E A 4 0 0 Q [cO q0 3 [.ref q1, .ref q2, .ref q3, .ref q4, .ref q5, .ref q6, .ref q7, .ref q8, .ref q9, .int (iI cn)], cZ E q1 40 g, cI E q2 40 pl, cI E q3 40 pr, cI E q4 40 ra, cI E q5 40 wn, cI E q6 40 sh, cI E q7 40 rt, cI E q8 40 st, cI E q9 40 ag] 0 [(0, .ref q0), (1, .int (iI r)), (2, .int (iI a)), (3, .int (iI b))] []
  refine rg_aload_n C 0 dX3_setDirect_0 rfl rfl ?_
  refine rg_get C fX3_28 0 rfl rfl dX3_setDirect_1 ?_
  refine rg_iload_n C 1 dX3_setDirect_4 rfl rfl ?_
  refine rg_iload_n C 2 dX3_setDirect_5 rfl rfl ?_
  refine rg_iast (ws' := [cO q0 3 [.ref q1, .ref q2, .ref q3, .ref q4, .ref q5, .ref q6, .ref q7, .ref q8, .ref q9, .int (iI cn)], cZ E q1 40 g, cI E q2 40 pl, cI E q3 40 pr, cI E q4 40 ra, cI E q5 40 wn, cI E q6 40 (uZ sh r.toNat a), cI E q7 40 rt, cI E q8 40 st, cI E q9 40 ag]) C 6 rfl (by decide) (by omega) (by omega) dX3_setDirect_6 rfl ?_
  refine rg_aload_n C 0 dX3_setDirect_7 rfl rfl ?_
  refine rg_get C fX3_31 0 rfl rfl dX3_setDirect_8 ?_
  refine rg_iload_n C 1 dX3_setDirect_11 rfl rfl ?_
  refine rg_iload_n C 3 dX3_setDirect_12 rfl rfl ?_
  refine rg_iast (ws' := [cO q0 3 [.ref q1, .ref q2, .ref q3, .ref q4, .ref q5, .ref q6, .ref q7, .ref q8, .ref q9, .int (iI cn)], cZ E q1 40 g, cI E q2 40 pl, cI E q3 40 pr, cI E q4 40 ra, cI E q5 40 wn, cI E q6 40 (uZ sh r.toNat a), cI E q7 40 (uZ rt r.toNat b), cI E q8 40 st, cI E q9 40 ag]) C 7 rfl (by decide) (by omega) (by omega) dX3_setDirect_13 rfl ?_
  refine rg_aload_n C 0 dX3_setDirect_14 rfl rfl ?_
  refine rg_get C fX3_34 0 rfl rfl dX3_setDirect_15 ?_
  refine rg_iload_n C 1 dX3_setDirect_18 rfl rfl ?_
  refine rg_iconst C dX3_setDirect_19 ?_
  refine rg_iast (ws' := [cO q0 3 [.ref q1, .ref q2, .ref q3, .ref q4, .ref q5, .ref q6, .ref q7, .ref q8, .ref q9, .int (iI cn)], cZ E q1 40 g, cI E q2 40 pl, cI E q3 40 pr, cI E q4 40 ra, cI E q5 40 wn, cI E q6 40 (uZ sh r.toNat a), cI E q7 40 (uZ rt r.toNat b), cI E q8 40 (uZ st r.toNat (-1)), cI E q9 40 ag]) C 8 rfl (by decide) (by omega) (by omega) dX3_setDirect_20 rfl ?_
  exact rg_vret C hA hQ hr hlk () rfl rfl dX3_setDirect_21
abbrev rX3_setStorage : Room := { frames := 0, cells := 0, slots := 0, locals := 0 }
set_option maxHeartbeats 4000000 in
set_option maxRecDepth 100000 in
/-- Rights.setStorage -/
theorem kX3_setStorage (l : Launch) (E : rE) (q0 : Nat) (q1 : Nat) (q2 : Nat) (q3 : Nat) (q4 : Nat) (q5 : Nat) (q6 : Nat) (q7 : Nat) (q8 : Nat) (q9 : Nat) (g : Nat → Int) (pl : Nat → Int) (pr : Nat → Int) (ra : Nat → Int) (wn : Nat → Int) (sh : Nat → Int) (rt : Nat → Int) (st : Nat → Int) (ag : Nat → Int) (cn : Int) (r : Int) (a : Int) (hri : 0 ≤ r ∧ r < 40) : rM l yX3_setStorage sX3_setStorage rX3_setStorage E [cO q0 3 [.ref q1, .ref q2, .ref q3, .ref q4, .ref q5, .ref q6, .ref q7, .ref q8, .ref q9, .int (iI cn)], cZ E q1 40 g, cI E q2 40 pl, cI E q3 40 pr, cI E q4 40 ra, cI E q5 40 wn, cI E q6 40 sh, cI E q7 40 rt, cI E q8 40 st, cI E q9 40 ag] [.ref q0, .int (iI r), .int (iI a)] none (fun _ : Unit => [cO q0 3 [.ref q1, .ref q2, .ref q3, .ref q4, .ref q5, .ref q6, .ref q7, .ref q8, .ref q9, .int (iI cn)], cZ E q1 40 g, cI E q2 40 pl, cI E q3 40 pr, cI E q4 40 ra, cI E q5 40 wn, cI E q6 40 (uZ sh r.toNat (-1)), cI E q7 40 (uZ rt r.toNat (-1)), cI E q8 40 (uZ st r.toNat a), cI E q9 40 ag]) := by
  refine rM.of (cc := cX3_setStorage) (maxL := 3) (ret := none) (by decide) rfl (Nat.le_of_ble_eq_true rfl) (fun w h => List.mem_cons_of_mem _ h) ?_
  intro p e s m args below meth c A Q hA hQ C hr hlk hnm
  have C : rC p s m args c E A 3 cX3_setStorage sX3_setStorage RX3 := C
  show rG p l e rX3_setStorage s m args below meth c E A 3 0 0 Q [cO q0 3 [.ref q1, .ref q2, .ref q3, .ref q4, .ref q5, .ref q6, .ref q7, .ref q8, .ref q9, .int (iI cn)], cZ E q1 40 g, cI E q2 40 pl, cI E q3 40 pr, cI E q4 40 ra, cI E q5 40 wn, cI E q6 40 sh, cI E q7 40 rt, cI E q8 40 st, cI E q9 40 ag] 0 [(0, .ref q0), (1, .int (iI r)), (2, .int (iI a))] []
  refine rg_aload_n C 0 dX3_setStorage_0 rfl rfl ?_
  refine rg_get C fX3_28 0 rfl rfl dX3_setStorage_1 ?_
  refine rg_iload_n C 1 dX3_setStorage_4 rfl rfl ?_
  refine rg_iconst C dX3_setStorage_5 ?_
  refine rg_iast (ws' := [cO q0 3 [.ref q1, .ref q2, .ref q3, .ref q4, .ref q5, .ref q6, .ref q7, .ref q8, .ref q9, .int (iI cn)], cZ E q1 40 g, cI E q2 40 pl, cI E q3 40 pr, cI E q4 40 ra, cI E q5 40 wn, cI E q6 40 (uZ sh r.toNat (-1)), cI E q7 40 rt, cI E q8 40 st, cI E q9 40 ag]) C 6 rfl (by decide) (by omega) (by omega) dX3_setStorage_6 rfl ?_
  refine rg_aload_n C 0 dX3_setStorage_7 rfl rfl ?_
  refine rg_get C fX3_31 0 rfl rfl dX3_setStorage_8 ?_
  refine rg_iload_n C 1 dX3_setStorage_11 rfl rfl ?_
  refine rg_iconst C dX3_setStorage_12 ?_
  refine rg_iast (ws' := [cO q0 3 [.ref q1, .ref q2, .ref q3, .ref q4, .ref q5, .ref q6, .ref q7, .ref q8, .ref q9, .int (iI cn)], cZ E q1 40 g, cI E q2 40 pl, cI E q3 40 pr, cI E q4 40 ra, cI E q5 40 wn, cI E q6 40 (uZ sh r.toNat (-1)), cI E q7 40 (uZ rt r.toNat (-1)), cI E q8 40 st, cI E q9 40 ag]) C 7 rfl (by decide) (by omega) (by omega) dX3_setStorage_13 rfl ?_
  refine rg_aload_n C 0 dX3_setStorage_14 rfl rfl ?_
  refine rg_get C fX3_34 0 rfl rfl dX3_setStorage_15 ?_
  refine rg_iload_n C 1 dX3_setStorage_18 rfl rfl ?_
  refine rg_iload_n C 2 dX3_setStorage_19 rfl rfl ?_
  refine rg_iast (ws' := [cO q0 3 [.ref q1, .ref q2, .ref q3, .ref q4, .ref q5, .ref q6, .ref q7, .ref q8, .ref q9, .int (iI cn)], cZ E q1 40 g, cI E q2 40 pl, cI E q3 40 pr, cI E q4 40 ra, cI E q5 40 wn, cI E q6 40 (uZ sh r.toNat (-1)), cI E q7 40 (uZ rt r.toNat (-1)), cI E q8 40 (uZ st r.toNat a), cI E q9 40 ag]) C 8 rfl (by decide) (by omega) (by omega) dX3_setStorage_20 rfl ?_
  exact rg_vret C hA hQ hr hlk () rfl rfl dX3_setStorage_21
abbrev rX3_isStorage : Room := { frames := 0, cells := 0, slots := 0, locals := 0 }
set_option maxHeartbeats 4000000 in
set_option maxRecDepth 100000 in
/-- Rights.isStorage -/
theorem kX3_isStorage (l : Launch) (E : rE) (q0 : Nat) (q1 : Nat) (q2 : Nat) (q3 : Nat) (q4 : Nat) (q5 : Nat) (q6 : Nat) (q7 : Nat) (q8 : Nat) (q9 : Nat) (g : Nat → Int) (pl : Nat → Int) (pr : Nat → Int) (ra : Nat → Int) (wn : Nat → Int) (sh : Nat → Int) (rt : Nat → Int) (st : Nat → Int) (ag : Nat → Int) (cn : Int) (r : Int) (hri : 0 ≤ r ∧ r < 40) (hst : ∀ i : Nat, i < 40 → inI (st i)) : rM l yX3_isStorage sX3_isStorage rX3_isStorage E [cO q0 3 [.ref q1, .ref q2, .ref q3, .ref q4, .ref q5, .ref q6, .ref q7, .ref q8, .ref q9, .int (iI cn)], cZ E q1 40 g, cI E q2 40 pl, cI E q3 40 pr, cI E q4 40 ra, cI E q5 40 wn, cI E q6 40 sh, cI E q7 40 rt, cI E q8 40 st, cI E q9 40 ag] [.ref q0, .int (iI r)] (some (.int (iI (bZ (decide (st r.toNat ≠ -1)))))) (fun _ : Unit => [cO q0 3 [.ref q1, .ref q2, .ref q3, .ref q4, .ref q5, .ref q6, .ref q7, .ref q8, .ref q9, .int (iI cn)], cZ E q1 40 g, cI E q2 40 pl, cI E q3 40 pr, cI E q4 40 ra, cI E q5 40 wn, cI E q6 40 sh, cI E q7 40 rt, cI E q8 40 st, cI E q9 40 ag]) := by
  refine rM.of (cc := cX3_isStorage) (maxL := 2) (ret := (some FieldType.boolean)) (by decide) rfl (Nat.le_of_ble_eq_true rfl) (fun w h => List.mem_cons_of_mem _ h) ?_
  intro p e s m args below meth c A Q hA hQ C hr hlk hnm
  have C : rC p s m args c E A 2 cX3_isStorage sX3_isStorage RX3 := C
  show rG p l e rX3_isStorage s m args below meth c E A 2 0 0 Q [cO q0 3 [.ref q1, .ref q2, .ref q3, .ref q4, .ref q5, .ref q6, .ref q7, .ref q8, .ref q9, .int (iI cn)], cZ E q1 40 g, cI E q2 40 pl, cI E q3 40 pr, cI E q4 40 ra, cI E q5 40 wn, cI E q6 40 sh, cI E q7 40 rt, cI E q8 40 st, cI E q9 40 ag] 0 [(0, .ref q0), (1, .int (iI r))] []
  refine rg_aload_n C 0 dX3_isStorage_0 rfl rfl ?_
  refine rg_get C fX3_34 0 rfl rfl dX3_isStorage_1 ?_
  refine rg_iload_n C 1 dX3_isStorage_4 rfl rfl ?_
  refine rg_iald C 8 rfl (by decide) (by omega) (by omega) dX3_isStorage_5 ?_
  refine rg_iconst C dX3_isStorage_6 ?_
  refine rg_icmp_eq (tgt := 14) C (hst r.toNat (by omega)) ⟨by decide, by decide⟩ dX3_isStorage_7 (by decide) (fun h_7 => ?_) (fun h_7 => ?_)
  · refine rg_iconst C dX3_isStorage_14 ?_
    exact rg_zret C hA hQ hr hlk () rfl (by first | rfl | decide | exact (bZ_nar _)) (by rw [decide_eq_false (fun q => q (by omega))]; rfl) dX3_isStorage_15
  · refine rg_iconst C dX3_isStorage_10 ?_
    refine rg_goto (tgt := 15) C dX3_isStorage_11 (by decide) ?_
    exact rg_zret C hA hQ hr hlk () rfl (by first | rfl | decide | exact (bZ_nar _)) (by rw [decide_eq_true (show st r.toNat ≠ -1 by omega)]; rfl) dX3_isStorage_15
abbrev rX3_usedOf : Room := { frames := 0, cells := 0, slots := 0, locals := 0 }
set_option maxHeartbeats 4000000 in
set_option maxRecDepth 100000 in
/-- Rights.usedOf -/
theorem kX3_usedOf (l : Launch) (E : rE) (q0 : Nat) (q1 : Nat) (q2 : Nat) (q3 : Nat) (q4 : Nat) (q5 : Nat) (q6 : Nat) (q7 : Nat) (q8 : Nat) (q9 : Nat) (g : Nat → Int) (pl : Nat → Int) (pr : Nat → Int) (ra : Nat → Int) (wn : Nat → Int) (sh : Nat → Int) (rt : Nat → Int) (st : Nat → Int) (ag : Nat → Int) (cn : Int) (r : Int) (am : Int) (hri : 0 ≤ r ∧ r < 40) (hsh : 0 ≤ sh r.toNat ∧ sh r.toNat ≤ 1000) (ham : 0 ≤ am ∧ am ≤ 1000000000) : rM l yX3_usedOf sX3_usedOf rX3_usedOf E [cO q0 3 [.ref q1, .ref q2, .ref q3, .ref q4, .ref q5, .ref q6, .ref q7, .ref q8, .ref q9, .int (iI cn)], cZ E q1 40 g, cI E q2 40 pl, cI E q3 40 pr, cI E q4 40 ra, cI E q5 40 wn, cI E q6 40 sh, cI E q7 40 rt, cI E q8 40 st, cI E q9 40 ag] [.ref q0, .int (iI r), .int (iI am)] (some (.long (lI (am - am * sh r.toNat / 1000)))) (fun _ : Unit => [cO q0 3 [.ref q1, .ref q2, .ref q3, .ref q4, .ref q5, .ref q6, .ref q7, .ref q8, .ref q9, .int (iI cn)], cZ E q1 40 g, cI E q2 40 pl, cI E q3 40 pr, cI E q4 40 ra, cI E q5 40 wn, cI E q6 40 sh, cI E q7 40 rt, cI E q8 40 st, cI E q9 40 ag]) := by
  refine rM.of (cc := cX3_usedOf) (maxL := 3) (ret := (some FieldType.long)) (by decide) rfl (Nat.le_of_ble_eq_true rfl) (fun w h => List.mem_cons_of_mem _ h) ?_
  intro p e s m args below meth c A Q hA hQ C hr hlk hnm
  have C : rC p s m args c E A 3 cX3_usedOf sX3_usedOf RX3 := C
  have hml : am * sh r.toNat ≤ am * 1000 := Int.mul_le_mul_of_nonneg_left hsh.2 ham.1
  have hmn : 0 ≤ am * sh r.toNat := Int.mul_nonneg ham.1 hsh.1
  show rG p l e rX3_usedOf s m args below meth c E A 3 0 0 Q [cO q0 3 [.ref q1, .ref q2, .ref q3, .ref q4, .ref q5, .ref q6, .ref q7, .ref q8, .ref q9, .int (iI cn)], cZ E q1 40 g, cI E q2 40 pl, cI E q3 40 pr, cI E q4 40 ra, cI E q5 40 wn, cI E q6 40 sh, cI E q7 40 rt, cI E q8 40 st, cI E q9 40 ag] 0 [(0, .ref q0), (1, .int (iI r)), (2, .int (iI am))] []
  refine rg_iload_n C 2 dX3_usedOf_0 rfl rfl ?_
  refine rg_i2l C ⟨by omega, by omega⟩ dX3_usedOf_1 ?_
  refine rg_iload_n C 2 dX3_usedOf_2 rfl rfl ?_
  refine rg_i2l C ⟨by omega, by omega⟩ dX3_usedOf_3 ?_
  refine rg_aload_n C 0 dX3_usedOf_4 rfl rfl ?_
  refine rg_get C fX3_28 0 rfl rfl dX3_usedOf_5 ?_
  refine rg_iload_n C 1 dX3_usedOf_8 rfl rfl ?_
  refine rg_iald C 6 rfl (by decide) (by omega) (by omega) dX3_usedOf_9 ?_
  refine rg_i2l C ⟨by omega, by omega⟩ dX3_usedOf_10 ?_
  refine rg_lmul C dX3_usedOf_11 ?_
  refine rg_ldc2 (v := 1000) (z := 1000) C (by decide +kernel) (by decide) dX3_usedOf_12 ?_
  refine rg_ldiv C ⟨by omega, by omega⟩ (by omega) (by omega) ⟨by decide, by decide⟩ dX3_usedOf_15 ?_
  refine rg_lsub C dX3_usedOf_16 ?_
  exact rg_lret C hA hQ hr hlk () rfl rfl dX3_usedOf_17
abbrev rX3_mostForUse : Room := { frames := 0, cells := 0, slots := 0, locals := 0 }
set_option maxHeartbeats 4000000 in
set_option maxRecDepth 100000 in
/-- Rights.mostForUse -/
theorem kX3_mostForUse (l : Launch) (E : rE) (q0 : Nat) (q1 : Nat) (q2 : Nat) (q3 : Nat) (q4 : Nat) (q5 : Nat) (q6 : Nat) (q7 : Nat) (q8 : Nat) (q9 : Nat) (g : Nat → Int) (pl : Nat → Int) (pr : Nat → Int) (ra : Nat → Int) (wn : Nat → Int) (sh : Nat → Int) (rt : Nat → Int) (st : Nat → Int) (ag : Nat → Int) (cn : Int) (r : Int) (us : Int) (hri : 0 ≤ r ∧ r < 40) (hsh : 0 ≤ sh r.toNat ∧ sh r.toNat ≤ 1000) (hus : 0 ≤ us ∧ us ≤ 1000000000000) : rM l yX3_mostForUse sX3_mostForUse rX3_mostForUse E [cO q0 3 [.ref q1, .ref q2, .ref q3, .ref q4, .ref q5, .ref q6, .ref q7, .ref q8, .ref q9, .int (iI cn)], cZ E q1 40 g, cI E q2 40 pl, cI E q3 40 pr, cI E q4 40 ra, cI E q5 40 wn, cI E q6 40 sh, cI E q7 40 rt, cI E q8 40 st, cI E q9 40 ag] [.ref q0, .int (iI r), .long (lI us)] (some (.long (lI (if 1000 - sh r.toNat ≤ 0 then 1000000000 else us * 1000 / (1000 - sh r.toNat))))) (fun _ : Unit => [cO q0 3 [.ref q1, .ref q2, .ref q3, .ref q4, .ref q5, .ref q6, .ref q7, .ref q8, .ref q9, .int (iI cn)], cZ E q1 40 g, cI E q2 40 pl, cI E q3 40 pr, cI E q4 40 ra, cI E q5 40 wn, cI E q6 40 sh, cI E q7 40 rt, cI E q8 40 st, cI E q9 40 ag]) := by
  refine rM.of (cc := cX3_mostForUse) (maxL := 5) (ret := (some FieldType.long)) (by decide) rfl (Nat.le_of_ble_eq_true rfl) (fun w h => List.mem_cons_of_mem _ h) ?_
  intro p e s m args below meth c A Q hA hQ C hr hlk hnm
  have C : rC p s m args c E A 5 cX3_mostForUse sX3_mostForUse RX3 := C
  show rG p l e rX3_mostForUse s m args below meth c E A 5 0 0 Q [cO q0 3 [.ref q1, .ref q2, .ref q3, .ref q4, .ref q5, .ref q6, .ref q7, .ref q8, .ref q9, .int (iI cn)], cZ E q1 40 g, cI E q2 40 pl, cI E q3 40 pr, cI E q4 40 ra, cI E q5 40 wn, cI E q6 40 sh, cI E q7 40 rt, cI E q8 40 st, cI E q9 40 ag] 0 [(0, .ref q0), (1, .int (iI r)), (2, .long (lI us))] []
  refine rg_sipush (z := 1000) C dX3_mostForUse_0 (by decide) ?_
  refine rg_aload_n C 0 dX3_mostForUse_3 rfl rfl ?_
  refine rg_get C fX3_28 0 rfl rfl dX3_mostForUse_4 ?_
  refine rg_iload_n C 1 dX3_mostForUse_7 rfl rfl ?_
  refine rg_iald C 6 rfl (by decide) (by omega) (by omega) dX3_mostForUse_8 ?_
  refine rg_isub C dX3_mostForUse_9 ?_
  refine rg_istore (lv' := [(4, .int (iI (1000 - (sh r.toNat)))), (0, .ref q0), (1, .int (iI r)), (2, .long (lI us))]) C dX3_mostForUse_10 (by decide) rfl ?_
  refine rg_iload C 0 dX3_mostForUse_12 rfl ?_
  refine rg_if_gt (tgt := 23) C ⟨by omega, by omega⟩ dX3_mostForUse_14 (by decide) (fun h_14 => ?_) (fun h_14 => ?_)
  · refine rg_lload_n C 3 dX3_mostForUse_23 rfl rfl ?_
    refine rg_ldc2 (v := 1000) (z := 1000) C (by decide +kernel) (by decide) dX3_mostForUse_24 ?_
    refine rg_lmul C dX3_mostForUse_27 ?_
    refine rg_iload C 0 dX3_mostForUse_28 rfl ?_
    refine rg_i2l C ⟨by omega, by omega⟩ dX3_mostForUse_30 ?_
    refine rg_ldiv C ⟨by omega, by omega⟩ (by omega) (by omega) ⟨by omega, by omega⟩ dX3_mostForUse_31 ?_
    exact rg_lret C hA hQ hr hlk () rfl (by rw [if_neg (by omega)]) dX3_mostForUse_32
  · refine rg_ldc2 (v := 1000000000) (z := 1000000000) C (by decide +kernel) (by decide) dX3_mostForUse_17 ?_
    refine rg_goto (tgt := 32) C dX3_mostForUse_20 (by decide) ?_
    exact rg_lret C hA hQ hr hlk () rfl (by rw [if_pos (by omega)]) dX3_mostForUse_32
abbrev rX3_hasPriority : Room := { frames := 0, cells := 0, slots := 0, locals := 0 }
set_option maxHeartbeats 4000000 in
set_option maxRecDepth 100000 in
/-- Rights.hasPriority -/
theorem kX3_hasPriority (l : Launch) (E : rE) (q0 : Nat) (q1 : Nat) (q2 : Nat) (q3 : Nat) (q4 : Nat) (q5 : Nat) (q6 : Nat) (q7 : Nat) (q8 : Nat) (q9 : Nat) (g : Nat → Int) (pl : Nat → Int) (pr : Nat → Int) (ra : Nat → Int) (wn : Nat → Int) (sh : Nat → Int) (rt : Nat → Int) (st : Nat → Int) (ag : Nat → Int) (cn : Int) (p0 : Int) (hag : ∀ j : Nat, (j : Int) < cn → 0 ≤ ag j ∧ ag j < 40) (hpr : ∀ i : Nat, i < 40 → inI (pr i)) (hcn : 0 ≤ cn ∧ cn ≤ 40) (hp0 : inI p0) : rM l yX3_hasPriority sX3_hasPriority rX3_hasPriority E [cO q0 3 [.ref q1, .ref q2, .ref q3, .ref q4, .ref q5, .ref q6, .ref q7, .ref q8, .ref q9, .int (iI cn)], cZ E q1 40 g, cI E q2 40 pl, cI E q3 40 pr, cI E q4 40 ra, cI E q5 40 wn, cI E q6 40 sh, cI E q7 40 rt, cI E q8 40 st, cI E q9 40 ag] [.ref q0, .int (iI p0)] (some (.int (iI (bZ (hasP pr ag p0 cn.toNat))))) (fun _ : Unit => [cO q0 3 [.ref q1, .ref q2, .ref q3, .ref q4, .ref q5, .ref q6, .ref q7, .ref q8, .ref q9, .int (iI cn)], cZ E q1 40 g, cI E q2 40 pl, cI E q3 40 pr, cI E q4 40 ra, cI E q5 40 wn, cI E q6 40 sh, cI E q7 40 rt, cI E q8 40 st, cI E q9 40 ag]) := by
  refine rM.of (cc := cX3_hasPriority) (maxL := 3) (ret := (some FieldType.boolean)) (by decide) rfl (Nat.le_of_ble_eq_true rfl) (fun w h => List.mem_cons_of_mem _ h) ?_
  intro p e s m args below meth c A Q hA hQ C hr hlk hnm
  have C : rC p s m args c E A 3 cX3_hasPriority sX3_hasPriority RX3 := C
  have L2 : ∀ (n : Nat) (k : Int), (0 ≤ k ∧ k ≤ cn) → (hasP pr ag p0 k.toNat = false) → ((cn - k).toNat < n) → rG p l e rX3_hasPriority s m args below meth c E A 3 0 0 Q [cO q0 3 [.ref q1, .ref q2, .ref q3, .ref q4, .ref q5, .ref q6, .ref q7, .ref q8, .ref q9, .int (iI cn)], cZ E q1 40 g, cI E q2 40 pl, cI E q3 40 pr, cI E q4 40 ra, cI E q5 40 wn, cI E q6 40 sh, cI E q7 40 rt, cI E q8 40 st, cI E q9 40 ag] 2 [(0, .ref q0), (1, .int (iI p0)), (2, .int (iI k))] [] := by
    intro n
    induction n with
    | zero => intro k h1 h3 hm; exact absurd hm (Nat.not_lt_zero _)
    | succ n ih =>
      intro k h1 h3 hm
      refine rg_iload_n C 2 dX3_hasPriority_2 rfl rfl ?_
      refine rg_aload_n C 0 dX3_hasPriority_3 rfl rfl ?_
      refine rg_get C fX3_40 0 rfl rfl dX3_hasPriority_4 ?_
      refine rg_icmp_ge (tgt := 33) C ⟨by omega, by omega⟩ ⟨by omega, by omega⟩ dX3_hasPriority_7 (by decide) (fun h_7 => ?_) (fun h_7 => ?_)
      · refine rg_iconst C dX3_hasPriority_33 ?_
        exact rg_zret C hA hQ hr hlk () rfl (by first | rfl | decide | exact (bZ_nar _)) (by rw [show cn.toNat = k.toNat by omega, h3]; rfl) dX3_hasPriority_34
      · have ha9 := hag k.toNat (by omega)
        refine rg_aload_n C 0 dX3_hasPriority_10 rfl rfl ?_
        refine rg_get C fX3_19 0 rfl rfl dX3_hasPriority_11 ?_
        refine rg_aload_n C 0 dX3_hasPriority_14 rfl rfl ?_
        refine rg_get C fX3_37 0 rfl rfl dX3_hasPriority_15 ?_
        refine rg_iload_n C 2 dX3_hasPriority_18 rfl rfl ?_
        refine rg_iald C 9 rfl (by decide) (by omega) (by omega) dX3_hasPriority_19 ?_
        refine rg_iald C 3 rfl (by decide) (by omega) (by omega) dX3_hasPriority_20 ?_
        have hp9 := hpr (ag k.toNat).toNat (by omega)
        refine rg_iload_n C 1 dX3_hasPriority_21 rfl rfl ?_
        refine rg_icmp_ne (tgt := 27) C hp9 hp0 dX3_hasPriority_22 (by decide) (fun h_22 => ?_) (fun h_22 => ?_)
        · refine rg_iinc (k := 2) (lv' := [(2, .int (iI (k + 1))), (0, .ref q0), (1, .int (iI p0))]) C dX3_hasPriority_27 rfl (by decide) rfl ?_
          refine rg_goto (tgt := 2) C dX3_hasPriority_30 (by decide) ?_
          refine rG.plv [1, 2, 0] rfl ?_
          exact ih (k + 1) (by omega) (by rw [show (k + 1).toNat = k.toNat + 1 by omega]; show (hasP pr ag p0 k.toNat || _) = false; rw [h3, decide_eq_false h_22]; rfl) (by omega)
        · refine rg_iconst C dX3_hasPriority_25 ?_
          exact rg_zret C hA hQ hr hlk () rfl (by first | rfl | decide | exact (bZ_nar _)) (by rw [hasP_iff.mpr ⟨k.toNat, by omega, h_22⟩]; rfl) dX3_hasPriority_26
  show rG p l e rX3_hasPriority s m args below meth c E A 3 0 0 Q [cO q0 3 [.ref q1, .ref q2, .ref q3, .ref q4, .ref q5, .ref q6, .ref q7, .ref q8, .ref q9, .int (iI cn)], cZ E q1 40 g, cI E q2 40 pl, cI E q3 40 pr, cI E q4 40 ra, cI E q5 40 wn, cI E q6 40 sh, cI E q7 40 rt, cI E q8 40 st, cI E q9 40 ag] 0 [(0, .ref q0), (1, .int (iI p0))] []
  refine rg_iconst C dX3_hasPriority_0 ?_
  refine rg_istore_n (lv' := [(2, .int (iI 0)), (0, .ref q0), (1, .int (iI p0))]) C dX3_hasPriority_1 rfl (by decide) rfl ?_
  refine rG.plv [1, 2, 0] rfl ?_
  exact L2 _ 0 (by omega) rfl (Nat.lt_succ_self _)
abbrev rX3_add : Room := { frames := 0, cells := 0, slots := 0, locals := 0 }
set_option maxHeartbeats 4000000 in
set_option maxRecDepth 100000 in
/-- Rights.add -/
theorem kX3_add (l : Launch) (E : rE) (q0 : Nat) (q1 : Nat) (q2 : Nat) (q3 : Nat) (q4 : Nat) (q5 : Nat) (q6 : Nat) (q7 : Nat) (q8 : Nat) (q9 : Nat) (g : Nat → Int) (pl : Nat → Int) (pr : Nat → Int) (ra : Nat → Int) (wn : Nat → Int) (sh : Nat → Int) (rt : Nat → Int) (st : Nat → Int) (ag : Nat → Int) (cn : Int) (r : Int) (a : Int) (p0 : Int) (b : Int) (hri : 0 ≤ r ∧ r < 40) (hag : ∀ j : Nat, (j : Int) < cn → 0 ≤ ag j ∧ ag j < 40) (hpr : ∀ i : Nat, i < 40 → inI (pr i)) (hcn : 0 ≤ cn ∧ cn ≤ 39) (hp0 : inI p0) : rM l yX3_add sX3_add rX3_add E [cO q0 3 [.ref q1, .ref q2, .ref q3, .ref q4, .ref q5, .ref q6, .ref q7, .ref q8, .ref q9, .int (iI cn)], cZ E q1 40 g, cI E q2 40 pl, cI E q3 40 pr, cI E q4 40 ra, cI E q5 40 wn, cI E q6 40 sh, cI E q7 40 rt, cI E q8 40 st, cI E q9 40 ag] [.ref q0, .int (iI r), .int (iI a), .int (iI p0), .int (iI b)] none (fun _ : Unit => [cO q0 3 [.ref q1, .ref q2, .ref q3, .ref q4, .ref q5, .ref q6, .ref q7, .ref q8, .ref q9, .int (iI (cn + 1))], cZ E q1 40 (uZ g r.toNat 1), cI E q2 40 (uZ pl r.toNat a), cI E q3 40 (uZ pr r.toNat p0), cI E q4 40 (uZ ra r.toNat b), cI E q5 40 (uZ wn r.toNat b), cI E q6 40 sh, cI E q7 40 rt, cI E q8 40 st, cI E q9 40 (insA (uZ pr r.toNat p0) p0 r cn.toNat ag)]) := by
  refine rM.of (cc := cX3_add) (maxL := 6) (ret := none) (by decide) rfl (Nat.le_of_ble_eq_true rfl) (fun w h => List.mem_cons_of_mem _ h) ?_
  intro p e s m args below meth c A Q hA hQ C hr hlk hnm
  have C : rC p s m args c E A 6 cX3_add sX3_add RX3 := C
  have L43 : ∀ (n : Nat) (ad : Int) (f : Nat → Int), (0 ≤ ad ∧ ad ≤ cn) → (∀ j : Nat, (j : Int) < ad → 0 ≤ f j ∧ f j < 40) → (insA (uZ pr r.toNat p0) p0 r cn.toNat ag = insA (uZ pr r.toNat p0) p0 r ad.toNat f) → (ad.toNat < n) → rG p l e rX3_add s m args below meth c E A 6 0 0 Q [cO q0 3 [.ref q1, .ref q2, .ref q3, .ref q4, .ref q5, .ref q6, .ref q7, .ref q8, .ref q9, .int (iI cn)], cZ E q1 40 (uZ g r.toNat 1), cI E q2 40 (uZ pl r.toNat a), cI E q3 40 (uZ pr r.toNat p0), cI E q4 40 (uZ ra r.toNat b), cI E q5 40 (uZ wn r.toNat b), cI E q6 40 sh, cI E q7 40 rt, cI E q8 40 st, cI E q9 40 f] 43 [(0, .ref q0), (1, .int (iI r)), (2, .int (iI a)), (3, .int (iI p0)), (4, .int (iI b)), (5, .int (iI ad))] [] := by
    intro n
    induction n with
    | zero => intro ad f h1 h2 h3 hm; exact absurd hm (Nat.not_lt_zero _)
    | succ n ih =>
      intro ad f h1 h2 h3 hm
      refine rg_iload C 5 dX3_add_43 rfl ?_
      refine rg_if_le (tgt := 88) C ⟨by omega, by omega⟩ dX3_add_45 (by decide) (fun h_45 => ?_) (fun h_45 => ?_)
      · refine rg_aload_n C 0 dX3_add_88 rfl rfl ?_
        refine rg_get C fX3_37 0 rfl rfl dX3_add_89 ?_
        refine rg_iload C 5 dX3_add_92 rfl ?_
        refine rg_iload_n C 1 dX3_add_94 rfl rfl ?_
        refine rg_iast (ws' := [cO q0 3 [.ref q1, .ref q2, .ref q3, .ref q4, .ref q5, .ref q6, .ref q7, .ref q8, .ref q9, .int (iI cn)], cZ E q1 40 (uZ g r.toNat 1), cI E q2 40 (uZ pl r.toNat a), cI E q3 40 (uZ pr r.toNat p0), cI E q4 40 (uZ ra r.toNat b), cI E q5 40 (uZ wn r.toNat b), cI E q6 40 sh, cI E q7 40 rt, cI E q8 40 st, cI E q9 40 (uZ f ad.toNat r)]) C 9 rfl (by decide) (by omega) (by omega) dX3_add_95 rfl ?_
        refine rg_aload_n C 0 dX3_add_96 rfl rfl ?_
        refine rg_dup C dX3_add_97 rfl ?_
        refine rg_get C fX3_40 0 rfl rfl dX3_add_98 ?_
        refine rg_iconst C dX3_add_101 ?_
        refine rg_iadd C dX3_add_102 ?_
        refine rg_put (ws' := [cO q0 3 [.ref q1, .ref q2, .ref q3, .ref q4, .ref q5, .ref q6, .ref q7, .ref q8, .ref q9, .int (iI (cn + 1))], cZ E q1 40 (uZ g r.toNat 1), cI E q2 40 (uZ pl r.toNat a), cI E q3 40 (uZ pr r.toNat p0), cI E q4 40 (uZ ra r.toNat b), cI E q5 40 (uZ wn r.toNat b), cI E q6 40 sh, cI E q7 40 rt, cI E q8 40 st, cI E q9 40 (uZ f ad.toNat r)]) C fX3_40 layX3 rfl 0 rfl rfl rfl (Nat.le_of_ble_eq_true rfl) dX3_add_103 rfl ?_
        exact rg_vret C hA hQ hr hlk () (by rw [h3, insA_stop (by omega) (by omega)]) rfl dX3_add_106
      · have hf9 := h2 (ad - 1).toNat (by omega)
        refine rg_aload_n C 0 dX3_add_48 rfl rfl ?_
        refine rg_get C fX3_19 0 rfl rfl dX3_add_49 ?_
        refine rg_aload_n C 0 dX3_add_52 rfl rfl ?_
        refine rg_get C fX3_37 0 rfl rfl dX3_add_53 ?_
        refine rg_iload C 5 dX3_add_56 rfl ?_
        refine rg_iconst C dX3_add_58 ?_
        refine rg_isub C dX3_add_59 ?_
        refine rg_iald C 9 rfl (by decide) (by omega) (by omega) dX3_add_60 ?_
        have hp9 : inI (uZ pr r.toNat p0 (f (ad - 1).toNat).toNat) := by
          unfold uZ
          split
          · exact hp0
          · exact hpr _ (by omega)
        refine rg_iald C 3 rfl (by decide) (by omega) (by omega) dX3_add_61 ?_
        refine rg_iload_n C 3 dX3_add_62 rfl rfl ?_
        refine rg_icmp_le (tgt := 88) C hp9 hp0 dX3_add_63 (by decide) (fun h_63 => ?_) (fun h_63 => ?_)
        · refine rg_aload_n C 0 dX3_add_88 rfl rfl ?_
          refine rg_get C fX3_37 0 rfl rfl dX3_add_89 ?_
          refine rg_iload C 5 dX3_add_92 rfl ?_
          refine rg_iload_n C 1 dX3_add_94 rfl rfl ?_
          refine rg_iast (ws' := [cO q0 3 [.ref q1, .ref q2, .ref q3, .ref q4, .ref q5, .ref q6, .ref q7, .ref q8, .ref q9, .int (iI cn)], cZ E q1 40 (uZ g r.toNat 1), cI E q2 40 (uZ pl r.toNat a), cI E q3 40 (uZ pr r.toNat p0), cI E q4 40 (uZ ra r.toNat b), cI E q5 40 (uZ wn r.toNat b), cI E q6 40 sh, cI E q7 40 rt, cI E q8 40 st, cI E q9 40 (uZ f ad.toNat r)]) C 9 rfl (by decide) (by omega) (by omega) dX3_add_95 rfl ?_
          refine rg_aload_n C 0 dX3_add_96 rfl rfl ?_
          refine rg_dup C dX3_add_97 rfl ?_
          refine rg_get C fX3_40 0 rfl rfl dX3_add_98 ?_
          refine rg_iconst C dX3_add_101 ?_
          refine rg_iadd C dX3_add_102 ?_
          refine rg_put (ws' := [cO q0 3 [.ref q1, .ref q2, .ref q3, .ref q4, .ref q5, .ref q6, .ref q7, .ref q8, .ref q9, .int (iI (cn + 1))], cZ E q1 40 (uZ g r.toNat 1), cI E q2 40 (uZ pl r.toNat a), cI E q3 40 (uZ pr r.toNat p0), cI E q4 40 (uZ ra r.toNat b), cI E q5 40 (uZ wn r.toNat b), cI E q6 40 sh, cI E q7 40 rt, cI E q8 40 st, cI E q9 40 (uZ f ad.toNat r)]) C fX3_40 layX3 rfl 0 rfl rfl rfl (Nat.le_of_ble_eq_true rfl) dX3_add_103 rfl ?_
          exact rg_vret C hA hQ hr hlk () (by rw [h3, insA_stop (by omega) (by omega)]) rfl dX3_add_106
        · refine rg_aload_n C 0 dX3_add_66 rfl rfl ?_
          refine rg_get C fX3_37 0 rfl rfl dX3_add_67 ?_
          refine rg_iload C 5 dX3_add_70 rfl ?_
          refine rg_aload_n C 0 dX3_add_72 rfl rfl ?_
          refine rg_get C fX3_37 0 rfl rfl dX3_add_73 ?_
          refine rg_iload C 5 dX3_add_76 rfl ?_
          refine rg_iconst C dX3_add_78 ?_
          refine rg_isub C dX3_add_79 ?_
          refine rg_iald C 9 rfl (by decide) (by omega) (by omega) dX3_add_80 ?_
          refine rg_iast (ws' := [cO q0 3 [.ref q1, .ref q2, .ref q3, .ref q4, .ref q5, .ref q6, .ref q7, .ref q8, .ref q9, .int (iI cn)], cZ E q1 40 (uZ g r.toNat 1), cI E q2 40 (uZ pl r.toNat a), cI E q3 40 (uZ pr r.toNat p0), cI E q4 40 (uZ ra r.toNat b), cI E q5 40 (uZ wn r.toNat b), cI E q6 40 sh, cI E q7 40 rt, cI E q8 40 st, cI E q9 40 (uZ f ad.toNat (f (ad - 1).toNat))]) C 9 rfl (by decide) (by omega) (by omega) dX3_add_81 rfl ?_
          refine rg_iinc (k := 5) (lv' := [(5, .int (iI (ad + (-1)))), (0, .ref q0), (1, .int (iI r)), (2, .int (iI a)), (3, .int (iI p0)), (4, .int (iI b))]) C dX3_add_82 rfl (by decide) rfl ?_
          refine rg_goto (tgt := 43) C dX3_add_85 (by decide) ?_
          refine rG.plv [1, 2, 3, 4, 5, 0] rfl ?_
          exact ih (ad + (-1)) (uZ f ad.toNat (f (ad - 1).toNat)) (by omega) (fun j hj => by rw [uZ_n f _ (by omega)]; exact h2 j (by omega)) (h3.trans (insA_on (by omega) h_63)) (by omega)
  show rG p l e rX3_add s m args below meth c E A 6 0 0 Q [cO q0 3 [.ref q1, .ref q2, .ref q3, .ref q4, .ref q5, .ref q6, .ref q7, .ref q8, .ref q9, .int (iI cn)], cZ E q1 40 g, cI E q2 40 pl, cI E q3 40 pr, cI E q4 40 ra, cI E q5 40 wn, cI E q6 40 sh, cI E q7 40 rt, cI E q8 40 st, cI E q9 40 ag] 0 [(0, .ref q0), (1, .int (iI r)), (2, .int (iI a)), (3, .int (iI p0)), (4, .int (iI b))] []
  refine rg_aload_n C 0 dX3_add_0 rfl rfl ?_
  refine rg_get C fX3_9 0 rfl rfl dX3_add_1 ?_
  refine rg_iload_n C 1 dX3_add_4 rfl rfl ?_
  refine rg_iconst C dX3_add_5 ?_
  refine rg_zast (ws' := [cO q0 3 [.ref q1, .ref q2, .ref q3, .ref q4, .ref q5, .ref q6, .ref q7, .ref q8, .ref q9, .int (iI cn)], cZ E q1 40 (uZ g r.toNat 1), cI E q2 40 pl, cI E q3 40 pr, cI E q4 40 ra, cI E q5 40 wn, cI E q6 40 sh, cI E q7 40 rt, cI E q8 40 st, cI E q9 40 ag]) C 1 rfl (by decide) (by omega) (by omega) (by decide) dX3_add_6 rfl ?_
  refine rg_aload_n C 0 dX3_add_7 rfl rfl ?_
  refine rg_get C fX3_15 0 rfl rfl dX3_add_8 ?_
  refine rg_iload_n C 1 dX3_add_11 rfl rfl ?_
  refine rg_iload_n C 2 dX3_add_12 rfl rfl ?_
  refine rg_iast (ws' := [cO q0 3 [.ref q1, .ref q2, .ref q3, .ref q4, .ref q5, .ref q6, .ref q7, .ref q8, .ref q9, .int (iI cn)], cZ E q1 40 (uZ g r.toNat 1), cI E q2 40 (uZ pl r.toNat a), cI E q3 40 pr, cI E q4 40 ra, cI E q5 40 wn, cI E q6 40 sh, cI E q7 40 rt, cI E q8 40 st, cI E q9 40 ag]) C 2 rfl (by decide) (by omega) (by omega) dX3_add_13 rfl ?_
  refine rg_aload_n C 0 dX3_add_14 rfl rfl ?_
  refine rg_get C fX3_19 0 rfl rfl dX3_add_15 ?_
  refine rg_iload_n C 1 dX3_add_18 rfl rfl ?_
  refine rg_iload_n C 3 dX3_add_19 rfl rfl ?_
  refine rg_iast (ws' := [cO q0 3 [.ref q1, .ref q2, .ref q3, .ref q4, .ref q5, .ref q6, .ref q7, .ref q8, .ref q9, .int (iI cn)], cZ E q1 40 (uZ g r.toNat 1), cI E q2 40 (uZ pl r.toNat a), cI E q3 40 (uZ pr r.toNat p0), cI E q4 40 ra, cI E q5 40 wn, cI E q6 40 sh, cI E q7 40 rt, cI E q8 40 st, cI E q9 40 ag]) C 3 rfl (by decide) (by omega) (by omega) dX3_add_20 rfl ?_
  refine rg_aload_n C 0 dX3_add_21 rfl rfl ?_
  refine rg_get C fX3_22 0 rfl rfl dX3_add_22 ?_
  refine rg_iload_n C 1 dX3_add_25 rfl rfl ?_
  refine rg_iload C 4 dX3_add_26 rfl ?_
  refine rg_iast (ws' := [cO q0 3 [.ref q1, .ref q2, .ref q3, .ref q4, .ref q5, .ref q6, .ref q7, .ref q8, .ref q9, .int (iI cn)], cZ E q1 40 (uZ g r.toNat 1), cI E q2 40 (uZ pl r.toNat a), cI E q3 40 (uZ pr r.toNat p0), cI E q4 40 (uZ ra r.toNat b), cI E q5 40 wn, cI E q6 40 sh, cI E q7 40 rt, cI E q8 40 st, cI E q9 40 ag]) C 4 rfl (by decide) (by omega) (by omega) dX3_add_28 rfl ?_
  refine rg_aload_n C 0 dX3_add_29 rfl rfl ?_
  refine rg_get C fX3_25 0 rfl rfl dX3_add_30 ?_
  refine rg_iload_n C 1 dX3_add_33 rfl rfl ?_
  refine rg_iload C 4 dX3_add_34 rfl ?_
  refine rg_iast (ws' := [cO q0 3 [.ref q1, .ref q2, .ref q3, .ref q4, .ref q5, .ref q6, .ref q7, .ref q8, .ref q9, .int (iI cn)], cZ E q1 40 (uZ g r.toNat 1), cI E q2 40 (uZ pl r.toNat a), cI E q3 40 (uZ pr r.toNat p0), cI E q4 40 (uZ ra r.toNat b), cI E q5 40 (uZ wn r.toNat b), cI E q6 40 sh, cI E q7 40 rt, cI E q8 40 st, cI E q9 40 ag]) C 5 rfl (by decide) (by omega) (by omega) dX3_add_36 rfl ?_
  refine rg_aload_n C 0 dX3_add_37 rfl rfl ?_
  refine rg_get C fX3_40 0 rfl rfl dX3_add_38 ?_
  refine rg_istore (lv' := [(5, .int (iI cn)), (0, .ref q0), (1, .int (iI r)), (2, .int (iI a)), (3, .int (iI p0)), (4, .int (iI b))]) C dX3_add_41 (by decide) rfl ?_
  refine rG.plv [1, 2, 3, 4, 5, 0] rfl ?_
  exact L43 _ cn ag (by omega) hag rfl (Nat.lt_succ_self _)
abbrev rX3_remove : Room := { frames := 0, cells := 0, slots := 0, locals := 0 }
set_option maxHeartbeats 4000000 in
set_option maxRecDepth 100000 in
/-- Rights.remove -/
theorem kX3_remove (l : Launch) (E : rE) (q0 : Nat) (q1 : Nat) (q2 : Nat) (q3 : Nat) (q4 : Nat) (q5 : Nat) (q6 : Nat) (q7 : Nat) (q8 : Nat) (q9 : Nat) (g : Nat → Int) (pl : Nat → Int) (pr : Nat → Int) (ra : Nat → Int) (wn : Nat → Int) (sh : Nat → Int) (rt : Nat → Int) (st : Nat → Int) (ag : Nat → Int) (cn : Int) (r : Int) (hri : 0 ≤ r ∧ r < 40) (hag : ∀ j : Nat, (j : Int) < cn → 0 ≤ ag j ∧ ag j < 40) (hcn : 0 ≤ cn ∧ cn ≤ 40) : rM l yX3_remove sX3_remove rX3_remove E [cO q0 3 [.ref q1, .ref q2, .ref q3, .ref q4, .ref q5, .ref q6, .ref q7, .ref q8, .ref q9, .int (iI cn)], cZ E q1 40 g, cI E q2 40 pl, cI E q3 40 pr, cI E q4 40 ra, cI E q5 40 wn, cI E q6 40 sh, cI E q7 40 rt, cI E q8 40 st, cI E q9 40 ag] [.ref q0, .int (iI r)] none (fun _ : Unit => [cO q0 3 [.ref q1, .ref q2, .ref q3, .ref q4, .ref q5, .ref q6, .ref q7, .ref q8, .ref q9, .int (iI ((remL r cn.toNat 0 0 ag).1 : Int))], cZ E q1 40 (uZ g r.toNat 0), cI E q2 40 pl, cI E q3 40 pr, cI E q4 40 ra, cI E q5 40 wn, cI E q6 40 sh, cI E q7 40 rt, cI E q8 40 st, cI E q9 40 ((remL r cn.toNat 0 0 ag).2)]) := by
  refine rM.of (cc := cX3_remove) (maxL := 4) (ret := none) (by decide) rfl (Nat.le_of_ble_eq_true rfl) (fun w h => List.mem_cons_of_mem _ h) ?_
  intro p e s m args below meth c A Q hA hQ C hr hlk hnm
  have C : rC p s m args c E A 4 cX3_remove sX3_remove RX3 := C
  have L11 : ∀ (n : Nat) (k : Int) (kp : Int) (f : Nat → Int), (0 ≤ k ∧ k ≤ cn) → (0 ≤ kp ∧ kp ≤ k) → (∀ j : Nat, (j : Int) < cn → 0 ≤ f j ∧ f j < 40) → (remL r cn.toNat 0 0 ag = remL r (cn - k).toNat k.toNat kp.toNat f) → ((cn - k).toNat < n) → rG p l e rX3_remove s m args below meth c E A 4 0 0 Q [cO q0 3 [.ref q1, .ref q2, .ref q3, .ref q4, .ref q5, .ref q6, .ref q7, .ref q8, .ref q9, .int (iI cn)], cZ E q1 40 (uZ g r.toNat 0), cI E q2 40 pl, cI E q3 40 pr, cI E q4 40 ra, cI E q5 40 wn, cI E q6 40 sh, cI E q7 40 rt, cI E q8 40 st, cI E q9 40 f] 11 [(0, .ref q0), (1, .int (iI r)), (2, .int (iI kp)), (3, .int (iI k))] [] := by
    intro n
    induction n with
    | zero => intro k kp f h1 h4 h2 h3 hm; exact absurd hm (Nat.not_lt_zero _)
    | succ n ih =>
      intro k kp f h1 h4 h2 h3 hm
      refine rg_iload_n C 3 dX3_remove_11 rfl rfl ?_
      refine rg_aload_n C 0 dX3_remove_12 rfl rfl ?_
      refine rg_get C fX3_40 0 rfl rfl dX3_remove_13 ?_
      refine rg_icmp_ge (tgt := 50) C ⟨by omega, by omega⟩ ⟨by omega, by omega⟩ dX3_remove_16 (by decide) (fun h_16 => ?_) (fun h_16 => ?_)
      · refine rg_aload_n C 0 dX3_remove_50 rfl rfl ?_
        refine rg_iload_n C 2 dX3_remove_51 rfl rfl ?_
        refine rg_put (ws' := [cO q0 3 [.ref q1, .ref q2, .ref q3, .ref q4, .ref q5, .ref q6, .ref q7, .ref q8, .ref q9, .int (iI kp)], cZ E q1 40 (uZ g r.toNat 0), cI E q2 40 pl, cI E q3 40 pr, cI E q4 40 ra, cI E q5 40 wn, cI E q6 40 sh, cI E q7 40 rt, cI E q8 40 st, cI E q9 40 f]) C fX3_40 layX3 rfl 0 rfl rfl rfl (Nat.le_of_ble_eq_true rfl) dX3_remove_52 rfl ?_
        exact rg_vret C hA hQ hr hlk () (by rw [h3, remL_end (by omega)]; simp only [Int.toNat_of_nonneg h4.1]) rfl dX3_remove_55
      · have hf9 := h2 k.toNat (by omega)
        refine rg_aload_n C 0 dX3_remove_19 rfl rfl ?_
        refine rg_get C fX3_37 0 rfl rfl dX3_remove_20 ?_
        refine rg_iload_n C 3 dX3_remove_23 rfl rfl ?_
        refine rg_iald C 9 rfl (by decide) (by omega) (by omega) dX3_remove_24 ?_
        refine rg_iload_n C 1 dX3_remove_25 rfl rfl ?_
        refine rg_icmp_eq (tgt := 44) C ⟨by omega, by omega⟩ ⟨by omega, by omega⟩ dX3_remove_26 (by decide) (fun h_26 => ?_) (fun h_26 => ?_)
        · refine rg_iinc (k := 3) (lv' := [(3, .int (iI (k + 1))), (0, .ref q0), (1, .int (iI r)), (2, .int (iI kp))]) C dX3_remove_44 rfl (by decide) rfl ?_
          refine rg_goto (tgt := 11) C dX3_remove_47 (by decide) ?_
          refine rG.plv [1, 2, 3, 0] rfl ?_
          exact ih (k + 1) kp f (by omega) (by omega) h2 (h3.trans (remL_hit h1.1 (by omega) h_26)) (by omega)
        · refine rg_aload_n C 0 dX3_remove_29 rfl rfl ?_
          refine rg_get C fX3_37 0 rfl rfl dX3_remove_30 ?_
          refine rg_iload_n C 2 dX3_remove_33 rfl rfl ?_
          refine rg_aload_n C 0 dX3_remove_34 rfl rfl ?_
          refine rg_get C fX3_37 0 rfl rfl dX3_remove_35 ?_
          refine rg_iload_n C 3 dX3_remove_38 rfl rfl ?_
          refine rg_iald C 9 rfl (by decide) (by omega) (by omega) dX3_remove_39 ?_
          refine rg_iast (ws' := [cO q0 3 [.ref q1, .ref q2, .ref q3, .ref q4, .ref q5, .ref q6, .ref q7, .ref q8, .ref q9, .int (iI cn)], cZ E q1 40 (uZ g r.toNat 0), cI E q2 40 pl, cI E q3 40 pr, cI E q4 40 ra, cI E q5 40 wn, cI E q6 40 sh, cI E q7 40 rt, cI E q8 40 st, cI E q9 40 (uZ f kp.toNat (f k.toNat))]) C 9 rfl (by decide) (by omega) (by omega) dX3_remove_40 rfl ?_
          refine rg_iinc (k := 2) (lv' := [(2, .int (iI (kp + 1))), (0, .ref q0), (1, .int (iI r)), (3, .int (iI k))]) C dX3_remove_41 rfl (by decide) rfl ?_
          refine rg_iinc (k := 3) (lv' := [(3, .int (iI (k + 1))), (2, .int (iI (kp + 1))), (0, .ref q0), (1, .int (iI r))]) C dX3_remove_44 rfl (by decide) rfl ?_
          refine rg_goto (tgt := 11) C dX3_remove_47 (by decide) ?_
          refine rG.plv [2, 3, 1, 0] rfl ?_
          exact ih (k + 1) (kp + 1) (uZ f kp.toNat (f k.toNat)) (by omega) (by omega) (fun j hj => by unfold uZ; split; exact hf9; exact h2 j hj) (by rw [h3, remL_on h1.1 (by omega) h_26, show (kp + 1).toNat = kp.toNat + 1 by omega]) (by omega)
  show rG p l e rX3_remove s m args below meth c E A 4 0 0 Q [cO q0 3 [.ref q1, .ref q2, .ref q3, .ref q4, .ref q5, .ref q6, .ref q7, .ref q8, .ref q9, .int (iI cn)], cZ E q1 40 g, cI E q2 40 pl, cI E q3 40 pr, cI E q4 40 ra, cI E q5 40 wn, cI E q6 40 sh, cI E q7 40 rt, cI E q8 40 st, cI E q9 40 ag] 0 [(0, .ref q0), (1, .int (iI r))] []
  refine rg_aload_n C 0 dX3_remove_0 rfl rfl ?_
  refine rg_get C fX3_9 0 rfl rfl dX3_remove_1 ?_
  refine rg_iload_n C 1 dX3_remove_4 rfl rfl ?_
  refine rg_iconst C dX3_remove_5 ?_
  refine rg_zast (ws' := [cO q0 3 [.ref q1, .ref q2, .ref q3, .ref q4, .ref q5, .ref q6, .ref q7, .ref q8, .ref q9, .int (iI cn)], cZ E q1 40 (uZ g r.toNat 0), cI E q2 40 pl, cI E q3 40 pr, cI E q4 40 ra, cI E q5 40 wn, cI E q6 40 sh, cI E q7 40 rt, cI E q8 40 st, cI E q9 40 ag]) C 1 rfl (by decide) (by omega) (by omega) (by decide) dX3_remove_6 rfl ?_
  refine rg_iconst C dX3_remove_7 ?_
  refine rg_istore_n (lv' := [(2, .int (iI 0)), (0, .ref q0), (1, .int (iI r))]) C dX3_remove_8 rfl (by decide) rfl ?_
  refine rg_iconst C dX3_remove_9 ?_
  refine rg_istore_n (lv' := [(3, .int (iI 0)), (2, .int (iI 0)), (0, .ref q0), (1, .int (iI r))]) C dX3_remove_10 rfl (by decide) rfl ?_
  refine rG.plv [2, 3, 1, 0] rfl ?_
  exact L11 _ 0 0 ag (by omega) (by omega) hag (by rw [show (cn - 0).toNat = cn.toNat by omega]; rfl) (Nat.lt_succ_self _)
abbrev rX3_beginDay : Room := { frames := 1, cells := 0, slots := 0, locals := 100 }
set_option maxHeartbeats 4000000 in
set_option maxRecDepth 100000 in
/-- Rights.beginDay -/
theorem kX3_beginDay (l : Launch) (E : rE) (q0 : Nat) (q1 : Nat) (q2 : Nat) (q3 : Nat) (q4 : Nat) (q5 : Nat) (q6 : Nat) (q7 : Nat) (q8 : Nat) (q9 : Nat) (g : Nat → Int) (pl : Nat → Int) (pr : Nat → Int) (ra : Nat → Int) (wn : Nat → Int) (sh : Nat → Int) (rt : Nat → Int) (st : Nat → Int) (ag : Nat → Int) (cn : Int)  : rM l yX3_beginDay sX3_beginDay rX3_beginDay E [cO q0 3 [.ref q1, .ref q2, .ref q3, .ref q4, .ref q5, .ref q6, .ref q7, .ref q8, .ref q9, .int (iI cn)], cZ E q1 40 g, cI E q2 40 pl, cI E q3 40 pr, cI E q4 40 ra, cI E q5 40 wn, cI E q6 40 sh, cI E q7 40 rt, cI E q8 40 st, cI E q9 40 ag] [.ref q0] none (fun _ : Unit => [cO q0 3 [.ref q1, .ref q2, .ref q3, .ref q4, .ref q5, .ref q6, .ref q7, .ref q8, .ref q9, .int (iI cn)], cZ E q1 40 g, cI E q2 40 pl, cI E q3 40 pr, cI E q4 40 ra, cI E q5 40 (cpZ ra wn 40), cI E q6 40 sh, cI E q7 40 rt, cI E q8 40 st, cI E q9 40 ag]) := by
  refine rM.of (cc := cX3_beginDay) (maxL := 1) (ret := none) (by decide) rfl (Nat.le_of_ble_eq_true rfl) (fun w h => List.mem_cons_of_mem _ h) ?_
  intro p e s m args below meth c A Q hA hQ C hr hlk hnm
  have C : rC p s m args c E A 1 cX3_beginDay sX3_beginDay RX3 := C
  show rG p l e rX3_beginDay s m args below meth c E A 1 0 0 Q [cO q0 3 [.ref q1, .ref q2, .ref q3, .ref q4, .ref q5, .ref q6, .ref q7, .ref q8, .ref q9, .int (iI cn)], cZ E q1 40 g, cI E q2 40 pl, cI E q3 40 pr, cI E q4 40 ra, cI E q5 40 wn, cI E q6 40 sh, cI E q7 40 rt, cI E q8 40 st, cI E q9 40 ag] 0 [(0, .ref q0)] []
  refine rg_aload_n C 0 dX3_beginDay_0 rfl rfl ?_
  refine rg_get C fX3_22 0 rfl rfl dX3_beginDay_1 ?_
  refine rg_iconst C dX3_beginDay_4 ?_
  refine rg_aload_n C 0 dX3_beginDay_5 rfl rfl ?_
  refine rg_get C fX3_25 0 rfl rfl dX3_beginDay_6 ?_
  refine rg_iconst C dX3_beginDay_9 ?_
  refine rg_bipush (z := 40) C dX3_beginDay_10 (by decide) ?_
  refine rg_copyi (ws' := [cO q0 3 [.ref q1, .ref q2, .ref q3, .ref q4, .ref q5, .ref q6, .ref q7, .ref q8, .ref q9, .int (iI cn)], cZ E q1 40 g, cI E q2 40 pl, cI E q3 40 pr, cI E q4 40 ra, cI E q5 40 (cpZ ra wn 40), cI E q6 40 sh, cI E q7 40 rt, cI E q8 40 st, cI E q9 40 ag]) C 4 5 rfl rfl rfl (by decide) w_309 w_311 w_310 w_36 (Nat.le_of_ble_eq_true rfl) (by decide +kernel) dX3_beginDay_12 rfl ?_
  exact rg_vret C hA hQ hr hlk () rfl rfl dX3_beginDay_15
end
section
abbrev rJA_fillI : Room := { frames := 0, cells := 0, slots := 0, locals := 0 }
set_option maxHeartbeats 4000000 in
set_option maxRecDepth 100000 in
/-- Arrays.fill of 32 ints -/
theorem kJA_fillI32 (l : Launch) (E : rE) (q0 : Nat) (f : Nat → Int) (v : Int)  : rM l yJA_fillI sJA_fillI rJA_fillI E [cI E q0 32 f] [.ref q0, .int (iI v)] none (fun _ : Unit => [cI E q0 32 (filZ f v 32)]) := by
  refine rM.of (cc := cJA_fillI) (maxL := 4) (ret := none) (by decide) rfl (Nat.le_of_ble_eq_true rfl) (fun w h => List.mem_cons_of_mem _ h) ?_
  intro p e s m args below meth c A Q hA hQ C hr hlk hnm
  have C : rC p s m args c E A 4 cJA_fillI sJA_fillI RJA := C
  have L5 : ∀ (n : Nat) (k : Int) (h : Nat → Int), (0 ≤ k ∧ k ≤ 32) → (h = filZ f v k.toNat) → ((32 - k).toNat < n) → rG p l e rJA_fillI s m args below meth c E A 4 0 0 Q [cI E q0 32 h] 5 [(0, .ref q0), (1, .int (iI v)), (2, .int (iI k)), (3, .int (iI 32))] [] := by
    intro n
    induction n with
    | zero => intro k h h1 h3 hm; exact absurd hm (Nat.not_lt_zero _)
    | succ n ih =>
      intro k h h1 h3 hm
      refine rg_iload_n C 2 dJA_fillI_5 rfl rfl ?_
      refine rg_iload_n C 3 dJA_fillI_6 rfl rfl ?_
      refine rg_icmp_ge (tgt := 20) C ⟨by omega, by omega⟩ ⟨by decide, by decide⟩ dJA_fillI_7 (by decide) (fun h_7 => ?_) (fun h_7 => ?_)
      · exact rg_vret C hA hQ hr hlk () (by rw [h3, show k.toNat = 32 by omega]) rfl dJA_fillI_20
      · refine rg_aload_n C 0 dJA_fillI_10 rfl rfl ?_
        refine rg_iload_n C 2 dJA_fillI_11 rfl rfl ?_
        refine rg_iload_n C 1 dJA_fillI_12 rfl rfl ?_
        refine rg_iast (ws' := [cI E q0 32 (uZ h k.toNat v)]) C 0 rfl (by decide) (by omega) (by omega) dJA_fillI_13 rfl ?_
        refine rg_iinc (k := 2) (lv' := [(2, .int (iI (k + 1))), (0, .ref q0), (1, .int (iI v)), (3, .int (iI 32))]) C dJA_fillI_14 rfl (by decide) rfl ?_
        refine rg_goto (tgt := 5) C dJA_fillI_17 (by decide) ?_
        refine rG.plv [1, 2, 0, 3] rfl ?_
        exact ih (k + 1) (uZ h k.toNat v) (by omega) (by rw [h3]; exact filZ_s f v h1.1) (by omega)
  show rG p l e rJA_fillI s m args below meth c E A 4 0 0 Q [cI E q0 32 f] 0 [(0, .ref q0), (1, .int (iI v))] []
  refine rg_iconst C dJA_fillI_0 ?_
  refine rg_istore_n (lv' := [(2, .int (iI 0)), (0, .ref q0), (1, .int (iI v))]) C dJA_fillI_1 rfl (by decide) rfl ?_
  refine rg_aload_n C 1 dJA_fillI_2 rfl rfl ?_
  refine rg_leni C 0 rfl dJA_fillI_3 ?_
  refine rg_istore_n (lv' := [(3, .int (iI 32)), (2, .int (iI 0)), (0, .ref q0), (1, .int (iI v))]) C dJA_fillI_4 rfl (by decide) rfl ?_
  refine rG.plv [2, 3, 1, 0] rfl ?_
  exact L5 _ 0 f (by omega) rfl (Nat.lt_succ_self _)
set_option maxHeartbeats 4000000 in
set_option maxRecDepth 100000 in
/-- Arrays.fill of 40 ints -/
theorem kJA_fillI40 (l : Launch) (E : rE) (q0 : Nat) (f : Nat → Int) (v : Int)  : rM l yJA_fillI sJA_fillI rJA_fillI E [cI E q0 40 f] [.ref q0, .int (iI v)] none (fun _ : Unit => [cI E q0 40 (filZ f v 40)]) := by
  refine rM.of (cc := cJA_fillI) (maxL := 4) (ret := none) (by decide) rfl (Nat.le_of_ble_eq_true rfl) (fun w h => List.mem_cons_of_mem _ h) ?_
  intro p e s m args below meth c A Q hA hQ C hr hlk hnm
  have C : rC p s m args c E A 4 cJA_fillI sJA_fillI RJA := C
  have L5 : ∀ (n : Nat) (k : Int) (h : Nat → Int), (0 ≤ k ∧ k ≤ 40) → (h = filZ f v k.toNat) → ((40 - k).toNat < n) → rG p l e rJA_fillI s m args below meth c E A 4 0 0 Q [cI E q0 40 h] 5 [(0, .ref q0), (1, .int (iI v)), (2, .int (iI k)), (3, .int (iI 40))] [] := by
    intro n
    induction n with
    | zero => intro k h h1 h3 hm; exact absurd hm (Nat.not_lt_zero _)
    | succ n ih =>
      intro k h h1 h3 hm
      refine rg_iload_n C 2 dJA_fillI_5 rfl rfl ?_
      refine rg_iload_n C 3 dJA_fillI_6 rfl rfl ?_
      refine rg_icmp_ge (tgt := 20) C ⟨by omega, by omega⟩ ⟨by decide, by decide⟩ dJA_fillI_7 (by decide) (fun h_7 => ?_) (fun h_7 => ?_)
      · exact rg_vret C hA hQ hr hlk () (by rw [h3, show k.toNat = 40 by omega]) rfl dJA_fillI_20
      · refine rg_aload_n C 0 dJA_fillI_10 rfl rfl ?_
        refine rg_iload_n C 2 dJA_fillI_11 rfl rfl ?_
        refine rg_iload_n C 1 dJA_fillI_12 rfl rfl ?_
        refine rg_iast (ws' := [cI E q0 40 (uZ h k.toNat v)]) C 0 rfl (by decide) (by omega) (by omega) dJA_fillI_13 rfl ?_
        refine rg_iinc (k := 2) (lv' := [(2, .int (iI (k + 1))), (0, .ref q0), (1, .int (iI v)), (3, .int (iI 40))]) C dJA_fillI_14 rfl (by decide) rfl ?_
        refine rg_goto (tgt := 5) C dJA_fillI_17 (by decide) ?_
        refine rG.plv [1, 2, 0, 3] rfl ?_
        exact ih (k + 1) (uZ h k.toNat v) (by omega) (by rw [h3]; exact filZ_s f v h1.1) (by omega)
  show rG p l e rJA_fillI s m args below meth c E A 4 0 0 Q [cI E q0 40 f] 0 [(0, .ref q0), (1, .int (iI v))] []
  refine rg_iconst C dJA_fillI_0 ?_
  refine rg_istore_n (lv' := [(2, .int (iI 0)), (0, .ref q0), (1, .int (iI v))]) C dJA_fillI_1 rfl (by decide) rfl ?_
  refine rg_aload_n C 1 dJA_fillI_2 rfl rfl ?_
  refine rg_leni C 0 rfl dJA_fillI_3 ?_
  refine rg_istore_n (lv' := [(3, .int (iI 40)), (2, .int (iI 0)), (0, .ref q0), (1, .int (iI v))]) C dJA_fillI_4 rfl (by decide) rfl ?_
  refine rG.plv [2, 3, 1, 0] rfl ?_
  exact L5 _ 0 f (by omega) rfl (Nat.lt_succ_self _)
abbrev rJA_fillJ : Room := { frames := 0, cells := 0, slots := 0, locals := 0 }
set_option maxHeartbeats 4000000 in
set_option maxRecDepth 100000 in
/-- Arrays.fill of 32 longs -/
theorem kJA_fillJ32 (l : Launch) (E : rE) (q0 : Nat) (f : Nat → Int) (v : Int)  : rM l yJA_fillJ sJA_fillJ rJA_fillJ E [cJ E q0 32 f] [.ref q0, .long (lI v)] none (fun _ : Unit => [cJ E q0 32 (filZ f v 32)]) := by
  refine rM.of (cc := cJA_fillJ) (maxL := 5) (ret := none) (by decide) rfl (Nat.le_of_ble_eq_true rfl) (fun w h => List.mem_cons_of_mem _ h) ?_
  intro p e s m args below meth c A Q hA hQ C hr hlk hnm
  have C : rC p s m args c E A 5 cJA_fillJ sJA_fillJ RJA := C
  have L6 : ∀ (n : Nat) (k : Int) (h : Nat → Int), (0 ≤ k ∧ k ≤ 32) → (h = filZ f v k.toNat) → ((32 - k).toNat < n) → rG p l e rJA_fillJ s m args below meth c E A 5 0 0 Q [cJ E q0 32 h] 6 [(0, .ref q0), (1, .long (lI v)), (3, .int (iI k)), (4, .int (iI 32))] [] := by
    intro n
    induction n with
    | zero => intro k h h1 h3 hm; exact absurd hm (Nat.not_lt_zero _)
    | succ n ih =>
      intro k h h1 h3 hm
      refine rg_iload_n C 2 dJA_fillJ_6 rfl rfl ?_
      refine rg_iload C 3 dJA_fillJ_7 rfl ?_
      refine rg_icmp_ge (tgt := 22) C ⟨by omega, by omega⟩ ⟨by decide, by decide⟩ dJA_fillJ_9 (by decide) (fun h_9 => ?_) (fun h_9 => ?_)
      · exact rg_vret C hA hQ hr hlk () (by rw [h3, show k.toNat = 32 by omega]) rfl dJA_fillJ_22
      · refine rg_aload_n C 0 dJA_fillJ_12 rfl rfl ?_
        refine rg_iload_n C 2 dJA_fillJ_13 rfl rfl ?_
        refine rg_lload_n C 1 dJA_fillJ_14 rfl rfl ?_
        refine rg_last (ws' := [cJ E q0 32 (uZ h k.toNat v)]) C 0 rfl (by decide) (by omega) (by omega) dJA_fillJ_15 rfl ?_
        refine rg_iinc (k := 2) (lv' := [(3, .int (iI (k + 1))), (0, .ref q0), (1, .long (lI v)), (4, .int (iI 32))]) C dJA_fillJ_16 rfl (by decide) rfl ?_
        refine rg_goto (tgt := 6) C dJA_fillJ_19 (by decide) ?_
        refine rG.plv [1, 2, 0, 3] rfl ?_
        exact ih (k + 1) (uZ h k.toNat v) (by omega) (by rw [h3]; exact filZ_s f v h1.1) (by omega)
  show rG p l e rJA_fillJ s m args below meth c E A 5 0 0 Q [cJ E q0 32 f] 0 [(0, .ref q0), (1, .long (lI v))] []
  refine rg_iconst C dJA_fillJ_0 ?_
  refine rg_istore_n (lv' := [(3, .int (iI 0)), (0, .ref q0), (1, .long (lI v))]) C dJA_fillJ_1 rfl (by decide) rfl ?_
  refine rg_aload_n C 1 dJA_fillJ_2 rfl rfl ?_
  refine rg_lenj C 0 rfl dJA_fillJ_3 ?_
  refine rg_istore (lv' := [(4, .int (iI 32)), (3, .int (iI 0)), (0, .ref q0), (1, .long (lI v))]) C dJA_fillJ_4 (by decide) rfl ?_
  refine rG.plv [2, 3, 1, 0] rfl ?_
  exact L6 _ 0 f (by omega) rfl (Nat.lt_succ_self _)
abbrev rJM_min : Room := { frames := 0, cells := 0, slots := 0, locals := 0 }
set_option maxHeartbeats 4000000 in
set_option maxRecDepth 100000 in
/-- Math.min of longs -/
theorem kJM_min (l : Launch) (E : rE) (x : Int) (y : Int) (hx : inL x) (hy : inL y) : rM l yJM_min sJM_min rJM_min E [] [.long (lI x), .long (lI y)] (some (.long (lI (min x y)))) (fun _ : Unit => []) := by
  refine rM.ofF (cc := cJM_min) (maxL := 4) (ret := (some FieldType.long)) (by decide +kernel) rfl (Nat.le_of_ble_eq_true rfl) (fun w h => List.mem_cons_of_mem _ h) ?_
  intro p e s m args below meth c A Q hA hQ C hr hlk hnm
  have C : rC p s m args c E A 4 cJM_min sJM_min RJM := C
  show rG p l e rJM_min s m args below meth c E A 4 0 0 Q [] 0 [(0, .long (lI x)), (2, .long (lI y))] []
  refine rg_lload_n C 0 dJM_min_0 rfl rfl ?_
  refine rg_lload_n C 1 dJM_min_1 rfl rfl ?_
  refine rg_lcmp_gt (tgt := 10) C hx hy dJM_min_2 dJM_min_3 (by decide) (fun h_2 => ?_) (fun h_2 => ?_)
  · refine rg_lload_n C 1 dJM_min_10 rfl rfl ?_
    exact rg_lret C hA hQ hr hlk () rfl (by rw [show min x y = y by omega]) dJM_min_11
  · refine rg_lload_n C 0 dJM_min_6 rfl rfl ?_
    refine rg_goto (tgt := 11) C dJM_min_7 (by decide) ?_
    exact rg_lret C hA hQ hr hlk () rfl (by rw [show min x y = x by omega]) dJM_min_11
abbrev rJM_floorMod : Room := { frames := 0, cells := 0, slots := 0, locals := 0 }
set_option maxHeartbeats 4000000 in
set_option maxRecDepth 100000 in
/-- Math.floorMod where neither is below 0 -/
theorem kJM_floorMod (l : Launch) (E : rE) (x : Int) (y : Int) (hx : 0 ≤ x ∧ x ≤ 2147483647) (hy : 0 < y ∧ y ≤ 2147483647) : rM l yJM_floorMod sJM_floorMod rJM_floorMod E [] [.int (iI x), .int (iI y)] (some (.int (iI (x % y)))) (fun _ : Unit => []) := by
  refine rM.ofF (cc := cJM_floorMod) (maxL := 3) (ret := (some FieldType.int)) (by decide +kernel) rfl (Nat.le_of_ble_eq_true rfl) (fun w h => List.mem_cons_of_mem _ h) ?_
  intro p e s m args below meth c A Q hA hQ C hr hlk hnm
  have C : rC p s m args c E A 3 cJM_floorMod sJM_floorMod RJM := C
  show rG p l e rJM_floorMod s m args below meth c E A 3 0 0 Q [] 0 [(0, .int (iI x)), (1, .int (iI y))] []
  refine rg_iload_n C 0 dJM_floorMod_0 rfl rfl ?_
  refine rg_iload_n C 1 dJM_floorMod_1 rfl rfl ?_
  refine rg_irem C ⟨by omega, by omega⟩ (by omega) (by omega) ⟨by omega, by omega⟩ dJM_floorMod_2 ?_
  refine rg_istore_n (lv' := [(2, .int (iI (x % y))), (0, .int (iI x)), (1, .int (iI y))]) C dJM_floorMod_3 rfl (by decide) rfl ?_
  refine rg_iload_n C 1 dJM_floorMod_4 rfl rfl ?_
  refine rg_iload_n C 2 dJM_floorMod_5 rfl rfl ?_
  refine rg_ixor C (by omega) (by omega) dJM_floorMod_6 (fun z_6 hz_6 => ?_)
  refine rg_if_ge (tgt := 18) C ⟨by omega, by omega⟩ dJM_floorMod_7 (by decide) (fun h_7 => ?_) (fun h_7 => absurd h_7 (by omega))
  refine rg_iload_n C 0 dJM_floorMod_18 rfl rfl ?_
  exact rg_iret C hA hQ hr hlk () rfl rfl dJM_floorMod_19
end
section
abbrev rX4_beginDay : Room := { frames := 1, cells := 0, slots := 0, locals := 24 }
set_option maxHeartbeats 4000000 in
set_option maxRecDepth 100000 in
/-- River.beginDay -/
theorem kX4_beginDay (l : Launch) (E : rE) (v0 : Nat) (v1 : Nat) (v2 : Nat) (v3 : Nat) (v4 : Nat) (th : Nat → Int) (be : Nat → Int) (inf : Nat → Int) (snt : Nat → Int) (out : Int)  : rM l yX4_beginDay sX4_beginDay rX4_beginDay E [cO v0 4 [.ref v1, .ref v2, .ref v3, .ref v4, .int (iI out)], cZ E v1 32 th, cI E v2 32 be, cI E v3 32 inf, cJ E v4 32 snt] [.ref v0] none (fun _ : Unit => [cO v0 4 [.ref v1, .ref v2, .ref v3, .ref v4, .int (iI out)], cZ E v1 32 th, cI E v2 32 be, cI E v3 32 (filZ inf 0 32), cJ E v4 32 (filZ snt 0 32)]) := by
  refine rM.of (cc := cX4_beginDay) (maxL := 1) (ret := none) (by decide) rfl (Nat.le_of_ble_eq_true rfl) (fun w h => List.mem_cons_of_mem _ h) ?_
  intro p e s m args below meth c A Q hA hQ C hr hlk hnm
  have C : rC p s m args c E A 1 cX4_beginDay sX4_beginDay RX4 := C
  show rG p l e rX4_beginDay s m args below meth c E A 1 0 0 Q [cO v0 4 [.ref v1, .ref v2, .ref v3, .ref v4, .int (iI out)], cZ E v1 32 th, cI E v2 32 be, cI E v3 32 inf, cJ E v4 32 snt] 0 [(0, .ref v0)] []
  refine rg_aload_n C 0 dX4_beginDay_0 rfl rfl ?_
  refine rg_get C fX4_19 0 rfl rfl dX4_beginDay_1 ?_
  refine rg_iconst C dX4_beginDay_4 ?_
  refine rg_callS (As := [.ref v3, .int (iI 0)]) (rest := []) (wr := [cO v0 4 [.ref v1, .ref v2, .ref v3, .ref v4, .int (iI out)], cZ E v1 32 th, cI E v2 32 be, cJ E v4 32 snt]) (w' := fun _ => [cO v0 4 [.ref v1, .ref v2, .ref v3, .ref v4, .int (iI out)], cZ E v1 32 th, cI E v2 32 be, cI E v3 32 (filZ inf 0 32), cJ E v4 32 snt]) C (kJA_fillI32 l E v3 inf 0) (rcwS C mJA_fillI w_303 ⟨Nat.le_of_ble_eq_true rfl, Nat.le_of_ble_eq_true rfl⟩) [3] [0, 1, 2, 4] [0, 1, 2, 4, 3] rfl rfl (by decide) (by decide) (by decide) (fun _ => rfl) (by decide) rfl rfl (Nat.le_of_ble_eq_true rfl) dX4_beginDay_5 ⟨Nat.le_of_ble_eq_true rfl, Nat.le_of_ble_eq_true rfl⟩ (fun _ => ?_)
  show rG p l e rX4_beginDay s m args below meth c E A 1 0 0 Q [cO v0 4 [.ref v1, .ref v2, .ref v3, .ref v4, .int (iI out)], cZ E v1 32 th, cI E v2 32 be, cI E v3 32 (filZ inf 0 32), cJ E v4 32 snt] 8 [(0, .ref v0)] []
  refine rg_aload_n C 0 dX4_beginDay_8 rfl rfl ?_
  refine rg_get C fX4_22 0 rfl rfl dX4_beginDay_9 ?_
  refine rg_lconst (z := 0) C dX4_beginDay_12 (by decide) ?_
  refine rg_callS (As := [.ref v4, .long (lI 0)]) (rest := []) (wr := [cO v0 4 [.ref v1, .ref v2, .ref v3, .ref v4, .int (iI out)], cZ E v1 32 th, cI E v2 32 be, cI E v3 32 (filZ inf 0 32)]) (w' := fun _ => [cO v0 4 [.ref v1, .ref v2, .ref v3, .ref v4, .int (iI out)], cZ E v1 32 th, cI E v2 32 be, cI E v3 32 (filZ inf 0 32), cJ E v4 32 (filZ snt 0 32)]) C (kJA_fillJ32 l E v4 snt 0) (rcwS C mJA_fillJ w_304 ⟨Nat.le_of_ble_eq_true rfl, Nat.le_of_ble_eq_true rfl⟩) [4] [0, 1, 2, 3] [0, 1, 2, 3, 4] rfl rfl (by decide) (by decide) (by decide) (fun _ => rfl) (by decide) rfl rfl (Nat.le_of_ble_eq_true rfl) dX4_beginDay_13 ⟨Nat.le_of_ble_eq_true rfl, Nat.le_of_ble_eq_true rfl⟩ (fun _ => ?_)
  show rG p l e rX4_beginDay s m args below meth c E A 1 0 0 Q [cO v0 4 [.ref v1, .ref v2, .ref v3, .ref v4, .int (iI out)], cZ E v1 32 th, cI E v2 32 be, cI E v3 32 (filZ inf 0 32), cJ E v4 32 (filZ snt 0 32)] 16 [(0, .ref v0)] []
  exact rg_vret C hA hQ hr hlk () rfl rfl dX4_beginDay_16
abbrev rX2_add : Room := { frames := 0, cells := 0, slots := 0, locals := 0 }
set_option maxHeartbeats 4000000 in
set_option maxRecDepth 100000 in
/-- Reservoirs.add -/
theorem kX2_add (l : Launch) (E : rE) (w0 : Nat) (w1 : Nat) (w2 : Nat) (w3 : Nat) (w4 : Nat) (sth : Nat → Int) (srch : Nat → Int) (cap : Nat → Int) (wat : Nat → Int) (rel : Int) (r : Int) (a : Int) (b : Int) (hri : 0 ≤ r ∧ r < 8) : rM l yX2_add sX2_add rX2_add E [cO w0 2 [.ref w1, .ref w2, .ref w3, .ref w4, .long (lI rel)], cZ E w1 8 sth, cI E w2 8 srch, cI E w3 8 cap, cI E w4 8 wat] [.ref w0, .int (iI r), .int (iI a), .int (iI b)] none (fun _ : Unit => [cO w0 2 [.ref w1, .ref w2, .ref w3, .ref w4, .long (lI rel)], cZ E w1 8 (uZ sth r.toNat 1), cI E w2 8 (uZ srch r.toNat a), cI E w3 8 (uZ cap r.toNat b), cI E w4 8 wat]) := by
  refine rM.of (cc := cX2_add) (maxL := 4) (ret := none) (by decide) rfl (Nat.le_of_ble_eq_true rfl) (fun w h => List.mem_cons_of_mem _ h) ?_
  intro p e s m args below meth c A Q hA hQ C hr hlk hnm
  have C : rC p s m args c E A 4 cX2_add sX2_add RX2 := C
  show rG p l e rX2_add s m args below meth c E A 4 0 0 Q [cO w0 2 [.ref w1, .ref w2, .ref w3, .ref w4, .long (lI rel)], cZ E w1 8 sth, cI E w2 8 srch, cI E w3 8 cap, cI E w4 8 wat] 0 [(0, .ref w0), (1, .int (iI r)), (2, .int (iI a)), (3, .int (iI b))] []
  refine rg_aload_n C 0 dX2_add_0 rfl rfl ?_
  refine rg_get C fX2_9 0 rfl rfl dX2_add_1 ?_
  refine rg_iload_n C 1 dX2_add_4 rfl rfl ?_
  refine rg_iconst C dX2_add_5 ?_
  refine rg_zast (ws' := [cO w0 2 [.ref w1, .ref w2, .ref w3, .ref w4, .long (lI rel)], cZ E w1 8 (uZ sth r.toNat 1), cI E w2 8 srch, cI E w3 8 cap, cI E w4 8 wat]) C 1 rfl (by decide) (by omega) (by omega) (by decide) dX2_add_6 rfl ?_
  refine rg_aload_n C 0 dX2_add_7 rfl rfl ?_
  refine rg_get C fX2_15 0 rfl rfl dX2_add_8 ?_
  refine rg_iload_n C 1 dX2_add_11 rfl rfl ?_
  refine rg_iload_n C 2 dX2_add_12 rfl rfl ?_
  refine rg_iast (ws' := [cO w0 2 [.ref w1, .ref w2, .ref w3, .ref w4, .long (lI rel)], cZ E w1 8 (uZ sth r.toNat 1), cI E w2 8 (uZ srch r.toNat a), cI E w3 8 cap, cI E w4 8 wat]) C 2 rfl (by decide) (by omega) (by omega) dX2_add_13 rfl ?_
  refine rg_aload_n C 0 dX2_add_14 rfl rfl ?_
  refine rg_get C fX2_19 0 rfl rfl dX2_add_15 ?_
  refine rg_iload_n C 1 dX2_add_18 rfl rfl ?_
  refine rg_iload_n C 3 dX2_add_19 rfl rfl ?_
  refine rg_iast (ws' := [cO w0 2 [.ref w1, .ref w2, .ref w3, .ref w4, .long (lI rel)], cZ E w1 8 (uZ sth r.toNat 1), cI E w2 8 (uZ srch r.toNat a), cI E w3 8 (uZ cap r.toNat b), cI E w4 8 wat]) C 3 rfl (by decide) (by omega) (by omega) dX2_add_20 rfl ?_
  exact rg_vret C hA hQ hr hlk () rfl rfl dX2_add_21
abbrev rX2_letOut : Room := { frames := 0, cells := 0, slots := 0, locals := 0 }
set_option maxHeartbeats 4000000 in
set_option maxRecDepth 100000 in
/-- Reservoirs.letOut -/
theorem kX2_letOut (l : Launch) (E : rE) (w0 : Nat) (w1 : Nat) (w2 : Nat) (w3 : Nat) (w4 : Nat) (sth : Nat → Int) (srch : Nat → Int) (cap : Nat → Int) (wat : Nat → Int) (rel : Int) (r : Int) (a : Int) (hri : 0 ≤ r ∧ r < 8) (ha : inI a) : rM l yX2_letOut sX2_letOut rX2_letOut E [cO w0 2 [.ref w1, .ref w2, .ref w3, .ref w4, .long (lI rel)], cZ E w1 8 sth, cI E w2 8 srch, cI E w3 8 cap, cI E w4 8 wat] [.ref w0, .int (iI r), .int (iI a)] none (fun _ : Unit => [cO w0 2 [.ref w1, .ref w2, .ref w3, .ref w4, .long (lI (rel + a))], cZ E w1 8 sth, cI E w2 8 srch, cI E w3 8 cap, cI E w4 8 (uZ wat r.toNat (wat r.toNat - a))]) := by
  refine rM.of (cc := cX2_letOut) (maxL := 3) (ret := none) (by decide) rfl (Nat.le_of_ble_eq_true rfl) (fun w h => List.mem_cons_of_mem _ h) ?_
  intro p e s m args below meth c A Q hA hQ C hr hlk hnm
  have C : rC p s m args c E A 3 cX2_letOut sX2_letOut RX2 := C
  show rG p l e rX2_letOut s m args below meth c E A 3 0 0 Q [cO w0 2 [.ref w1, .ref w2, .ref w3, .ref w4, .long (lI rel)], cZ E w1 8 sth, cI E w2 8 srch, cI E w3 8 cap, cI E w4 8 wat] 0 [(0, .ref w0), (1, .int (iI r)), (2, .int (iI a))] []
  refine rg_aload_n C 0 dX2_letOut_0 rfl rfl ?_
  refine rg_get C fX2_22 0 rfl rfl dX2_letOut_1 ?_
  refine rg_iload_n C 1 dX2_letOut_4 rfl rfl ?_
  refine rg_dup2 C dX2_letOut_5 rfl rfl ?_
  refine rg_iald C 4 rfl (by decide) (by omega) (by omega) dX2_letOut_6 ?_
  refine rg_iload_n C 2 dX2_letOut_7 rfl rfl ?_
  refine rg_isub C dX2_letOut_8 ?_
  refine rg_iast (ws' := [cO w0 2 [.ref w1, .ref w2, .ref w3, .ref w4, .long (lI rel)], cZ E w1 8 sth, cI E w2 8 srch, cI E w3 8 cap, cI E w4 8 (uZ wat r.toNat ((wat r.toNat) - a))]) C 4 rfl (by decide) (by omega) (by omega) dX2_letOut_9 rfl ?_
  refine rg_aload_n C 0 dX2_letOut_10 rfl rfl ?_
  refine rg_dup C dX2_letOut_11 rfl ?_
  refine rg_get C fX2_25 0 rfl rfl dX2_letOut_12 ?_
  refine rg_iload_n C 2 dX2_letOut_15 rfl rfl ?_
  refine rg_i2l C ha dX2_letOut_16 ?_
  refine rg_ladd C dX2_letOut_17 ?_
  refine rg_put (ws' := [cO w0 2 [.ref w1, .ref w2, .ref w3, .ref w4, .long (lI (rel + a))], cZ E w1 8 sth, cI E w2 8 srch, cI E w3 8 cap, cI E w4 8 (uZ wat r.toNat ((wat r.toNat) - a))]) C fX2_25 layX2 rfl 0 rfl rfl rfl (Nat.le_of_ble_eq_true rfl) dX2_letOut_18 rfl ?_
  exact rg_vret C hA hQ hr hlk () rfl rfl dX2_letOut_21
abbrev rX2_beginDay : Room := { frames := 1, cells := 0, slots := 0, locals := 21 }
set_option maxHeartbeats 4000000 in
set_option maxRecDepth 100000 in
/-- Reservoirs.beginDay -/
theorem kX2_beginDay (l : Launch) (E : rE) (w0 : Nat) (w1 : Nat) (w2 : Nat) (w3 : Nat) (w4 : Nat) (sth : Nat → Int) (srch : Nat → Int) (cap : Nat → Int) (wat : Nat → Int) (rel : Int) (g0 : Nat) (g1 : Nat) (g2 : Nat) (g3 : Nat) (g4 : Nat) (g5 : Nat) (g6 : Nat) (g7 : Nat) (g8 : Nat) (g9 : Nat) (g : Nat → Int) (pl : Nat → Int) (pr : Nat → Int) (ra : Nat → Int) (wn : Nat → Int) (sh : Nat → Int) (rt : Nat → Int) (st : Nat → Int) (ag : Nat → Int) (cn : Int) (p0 : Nat) (p1 : Nat) (p2 : Nat) (p3 : Nat) (get : Nat → Int) (flo : Nat → Int) (roo : Nat → Int) (hag : ∀ j : Nat, (j : Int) < cn → 0 ≤ ag j ∧ ag j < 40) (hst : ∀ i : Nat, i < 40 → -1 ≤ st i ∧ st i < 8) (hcn : 0 ≤ cn ∧ cn ≤ 40) : rM l yX2_beginDay sX2_beginDay rX2_beginDay E [cO w0 2 [.ref w1, .ref w2, .ref w3, .ref w4, .long (lI rel)], cZ E w1 8 sth, cI E w2 8 srch, cI E w3 8 cap, cI E w4 8 wat, cO g0 3 [.ref g1, .ref g2, .ref g3, .ref g4, .ref g5, .ref g6, .ref g7, .ref g8, .ref g9, .int (iI cn)], cZ E g1 40 g, cI E g2 40 pl, cI E g3 40 pr, cI E g4 40 ra, cI E g5 40 wn, cI E g6 40 sh, cI E g7 40 rt, cI E g8 40 st, cI E g9 40 ag, cO p0 1 [.ref p1, .ref p2, .ref p3], cI E p1 40 get, cJ E p2 32 flo, cI E p3 8 roo] [.ref w0, .ref g0, .ref p0] none (fun _ : Unit => [cO w0 2 [.ref w1, .ref w2, .ref w3, .ref w4, .long (lI 0)], cZ E w1 8 sth, cI E w2 8 srch, cI E w3 8 cap, cI E w4 8 (watZ st ag get wat cn.toNat), cO g0 3 [.ref g1, .ref g2, .ref g3, .ref g4, .ref g5, .ref g6, .ref g7, .ref g8, .ref g9, .int (iI cn)], cZ E g1 40 g, cI E g2 40 pl, cI E g3 40 pr, cI E g4 40 ra, cI E g5 40 wn, cI E g6 40 sh, cI E g7 40 rt, cI E g8 40 st, cI E g9 40 ag, cO p0 1 [.ref p1, .ref p2, .ref p3], cI E p1 40 get, cJ E p2 32 flo, cI E p3 8 roo]) := by
  refine rM.of (cc := cX2_beginDay) (maxL := 5) (ret := none) (by decide) rfl (Nat.le_of_ble_eq_true rfl) (fun w h => List.mem_cons_of_mem _ h) ?_
  intro p e s m args below meth c A Q hA hQ C hr hlk hnm
  have C : rC p s m args c E A 5 cX2_beginDay sX2_beginDay RX2 := C
  have L2 : ∀ (n : Nat) (k : Int) (w : Nat → Int), (0 ≤ k ∧ k ≤ cn) → (w = watZ st ag get wat k.toNat) → ((cn - k).toNat < n) → rG p l e rX2_beginDay s m args below meth c E A 5 0 0 Q [cO w0 2 [.ref w1, .ref w2, .ref w3, .ref w4, .long (lI rel)], cZ E w1 8 sth, cI E w2 8 srch, cI E w3 8 cap, cI E w4 8 w, cO g0 3 [.ref g1, .ref g2, .ref g3, .ref g4, .ref g5, .ref g6, .ref g7, .ref g8, .ref g9, .int (iI cn)], cZ E g1 40 g, cI E g2 40 pl, cI E g3 40 pr, cI E g4 40 ra, cI E g5 40 wn, cI E g6 40 sh, cI E g7 40 rt, cI E g8 40 st, cI E g9 40 ag, cO p0 1 [.ref p1, .ref p2, .ref p3], cI E p1 40 get, cJ E p2 32 flo, cI E p3 8 roo] 2 [(0, .ref w0), (1, .ref g0), (2, .ref p0), (3, .int (iI k))] [] := by
    intro n
    induction n with
    | zero => intro k w h1 h3 hm; exact absurd hm (Nat.not_lt_zero _)
    | succ n ih =>
      intro k w h1 h3 hm
      refine rg_iload_n C 3 dX2_beginDay_2 rfl rfl ?_
      refine rg_aload_n C 1 dX2_beginDay_3 rfl rfl ?_
      refine rg_get C fX2_29 5 rfl rfl dX2_beginDay_4 ?_
      refine rg_icmp_ge (tgt := 55) C ⟨by omega, by omega⟩ ⟨by omega, by omega⟩ dX2_beginDay_7 (by decide) (fun h_7 => ?_) (fun h_7 => ?_)
      · refine rg_aload_n C 0 dX2_beginDay_55 rfl rfl ?_
        refine rg_lconst (z := 0) C dX2_beginDay_56 (by decide) ?_
        refine rg_put (ws' := [cO w0 2 [.ref w1, .ref w2, .ref w3, .ref w4, .long (lI 0)], cZ E w1 8 sth, cI E w2 8 srch, cI E w3 8 cap, cI E w4 8 w, cO g0 3 [.ref g1, .ref g2, .ref g3, .ref g4, .ref g5, .ref g6, .ref g7, .ref g8, .ref g9, .int (iI cn)], cZ E g1 40 g, cI E g2 40 pl, cI E g3 40 pr, cI E g4 40 ra, cI E g5 40 wn, cI E g6 40 sh, cI E g7 40 rt, cI E g8 40 st, cI E g9 40 ag, cO p0 1 [.ref p1, .ref p2, .ref p3], cI E p1 40 get, cJ E p2 32 flo, cI E p3 8 roo]) C fX2_25 layX2 rfl 0 rfl rfl rfl (Nat.le_of_ble_eq_true rfl) dX2_beginDay_57 rfl ?_
        exact rg_vret C hA hQ hr hlk () (by rw [h3, show k.toNat = cn.toNat by omega]) rfl dX2_beginDay_60
      · refine rg_aload_n C 1 dX2_beginDay_10 rfl rfl ?_
        refine rg_get C fX2_35 5 rfl rfl dX2_beginDay_11 ?_
        refine rg_iload_n C 3 dX2_beginDay_14 rfl rfl ?_
        refine rg_iald C 14 rfl (by decide) (by omega) (by omega) dX2_beginDay_15 ?_
        refine rg_istore (lv' := [(4, .int (iI (ag k.toNat))), (0, .ref w0), (1, .ref g0), (2, .ref p0), (3, .int (iI k))]) C dX2_beginDay_16 (by decide) rfl ?_
        have ha9 := hag k.toNat (by omega)
        have hs9 := hst (ag k.toNat).toNat (by omega)
        refine rg_aload_n C 2 dX2_beginDay_18 rfl rfl ?_
        refine rg_iload C 0 dX2_beginDay_19 rfl ?_
        refine rg_callV (As := [.int (iI (ag k.toNat))]) (rest := []) (wr := [cO w0 2 [.ref w1, .ref w2, .ref w3, .ref w4, .long (lI rel)], cZ E w1 8 sth, cI E w2 8 srch, cI E w3 8 cap, cI E w4 8 w, cO p0 1 [.ref p1, .ref p2, .ref p3], cI E p1 40 get, cJ E p2 32 flo, cI E p3 8 roo]) (w' := fun _ => [cO w0 2 [.ref w1, .ref w2, .ref w3, .ref w4, .long (lI rel)], cZ E w1 8 sth, cI E w2 8 srch, cI E w3 8 cap, cI E w4 8 w, cO g0 3 [.ref g1, .ref g2, .ref g3, .ref g4, .ref g5, .ref g6, .ref g7, .ref g8, .ref g9, .int (iI cn)], cZ E g1 40 g, cI E g2 40 pl, cI E g3 40 pr, cI E g4 40 ra, cI E g5 40 wn, cI E g6 40 sh, cI E g7 40 rt, cI E g8 40 st, cI E g9 40 ag, cO p0 1 [.ref p1, .ref p2, .ref p3], cI E p1 40 get, cJ E p2 32 flo, cI E p3 8 roo]) C (kX3_isStorage l E g0 g1 g2 g3 g4 g5 g6 g7 g8 g9 g pl pr ra wn sh rt st ag cn (ag k.toNat) (by first | assumption | omega) (fun i hi => ⟨by have := hst i hi; omega, by have := hst i hi; omega⟩)) (rcwV C mX3_isStorage w_298 ⟨Nat.le_of_ble_eq_true rfl, Nat.le_of_ble_eq_true rfl⟩) [5, 6, 7, 8, 9, 10, 11, 12, 13, 14] [0, 1, 2, 3, 4, 15, 16, 17, 18] [0, 1, 2, 3, 4, 9, 10, 11, 12, 13, 14, 15, 16, 17, 18, 5, 6, 7, 8] rfl rfl (by decide) (by decide) (by decide) (fun _ => rfl) (by decide) 0 rfl rfl rfl rfl (Nat.le_of_ble_eq_true rfl) dX2_beginDay_21 ⟨Nat.le_of_ble_eq_true rfl, Nat.le_of_ble_eq_true rfl⟩ (fun _ => ?_)
        show rG p l e rX2_beginDay s m args below meth c E A 5 0 0 Q [cO w0 2 [.ref w1, .ref w2, .ref w3, .ref w4, .long (lI rel)], cZ E w1 8 sth, cI E w2 8 srch, cI E w3 8 cap, cI E w4 8 w, cO g0 3 [.ref g1, .ref g2, .ref g3, .ref g4, .ref g5, .ref g6, .ref g7, .ref g8, .ref g9, .int (iI cn)], cZ E g1 40 g, cI E g2 40 pl, cI E g3 40 pr, cI E g4 40 ra, cI E g5 40 wn, cI E g6 40 sh, cI E g7 40 rt, cI E g8 40 st, cI E g9 40 ag, cO p0 1 [.ref p1, .ref p2, .ref p3], cI E p1 40 get, cJ E p2 32 flo, cI E p3 8 roo] 24 [(4, .int (iI (ag k.toNat))), (0, .ref w0), (1, .ref g0), (2, .ref p0), (3, .int (iI k))] [.int (iI (bZ (decide (st (ag k.toNat).toNat ≠ -1))))]
        refine rg_if_eq (tgt := 49) C (bZ_in _) dX2_beginDay_24 (by decide) (fun h_24 => ?_) (fun h_24 => ?_)
        · refine rg_iinc (k := 4) (lv' := [(3, .int (iI (k + 1))), (4, .int (iI (ag k.toNat))), (0, .ref w0), (1, .ref g0), (2, .ref p0)]) C dX2_beginDay_49 rfl (by decide) rfl ?_
          refine rg_goto (tgt := 2) C dX2_beginDay_52 (by decide) ?_
          refine rG.plv [2, 3, 4, 0] rfl ?_
          exact ih (k + 1) w (by omega) (h3.trans (watZ_no h1.1 h_24).symm) (by omega)
        · have hs8 : st (ag k.toNat).toNat ≠ -1 := Decidable.byContradiction fun q => h_24 (dec0.mpr q)
          refine rg_aload_n C 1 dX2_beginDay_27 rfl rfl ?_
          refine rg_get C fX2_22 0 rfl rfl dX2_beginDay_28 ?_
          refine rg_aload_n C 2 dX2_beginDay_31 rfl rfl ?_
          refine rg_get C fX2_42 5 rfl rfl dX2_beginDay_32 ?_
          refine rg_iload C 0 dX2_beginDay_35 rfl ?_
          refine rg_iald C 13 rfl (by decide) (by omega) (by omega) dX2_beginDay_37 ?_
          refine rg_dup2 C dX2_beginDay_38 rfl rfl ?_
          refine rg_iald C 4 rfl (by decide) (by omega) (by omega) dX2_beginDay_39 ?_
          refine rg_aload_n C 3 dX2_beginDay_40 rfl rfl ?_
          refine rg_get C fX2_45 15 rfl rfl dX2_beginDay_41 ?_
          refine rg_iload C 0 dX2_beginDay_44 rfl ?_
          refine rg_iald C 16 rfl (by decide) (by omega) (by omega) dX2_beginDay_46 ?_
          refine rg_iadd C dX2_beginDay_47 ?_
          refine rg_iast (ws' := [cO w0 2 [.ref w1, .ref w2, .ref w3, .ref w4, .long (lI rel)], cZ E w1 8 sth, cI E w2 8 srch, cI E w3 8 cap, cI E w4 8 (uZ w (st (ag k.toNat).toNat).toNat ((w (st (ag k.toNat).toNat).toNat) + (get (ag k.toNat).toNat))), cO g0 3 [.ref g1, .ref g2, .ref g3, .ref g4, .ref g5, .ref g6, .ref g7, .ref g8, .ref g9, .int (iI cn)], cZ E g1 40 g, cI E g2 40 pl, cI E g3 40 pr, cI E g4 40 ra, cI E g5 40 wn, cI E g6 40 sh, cI E g7 40 rt, cI E g8 40 st, cI E g9 40 ag, cO p0 1 [.ref p1, .ref p2, .ref p3], cI E p1 40 get, cJ E p2 32 flo, cI E p3 8 roo]) C 4 rfl (by decide) (by omega) (by omega) dX2_beginDay_48 rfl ?_
          refine rg_iinc (k := 4) (lv' := [(3, .int (iI (k + 1))), (4, .int (iI (ag k.toNat))), (0, .ref w0), (1, .ref g0), (2, .ref p0)]) C dX2_beginDay_49 rfl (by decide) rfl ?_
          refine rg_goto (tgt := 2) C dX2_beginDay_52 (by decide) ?_
          refine rG.plv [2, 3, 4, 0] rfl ?_
          exact ih (k + 1) (uZ w (st (ag k.toNat).toNat).toNat ((w (st (ag k.toNat).toNat).toNat) + (get (ag k.toNat).toNat))) (by omega) (by rw [watZ_yes h1.1 h_24, ← h3]) (by omega)
  show rG p l e rX2_beginDay s m args below meth c E A 5 0 0 Q [cO w0 2 [.ref w1, .ref w2, .ref w3, .ref w4, .long (lI rel)], cZ E w1 8 sth, cI E w2 8 srch, cI E w3 8 cap, cI E w4 8 wat, cO g0 3 [.ref g1, .ref g2, .ref g3, .ref g4, .ref g5, .ref g6, .ref g7, .ref g8, .ref g9, .int (iI cn)], cZ E g1 40 g, cI E g2 40 pl, cI E g3 40 pr, cI E g4 40 ra, cI E g5 40 wn, cI E g6 40 sh, cI E g7 40 rt, cI E g8 40 st, cI E g9 40 ag, cO p0 1 [.ref p1, .ref p2, .ref p3], cI E p1 40 get, cJ E p2 32 flo, cI E p3 8 roo] 0 [(0, .ref w0), (1, .ref g0), (2, .ref p0)] []
  refine rg_iconst C dX2_beginDay_0 ?_
  refine rg_istore_n (lv' := [(3, .int (iI 0)), (0, .ref w0), (1, .ref g0), (2, .ref p0)]) C dX2_beginDay_1 rfl (by decide) rfl ?_
  refine rG.plv [1, 2, 3, 0] rfl ?_
  exact L2 _ 0 wat (by omega) rfl (Nat.lt_succ_self _)
end
section
abbrev rX1_pour : Room := { frames := 0, cells := 0, slots := 0, locals := 0 }
set_option maxHeartbeats 4000000 in
set_option maxRecDepth 100000 in
/-- Plan.pour -/
theorem kX1_pour (l : Launch) (E : rE) (p0 : Nat) (p1 : Nat) (p2 : Nat) (p3 : Nat) (get : Nat → Int) (flo : Nat → Int) (roo : Nat → Int) (v0 : Nat) (v1 : Nat) (v2 : Nat) (v3 : Nat) (v4 : Nat) (th : Nat → Int) (be : Nat → Int) (inf : Nat → Int) (snt : Nat → Int) (out : Int) (r : Int) (hbe : ∀ r : Nat, r < 32 → -1 ≤ be r ∧ be r < 32) (hr0 : 0 ≤ r ∧ r < 32) (hin : inI (inf r.toNat)) : rM l yX1_pour sX1_pour rX1_pour E [cO p0 1 [.ref p1, .ref p2, .ref p3], cI E p1 40 get, cJ E p2 32 flo, cI E p3 8 roo, cO v0 4 [.ref v1, .ref v2, .ref v3, .ref v4, .int (iI out)], cZ E v1 32 th, cI E v2 32 be, cI E v3 32 inf, cJ E v4 32 snt] [.ref p0, .ref v0, .int (iI r)] none (fun _ : Unit => [cO p0 1 [.ref p1, .ref p2, .ref p3], cI E p1 40 get, cJ E p2 32 (pourZ be (inf r.toNat) 32 r flo), cI E p3 8 roo, cO v0 4 [.ref v1, .ref v2, .ref v3, .ref v4, .int (iI out)], cZ E v1 32 th, cI E v2 32 be, cI E v3 32 inf, cJ E v4 32 snt]) := by
  refine rM.of (cc := cX1_pour) (maxL := 5) (ret := none) (by decide) rfl (Nat.le_of_ble_eq_true rfl) (fun w h => List.mem_cons_of_mem _ h) ?_
  intro p e s m args below meth c A Q hA hQ C hr hlk hnm
  have C : rC p s m args c E A 5 cX1_pour sX1_pour RX1 := C
  have L5 : ∀ (n : Nat) (k : Int) (a : Int) (f : Nat → Int), (0 ≤ k ∧ k ≤ 32) → (-1 ≤ a ∧ a < 32) → (pourZ be (inf r.toNat) 32 r flo = pourZ be (inf r.toNat) (32 - k).toNat a f) → ((32 - k).toNat < n) → rG p l e rX1_pour s m args below meth c E A 5 0 0 Q [cO p0 1 [.ref p1, .ref p2, .ref p3], cI E p1 40 get, cJ E p2 32 f, cI E p3 8 roo, cO v0 4 [.ref v1, .ref v2, .ref v3, .ref v4, .int (iI out)], cZ E v1 32 th, cI E v2 32 be, cI E v3 32 inf, cJ E v4 32 snt] 5 [(0, .ref p0), (1, .ref v0), (2, .int (iI r)), (3, .int (iI a)), (4, .int (iI k))] [] := by
    intro n
    induction n with
    | zero => intro k a f h1 h2 h3 hm; exact absurd hm (Nat.not_lt_zero _)
    | succ n ih =>
      intro k a f h1 h2 h3 hm
      refine rg_iload C 4 dX1_pour_5 rfl ?_
      refine rg_bipush (z := 32) C dX1_pour_7 (by decide) ?_
      refine rg_icmp_ge (tgt := 46) C ⟨by omega, by omega⟩ ⟨by decide, by decide⟩ dX1_pour_9 (by decide) (fun h_9 => ?_) (fun h_9 => ?_)
      · have e9 := h3.trans (pourZ_end (by omega))
        exact rg_vret C hA hQ hr hlk () (by rw [e9]) rfl dX1_pour_46
      · refine rg_iload_n C 3 dX1_pour_12 rfl rfl ?_
        refine rg_iconst C dX1_pour_13 ?_
        refine rg_icmp_eq (tgt := 46) C ⟨by omega, by omega⟩ ⟨by decide, by decide⟩ dX1_pour_14 (by decide) (fun h_14 => ?_) (fun h_14 => ?_)
        · have e9 := h3.trans (pourZ_end (by omega))
          exact rg_vret C hA hQ hr hlk () (by rw [e9]) rfl dX1_pour_46
        · refine rg_aload_n C 0 dX1_pour_17 rfl rfl ?_
          refine rg_get C fX1_15 0 rfl rfl dX1_pour_18 ?_
          refine rg_iload_n C 3 dX1_pour_21 rfl rfl ?_
          refine rg_dup2 C dX1_pour_22 rfl rfl ?_
          refine rg_lald C 2 rfl (by decide) (by omega) (by omega) dX1_pour_23 ?_
          refine rg_aload_n C 1 dX1_pour_24 rfl rfl ?_
          refine rg_get C fX1_31 4 rfl rfl dX1_pour_25 ?_
          refine rg_iload_n C 2 dX1_pour_28 rfl rfl ?_
          refine rg_iald C 7 rfl (by decide) (by omega) (by omega) dX1_pour_29 ?_
          refine rg_i2l C hin dX1_pour_30 ?_
          refine rg_ladd C dX1_pour_31 ?_
          refine rg_last (ws' := [cO p0 1 [.ref p1, .ref p2, .ref p3], cI E p1 40 get, cJ E p2 32 (uZ f a.toNat ((f a.toNat) + (inf r.toNat))), cI E p3 8 roo, cO v0 4 [.ref v1, .ref v2, .ref v3, .ref v4, .int (iI out)], cZ E v1 32 th, cI E v2 32 be, cI E v3 32 inf, cJ E v4 32 snt]) C 2 rfl (by decide) (by omega) (by omega) dX1_pour_32 rfl ?_
          have hb9 := hbe a.toNat (by omega)
          refine rg_aload_n C 1 dX1_pour_33 rfl rfl ?_
          refine rg_get C fX1_48 4 rfl rfl dX1_pour_34 ?_
          refine rg_iload_n C 3 dX1_pour_37 rfl rfl ?_
          refine rg_iald C 6 rfl (by decide) (by omega) (by omega) dX1_pour_38 ?_
          refine rg_istore_n (lv' := [(3, .int (iI (be a.toNat))), (0, .ref p0), (1, .ref v0), (2, .int (iI r)), (4, .int (iI k))]) C dX1_pour_39 rfl (by decide) rfl ?_
          refine rg_iinc (k := 4) (lv' := [(4, .int (iI (k + 1))), (3, .int (iI (be a.toNat))), (0, .ref p0), (1, .ref v0), (2, .int (iI r))]) C dX1_pour_40 rfl (by decide) rfl ?_
          refine rg_goto (tgt := 5) C dX1_pour_43 (by decide) ?_
          refine rG.plv [2, 3, 4, 1, 0] rfl ?_
          exact ih (k + 1) (be a.toNat) (uZ f a.toNat ((f a.toNat) + (inf r.toNat))) (by omega) hb9 (h3.trans (pourZ_on h1.1 (by omega) (by omega))) (by omega)
  show rG p l e rX1_pour s m args below meth c E A 5 0 0 Q [cO p0 1 [.ref p1, .ref p2, .ref p3], cI E p1 40 get, cJ E p2 32 flo, cI E p3 8 roo, cO v0 4 [.ref v1, .ref v2, .ref v3, .ref v4, .int (iI out)], cZ E v1 32 th, cI E v2 32 be, cI E v3 32 inf, cJ E v4 32 snt] 0 [(0, .ref p0), (1, .ref v0), (2, .int (iI r))] []
  refine rg_iload_n C 2 dX1_pour_0 rfl rfl ?_
  refine rg_istore_n (lv' := [(3, .int (iI r)), (0, .ref p0), (1, .ref v0), (2, .int (iI r))]) C dX1_pour_1 rfl (by decide) rfl ?_
  refine rg_iconst C dX1_pour_2 ?_
  refine rg_istore (lv' := [(4, .int (iI 0)), (3, .int (iI r)), (0, .ref p0), (1, .ref v0), (2, .int (iI r))]) C dX1_pour_3 (by decide) rfl ?_
  refine rG.plv [2, 3, 4, 1, 0] rfl ?_
  exact L5 _ 0 r flo (by omega) (by omega) rfl (Nat.lt_succ_self _)
abbrev rX1_begin : Room := { frames := 1, cells := 0, slots := 0, locals := 24 }
set_option maxHeartbeats 4000000 in
set_option maxRecDepth 100000 in
/-- Plan.begin -/
theorem kX1_begin (l : Launch) (E : rE) (p0 : Nat) (p1 : Nat) (p2 : Nat) (p3 : Nat) (get : Nat → Int) (flo : Nat → Int) (roo : Nat → Int) (v0 : Nat) (v1 : Nat) (v2 : Nat) (v3 : Nat) (v4 : Nat) (th : Nat → Int) (be : Nat → Int) (inf : Nat → Int) (snt : Nat → Int) (out : Int) (w0 : Nat) (w1 : Nat) (w2 : Nat) (w3 : Nat) (w4 : Nat) (sth : Nat → Int) (srch : Nat → Int) (cap : Nat → Int) (wat : Nat → Int) (rel : Int) (hbe : ∀ r : Nat, r < 32 → -1 ≤ be r ∧ be r < 32) (hin : ∀ r : Nat, r < 32 → inI (inf r)) : rM l yX1_begin sX1_begin rX1_begin E [cO p0 1 [.ref p1, .ref p2, .ref p3], cI E p1 40 get, cJ E p2 32 flo, cI E p3 8 roo, cO v0 4 [.ref v1, .ref v2, .ref v3, .ref v4, .int (iI out)], cZ E v1 32 th, cI E v2 32 be, cI E v3 32 inf, cJ E v4 32 snt, cO w0 2 [.ref w1, .ref w2, .ref w3, .ref w4, .long (lI rel)], cZ E w1 8 sth, cI E w2 8 srch, cI E w3 8 cap, cI E w4 8 wat] [.ref p0, .ref v0, .ref w0] none (fun _ : Unit => [cO p0 1 [.ref p1, .ref p2, .ref p3], cI E p1 40 (filZ get 0 40), cJ E p2 32 (begF be inf (filZ flo 0 32) 32), cI E p3 8 (begR cap wat roo 8), cO v0 4 [.ref v1, .ref v2, .ref v3, .ref v4, .int (iI out)], cZ E v1 32 th, cI E v2 32 be, cI E v3 32 inf, cJ E v4 32 snt, cO w0 2 [.ref w1, .ref w2, .ref w3, .ref w4, .long (lI rel)], cZ E w1 8 sth, cI E w2 8 srch, cI E w3 8 cap, cI E w4 8 wat]) := by
  refine rM.of (cc := cX1_begin) (maxL := 4) (ret := none) (by decide) rfl (Nat.le_of_ble_eq_true rfl) (fun w h => List.mem_cons_of_mem _ h) ?_
  intro p e s m args below meth c A Q hA hQ C hr hlk hnm
  have C : rC p s m args c E A 4 cX1_begin sX1_begin RX1 := C
  have L47 : ∀ (n : Nat) (k : Int) (f : Nat → Int), (0 ≤ k ∧ k ≤ 8) → (f = begR cap wat roo k.toNat) → ((8 - k).toNat < n) → rG p l e rX1_begin s m args below meth c E A 4 0 0 Q [cO p0 1 [.ref p1, .ref p2, .ref p3], cI E p1 40 (filZ get 0 40), cJ E p2 32 (begF be inf (filZ flo 0 32) 32), cI E p3 8 f, cO v0 4 [.ref v1, .ref v2, .ref v3, .ref v4, .int (iI out)], cZ E v1 32 th, cI E v2 32 be, cI E v3 32 inf, cJ E v4 32 snt, cO w0 2 [.ref w1, .ref w2, .ref w3, .ref w4, .long (lI rel)], cZ E w1 8 sth, cI E w2 8 srch, cI E w3 8 cap, cI E w4 8 wat] 47 [(0, .ref p0), (1, .ref v0), (2, .ref w0), (3, .int (iI k))] [] := by
    intro n
    induction n with
    | zero => intro k f h1 h3 hm; exact absurd hm (Nat.not_lt_zero _)
    | succ n ih =>
      intro k f h1 h3 hm
      refine rg_iload_n C 3 dX1_begin_47 rfl rfl ?_
      refine rg_bipush (z := 8) C dX1_begin_48 (by decide) ?_
      refine rg_icmp_ge (tgt := 78) C ⟨by omega, by omega⟩ ⟨by decide, by decide⟩ dX1_begin_50 (by decide) (fun h_50 => ?_) (fun h_50 => ?_)
      · exact rg_vret C hA hQ hr hlk () (by rw [h3, show k.toNat = 8 by omega]) rfl dX1_begin_78
      · refine rg_aload_n C 0 dX1_begin_53 rfl rfl ?_
        refine rg_get C fX1_19 0 rfl rfl dX1_begin_54 ?_
        refine rg_iload_n C 3 dX1_begin_57 rfl rfl ?_
        refine rg_aload_n C 2 dX1_begin_58 rfl rfl ?_
        refine rg_get C fX1_40 9 rfl rfl dX1_begin_59 ?_
        refine rg_iload_n C 3 dX1_begin_62 rfl rfl ?_
        refine rg_iald C 12 rfl (by decide) (by omega) (by omega) dX1_begin_63 ?_
        refine rg_aload_n C 2 dX1_begin_64 rfl rfl ?_
        refine rg_get C fX1_45 9 rfl rfl dX1_begin_65 ?_
        refine rg_iload_n C 3 dX1_begin_68 rfl rfl ?_
        refine rg_iald C 13 rfl (by decide) (by omega) (by omega) dX1_begin_69 ?_
        refine rg_isub C dX1_begin_70 ?_
        refine rg_iast (ws' := [cO p0 1 [.ref p1, .ref p2, .ref p3], cI E p1 40 (filZ get 0 40), cJ E p2 32 (begF be inf (filZ flo 0 32) 32), cI E p3 8 (uZ f k.toNat ((cap k.toNat) - (wat k.toNat))), cO v0 4 [.ref v1, .ref v2, .ref v3, .ref v4, .int (iI out)], cZ E v1 32 th, cI E v2 32 be, cI E v3 32 inf, cJ E v4 32 snt, cO w0 2 [.ref w1, .ref w2, .ref w3, .ref w4, .long (lI rel)], cZ E w1 8 sth, cI E w2 8 srch, cI E w3 8 cap, cI E w4 8 wat]) C 3 rfl (by decide) (by omega) (by omega) dX1_begin_71 rfl ?_
        refine rg_iinc (k := 3) (lv' := [(3, .int (iI (k + 1))), (0, .ref p0), (1, .ref v0), (2, .ref w0)]) C dX1_begin_72 rfl (by decide) rfl ?_
        refine rg_goto (tgt := 47) C dX1_begin_75 (by decide) ?_
        refine rG.plv [1, 2, 3, 0] rfl ?_
        exact ih (k + 1) (uZ f k.toNat ((cap k.toNat) - (wat k.toNat))) (by omega) (by rw [h3]; exact begR_s cap wat roo h1.1) (by omega)
  have L18 : ∀ (n : Nat) (k : Int) (f : Nat → Int), (0 ≤ k ∧ k ≤ 32) → (f = begF be inf (filZ flo 0 32) k.toNat) → ((32 - k).toNat < n) → rG p l e rX1_begin s m args below meth c E A 4 0 0 Q [cO p0 1 [.ref p1, .ref p2, .ref p3], cI E p1 40 (filZ get 0 40), cJ E p2 32 f, cI E p3 8 roo, cO v0 4 [.ref v1, .ref v2, .ref v3, .ref v4, .int (iI out)], cZ E v1 32 th, cI E v2 32 be, cI E v3 32 inf, cJ E v4 32 snt, cO w0 2 [.ref w1, .ref w2, .ref w3, .ref w4, .long (lI rel)], cZ E w1 8 sth, cI E w2 8 srch, cI E w3 8 cap, cI E w4 8 wat] 18 [(0, .ref p0), (1, .ref v0), (2, .ref w0), (3, .int (iI k))] [] := by
    intro n
    induction n with
    | zero => intro k f h1 h3 hm; exact absurd hm (Nat.not_lt_zero _)
    | succ n ih =>
      intro k f h1 h3 hm
      refine rg_iload_n C 3 dX1_begin_18 rfl rfl ?_
      refine rg_bipush (z := 32) C dX1_begin_19 (by decide) ?_
      refine rg_icmp_ge (tgt := 45) C ⟨by omega, by omega⟩ ⟨by decide, by decide⟩ dX1_begin_21 (by decide) (fun h_21 => ?_) (fun h_21 => ?_)
      · have e9 : f = begF be inf (filZ flo 0 32) 32 := by rw [h3, show k.toNat = 32 by omega]
        subst e9
        refine rg_iconst C dX1_begin_45 ?_
        refine rg_istore_n (lv' := [(3, .int (iI 0)), (0, .ref p0), (1, .ref v0), (2, .ref w0)]) C dX1_begin_46 rfl (by decide) rfl ?_
        refine rG.plv [1, 2, 3, 0] rfl ?_
        exact L47 _ 0 roo (by omega) rfl (Nat.lt_succ_self _)
      · have hi9 := hin k.toNat (by omega)
        refine rg_aload_n C 1 dX1_begin_24 rfl rfl ?_
        refine rg_get C fX1_31 4 rfl rfl dX1_begin_25 ?_
        refine rg_iload_n C 3 dX1_begin_28 rfl rfl ?_
        refine rg_iald C 7 rfl (by decide) (by omega) (by omega) dX1_begin_29 ?_
        refine rg_if_le (tgt := 39) C hi9 dX1_begin_30 (by decide) (fun h_30 => ?_) (fun h_30 => ?_)
        · refine rg_iinc (k := 3) (lv' := [(3, .int (iI (k + 1))), (0, .ref p0), (1, .ref v0), (2, .ref w0)]) C dX1_begin_39 rfl (by decide) rfl ?_
          refine rg_goto (tgt := 18) C dX1_begin_42 (by decide) ?_
          refine rG.plv [1, 2, 3, 0] rfl ?_
          exact ih (k + 1) f (by omega) (h3.trans (begF_no h1.1 h_30).symm) (by omega)
        · refine rg_aload_n C 0 dX1_begin_33 rfl rfl ?_
          refine rg_aload_n C 1 dX1_begin_34 rfl rfl ?_
          refine rg_iload_n C 3 dX1_begin_35 rfl rfl ?_
          refine rg_callV (As := [.ref v0, .int (iI k)]) (rest := []) (wr := [cO w0 2 [.ref w1, .ref w2, .ref w3, .ref w4, .long (lI rel)], cZ E w1 8 sth, cI E w2 8 srch, cI E w3 8 cap, cI E w4 8 wat]) (w' := fun _ => [cO p0 1 [.ref p1, .ref p2, .ref p3], cI E p1 40 (filZ get 0 40), cJ E p2 32 (pourZ be (inf k.toNat) 32 k f), cI E p3 8 roo, cO v0 4 [.ref v1, .ref v2, .ref v3, .ref v4, .int (iI out)], cZ E v1 32 th, cI E v2 32 be, cI E v3 32 inf, cJ E v4 32 snt, cO w0 2 [.ref w1, .ref w2, .ref w3, .ref w4, .long (lI rel)], cZ E w1 8 sth, cI E w2 8 srch, cI E w3 8 cap, cI E w4 8 wat]) C (kX1_pour l E p0 p1 p2 p3 (filZ get 0 40) f roo v0 v1 v2 v3 v4 th be inf snt out k (by first | assumption | omega) (by first | assumption | omega) (by first | assumption | omega)) (rcwV C mX1_pour w_237 ⟨Nat.le_of_ble_eq_true rfl, Nat.le_of_ble_eq_true rfl⟩) [0, 1, 2, 3, 4, 5, 6, 7, 8] [9, 10, 11, 12, 13] [5, 6, 7, 8, 9, 10, 11, 12, 13, 0, 1, 2, 3, 4] rfl rfl (by decide) (by decide) (by decide) (fun _ => rfl) (by decide) 0 rfl rfl rfl rfl (Nat.le_of_ble_eq_true rfl) dX1_begin_36 ⟨Nat.le_of_ble_eq_true rfl, Nat.le_of_ble_eq_true rfl⟩ (fun _ => ?_)
          show rG p l e rX1_begin s m args below meth c E A 4 0 0 Q [cO p0 1 [.ref p1, .ref p2, .ref p3], cI E p1 40 (filZ get 0 40), cJ E p2 32 (pourZ be (inf k.toNat) 32 k f), cI E p3 8 roo, cO v0 4 [.ref v1, .ref v2, .ref v3, .ref v4, .int (iI out)], cZ E v1 32 th, cI E v2 32 be, cI E v3 32 inf, cJ E v4 32 snt, cO w0 2 [.ref w1, .ref w2, .ref w3, .ref w4, .long (lI rel)], cZ E w1 8 sth, cI E w2 8 srch, cI E w3 8 cap, cI E w4 8 wat] 39 [(0, .ref p0), (1, .ref v0), (2, .ref w0), (3, .int (iI k))] []
          refine rg_iinc (k := 3) (lv' := [(3, .int (iI (k + 1))), (0, .ref p0), (1, .ref v0), (2, .ref w0)]) C dX1_begin_39 rfl (by decide) rfl ?_
          refine rg_goto (tgt := 18) C dX1_begin_42 (by decide) ?_
          refine rG.plv [1, 2, 3, 0] rfl ?_
          exact ih (k + 1) (pourZ be (inf k.toNat) 32 k f) (by omega) (by rw [begF_yes h1.1 h_30, ← h3]) (by omega)
  show rG p l e rX1_begin s m args below meth c E A 4 0 0 Q [cO p0 1 [.ref p1, .ref p2, .ref p3], cI E p1 40 get, cJ E p2 32 flo, cI E p3 8 roo, cO v0 4 [.ref v1, .ref v2, .ref v3, .ref v4, .int (iI out)], cZ E v1 32 th, cI E v2 32 be, cI E v3 32 inf, cJ E v4 32 snt, cO w0 2 [.ref w1, .ref w2, .ref w3, .ref w4, .long (lI rel)], cZ E w1 8 sth, cI E w2 8 srch, cI E w3 8 cap, cI E w4 8 wat] 0 [(0, .ref p0), (1, .ref v0), (2, .ref w0)] []
  refine rg_aload_n C 0 dX1_begin_0 rfl rfl ?_
  refine rg_get C fX1_9 0 rfl rfl dX1_begin_1 ?_
  refine rg_iconst C dX1_begin_4 ?_
  refine rg_callS (As := [.ref p1, .int (iI 0)]) (rest := []) (wr := [cO p0 1 [.ref p1, .ref p2, .ref p3], cJ E p2 32 flo, cI E p3 8 roo, cO v0 4 [.ref v1, .ref v2, .ref v3, .ref v4, .int (iI out)], cZ E v1 32 th, cI E v2 32 be, cI E v3 32 inf, cJ E v4 32 snt, cO w0 2 [.ref w1, .ref w2, .ref w3, .ref w4, .long (lI rel)], cZ E w1 8 sth, cI E w2 8 srch, cI E w3 8 cap, cI E w4 8 wat]) (w' := fun _ => [cO p0 1 [.ref p1, .ref p2, .ref p3], cI E p1 40 (filZ get 0 40), cJ E p2 32 flo, cI E p3 8 roo, cO v0 4 [.ref v1, .ref v2, .ref v3, .ref v4, .int (iI out)], cZ E v1 32 th, cI E v2 32 be, cI E v3 32 inf, cJ E v4 32 snt, cO w0 2 [.ref w1, .ref w2, .ref w3, .ref w4, .long (lI rel)], cZ E w1 8 sth, cI E w2 8 srch, cI E w3 8 cap, cI E w4 8 wat]) C (kJA_fillI40 l E p1 get 0) (rcwS C mJA_fillI w_231 ⟨Nat.le_of_ble_eq_true rfl, Nat.le_of_ble_eq_true rfl⟩) [1] [0, 2, 3, 4, 5, 6, 7, 8, 9, 10, 11, 12, 13] [0, 13, 1, 2, 3, 4, 5, 6, 7, 8, 9, 10, 11, 12] rfl rfl (by decide) (by decide) (by decide) (fun _ => rfl) (by decide) rfl rfl (Nat.le_of_ble_eq_true rfl) dX1_begin_5 ⟨Nat.le_of_ble_eq_true rfl, Nat.le_of_ble_eq_true rfl⟩ (fun _ => ?_)
  show rG p l e rX1_begin s m args below meth c E A 4 0 0 Q [cO p0 1 [.ref p1, .ref p2, .ref p3], cI E p1 40 (filZ get 0 40), cJ E p2 32 flo, cI E p3 8 roo, cO v0 4 [.ref v1, .ref v2, .ref v3, .ref v4, .int (iI out)], cZ E v1 32 th, cI E v2 32 be, cI E v3 32 inf, cJ E v4 32 snt, cO w0 2 [.ref w1, .ref w2, .ref w3, .ref w4, .long (lI rel)], cZ E w1 8 sth, cI E w2 8 srch, cI E w3 8 cap, cI E w4 8 wat] 8 [(0, .ref p0), (1, .ref v0), (2, .ref w0)] []
  refine rg_aload_n C 0 dX1_begin_8 rfl rfl ?_
  refine rg_get C fX1_15 0 rfl rfl dX1_begin_9 ?_
  refine rg_lconst (z := 0) C dX1_begin_12 (by decide) ?_
  refine rg_callS (As := [.ref p2, .long (lI 0)]) (rest := []) (wr := [cO p0 1 [.ref p1, .ref p2, .ref p3], cI E p1 40 (filZ get 0 40), cI E p3 8 roo, cO v0 4 [.ref v1, .ref v2, .ref v3, .ref v4, .int (iI out)], cZ E v1 32 th, cI E v2 32 be, cI E v3 32 inf, cJ E v4 32 snt, cO w0 2 [.ref w1, .ref w2, .ref w3, .ref w4, .long (lI rel)], cZ E w1 8 sth, cI E w2 8 srch, cI E w3 8 cap, cI E w4 8 wat]) (w' := fun _ => [cO p0 1 [.ref p1, .ref p2, .ref p3], cI E p1 40 (filZ get 0 40), cJ E p2 32 (filZ flo 0 32), cI E p3 8 roo, cO v0 4 [.ref v1, .ref v2, .ref v3, .ref v4, .int (iI out)], cZ E v1 32 th, cI E v2 32 be, cI E v3 32 inf, cJ E v4 32 snt, cO w0 2 [.ref w1, .ref w2, .ref w3, .ref w4, .long (lI rel)], cZ E w1 8 sth, cI E w2 8 srch, cI E w3 8 cap, cI E w4 8 wat]) C (kJA_fillJ32 l E p2 flo 0) (rcwS C mJA_fillJ w_234 ⟨Nat.le_of_ble_eq_true rfl, Nat.le_of_ble_eq_true rfl⟩) [2] [0, 1, 3, 4, 5, 6, 7, 8, 9, 10, 11, 12, 13] [0, 1, 13, 2, 3, 4, 5, 6, 7, 8, 9, 10, 11, 12] rfl rfl (by decide) (by decide) (by decide) (fun _ => rfl) (by decide) rfl rfl (Nat.le_of_ble_eq_true rfl) dX1_begin_13 ⟨Nat.le_of_ble_eq_true rfl, Nat.le_of_ble_eq_true rfl⟩ (fun _ => ?_)
  show rG p l e rX1_begin s m args below meth c E A 4 0 0 Q [cO p0 1 [.ref p1, .ref p2, .ref p3], cI E p1 40 (filZ get 0 40), cJ E p2 32 (filZ flo 0 32), cI E p3 8 roo, cO v0 4 [.ref v1, .ref v2, .ref v3, .ref v4, .int (iI out)], cZ E v1 32 th, cI E v2 32 be, cI E v3 32 inf, cJ E v4 32 snt, cO w0 2 [.ref w1, .ref w2, .ref w3, .ref w4, .long (lI rel)], cZ E w1 8 sth, cI E w2 8 srch, cI E w3 8 cap, cI E w4 8 wat] 16 [(0, .ref p0), (1, .ref v0), (2, .ref w0)] []
  refine rg_iconst C dX1_begin_16 ?_
  refine rg_istore_n (lv' := [(3, .int (iI 0)), (0, .ref p0), (1, .ref v0), (2, .ref w0)]) C dX1_begin_17 rfl (by decide) rfl ?_
  refine rG.plv [1, 2, 3, 0] rfl ?_
  exact L18 _ 0 (filZ flo 0 32) (by omega) rfl (Nat.lt_succ_self _)
abbrev rX1_most : Room := { frames := 1, cells := 0, slots := 0, locals := 24 }
set_option maxHeartbeats 4000000 in
set_option maxRecDepth 100000 in
/-- Plan.most -/
theorem kX1_most (l : Launch) (E : rE) (p0 : Nat) (p1 : Nat) (p2 : Nat) (p3 : Nat) (get : Nat → Int) (flo : Nat → Int) (roo : Nat → Int) (v0 : Nat) (v1 : Nat) (v2 : Nat) (v3 : Nat) (v4 : Nat) (th : Nat → Int) (be : Nat → Int) (inf : Nat → Int) (snt : Nat → Int) (out : Int) (g0 : Nat) (g1 : Nat) (g2 : Nat) (g3 : Nat) (g4 : Nat) (g5 : Nat) (g6 : Nat) (g7 : Nat) (g8 : Nat) (g9 : Nat) (g : Nat → Int) (pl : Nat → Int) (pr : Nat → Int) (ra : Nat → Int) (wn : Nat → Int) (sh : Nat → Int) (rt : Nat → Int) (st : Nat → Int) (ag : Nat → Int) (cn : Int) (r : Int) (hbe : ∀ r : Nat, r < 32 → -1 ≤ be r ∧ be r < 32) (hst : ∀ i : Nat, i < 40 → -1 ≤ st i ∧ st i < 8) (hflo : ∀ q : Nat, q < 32 → 0 ≤ flo q ∧ flo q ≤ 1000000000000) (hroo : ∀ q : Nat, q < 8 → 0 ≤ roo q ∧ roo q ≤ 1000000000) (hri : 0 ≤ r ∧ r < 40) (hwn : 0 ≤ wn r.toNat ∧ wn r.toNat ≤ 1000000000) (hpl : -1 ≤ pl r.toNat ∧ pl r.toNat < 32) (hrt : -1 ≤ rt r.toNat ∧ rt r.toNat < 32) (hsh : 0 ≤ rt r.toNat → 0 ≤ sh r.toNat ∧ sh r.toNat ≤ 1000) : rM l yX1_most sX1_most rX1_most E [cO p0 1 [.ref p1, .ref p2, .ref p3], cI E p1 40 get, cJ E p2 32 flo, cI E p3 8 roo, cO v0 4 [.ref v1, .ref v2, .ref v3, .ref v4, .int (iI out)], cZ E v1 32 th, cI E v2 32 be, cI E v3 32 inf, cJ E v4 32 snt, cO g0 3 [.ref g1, .ref g2, .ref g3, .ref g4, .ref g5, .ref g6, .ref g7, .ref g8, .ref g9, .int (iI cn)], cZ E g1 40 g, cI E g2 40 pl, cI E g3 40 pr, cI E g4 40 ra, cI E g5 40 wn, cI E g6 40 sh, cI E g7 40 rt, cI E g8 40 st, cI E g9 40 ag] [.ref p0, .ref v0, .ref g0, .int (iI r)] (some (.int (iI (mosW be (sh r.toNat) (rt r.toNat) flo 32 (pl r.toNat) false (if st r.toNat ≠ -1 then min (wn r.toNat) (roo (st r.toNat).toNat) else wn r.toNat))))) (fun _ : Unit => [cO p0 1 [.ref p1, .ref p2, .ref p3], cI E p1 40 get, cJ E p2 32 flo, cI E p3 8 roo, cO v0 4 [.ref v1, .ref v2, .ref v3, .ref v4, .int (iI out)], cZ E v1 32 th, cI E v2 32 be, cI E v3 32 inf, cJ E v4 32 snt, cO g0 3 [.ref g1, .ref g2, .ref g3, .ref g4, .ref g5, .ref g6, .ref g7, .ref g8, .ref g9, .int (iI cn)], cZ E g1 40 g, cI E g2 40 pl, cI E g3 40 pr, cI E g4 40 ra, cI E g5 40 wn, cI E g6 40 sh, cI E g7 40 rt, cI E g8 40 st, cI E g9 40 ag]) := by
  refine rM.of (cc := cX1_most) (maxL := 9) (ret := (some FieldType.int)) (by decide) rfl (Nat.le_of_ble_eq_true rfl) (fun w h => List.mem_cons_of_mem _ h) ?_
  intro p e s m args below meth c A Q hA hQ C hr hlk hnm
  have C : rC p s m args c E A 9 cX1_most sX1_most RX1 := C
  obtain ⟨M0, hM0⟩ : ∃ z, z = mosW be (sh r.toNat) (rt r.toNat) flo 32 (pl r.toNat) false (if st r.toNat ≠ -1 then min (wn r.toNat) (roo (st r.toNat).toNat) else wn r.toNat) := ⟨_, rfl⟩
  have L50 : ∀ (n : Nat) (k : Int) (a : Int) (cb : Bool) (mm : Int), (0 ≤ k ∧ k ≤ 32) → (-1 ≤ a ∧ a < 32) → (cb = true → 0 ≤ rt r.toNat) → (0 ≤ mm ∧ mm ≤ 1000000000) → (M0 = mosW be (sh r.toNat) (rt r.toNat) flo (32 - k).toNat a cb mm) → ((32 - k).toNat < n) → rG p l e rX1_most s m args below meth c E A 9 0 0 Q [cO p0 1 [.ref p1, .ref p2, .ref p3], cI E p1 40 get, cJ E p2 32 flo, cI E p3 8 roo, cO v0 4 [.ref v1, .ref v2, .ref v3, .ref v4, .int (iI out)], cZ E v1 32 th, cI E v2 32 be, cI E v3 32 inf, cJ E v4 32 snt, cO g0 3 [.ref g1, .ref g2, .ref g3, .ref g4, .ref g5, .ref g6, .ref g7, .ref g8, .ref g9, .int (iI cn)], cZ E g1 40 g, cI E g2 40 pl, cI E g3 40 pr, cI E g4 40 ra, cI E g5 40 wn, cI E g6 40 sh, cI E g7 40 rt, cI E g8 40 st, cI E g9 40 ag] 50 [(0, .ref p0), (1, .ref v0), (2, .ref g0), (3, .int (iI r)), (4, .long (lI mm)), (6, .int (iI (bZ cb))), (7, .int (iI a)), (8, .int (iI k))] [] := by
    intro n
    induction n with
    | zero => intro k a cb mm h1 h2 h4 h5 h3 hm; exact absurd hm (Nat.not_lt_zero _)
    | succ n ih =>
      intro k a cb mm h1 h2 h4 h5 h3 hm
      refine rg_iload C 7 dX1_most_50 rfl ?_
      refine rg_bipush (z := 32) C dX1_most_52 (by decide) ?_
      refine rg_icmp_ge (tgt := 135) C ⟨by omega, by omega⟩ ⟨by decide, by decide⟩ dX1_most_54 (by decide) (fun h_54 => ?_) (fun h_54 => ?_)
      · refine rg_lload C 4 dX1_most_135 rfl ?_
        refine rg_l2i C dX1_most_137 ?_
        exact rg_iret C hA hQ hr hlk () rfl (by rw [← hM0, h3, mosW_end (by omega)]) dX1_most_138
      · refine rg_iload C 6 dX1_most_57 rfl ?_
        refine rg_iconst C dX1_most_59 ?_
        refine rg_icmp_eq (tgt := 135) C ⟨by omega, by omega⟩ ⟨by decide, by decide⟩ dX1_most_60 (by decide) (fun h_60 => ?_) (fun h_60 => ?_)
        · refine rg_lload C 4 dX1_most_135 rfl ?_
          refine rg_l2i C dX1_most_137 ?_
          exact rg_iret C hA hQ hr hlk () rfl (by rw [← hM0, h3, mosW_end (by omega)]) dX1_most_138
        · have hb9 := hbe a.toNat (by omega)
          have hf9 := hflo a.toNat (by omega)
          refine rg_iload C 5 dX1_most_63 rfl ?_
          refine rg_if_ne (tgt := 79) C (bZ_in _) dX1_most_65 (by decide) (fun h_65 => ?_) (fun h_65 => ?_)
          · refine rg_iconst C dX1_most_79 ?_
            refine rg_goto (tgt := 84) C dX1_most_80 (by decide) ?_
            refine rg_istore (lv' := [(6, .int (iI 1)), (0, .ref p0), (1, .ref v0), (2, .ref g0), (3, .int (iI r)), (4, .long (lI mm)), (7, .int (iI a)), (8, .int (iI k))]) C dX1_most_84 (by decide) rfl ?_
            refine rg_lload C 5 dX1_most_86 rfl ?_
            refine rg_iload C 0 dX1_most_88 rfl ?_
            refine rg_if_eq (tgt := 108) C ⟨by decide, by decide⟩ dX1_most_90 (by decide) (fun h_90 => absurd h_90 (by omega)) (fun h_90 => ?_)
            have h9 : 0 ≤ rt r.toNat := by first | exact h4 (bZ_T h_65) | omega
            have hc9 : cb = true ∨ a = rt r.toNat := by first | exact Or.inl (bZ_T h_65) | exact Or.inr (by omega)
            have hb8 := mfu_in (hsh h9) hf9
            have hs7 := hsh h9
            refine rg_aload_n C 3 dX1_most_93 rfl rfl ?_
            refine rg_iload_n C 4 dX1_most_94 rfl rfl ?_
            refine rg_aload_n C 1 dX1_most_95 rfl rfl ?_
            refine rg_get C fX1_15 0 rfl rfl dX1_most_96 ?_
            refine rg_iload C 6 dX1_most_99 rfl ?_
            refine rg_lald C 2 rfl (by decide) (by omega) (by omega) dX1_most_101 ?_
            refine rg_callV (As := [.int (iI r), .long (lI (flo a.toNat))]) (rest := [.long (lI mm)]) (wr := [cO p0 1 [.ref p1, .ref p2, .ref p3], cI E p1 40 get, cJ E p2 32 flo, cI E p3 8 roo, cO v0 4 [.ref v1, .ref v2, .ref v3, .ref v4, .int (iI out)], cZ E v1 32 th, cI E v2 32 be, cI E v3 32 inf, cJ E v4 32 snt]) (w' := fun _ => [cO p0 1 [.ref p1, .ref p2, .ref p3], cI E p1 40 get, cJ E p2 32 flo, cI E p3 8 roo, cO v0 4 [.ref v1, .ref v2, .ref v3, .ref v4, .int (iI out)], cZ E v1 32 th, cI E v2 32 be, cI E v3 32 inf, cJ E v4 32 snt, cO g0 3 [.ref g1, .ref g2, .ref g3, .ref g4, .ref g5, .ref g6, .ref g7, .ref g8, .ref g9, .int (iI cn)], cZ E g1 40 g, cI E g2 40 pl, cI E g3 40 pr, cI E g4 40 ra, cI E g5 40 wn, cI E g6 40 sh, cI E g7 40 rt, cI E g8 40 st, cI E g9 40 ag]) C (kX3_mostForUse l E g0 g1 g2 g3 g4 g5 g6 g7 g8 g9 g pl pr ra wn sh rt st ag cn r (flo a.toNat) (by first | assumption | omega) (by first | assumption | omega) (by first | assumption | omega)) (rcwV C mX3_mostForUse w_256 ⟨Nat.le_of_ble_eq_true rfl, Nat.le_of_ble_eq_true rfl⟩) [9, 10, 11, 12, 13, 14, 15, 16, 17, 18] [0, 1, 2, 3, 4, 5, 6, 7, 8] [0, 1, 2, 3, 4, 5, 6, 7, 8, 9, 10, 11, 12, 13, 14, 15, 16, 17, 18] rfl rfl (by decide) (by decide) (by decide) (fun _ => rfl) (by decide) 0 rfl rfl rfl rfl (Nat.le_of_ble_eq_true rfl) dX1_most_102 ⟨Nat.le_of_ble_eq_true rfl, Nat.le_of_ble_eq_true rfl⟩ (fun _ => ?_)
            show rG p l e rX1_most s m args below meth c E A 9 0 0 Q [cO p0 1 [.ref p1, .ref p2, .ref p3], cI E p1 40 get, cJ E p2 32 flo, cI E p3 8 roo, cO v0 4 [.ref v1, .ref v2, .ref v3, .ref v4, .int (iI out)], cZ E v1 32 th, cI E v2 32 be, cI E v3 32 inf, cJ E v4 32 snt, cO g0 3 [.ref g1, .ref g2, .ref g3, .ref g4, .ref g5, .ref g6, .ref g7, .ref g8, .ref g9, .int (iI cn)], cZ E g1 40 g, cI E g2 40 pl, cI E g3 40 pr, cI E g4 40 ra, cI E g5 40 wn, cI E g6 40 sh, cI E g7 40 rt, cI E g8 40 st, cI E g9 40 ag] 105 [(6, .int (iI 1)), (0, .ref p0), (1, .ref v0), (2, .ref g0), (3, .int (iI r)), (4, .long (lI mm)), (7, .int (iI a)), (8, .int (iI k))] [.long (lI (if 1000 - sh r.toNat ≤ 0 then 1000000000 else (flo a.toNat) * 1000 / (1000 - sh r.toNat))), .long (lI mm)]
            refine rg_goto (tgt := 115) C dX1_most_105 (by decide) ?_
            refine rg_callS (As := [.long (lI mm), .long (lI (if 1000 - sh r.toNat ≤ 0 then 1000000000 else (flo a.toNat) * 1000 / (1000 - sh r.toNat)))]) (rest := []) (wr := [cO p0 1 [.ref p1, .ref p2, .ref p3], cI E p1 40 get, cJ E p2 32 flo, cI E p3 8 roo, cO v0 4 [.ref v1, .ref v2, .ref v3, .ref v4, .int (iI out)], cZ E v1 32 th, cI E v2 32 be, cI E v3 32 inf, cJ E v4 32 snt, cO g0 3 [.ref g1, .ref g2, .ref g3, .ref g4, .ref g5, .ref g6, .ref g7, .ref g8, .ref g9, .int (iI cn)], cZ E g1 40 g, cI E g2 40 pl, cI E g3 40 pr, cI E g4 40 ra, cI E g5 40 wn, cI E g6 40 sh, cI E g7 40 rt, cI E g8 40 st, cI E g9 40 ag]) (w' := fun _ => [cO p0 1 [.ref p1, .ref p2, .ref p3], cI E p1 40 get, cJ E p2 32 flo, cI E p3 8 roo, cO v0 4 [.ref v1, .ref v2, .ref v3, .ref v4, .int (iI out)], cZ E v1 32 th, cI E v2 32 be, cI E v3 32 inf, cJ E v4 32 snt, cO g0 3 [.ref g1, .ref g2, .ref g3, .ref g4, .ref g5, .ref g6, .ref g7, .ref g8, .ref g9, .int (iI cn)], cZ E g1 40 g, cI E g2 40 pl, cI E g3 40 pr, cI E g4 40 ra, cI E g5 40 wn, cI E g6 40 sh, cI E g7 40 rt, cI E g8 40 st, cI E g9 40 ag]) C (kJM_min l E mm (if 1000 - sh r.toNat ≤ 0 then 1000000000 else (flo a.toNat) * 1000 / (1000 - sh r.toNat)) (by omega) (by first | omega | exact wideL hb8)) (rcwS C mJM_min w_253 ⟨Nat.le_of_ble_eq_true rfl, Nat.le_of_ble_eq_true rfl⟩) [] [0, 1, 2, 3, 4, 5, 6, 7, 8, 9, 10, 11, 12, 13, 14, 15, 16, 17, 18] [0, 1, 2, 3, 4, 5, 6, 7, 8, 9, 10, 11, 12, 13, 14, 15, 16, 17, 18] rfl rfl (by decide) (by decide) (by decide) (fun _ => rfl) (by decide) rfl rfl (Nat.le_of_ble_eq_true rfl) dX1_most_115 ⟨Nat.le_of_ble_eq_true rfl, Nat.le_of_ble_eq_true rfl⟩ (fun _ => ?_)
            show rG p l e rX1_most s m args below meth c E A 9 0 0 Q [cO p0 1 [.ref p1, .ref p2, .ref p3], cI E p1 40 get, cJ E p2 32 flo, cI E p3 8 roo, cO v0 4 [.ref v1, .ref v2, .ref v3, .ref v4, .int (iI out)], cZ E v1 32 th, cI E v2 32 be, cI E v3 32 inf, cJ E v4 32 snt, cO g0 3 [.ref g1, .ref g2, .ref g3, .ref g4, .ref g5, .ref g6, .ref g7, .ref g8, .ref g9, .int (iI cn)], cZ E g1 40 g, cI E g2 40 pl, cI E g3 40 pr, cI E g4 40 ra, cI E g5 40 wn, cI E g6 40 sh, cI E g7 40 rt, cI E g8 40 st, cI E g9 40 ag] 118 [(6, .int (iI 1)), (0, .ref p0), (1, .ref v0), (2, .ref g0), (3, .int (iI r)), (4, .long (lI mm)), (7, .int (iI a)), (8, .int (iI k))] [.long (lI (min mm (if 1000 - sh r.toNat ≤ 0 then 1000000000 else (flo a.toNat) * 1000 / (1000 - sh r.toNat))))]
            refine rg_lstore (lv' := [(4, .long (lI (min mm (if 1000 - sh r.toNat ≤ 0 then 1000000000 else (flo a.toNat) * 1000 / (1000 - sh r.toNat))))), (6, .int (iI 1)), (0, .ref p0), (1, .ref v0), (2, .ref g0), (3, .int (iI r)), (7, .int (iI a)), (8, .int (iI k))]) C dX1_most_118 (by decide) rfl ?_
            refine rg_aload_n C 3 dX1_most_120 rfl rfl ?_
            refine rg_get C fX1_48 4 rfl rfl dX1_most_121 ?_
            refine rg_iload C 6 dX1_most_124 rfl ?_
            refine rg_iald C 6 rfl (by decide) (by omega) (by omega) dX1_most_126 ?_
            refine rg_istore (lv' := [(7, .int (iI (be a.toNat))), (4, .long (lI (min mm (if 1000 - sh r.toNat ≤ 0 then 1000000000 else (flo a.toNat) * 1000 / (1000 - sh r.toNat))))), (6, .int (iI 1)), (0, .ref p0), (1, .ref v0), (2, .ref g0), (3, .int (iI r)), (8, .int (iI k))]) C dX1_most_127 (by decide) rfl ?_
            refine rg_iinc (k := 7) (lv' := [(8, .int (iI (k + 1))), (7, .int (iI (be a.toNat))), (4, .long (lI (min mm (if 1000 - sh r.toNat ≤ 0 then 1000000000 else (flo a.toNat) * 1000 / (1000 - sh r.toNat))))), (6, .int (iI 1)), (0, .ref p0), (1, .ref v0), (2, .ref g0), (3, .int (iI r))]) C dX1_most_129 rfl (by decide) rfl ?_
            refine rg_goto (tgt := 50) C dX1_most_132 (by decide) ?_
            refine rG.plv [4, 5, 6, 7, 2, 3, 1, 0] rfl ?_
            exact ih (k + 1) (be a.toNat) true (min mm (if 1000 - sh r.toNat ≤ 0 then 1000000000 else (flo a.toNat) * 1000 / (1000 - sh r.toNat))) (by omega) hb9 (fun _ => h9) (min9 h5 hb8.1) (h3.trans (mosW_t h1.1 (by omega) (by omega) hc9)) (by omega)
          · refine rg_iload C 6 dX1_most_68 rfl ?_
            refine rg_aload_n C 2 dX1_most_70 rfl rfl ?_
            refine rg_get C fX1_87 9 rfl rfl dX1_most_71 ?_
            refine rg_iload_n C 3 dX1_most_74 rfl rfl ?_
            refine rg_iald C 16 rfl (by decide) (by omega) (by omega) dX1_most_75 ?_
            refine rg_icmp_ne (tgt := 83) C ⟨by omega, by omega⟩ ⟨by omega, by omega⟩ dX1_most_76 (by decide) (fun h_76 => ?_) (fun h_76 => ?_)
            · refine rg_iconst C dX1_most_83 ?_
              refine rg_istore (lv' := [(6, .int (iI 0)), (0, .ref p0), (1, .ref v0), (2, .ref g0), (3, .int (iI r)), (4, .long (lI mm)), (7, .int (iI a)), (8, .int (iI k))]) C dX1_most_84 (by decide) rfl ?_
              refine rg_lload C 5 dX1_most_86 rfl ?_
              refine rg_iload C 0 dX1_most_88 rfl ?_
              refine rg_if_eq (tgt := 108) C ⟨by decide, by decide⟩ dX1_most_90 (by decide) (fun h_90 => ?_) (fun h_90 => absurd h_90 (by omega))
              refine rg_aload_n C 1 dX1_most_108 rfl rfl ?_
              refine rg_get C fX1_15 0 rfl rfl dX1_most_109 ?_
              refine rg_iload C 6 dX1_most_112 rfl ?_
              refine rg_lald C 2 rfl (by decide) (by omega) (by omega) dX1_most_114 ?_
              refine rg_callS (As := [.long (lI mm), .long (lI (flo a.toNat))]) (rest := []) (wr := [cO p0 1 [.ref p1, .ref p2, .ref p3], cI E p1 40 get, cJ E p2 32 flo, cI E p3 8 roo, cO v0 4 [.ref v1, .ref v2, .ref v3, .ref v4, .int (iI out)], cZ E v1 32 th, cI E v2 32 be, cI E v3 32 inf, cJ E v4 32 snt, cO g0 3 [.ref g1, .ref g2, .ref g3, .ref g4, .ref g5, .ref g6, .ref g7, .ref g8, .ref g9, .int (iI cn)], cZ E g1 40 g, cI E g2 40 pl, cI E g3 40 pr, cI E g4 40 ra, cI E g5 40 wn, cI E g6 40 sh, cI E g7 40 rt, cI E g8 40 st, cI E g9 40 ag]) (w' := fun _ => [cO p0 1 [.ref p1, .ref p2, .ref p3], cI E p1 40 get, cJ E p2 32 flo, cI E p3 8 roo, cO v0 4 [.ref v1, .ref v2, .ref v3, .ref v4, .int (iI out)], cZ E v1 32 th, cI E v2 32 be, cI E v3 32 inf, cJ E v4 32 snt, cO g0 3 [.ref g1, .ref g2, .ref g3, .ref g4, .ref g5, .ref g6, .ref g7, .ref g8, .ref g9, .int (iI cn)], cZ E g1 40 g, cI E g2 40 pl, cI E g3 40 pr, cI E g4 40 ra, cI E g5 40 wn, cI E g6 40 sh, cI E g7 40 rt, cI E g8 40 st, cI E g9 40 ag]) C (kJM_min l E mm (flo a.toNat) (by omega) (by first | omega | exact wideL hb8)) (rcwS C mJM_min w_253 ⟨Nat.le_of_ble_eq_true rfl, Nat.le_of_ble_eq_true rfl⟩) [] [0, 1, 2, 3, 4, 5, 6, 7, 8, 9, 10, 11, 12, 13, 14, 15, 16, 17, 18] [0, 1, 2, 3, 4, 5, 6, 7, 8, 9, 10, 11, 12, 13, 14, 15, 16, 17, 18] rfl rfl (by decide) (by decide) (by decide) (fun _ => rfl) (by decide) rfl rfl (Nat.le_of_ble_eq_true rfl) dX1_most_115 ⟨Nat.le_of_ble_eq_true rfl, Nat.le_of_ble_eq_true rfl⟩ (fun _ => ?_)
              show rG p l e rX1_most s m args below meth c E A 9 0 0 Q [cO p0 1 [.ref p1, .ref p2, .ref p3], cI E p1 40 get, cJ E p2 32 flo, cI E p3 8 roo, cO v0 4 [.ref v1, .ref v2, .ref v3, .ref v4, .int (iI out)], cZ E v1 32 th, cI E v2 32 be, cI E v3 32 inf, cJ E v4 32 snt, cO g0 3 [.ref g1, .ref g2, .ref g3, .ref g4, .ref g5, .ref g6, .ref g7, .ref g8, .ref g9, .int (iI cn)], cZ E g1 40 g, cI E g2 40 pl, cI E g3 40 pr, cI E g4 40 ra, cI E g5 40 wn, cI E g6 40 sh, cI E g7 40 rt, cI E g8 40 st, cI E g9 40 ag] 118 [(6, .int (iI 0)), (0, .ref p0), (1, .ref v0), (2, .ref g0), (3, .int (iI r)), (4, .long (lI mm)), (7, .int (iI a)), (8, .int (iI k))] [.long (lI (min mm (flo a.toNat)))]
              refine rg_lstore (lv' := [(4, .long (lI (min mm (flo a.toNat)))), (6, .int (iI 0)), (0, .ref p0), (1, .ref v0), (2, .ref g0), (3, .int (iI r)), (7, .int (iI a)), (8, .int (iI k))]) C dX1_most_118 (by decide) rfl ?_
              refine rg_aload_n C 3 dX1_most_120 rfl rfl ?_
              refine rg_get C fX1_48 4 rfl rfl dX1_most_121 ?_
              refine rg_iload C 6 dX1_most_124 rfl ?_
              refine rg_iald C 6 rfl (by decide) (by omega) (by omega) dX1_most_126 ?_
              refine rg_istore (lv' := [(7, .int (iI (be a.toNat))), (4, .long (lI (min mm (flo a.toNat)))), (6, .int (iI 0)), (0, .ref p0), (1, .ref v0), (2, .ref g0), (3, .int (iI r)), (8, .int (iI k))]) C dX1_most_127 (by decide) rfl ?_
              refine rg_iinc (k := 7) (lv' := [(8, .int (iI (k + 1))), (7, .int (iI (be a.toNat))), (4, .long (lI (min mm (flo a.toNat)))), (6, .int (iI 0)), (0, .ref p0), (1, .ref v0), (2, .ref g0), (3, .int (iI r))]) C dX1_most_129 rfl (by decide) rfl ?_
              refine rg_goto (tgt := 50) C dX1_most_132 (by decide) ?_
              refine rG.plv [4, 5, 6, 7, 2, 3, 1, 0] rfl ?_
              exact ih (k + 1) (be a.toNat) false (min mm (flo a.toNat)) (by omega) hb9 (fun q => by cases q) (min9 h5 hf9.1) (h3.trans (mosW_f h1.1 (by omega) (by omega) (bZ_F h_65) h_76)) (by omega)
            · refine rg_iconst C dX1_most_79 ?_
              refine rg_goto (tgt := 84) C dX1_most_80 (by decide) ?_
              refine rg_istore (lv' := [(6, .int (iI 1)), (0, .ref p0), (1, .ref v0), (2, .ref g0), (3, .int (iI r)), (4, .long (lI mm)), (7, .int (iI a)), (8, .int (iI k))]) C dX1_most_84 (by decide) rfl ?_
              refine rg_lload C 5 dX1_most_86 rfl ?_
              refine rg_iload C 0 dX1_most_88 rfl ?_
              refine rg_if_eq (tgt := 108) C ⟨by decide, by decide⟩ dX1_most_90 (by decide) (fun h_90 => absurd h_90 (by omega)) (fun h_90 => ?_)
              have h9 : 0 ≤ rt r.toNat := by first | exact h4 (bZ_T h_65) | omega
              have hc9 : cb = true ∨ a = rt r.toNat := by first | exact Or.inl (bZ_T h_65) | exact Or.inr (by omega)
              have hb8 := mfu_in (hsh h9) hf9
              have hs7 := hsh h9
              refine rg_aload_n C 3 dX1_most_93 rfl rfl ?_
              refine rg_iload_n C 4 dX1_most_94 rfl rfl ?_
              refine rg_aload_n C 1 dX1_most_95 rfl rfl ?_
              refine rg_get C fX1_15 0 rfl rfl dX1_most_96 ?_
              refine rg_iload C 6 dX1_most_99 rfl ?_
              refine rg_lald C 2 rfl (by decide) (by omega) (by omega) dX1_most_101 ?_
              refine rg_callV (As := [.int (iI r), .long (lI (flo a.toNat))]) (rest := [.long (lI mm)]) (wr := [cO p0 1 [.ref p1, .ref p2, .ref p3], cI E p1 40 get, cJ E p2 32 flo, cI E p3 8 roo, cO v0 4 [.ref v1, .ref v2, .ref v3, .ref v4, .int (iI out)], cZ E v1 32 th, cI E v2 32 be, cI E v3 32 inf, cJ E v4 32 snt]) (w' := fun _ => [cO p0 1 [.ref p1, .ref p2, .ref p3], cI E p1 40 get, cJ E p2 32 flo, cI E p3 8 roo, cO v0 4 [.ref v1, .ref v2, .ref v3, .ref v4, .int (iI out)], cZ E v1 32 th, cI E v2 32 be, cI E v3 32 inf, cJ E v4 32 snt, cO g0 3 [.ref g1, .ref g2, .ref g3, .ref g4, .ref g5, .ref g6, .ref g7, .ref g8, .ref g9, .int (iI cn)], cZ E g1 40 g, cI E g2 40 pl, cI E g3 40 pr, cI E g4 40 ra, cI E g5 40 wn, cI E g6 40 sh, cI E g7 40 rt, cI E g8 40 st, cI E g9 40 ag]) C (kX3_mostForUse l E g0 g1 g2 g3 g4 g5 g6 g7 g8 g9 g pl pr ra wn sh rt st ag cn r (flo a.toNat) (by first | assumption | omega) (by first | assumption | omega) (by first | assumption | omega)) (rcwV C mX3_mostForUse w_256 ⟨Nat.le_of_ble_eq_true rfl, Nat.le_of_ble_eq_true rfl⟩) [9, 10, 11, 12, 13, 14, 15, 16, 17, 18] [0, 1, 2, 3, 4, 5, 6, 7, 8] [0, 1, 2, 3, 4, 5, 6, 7, 8, 9, 10, 11, 12, 13, 14, 15, 16, 17, 18] rfl rfl (by decide) (by decide) (by decide) (fun _ => rfl) (by decide) 0 rfl rfl rfl rfl (Nat.le_of_ble_eq_true rfl) dX1_most_102 ⟨Nat.le_of_ble_eq_true rfl, Nat.le_of_ble_eq_true rfl⟩ (fun _ => ?_)
              show rG p l e rX1_most s m args below meth c E A 9 0 0 Q [cO p0 1 [.ref p1, .ref p2, .ref p3], cI E p1 40 get, cJ E p2 32 flo, cI E p3 8 roo, cO v0 4 [.ref v1, .ref v2, .ref v3, .ref v4, .int (iI out)], cZ E v1 32 th, cI E v2 32 be, cI E v3 32 inf, cJ E v4 32 snt, cO g0 3 [.ref g1, .ref g2, .ref g3, .ref g4, .ref g5, .ref g6, .ref g7, .ref g8, .ref g9, .int (iI cn)], cZ E g1 40 g, cI E g2 40 pl, cI E g3 40 pr, cI E g4 40 ra, cI E g5 40 wn, cI E g6 40 sh, cI E g7 40 rt, cI E g8 40 st, cI E g9 40 ag] 105 [(6, .int (iI 1)), (0, .ref p0), (1, .ref v0), (2, .ref g0), (3, .int (iI r)), (4, .long (lI mm)), (7, .int (iI a)), (8, .int (iI k))] [.long (lI (if 1000 - sh r.toNat ≤ 0 then 1000000000 else (flo a.toNat) * 1000 / (1000 - sh r.toNat))), .long (lI mm)]
              refine rg_goto (tgt := 115) C dX1_most_105 (by decide) ?_
              refine rg_callS (As := [.long (lI mm), .long (lI (if 1000 - sh r.toNat ≤ 0 then 1000000000 else (flo a.toNat) * 1000 / (1000 - sh r.toNat)))]) (rest := []) (wr := [cO p0 1 [.ref p1, .ref p2, .ref p3], cI E p1 40 get, cJ E p2 32 flo, cI E p3 8 roo, cO v0 4 [.ref v1, .ref v2, .ref v3, .ref v4, .int (iI out)], cZ E v1 32 th, cI E v2 32 be, cI E v3 32 inf, cJ E v4 32 snt, cO g0 3 [.ref g1, .ref g2, .ref g3, .ref g4, .ref g5, .ref g6, .ref g7, .ref g8, .ref g9, .int (iI cn)], cZ E g1 40 g, cI E g2 40 pl, cI E g3 40 pr, cI E g4 40 ra, cI E g5 40 wn, cI E g6 40 sh, cI E g7 40 rt, cI E g8 40 st, cI E g9 40 ag]) (w' := fun _ => [cO p0 1 [.ref p1, .ref p2, .ref p3], cI E p1 40 get, cJ E p2 32 flo, cI E p3 8 roo, cO v0 4 [.ref v1, .ref v2, .ref v3, .ref v4, .int (iI out)], cZ E v1 32 th, cI E v2 32 be, cI E v3 32 inf, cJ E v4 32 snt, cO g0 3 [.ref g1, .ref g2, .ref g3, .ref g4, .ref g5, .ref g6, .ref g7, .ref g8, .ref g9, .int (iI cn)], cZ E g1 40 g, cI E g2 40 pl, cI E g3 40 pr, cI E g4 40 ra, cI E g5 40 wn, cI E g6 40 sh, cI E g7 40 rt, cI E g8 40 st, cI E g9 40 ag]) C (kJM_min l E mm (if 1000 - sh r.toNat ≤ 0 then 1000000000 else (flo a.toNat) * 1000 / (1000 - sh r.toNat)) (by omega) (by first | omega | exact wideL hb8)) (rcwS C mJM_min w_253 ⟨Nat.le_of_ble_eq_true rfl, Nat.le_of_ble_eq_true rfl⟩) [] [0, 1, 2, 3, 4, 5, 6, 7, 8, 9, 10, 11, 12, 13, 14, 15, 16, 17, 18] [0, 1, 2, 3, 4, 5, 6, 7, 8, 9, 10, 11, 12, 13, 14, 15, 16, 17, 18] rfl rfl (by decide) (by decide) (by decide) (fun _ => rfl) (by decide) rfl rfl (Nat.le_of_ble_eq_true rfl) dX1_most_115 ⟨Nat.le_of_ble_eq_true rfl, Nat.le_of_ble_eq_true rfl⟩ (fun _ => ?_)
              show rG p l e rX1_most s m args below meth c E A 9 0 0 Q [cO p0 1 [.ref p1, .ref p2, .ref p3], cI E p1 40 get, cJ E p2 32 flo, cI E p3 8 roo, cO v0 4 [.ref v1, .ref v2, .ref v3, .ref v4, .int (iI out)], cZ E v1 32 th, cI E v2 32 be, cI E v3 32 inf, cJ E v4 32 snt, cO g0 3 [.ref g1, .ref g2, .ref g3, .ref g4, .ref g5, .ref g6, .ref g7, .ref g8, .ref g9, .int (iI cn)], cZ E g1 40 g, cI E g2 40 pl, cI E g3 40 pr, cI E g4 40 ra, cI E g5 40 wn, cI E g6 40 sh, cI E g7 40 rt, cI E g8 40 st, cI E g9 40 ag] 118 [(6, .int (iI 1)), (0, .ref p0), (1, .ref v0), (2, .ref g0), (3, .int (iI r)), (4, .long (lI mm)), (7, .int (iI a)), (8, .int (iI k))] [.long (lI (min mm (if 1000 - sh r.toNat ≤ 0 then 1000000000 else (flo a.toNat) * 1000 / (1000 - sh r.toNat))))]
              refine rg_lstore (lv' := [(4, .long (lI (min mm (if 1000 - sh r.toNat ≤ 0 then 1000000000 else (flo a.toNat) * 1000 / (1000 - sh r.toNat))))), (6, .int (iI 1)), (0, .ref p0), (1, .ref v0), (2, .ref g0), (3, .int (iI r)), (7, .int (iI a)), (8, .int (iI k))]) C dX1_most_118 (by decide) rfl ?_
              refine rg_aload_n C 3 dX1_most_120 rfl rfl ?_
              refine rg_get C fX1_48 4 rfl rfl dX1_most_121 ?_
              refine rg_iload C 6 dX1_most_124 rfl ?_
              refine rg_iald C 6 rfl (by decide) (by omega) (by omega) dX1_most_126 ?_
              refine rg_istore (lv' := [(7, .int (iI (be a.toNat))), (4, .long (lI (min mm (if 1000 - sh r.toNat ≤ 0 then 1000000000 else (flo a.toNat) * 1000 / (1000 - sh r.toNat))))), (6, .int (iI 1)), (0, .ref p0), (1, .ref v0), (2, .ref g0), (3, .int (iI r)), (8, .int (iI k))]) C dX1_most_127 (by decide) rfl ?_
              refine rg_iinc (k := 7) (lv' := [(8, .int (iI (k + 1))), (7, .int (iI (be a.toNat))), (4, .long (lI (min mm (if 1000 - sh r.toNat ≤ 0 then 1000000000 else (flo a.toNat) * 1000 / (1000 - sh r.toNat))))), (6, .int (iI 1)), (0, .ref p0), (1, .ref v0), (2, .ref g0), (3, .int (iI r))]) C dX1_most_129 rfl (by decide) rfl ?_
              refine rg_goto (tgt := 50) C dX1_most_132 (by decide) ?_
              refine rG.plv [4, 5, 6, 7, 2, 3, 1, 0] rfl ?_
              exact ih (k + 1) (be a.toNat) true (min mm (if 1000 - sh r.toNat ≤ 0 then 1000000000 else (flo a.toNat) * 1000 / (1000 - sh r.toNat))) (by omega) hb9 (fun _ => h9) (min9 h5 hb8.1) (h3.trans (mosW_t h1.1 (by omega) (by omega) hc9)) (by omega)
  show rG p l e rX1_most s m args below meth c E A 9 0 0 Q [cO p0 1 [.ref p1, .ref p2, .ref p3], cI E p1 40 get, cJ E p2 32 flo, cI E p3 8 roo, cO v0 4 [.ref v1, .ref v2, .ref v3, .ref v4, .int (iI out)], cZ E v1 32 th, cI E v2 32 be, cI E v3 32 inf, cJ E v4 32 snt, cO g0 3 [.ref g1, .ref g2, .ref g3, .ref g4, .ref g5, .ref g6, .ref g7, .ref g8, .ref g9, .int (iI cn)], cZ E g1 40 g, cI E g2 40 pl, cI E g3 40 pr, cI E g4 40 ra, cI E g5 40 wn, cI E g6 40 sh, cI E g7 40 rt, cI E g8 40 st, cI E g9 40 ag] 0 [(0, .ref p0), (1, .ref v0), (2, .ref g0), (3, .int (iI r))] []
  refine rg_aload_n C 2 dX1_most_0 rfl rfl ?_
  refine rg_get C fX1_68 9 rfl rfl dX1_most_1 ?_
  refine rg_iload_n C 3 dX1_most_4 rfl rfl ?_
  refine rg_iald C 14 rfl (by decide) (by omega) (by omega) dX1_most_5 ?_
  refine rg_i2l C ⟨by omega, by omega⟩ dX1_most_6 ?_
  refine rg_lstore (lv' := [(4, .long (lI (wn r.toNat))), (0, .ref p0), (1, .ref v0), (2, .ref g0), (3, .int (iI r))]) C dX1_most_7 (by decide) rfl ?_
  refine rg_aload_n C 3 dX1_most_9 rfl rfl ?_
  refine rg_iload_n C 4 dX1_most_10 rfl rfl ?_
  refine rg_callV (As := [.int (iI r)]) (rest := []) (wr := [cO p0 1 [.ref p1, .ref p2, .ref p3], cI E p1 40 get, cJ E p2 32 flo, cI E p3 8 roo, cO v0 4 [.ref v1, .ref v2, .ref v3, .ref v4, .int (iI out)], cZ E v1 32 th, cI E v2 32 be, cI E v3 32 inf, cJ E v4 32 snt]) (w' := fun _ => [cO p0 1 [.ref p1, .ref p2, .ref p3], cI E p1 40 get, cJ E p2 32 flo, cI E p3 8 roo, cO v0 4 [.ref v1, .ref v2, .ref v3, .ref v4, .int (iI out)], cZ E v1 32 th, cI E v2 32 be, cI E v3 32 inf, cJ E v4 32 snt, cO g0 3 [.ref g1, .ref g2, .ref g3, .ref g4, .ref g5, .ref g6, .ref g7, .ref g8, .ref g9, .int (iI cn)], cZ E g1 40 g, cI E g2 40 pl, cI E g3 40 pr, cI E g4 40 ra, cI E g5 40 wn, cI E g6 40 sh, cI E g7 40 rt, cI E g8 40 st, cI E g9 40 ag]) C (kX3_isStorage l E g0 g1 g2 g3 g4 g5 g6 g7 g8 g9 g pl pr ra wn sh rt st ag cn r (by first | assumption | omega) (fun i hi => ⟨by have := hst i hi; omega, by have := hst i hi; omega⟩)) (rcwV C mX3_isStorage w_249 ⟨Nat.le_of_ble_eq_true rfl, Nat.le_of_ble_eq_true rfl⟩) [9, 10, 11, 12, 13, 14, 15, 16, 17, 18] [0, 1, 2, 3, 4, 5, 6, 7, 8] [0, 1, 2, 3, 4, 5, 6, 7, 8, 9, 10, 11, 12, 13, 14, 15, 16, 17, 18] rfl rfl (by decide) (by decide) (by decide) (fun _ => rfl) (by decide) 0 rfl rfl rfl rfl (Nat.le_of_ble_eq_true rfl) dX1_most_11 ⟨Nat.le_of_ble_eq_true rfl, Nat.le_of_ble_eq_true rfl⟩ (fun _ => ?_)
  show rG p l e rX1_most s m args below meth c E A 9 0 0 Q [cO p0 1 [.ref p1, .ref p2, .ref p3], cI E p1 40 get, cJ E p2 32 flo, cI E p3 8 roo, cO v0 4 [.ref v1, .ref v2, .ref v3, .ref v4, .int (iI out)], cZ E v1 32 th, cI E v2 32 be, cI E v3 32 inf, cJ E v4 32 snt, cO g0 3 [.ref g1, .ref g2, .ref g3, .ref g4, .ref g5, .ref g6, .ref g7, .ref g8, .ref g9, .int (iI cn)], cZ E g1 40 g, cI E g2 40 pl, cI E g3 40 pr, cI E g4 40 ra, cI E g5 40 wn, cI E g6 40 sh, cI E g7 40 rt, cI E g8 40 st, cI E g9 40 ag] 14 [(4, .long (lI (wn r.toNat))), (0, .ref p0), (1, .ref v0), (2, .ref g0), (3, .int (iI r))] [.int (iI (bZ (decide (st r.toNat ≠ -1))))]
  refine rg_if_eq (tgt := 36) C (bZ_in _) dX1_most_14 (by decide) (fun h_14 => ?_) (fun h_14 => ?_)
  · refine rg_iconst C dX1_most_36 ?_
    refine rg_istore (lv' := [(6, .int (iI 0)), (4, .long (lI (wn r.toNat))), (0, .ref p0), (1, .ref v0), (2, .ref g0), (3, .int (iI r))]) C dX1_most_37 (by decide) rfl ?_
    refine rg_aload_n C 4 dX1_most_39 rfl rfl ?_
    refine rg_get C fX1_84 9 rfl rfl dX1_most_40 ?_
    refine rg_iload_n C 5 dX1_most_43 rfl rfl ?_
    refine rg_iald C 11 rfl (by decide) (by omega) (by omega) dX1_most_44 ?_
    refine rg_istore (lv' := [(7, .int (iI (pl r.toNat))), (6, .int (iI 0)), (4, .long (lI (wn r.toNat))), (0, .ref p0), (1, .ref v0), (2, .ref g0), (3, .int (iI r))]) C dX1_most_45 (by decide) rfl ?_
    refine rg_iconst C dX1_most_47 ?_
    refine rg_istore (lv' := [(8, .int (iI 0)), (7, .int (iI (pl r.toNat))), (6, .int (iI 0)), (4, .long (lI (wn r.toNat))), (0, .ref p0), (1, .ref v0), (2, .ref g0), (3, .int (iI r))]) C dX1_most_48 (by decide) rfl ?_
    refine rG.plv [4, 5, 6, 7, 3, 2, 1, 0] rfl ?_
    exact L50 _ 0 (pl r.toNat) false (wn r.toNat) (by omega) hpl (fun q => by cases q) hwn (by rw [hM0, if_neg (dec0.mp h_14)]; rfl) (Nat.lt_succ_self _)
  · have hs9 : st r.toNat ≠ -1 := Decidable.byContradiction fun q => h_14 (dec0.mpr q)
    have hs8 := hst r.toNat (by omega)
    have hr8 := hroo (st r.toNat).toNat (by omega)
    refine rg_lload C 0 dX1_most_17 rfl ?_
    refine rg_aload_n C 1 dX1_most_19 rfl rfl ?_
    refine rg_get C fX1_19 0 rfl rfl dX1_most_20 ?_
    refine rg_aload_n C 3 dX1_most_23 rfl rfl ?_
    refine rg_get C fX1_75 9 rfl rfl dX1_most_24 ?_
    refine rg_iload_n C 4 dX1_most_27 rfl rfl ?_
    refine rg_iald C 17 rfl (by decide) (by omega) (by omega) dX1_most_28 ?_
    refine rg_iald C 3 rfl (by decide) (by omega) (by omega) dX1_most_29 ?_
    refine rg_i2l C ⟨by omega, by omega⟩ dX1_most_30 ?_
    refine rg_callS (As := [.long (lI (wn r.toNat)), .long (lI (roo (st r.toNat).toNat))]) (rest := []) (wr := [cO p0 1 [.ref p1, .ref p2, .ref p3], cI E p1 40 get, cJ E p2 32 flo, cI E p3 8 roo, cO v0 4 [.ref v1, .ref v2, .ref v3, .ref v4, .int (iI out)], cZ E v1 32 th, cI E v2 32 be, cI E v3 32 inf, cJ E v4 32 snt, cO g0 3 [.ref g1, .ref g2, .ref g3, .ref g4, .ref g5, .ref g6, .ref g7, .ref g8, .ref g9, .int (iI cn)], cZ E g1 40 g, cI E g2 40 pl, cI E g3 40 pr, cI E g4 40 ra, cI E g5 40 wn, cI E g6 40 sh, cI E g7 40 rt, cI E g8 40 st, cI E g9 40 ag]) (w' := fun _ => [cO p0 1 [.ref p1, .ref p2, .ref p3], cI E p1 40 get, cJ E p2 32 flo, cI E p3 8 roo, cO v0 4 [.ref v1, .ref v2, .ref v3, .ref v4, .int (iI out)], cZ E v1 32 th, cI E v2 32 be, cI E v3 32 inf, cJ E v4 32 snt, cO g0 3 [.ref g1, .ref g2, .ref g3, .ref g4, .ref g5, .ref g6, .ref g7, .ref g8, .ref g9, .int (iI cn)], cZ E g1 40 g, cI E g2 40 pl, cI E g3 40 pr, cI E g4 40 ra, cI E g5 40 wn, cI E g6 40 sh, cI E g7 40 rt, cI E g8 40 st, cI E g9 40 ag]) C (kJM_min l E (wn r.toNat) (roo (st r.toNat).toNat) (by omega) (by omega)) (rcwS C mJM_min w_253 ⟨Nat.le_of_ble_eq_true rfl, Nat.le_of_ble_eq_true rfl⟩) [] [0, 1, 2, 3, 4, 5, 6, 7, 8, 9, 10, 11, 12, 13, 14, 15, 16, 17, 18] [0, 1, 2, 3, 4, 5, 6, 7, 8, 9, 10, 11, 12, 13, 14, 15, 16, 17, 18] rfl rfl (by decide) (by decide) (by decide) (fun _ => rfl) (by decide) rfl rfl (Nat.le_of_ble_eq_true rfl) dX1_most_31 ⟨Nat.le_of_ble_eq_true rfl, Nat.le_of_ble_eq_true rfl⟩ (fun _ => ?_)
    show rG p l e rX1_most s m args below meth c E A 9 0 0 Q [cO p0 1 [.ref p1, .ref p2, .ref p3], cI E p1 40 get, cJ E p2 32 flo, cI E p3 8 roo, cO v0 4 [.ref v1, .ref v2, .ref v3, .ref v4, .int (iI out)], cZ E v1 32 th, cI E v2 32 be, cI E v3 32 inf, cJ E v4 32 snt, cO g0 3 [.ref g1, .ref g2, .ref g3, .ref g4, .ref g5, .ref g6, .ref g7, .ref g8, .ref g9, .int (iI cn)], cZ E g1 40 g, cI E g2 40 pl, cI E g3 40 pr, cI E g4 40 ra, cI E g5 40 wn, cI E g6 40 sh, cI E g7 40 rt, cI E g8 40 st, cI E g9 40 ag] 34 [(4, .long (lI (wn r.toNat))), (0, .ref p0), (1, .ref v0), (2, .ref g0), (3, .int (iI r))] [.long (lI (min (wn r.toNat) (roo (st r.toNat).toNat)))]
    refine rg_lstore (lv' := [(4, .long (lI (min (wn r.toNat) (roo (st r.toNat).toNat)))), (0, .ref p0), (1, .ref v0), (2, .ref g0), (3, .int (iI r))]) C dX1_most_34 (by decide) rfl ?_
    refine rg_iconst C dX1_most_36 ?_
    refine rg_istore (lv' := [(6, .int (iI 0)), (4, .long (lI (min (wn r.toNat) (roo (st r.toNat).toNat)))), (0, .ref p0), (1, .ref v0), (2, .ref g0), (3, .int (iI r))]) C dX1_most_37 (by decide) rfl ?_
    refine rg_aload_n C 4 dX1_most_39 rfl rfl ?_
    refine rg_get C fX1_84 9 rfl rfl dX1_most_40 ?_
    refine rg_iload_n C 5 dX1_most_43 rfl rfl ?_
    refine rg_iald C 11 rfl (by decide) (by omega) (by omega) dX1_most_44 ?_
    refine rg_istore (lv' := [(7, .int (iI (pl r.toNat))), (6, .int (iI 0)), (4, .long (lI (min (wn r.toNat) (roo (st r.toNat).toNat)))), (0, .ref p0), (1, .ref v0), (2, .ref g0), (3, .int (iI r))]) C dX1_most_45 (by decide) rfl ?_
    refine rg_iconst C dX1_most_47 ?_
    refine rg_istore (lv' := [(8, .int (iI 0)), (7, .int (iI (pl r.toNat))), (6, .int (iI 0)), (4, .long (lI (min (wn r.toNat) (roo (st r.toNat).toNat)))), (0, .ref p0), (1, .ref v0), (2, .ref g0), (3, .int (iI r))]) C dX1_most_48 (by decide) rfl ?_
    refine rG.plv [4, 5, 6, 7, 3, 2, 1, 0] rfl ?_
    exact L50 _ 0 (pl r.toNat) false (min (wn r.toNat) (roo (st r.toNat).toNat)) (by omega) hpl (fun q => by cases q) (min9 hwn (hroo _ (by omega)).1) (by rw [hM0, if_pos hs9]; rfl) (Nat.lt_succ_self _)
abbrev rX1_give : Room := { frames := 1, cells := 0, slots := 0, locals := 22 }
set_option maxHeartbeats 4000000 in
set_option maxRecDepth 100000 in
/-- Plan.give -/
theorem kX1_give (l : Launch) (E : rE) (p0 : Nat) (p1 : Nat) (p2 : Nat) (p3 : Nat) (get : Nat → Int) (flo : Nat → Int) (roo : Nat → Int) (v0 : Nat) (v1 : Nat) (v2 : Nat) (v3 : Nat) (v4 : Nat) (th : Nat → Int) (be : Nat → Int) (inf : Nat → Int) (snt : Nat → Int) (out : Int) (g0 : Nat) (g1 : Nat) (g2 : Nat) (g3 : Nat) (g4 : Nat) (g5 : Nat) (g6 : Nat) (g7 : Nat) (g8 : Nat) (g9 : Nat) (g : Nat → Int) (pl : Nat → Int) (pr : Nat → Int) (ra : Nat → Int) (wn : Nat → Int) (sh : Nat → Int) (rt : Nat → Int) (st : Nat → Int) (ag : Nat → Int) (cn : Int) (r : Int) (am : Int) (hbe : ∀ r : Nat, r < 32 → -1 ≤ be r ∧ be r < 32) (hst : ∀ i : Nat, i < 40 → -1 ≤ st i ∧ st i < 8) (hri : 0 ≤ r ∧ r < 40) (ham : 0 ≤ am ∧ am ≤ 1000000000) (hpl : -1 ≤ pl r.toNat ∧ pl r.toNat < 32) (hrt : -1 ≤ rt r.toNat ∧ rt r.toNat < 32) (hsh : 0 ≤ rt r.toNat → 0 ≤ sh r.toNat ∧ sh r.toNat ≤ 1000) : rM l yX1_give sX1_give rX1_give E [cO p0 1 [.ref p1, .ref p2, .ref p3], cI E p1 40 get, cJ E p2 32 flo, cI E p3 8 roo, cO v0 4 [.ref v1, .ref v2, .ref v3, .ref v4, .int (iI out)], cZ E v1 32 th, cI E v2 32 be, cI E v3 32 inf, cJ E v4 32 snt, cO g0 3 [.ref g1, .ref g2, .ref g3, .ref g4, .ref g5, .ref g6, .ref g7, .ref g8, .ref g9, .int (iI cn)], cZ E g1 40 g, cI E g2 40 pl, cI E g3 40 pr, cI E g4 40 ra, cI E g5 40 wn, cI E g6 40 sh, cI E g7 40 rt, cI E g8 40 st, cI E g9 40 ag] [.ref p0, .ref v0, .ref g0, .int (iI r), .int (iI am)] none (fun _ : Unit => [cO p0 1 [.ref p1, .ref p2, .ref p3], cI E p1 40 (uZ get r.toNat am), cJ E p2 32 (givW be (sh r.toNat) (rt r.toNat) am 32 (pl r.toNat) false flo), cI E p3 8 (if st r.toNat ≠ -1 then uZ roo (st r.toNat).toNat (roo (st r.toNat).toNat - am) else roo), cO v0 4 [.ref v1, .ref v2, .ref v3, .ref v4, .int (iI out)], cZ E v1 32 th, cI E v2 32 be, cI E v3 32 inf, cJ E v4 32 snt, cO g0 3 [.ref g1, .ref g2, .ref g3, .ref g4, .ref g5, .ref g6, .ref g7, .ref g8, .ref g9, .int (iI cn)], cZ E g1 40 g, cI E g2 40 pl, cI E g3 40 pr, cI E g4 40 ra, cI E g5 40 wn, cI E g6 40 sh, cI E g7 40 rt, cI E g8 40 st, cI E g9 40 ag]) := by
  refine rM.of (cc := cX1_give) (maxL := 8) (ret := none) (by decide) rfl (Nat.le_of_ble_eq_true rfl) (fun w h => List.mem_cons_of_mem _ h) ?_
  intro p e s m args below meth c A Q hA hQ C hr hlk hnm
  have C : rC p s m args c E A 8 cX1_give sX1_give RX1 := C
  have L46 : ∀ (n : Nat) (k : Int) (a : Int) (cb : Bool) (ro : Nat → Int) (f : Nat → Int), (0 ≤ k ∧ k ≤ 32) → (-1 ≤ a ∧ a < 32) → (cb = true → 0 ≤ rt r.toNat) → (ro = if st r.toNat ≠ -1 then uZ roo (st r.toNat).toNat (roo (st r.toNat).toNat - am) else roo) → (givW be (sh r.toNat) (rt r.toNat) am 32 (pl r.toNat) false flo = givW be (sh r.toNat) (rt r.toNat) am (32 - k).toNat a cb f) → ((32 - k).toNat < n) → rG p l e rX1_give s m args below meth c E A 8 0 0 Q [cO p0 1 [.ref p1, .ref p2, .ref p3], cI E p1 40 (uZ get r.toNat am), cJ E p2 32 f, cI E p3 8 ro, cO v0 4 [.ref v1, .ref v2, .ref v3, .ref v4, .int (iI out)], cZ E v1 32 th, cI E v2 32 be, cI E v3 32 inf, cJ E v4 32 snt, cO g0 3 [.ref g1, .ref g2, .ref g3, .ref g4, .ref g5, .ref g6, .ref g7, .ref g8, .ref g9, .int (iI cn)], cZ E g1 40 g, cI E g2 40 pl, cI E g3 40 pr, cI E g4 40 ra, cI E g5 40 wn, cI E g6 40 sh, cI E g7 40 rt, cI E g8 40 st, cI E g9 40 ag] 46 [(0, .ref p0), (1, .ref v0), (2, .ref g0), (3, .int (iI r)), (4, .int (iI am)), (5, .int (iI (bZ cb))), (6, .int (iI a)), (7, .int (iI k))] [] := by
    intro n
    induction n with
    | zero => intro k a cb ro f h1 h2 h4 hro h3 hm; exact absurd hm (Nat.not_lt_zero _)
    | succ n ih =>
      intro k a cb ro f h1 h2 h4 hro h3 hm
      refine rg_iload C 7 dX1_give_46 rfl ?_
      refine rg_bipush (z := 32) C dX1_give_48 (by decide) ?_
      refine rg_icmp_ge (tgt := 125) C ⟨by omega, by omega⟩ ⟨by decide, by decide⟩ dX1_give_50 (by decide) (fun h_50 => ?_) (fun h_50 => ?_)
      · have e9 := h3.trans (givW_end (by omega))
        exact rg_vret C hA hQ hr hlk () (by rw [e9, hro]) rfl dX1_give_125
      · refine rg_iload C 6 dX1_give_53 rfl ?_
        refine rg_iconst C dX1_give_55 ?_
        refine rg_icmp_eq (tgt := 125) C ⟨by omega, by omega⟩ ⟨by decide, by decide⟩ dX1_give_56 (by decide) (fun h_56 => ?_) (fun h_56 => ?_)
        · have e9 := h3.trans (givW_end (by omega))
          exact rg_vret C hA hQ hr hlk () (by rw [e9, hro]) rfl dX1_give_125
        · have hb9 := hbe a.toNat (by omega)
          refine rg_iload C 5 dX1_give_59 rfl ?_
          refine rg_if_ne (tgt := 75) C (bZ_in _) dX1_give_61 (by decide) (fun h_61 => ?_) (fun h_61 => ?_)
          · refine rg_iconst C dX1_give_75 ?_
            refine rg_goto (tgt := 80) C dX1_give_76 (by decide) ?_
            refine rg_istore (lv' := [(5, .int (iI 1)), (0, .ref p0), (1, .ref v0), (2, .ref g0), (3, .int (iI r)), (4, .int (iI am)), (6, .int (iI a)), (7, .int (iI k))]) C dX1_give_80 (by decide) rfl ?_
            refine rg_aload_n C 1 dX1_give_82 rfl rfl ?_
            refine rg_get C fX1_15 0 rfl rfl dX1_give_83 ?_
            refine rg_iload C 6 dX1_give_86 rfl ?_
            refine rg_dup2 C dX1_give_88 rfl rfl ?_
            refine rg_lald C 2 rfl (by decide) (by omega) (by omega) dX1_give_89 ?_
            refine rg_iload C 0 dX1_give_90 rfl ?_
            refine rg_if_eq (tgt := 105) C ⟨by decide, by decide⟩ dX1_give_92 (by decide) (fun h_92 => absurd h_92 (by omega)) (fun h_92 => ?_)
            have h9 : 0 ≤ rt r.toNat := by first | exact h4 (bZ_T h_61) | omega
            have hc9 : cb = true ∨ a = rt r.toNat := by first | exact Or.inl (bZ_T h_61) | exact Or.inr (by omega)
            have hs7 := hsh h9
            refine rg_aload_n C 3 dX1_give_95 rfl rfl ?_
            refine rg_iload_n C 4 dX1_give_96 rfl rfl ?_
            refine rg_iload C 5 dX1_give_97 rfl ?_
            refine rg_callV (As := [.int (iI r), .int (iI am)]) (rest := [.long (lI (f a.toNat)), .int (iI a), .ref p2]) (wr := [cO p0 1 [.ref p1, .ref p2, .ref p3], cI E p1 40 (uZ get r.toNat am), cJ E p2 32 f, cI E p3 8 ro, cO v0 4 [.ref v1, .ref v2, .ref v3, .ref v4, .int (iI out)], cZ E v1 32 th, cI E v2 32 be, cI E v3 32 inf, cJ E v4 32 snt]) (w' := fun _ => [cO p0 1 [.ref p1, .ref p2, .ref p3], cI E p1 40 (uZ get r.toNat am), cJ E p2 32 f, cI E p3 8 ro, cO v0 4 [.ref v1, .ref v2, .ref v3, .ref v4, .int (iI out)], cZ E v1 32 th, cI E v2 32 be, cI E v3 32 inf, cJ E v4 32 snt, cO g0 3 [.ref g1, .ref g2, .ref g3, .ref g4, .ref g5, .ref g6, .ref g7, .ref g8, .ref g9, .int (iI cn)], cZ E g1 40 g, cI E g2 40 pl, cI E g3 40 pr, cI E g4 40 ra, cI E g5 40 wn, cI E g6 40 sh, cI E g7 40 rt, cI E g8 40 st, cI E g9 40 ag]) C (kX3_usedOf l E g0 g1 g2 g3 g4 g5 g6 g7 g8 g9 g pl pr ra wn sh rt st ag cn r am (by first | assumption | omega) (by first | assumption | omega) (by first | assumption | omega)) (rcwV C mX3_usedOf w_266 ⟨Nat.le_of_ble_eq_true rfl, Nat.le_of_ble_eq_true rfl⟩) [9, 10, 11, 12, 13, 14, 15, 16, 17, 18] [0, 1, 2, 3, 4, 5, 6, 7, 8] [0, 1, 2, 3, 4, 5, 6, 7, 8, 9, 10, 11, 12, 13, 14, 15, 16, 17, 18] rfl rfl (by decide) (by decide) (by decide) (fun _ => rfl) (by decide) 0 rfl rfl rfl rfl (Nat.le_of_ble_eq_true rfl) dX1_give_99 ⟨Nat.le_of_ble_eq_true rfl, Nat.le_of_ble_eq_true rfl⟩ (fun _ => ?_)
            show rG p l e rX1_give s m args below meth c E A 8 0 0 Q [cO p0 1 [.ref p1, .ref p2, .ref p3], cI E p1 40 (uZ get r.toNat am), cJ E p2 32 f, cI E p3 8 ro, cO v0 4 [.ref v1, .ref v2, .ref v3, .ref v4, .int (iI out)], cZ E v1 32 th, cI E v2 32 be, cI E v3 32 inf, cJ E v4 32 snt, cO g0 3 [.ref g1, .ref g2, .ref g3, .ref g4, .ref g5, .ref g6, .ref g7, .ref g8, .ref g9, .int (iI cn)], cZ E g1 40 g, cI E g2 40 pl, cI E g3 40 pr, cI E g4 40 ra, cI E g5 40 wn, cI E g6 40 sh, cI E g7 40 rt, cI E g8 40 st, cI E g9 40 ag] 102 [(5, .int (iI 1)), (0, .ref p0), (1, .ref v0), (2, .ref g0), (3, .int (iI r)), (4, .int (iI am)), (6, .int (iI a)), (7, .int (iI k))] [.long (lI (am - am * sh r.toNat / 1000)), .long (lI (f a.toNat)), .int (iI a), .ref p2]
            refine rg_goto (tgt := 108) C dX1_give_102 (by decide) ?_
            refine rg_lsub C dX1_give_108 ?_
            refine rg_last (ws' := [cO p0 1 [.ref p1, .ref p2, .ref p3], cI E p1 40 (uZ get r.toNat am), cJ E p2 32 (uZ f a.toNat ((f a.toNat) - (am - am * sh r.toNat / 1000))), cI E p3 8 ro, cO v0 4 [.ref v1, .ref v2, .ref v3, .ref v4, .int (iI out)], cZ E v1 32 th, cI E v2 32 be, cI E v3 32 inf, cJ E v4 32 snt, cO g0 3 [.ref g1, .ref g2, .ref g3, .ref g4, .ref g5, .ref g6, .ref g7, .ref g8, .ref g9, .int (iI cn)], cZ E g1 40 g, cI E g2 40 pl, cI E g3 40 pr, cI E g4 40 ra, cI E g5 40 wn, cI E g6 40 sh, cI E g7 40 rt, cI E g8 40 st, cI E g9 40 ag]) C 2 rfl (by decide) (by omega) (by omega) dX1_give_109 rfl ?_
            refine rg_aload_n C 2 dX1_give_110 rfl rfl ?_
            refine rg_get C fX1_48 4 rfl rfl dX1_give_111 ?_
            refine rg_iload C 6 dX1_give_114 rfl ?_
            refine rg_iald C 6 rfl (by decide) (by omega) (by omega) dX1_give_116 ?_
            refine rg_istore (lv' := [(6, .int (iI (be a.toNat))), (5, .int (iI 1)), (0, .ref p0), (1, .ref v0), (2, .ref g0), (3, .int (iI r)), (4, .int (iI am)), (7, .int (iI k))]) C dX1_give_117 (by decide) rfl ?_
            refine rg_iinc (k := 7) (lv' := [(7, .int (iI (k + 1))), (6, .int (iI (be a.toNat))), (5, .int (iI 1)), (0, .ref p0), (1, .ref v0), (2, .ref g0), (3, .int (iI r)), (4, .int (iI am))]) C dX1_give_119 rfl (by decide) rfl ?_
            refine rg_goto (tgt := 46) C dX1_give_122 (by decide) ?_
            refine rG.plv [3, 4, 5, 6, 7, 2, 1, 0] rfl ?_
            exact ih (k + 1) (be a.toNat) true ro (uZ f a.toNat ((f a.toNat) - (am - am * sh r.toNat / 1000))) (by omega) hb9 (fun _ => h9) hro (h3.trans (givW_t h1.1 (by omega) (by omega) hc9)) (by omega)
          · refine rg_iload C 6 dX1_give_64 rfl ?_
            refine rg_aload_n C 2 dX1_give_66 rfl rfl ?_
            refine rg_get C fX1_87 9 rfl rfl dX1_give_67 ?_
            refine rg_iload_n C 3 dX1_give_70 rfl rfl ?_
            refine rg_iald C 16 rfl (by decide) (by omega) (by omega) dX1_give_71 ?_
            refine rg_icmp_ne (tgt := 79) C ⟨by omega, by omega⟩ ⟨by omega, by omega⟩ dX1_give_72 (by decide) (fun h_72 => ?_) (fun h_72 => ?_)
            · refine rg_iconst C dX1_give_79 ?_
              refine rg_istore (lv' := [(5, .int (iI 0)), (0, .ref p0), (1, .ref v0), (2, .ref g0), (3, .int (iI r)), (4, .int (iI am)), (6, .int (iI a)), (7, .int (iI k))]) C dX1_give_80 (by decide) rfl ?_
              refine rg_aload_n C 1 dX1_give_82 rfl rfl ?_
              refine rg_get C fX1_15 0 rfl rfl dX1_give_83 ?_
              refine rg_iload C 6 dX1_give_86 rfl ?_
              refine rg_dup2 C dX1_give_88 rfl rfl ?_
              refine rg_lald C 2 rfl (by decide) (by omega) (by omega) dX1_give_89 ?_
              refine rg_iload C 0 dX1_give_90 rfl ?_
              refine rg_if_eq (tgt := 105) C ⟨by decide, by decide⟩ dX1_give_92 (by decide) (fun h_92 => ?_) (fun h_92 => absurd h_92 (by omega))
              refine rg_iload C 5 dX1_give_105 rfl ?_
              refine rg_i2l C ⟨by omega, by omega⟩ dX1_give_107 ?_
              refine rg_lsub C dX1_give_108 ?_
              refine rg_last (ws' := [cO p0 1 [.ref p1, .ref p2, .ref p3], cI E p1 40 (uZ get r.toNat am), cJ E p2 32 (uZ f a.toNat ((f a.toNat) - am)), cI E p3 8 ro, cO v0 4 [.ref v1, .ref v2, .ref v3, .ref v4, .int (iI out)], cZ E v1 32 th, cI E v2 32 be, cI E v3 32 inf, cJ E v4 32 snt, cO g0 3 [.ref g1, .ref g2, .ref g3, .ref g4, .ref g5, .ref g6, .ref g7, .ref g8, .ref g9, .int (iI cn)], cZ E g1 40 g, cI E g2 40 pl, cI E g3 40 pr, cI E g4 40 ra, cI E g5 40 wn, cI E g6 40 sh, cI E g7 40 rt, cI E g8 40 st, cI E g9 40 ag]) C 2 rfl (by decide) (by omega) (by omega) dX1_give_109 rfl ?_
              refine rg_aload_n C 2 dX1_give_110 rfl rfl ?_
              refine rg_get C fX1_48 4 rfl rfl dX1_give_111 ?_
              refine rg_iload C 6 dX1_give_114 rfl ?_
              refine rg_iald C 6 rfl (by decide) (by omega) (by omega) dX1_give_116 ?_
              refine rg_istore (lv' := [(6, .int (iI (be a.toNat))), (5, .int (iI 0)), (0, .ref p0), (1, .ref v0), (2, .ref g0), (3, .int (iI r)), (4, .int (iI am)), (7, .int (iI k))]) C dX1_give_117 (by decide) rfl ?_
              refine rg_iinc (k := 7) (lv' := [(7, .int (iI (k + 1))), (6, .int (iI (be a.toNat))), (5, .int (iI 0)), (0, .ref p0), (1, .ref v0), (2, .ref g0), (3, .int (iI r)), (4, .int (iI am))]) C dX1_give_119 rfl (by decide) rfl ?_
              refine rg_goto (tgt := 46) C dX1_give_122 (by decide) ?_
              refine rG.plv [3, 4, 5, 6, 7, 2, 1, 0] rfl ?_
              exact ih (k + 1) (be a.toNat) false ro (uZ f a.toNat ((f a.toNat) - am)) (by omega) hb9 (fun q => by cases q) hro (h3.trans (givW_f h1.1 (by omega) (by omega) (bZ_F h_61) h_72)) (by omega)
            · refine rg_iconst C dX1_give_75 ?_
              refine rg_goto (tgt := 80) C dX1_give_76 (by decide) ?_
              refine rg_istore (lv' := [(5, .int (iI 1)), (0, .ref p0), (1, .ref v0), (2, .ref g0), (3, .int (iI r)), (4, .int (iI am)), (6, .int (iI a)), (7, .int (iI k))]) C dX1_give_80 (by decide) rfl ?_
              refine rg_aload_n C 1 dX1_give_82 rfl rfl ?_
              refine rg_get C fX1_15 0 rfl rfl dX1_give_83 ?_
              refine rg_iload C 6 dX1_give_86 rfl ?_
              refine rg_dup2 C dX1_give_88 rfl rfl ?_
              refine rg_lald C 2 rfl (by decide) (by omega) (by omega) dX1_give_89 ?_
              refine rg_iload C 0 dX1_give_90 rfl ?_
              refine rg_if_eq (tgt := 105) C ⟨by decide, by decide⟩ dX1_give_92 (by decide) (fun h_92 => absurd h_92 (by omega)) (fun h_92 => ?_)
              have h9 : 0 ≤ rt r.toNat := by first | exact h4 (bZ_T h_61) | omega
              have hc9 : cb = true ∨ a = rt r.toNat := by first | exact Or.inl (bZ_T h_61) | exact Or.inr (by omega)
              have hs7 := hsh h9
              refine rg_aload_n C 3 dX1_give_95 rfl rfl ?_
              refine rg_iload_n C 4 dX1_give_96 rfl rfl ?_
              refine rg_iload C 5 dX1_give_97 rfl ?_
              refine rg_callV (As := [.int (iI r), .int (iI am)]) (rest := [.long (lI (f a.toNat)), .int (iI a), .ref p2]) (wr := [cO p0 1 [.ref p1, .ref p2, .ref p3], cI E p1 40 (uZ get r.toNat am), cJ E p2 32 f, cI E p3 8 ro, cO v0 4 [.ref v1, .ref v2, .ref v3, .ref v4, .int (iI out)], cZ E v1 32 th, cI E v2 32 be, cI E v3 32 inf, cJ E v4 32 snt]) (w' := fun _ => [cO p0 1 [.ref p1, .ref p2, .ref p3], cI E p1 40 (uZ get r.toNat am), cJ E p2 32 f, cI E p3 8 ro, cO v0 4 [.ref v1, .ref v2, .ref v3, .ref v4, .int (iI out)], cZ E v1 32 th, cI E v2 32 be, cI E v3 32 inf, cJ E v4 32 snt, cO g0 3 [.ref g1, .ref g2, .ref g3, .ref g4, .ref g5, .ref g6, .ref g7, .ref g8, .ref g9, .int (iI cn)], cZ E g1 40 g, cI E g2 40 pl, cI E g3 40 pr, cI E g4 40 ra, cI E g5 40 wn, cI E g6 40 sh, cI E g7 40 rt, cI E g8 40 st, cI E g9 40 ag]) C (kX3_usedOf l E g0 g1 g2 g3 g4 g5 g6 g7 g8 g9 g pl pr ra wn sh rt st ag cn r am (by first | assumption | omega) (by first | assumption | omega) (by first | assumption | omega)) (rcwV C mX3_usedOf w_266 ⟨Nat.le_of_ble_eq_true rfl, Nat.le_of_ble_eq_true rfl⟩) [9, 10, 11, 12, 13, 14, 15, 16, 17, 18] [0, 1, 2, 3, 4, 5, 6, 7, 8] [0, 1, 2, 3, 4, 5, 6, 7, 8, 9, 10, 11, 12, 13, 14, 15, 16, 17, 18] rfl rfl (by decide) (by decide) (by decide) (fun _ => rfl) (by decide) 0 rfl rfl rfl rfl (Nat.le_of_ble_eq_true rfl) dX1_give_99 ⟨Nat.le_of_ble_eq_true rfl, Nat.le_of_ble_eq_true rfl⟩ (fun _ => ?_)
              show rG p l e rX1_give s m args below meth c E A 8 0 0 Q [cO p0 1 [.ref p1, .ref p2, .ref p3], cI E p1 40 (uZ get r.toNat am), cJ E p2 32 f, cI E p3 8 ro, cO v0 4 [.ref v1, .ref v2, .ref v3, .ref v4, .int (iI out)], cZ E v1 32 th, cI E v2 32 be, cI E v3 32 inf, cJ E v4 32 snt, cO g0 3 [.ref g1, .ref g2, .ref g3, .ref g4, .ref g5, .ref g6, .ref g7, .ref g8, .ref g9, .int (iI cn)], cZ E g1 40 g, cI E g2 40 pl, cI E g3 40 pr, cI E g4 40 ra, cI E g5 40 wn, cI E g6 40 sh, cI E g7 40 rt, cI E g8 40 st, cI E g9 40 ag] 102 [(5, .int (iI 1)), (0, .ref p0), (1, .ref v0), (2, .ref g0), (3, .int (iI r)), (4, .int (iI am)), (6, .int (iI a)), (7, .int (iI k))] [.long (lI (am - am * sh r.toNat / 1000)), .long (lI (f a.toNat)), .int (iI a), .ref p2]
              refine rg_goto (tgt := 108) C dX1_give_102 (by decide) ?_
              refine rg_lsub C dX1_give_108 ?_
              refine rg_last (ws' := [cO p0 1 [.ref p1, .ref p2, .ref p3], cI E p1 40 (uZ get r.toNat am), cJ E p2 32 (uZ f a.toNat ((f a.toNat) - (am - am * sh r.toNat / 1000))), cI E p3 8 ro, cO v0 4 [.ref v1, .ref v2, .ref v3, .ref v4, .int (iI out)], cZ E v1 32 th, cI E v2 32 be, cI E v3 32 inf, cJ E v4 32 snt, cO g0 3 [.ref g1, .ref g2, .ref g3, .ref g4, .ref g5, .ref g6, .ref g7, .ref g8, .ref g9, .int (iI cn)], cZ E g1 40 g, cI E g2 40 pl, cI E g3 40 pr, cI E g4 40 ra, cI E g5 40 wn, cI E g6 40 sh, cI E g7 40 rt, cI E g8 40 st, cI E g9 40 ag]) C 2 rfl (by decide) (by omega) (by omega) dX1_give_109 rfl ?_
              refine rg_aload_n C 2 dX1_give_110 rfl rfl ?_
              refine rg_get C fX1_48 4 rfl rfl dX1_give_111 ?_
              refine rg_iload C 6 dX1_give_114 rfl ?_
              refine rg_iald C 6 rfl (by decide) (by omega) (by omega) dX1_give_116 ?_
              refine rg_istore (lv' := [(6, .int (iI (be a.toNat))), (5, .int (iI 1)), (0, .ref p0), (1, .ref v0), (2, .ref g0), (3, .int (iI r)), (4, .int (iI am)), (7, .int (iI k))]) C dX1_give_117 (by decide) rfl ?_
              refine rg_iinc (k := 7) (lv' := [(7, .int (iI (k + 1))), (6, .int (iI (be a.toNat))), (5, .int (iI 1)), (0, .ref p0), (1, .ref v0), (2, .ref g0), (3, .int (iI r)), (4, .int (iI am))]) C dX1_give_119 rfl (by decide) rfl ?_
              refine rg_goto (tgt := 46) C dX1_give_122 (by decide) ?_
              refine rG.plv [3, 4, 5, 6, 7, 2, 1, 0] rfl ?_
              exact ih (k + 1) (be a.toNat) true ro (uZ f a.toNat ((f a.toNat) - (am - am * sh r.toNat / 1000))) (by omega) hb9 (fun _ => h9) hro (h3.trans (givW_t h1.1 (by omega) (by omega) hc9)) (by omega)
  show rG p l e rX1_give s m args below meth c E A 8 0 0 Q [cO p0 1 [.ref p1, .ref p2, .ref p3], cI E p1 40 get, cJ E p2 32 flo, cI E p3 8 roo, cO v0 4 [.ref v1, .ref v2, .ref v3, .ref v4, .int (iI out)], cZ E v1 32 th, cI E v2 32 be, cI E v3 32 inf, cJ E v4 32 snt, cO g0 3 [.ref g1, .ref g2, .ref g3, .ref g4, .ref g5, .ref g6, .ref g7, .ref g8, .ref g9, .int (iI cn)], cZ E g1 40 g, cI E g2 40 pl, cI E g3 40 pr, cI E g4 40 ra, cI E g5 40 wn, cI E g6 40 sh, cI E g7 40 rt, cI E g8 40 st, cI E g9 40 ag] 0 [(0, .ref p0), (1, .ref v0), (2, .ref g0), (3, .int (iI r)), (4, .int (iI am))] []
  refine rg_aload_n C 0 dX1_give_0 rfl rfl ?_
  refine rg_get C fX1_9 0 rfl rfl dX1_give_1 ?_
  refine rg_iload_n C 3 dX1_give_4 rfl rfl ?_
  refine rg_iload C 4 dX1_give_5 rfl ?_
  refine rg_iast (ws' := [cO p0 1 [.ref p1, .ref p2, .ref p3], cI E p1 40 (uZ get r.toNat am), cJ E p2 32 flo, cI E p3 8 roo, cO v0 4 [.ref v1, .ref v2, .ref v3, .ref v4, .int (iI out)], cZ E v1 32 th, cI E v2 32 be, cI E v3 32 inf, cJ E v4 32 snt, cO g0 3 [.ref g1, .ref g2, .ref g3, .ref g4, .ref g5, .ref g6, .ref g7, .ref g8, .ref g9, .int (iI cn)], cZ E g1 40 g, cI E g2 40 pl, cI E g3 40 pr, cI E g4 40 ra, cI E g5 40 wn, cI E g6 40 sh, cI E g7 40 rt, cI E g8 40 st, cI E g9 40 ag]) C 1 rfl (by decide) (by omega) (by omega) dX1_give_7 rfl ?_
  refine rg_aload_n C 2 dX1_give_8 rfl rfl ?_
  refine rg_iload_n C 3 dX1_give_9 rfl rfl ?_
  refine rg_callV (As := [.int (iI r)]) (rest := []) (wr := [cO p0 1 [.ref p1, .ref p2, .ref p3], cI E p1 40 (uZ get r.toNat am), cJ E p2 32 flo, cI E p3 8 roo, cO v0 4 [.ref v1, .ref v2, .ref v3, .ref v4, .int (iI out)], cZ E v1 32 th, cI E v2 32 be, cI E v3 32 inf, cJ E v4 32 snt]) (w' := fun _ => [cO p0 1 [.ref p1, .ref p2, .ref p3], cI E p1 40 (uZ get r.toNat am), cJ E p2 32 flo, cI E p3 8 roo, cO v0 4 [.ref v1, .ref v2, .ref v3, .ref v4, .int (iI out)], cZ E v1 32 th, cI E v2 32 be, cI E v3 32 inf, cJ E v4 32 snt, cO g0 3 [.ref g1, .ref g2, .ref g3, .ref g4, .ref g5, .ref g6, .ref g7, .ref g8, .ref g9, .int (iI cn)], cZ E g1 40 g, cI E g2 40 pl, cI E g3 40 pr, cI E g4 40 ra, cI E g5 40 wn, cI E g6 40 sh, cI E g7 40 rt, cI E g8 40 st, cI E g9 40 ag]) C (kX3_isStorage l E g0 g1 g2 g3 g4 g5 g6 g7 g8 g9 g pl pr ra wn sh rt st ag cn r (by first | assumption | omega) (fun i hi => ⟨by have := hst i hi; omega, by have := hst i hi; omega⟩)) (rcwV C mX3_isStorage w_249 ⟨Nat.le_of_ble_eq_true rfl, Nat.le_of_ble_eq_true rfl⟩) [9, 10, 11, 12, 13, 14, 15, 16, 17, 18] [0, 1, 2, 3, 4, 5, 6, 7, 8] [0, 1, 2, 3, 4, 5, 6, 7, 8, 9, 10, 11, 12, 13, 14, 15, 16, 17, 18] rfl rfl (by decide) (by decide) (by decide) (fun _ => rfl) (by decide) 0 rfl rfl rfl rfl (Nat.le_of_ble_eq_true rfl) dX1_give_10 ⟨Nat.le_of_ble_eq_true rfl, Nat.le_of_ble_eq_true rfl⟩ (fun _ => ?_)
  show rG p l e rX1_give s m args below meth c E A 8 0 0 Q [cO p0 1 [.ref p1, .ref p2, .ref p3], cI E p1 40 (uZ get r.toNat am), cJ E p2 32 flo, cI E p3 8 roo, cO v0 4 [.ref v1, .ref v2, .ref v3, .ref v4, .int (iI out)], cZ E v1 32 th, cI E v2 32 be, cI E v3 32 inf, cJ E v4 32 snt, cO g0 3 [.ref g1, .ref g2, .ref g3, .ref g4, .ref g5, .ref g6, .ref g7, .ref g8, .ref g9, .int (iI cn)], cZ E g1 40 g, cI E g2 40 pl, cI E g3 40 pr, cI E g4 40 ra, cI E g5 40 wn, cI E g6 40 sh, cI E g7 40 rt, cI E g8 40 st, cI E g9 40 ag] 13 [(0, .ref p0), (1, .ref v0), (2, .ref g0), (3, .int (iI r)), (4, .int (iI am))] [.int (iI (bZ (decide (st r.toNat ≠ -1))))]
  refine rg_if_eq (tgt := 32) C (bZ_in _) dX1_give_13 (by decide) (fun h_13 => ?_) (fun h_13 => ?_)
  · refine rg_iconst C dX1_give_32 ?_
    refine rg_istore (lv' := [(5, .int (iI 0)), (0, .ref p0), (1, .ref v0), (2, .ref g0), (3, .int (iI r)), (4, .int (iI am))]) C dX1_give_33 (by decide) rfl ?_
    refine rg_aload_n C 3 dX1_give_35 rfl rfl ?_
    refine rg_get C fX1_84 9 rfl rfl dX1_give_36 ?_
    refine rg_iload_n C 4 dX1_give_39 rfl rfl ?_
    refine rg_iald C 11 rfl (by decide) (by omega) (by omega) dX1_give_40 ?_
    refine rg_istore (lv' := [(6, .int (iI (pl r.toNat))), (5, .int (iI 0)), (0, .ref p0), (1, .ref v0), (2, .ref g0), (3, .int (iI r)), (4, .int (iI am))]) C dX1_give_41 (by decide) rfl ?_
    refine rg_iconst C dX1_give_43 ?_
    refine rg_istore (lv' := [(7, .int (iI 0)), (6, .int (iI (pl r.toNat))), (5, .int (iI 0)), (0, .ref p0), (1, .ref v0), (2, .ref g0), (3, .int (iI r)), (4, .int (iI am))]) C dX1_give_44 (by decide) rfl ?_
    refine rG.plv [3, 4, 5, 6, 7, 2, 1, 0] rfl ?_
    exact L46 _ 0 (pl r.toNat) false roo flo (by omega) hpl (fun q => by cases q) (by rw [if_neg (dec0.mp h_13)]) rfl (Nat.lt_succ_self _)
  · have hs9 : st r.toNat ≠ -1 := Decidable.byContradiction fun q => h_13 (dec0.mpr q)
    have hs8 := hst r.toNat (by omega)
    refine rg_aload_n C 0 dX1_give_16 rfl rfl ?_
    refine rg_get C fX1_19 0 rfl rfl dX1_give_17 ?_
    refine rg_aload_n C 2 dX1_give_20 rfl rfl ?_
    refine rg_get C fX1_75 9 rfl rfl dX1_give_21 ?_
    refine rg_iload_n C 3 dX1_give_24 rfl rfl ?_
    refine rg_iald C 17 rfl (by decide) (by omega) (by omega) dX1_give_25 ?_
    refine rg_dup2 C dX1_give_26 rfl rfl ?_
    refine rg_iald C 3 rfl (by decide) (by omega) (by omega) dX1_give_27 ?_
    refine rg_iload C 4 dX1_give_28 rfl ?_
    refine rg_isub C dX1_give_30 ?_
    refine rg_iast (ws' := [cO p0 1 [.ref p1, .ref p2, .ref p3], cI E p1 40 (uZ get r.toNat am), cJ E p2 32 flo, cI E p3 8 (uZ roo (st r.toNat).toNat ((roo (st r.toNat).toNat) - am)), cO v0 4 [.ref v1, .ref v2, .ref v3, .ref v4, .int (iI out)], cZ E v1 32 th, cI E v2 32 be, cI E v3 32 inf, cJ E v4 32 snt, cO g0 3 [.ref g1, .ref g2, .ref g3, .ref g4, .ref g5, .ref g6, .ref g7, .ref g8, .ref g9, .int (iI cn)], cZ E g1 40 g, cI E g2 40 pl, cI E g3 40 pr, cI E g4 40 ra, cI E g5 40 wn, cI E g6 40 sh, cI E g7 40 rt, cI E g8 40 st, cI E g9 40 ag]) C 3 rfl (by decide) (by omega) (by omega) dX1_give_31 rfl ?_
    refine rg_iconst C dX1_give_32 ?_
    refine rg_istore (lv' := [(5, .int (iI 0)), (0, .ref p0), (1, .ref v0), (2, .ref g0), (3, .int (iI r)), (4, .int (iI am))]) C dX1_give_33 (by decide) rfl ?_
    refine rg_aload_n C 3 dX1_give_35 rfl rfl ?_
    refine rg_get C fX1_84 9 rfl rfl dX1_give_36 ?_
    refine rg_iload_n C 4 dX1_give_39 rfl rfl ?_
    refine rg_iald C 11 rfl (by decide) (by omega) (by omega) dX1_give_40 ?_
    refine rg_istore (lv' := [(6, .int (iI (pl r.toNat))), (5, .int (iI 0)), (0, .ref p0), (1, .ref v0), (2, .ref g0), (3, .int (iI r)), (4, .int (iI am))]) C dX1_give_41 (by decide) rfl ?_
    refine rg_iconst C dX1_give_43 ?_
    refine rg_istore (lv' := [(7, .int (iI 0)), (6, .int (iI (pl r.toNat))), (5, .int (iI 0)), (0, .ref p0), (1, .ref v0), (2, .ref g0), (3, .int (iI r)), (4, .int (iI am))]) C dX1_give_44 (by decide) rfl ?_
    refine rG.plv [3, 4, 5, 6, 7, 2, 1, 0] rfl ?_
    exact L46 _ 0 (pl r.toNat) false (uZ roo (st r.toNat).toNat ((roo (st r.toNat).toNat) - am)) flo (by omega) hpl (fun q => by cases q) (by rw [if_pos hs9]) rfl (Nat.lt_succ_self _)
end
section
section RV6
variable {p : Program} {l : Launch} {e : Env} {R : Room} {s : State} {m : MethodId} {args : Array Value} {below : List Frame} {meth : Method} {c : Code} {E : rE} {A : Nat → Prop} {nL cells slots : Nat} {Q : State → Prop} {ws : va_W} {pc : Nat} {lv : List (Nat × Value)} {st : List Value}
theorem rG.topi {v : Int} (kk : ∀ z : Int, z = v → rG p l e R s m args below meth c E A nL cells slots Q ws pc lv (.int (iI z) :: st)) : rG p l e R s m args below meth c E A nL cells slots Q ws pc lv (.int (iI v) :: st) := kk v rfl
theorem rG.topl {v : Int} (kk : ∀ z : Int, z = v → rG p l e R s m args below meth c E A nL cells slots Q ws pc lv (.long (lI z) :: st)) : rG p l e R s m args below meth c E A nL cells slots Q ws pc lv (.long (lI v) :: st) := kk v rfl
end RV6
/-- walking down with the flag is the path's own minimum -/
theorem mosW_eq {d : Nat → Int} {sh rt : Int} {f : Nat → Int} : ∀ {n : Nat} {a : Int} {cb : Bool} {m : Int}, n ≤ 32 → cbOk d n rt a cb → mosW d sh rt f n a cb m = minP (bnd d sh rt f) m (pth d n a)
  | 0, _, _, _, _, _ => rfl
  | n + 1, a, cb, m, hn, h => by
    by_cases ha : a < 0
    · rw [pth_neg ha]
      exact if_pos ha
    · obtain ⟨h1, h2⟩ := cb_here (by omega) h (by omega)
      rw [pth_pos (by omega)]
      show (if a < 0 then m else mosW d sh rt f n (d a.toNat) (cb || decide (a = rt)) (min m (if (cb || decide (a = rt)) = true then mfu sh (f a.toNat) else f a.toNat))) = minP (bnd d sh rt f) (min m (bnd d sh rt f a.toNat)) (pth d n (d a.toNat))
      rw [if_neg ha, mosW_eq (by omega) h2]
      have e : (if (cb || decide (a = rt)) = true then mfu sh (f a.toNat) else f a.toNat) = bnd d sh rt f a.toNat := by
        unfold bnd mfu
        by_cases q : (cb || decide (a = rt)) = true
        · rw [if_pos q, if_pos (h1.mp q)]
        · rw [if_neg q, if_neg (fun z => q (h1.mpr z))]
      rw [e]
theorem givW_eq {d : Nat → Int} {sh rt am : Int} : ∀ {n : Nat} {a : Int} {cb : Bool} {f : Nat → Int}, n ≤ 32 → cbOk d n rt a cb → ∀ q : Nat, givW d sh rt am n a cb f q = f q - (if q ∈ pth d n a then (if q ∈ pth d 32 rt then am - am * sh / 1000 else am) else 0)
  | 0, _, _, f, _, _, q => by
    show f q = f q - _
    rw [if_neg (by intro h; cases h)]; omega
  | n + 1, a, cb, f, hn, h, q => by
    by_cases ha : a < 0
    · rw [pth_neg ha, if_neg (by intro h; cases h)]
      show (if a < 0 then f else _) q = f q - 0
      rw [if_pos ha]; omega
    · obtain ⟨h1, h2⟩ := cb_here (by omega) h (by omega)
      have hno : a.toNat ∉ pth d n (d a.toNat) := by
        have hE := h2.1
        have := pth_notail h.1 (by omega)
        rw [pth_fuel hE (Nat.le_succ n)] at this
        exact this
      have e : (if (cb || decide (a = rt)) = true then am - am * sh / 1000 else am) = (if a.toNat ∈ pth d 32 rt then am - am * sh / 1000 else am) := by
        by_cases z : (cb || decide (a = rt)) = true
        · rw [if_pos z, if_pos (h1.mp z)]
        · rw [if_neg z, if_neg (fun y => z (h1.mpr y))]
      rw [pth_pos (by omega)]
      show (if a < 0 then f else givW d sh rt am n (d a.toNat) (cb || decide (a = rt)) (uZ f a.toNat (f a.toNat - (if (cb || decide (a = rt)) = true then am - am * sh / 1000 else am)))) q = _
      rw [if_neg ha, givW_eq (by omega) h2 q, e]
      by_cases hq : q = a.toNat
      · subst hq
        rw [uZ_s, if_neg hno, if_pos List.mem_cons_self]; omega
      · rw [uZ_n _ _ hq]
        by_cases hm : q ∈ pth d n (d a.toNat)
        · rw [if_pos hm, if_pos (List.mem_cons_of_mem _ hm)]
        · rw [if_neg hm, if_neg (fun z => (List.mem_cons.mp z).elim hq hm)]
/-- a right as it may be: its path ends, its return reach is on it -/
def rOk (be pl sh rt st wn : Nat → Int) (i : Nat) : Prop := pEnd be 32 (pl i) ∧ (0 ≤ pl i ∧ pl i < 32) ∧ (-1 ≤ rt i ∧ rt i < 32) ∧ (0 ≤ rt i → (0 ≤ sh i ∧ sh i ≤ 1000) ∧ (rt i).toNat ∈ pth be 32 (pl i)) ∧ (0 ≤ wn i ∧ wn i ≤ 1000000000) ∧ (-1 ≤ st i ∧ st i < 8)
theorem rOk.cb {be pl sh rt st wn : Nat → Int} {i : Nat} (h : rOk be pl sh rt st wn i) : cbOk be 32 (rt i) (pl i) false := by
  refine ⟨h.1, fun q => (by cases q), fun _ => ?_⟩
  by_cases q : rt i < 0
  · exact Or.inl q
  · exact Or.inr (h.2.2.2.1 (by omega)).2
/-- flows and rooms as they may be -/
def plOk (flo roo : Nat → Int) : Prop := (∀ q : Nat, q < 32 → 0 ≤ flo q ∧ flo q ≤ 1000000000000) ∧ ∀ q : Nat, q < 8 → 0 ≤ roo q ∧ roo q ≤ 1000000000
/-- what right i gets -/
def amW (be pl sh rt st wn flo roo : Nat → Int) (i : Nat) : Int := mosW be (sh i) (rt i) flo 32 (pl i) false (if st i ≠ -1 then min (wn i) (roo (st i).toNat) else wn i)
theorem amW_eq {be pl sh rt st wn flo roo : Nat → Int} {i : Nat} (h : rOk be pl sh rt st wn i) : amW be pl sh rt st wn flo roo i = mostZ be (pl i) (sh i) (rt i) (st i) (wn i) (roo (st i).toNat) flo := by
  unfold amW mostZ mos0
  rw [mosW_eq (Nat.le_refl 32) h.cb]
  have h6 := h.2.2.2.2.2
  by_cases q : st i < 0
  · rw [if_neg (fun z => z (by omega)), if_pos q]
  · rw [if_pos (by omega), if_neg q]
/-- a path's reaches are reaches -/
theorem pth_lt {d : Nat → Int} (hd : ∀ r : Nat, r < 32 → -1 ≤ d r ∧ d r < 32) : ∀ {n : Nat} {a : Int} {q : Nat}, a < 32 → q ∈ pth d n a → q < 32
  | 0, _, _, _, h => by cases h
  | n + 1, a, q, ha, h => by
    by_cases h0 : a < 0
    · rw [pth_neg h0] at h; cases h
    · rw [pth_pos (by omega)] at h
      rcases List.mem_cons.mp h with h | h
      · omega
      · exact pth_lt hd (hd a.toNat (by omega)).2 h
theorem give_took {be pl sh rt st wn flo : Nat → Int} {i : Nat} {am : Int} (h : rOk be pl sh rt st wn i) (q : Nat) : givW be (sh i) (rt i) am 32 (pl i) false flo q = flo q - took be (pl i) (sh i) (rt i) am q := givW_eq (Nat.le_refl 32) h.cb q
theorem step_ok {be pl sh rt st wn flo roo : Nat → Int} {i : Nat} (hd : ∀ r : Nat, r < 32 → -1 ≤ be r ∧ be r < 32) (h : rOk be pl sh rt st wn i) (hp : plOk flo roo) (am : Int) (ha0 : 0 ≤ am) (ha : am ≤ amW be pl sh rt st wn flo roo i) : plOk (givW be (sh i) (rt i) am 32 (pl i) false flo) (if st i ≠ -1 then uZ roo (st i).toNat (roo (st i).toNat - am) else roo) := by
  obtain ⟨h1, h2, h3, h4, h5, h6⟩ := id h
  have hsh : 0 ≤ rt i → 0 ≤ sh i ∧ sh i ≤ 1000 := fun q => (h4 q).1
  rw [amW_eq h] at ha
  have hle : am ≤ wn i := Int.le_trans ha (Int.le_trans minP_le (by unfold mos0; split <;> omega))
  have hm := (le_most (st := st i) (ro := roo (st i).toNat) (f := flo) hsh hle h5.2 (fun r hr => (hp.1 r (pth_lt hd h2.2 hr)).1)).mp ha
  refine ⟨fun q hq => ?_, fun q hq => ?_⟩
  · rw [give_took h]
    have ht := took_nonneg (d := be) (pl := pl i) (sh := sh i) (rt := rt i) (r := q) hsh ha0
    have hf := hp.1 q hq
    by_cases hm2 : q ∈ pth be 32 (pl i)
    · have := hm.1 q hm2
      omega
    · have : took be (pl i) (sh i) (rt i) am q = 0 := if_neg hm2
      omega
  · have hf := hp.2 q hq
    by_cases hs : st i ≠ -1
    · rw [if_pos hs]
      by_cases e : q = (st i).toNat
      · subst e
        rw [uZ_s]
        have := hm.2 (by omega)
        omega
      · rw [uZ_n _ _ e]; exact hf
    · rw [if_neg hs]; exact hf
theorem amW_in {be pl sh rt st wn flo roo : Nat → Int} {i : Nat} (hd : ∀ r : Nat, r < 32 → -1 ≤ be r ∧ be r < 32) (h : rOk be pl sh rt st wn i) (hp : plOk flo roo) : 0 ≤ amW be pl sh rt st wn flo roo i ∧ amW be pl sh rt st wn flo roo i ≤ wn i := by
  obtain ⟨h1, h2, h3, h4, h5, h6⟩ := id h
  have hsh : 0 ≤ rt i → 0 ≤ sh i ∧ sh i ≤ 1000 := fun q => (h4 q).1
  rw [amW_eq h]
  refine ⟨(le_most (st := st i) (ro := roo (st i).toNat) (f := flo) hsh h5.1 h5.2 (fun r hr => (hp.1 r (pth_lt hd h2.2 hr)).1)).mpr ⟨fun r hr => ?_, fun hs => ?_⟩, Int.le_trans minP_le (by unfold mos0; split <;> omega)⟩
  · rw [took_0]; exact (hp.1 r (pth_lt hd h2.2 hr)).1
  · exact (hp.2 _ (by omega)).1
abbrev T3 : Type := (Nat → Int) × (Nat → Int) × (Nat → Int)
def gst (be pl sh rt st : Nat → Int) (i : Nat) (am : Int) (x : T3) : T3 := (uZ x.1 i am, givW be (sh i) (rt i) am 32 (pl i) false x.2.1, if st i ≠ -1 then uZ x.2.2 (st i).toNat (x.2.2 (st i).toNat - am) else x.2.2)
/-- giving to the first k rights by age, but to po -/
def gab (be pl sh rt st wn ag : Nat → Int) (po : Int) : Nat → T3 → T3
  | 0, x => x
  | k + 1, x => if ag k = po then gab be pl sh rt st wn ag po k x else gst be pl sh rt st (ag k).toNat (amW be pl sh rt st wn (gab be pl sh rt st wn ag po k x).2.1 (gab be pl sh rt st wn ag po k x).2.2 (ag k).toNat) (gab be pl sh rt st wn ag po k x)
theorem gab_no {be pl sh rt st wn ag : Nat → Int} {po k : Int} {x : T3} (hk : 0 ≤ k) (h : ag k.toNat = po) : gab be pl sh rt st wn ag po (k + 1).toNat x = gab be pl sh rt st wn ag po k.toNat x := by
  rw [show (k + 1).toNat = k.toNat + 1 by omega]
  exact if_pos h
theorem gab_on {be pl sh rt st wn ag : Nat → Int} {po k : Int} {x y : T3} (hk : 0 ≤ k) (h : ¬ ag k.toNat = po) (hy : y = gab be pl sh rt st wn ag po k.toNat x) : gab be pl sh rt st wn ag po (k + 1).toNat x = gst be pl sh rt st (ag k.toNat).toNat (amW be pl sh rt st wn y.2.1 y.2.2 (ag k.toNat).toNat) y := by
  rw [show (k + 1).toNat = k.toNat + 1 by omega, hy]
  exact if_neg h
end
section
abbrev rX1_giveAllBut : Room := { frames := 2, cells := 0, slots := 0, locals := 52 }
set_option maxHeartbeats 4000000 in
set_option maxRecDepth 100000 in
/-- Plan.giveAllBut -/
theorem kX1_giveAllBut (l : Launch) (E : rE) (p0 : Nat) (p1 : Nat) (p2 : Nat) (p3 : Nat) (get : Nat → Int) (flo : Nat → Int) (roo : Nat → Int) (v0 : Nat) (v1 : Nat) (v2 : Nat) (v3 : Nat) (v4 : Nat) (th : Nat → Int) (be : Nat → Int) (inf : Nat → Int) (snt : Nat → Int) (out : Int) (g0 : Nat) (g1 : Nat) (g2 : Nat) (g3 : Nat) (g4 : Nat) (g5 : Nat) (g6 : Nat) (g7 : Nat) (g8 : Nat) (g9 : Nat) (g : Nat → Int) (pl : Nat → Int) (pr : Nat → Int) (ra : Nat → Int) (wn : Nat → Int) (sh : Nat → Int) (rt : Nat → Int) (st : Nat → Int) (ag : Nat → Int) (cn : Int) (po : Int) (hbe : ∀ r : Nat, r < 32 → -1 ≤ be r ∧ be r < 32) (hst : ∀ i : Nat, i < 40 → -1 ≤ st i ∧ st i < 8) (hag : ∀ j : Nat, (j : Int) < cn → 0 ≤ ag j ∧ ag j < 40) (hcn : 0 ≤ cn ∧ cn ≤ 40) (hrok : ∀ j : Nat, (j : Int) < cn → rOk be pl sh rt st wn (ag j).toNat) (hplo : plOk flo roo) (hpo : inI po) : rM l yX1_giveAllBut sX1_giveAllBut rX1_giveAllBut E [cO p0 1 [.ref p1, .ref p2, .ref p3], cI E p1 40 get, cJ E p2 32 flo, cI E p3 8 roo, cO v0 4 [.ref v1, .ref v2, .ref v3, .ref v4, .int (iI out)], cZ E v1 32 th, cI E v2 32 be, cI E v3 32 inf, cJ E v4 32 snt, cO g0 3 [.ref g1, .ref g2, .ref g3, .ref g4, .ref g5, .ref g6, .ref g7, .ref g8, .ref g9, .int (iI cn)], cZ E g1 40 g, cI E g2 40 pl, cI E g3 40 pr, cI E g4 40 ra, cI E g5 40 wn, cI E g6 40 sh, cI E g7 40 rt, cI E g8 40 st, cI E g9 40 ag] [.ref p0, .ref v0, .ref g0, .int (iI po)] none (fun _ : Unit => [cO p0 1 [.ref p1, .ref p2, .ref p3], cI E p1 40 ((gab be pl sh rt st wn ag po cn.toNat (get, flo, roo)).1), cJ E p2 32 ((gab be pl sh rt st wn ag po cn.toNat (get, flo, roo)).2.1), cI E p3 8 ((gab be pl sh rt st wn ag po cn.toNat (get, flo, roo)).2.2), cO v0 4 [.ref v1, .ref v2, .ref v3, .ref v4, .int (iI out)], cZ E v1 32 th, cI E v2 32 be, cI E v3 32 inf, cJ E v4 32 snt, cO g0 3 [.ref g1, .ref g2, .ref g3, .ref g4, .ref g5, .ref g6, .ref g7, .ref g8, .ref g9, .int (iI cn)], cZ E g1 40 g, cI E g2 40 pl, cI E g3 40 pr, cI E g4 40 ra, cI E g5 40 wn, cI E g6 40 sh, cI E g7 40 rt, cI E g8 40 st, cI E g9 40 ag]) := by
  refine rM.of (cc := cX1_giveAllBut) (maxL := 6) (ret := none) (by decide) rfl (Nat.le_of_ble_eq_true rfl) (fun w h => List.mem_cons_of_mem _ h) ?_
  intro p e s m args below meth c A Q hA hQ C hr hlk hnm
  have C : rC p s m args c E A 6 cX1_giveAllBut sX1_giveAllBut RX1 := C
  have L3 : ∀ (n : Nat) (k : Int) (x : T3), (0 ≤ k ∧ k ≤ cn) → (plOk x.2.1 x.2.2) → (x = gab be pl sh rt st wn ag po k.toNat (get, flo, roo)) → ((cn - k).toNat < n) → rG p l e rX1_giveAllBut s m args below meth c E A 6 0 0 Q [cO p0 1 [.ref p1, .ref p2, .ref p3], cI E p1 40 x.1, cJ E p2 32 x.2.1, cI E p3 8 x.2.2, cO v0 4 [.ref v1, .ref v2, .ref v3, .ref v4, .int (iI out)], cZ E v1 32 th, cI E v2 32 be, cI E v3 32 inf, cJ E v4 32 snt, cO g0 3 [.ref g1, .ref g2, .ref g3, .ref g4, .ref g5, .ref g6, .ref g7, .ref g8, .ref g9, .int (iI cn)], cZ E g1 40 g, cI E g2 40 pl, cI E g3 40 pr, cI E g4 40 ra, cI E g5 40 wn, cI E g6 40 sh, cI E g7 40 rt, cI E g8 40 st, cI E g9 40 ag] 3 [(0, .ref p0), (1, .ref v0), (2, .ref g0), (3, .int (iI po)), (4, .int (iI k))] [] := by
    intro n
    induction n with
    | zero => intro k x h1 h5 h3 hm; exact absurd hm (Nat.not_lt_zero _)
    | succ n ih =>
      intro k x h1 h5 h3 hm
      refine rg_iload C 4 dX1_giveAllBut_3 rfl ?_
      refine rg_aload_n C 2 dX1_giveAllBut_5 rfl rfl ?_
      refine rg_get C fX1_51 9 rfl rfl dX1_giveAllBut_6 ?_
      refine rg_icmp_ge (tgt := 49) C ⟨by omega, by omega⟩ ⟨by omega, by omega⟩ dX1_giveAllBut_9 (by decide) (fun h_9 => ?_) (fun h_9 => ?_)
      · exact rg_vret C hA hQ hr hlk () (by rw [h3, show k.toNat = cn.toNat by omega]) rfl dX1_giveAllBut_49
      · have ha9 := hag k.toNat (by omega)
        have hR := hrok k.toNat (by omega)
        obtain ⟨r1, r2, r3, r4, r5, r6⟩ := id hR
        refine rg_aload_n C 2 dX1_giveAllBut_12 rfl rfl ?_
        refine rg_get C fX1_57 9 rfl rfl dX1_giveAllBut_13 ?_
        refine rg_iload C 4 dX1_giveAllBut_16 rfl ?_
        refine rg_iald C 18 rfl (by decide) (by omega) (by omega) dX1_giveAllBut_18 ?_
        refine rg_istore (lv' := [(5, .int (iI (ag k.toNat))), (0, .ref p0), (1, .ref v0), (2, .ref g0), (3, .int (iI po)), (4, .int (iI k))]) C dX1_giveAllBut_19 (by decide) rfl ?_
        refine rg_iload C 0 dX1_giveAllBut_21 rfl ?_
        refine rg_iload_n C 4 dX1_giveAllBut_23 rfl rfl ?_
        refine rg_icmp_eq (tgt := 43) C ⟨by omega, by omega⟩ hpo dX1_giveAllBut_24 (by decide) (fun h_24 => ?_) (fun h_24 => ?_)
        · refine rg_iinc (k := 5) (lv' := [(4, .int (iI (k + 1))), (5, .int (iI (ag k.toNat))), (0, .ref p0), (1, .ref v0), (2, .ref g0), (3, .int (iI po))]) C dX1_giveAllBut_43 rfl (by decide) rfl ?_
          refine rg_goto (tgt := 3) C dX1_giveAllBut_46 (by decide) ?_
          refine rG.plv [2, 3, 4, 5, 0] rfl ?_
          exact ih (k + 1) x (by omega) h5 (h3.trans (gab_no h1.1 h_24).symm) (by omega)
        · refine rg_aload_n C 1 dX1_giveAllBut_27 rfl rfl ?_
          refine rg_aload_n C 2 dX1_giveAllBut_28 rfl rfl ?_
          refine rg_aload_n C 3 dX1_giveAllBut_29 rfl rfl ?_
          refine rg_iload C 0 dX1_giveAllBut_30 rfl ?_
          refine rg_aload_n C 1 dX1_giveAllBut_32 rfl rfl ?_
          refine rg_aload_n C 2 dX1_giveAllBut_33 rfl rfl ?_
          refine rg_aload_n C 3 dX1_giveAllBut_34 rfl rfl ?_
          refine rg_iload C 0 dX1_giveAllBut_35 rfl ?_
          refine rg_callV (As := [.ref v0, .ref g0, .int (iI (ag k.toNat))]) (rest := [.int (iI (ag k.toNat)), .ref g0, .ref v0, .ref p0]) (wr := []) (w' := fun _ => [cO p0 1 [.ref p1, .ref p2, .ref p3], cI E p1 40 x.1, cJ E p2 32 x.2.1, cI E p3 8 x.2.2, cO v0 4 [.ref v1, .ref v2, .ref v3, .ref v4, .int (iI out)], cZ E v1 32 th, cI E v2 32 be, cI E v3 32 inf, cJ E v4 32 snt, cO g0 3 [.ref g1, .ref g2, .ref g3, .ref g4, .ref g5, .ref g6, .ref g7, .ref g8, .ref g9, .int (iI cn)], cZ E g1 40 g, cI E g2 40 pl, cI E g3 40 pr, cI E g4 40 ra, cI E g5 40 wn, cI E g6 40 sh, cI E g7 40 rt, cI E g8 40 st, cI E g9 40 ag]) C (kX1_most l E p0 p1 p2 p3 x.1 x.2.1 x.2.2 v0 v1 v2 v3 v4 th be inf snt out g0 g1 g2 g3 g4 g5 g6 g7 g8 g9 g pl pr ra wn sh rt st ag cn (ag k.toNat) (by first | assumption | omega) (by first | assumption | omega) h5.1 h5.2 (by first | assumption | omega) r5 (by omega) r3 (fun q => (r4 q).1)) (rcwV C mX1_most w_245 ⟨Nat.le_of_ble_eq_true rfl, Nat.le_of_ble_eq_true rfl⟩) [0, 1, 2, 3, 4, 5, 6, 7, 8, 9, 10, 11, 12, 13, 14, 15, 16, 17, 18] [] [0, 1, 2, 3, 4, 5, 6, 7, 8, 9, 10, 11, 12, 13, 14, 15, 16, 17, 18] rfl rfl (by decide) (by decide) (by decide) (fun _ => rfl) (by decide) 0 rfl rfl rfl rfl (Nat.le_of_ble_eq_true rfl) dX1_giveAllBut_37 ⟨Nat.le_of_ble_eq_true rfl, Nat.le_of_ble_eq_true rfl⟩ (fun _ => ?_)
          show rG p l e rX1_giveAllBut s m args below meth c E A 6 0 0 Q [cO p0 1 [.ref p1, .ref p2, .ref p3], cI E p1 40 x.1, cJ E p2 32 x.2.1, cI E p3 8 x.2.2, cO v0 4 [.ref v1, .ref v2, .ref v3, .ref v4, .int (iI out)], cZ E v1 32 th, cI E v2 32 be, cI E v3 32 inf, cJ E v4 32 snt, cO g0 3 [.ref g1, .ref g2, .ref g3, .ref g4, .ref g5, .ref g6, .ref g7, .ref g8, .ref g9, .int (iI cn)], cZ E g1 40 g, cI E g2 40 pl, cI E g3 40 pr, cI E g4 40 ra, cI E g5 40 wn, cI E g6 40 sh, cI E g7 40 rt, cI E g8 40 st, cI E g9 40 ag] 40 [(5, .int (iI (ag k.toNat))), (0, .ref p0), (1, .ref v0), (2, .ref g0), (3, .int (iI po)), (4, .int (iI k))] [.int (iI (mosW be (sh (ag k.toNat).toNat) (rt (ag k.toNat).toNat) x.2.1 32 (pl (ag k.toNat).toNat) false (if st (ag k.toNat).toNat ≠ -1 then min (wn (ag k.toNat).toNat) (x.2.2 (st (ag k.toNat).toNat).toNat) else wn (ag k.toNat).toNat))), .int (iI (ag k.toNat)), .ref g0, .ref v0, .ref p0]
          refine rG.topi (fun am ham => ?_)
          have ham9 : am = amW be pl sh rt st wn x.2.1 x.2.2 (ag k.toNat).toNat := ham
          have hA9 := amW_in hbe hR h5
          rw [← ham9] at hA9
          refine rg_callV (As := [.ref v0, .ref g0, .int (iI (ag k.toNat)), .int (iI am)]) (rest := []) (wr := []) (w' := fun _ => [cO p0 1 [.ref p1, .ref p2, .ref p3], cI E p1 40 (uZ x.1 (ag k.toNat).toNat am), cJ E p2 32 (givW be (sh (ag k.toNat).toNat) (rt (ag k.toNat).toNat) am 32 (pl (ag k.toNat).toNat) false x.2.1), cI E p3 8 (if st (ag k.toNat).toNat ≠ -1 then uZ x.2.2 (st (ag k.toNat).toNat).toNat (x.2.2 (st (ag k.toNat).toNat).toNat - am) else x.2.2), cO v0 4 [.ref v1, .ref v2, .ref v3, .ref v4, .int (iI out)], cZ E v1 32 th, cI E v2 32 be, cI E v3 32 inf, cJ E v4 32 snt, cO g0 3 [.ref g1, .ref g2, .ref g3, .ref g4, .ref g5, .ref g6, .ref g7, .ref g8, .ref g9, .int (iI cn)], cZ E g1 40 g, cI E g2 40 pl, cI E g3 40 pr, cI E g4 40 ra, cI E g5 40 wn, cI E g6 40 sh, cI E g7 40 rt, cI E g8 40 st, cI E g9 40 ag]) C (kX1_give l E p0 p1 p2 p3 x.1 x.2.1 x.2.2 v0 v1 v2 v3 v4 th be inf snt out g0 g1 g2 g3 g4 g5 g6 g7 g8 g9 g pl pr ra wn sh rt st ag cn (ag k.toNat) am (by first | assumption | omega) (by first | assumption | omega) (by first | assumption | omega) (by omega) (by omega) r3 (fun q => (r4 q).1)) (rcwV C mX1_give w_262 ⟨Nat.le_of_ble_eq_true rfl, Nat.le_of_ble_eq_true rfl⟩) [0, 1, 2, 3, 4, 5, 6, 7, 8, 9, 10, 11, 12, 13, 14, 15, 16, 17, 18] [] [0, 1, 2, 3, 4, 5, 6, 7, 8, 9, 10, 11, 12, 13, 14, 15, 16, 17, 18] rfl rfl (by decide) (by decide) (by decide) (fun _ => rfl) (by decide) 0 rfl rfl rfl rfl (Nat.le_of_ble_eq_true rfl) dX1_giveAllBut_40 ⟨Nat.le_of_ble_eq_true rfl, Nat.le_of_ble_eq_true rfl⟩ (fun _ => ?_)
          show rG p l e rX1_giveAllBut s m args below meth c E A 6 0 0 Q [cO p0 1 [.ref p1, .ref p2, .ref p3], cI E p1 40 (uZ x.1 (ag k.toNat).toNat am), cJ E p2 32 (givW be (sh (ag k.toNat).toNat) (rt (ag k.toNat).toNat) am 32 (pl (ag k.toNat).toNat) false x.2.1), cI E p3 8 (if st (ag k.toNat).toNat ≠ -1 then uZ x.2.2 (st (ag k.toNat).toNat).toNat (x.2.2 (st (ag k.toNat).toNat).toNat - am) else x.2.2), cO v0 4 [.ref v1, .ref v2, .ref v3, .ref v4, .int (iI out)], cZ E v1 32 th, cI E v2 32 be, cI E v3 32 inf, cJ E v4 32 snt, cO g0 3 [.ref g1, .ref g2, .ref g3, .ref g4, .ref g5, .ref g6, .ref g7, .ref g8, .ref g9, .int (iI cn)], cZ E g1 40 g, cI E g2 40 pl, cI E g3 40 pr, cI E g4 40 ra, cI E g5 40 wn, cI E g6 40 sh, cI E g7 40 rt, cI E g8 40 st, cI E g9 40 ag] 43 [(5, .int (iI (ag k.toNat))), (0, .ref p0), (1, .ref v0), (2, .ref g0), (3, .int (iI po)), (4, .int (iI k))] []
          refine rg_iinc (k := 5) (lv' := [(4, .int (iI (k + 1))), (5, .int (iI (ag k.toNat))), (0, .ref p0), (1, .ref v0), (2, .ref g0), (3, .int (iI po))]) C dX1_giveAllBut_43 rfl (by decide) rfl ?_
          refine rg_goto (tgt := 3) C dX1_giveAllBut_46 (by decide) ?_
          refine rG.plv [2, 3, 4, 5, 0] rfl ?_
          exact ih (k + 1) (gst be pl sh rt st (ag k.toNat).toNat am x) (by omega) (step_ok hbe hR h5 am hA9.1 (Int.le_of_eq ham)) (by rw [gab_on h1.1 h_24 h3, ← ham9]) (by omega)
  show rG p l e rX1_giveAllBut s m args below meth c E A 6 0 0 Q [cO p0 1 [.ref p1, .ref p2, .ref p3], cI E p1 40 get, cJ E p2 32 flo, cI E p3 8 roo, cO v0 4 [.ref v1, .ref v2, .ref v3, .ref v4, .int (iI out)], cZ E v1 32 th, cI E v2 32 be, cI E v3 32 inf, cJ E v4 32 snt, cO g0 3 [.ref g1, .ref g2, .ref g3, .ref g4, .ref g5, .ref g6, .ref g7, .ref g8, .ref g9, .int (iI cn)], cZ E g1 40 g, cI E g2 40 pl, cI E g3 40 pr, cI E g4 40 ra, cI E g5 40 wn, cI E g6 40 sh, cI E g7 40 rt, cI E g8 40 st, cI E g9 40 ag] 0 [(0, .ref p0), (1, .ref v0), (2, .ref g0), (3, .int (iI po))] []
  refine rg_iconst C dX1_giveAllBut_0 ?_
  refine rg_istore (lv' := [(4, .int (iI 0)), (0, .ref p0), (1, .ref v0), (2, .ref g0), (3, .int (iI po))]) C dX1_giveAllBut_1 (by decide) rfl ?_
  refine rG.plv [1, 2, 3, 4, 0] rfl ?_
  exact L3 _ 0 (get, flo, roo) (by omega) hplo rfl (Nat.lt_succ_self _)
end
section
theorem useS_no {st sh ag get : Nat → Int} {k : Int} (hk : 0 ≤ k) (h : bZ (decide (st (ag k.toNat).toNat ≠ -1)) = 0) : sumTo (useS st sh ag get) (k + 1).toNat = sumTo (useS st sh ag get) k.toNat + (get (ag k.toNat).toNat - get (ag k.toNat).toNat * sh (ag k.toNat).toNat / 1000) ∧ sumTo (stoS st ag get) (k + 1).toNat = sumTo (stoS st ag get) k.toNat := by
  have h1 := dec0.mp h
  rw [sumTo_s _ hk, sumTo_s _ hk]
  unfold useS stoS
  rw [if_neg h1, if_neg h1]
  exact ⟨rfl, by omega⟩
theorem useS_yes {st sh ag get : Nat → Int} {k : Int} (hk : 0 ≤ k) (h : ¬ bZ (decide (st (ag k.toNat).toNat ≠ -1)) = 0) : sumTo (useS st sh ag get) (k + 1).toNat = sumTo (useS st sh ag get) k.toNat ∧ sumTo (stoS st ag get) (k + 1).toNat = sumTo (stoS st ag get) k.toNat + get (ag k.toNat).toNat := by
  have h1 : st (ag k.toNat).toNat ≠ -1 := Decidable.byContradiction fun q => h (dec0.mpr q)
  rw [sumTo_s _ hk, sumTo_s _ hk]
  unfold useS stoS
  rw [if_pos h1, if_pos h1]
  exact ⟨by omega, rfl⟩
abbrev rX0_pageOf : Room := { frames := 1, cells := 0, slots := 0, locals := 22 }
set_option maxHeartbeats 4000000 in
set_option maxRecDepth 100000 in
/-- Books.pageOf -/
theorem kX0_pageOf (l : Launch) (E : rE) (d : Int) (hd0 : 0 ≤ d ∧ d ≤ 2147483647) : rM l yX0_pageOf sX0_pageOf rX0_pageOf E [] [.int (iI d)] (some (.int (iI (d % 60 * 5)))) (fun _ : Unit => []) := by
  refine rM.of (cc := cX0_pageOf) (maxL := 1) (ret := (some FieldType.int)) (by decide) rfl (Nat.le_of_ble_eq_true rfl) (fun w h => List.mem_cons_of_mem _ h) ?_
  intro p e s m args below meth c A Q hA hQ C hr hlk hnm
  have C : rC p s m args c E A 1 cX0_pageOf sX0_pageOf RX0 := C
  show rG p l e rX0_pageOf s m args below meth c E A 1 0 0 Q [] 0 [(0, .int (iI d))] []
  refine rg_iload_n C 0 dX0_pageOf_0 rfl rfl ?_
  refine rg_bipush (z := 60) C dX0_pageOf_1 (by decide) ?_
  refine rg_callS (As := [.int (iI d), .int (iI 60)]) (rest := []) (wr := []) (w' := fun _ => []) C (kJM_floorMod l E d 60 (by first | assumption | omega) (⟨by decide, by decide⟩)) (rcwS C mJM_floorMod w_287 ⟨Nat.le_of_ble_eq_true rfl, Nat.le_of_ble_eq_true rfl⟩) [] [] [] rfl rfl (by decide) (by decide) (by decide) (fun _ => rfl) (by decide) rfl rfl (Nat.le_of_ble_eq_true rfl) dX0_pageOf_3 ⟨Nat.le_of_ble_eq_true rfl, Nat.le_of_ble_eq_true rfl⟩ (fun _ => ?_)
  show rG p l e rX0_pageOf s m args below meth c E A 1 0 0 Q [] 6 [(0, .int (iI d))] [.int (iI (d % 60))]
  refine rg_iconst C dX0_pageOf_6 ?_
  refine rg_imul C dX0_pageOf_7 ?_
  exact rg_iret C hA hQ hr hlk () rfl rfl dX0_pageOf_8
abbrev rX0_read : Room := { frames := 2, cells := 0, slots := 0, locals := 42 }
set_option maxHeartbeats 4000000 in
set_option maxRecDepth 100000 in
/-- Books.read -/
theorem kX0_read (l : Launch) (E : rE) (b0 : Nat) (b1 : Nat) (ent : Nat → Int) (day : Int) (d : Int) (w : Int) (hday : 0 ≤ day ∧ day ≤ 1000000) (hd0 : inI d) (hw0 : inI w) : rM l yX0_read sX0_read rX0_read E [cO b0 0 [.ref b1, .int (iI day)], cJ E b1 300 ent] [.ref b0, .int (iI d), .int (iI w)] (some (.long (lI (if d < 0 ∨ day ≤ d ∨ d < day - 60 ∨ w < 0 ∨ 5 ≤ w then -1 else ent (d % 60 * 5 + w).toNat)))) (fun _ : Unit => [cO b0 0 [.ref b1, .int (iI day)], cJ E b1 300 ent]) := by
  refine rM.of (cc := cX0_read) (maxL := 3) (ret := (some FieldType.long)) (by decide) rfl (Nat.le_of_ble_eq_true rfl) (fun w h => List.mem_cons_of_mem _ h) ?_
  intro p e s m args below meth c A Q hA hQ C hr hlk hnm
  have C : rC p s m args c E A 3 cX0_read sX0_read RX0 := C
  show rG p l e rX0_read s m args below meth c E A 3 0 0 Q [cO b0 0 [.ref b1, .int (iI day)], cJ E b1 300 ent] 0 [(0, .ref b0), (1, .int (iI d)), (2, .int (iI w))] []
  refine rg_iload_n C 1 dX0_read_0 rfl rfl ?_
  refine rg_if_lt (tgt := 32) C ⟨by omega, by omega⟩ dX0_read_1 (by decide) (fun h_1 => ?_) (fun h_1 => ?_)
  · refine rg_ldc2 (v := (-1)) (z := (-1)) C (by decide +kernel) (by decide) dX0_read_32 ?_
    exact rg_lret C hA hQ hr hlk () rfl (by rw [if_pos (by omega)]) dX0_read_35
  · refine rg_iload_n C 1 dX0_read_4 rfl rfl ?_
    refine rg_aload_n C 0 dX0_read_5 rfl rfl ?_
    refine rg_get C fX0_44 0 rfl rfl dX0_read_6 ?_
    refine rg_icmp_ge (tgt := 32) C ⟨by omega, by omega⟩ ⟨by omega, by omega⟩ dX0_read_9 (by decide) (fun h_9 => ?_) (fun h_9 => ?_)
    · refine rg_ldc2 (v := (-1)) (z := (-1)) C (by decide +kernel) (by decide) dX0_read_32 ?_
      exact rg_lret C hA hQ hr hlk () rfl (by rw [if_pos (by omega)]) dX0_read_35
    · refine rg_iload_n C 1 dX0_read_12 rfl rfl ?_
      refine rg_aload_n C 0 dX0_read_13 rfl rfl ?_
      refine rg_get C fX0_44 0 rfl rfl dX0_read_14 ?_
      refine rg_bipush (z := 60) C dX0_read_17 (by decide) ?_
      refine rg_isub C dX0_read_19 ?_
      refine rg_icmp_lt (tgt := 32) C ⟨by omega, by omega⟩ ⟨by omega, by omega⟩ dX0_read_20 (by decide) (fun h_20 => ?_) (fun h_20 => ?_)
      · refine rg_ldc2 (v := (-1)) (z := (-1)) C (by decide +kernel) (by decide) dX0_read_32 ?_
        exact rg_lret C hA hQ hr hlk () rfl (by rw [if_pos (by omega)]) dX0_read_35
      · refine rg_iload_n C 2 dX0_read_23 rfl rfl ?_
        refine rg_if_lt (tgt := 32) C ⟨by omega, by omega⟩ dX0_read_24 (by decide) (fun h_24 => ?_) (fun h_24 => ?_)
        · refine rg_ldc2 (v := (-1)) (z := (-1)) C (by decide +kernel) (by decide) dX0_read_32 ?_
          exact rg_lret C hA hQ hr hlk () rfl (by rw [if_pos (by omega)]) dX0_read_35
        · refine rg_iload_n C 2 dX0_read_27 rfl rfl ?_
          refine rg_iconst C dX0_read_28 ?_
          refine rg_icmp_lt (tgt := 36) C ⟨by omega, by omega⟩ ⟨by decide, by decide⟩ dX0_read_29 (by decide) (fun h_29 => ?_) (fun h_29 => ?_)
          · refine rg_aload_n C 0 dX0_read_36 rfl rfl ?_
            refine rg_get C fX0_11 0 rfl rfl dX0_read_37 ?_
            refine rg_iload_n C 1 dX0_read_40 rfl rfl ?_
            refine rg_callS (As := [.int (iI d)]) (rest := [.ref b1]) (wr := [cO b0 0 [.ref b1, .int (iI day)], cJ E b1 300 ent]) (w' := fun _ => [cO b0 0 [.ref b1, .int (iI day)], cJ E b1 300 ent]) C (kX0_pageOf l E d (by first | assumption | omega)) (rcwS C mX0_pageOf w_284 ⟨Nat.le_of_ble_eq_true rfl, Nat.le_of_ble_eq_true rfl⟩) [] [0, 1] [0, 1] rfl rfl (by decide) (by decide) (by decide) (fun _ => rfl) (by decide) rfl rfl (Nat.le_of_ble_eq_true rfl) dX0_read_41 ⟨Nat.le_of_ble_eq_true rfl, Nat.le_of_ble_eq_true rfl⟩ (fun _ => ?_)
            show rG p l e rX0_read s m args below meth c E A 3 0 0 Q [cO b0 0 [.ref b1, .int (iI day)], cJ E b1 300 ent] 44 [(0, .ref b0), (1, .int (iI d)), (2, .int (iI w))] [.int (iI (d % 60 * 5)), .ref b1]
            refine rg_iload_n C 2 dX0_read_44 rfl rfl ?_
            refine rg_iadd C dX0_read_45 ?_
            refine rg_lald C 1 rfl (by decide) (by omega) (by omega) dX0_read_46 ?_
            exact rg_lret C hA hQ hr hlk () rfl (by rw [if_neg (by omega)]) dX0_read_47
          · refine rg_ldc2 (v := (-1)) (z := (-1)) C (by decide +kernel) (by decide) dX0_read_32 ?_
            exact rg_lret C hA hQ hr hlk () rfl (by rw [if_pos (by omega)]) dX0_read_35
abbrev rX0_write : Room := { frames := 2, cells := 0, slots := 0, locals := 42 }
set_option maxHeartbeats 4000000 in
set_option maxRecDepth 100000 in
/-- Books.write -/
theorem kX0_write (l : Launch) (E : rE) (b0 : Nat) (b1 : Nat) (ent : Nat → Int) (day : Int) (v0 : Nat) (v1 : Nat) (v2 : Nat) (v3 : Nat) (v4 : Nat) (th : Nat → Int) (be : Nat → Int) (inf : Nat → Int) (snt : Nat → Int) (out : Int) (w0 : Nat) (w1 : Nat) (w2 : Nat) (w3 : Nat) (w4 : Nat) (sth : Nat → Int) (srch : Nat → Int) (cap : Nat → Int) (wat : Nat → Int) (rel : Int) (g0 : Nat) (g1 : Nat) (g2 : Nat) (g3 : Nat) (g4 : Nat) (g5 : Nat) (g6 : Nat) (g7 : Nat) (g8 : Nat) (g9 : Nat) (g : Nat → Int) (pl : Nat → Int) (pr : Nat → Int) (ra : Nat → Int) (wn : Nat → Int) (sh : Nat → Int) (rt : Nat → Int) (st : Nat → Int) (ag : Nat → Int) (cn : Int) (p0 : Nat) (p1 : Nat) (p2 : Nat) (p3 : Nat) (get : Nat → Int) (flo : Nat → Int) (roo : Nat → Int) (hin : ∀ r : Nat, r < 32 → inI (inf r)) (hst : ∀ i : Nat, i < 40 → -1 ≤ st i ∧ st i < 8) (hag : ∀ j : Nat, (j : Int) < cn → 0 ≤ ag j ∧ ag j < 40) (hcn : 0 ≤ cn ∧ cn ≤ 40) (hget : ∀ j : Nat, (j : Int) < cn → 0 ≤ get (ag j).toNat ∧ get (ag j).toNat ≤ 1000000000) (hshd : ∀ j : Nat, (j : Int) < cn → st (ag j).toNat = -1 → 0 ≤ sh (ag j).toNat ∧ sh (ag j).toNat ≤ 1000) (hday : 0 ≤ day ∧ day ≤ 1000000) (hout : -1 ≤ out ∧ out < 32) : rM l yX0_write sX0_write rX0_write E [cO b0 0 [.ref b1, .int (iI day)], cJ E b1 300 ent, cO v0 4 [.ref v1, .ref v2, .ref v3, .ref v4, .int (iI out)], cZ E v1 32 th, cI E v2 32 be, cI E v3 32 inf, cJ E v4 32 snt, cO w0 2 [.ref w1, .ref w2, .ref w3, .ref w4, .long (lI rel)], cZ E w1 8 sth, cI E w2 8 srch, cI E w3 8 cap, cI E w4 8 wat, cO g0 3 [.ref g1, .ref g2, .ref g3, .ref g4, .ref g5, .ref g6, .ref g7, .ref g8, .ref g9, .int (iI cn)], cZ E g1 40 g, cI E g2 40 pl, cI E g3 40 pr, cI E g4 40 ra, cI E g5 40 wn, cI E g6 40 sh, cI E g7 40 rt, cI E g8 40 st, cI E g9 40 ag, cO p0 1 [.ref p1, .ref p2, .ref p3], cI E p1 40 get, cJ E p2 32 flo, cI E p3 8 roo] [.ref b0, .ref v0, .ref w0, .ref g0, .ref p0] none (fun _ : Unit => [cO b0 0 [.ref b1, .int (iI (day + 1))], cJ E b1 300 (uZ (uZ (uZ (uZ (uZ ent (day % 60 * 5 + 0).toNat (sumTo inf 32)) (day % 60 * 5 + 1).toNat (if out = -1 then 0 else flo out.toNat)) (day % 60 * 5 + 2).toNat (rel + sumTo (useS st sh ag get) cn.toNat)) (day % 60 * 5 + 3).toNat (sumTo (stoS st ag get) cn.toNat)) (day % 60 * 5 + 4).toNat rel), cO v0 4 [.ref v1, .ref v2, .ref v3, .ref v4, .int (iI out)], cZ E v1 32 th, cI E v2 32 be, cI E v3 32 inf, cJ E v4 32 snt, cO w0 2 [.ref w1, .ref w2, .ref w3, .ref w4, .long (lI rel)], cZ E w1 8 sth, cI E w2 8 srch, cI E w3 8 cap, cI E w4 8 wat, cO g0 3 [.ref g1, .ref g2, .ref g3, .ref g4, .ref g5, .ref g6, .ref g7, .ref g8, .ref g9, .int (iI cn)], cZ E g1 40 g, cI E g2 40 pl, cI E g3 40 pr, cI E g4 40 ra, cI E g5 40 wn, cI E g6 40 sh, cI E g7 40 rt, cI E g8 40 st, cI E g9 40 ag, cO p0 1 [.ref p1, .ref p2, .ref p3], cI E p1 40 get, cJ E p2 32 flo, cI E p3 8 roo]) := by
  refine rM.of (cc := cX0_write) (maxL := 11) (ret := none) (by decide) rfl (Nat.le_of_ble_eq_true rfl) (fun w h => List.mem_cons_of_mem _ h) ?_
  intro p e s m args below meth c A Q hA hQ C hr hlk hnm
  have C : rC p s m args c E A 11 cX0_write sX0_write RX0 := C
  have L12 : ∀ (n : Nat) (k : Int) (us : Int) (so : Int), (0 ≤ k ∧ k ≤ cn) → (us = rel + sumTo (useS st sh ag get) k.toNat) → (so = sumTo (stoS st ag get) k.toNat) → ((cn - k).toNat < n) → rG p l e rX0_write s m args below meth c E A 11 0 0 Q [cO b0 0 [.ref b1, .int (iI day)], cJ E b1 300 ent, cO v0 4 [.ref v1, .ref v2, .ref v3, .ref v4, .int (iI out)], cZ E v1 32 th, cI E v2 32 be, cI E v3 32 inf, cJ E v4 32 snt, cO w0 2 [.ref w1, .ref w2, .ref w3, .ref w4, .long (lI rel)], cZ E w1 8 sth, cI E w2 8 srch, cI E w3 8 cap, cI E w4 8 wat, cO g0 3 [.ref g1, .ref g2, .ref g3, .ref g4, .ref g5, .ref g6, .ref g7, .ref g8, .ref g9, .int (iI cn)], cZ E g1 40 g, cI E g2 40 pl, cI E g3 40 pr, cI E g4 40 ra, cI E g5 40 wn, cI E g6 40 sh, cI E g7 40 rt, cI E g8 40 st, cI E g9 40 ag, cO p0 1 [.ref p1, .ref p2, .ref p3], cI E p1 40 get, cJ E p2 32 flo, cI E p3 8 roo] 12 [(0, .ref b0), (1, .ref v0), (2, .ref w0), (3, .ref g0), (4, .ref p0), (5, .long (lI us)), (7, .long (lI so)), (9, .int (iI k))] [] := by
    intro n
    induction n with
    | zero => intro k us so h1 h3 h4 hm; exact absurd hm (Nat.not_lt_zero _)
    | succ n ih =>
      intro k us so h1 h3 h4 hm
      refine rg_iload C 7 dX0_write_12 rfl ?_
      refine rg_aload_n C 3 dX0_write_14 rfl rfl ?_
      refine rg_get C fX0_21 12 rfl rfl dX0_write_15 ?_
      refine rg_icmp_ge (tgt := 81) C ⟨by omega, by omega⟩ ⟨by omega, by omega⟩ dX0_write_18 (by decide) (fun h_18 => ?_) (fun h_18 => ?_)
      · refine rg_aload_n C 0 dX0_write_81 rfl rfl ?_
        refine rg_get C fX0_44 0 rfl rfl dX0_write_82 ?_
        refine rg_callS (As := [.int (iI day)]) (rest := []) (wr := [cO b0 0 [.ref b1, .int (iI day)], cJ E b1 300 ent, cO v0 4 [.ref v1, .ref v2, .ref v3, .ref v4, .int (iI out)], cZ E v1 32 th, cI E v2 32 be, cI E v3 32 inf, cJ E v4 32 snt, cO w0 2 [.ref w1, .ref w2, .ref w3, .ref w4, .long (lI rel)], cZ E w1 8 sth, cI E w2 8 srch, cI E w3 8 cap, cI E w4 8 wat, cO g0 3 [.ref g1, .ref g2, .ref g3, .ref g4, .ref g5, .ref g6, .ref g7, .ref g8, .ref g9, .int (iI cn)], cZ E g1 40 g, cI E g2 40 pl, cI E g3 40 pr, cI E g4 40 ra, cI E g5 40 wn, cI E g6 40 sh, cI E g7 40 rt, cI E g8 40 st, cI E g9 40 ag, cO p0 1 [.ref p1, .ref p2, .ref p3], cI E p1 40 get, cJ E p2 32 flo, cI E p3 8 roo]) (w' := fun _ => [cO b0 0 [.ref b1, .int (iI day)], cJ E b1 300 ent, cO v0 4 [.ref v1, .ref v2, .ref v3, .ref v4, .int (iI out)], cZ E v1 32 th, cI E v2 32 be, cI E v3 32 inf, cJ E v4 32 snt, cO w0 2 [.ref w1, .ref w2, .ref w3, .ref w4, .long (lI rel)], cZ E w1 8 sth, cI E w2 8 srch, cI E w3 8 cap, cI E w4 8 wat, cO g0 3 [.ref g1, .ref g2, .ref g3, .ref g4, .ref g5, .ref g6, .ref g7, .ref g8, .ref g9, .int (iI cn)], cZ E g1 40 g, cI E g2 40 pl, cI E g3 40 pr, cI E g4 40 ra, cI E g5 40 wn, cI E g6 40 sh, cI E g7 40 rt, cI E g8 40 st, cI E g9 40 ag, cO p0 1 [.ref p1, .ref p2, .ref p3], cI E p1 40 get, cJ E p2 32 flo, cI E p3 8 roo]) C (kX0_pageOf l E day (by first | assumption | omega)) (rcwS C mX0_pageOf w_284 ⟨Nat.le_of_ble_eq_true rfl, Nat.le_of_ble_eq_true rfl⟩) [] [0, 1, 2, 3, 4, 5, 6, 7, 8, 9, 10, 11, 12, 13, 14, 15, 16, 17, 18, 19, 20, 21, 22, 23, 24, 25] [0, 1, 2, 3, 4, 5, 6, 7, 8, 9, 10, 11, 12, 13, 14, 15, 16, 17, 18, 19, 20, 21, 22, 23, 24, 25] rfl rfl (by decide) (by decide) (by decide) (fun _ => rfl) (by decide) rfl rfl (Nat.le_of_ble_eq_true rfl) dX0_write_85 ⟨Nat.le_of_ble_eq_true rfl, Nat.le_of_ble_eq_true rfl⟩ (fun _ => ?_)
        show rG p l e rX0_write s m args below meth c E A 11 0 0 Q [cO b0 0 [.ref b1, .int (iI day)], cJ E b1 300 ent, cO v0 4 [.ref v1, .ref v2, .ref v3, .ref v4, .int (iI out)], cZ E v1 32 th, cI E v2 32 be, cI E v3 32 inf, cJ E v4 32 snt, cO w0 2 [.ref w1, .ref w2, .ref w3, .ref w4, .long (lI rel)], cZ E w1 8 sth, cI E w2 8 srch, cI E w3 8 cap, cI E w4 8 wat, cO g0 3 [.ref g1, .ref g2, .ref g3, .ref g4, .ref g5, .ref g6, .ref g7, .ref g8, .ref g9, .int (iI cn)], cZ E g1 40 g, cI E g2 40 pl, cI E g3 40 pr, cI E g4 40 ra, cI E g5 40 wn, cI E g6 40 sh, cI E g7 40 rt, cI E g8 40 st, cI E g9 40 ag, cO p0 1 [.ref p1, .ref p2, .ref p3], cI E p1 40 get, cJ E p2 32 flo, cI E p3 8 roo] 88 [(0, .ref b0), (1, .ref v0), (2, .ref w0), (3, .ref g0), (4, .ref p0), (5, .long (lI us)), (7, .long (lI so)), (9, .int (iI k))] [.int (iI (day % 60 * 5))]
        refine rg_istore (lv' := [(9, .int (iI (day % 60 * 5))), (0, .ref b0), (1, .ref v0), (2, .ref w0), (3, .ref g0), (4, .ref p0), (5, .long (lI us)), (7, .long (lI so))]) C dX0_write_88 (by decide) rfl ?_
        refine rg_aload_n C 1 dX0_write_90 rfl rfl ?_
        refine rg_get C fX0_11 0 rfl rfl dX0_write_91 ?_
        refine rg_iload C 0 dX0_write_94 rfl ?_
        refine rg_iconst C dX0_write_96 ?_
        refine rg_iadd C dX0_write_97 ?_
        refine rg_aload_n C 2 dX0_write_98 rfl rfl ?_
        refine rg_callV (As := []) (rest := [.int (iI ((day % 60 * 5) + 0)), .ref b1]) (wr := [cO b0 0 [.ref b1, .int (iI day)], cJ E b1 300 ent, cO w0 2 [.ref w1, .ref w2, .ref w3, .ref w4, .long (lI rel)], cZ E w1 8 sth, cI E w2 8 srch, cI E w3 8 cap, cI E w4 8 wat, cO g0 3 [.ref g1, .ref g2, .ref g3, .ref g4, .ref g5, .ref g6, .ref g7, .ref g8, .ref g9, .int (iI cn)], cZ E g1 40 g, cI E g2 40 pl, cI E g3 40 pr, cI E g4 40 ra, cI E g5 40 wn, cI E g6 40 sh, cI E g7 40 rt, cI E g8 40 st, cI E g9 40 ag, cO p0 1 [.ref p1, .ref p2, .ref p3], cI E p1 40 get, cJ E p2 32 flo, cI E p3 8 roo]) (w' := fun _ => [cO b0 0 [.ref b1, .int (iI day)], cJ E b1 300 ent, cO v0 4 [.ref v1, .ref v2, .ref v3, .ref v4, .int (iI out)], cZ E v1 32 th, cI E v2 32 be, cI E v3 32 inf, cJ E v4 32 snt, cO w0 2 [.ref w1, .ref w2, .ref w3, .ref w4, .long (lI rel)], cZ E w1 8 sth, cI E w2 8 srch, cI E w3 8 cap, cI E w4 8 wat, cO g0 3 [.ref g1, .ref g2, .ref g3, .ref g4, .ref g5, .ref g6, .ref g7, .ref g8, .ref g9, .int (iI cn)], cZ E g1 40 g, cI E g2 40 pl, cI E g3 40 pr, cI E g4 40 ra, cI E g5 40 wn, cI E g6 40 sh, cI E g7 40 rt, cI E g8 40 st, cI E g9 40 ag, cO p0 1 [.ref p1, .ref p2, .ref p3], cI E p1 40 get, cJ E p2 32 flo, cI E p3 8 roo]) C (kX4_allInflow l E v0 v1 v2 v3 v4 th be inf snt out (by first | assumption | omega)) (rcwV C mX4_allInflow w_290 ⟨Nat.le_of_ble_eq_true rfl, Nat.le_of_ble_eq_true rfl⟩) [2, 3, 4, 5, 6] [0, 1, 7, 8, 9, 10, 11, 12, 13, 14, 15, 16, 17, 18, 19, 20, 21, 22, 23, 24, 25] [0, 1, 21, 22, 23, 24, 25, 2, 3, 4, 5, 6, 7, 8, 9, 10, 11, 12, 13, 14, 15, 16, 17, 18, 19, 20] rfl rfl (by decide) (by decide) (by decide) (fun _ => rfl) (by decide) 0 rfl rfl rfl rfl (Nat.le_of_ble_eq_true rfl) dX0_write_99 ⟨Nat.le_of_ble_eq_true rfl, Nat.le_of_ble_eq_true rfl⟩ (fun _ => ?_)
        show rG p l e rX0_write s m args below meth c E A 11 0 0 Q [cO b0 0 [.ref b1, .int (iI day)], cJ E b1 300 ent, cO v0 4 [.ref v1, .ref v2, .ref v3, .ref v4, .int (iI out)], cZ E v1 32 th, cI E v2 32 be, cI E v3 32 inf, cJ E v4 32 snt, cO w0 2 [.ref w1, .ref w2, .ref w3, .ref w4, .long (lI rel)], cZ E w1 8 sth, cI E w2 8 srch, cI E w3 8 cap, cI E w4 8 wat, cO g0 3 [.ref g1, .ref g2, .ref g3, .ref g4, .ref g5, .ref g6, .ref g7, .ref g8, .ref g9, .int (iI cn)], cZ E g1 40 g, cI E g2 40 pl, cI E g3 40 pr, cI E g4 40 ra, cI E g5 40 wn, cI E g6 40 sh, cI E g7 40 rt, cI E g8 40 st, cI E g9 40 ag, cO p0 1 [.ref p1, .ref p2, .ref p3], cI E p1 40 get, cJ E p2 32 flo, cI E p3 8 roo] 102 [(9, .int (iI (day % 60 * 5))), (0, .ref b0), (1, .ref v0), (2, .ref w0), (3, .ref g0), (4, .ref p0), (5, .long (lI us)), (7, .long (lI so))] [.long (lI (sumTo inf 32)), .int (iI ((day % 60 * 5) + 0)), .ref b1]
        refine rg_last (ws' := [cO b0 0 [.ref b1, .int (iI day)], cJ E b1 300 (uZ ent ((day % 60 * 5) + 0).toNat (sumTo inf 32)), cO v0 4 [.ref v1, .ref v2, .ref v3, .ref v4, .int (iI out)], cZ E v1 32 th, cI E v2 32 be, cI E v3 32 inf, cJ E v4 32 snt, cO w0 2 [.ref w1, .ref w2, .ref w3, .ref w4, .long (lI rel)], cZ E w1 8 sth, cI E w2 8 srch, cI E w3 8 cap, cI E w4 8 wat, cO g0 3 [.ref g1, .ref g2, .ref g3, .ref g4, .ref g5, .ref g6, .ref g7, .ref g8, .ref g9, .int (iI cn)], cZ E g1 40 g, cI E g2 40 pl, cI E g3 40 pr, cI E g4 40 ra, cI E g5 40 wn, cI E g6 40 sh, cI E g7 40 rt, cI E g8 40 st, cI E g9 40 ag, cO p0 1 [.ref p1, .ref p2, .ref p3], cI E p1 40 get, cJ E p2 32 flo, cI E p3 8 roo]) C 1 rfl (by decide) (by omega) (by omega) dX0_write_102 rfl ?_
        refine rg_aload_n C 1 dX0_write_103 rfl rfl ?_
        refine rg_get C fX0_11 0 rfl rfl dX0_write_104 ?_
        refine rg_iload C 0 dX0_write_107 rfl ?_
        refine rg_iconst C dX0_write_109 ?_
        refine rg_iadd C dX0_write_110 ?_
        refine rg_aload_n C 2 dX0_write_111 rfl rfl ?_
        refine rg_get C fX0_57 2 rfl rfl dX0_write_112 ?_
        refine rg_iconst C dX0_write_115 ?_
        refine rg_icmp_ne (tgt := 123) C ⟨by omega, by omega⟩ ⟨by decide, by decide⟩ dX0_write_116 (by decide) (fun h_116 => ?_) (fun h_116 => ?_)
        · refine rg_aload C 5 dX0_write_123 rfl ?_
          refine rg_get C fX0_60 22 rfl rfl dX0_write_125 ?_
          refine rg_aload_n C 2 dX0_write_128 rfl rfl ?_
          refine rg_get C fX0_57 2 rfl rfl dX0_write_129 ?_
          refine rg_lald C 24 rfl (by decide) (by omega) (by omega) dX0_write_132 ?_
          refine rg_last (ws' := [cO b0 0 [.ref b1, .int (iI day)], cJ E b1 300 (uZ (uZ ent ((day % 60 * 5) + 0).toNat (sumTo inf 32)) ((day % 60 * 5) + 1).toNat (flo out.toNat)), cO v0 4 [.ref v1, .ref v2, .ref v3, .ref v4, .int (iI out)], cZ E v1 32 th, cI E v2 32 be, cI E v3 32 inf, cJ E v4 32 snt, cO w0 2 [.ref w1, .ref w2, .ref w3, .ref w4, .long (lI rel)], cZ E w1 8 sth, cI E w2 8 srch, cI E w3 8 cap, cI E w4 8 wat, cO g0 3 [.ref g1, .ref g2, .ref g3, .ref g4, .ref g5, .ref g6, .ref g7, .ref g8, .ref g9, .int (iI cn)], cZ E g1 40 g, cI E g2 40 pl, cI E g3 40 pr, cI E g4 40 ra, cI E g5 40 wn, cI E g6 40 sh, cI E g7 40 rt, cI E g8 40 st, cI E g9 40 ag, cO p0 1 [.ref p1, .ref p2, .ref p3], cI E p1 40 get, cJ E p2 32 flo, cI E p3 8 roo]) C 1 rfl (by decide) (by omega) (by omega) dX0_write_133 rfl ?_
          refine rg_aload_n C 1 dX0_write_134 rfl rfl ?_
          refine rg_get C fX0_11 0 rfl rfl dX0_write_135 ?_
          refine rg_iload C 0 dX0_write_138 rfl ?_
          refine rg_iconst C dX0_write_140 ?_
          refine rg_iadd C dX0_write_141 ?_
          refine rg_lload C 6 dX0_write_142 rfl ?_
          refine rg_last (ws' := [cO b0 0 [.ref b1, .int (iI day)], cJ E b1 300 (uZ (uZ (uZ ent ((day % 60 * 5) + 0).toNat (sumTo inf 32)) ((day % 60 * 5) + 1).toNat (flo out.toNat)) ((day % 60 * 5) + 2).toNat us), cO v0 4 [.ref v1, .ref v2, .ref v3, .ref v4, .int (iI out)], cZ E v1 32 th, cI E v2 32 be, cI E v3 32 inf, cJ E v4 32 snt, cO w0 2 [.ref w1, .ref w2, .ref w3, .ref w4, .long (lI rel)], cZ E w1 8 sth, cI E w2 8 srch, cI E w3 8 cap, cI E w4 8 wat, cO g0 3 [.ref g1, .ref g2, .ref g3, .ref g4, .ref g5, .ref g6, .ref g7, .ref g8, .ref g9, .int (iI cn)], cZ E g1 40 g, cI E g2 40 pl, cI E g3 40 pr, cI E g4 40 ra, cI E g5 40 wn, cI E g6 40 sh, cI E g7 40 rt, cI E g8 40 st, cI E g9 40 ag, cO p0 1 [.ref p1, .ref p2, .ref p3], cI E p1 40 get, cJ E p2 32 flo, cI E p3 8 roo]) C 1 rfl (by decide) (by omega) (by omega) dX0_write_144 rfl ?_
          refine rg_aload_n C 1 dX0_write_145 rfl rfl ?_
          refine rg_get C fX0_11 0 rfl rfl dX0_write_146 ?_
          refine rg_iload C 0 dX0_write_149 rfl ?_
          refine rg_iconst C dX0_write_151 ?_
          refine rg_iadd C dX0_write_152 ?_
          refine rg_lload C 7 dX0_write_153 rfl ?_
          refine rg_last (ws' := [cO b0 0 [.ref b1, .int (iI day)], cJ E b1 300 (uZ (uZ (uZ (uZ ent ((day % 60 * 5) + 0).toNat (sumTo inf 32)) ((day % 60 * 5) + 1).toNat (flo out.toNat)) ((day % 60 * 5) + 2).toNat us) ((day % 60 * 5) + 3).toNat so), cO v0 4 [.ref v1, .ref v2, .ref v3, .ref v4, .int (iI out)], cZ E v1 32 th, cI E v2 32 be, cI E v3 32 inf, cJ E v4 32 snt, cO w0 2 [.ref w1, .ref w2, .ref w3, .ref w4, .long (lI rel)], cZ E w1 8 sth, cI E w2 8 srch, cI E w3 8 cap, cI E w4 8 wat, cO g0 3 [.ref g1, .ref g2, .ref g3, .ref g4, .ref g5, .ref g6, .ref g7, .ref g8, .ref g9, .int (iI cn)], cZ E g1 40 g, cI E g2 40 pl, cI E g3 40 pr, cI E g4 40 ra, cI E g5 40 wn, cI E g6 40 sh, cI E g7 40 rt, cI E g8 40 st, cI E g9 40 ag, cO p0 1 [.ref p1, .ref p2, .ref p3], cI E p1 40 get, cJ E p2 32 flo, cI E p3 8 roo]) C 1 rfl (by decide) (by omega) (by omega) dX0_write_155 rfl ?_
          refine rg_aload_n C 1 dX0_write_156 rfl rfl ?_
          refine rg_get C fX0_11 0 rfl rfl dX0_write_157 ?_
          refine rg_iload C 0 dX0_write_160 rfl ?_
          refine rg_iconst C dX0_write_162 ?_
          refine rg_iadd C dX0_write_163 ?_
          refine rg_aload_n C 3 dX0_write_164 rfl rfl ?_
          refine rg_get C fX0_15 7 rfl rfl dX0_write_165 ?_
          refine rg_last (ws' := [cO b0 0 [.ref b1, .int (iI day)], cJ E b1 300 (uZ (uZ (uZ (uZ (uZ ent ((day % 60 * 5) + 0).toNat (sumTo inf 32)) ((day % 60 * 5) + 1).toNat (flo out.toNat)) ((day % 60 * 5) + 2).toNat us) ((day % 60 * 5) + 3).toNat so) ((day % 60 * 5) + 4).toNat rel), cO v0 4 [.ref v1, .ref v2, .ref v3, .ref v4, .int (iI out)], cZ E v1 32 th, cI E v2 32 be, cI E v3 32 inf, cJ E v4 32 snt, cO w0 2 [.ref w1, .ref w2, .ref w3, .ref w4, .long (lI rel)], cZ E w1 8 sth, cI E w2 8 srch, cI E w3 8 cap, cI E w4 8 wat, cO g0 3 [.ref g1, .ref g2, .ref g3, .ref g4, .ref g5, .ref g6, .ref g7, .ref g8, .ref g9, .int (iI cn)], cZ E g1 40 g, cI E g2 40 pl, cI E g3 40 pr, cI E g4 40 ra, cI E g5 40 wn, cI E g6 40 sh, cI E g7 40 rt, cI E g8 40 st, cI E g9 40 ag, cO p0 1 [.ref p1, .ref p2, .ref p3], cI E p1 40 get, cJ E p2 32 flo, cI E p3 8 roo]) C 1 rfl (by decide) (by omega) (by omega) dX0_write_168 rfl ?_
          refine rg_aload_n C 1 dX0_write_169 rfl rfl ?_
          refine rg_dup C dX0_write_170 rfl ?_
          refine rg_get C fX0_44 0 rfl rfl dX0_write_171 ?_
          refine rg_iconst C dX0_write_174 ?_
          refine rg_iadd C dX0_write_175 ?_
          refine rg_put (ws' := [cO b0 0 [.ref b1, .int (iI (day + 1))], cJ E b1 300 (uZ (uZ (uZ (uZ (uZ ent ((day % 60 * 5) + 0).toNat (sumTo inf 32)) ((day % 60 * 5) + 1).toNat (flo out.toNat)) ((day % 60 * 5) + 2).toNat us) ((day % 60 * 5) + 3).toNat so) ((day % 60 * 5) + 4).toNat rel), cO v0 4 [.ref v1, .ref v2, .ref v3, .ref v4, .int (iI out)], cZ E v1 32 th, cI E v2 32 be, cI E v3 32 inf, cJ E v4 32 snt, cO w0 2 [.ref w1, .ref w2, .ref w3, .ref w4, .long (lI rel)], cZ E w1 8 sth, cI E w2 8 srch, cI E w3 8 cap, cI E w4 8 wat, cO g0 3 [.ref g1, .ref g2, .ref g3, .ref g4, .ref g5, .ref g6, .ref g7, .ref g8, .ref g9, .int (iI cn)], cZ E g1 40 g, cI E g2 40 pl, cI E g3 40 pr, cI E g4 40 ra, cI E g5 40 wn, cI E g6 40 sh, cI E g7 40 rt, cI E g8 40 st, cI E g9 40 ag, cO p0 1 [.ref p1, .ref p2, .ref p3], cI E p1 40 get, cJ E p2 32 flo, cI E p3 8 roo]) C fX0_44 layX0 rfl 0 rfl rfl rfl (Nat.le_of_ble_eq_true rfl) dX0_write_176 rfl ?_
          exact rg_vret C hA hQ hr hlk () (by rw [h3, h4, show k.toNat = cn.toNat by omega, if_neg h_116]) rfl dX0_write_179
        · refine rg_lconst (z := 0) C dX0_write_119 (by decide) ?_
          refine rg_goto (tgt := 133) C dX0_write_120 (by decide) ?_
          refine rg_last (ws' := [cO b0 0 [.ref b1, .int (iI day)], cJ E b1 300 (uZ (uZ ent ((day % 60 * 5) + 0).toNat (sumTo inf 32)) ((day % 60 * 5) + 1).toNat 0), cO v0 4 [.ref v1, .ref v2, .ref v3, .ref v4, .int (iI out)], cZ E v1 32 th, cI E v2 32 be, cI E v3 32 inf, cJ E v4 32 snt, cO w0 2 [.ref w1, .ref w2, .ref w3, .ref w4, .long (lI rel)], cZ E w1 8 sth, cI E w2 8 srch, cI E w3 8 cap, cI E w4 8 wat, cO g0 3 [.ref g1, .ref g2, .ref g3, .ref g4, .ref g5, .ref g6, .ref g7, .ref g8, .ref g9, .int (iI cn)], cZ E g1 40 g, cI E g2 40 pl, cI E g3 40 pr, cI E g4 40 ra, cI E g5 40 wn, cI E g6 40 sh, cI E g7 40 rt, cI E g8 40 st, cI E g9 40 ag, cO p0 1 [.ref p1, .ref p2, .ref p3], cI E p1 40 get, cJ E p2 32 flo, cI E p3 8 roo]) C 1 rfl (by decide) (by omega) (by omega) dX0_write_133 rfl ?_
          refine rg_aload_n C 1 dX0_write_134 rfl rfl ?_
          refine rg_get C fX0_11 0 rfl rfl dX0_write_135 ?_
          refine rg_iload C 0 dX0_write_138 rfl ?_
          refine rg_iconst C dX0_write_140 ?_
          refine rg_iadd C dX0_write_141 ?_
          refine rg_lload C 6 dX0_write_142 rfl ?_
          refine rg_last (ws' := [cO b0 0 [.ref b1, .int (iI day)], cJ E b1 300 (uZ (uZ (uZ ent ((day % 60 * 5) + 0).toNat (sumTo inf 32)) ((day % 60 * 5) + 1).toNat 0) ((day % 60 * 5) + 2).toNat us), cO v0 4 [.ref v1, .ref v2, .ref v3, .ref v4, .int (iI out)], cZ E v1 32 th, cI E v2 32 be, cI E v3 32 inf, cJ E v4 32 snt, cO w0 2 [.ref w1, .ref w2, .ref w3, .ref w4, .long (lI rel)], cZ E w1 8 sth, cI E w2 8 srch, cI E w3 8 cap, cI E w4 8 wat, cO g0 3 [.ref g1, .ref g2, .ref g3, .ref g4, .ref g5, .ref g6, .ref g7, .ref g8, .ref g9, .int (iI cn)], cZ E g1 40 g, cI E g2 40 pl, cI E g3 40 pr, cI E g4 40 ra, cI E g5 40 wn, cI E g6 40 sh, cI E g7 40 rt, cI E g8 40 st, cI E g9 40 ag, cO p0 1 [.ref p1, .ref p2, .ref p3], cI E p1 40 get, cJ E p2 32 flo, cI E p3 8 roo]) C 1 rfl (by decide) (by omega) (by omega) dX0_write_144 rfl ?_
          refine rg_aload_n C 1 dX0_write_145 rfl rfl ?_
          refine rg_get C fX0_11 0 rfl rfl dX0_write_146 ?_
          refine rg_iload C 0 dX0_write_149 rfl ?_
          refine rg_iconst C dX0_write_151 ?_
          refine rg_iadd C dX0_write_152 ?_
          refine rg_lload C 7 dX0_write_153 rfl ?_
          refine rg_last (ws' := [cO b0 0 [.ref b1, .int (iI day)], cJ E b1 300 (uZ (uZ (uZ (uZ ent ((day % 60 * 5) + 0).toNat (sumTo inf 32)) ((day % 60 * 5) + 1).toNat 0) ((day % 60 * 5) + 2).toNat us) ((day % 60 * 5) + 3).toNat so), cO v0 4 [.ref v1, .ref v2, .ref v3, .ref v4, .int (iI out)], cZ E v1 32 th, cI E v2 32 be, cI E v3 32 inf, cJ E v4 32 snt, cO w0 2 [.ref w1, .ref w2, .ref w3, .ref w4, .long (lI rel)], cZ E w1 8 sth, cI E w2 8 srch, cI E w3 8 cap, cI E w4 8 wat, cO g0 3 [.ref g1, .ref g2, .ref g3, .ref g4, .ref g5, .ref g6, .ref g7, .ref g8, .ref g9, .int (iI cn)], cZ E g1 40 g, cI E g2 40 pl, cI E g3 40 pr, cI E g4 40 ra, cI E g5 40 wn, cI E g6 40 sh, cI E g7 40 rt, cI E g8 40 st, cI E g9 40 ag, cO p0 1 [.ref p1, .ref p2, .ref p3], cI E p1 40 get, cJ E p2 32 flo, cI E p3 8 roo]) C 1 rfl (by decide) (by omega) (by omega) dX0_write_155 rfl ?_
          refine rg_aload_n C 1 dX0_write_156 rfl rfl ?_
          refine rg_get C fX0_11 0 rfl rfl dX0_write_157 ?_
          refine rg_iload C 0 dX0_write_160 rfl ?_
          refine rg_iconst C dX0_write_162 ?_
          refine rg_iadd C dX0_write_163 ?_
          refine rg_aload_n C 3 dX0_write_164 rfl rfl ?_
          refine rg_get C fX0_15 7 rfl rfl dX0_write_165 ?_
          refine rg_last (ws' := [cO b0 0 [.ref b1, .int (iI day)], cJ E b1 300 (uZ (uZ (uZ (uZ (uZ ent ((day % 60 * 5) + 0).toNat (sumTo inf 32)) ((day % 60 * 5) + 1).toNat 0) ((day % 60 * 5) + 2).toNat us) ((day % 60 * 5) + 3).toNat so) ((day % 60 * 5) + 4).toNat rel), cO v0 4 [.ref v1, .ref v2, .ref v3, .ref v4, .int (iI out)], cZ E v1 32 th, cI E v2 32 be, cI E v3 32 inf, cJ E v4 32 snt, cO w0 2 [.ref w1, .ref w2, .ref w3, .ref w4, .long (lI rel)], cZ E w1 8 sth, cI E w2 8 srch, cI E w3 8 cap, cI E w4 8 wat, cO g0 3 [.ref g1, .ref g2, .ref g3, .ref g4, .ref g5, .ref g6, .ref g7, .ref g8, .ref g9, .int (iI cn)], cZ E g1 40 g, cI E g2 40 pl, cI E g3 40 pr, cI E g4 40 ra, cI E g5 40 wn, cI E g6 40 sh, cI E g7 40 rt, cI E g8 40 st, cI E g9 40 ag, cO p0 1 [.ref p1, .ref p2, .ref p3], cI E p1 40 get, cJ E p2 32 flo, cI E p3 8 roo]) C 1 rfl (by decide) (by omega) (by omega) dX0_write_168 rfl ?_
          refine rg_aload_n C 1 dX0_write_169 rfl rfl ?_
          refine rg_dup C dX0_write_170 rfl ?_
          refine rg_get C fX0_44 0 rfl rfl dX0_write_171 ?_
          refine rg_iconst C dX0_write_174 ?_
          refine rg_iadd C dX0_write_175 ?_
          refine rg_put (ws' := [cO b0 0 [.ref b1, .int (iI (day + 1))], cJ E b1 300 (uZ (uZ (uZ (uZ (uZ ent ((day % 60 * 5) + 0).toNat (sumTo inf 32)) ((day % 60 * 5) + 1).toNat 0) ((day % 60 * 5) + 2).toNat us) ((day % 60 * 5) + 3).toNat so) ((day % 60 * 5) + 4).toNat rel), cO v0 4 [.ref v1, .ref v2, .ref v3, .ref v4, .int (iI out)], cZ E v1 32 th, cI E v2 32 be, cI E v3 32 inf, cJ E v4 32 snt, cO w0 2 [.ref w1, .ref w2, .ref w3, .ref w4, .long (lI rel)], cZ E w1 8 sth, cI E w2 8 srch, cI E w3 8 cap, cI E w4 8 wat, cO g0 3 [.ref g1, .ref g2, .ref g3, .ref g4, .ref g5, .ref g6, .ref g7, .ref g8, .ref g9, .int (iI cn)], cZ E g1 40 g, cI E g2 40 pl, cI E g3 40 pr, cI E g4 40 ra, cI E g5 40 wn, cI E g6 40 sh, cI E g7 40 rt, cI E g8 40 st, cI E g9 40 ag, cO p0 1 [.ref p1, .ref p2, .ref p3], cI E p1 40 get, cJ E p2 32 flo, cI E p3 8 roo]) C fX0_44 layX0 rfl 0 rfl rfl rfl (Nat.le_of_ble_eq_true rfl) dX0_write_176 rfl ?_
          exact rg_vret C hA hQ hr hlk () (by rw [h3, h4, show k.toNat = cn.toNat by omega, if_pos h_116]) rfl dX0_write_179
      · have ha9 := hag k.toNat (by omega)
        have hg9 := hget k.toNat (by omega)
        refine rg_aload_n C 3 dX0_write_21 rfl rfl ?_
        refine rg_get C fX0_27 12 rfl rfl dX0_write_22 ?_
        refine rg_iload C 7 dX0_write_25 rfl ?_
        refine rg_iald C 21 rfl (by decide) (by omega) (by omega) dX0_write_27 ?_
        refine rg_istore (lv' := [(10, .int (iI (ag k.toNat))), (0, .ref b0), (1, .ref v0), (2, .ref w0), (3, .ref g0), (4, .ref p0), (5, .long (lI us)), (7, .long (lI so)), (9, .int (iI k))]) C dX0_write_28 (by decide) rfl ?_
        refine rg_aload_n C 4 dX0_write_30 rfl rfl ?_
        refine rg_iload C 0 dX0_write_31 rfl ?_
        refine rg_callV (As := [.int (iI (ag k.toNat))]) (rest := []) (wr := [cO b0 0 [.ref b1, .int (iI day)], cJ E b1 300 ent, cO v0 4 [.ref v1, .ref v2, .ref v3, .ref v4, .int (iI out)], cZ E v1 32 th, cI E v2 32 be, cI E v3 32 inf, cJ E v4 32 snt, cO w0 2 [.ref w1, .ref w2, .ref w3, .ref w4, .long (lI rel)], cZ E w1 8 sth, cI E w2 8 srch, cI E w3 8 cap, cI E w4 8 wat, cO p0 1 [.ref p1, .ref p2, .ref p3], cI E p1 40 get, cJ E p2 32 flo, cI E p3 8 roo]) (w' := fun _ => [cO b0 0 [.ref b1, .int (iI day)], cJ E b1 300 ent, cO v0 4 [.ref v1, .ref v2, .ref v3, .ref v4, .int (iI out)], cZ E v1 32 th, cI E v2 32 be, cI E v3 32 inf, cJ E v4 32 snt, cO w0 2 [.ref w1, .ref w2, .ref w3, .ref w4, .long (lI rel)], cZ E w1 8 sth, cI E w2 8 srch, cI E w3 8 cap, cI E w4 8 wat, cO g0 3 [.ref g1, .ref g2, .ref g3, .ref g4, .ref g5, .ref g6, .ref g7, .ref g8, .ref g9, .int (iI cn)], cZ E g1 40 g, cI E g2 40 pl, cI E g3 40 pr, cI E g4 40 ra, cI E g5 40 wn, cI E g6 40 sh, cI E g7 40 rt, cI E g8 40 st, cI E g9 40 ag, cO p0 1 [.ref p1, .ref p2, .ref p3], cI E p1 40 get, cJ E p2 32 flo, cI E p3 8 roo]) C (kX3_isStorage l E g0 g1 g2 g3 g4 g5 g6 g7 g8 g9 g pl pr ra wn sh rt st ag cn (ag k.toNat) (by first | assumption | omega) (fun i hi => ⟨by have := hst i hi; omega, by have := hst i hi; omega⟩)) (rcwV C mX3_isStorage w_282 ⟨Nat.le_of_ble_eq_true rfl, Nat.le_of_ble_eq_true rfl⟩) [12, 13, 14, 15, 16, 17, 18, 19, 20, 21] [0, 1, 2, 3, 4, 5, 6, 7, 8, 9, 10, 11, 22, 23, 24, 25] [0, 1, 2, 3, 4, 5, 6, 7, 8, 9, 10, 11, 16, 17, 18, 19, 20, 21, 22, 23, 24, 25, 12, 13, 14, 15] rfl rfl (by decide) (by decide) (by decide) (fun _ => rfl) (by decide) 0 rfl rfl rfl rfl (Nat.le_of_ble_eq_true rfl) dX0_write_33 ⟨Nat.le_of_ble_eq_true rfl, Nat.le_of_ble_eq_true rfl⟩ (fun _ => ?_)
        show rG p l e rX0_write s m args below meth c E A 11 0 0 Q [cO b0 0 [.ref b1, .int (iI day)], cJ E b1 300 ent, cO v0 4 [.ref v1, .ref v2, .ref v3, .ref v4, .int (iI out)], cZ E v1 32 th, cI E v2 32 be, cI E v3 32 inf, cJ E v4 32 snt, cO w0 2 [.ref w1, .ref w2, .ref w3, .ref w4, .long (lI rel)], cZ E w1 8 sth, cI E w2 8 srch, cI E w3 8 cap, cI E w4 8 wat, cO g0 3 [.ref g1, .ref g2, .ref g3, .ref g4, .ref g5, .ref g6, .ref g7, .ref g8, .ref g9, .int (iI cn)], cZ E g1 40 g, cI E g2 40 pl, cI E g3 40 pr, cI E g4 40 ra, cI E g5 40 wn, cI E g6 40 sh, cI E g7 40 rt, cI E g8 40 st, cI E g9 40 ag, cO p0 1 [.ref p1, .ref p2, .ref p3], cI E p1 40 get, cJ E p2 32 flo, cI E p3 8 roo] 36 [(10, .int (iI (ag k.toNat))), (0, .ref b0), (1, .ref v0), (2, .ref w0), (3, .ref g0), (4, .ref p0), (5, .long (lI us)), (7, .long (lI so)), (9, .int (iI k))] [.int (iI (bZ (decide (st (ag k.toNat).toNat ≠ -1))))]
        refine rg_if_eq (tgt := 56) C (bZ_in _) dX0_write_36 (by decide) (fun h_36 => ?_) (fun h_36 => ?_)
        · have hs9 := hshd k.toNat (by omega) (Decidable.not_not.mp (dec0.mp h_36))
          refine rg_lload C 6 dX0_write_56 rfl ?_
          refine rg_aload_n C 4 dX0_write_58 rfl rfl ?_
          refine rg_iload C 0 dX0_write_59 rfl ?_
          refine rg_aload C 5 dX0_write_61 rfl ?_
          refine rg_get C fX0_35 22 rfl rfl dX0_write_63 ?_
          refine rg_iload C 0 dX0_write_66 rfl ?_
          refine rg_iald C 23 rfl (by decide) (by omega) (by omega) dX0_write_68 ?_
          refine rg_callV (As := [.int (iI (ag k.toNat)), .int (iI (get (ag k.toNat).toNat))]) (rest := [.long (lI us)]) (wr := [cO b0 0 [.ref b1, .int (iI day)], cJ E b1 300 ent, cO v0 4 [.ref v1, .ref v2, .ref v3, .ref v4, .int (iI out)], cZ E v1 32 th, cI E v2 32 be, cI E v3 32 inf, cJ E v4 32 snt, cO w0 2 [.ref w1, .ref w2, .ref w3, .ref w4, .long (lI rel)], cZ E w1 8 sth, cI E w2 8 srch, cI E w3 8 cap, cI E w4 8 wat, cO p0 1 [.ref p1, .ref p2, .ref p3], cI E p1 40 get, cJ E p2 32 flo, cI E p3 8 roo]) (w' := fun _ => [cO b0 0 [.ref b1, .int (iI day)], cJ E b1 300 ent, cO v0 4 [.ref v1, .ref v2, .ref v3, .ref v4, .int (iI out)], cZ E v1 32 th, cI E v2 32 be, cI E v3 32 inf, cJ E v4 32 snt, cO w0 2 [.ref w1, .ref w2, .ref w3, .ref w4, .long (lI rel)], cZ E w1 8 sth, cI E w2 8 srch, cI E w3 8 cap, cI E w4 8 wat, cO g0 3 [.ref g1, .ref g2, .ref g3, .ref g4, .ref g5, .ref g6, .ref g7, .ref g8, .ref g9, .int (iI cn)], cZ E g1 40 g, cI E g2 40 pl, cI E g3 40 pr, cI E g4 40 ra, cI E g5 40 wn, cI E g6 40 sh, cI E g7 40 rt, cI E g8 40 st, cI E g9 40 ag, cO p0 1 [.ref p1, .ref p2, .ref p3], cI E p1 40 get, cJ E p2 32 flo, cI E p3 8 roo]) C (kX3_usedOf l E g0 g1 g2 g3 g4 g5 g6 g7 g8 g9 g pl pr ra wn sh rt st ag cn (ag k.toNat) (get (ag k.toNat).toNat) (by first | assumption | omega) (by first | assumption | omega) (by first | assumption | omega)) (rcwV C mX3_usedOf w_283 ⟨Nat.le_of_ble_eq_true rfl, Nat.le_of_ble_eq_true rfl⟩) [12, 13, 14, 15, 16, 17, 18, 19, 20, 21] [0, 1, 2, 3, 4, 5, 6, 7, 8, 9, 10, 11, 22, 23, 24, 25] [0, 1, 2, 3, 4, 5, 6, 7, 8, 9, 10, 11, 16, 17, 18, 19, 20, 21, 22, 23, 24, 25, 12, 13, 14, 15] rfl rfl (by decide) (by decide) (by decide) (fun _ => rfl) (by decide) 0 rfl rfl rfl rfl (Nat.le_of_ble_eq_true rfl) dX0_write_69 ⟨Nat.le_of_ble_eq_true rfl, Nat.le_of_ble_eq_true rfl⟩ (fun _ => ?_)
          show rG p l e rX0_write s m args below meth c E A 11 0 0 Q [cO b0 0 [.ref b1, .int (iI day)], cJ E b1 300 ent, cO v0 4 [.ref v1, .ref v2, .ref v3, .ref v4, .int (iI out)], cZ E v1 32 th, cI E v2 32 be, cI E v3 32 inf, cJ E v4 32 snt, cO w0 2 [.ref w1, .ref w2, .ref w3, .ref w4, .long (lI rel)], cZ E w1 8 sth, cI E w2 8 srch, cI E w3 8 cap, cI E w4 8 wat, cO g0 3 [.ref g1, .ref g2, .ref g3, .ref g4, .ref g5, .ref g6, .ref g7, .ref g8, .ref g9, .int (iI cn)], cZ E g1 40 g, cI E g2 40 pl, cI E g3 40 pr, cI E g4 40 ra, cI E g5 40 wn, cI E g6 40 sh, cI E g7 40 rt, cI E g8 40 st, cI E g9 40 ag, cO p0 1 [.ref p1, .ref p2, .ref p3], cI E p1 40 get, cJ E p2 32 flo, cI E p3 8 roo] 72 [(10, .int (iI (ag k.toNat))), (0, .ref b0), (1, .ref v0), (2, .ref w0), (3, .ref g0), (4, .ref p0), (5, .long (lI us)), (7, .long (lI so)), (9, .int (iI k))] [.long (lI ((get (ag k.toNat).toNat) - (get (ag k.toNat).toNat) * sh (ag k.toNat).toNat / 1000)), .long (lI us)]
          refine rg_ladd C dX0_write_72 ?_
          refine rg_lstore (lv' := [(5, .long (lI (us + ((get (ag k.toNat).toNat) - (get (ag k.toNat).toNat) * sh (ag k.toNat).toNat / 1000)))), (10, .int (iI (ag k.toNat))), (0, .ref b0), (1, .ref v0), (2, .ref w0), (3, .ref g0), (4, .ref p0), (7, .long (lI so)), (9, .int (iI k))]) C dX0_write_73 (by decide) rfl ?_
          refine rg_iinc (k := 8) (lv' := [(9, .int (iI (k + 1))), (5, .long (lI (us + ((get (ag k.toNat).toNat) - (get (ag k.toNat).toNat) * sh (ag k.toNat).toNat / 1000)))), (10, .int (iI (ag k.toNat))), (0, .ref b0), (1, .ref v0), (2, .ref w0), (3, .ref g0), (4, .ref p0), (7, .long (lI so))]) C dX0_write_75 rfl (by decide) rfl ?_
          refine rg_goto (tgt := 12) C dX0_write_78 (by decide) ?_
          refine rG.plv [3, 4, 5, 6, 7, 1, 8, 0] rfl ?_
          exact ih (k + 1) (us + ((get (ag k.toNat).toNat) - (get (ag k.toNat).toNat) * sh (ag k.toNat).toNat / 1000)) so (by omega) (by rw [(useS_no h1.1 h_36).1, h3]; omega) (by rw [(useS_no (sh := sh) h1.1 h_36).2, h4]) (by omega)
        · refine rg_lload C 7 dX0_write_39 rfl ?_
          refine rg_aload C 5 dX0_write_41 rfl ?_
          refine rg_get C fX0_35 22 rfl rfl dX0_write_43 ?_
          refine rg_iload C 0 dX0_write_46 rfl ?_
          refine rg_iald C 23 rfl (by decide) (by omega) (by omega) dX0_write_48 ?_
          refine rg_i2l C ⟨by omega, by omega⟩ dX0_write_49 ?_
          refine rg_ladd C dX0_write_50 ?_
          refine rg_lstore (lv' := [(7, .long (lI (so + (get (ag k.toNat).toNat)))), (10, .int (iI (ag k.toNat))), (0, .ref b0), (1, .ref v0), (2, .ref w0), (3, .ref g0), (4, .ref p0), (5, .long (lI us)), (9, .int (iI k))]) C dX0_write_51 (by decide) rfl ?_
          refine rg_goto (tgt := 75) C dX0_write_53 (by decide) ?_
          refine rg_iinc (k := 8) (lv' := [(9, .int (iI (k + 1))), (7, .long (lI (so + (get (ag k.toNat).toNat)))), (10, .int (iI (ag k.toNat))), (0, .ref b0), (1, .ref v0), (2, .ref w0), (3, .ref g0), (4, .ref p0), (5, .long (lI us))]) C dX0_write_75 rfl (by decide) rfl ?_
          refine rg_goto (tgt := 12) C dX0_write_78 (by decide) ?_
          refine rG.plv [3, 4, 5, 6, 7, 8, 1, 0] rfl ?_
          exact ih (k + 1) us (so + (get (ag k.toNat).toNat)) (by omega) (by rw [(useS_yes h1.1 h_36).1, h3]) (by rw [(useS_yes (sh := sh) h1.1 h_36).2, h4]) (by omega)
  show rG p l e rX0_write s m args below meth c E A 11 0 0 Q [cO b0 0 [.ref b1, .int (iI day)], cJ E b1 300 ent, cO v0 4 [.ref v1, .ref v2, .ref v3, .ref v4, .int (iI out)], cZ E v1 32 th, cI E v2 32 be, cI E v3 32 inf, cJ E v4 32 snt, cO w0 2 [.ref w1, .ref w2, .ref w3, .ref w4, .long (lI rel)], cZ E w1 8 sth, cI E w2 8 srch, cI E w3 8 cap, cI E w4 8 wat, cO g0 3 [.ref g1, .ref g2, .ref g3, .ref g4, .ref g5, .ref g6, .ref g7, .ref g8, .ref g9, .int (iI cn)], cZ E g1 40 g, cI E g2 40 pl, cI E g3 40 pr, cI E g4 40 ra, cI E g5 40 wn, cI E g6 40 sh, cI E g7 40 rt, cI E g8 40 st, cI E g9 40 ag, cO p0 1 [.ref p1, .ref p2, .ref p3], cI E p1 40 get, cJ E p2 32 flo, cI E p3 8 roo] 0 [(0, .ref b0), (1, .ref v0), (2, .ref w0), (3, .ref g0), (4, .ref p0)] []
  refine rg_aload_n C 2 dX0_write_0 rfl rfl ?_
  refine rg_get C fX0_15 7 rfl rfl dX0_write_1 ?_
  refine rg_lstore (lv' := [(5, .long (lI rel)), (0, .ref b0), (1, .ref v0), (2, .ref w0), (3, .ref g0), (4, .ref p0)]) C dX0_write_4 (by decide) rfl ?_
  refine rg_lconst (z := 0) C dX0_write_6 (by decide) ?_
  refine rg_lstore (lv' := [(7, .long (lI 0)), (5, .long (lI rel)), (0, .ref b0), (1, .ref v0), (2, .ref w0), (3, .ref g0), (4, .ref p0)]) C dX0_write_7 (by decide) rfl ?_
  refine rg_iconst C dX0_write_9 ?_
  refine rg_istore (lv' := [(9, .int (iI 0)), (7, .long (lI 0)), (5, .long (lI rel)), (0, .ref b0), (1, .ref v0), (2, .ref w0), (3, .ref g0), (4, .ref p0)]) C dX0_write_10 (by decide) rfl ?_
  refine rG.plv [3, 4, 5, 6, 7, 2, 1, 0] rfl ?_
  exact L12 _ 0 rel 0 (by omega) (by show rel = rel + 0; omega) rfl (Nat.lt_succ_self _)
end
section
/-- the plan of a day: gains, flows and rooms; po is passed over -/
def PT (be inf cap wat pl sh rt st wn ag : Nat → Int) (cn po : Int) (x : T3) : T3 := gab be pl sh rt st wn ag po cn.toNat (filZ x.1 0 40, begF be inf (filZ x.2.1 0 32) 32, begR cap wat x.2.2 8)
def tdy (be inf cap wat pl sh rt st wn ag : Nat → Int) (cn stale : Int) (x : T3) : T3 := if stale = 0 then x else PT be inf cap wat pl sh rt st wn ag cn (-1) x
theorem tdy_0 {be inf cap wat pl sh rt st wn ag : Nat → Int} {cn stale : Int} {x : T3} (h : stale = 0) : tdy be inf cap wat pl sh rt st wn ag cn stale x = x := if_pos h
theorem tdy_1 {be inf cap wat pl sh rt st wn ag : Nat → Int} {cn stale : Int} {x : T3} (h : ¬ stale = 0) : tdy be inf cap wat pl sh rt st wn ag cn stale x = PT be inf cap wat pl sh rt st wn ag cn (-1) x := if_neg h
/-- the oldest that would get less -/
def oldL (sget get ag : Nat → Int) : Nat → Nat → Int
  | 0, _ => -1
  | n + 1, k => if sget (ag k).toNat < get (ag k).toNat then ag k else oldL sget get ag n (k + 1)
theorem oldL_end {sget get ag : Nat → Int} {c k : Int} (h : c ≤ k) : oldL sget get ag (c - k).toNat k.toNat = -1 := by
  rw [show (c - k).toNat = 0 by omega]; rfl
theorem oldL_hit {sget get ag : Nat → Int} {c k : Int} (h0 : 0 ≤ k) (h : k < c) (q : sget (ag k.toNat).toNat < get (ag k.toNat).toNat) : oldL sget get ag (c - k).toNat k.toNat = ag k.toNat := by
  rw [show (c - k).toNat = (c - (k + 1)).toNat + 1 by omega]
  exact if_pos q
theorem oldL_on {sget get ag : Nat → Int} {c k : Int} (h0 : 0 ≤ k) (h : k < c) (q : ¬ sget (ag k.toNat).toNat < get (ag k.toNat).toNat) : oldL sget get ag (c - k).toNat k.toNat = oldL sget get ag (c - (k + 1)).toNat (k + 1).toNat := by
  rw [show (c - k).toNat = (c - (k + 1)).toNat + 1 by omega, show (k + 1).toNat = k.toNat + 1 by omega]
  exact if_neg q
abbrev rX5_checkNumber : Room := { frames := 8, cells := 0, slots := 0, locals := 200 }
set_option maxHeartbeats 4000000 in
set_option maxRecDepth 100000 in
/-- checkNumber, passed -/
theorem kX5_checkNumber (l : Launch) (E : rE) (a : Int) (n : Int) (h0 : 0 ≤ a ∧ a < n) (hn : n ≤ 1000) : rM l yX5_checkNumber sX5_checkNumber rX5_checkNumber E [] [.int (iI a), .int (iI n)] none (fun _ : Unit => []) := by
  refine rM.of (cc := cX5_checkNumber) (maxL := 2) (ret := none) (by decide) rfl (Nat.le_of_ble_eq_true rfl) (fun w h => List.mem_cons_of_mem _ h) ?_
  intro p e s m args below meth c A Q hA hQ C hr hlk hnm
  have C : rC p s m args c E A 2 cX5_checkNumber sX5_checkNumber RX5 := C
  show rG p l e rX5_checkNumber s m args below meth c E A 2 0 0 Q [] 0 [(0, .int (iI a)), (1, .int (iI n))] []
  refine rg_iload_n C 0 dX5_checkNumber_0 rfl rfl ?_
  refine rg_if_lt (tgt := 9) C ⟨by omega, by omega⟩ dX5_checkNumber_1 (by decide) (fun h_1 => absurd h_1 (by omega)) (fun h_1 => ?_)
  refine rg_iload_n C 0 dX5_checkNumber_4 rfl rfl ?_
  refine rg_iload_n C 1 dX5_checkNumber_5 rfl rfl ?_
  refine rg_icmp_lt (tgt := 19) C ⟨by omega, by omega⟩ ⟨by omega, by omega⟩ dX5_checkNumber_6 (by decide) (fun h_6 => ?_) (fun h_6 => absurd h_6 (by omega))
  exact rg_vret C hA hQ hr hlk () rfl rfl dX5_checkNumber_19
abbrev rX5_checkThere : Room := { frames := 8, cells := 0, slots := 0, locals := 200 }
set_option maxHeartbeats 4000000 in
set_option maxRecDepth 100000 in
/-- checkThere, passed -/
theorem kX5_checkThere (l : Launch) (E : rE) (a : Int) (h0 : a = 1) : rM l yX5_checkThere sX5_checkThere rX5_checkThere E [] [.int (iI a)] none (fun _ : Unit => []) := by
  refine rM.of (cc := cX5_checkThere) (maxL := 1) (ret := none) (by decide) rfl (Nat.le_of_ble_eq_true rfl) (fun w h => List.mem_cons_of_mem _ h) ?_
  intro p e s m args below meth c A Q hA hQ C hr hlk hnm
  have C : rC p s m args c E A 1 cX5_checkThere sX5_checkThere RX5 := C
  show rG p l e rX5_checkThere s m args below meth c E A 1 0 0 Q [] 0 [(0, .int (iI a))] []
  refine rg_iload_n C 0 dX5_checkThere_0 rfl rfl ?_
  refine rg_if_ne (tgt := 14) C ⟨by omega, by omega⟩ dX5_checkThere_1 (by decide) (fun h_1 => ?_) (fun h_1 => absurd h_1 (by omega))
  exact rg_vret C hA hQ hr hlk () rfl rfl dX5_checkThere_14
abbrev rX5_checkBetween : Room := { frames := 8, cells := 0, slots := 0, locals := 200 }
set_option maxHeartbeats 4000000 in
set_option maxRecDepth 100000 in
/-- checkBetween, passed -/
theorem kX5_checkBetween (l : Launch) (E : rE) (a : Int) (n : Int) (k : Int) (h0 : n ≤ a ∧ a ≤ k) (h1 : -2147483648 ≤ n ∧ k ≤ 2147483647) : rM l yX5_checkBetween sX5_checkBetween rX5_checkBetween E [] [.int (iI a), .int (iI n), .int (iI k)] none (fun _ : Unit => []) := by
  refine rM.of (cc := cX5_checkBetween) (maxL := 3) (ret := none) (by decide) rfl (Nat.le_of_ble_eq_true rfl) (fun w h => List.mem_cons_of_mem _ h) ?_
  intro p e s m args below meth c A Q hA hQ C hr hlk hnm
  have C : rC p s m args c E A 3 cX5_checkBetween sX5_checkBetween RX5 := C
  show rG p l e rX5_checkBetween s m args below meth c E A 3 0 0 Q [] 0 [(0, .int (iI a)), (1, .int (iI n)), (2, .int (iI k))] []
  refine rg_iload_n C 0 dX5_checkBetween_0 rfl rfl ?_
  refine rg_iload_n C 1 dX5_checkBetween_1 rfl rfl ?_
  refine rg_icmp_lt (tgt := 10) C ⟨by omega, by omega⟩ ⟨by omega, by omega⟩ dX5_checkBetween_2 (by decide) (fun h_2 => absurd h_2 (by omega)) (fun h_2 => ?_)
  refine rg_iload_n C 0 dX5_checkBetween_5 rfl rfl ?_
  refine rg_iload_n C 2 dX5_checkBetween_6 rfl rfl ?_
  refine rg_icmp_le (tgt := 20) C ⟨by omega, by omega⟩ ⟨by omega, by omega⟩ dX5_checkBetween_7 (by decide) (fun h_7 => ?_) (fun h_7 => absurd h_7 (by omega))
  exact rg_vret C hA hQ hr hlk () rfl rfl dX5_checkBetween_20
abbrev rX5_checkFree : Room := { frames := 8, cells := 0, slots := 0, locals := 200 }
set_option maxHeartbeats 4000000 in
set_option maxRecDepth 100000 in
/-- checkFree, passed -/
theorem kX5_checkFree (l : Launch) (E : rE) (a : Int) (h0 : a = 0) : rM l yX5_checkFree sX5_checkFree rX5_checkFree E [] [.int (iI a)] none (fun _ : Unit => []) := by
  refine rM.of (cc := cX5_checkFree) (maxL := 1) (ret := none) (by decide) rfl (Nat.le_of_ble_eq_true rfl) (fun w h => List.mem_cons_of_mem _ h) ?_
  intro p e s m args below meth c A Q hA hQ C hr hlk hnm
  have C : rC p s m args c E A 1 cX5_checkFree sX5_checkFree RX5 := C
  show rG p l e rX5_checkFree s m args below meth c E A 1 0 0 Q [] 0 [(0, .int (iI a))] []
  refine rg_iload_n C 0 dX5_checkFree_0 rfl rfl ?_
  refine rg_if_eq (tgt := 14) C ⟨by omega, by omega⟩ dX5_checkFree_1 (by decide) (fun h_1 => ?_) (fun h_1 => absurd h_1 (by omega))
  exact rg_vret C hA hQ hr hlk () rfl rfl dX5_checkFree_14
abbrev rX5_checkEnough : Room := { frames := 8, cells := 0, slots := 0, locals := 200 }
set_option maxHeartbeats 4000000 in
set_option maxRecDepth 100000 in
/-- checkEnough, passed -/
theorem kX5_checkEnough (l : Launch) (E : rE) (a : Int) (n : Int) (h0 : 0 ≤ n ∧ n ≤ a ∧ a ≤ 2147483647) : rM l yX5_checkEnough sX5_checkEnough rX5_checkEnough E [] [.int (iI a), .int (iI n)] none (fun _ : Unit => []) := by
  refine rM.of (cc := cX5_checkEnough) (maxL := 2) (ret := none) (by decide) rfl (Nat.le_of_ble_eq_true rfl) (fun w h => List.mem_cons_of_mem _ h) ?_
  intro p e s m args below meth c A Q hA hQ C hr hlk hnm
  have C : rC p s m args c E A 2 cX5_checkEnough sX5_checkEnough RX5 := C
  show rG p l e rX5_checkEnough s m args below meth c E A 2 0 0 Q [] 0 [(0, .int (iI a)), (1, .int (iI n))] []
  refine rg_iload_n C 0 dX5_checkEnough_0 rfl rfl ?_
  refine rg_iload_n C 1 dX5_checkEnough_1 rfl rfl ?_
  refine rg_icmp_ge (tgt := 15) C ⟨by omega, by omega⟩ ⟨by omega, by omega⟩ dX5_checkEnough_2 (by decide) (fun h_2 => ?_) (fun h_2 => absurd h_2 (by omega))
  exact rg_vret C hA hQ hr hlk () rfl rfl dX5_checkEnough_15
abbrev rX5_settleToday : Room := { frames := 3, cells := 0, slots := 0, locals := 90 }
set_option maxHeartbeats 4000000 in
set_option maxRecDepth 100000 in
/-- settleToday -/
theorem kX5_settleToday (l : Launch) (E : rE) (d0 : Nat) (v0 : Nat) (v1 : Nat) (v2 : Nat) (v3 : Nat) (v4 : Nat) (th : Nat → Int) (be : Nat → Int) (inf : Nat → Int) (snt : Nat → Int) (out : Int) (w0 : Nat) (w1 : Nat) (w2 : Nat) (w3 : Nat) (w4 : Nat) (sth : Nat → Int) (srch : Nat → Int) (cap : Nat → Int) (wat : Nat → Int) (rel : Int) (g0 : Nat) (g1 : Nat) (g2 : Nat) (g3 : Nat) (g4 : Nat) (g5 : Nat) (g6 : Nat) (g7 : Nat) (g8 : Nat) (g9 : Nat) (g : Nat → Int) (pl : Nat → Int) (pr : Nat → Int) (ra : Nat → Int) (wn : Nat → Int) (sh : Nat → Int) (rt : Nat → Int) (st : Nat → Int) (ag : Nat → Int) (cn : Int) (b0 : Nat) (b1 : Nat) (ent : Nat → Int) (day : Int) (p0 : Nat) (p1 : Nat) (p2 : Nat) (p3 : Nat) (get : Nat → Int) (flo : Nat → Int) (roo : Nat → Int) (s0 : Nat) (s1 : Nat) (s2 : Nat) (s3 : Nat) (sget : Nat → Int) (sflo : Nat → Int) (sroo : Nat → Int) (stale : Int) (hbe : ∀ r : Nat, r < 32 → -1 ≤ be r ∧ be r < 32) (hin : ∀ r : Nat, r < 32 → inI (inf r)) (hst : ∀ i : Nat, i < 40 → -1 ≤ st i ∧ st i < 8) (hag : ∀ j : Nat, (j : Int) < cn → 0 ≤ ag j ∧ ag j < 40) (hcn : 0 ≤ cn ∧ cn ≤ 40) (hrok : ∀ j : Nat, (j : Int) < cn → rOk be pl sh rt st wn (ag j).toNat) (hpl0 : plOk (begF be inf (filZ flo 0 32) 32) (begR cap wat roo 8)) (hstl : stale = 0 ∨ stale = 1) : rM l yX5_settleToday sX5_settleToday rX5_settleToday E [cO d0 5 [.ref v0, .ref w0, .ref g0, .ref b0, .ref p0, .ref s0, .int (iI stale)], cO v0 4 [.ref v1, .ref v2, .ref v3, .ref v4, .int (iI out)], cZ E v1 32 th, cI E v2 32 be, cI E v3 32 inf, cJ E v4 32 snt, cO w0 2 [.ref w1, .ref w2, .ref w3, .ref w4, .long (lI rel)], cZ E w1 8 sth, cI E w2 8 srch, cI E w3 8 cap, cI E w4 8 wat, cO g0 3 [.ref g1, .ref g2, .ref g3, .ref g4, .ref g5, .ref g6, .ref g7, .ref g8, .ref g9, .int (iI cn)], cZ E g1 40 g, cI E g2 40 pl, cI E g3 40 pr, cI E g4 40 ra, cI E g5 40 wn, cI E g6 40 sh, cI E g7 40 rt, cI E g8 40 st, cI E g9 40 ag, cO b0 0 [.ref b1, .int (iI day)], cJ E b1 300 ent, cO p0 1 [.ref p1, .ref p2, .ref p3], cI E p1 40 get, cJ E p2 32 flo, cI E p3 8 roo, cO s0 1 [.ref s1, .ref s2, .ref s3], cI E s1 40 sget, cJ E s2 32 sflo, cI E s3 8 sroo] [.ref d0] none (fun _ : Unit => [cO d0 5 [.ref v0, .ref w0, .ref g0, .ref b0, .ref p0, .ref s0, .int (iI 0)], cO v0 4 [.ref v1, .ref v2, .ref v3, .ref v4, .int (iI out)], cZ E v1 32 th, cI E v2 32 be, cI E v3 32 inf, cJ E v4 32 snt, cO w0 2 [.ref w1, .ref w2, .ref w3, .ref w4, .long (lI rel)], cZ E w1 8 sth, cI E w2 8 srch, cI E w3 8 cap, cI E w4 8 wat, cO g0 3 [.ref g1, .ref g2, .ref g3, .ref g4, .ref g5, .ref g6, .ref g7, .ref g8, .ref g9, .int (iI cn)], cZ E g1 40 g, cI E g2 40 pl, cI E g3 40 pr, cI E g4 40 ra, cI E g5 40 wn, cI E g6 40 sh, cI E g7 40 rt, cI E g8 40 st, cI E g9 40 ag, cO b0 0 [.ref b1, .int (iI day)], cJ E b1 300 ent, cO p0 1 [.ref p1, .ref p2, .ref p3], cI E p1 40 ((tdy be inf cap wat pl sh rt st wn ag cn stale (get, flo, roo)).1), cJ E p2 32 ((tdy be inf cap wat pl sh rt st wn ag cn stale (get, flo, roo)).2.1), cI E p3 8 ((tdy be inf cap wat pl sh rt st wn ag cn stale (get, flo, roo)).2.2), cO s0 1 [.ref s1, .ref s2, .ref s3], cI E s1 40 sget, cJ E s2 32 sflo, cI E s3 8 sroo]) := by
  refine rM.of (cc := cX5_settleToday) (maxL := 1) (ret := none) (by decide) rfl (Nat.le_of_ble_eq_true rfl) (fun w h => List.mem_cons_of_mem _ h) ?_
  intro p e s m args below meth c A Q hA hQ C hr hlk hnm
  have C : rC p s m args c E A 1 cX5_settleToday sX5_settleToday RX5 := C
  show rG p l e rX5_settleToday s m args below meth c E A 1 0 0 Q [cO d0 5 [.ref v0, .ref w0, .ref g0, .ref b0, .ref p0, .ref s0, .int (iI stale)], cO v0 4 [.ref v1, .ref v2, .ref v3, .ref v4, .int (iI out)], cZ E v1 32 th, cI E v2 32 be, cI E v3 32 inf, cJ E v4 32 snt, cO w0 2 [.ref w1, .ref w2, .ref w3, .ref w4, .long (lI rel)], cZ E w1 8 sth, cI E w2 8 srch, cI E w3 8 cap, cI E w4 8 wat, cO g0 3 [.ref g1, .ref g2, .ref g3, .ref g4, .ref g5, .ref g6, .ref g7, .ref g8, .ref g9, .int (iI cn)], cZ E g1 40 g, cI E g2 40 pl, cI E g3 40 pr, cI E g4 40 ra, cI E g5 40 wn, cI E g6 40 sh, cI E g7 40 rt, cI E g8 40 st, cI E g9 40 ag, cO b0 0 [.ref b1, .int (iI day)], cJ E b1 300 ent, cO p0 1 [.ref p1, .ref p2, .ref p3], cI E p1 40 get, cJ E p2 32 flo, cI E p3 8 roo, cO s0 1 [.ref s1, .ref s2, .ref s3], cI E s1 40 sget, cJ E s2 32 sflo, cI E s3 8 sroo] 0 [(0, .ref d0)] []
  refine rg_aload_n C 0 dX5_settleToday_0 rfl rfl ?_
  refine rg_get C fX5_47 0 rfl rfl dX5_settleToday_1 ?_
  refine rg_if_eq (tgt := 43) C ⟨by omega, by omega⟩ dX5_settleToday_4 (by decide) (fun h_4 => ?_) (fun h_4 => ?_)
  · exact rg_vret C hA hQ hr hlk () (by rw [tdy_0 h_4, h_4]) rfl dX5_settleToday_43
  · refine rg_aload_n C 0 dX5_settleToday_7 rfl rfl ?_
    refine rg_get C fX5_40 0 rfl rfl dX5_settleToday_8 ?_
    refine rg_aload_n C 0 dX5_settleToday_11 rfl rfl ?_
    refine rg_get C fX5_10 0 rfl rfl dX5_settleToday_12 ?_
    refine rg_aload_n C 0 dX5_settleToday_15 rfl rfl ?_
    refine rg_get C fX5_19 0 rfl rfl dX5_settleToday_16 ?_
    refine rg_callV (As := [.ref v0, .ref w0]) (rest := []) (wr := [cO d0 5 [.ref v0, .ref w0, .ref g0, .ref b0, .ref p0, .ref s0, .int (iI stale)], cO g0 3 [.ref g1, .ref g2, .ref g3, .ref g4, .ref g5, .ref g6, .ref g7, .ref g8, .ref g9, .int (iI cn)], cZ E g1 40 g, cI E g2 40 pl, cI E g3 40 pr, cI E g4 40 ra, cI E g5 40 wn, cI E g6 40 sh, cI E g7 40 rt, cI E g8 40 st, cI E g9 40 ag, cO b0 0 [.ref b1, .int (iI day)], cJ E b1 300 ent, cO s0 1 [.ref s1, .ref s2, .ref s3], cI E s1 40 sget, cJ E s2 32 sflo, cI E s3 8 sroo]) (w' := fun _ => [cO d0 5 [.ref v0, .ref w0, .ref g0, .ref b0, .ref p0, .ref s0, .int (iI stale)], cO v0 4 [.ref v1, .ref v2, .ref v3, .ref v4, .int (iI out)], cZ E v1 32 th, cI E v2 32 be, cI E v3 32 inf, cJ E v4 32 snt, cO w0 2 [.ref w1, .ref w2, .ref w3, .ref w4, .long (lI rel)], cZ E w1 8 sth, cI E w2 8 srch, cI E w3 8 cap, cI E w4 8 wat, cO g0 3 [.ref g1, .ref g2, .ref g3, .ref g4, .ref g5, .ref g6, .ref g7, .ref g8, .ref g9, .int (iI cn)], cZ E g1 40 g, cI E g2 40 pl, cI E g3 40 pr, cI E g4 40 ra, cI E g5 40 wn, cI E g6 40 sh, cI E g7 40 rt, cI E g8 40 st, cI E g9 40 ag, cO b0 0 [.ref b1, .int (iI day)], cJ E b1 300 ent, cO p0 1 [.ref p1, .ref p2, .ref p3], cI E p1 40 (filZ get 0 40), cJ E p2 32 (begF be inf (filZ flo 0 32) 32), cI E p3 8 (begR cap wat roo 8), cO s0 1 [.ref s1, .ref s2, .ref s3], cI E s1 40 sget, cJ E s2 32 sflo, cI E s3 8 sroo]) C (kX1_begin l E p0 p1 p2 p3 get flo roo v0 v1 v2 v3 v4 th be inf snt out w0 w1 w2 w3 w4 sth srch cap wat rel (by first | assumption | omega) (by first | assumption | omega)) (rcwV C mX1_begin w_227 ⟨Nat.le_of_ble_eq_true rfl, Nat.le_of_ble_eq_true rfl⟩) [23, 24, 25, 26, 1, 2, 3, 4, 5, 6, 7, 8, 9, 10] [0, 11, 12, 13, 14, 15, 16, 17, 18, 19, 20, 21, 22, 27, 28, 29, 30] [0, 21, 22, 23, 24, 25, 26, 27, 28, 29, 30, 1, 2, 3, 4, 5, 6, 7, 8, 9, 10, 11, 12, 17, 18, 19, 20, 13, 14, 15, 16] rfl rfl (by decide) (by decide) (by decide) (fun _ => rfl) (by decide) 0 rfl rfl rfl rfl (Nat.le_of_ble_eq_true rfl) dX5_settleToday_19 ⟨Nat.le_of_ble_eq_true rfl, Nat.le_of_ble_eq_true rfl⟩ (fun _ => ?_)
    show rG p l e rX5_settleToday s m args below meth c E A 1 0 0 Q [cO d0 5 [.ref v0, .ref w0, .ref g0, .ref b0, .ref p0, .ref s0, .int (iI stale)], cO v0 4 [.ref v1, .ref v2, .ref v3, .ref v4, .int (iI out)], cZ E v1 32 th, cI E v2 32 be, cI E v3 32 inf, cJ E v4 32 snt, cO w0 2 [.ref w1, .ref w2, .ref w3, .ref w4, .long (lI rel)], cZ E w1 8 sth, cI E w2 8 srch, cI E w3 8 cap, cI E w4 8 wat, cO g0 3 [.ref g1, .ref g2, .ref g3, .ref g4, .ref g5, .ref g6, .ref g7, .ref g8, .ref g9, .int (iI cn)], cZ E g1 40 g, cI E g2 40 pl, cI E g3 40 pr, cI E g4 40 ra, cI E g5 40 wn, cI E g6 40 sh, cI E g7 40 rt, cI E g8 40 st, cI E g9 40 ag, cO b0 0 [.ref b1, .int (iI day)], cJ E b1 300 ent, cO p0 1 [.ref p1, .ref p2, .ref p3], cI E p1 40 (filZ get 0 40), cJ E p2 32 (begF be inf (filZ flo 0 32) 32), cI E p3 8 (begR cap wat roo 8), cO s0 1 [.ref s1, .ref s2, .ref s3], cI E s1 40 sget, cJ E s2 32 sflo, cI E s3 8 sroo] 22 [(0, .ref d0)] []
    refine rg_aload_n C 0 dX5_settleToday_22 rfl rfl ?_
    refine rg_get C fX5_40 0 rfl rfl dX5_settleToday_23 ?_
    refine rg_aload_n C 0 dX5_settleToday_26 rfl rfl ?_
    refine rg_get C fX5_10 0 rfl rfl dX5_settleToday_27 ?_
    refine rg_aload_n C 0 dX5_settleToday_30 rfl rfl ?_
    refine rg_get C fX5_26 0 rfl rfl dX5_settleToday_31 ?_
    refine rg_iconst C dX5_settleToday_34 ?_
    refine rg_callV (As := [.ref v0, .ref g0, .int (iI (-1))]) (rest := []) (wr := [cO d0 5 [.ref v0, .ref w0, .ref g0, .ref b0, .ref p0, .ref s0, .int (iI stale)], cO w0 2 [.ref w1, .ref w2, .ref w3, .ref w4, .long (lI rel)], cZ E w1 8 sth, cI E w2 8 srch, cI E w3 8 cap, cI E w4 8 wat, cO b0 0 [.ref b1, .int (iI day)], cJ E b1 300 ent, cO s0 1 [.ref s1, .ref s2, .ref s3], cI E s1 40 sget, cJ E s2 32 sflo, cI E s3 8 sroo]) (w' := fun _ => [cO d0 5 [.ref v0, .ref w0, .ref g0, .ref b0, .ref p0, .ref s0, .int (iI stale)], cO v0 4 [.ref v1, .ref v2, .ref v3, .ref v4, .int (iI out)], cZ E v1 32 th, cI E v2 32 be, cI E v3 32 inf, cJ E v4 32 snt, cO w0 2 [.ref w1, .ref w2, .ref w3, .ref w4, .long (lI rel)], cZ E w1 8 sth, cI E w2 8 srch, cI E w3 8 cap, cI E w4 8 wat, cO g0 3 [.ref g1, .ref g2, .ref g3, .ref g4, .ref g5, .ref g6, .ref g7, .ref g8, .ref g9, .int (iI cn)], cZ E g1 40 g, cI E g2 40 pl, cI E g3 40 pr, cI E g4 40 ra, cI E g5 40 wn, cI E g6 40 sh, cI E g7 40 rt, cI E g8 40 st, cI E g9 40 ag, cO b0 0 [.ref b1, .int (iI day)], cJ E b1 300 ent, cO p0 1 [.ref p1, .ref p2, .ref p3], cI E p1 40 ((gab be pl sh rt st wn ag (-1) cn.toNat ((filZ get 0 40), (begF be inf (filZ flo 0 32) 32), (begR cap wat roo 8))).1), cJ E p2 32 ((gab be pl sh rt st wn ag (-1) cn.toNat ((filZ get 0 40), (begF be inf (filZ flo 0 32) 32), (begR cap wat roo 8))).2.1), cI E p3 8 ((gab be pl sh rt st wn ag (-1) cn.toNat ((filZ get 0 40), (begF be inf (filZ flo 0 32) 32), (begR cap wat roo 8))).2.2), cO s0 1 [.ref s1, .ref s2, .ref s3], cI E s1 40 sget, cJ E s2 32 sflo, cI E s3 8 sroo]) C (kX1_giveAllBut l E p0 p1 p2 p3 (filZ get 0 40) (begF be inf (filZ flo 0 32) 32) (begR cap wat roo 8) v0 v1 v2 v3 v4 th be inf snt out g0 g1 g2 g3 g4 g5 g6 g7 g8 g9 g pl pr ra wn sh rt st ag cn (-1) (by first | assumption | omega) (by first | assumption | omega) (by first | assumption | omega) (by first | assumption | omega) (by first | assumption | omega) (by first | assumption | omega) (⟨by decide, by decide⟩)) (rcwV C mX1_giveAllBut w_241 ⟨Nat.le_of_ble_eq_true rfl, Nat.le_of_ble_eq_true rfl⟩) [23, 24, 25, 26, 1, 2, 3, 4, 5, 11, 12, 13, 14, 15, 16, 17, 18, 19, 20] [0, 6, 7, 8, 9, 10, 21, 22, 27, 28, 29, 30] [0, 16, 17, 18, 19, 20, 1, 2, 3, 4, 5, 21, 22, 23, 24, 25, 26, 27, 28, 29, 30, 6, 7, 12, 13, 14, 15, 8, 9, 10, 11] rfl rfl (by decide) (by decide) (by decide) (fun _ => rfl) (by decide) 0 rfl rfl rfl rfl (Nat.le_of_ble_eq_true rfl) dX5_settleToday_35 ⟨Nat.le_of_ble_eq_true rfl, Nat.le_of_ble_eq_true rfl⟩ (fun _ => ?_)
    show rG p l e rX5_settleToday s m args below meth c E A 1 0 0 Q [cO d0 5 [.ref v0, .ref w0, .ref g0, .ref b0, .ref p0, .ref s0, .int (iI stale)], cO v0 4 [.ref v1, .ref v2, .ref v3, .ref v4, .int (iI out)], cZ E v1 32 th, cI E v2 32 be, cI E v3 32 inf, cJ E v4 32 snt, cO w0 2 [.ref w1, .ref w2, .ref w3, .ref w4, .long (lI rel)], cZ E w1 8 sth, cI E w2 8 srch, cI E w3 8 cap, cI E w4 8 wat, cO g0 3 [.ref g1, .ref g2, .ref g3, .ref g4, .ref g5, .ref g6, .ref g7, .ref g8, .ref g9, .int (iI cn)], cZ E g1 40 g, cI E g2 40 pl, cI E g3 40 pr, cI E g4 40 ra, cI E g5 40 wn, cI E g6 40 sh, cI E g7 40 rt, cI E g8 40 st, cI E g9 40 ag, cO b0 0 [.ref b1, .int (iI day)], cJ E b1 300 ent, cO p0 1 [.ref p1, .ref p2, .ref p3], cI E p1 40 ((gab be pl sh rt st wn ag (-1) cn.toNat ((filZ get 0 40), (begF be inf (filZ flo 0 32) 32), (begR cap wat roo 8))).1), cJ E p2 32 ((gab be pl sh rt st wn ag (-1) cn.toNat ((filZ get 0 40), (begF be inf (filZ flo 0 32) 32), (begR cap wat roo 8))).2.1), cI E p3 8 ((gab be pl sh rt st wn ag (-1) cn.toNat ((filZ get 0 40), (begF be inf (filZ flo 0 32) 32), (begR cap wat roo 8))).2.2), cO s0 1 [.ref s1, .ref s2, .ref s3], cI E s1 40 sget, cJ E s2 32 sflo, cI E s3 8 sroo] 38 [(0, .ref d0)] []
    refine rg_aload_n C 0 dX5_settleToday_38 rfl rfl ?_
    refine rg_iconst C dX5_settleToday_39 ?_
    refine rg_put (ws' := [cO d0 5 [.ref v0, .ref w0, .ref g0, .ref b0, .ref p0, .ref s0, .int (iI 0)], cO v0 4 [.ref v1, .ref v2, .ref v3, .ref v4, .int (iI out)], cZ E v1 32 th, cI E v2 32 be, cI E v3 32 inf, cJ E v4 32 snt, cO w0 2 [.ref w1, .ref w2, .ref w3, .ref w4, .long (lI rel)], cZ E w1 8 sth, cI E w2 8 srch, cI E w3 8 cap, cI E w4 8 wat, cO g0 3 [.ref g1, .ref g2, .ref g3, .ref g4, .ref g5, .ref g6, .ref g7, .ref g8, .ref g9, .int (iI cn)], cZ E g1 40 g, cI E g2 40 pl, cI E g3 40 pr, cI E g4 40 ra, cI E g5 40 wn, cI E g6 40 sh, cI E g7 40 rt, cI E g8 40 st, cI E g9 40 ag, cO b0 0 [.ref b1, .int (iI day)], cJ E b1 300 ent, cO p0 1 [.ref p1, .ref p2, .ref p3], cI E p1 40 ((gab be pl sh rt st wn ag (-1) cn.toNat ((filZ get 0 40), (begF be inf (filZ flo 0 32) 32), (begR cap wat roo 8))).1), cJ E p2 32 ((gab be pl sh rt st wn ag (-1) cn.toNat ((filZ get 0 40), (begF be inf (filZ flo 0 32) 32), (begR cap wat roo 8))).2.1), cI E p3 8 ((gab be pl sh rt st wn ag (-1) cn.toNat ((filZ get 0 40), (begF be inf (filZ flo 0 32) 32), (begR cap wat roo 8))).2.2), cO s0 1 [.ref s1, .ref s2, .ref s3], cI E s1 40 sget, cJ E s2 32 sflo, cI E s3 8 sroo]) C fX5_47 layX5 rfl 0 rfl rfl rfl (Nat.le_of_ble_eq_true rfl) dX5_settleToday_40 rfl ?_
    exact rg_vret C hA hQ hr hlk () (by rw [tdy_1 h_4]; rfl) rfl dX5_settleToday_43
abbrev rX5_isShort : Room := { frames := 0, cells := 0, slots := 0, locals := 0 }
set_option maxHeartbeats 4000000 in
set_option maxRecDepth 100000 in
/-- isShort -/
theorem kX5_isShort (l : Launch) (E : rE) (d0 : Nat) (v0 : Nat) (v1 : Nat) (v2 : Nat) (v3 : Nat) (v4 : Nat) (th : Nat → Int) (be : Nat → Int) (inf : Nat → Int) (snt : Nat → Int) (out : Int) (w0 : Nat) (w1 : Nat) (w2 : Nat) (w3 : Nat) (w4 : Nat) (sth : Nat → Int) (srch : Nat → Int) (cap : Nat → Int) (wat : Nat → Int) (rel : Int) (g0 : Nat) (g1 : Nat) (g2 : Nat) (g3 : Nat) (g4 : Nat) (g5 : Nat) (g6 : Nat) (g7 : Nat) (g8 : Nat) (g9 : Nat) (g : Nat → Int) (pl : Nat → Int) (pr : Nat → Int) (ra : Nat → Int) (wn : Nat → Int) (sh : Nat → Int) (rt : Nat → Int) (st : Nat → Int) (ag : Nat → Int) (cn : Int) (b0 : Nat) (b1 : Nat) (ent : Nat → Int) (day : Int) (p0 : Nat) (p1 : Nat) (p2 : Nat) (p3 : Nat) (get : Nat → Int) (flo : Nat → Int) (roo : Nat → Int) (s0 : Nat) (s1 : Nat) (s2 : Nat) (s3 : Nat) (sget : Nat → Int) (sflo : Nat → Int) (sroo : Nat → Int) (stale : Int) (r : Int) (hri : 0 ≤ r ∧ r < 40) (hgi : inI (get r.toNat)) (hwi : inI (wn r.toNat)) : rM l yX5_isShort sX5_isShort rX5_isShort E [cO d0 5 [.ref v0, .ref w0, .ref g0, .ref b0, .ref p0, .ref s0, .int (iI stale)], cO v0 4 [.ref v1, .ref v2, .ref v3, .ref v4, .int (iI out)], cZ E v1 32 th, cI E v2 32 be, cI E v3 32 inf, cJ E v4 32 snt, cO w0 2 [.ref w1, .ref w2, .ref w3, .ref w4, .long (lI rel)], cZ E w1 8 sth, cI E w2 8 srch, cI E w3 8 cap, cI E w4 8 wat, cO g0 3 [.ref g1, .ref g2, .ref g3, .ref g4, .ref g5, .ref g6, .ref g7, .ref g8, .ref g9, .int (iI cn)], cZ E g1 40 g, cI E g2 40 pl, cI E g3 40 pr, cI E g4 40 ra, cI E g5 40 wn, cI E g6 40 sh, cI E g7 40 rt, cI E g8 40 st, cI E g9 40 ag, cO b0 0 [.ref b1, .int (iI day)], cJ E b1 300 ent, cO p0 1 [.ref p1, .ref p2, .ref p3], cI E p1 40 get, cJ E p2 32 flo, cI E p3 8 roo, cO s0 1 [.ref s1, .ref s2, .ref s3], cI E s1 40 sget, cJ E s2 32 sflo, cI E s3 8 sroo] [.ref d0, .int (iI r)] (some (.int (iI (bZ (decide (get r.toNat < wn r.toNat)))))) (fun _ : Unit => [cO d0 5 [.ref v0, .ref w0, .ref g0, .ref b0, .ref p0, .ref s0, .int (iI stale)], cO v0 4 [.ref v1, .ref v2, .ref v3, .ref v4, .int (iI out)], cZ E v1 32 th, cI E v2 32 be, cI E v3 32 inf, cJ E v4 32 snt, cO w0 2 [.ref w1, .ref w2, .ref w3, .ref w4, .long (lI rel)], cZ E w1 8 sth, cI E w2 8 srch, cI E w3 8 cap, cI E w4 8 wat, cO g0 3 [.ref g1, .ref g2, .ref g3, .ref g4, .ref g5, .ref g6, .ref g7, .ref g8, .ref g9, .int (iI cn)], cZ E g1 40 g, cI E g2 40 pl, cI E g3 40 pr, cI E g4 40 ra, cI E g5 40 wn, cI E g6 40 sh, cI E g7 40 rt, cI E g8 40 st, cI E g9 40 ag, cO b0 0 [.ref b1, .int (iI day)], cJ E b1 300 ent, cO p0 1 [.ref p1, .ref p2, .ref p3], cI E p1 40 get, cJ E p2 32 flo, cI E p3 8 roo, cO s0 1 [.ref s1, .ref s2, .ref s3], cI E s1 40 sget, cJ E s2 32 sflo, cI E s3 8 sroo]) := by
  refine rM.of (cc := cX5_isShort) (maxL := 2) (ret := (some FieldType.boolean)) (by decide) rfl (Nat.le_of_ble_eq_true rfl) (fun w h => List.mem_cons_of_mem _ h) ?_
  intro p e s m args below meth c A Q hA hQ C hr hlk hnm
  have C : rC p s m args c E A 2 cX5_isShort sX5_isShort RX5 := C
  show rG p l e rX5_isShort s m args below meth c E A 2 0 0 Q [cO d0 5 [.ref v0, .ref w0, .ref g0, .ref b0, .ref p0, .ref s0, .int (iI stale)], cO v0 4 [.ref v1, .ref v2, .ref v3, .ref v4, .int (iI out)], cZ E v1 32 th, cI E v2 32 be, cI E v3 32 inf, cJ E v4 32 snt, cO w0 2 [.ref w1, .ref w2, .ref w3, .ref w4, .long (lI rel)], cZ E w1 8 sth, cI E w2 8 srch, cI E w3 8 cap, cI E w4 8 wat, cO g0 3 [.ref g1, .ref g2, .ref g3, .ref g4, .ref g5, .ref g6, .ref g7, .ref g8, .ref g9, .int (iI cn)], cZ E g1 40 g, cI E g2 40 pl, cI E g3 40 pr, cI E g4 40 ra, cI E g5 40 wn, cI E g6 40 sh, cI E g7 40 rt, cI E g8 40 st, cI E g9 40 ag, cO b0 0 [.ref b1, .int (iI day)], cJ E b1 300 ent, cO p0 1 [.ref p1, .ref p2, .ref p3], cI E p1 40 get, cJ E p2 32 flo, cI E p3 8 roo, cO s0 1 [.ref s1, .ref s2, .ref s3], cI E s1 40 sget, cJ E s2 32 sflo, cI E s3 8 sroo] 0 [(0, .ref d0), (1, .int (iI r))] []
  refine rg_aload_n C 0 dX5_isShort_0 rfl rfl ?_
  refine rg_get C fX5_40 0 rfl rfl dX5_isShort_1 ?_
  refine rg_get C fX5_149 23 rfl rfl dX5_isShort_4 ?_
  refine rg_iload_n C 1 dX5_isShort_7 rfl rfl ?_
  refine rg_iald C 24 rfl (by decide) (by omega) (by omega) dX5_isShort_8 ?_
  refine rg_aload_n C 0 dX5_isShort_9 rfl rfl ?_
  refine rg_get C fX5_26 0 rfl rfl dX5_isShort_10 ?_
  refine rg_get C fX5_110 11 rfl rfl dX5_isShort_13 ?_
  refine rg_iload_n C 1 dX5_isShort_16 rfl rfl ?_
  refine rg_iald C 16 rfl (by decide) (by omega) (by omega) dX5_isShort_17 ?_
  refine rg_icmp_ge (tgt := 25) C hgi hwi dX5_isShort_18 (by decide) (fun h_18 => ?_) (fun h_18 => ?_)
  · refine rg_iconst C dX5_isShort_25 ?_
    exact rg_zret C hA hQ hr hlk () rfl (by first | rfl | decide | exact (bZ_nar _)) (by rw [decide_eq_false (by omega)]; rfl) dX5_isShort_26
  · refine rg_iconst C dX5_isShort_21 ?_
    refine rg_goto (tgt := 26) C dX5_isShort_22 (by decide) ?_
    exact rg_zret C hA hQ hr hlk () rfl (by first | rfl | decide | exact (bZ_nar _)) (by rw [decide_eq_true (by omega)]; rfl) dX5_isShort_26
abbrev rX5_oldestThatWouldGetLess : Room := { frames := 0, cells := 0, slots := 0, locals := 0 }
set_option maxHeartbeats 4000000 in
set_option maxRecDepth 100000 in
/-- oldestThatWouldGetLess -/
theorem kX5_oldestThatWouldGetLess (l : Launch) (E : rE) (d0 : Nat) (v0 : Nat) (v1 : Nat) (v2 : Nat) (v3 : Nat) (v4 : Nat) (th : Nat → Int) (be : Nat → Int) (inf : Nat → Int) (snt : Nat → Int) (out : Int) (w0 : Nat) (w1 : Nat) (w2 : Nat) (w3 : Nat) (w4 : Nat) (sth : Nat → Int) (srch : Nat → Int) (cap : Nat → Int) (wat : Nat → Int) (rel : Int) (g0 : Nat) (g1 : Nat) (g2 : Nat) (g3 : Nat) (g4 : Nat) (g5 : Nat) (g6 : Nat) (g7 : Nat) (g8 : Nat) (g9 : Nat) (g : Nat → Int) (pl : Nat → Int) (pr : Nat → Int) (ra : Nat → Int) (wn : Nat → Int) (sh : Nat → Int) (rt : Nat → Int) (st : Nat → Int) (ag : Nat → Int) (cn : Int) (b0 : Nat) (b1 : Nat) (ent : Nat → Int) (day : Int) (p0 : Nat) (p1 : Nat) (p2 : Nat) (p3 : Nat) (get : Nat → Int) (flo : Nat → Int) (roo : Nat → Int) (s0 : Nat) (s1 : Nat) (s2 : Nat) (s3 : Nat) (sget : Nat → Int) (sflo : Nat → Int) (sroo : Nat → Int) (stale : Int) (hag : ∀ j : Nat, (j : Int) < cn → 0 ≤ ag j ∧ ag j < 40) (hcn : 0 ≤ cn ∧ cn ≤ 40) (hgi : ∀ i : Nat, i < 40 → inI (get i)) (hsi : ∀ i : Nat, i < 40 → inI (sget i)) : rM l yX5_oldestThatWouldGetLess sX5_oldestThatWouldGetLess rX5_oldestThatWouldGetLess E [cO d0 5 [.ref v0, .ref w0, .ref g0, .ref b0, .ref p0, .ref s0, .int (iI stale)], cO v0 4 [.ref v1, .ref v2, .ref v3, .ref v4, .int (iI out)], cZ E v1 32 th, cI E v2 32 be, cI E v3 32 inf, cJ E v4 32 snt, cO w0 2 [.ref w1, .ref w2, .ref w3, .ref w4, .long (lI rel)], cZ E w1 8 sth, cI E w2 8 srch, cI E w3 8 cap, cI E w4 8 wat, cO g0 3 [.ref g1, .ref g2, .ref g3, .ref g4, .ref g5, .ref g6, .ref g7, .ref g8, .ref g9, .int (iI cn)], cZ E g1 40 g, cI E g2 40 pl, cI E g3 40 pr, cI E g4 40 ra, cI E g5 40 wn, cI E g6 40 sh, cI E g7 40 rt, cI E g8 40 st, cI E g9 40 ag, cO b0 0 [.ref b1, .int (iI day)], cJ E b1 300 ent, cO p0 1 [.ref p1, .ref p2, .ref p3], cI E p1 40 get, cJ E p2 32 flo, cI E p3 8 roo, cO s0 1 [.ref s1, .ref s2, .ref s3], cI E s1 40 sget, cJ E s2 32 sflo, cI E s3 8 sroo] [.ref d0] (some (.int (iI (oldL sget get ag cn.toNat 0)))) (fun _ : Unit => [cO d0 5 [.ref v0, .ref w0, .ref g0, .ref b0, .ref p0, .ref s0, .int (iI stale)], cO v0 4 [.ref v1, .ref v2, .ref v3, .ref v4, .int (iI out)], cZ E v1 32 th, cI E v2 32 be, cI E v3 32 inf, cJ E v4 32 snt, cO w0 2 [.ref w1, .ref w2, .ref w3, .ref w4, .long (lI rel)], cZ E w1 8 sth, cI E w2 8 srch, cI E w3 8 cap, cI E w4 8 wat, cO g0 3 [.ref g1, .ref g2, .ref g3, .ref g4, .ref g5, .ref g6, .ref g7, .ref g8, .ref g9, .int (iI cn)], cZ E g1 40 g, cI E g2 40 pl, cI E g3 40 pr, cI E g4 40 ra, cI E g5 40 wn, cI E g6 40 sh, cI E g7 40 rt, cI E g8 40 st, cI E g9 40 ag, cO b0 0 [.ref b1, .int (iI day)], cJ E b1 300 ent, cO p0 1 [.ref p1, .ref p2, .ref p3], cI E p1 40 get, cJ E p2 32 flo, cI E p3 8 roo, cO s0 1 [.ref s1, .ref s2, .ref s3], cI E s1 40 sget, cJ E s2 32 sflo, cI E s3 8 sroo]) := by
  refine rM.of (cc := cX5_oldestThatWouldGetLess) (maxL := 3) (ret := (some FieldType.int)) (by decide) rfl (Nat.le_of_ble_eq_true rfl) (fun w h => List.mem_cons_of_mem _ h) ?_
  intro p e s m args below meth c A Q hA hQ C hr hlk hnm
  have C : rC p s m args c E A 3 cX5_oldestThatWouldGetLess sX5_oldestThatWouldGetLess RX5 := C
  have L2 : ∀ (n : Nat) (k : Int), (0 ≤ k ∧ k ≤ cn) → (oldL sget get ag cn.toNat 0 = oldL sget get ag (cn - k).toNat k.toNat) → ((cn - k).toNat < n) → rG p l e rX5_oldestThatWouldGetLess s m args below meth c E A 3 0 0 Q [cO d0 5 [.ref v0, .ref w0, .ref g0, .ref b0, .ref p0, .ref s0, .int (iI stale)], cO v0 4 [.ref v1, .ref v2, .ref v3, .ref v4, .int (iI out)], cZ E v1 32 th, cI E v2 32 be, cI E v3 32 inf, cJ E v4 32 snt, cO w0 2 [.ref w1, .ref w2, .ref w3, .ref w4, .long (lI rel)], cZ E w1 8 sth, cI E w2 8 srch, cI E w3 8 cap, cI E w4 8 wat, cO g0 3 [.ref g1, .ref g2, .ref g3, .ref g4, .ref g5, .ref g6, .ref g7, .ref g8, .ref g9, .int (iI cn)], cZ E g1 40 g, cI E g2 40 pl, cI E g3 40 pr, cI E g4 40 ra, cI E g5 40 wn, cI E g6 40 sh, cI E g7 40 rt, cI E g8 40 st, cI E g9 40 ag, cO b0 0 [.ref b1, .int (iI day)], cJ E b1 300 ent, cO p0 1 [.ref p1, .ref p2, .ref p3], cI E p1 40 get, cJ E p2 32 flo, cI E p3 8 roo, cO s0 1 [.ref s1, .ref s2, .ref s3], cI E s1 40 sget, cJ E s2 32 sflo, cI E s3 8 sroo] 2 [(0, .ref d0), (1, .int (iI k))] [] := by
    intro n
    induction n with
    | zero => intro k h1 h3 hm; exact absurd hm (Nat.not_lt_zero _)
    | succ n ih =>
      intro k h1 h3 hm
      refine rg_iload_n C 1 dX5_oldestThatWouldGetLess_2 rfl rfl ?_
      refine rg_aload_n C 0 dX5_oldestThatWouldGetLess_3 rfl rfl ?_
      refine rg_get C fX5_26 0 rfl rfl dX5_oldestThatWouldGetLess_4 ?_
      refine rg_get C fX5_140 11 rfl rfl dX5_oldestThatWouldGetLess_7 ?_
      refine rg_icmp_ge (tgt := 52) C ⟨by omega, by omega⟩ ⟨by omega, by omega⟩ dX5_oldestThatWouldGetLess_10 (by decide) (fun h_10 => ?_) (fun h_10 => ?_)
      · refine rg_iconst C dX5_oldestThatWouldGetLess_52 ?_
        exact rg_iret C hA hQ hr hlk () rfl (by rw [h3, oldL_end (by omega)]) dX5_oldestThatWouldGetLess_53
      · have ha9 := hag k.toNat (by omega)
        have hg9 := hgi (ag k.toNat).toNat (by omega)
        have hs9 := hsi (ag k.toNat).toNat (by omega)
        refine rg_aload_n C 0 dX5_oldestThatWouldGetLess_13 rfl rfl ?_
        refine rg_get C fX5_26 0 rfl rfl dX5_oldestThatWouldGetLess_14 ?_
        refine rg_get C fX5_143 11 rfl rfl dX5_oldestThatWouldGetLess_17 ?_
        refine rg_iload_n C 1 dX5_oldestThatWouldGetLess_20 rfl rfl ?_
        refine rg_iald C 20 rfl (by decide) (by omega) (by omega) dX5_oldestThatWouldGetLess_21 ?_
        refine rg_istore_n (lv' := [(2, .int (iI (ag k.toNat))), (0, .ref d0), (1, .int (iI k))]) C dX5_oldestThatWouldGetLess_22 rfl (by decide) rfl ?_
        refine rg_aload_n C 1 dX5_oldestThatWouldGetLess_23 rfl rfl ?_
        refine rg_get C fX5_44 0 rfl rfl dX5_oldestThatWouldGetLess_24 ?_
        refine rg_get C fX5_149 27 rfl rfl dX5_oldestThatWouldGetLess_27 ?_
        refine rg_iload_n C 0 dX5_oldestThatWouldGetLess_30 rfl rfl ?_
        refine rg_iald C 28 rfl (by decide) (by omega) (by omega) dX5_oldestThatWouldGetLess_31 ?_
        refine rg_aload_n C 1 dX5_oldestThatWouldGetLess_32 rfl rfl ?_
        refine rg_get C fX5_40 0 rfl rfl dX5_oldestThatWouldGetLess_33 ?_
        refine rg_get C fX5_149 23 rfl rfl dX5_oldestThatWouldGetLess_36 ?_
        refine rg_iload_n C 0 dX5_oldestThatWouldGetLess_39 rfl rfl ?_
        refine rg_iald C 24 rfl (by decide) (by omega) (by omega) dX5_oldestThatWouldGetLess_40 ?_
        refine rg_icmp_ge (tgt := 46) C hs9 hg9 dX5_oldestThatWouldGetLess_41 (by decide) (fun h_41 => ?_) (fun h_41 => ?_)
        · refine rg_iinc (k := 2) (lv' := [(1, .int (iI (k + 1))), (2, .int (iI (ag k.toNat))), (0, .ref d0)]) C dX5_oldestThatWouldGetLess_46 rfl (by decide) rfl ?_
          refine rg_goto (tgt := 2) C dX5_oldestThatWouldGetLess_49 (by decide) ?_
          refine rG.plv [2, 0] rfl ?_
          exact ih (k + 1) (by omega) (h3.trans (oldL_on h1.1 (by omega) (by omega))) (by omega)
        · refine rg_iload_n C 0 dX5_oldestThatWouldGetLess_44 rfl rfl ?_
          exact rg_iret C hA hQ hr hlk () rfl (by rw [h3, oldL_hit h1.1 (by omega) (by omega)]) dX5_oldestThatWouldGetLess_45
  show rG p l e rX5_oldestThatWouldGetLess s m args below meth c E A 3 0 0 Q [cO d0 5 [.ref v0, .ref w0, .ref g0, .ref b0, .ref p0, .ref s0, .int (iI stale)], cO v0 4 [.ref v1, .ref v2, .ref v3, .ref v4, .int (iI out)], cZ E v1 32 th, cI E v2 32 be, cI E v3 32 inf, cJ E v4 32 snt, cO w0 2 [.ref w1, .ref w2, .ref w3, .ref w4, .long (lI rel)], cZ E w1 8 sth, cI E w2 8 srch, cI E w3 8 cap, cI E w4 8 wat, cO g0 3 [.ref g1, .ref g2, .ref g3, .ref g4, .ref g5, .ref g6, .ref g7, .ref g8, .ref g9, .int (iI cn)], cZ E g1 40 g, cI E g2 40 pl, cI E g3 40 pr, cI E g4 40 ra, cI E g5 40 wn, cI E g6 40 sh, cI E g7 40 rt, cI E g8 40 st, cI E g9 40 ag, cO b0 0 [.ref b1, .int (iI day)], cJ E b1 300 ent, cO p0 1 [.ref p1, .ref p2, .ref p3], cI E p1 40 get, cJ E p2 32 flo, cI E p3 8 roo, cO s0 1 [.ref s1, .ref s2, .ref s3], cI E s1 40 sget, cJ E s2 32 sflo, cI E s3 8 sroo] 0 [(0, .ref d0)] []
  refine rg_iconst C dX5_oldestThatWouldGetLess_0 ?_
  refine rg_istore_n (lv' := [(1, .int (iI 0)), (0, .ref d0)]) C dX5_oldestThatWouldGetLess_1 rfl (by decide) rfl ?_
  refine rG.plv [1, 0] rfl ?_
  exact L2 _ 0 (by omega) (by rw [show (cn - 0).toNat = cn.toNat by omega]; rfl) (Nat.lt_succ_self _)
abbrev rX5_held : Room := { frames := 0, cells := 0, slots := 0, locals := 0 }
set_option maxHeartbeats 4000000 in
set_option maxRecDepth 100000 in
/-- held -/
theorem kX5_held (l : Launch) (E : rE) (d0 : Nat) (v0 : Nat) (v1 : Nat) (v2 : Nat) (v3 : Nat) (v4 : Nat) (th : Nat → Int) (be : Nat → Int) (inf : Nat → Int) (snt : Nat → Int) (out : Int) (w0 : Nat) (w1 : Nat) (w2 : Nat) (w3 : Nat) (w4 : Nat) (sth : Nat → Int) (srch : Nat → Int) (cap : Nat → Int) (wat : Nat → Int) (rel : Int) (g0 : Nat) (g1 : Nat) (g2 : Nat) (g3 : Nat) (g4 : Nat) (g5 : Nat) (g6 : Nat) (g7 : Nat) (g8 : Nat) (g9 : Nat) (g : Nat → Int) (pl : Nat → Int) (pr : Nat → Int) (ra : Nat → Int) (wn : Nat → Int) (sh : Nat → Int) (rt : Nat → Int) (st : Nat → Int) (ag : Nat → Int) (cn : Int) (b0 : Nat) (b1 : Nat) (ent : Nat → Int) (day : Int) (p0 : Nat) (p1 : Nat) (p2 : Nat) (p3 : Nat) (get : Nat → Int) (flo : Nat → Int) (roo : Nat → Int) (s0 : Nat) (s1 : Nat) (s2 : Nat) (s3 : Nat) (sget : Nat → Int) (sflo : Nat → Int) (sroo : Nat → Int) (stale : Int) (r : Int) (w : Int) (hsth : ∀ r : Nat, r < 8 → sth r = 0 ∨ sth r = 1) (hr0 : inI r) (hw0 : inI w) : rM l yX5_held sX5_held rX5_held E [cO d0 5 [.ref v0, .ref w0, .ref g0, .ref b0, .ref p0, .ref s0, .int (iI stale)], cO v0 4 [.ref v1, .ref v2, .ref v3, .ref v4, .int (iI out)], cZ E v1 32 th, cI E v2 32 be, cI E v3 32 inf, cJ E v4 32 snt, cO w0 2 [.ref w1, .ref w2, .ref w3, .ref w4, .long (lI rel)], cZ E w1 8 sth, cI E w2 8 srch, cI E w3 8 cap, cI E w4 8 wat, cO g0 3 [.ref g1, .ref g2, .ref g3, .ref g4, .ref g5, .ref g6, .ref g7, .ref g8, .ref g9, .int (iI cn)], cZ E g1 40 g, cI E g2 40 pl, cI E g3 40 pr, cI E g4 40 ra, cI E g5 40 wn, cI E g6 40 sh, cI E g7 40 rt, cI E g8 40 st, cI E g9 40 ag, cO b0 0 [.ref b1, .int (iI day)], cJ E b1 300 ent, cO p0 1 [.ref p1, .ref p2, .ref p3], cI E p1 40 get, cJ E p2 32 flo, cI E p3 8 roo, cO s0 1 [.ref s1, .ref s2, .ref s3], cI E s1 40 sget, cJ E s2 32 sflo, cI E s3 8 sroo] [.ref d0, .int (iI r), .int (iI w)] (some (.int (iI (if r < 0 ∨ 8 ≤ r ∨ sth r.toNat = 0 then -1 else if w = 0 then wat r.toNat else if w = 1 then cap r.toNat else if w = 2 then srch r.toNat else -1)))) (fun _ : Unit => [cO d0 5 [.ref v0, .ref w0, .ref g0, .ref b0, .ref p0, .ref s0, .int (iI stale)], cO v0 4 [.ref v1, .ref v2, .ref v3, .ref v4, .int (iI out)], cZ E v1 32 th, cI E v2 32 be, cI E v3 32 inf, cJ E v4 32 snt, cO w0 2 [.ref w1, .ref w2, .ref w3, .ref w4, .long (lI rel)], cZ E w1 8 sth, cI E w2 8 srch, cI E w3 8 cap, cI E w4 8 wat, cO g0 3 [.ref g1, .ref g2, .ref g3, .ref g4, .ref g5, .ref g6, .ref g7, .ref g8, .ref g9, .int (iI cn)], cZ E g1 40 g, cI E g2 40 pl, cI E g3 40 pr, cI E g4 40 ra, cI E g5 40 wn, cI E g6 40 sh, cI E g7 40 rt, cI E g8 40 st, cI E g9 40 ag, cO b0 0 [.ref b1, .int (iI day)], cJ E b1 300 ent, cO p0 1 [.ref p1, .ref p2, .ref p3], cI E p1 40 get, cJ E p2 32 flo, cI E p3 8 roo, cO s0 1 [.ref s1, .ref s2, .ref s3], cI E s1 40 sget, cJ E s2 32 sflo, cI E s3 8 sroo]) := by
  refine rM.of (cc := cX5_held) (maxL := 3) (ret := (some FieldType.int)) (by decide) rfl (Nat.le_of_ble_eq_true rfl) (fun w h => List.mem_cons_of_mem _ h) ?_
  intro p e s m args below meth c A Q hA hQ C hr hlk hnm
  have C : rC p s m args c E A 3 cX5_held sX5_held RX5 := C
  show rG p l e rX5_held s m args below meth c E A 3 0 0 Q [cO d0 5 [.ref v0, .ref w0, .ref g0, .ref b0, .ref p0, .ref s0, .int (iI stale)], cO v0 4 [.ref v1, .ref v2, .ref v3, .ref v4, .int (iI out)], cZ E v1 32 th, cI E v2 32 be, cI E v3 32 inf, cJ E v4 32 snt, cO w0 2 [.ref w1, .ref w2, .ref w3, .ref w4, .long (lI rel)], cZ E w1 8 sth, cI E w2 8 srch, cI E w3 8 cap, cI E w4 8 wat, cO g0 3 [.ref g1, .ref g2, .ref g3, .ref g4, .ref g5, .ref g6, .ref g7, .ref g8, .ref g9, .int (iI cn)], cZ E g1 40 g, cI E g2 40 pl, cI E g3 40 pr, cI E g4 40 ra, cI E g5 40 wn, cI E g6 40 sh, cI E g7 40 rt, cI E g8 40 st, cI E g9 40 ag, cO b0 0 [.ref b1, .int (iI day)], cJ E b1 300 ent, cO p0 1 [.ref p1, .ref p2, .ref p3], cI E p1 40 get, cJ E p2 32 flo, cI E p3 8 roo, cO s0 1 [.ref s1, .ref s2, .ref s3], cI E s1 40 sget, cJ E s2 32 sflo, cI E s3 8 sroo] 0 [(0, .ref d0), (1, .int (iI r)), (2, .int (iI w))] []
  refine rg_iload_n C 1 dX5_held_0 rfl rfl ?_
  refine rg_if_lt (tgt := 22) C ⟨by omega, by omega⟩ dX5_held_1 (by decide) (fun h_1 => ?_) (fun h_1 => ?_)
  · refine rg_iconst C dX5_held_22 ?_
    exact rg_iret C hA hQ hr hlk () rfl (by repeat (first | rw [if_pos (by omega)] | rw [if_neg (by omega)])) dX5_held_23
  · refine rg_iload_n C 1 dX5_held_4 rfl rfl ?_
    refine rg_bipush (z := 8) C dX5_held_5 (by decide) ?_
    refine rg_icmp_ge (tgt := 22) C ⟨by omega, by omega⟩ ⟨by decide, by decide⟩ dX5_held_7 (by decide) (fun h_7 => ?_) (fun h_7 => ?_)
    · refine rg_iconst C dX5_held_22 ?_
      exact rg_iret C hA hQ hr hlk () rfl (by repeat (first | rw [if_pos (by omega)] | rw [if_neg (by omega)])) dX5_held_23
    · have hs9 := hsth r.toNat (by omega)
      refine rg_aload_n C 0 dX5_held_10 rfl rfl ?_
      refine rg_get C fX5_19 0 rfl rfl dX5_held_11 ?_
      refine rg_get C fX5_78 6 rfl rfl dX5_held_14 ?_
      refine rg_iload_n C 1 dX5_held_17 rfl rfl ?_
      refine rg_zald C 7 rfl (by decide) (by omega) (by omega) dX5_held_18 ?_
      refine rg_if_ne (tgt := 24) C ⟨by omega, by omega⟩ dX5_held_19 (by decide) (fun h_19 => ?_) (fun h_19 => ?_)
      · refine rg_iload_n C 2 dX5_held_24 rfl rfl ?_
        rcases (show w < 0 ∨ 2 < w ∨ w = 0 ∨ w = 1 ∨ w = 2 by omega) with h_25 | h_25 | h_25 | h_25 | h_25
        · refine rg_tableOut (tgt := 82) C ⟨by omega, by omega⟩ dX5_held_25 (Or.inl h_25) (by decide) ?_
          refine rg_iconst C dX5_held_82 ?_
          exact rg_iret C hA hQ hr hlk () rfl (by repeat (first | rw [if_pos (by omega)] | rw [if_neg (by omega)])) dX5_held_83
        · refine rg_tableOut (tgt := 82) C ⟨by omega, by omega⟩ dX5_held_25 (Or.inr h_25) (by decide) ?_
          refine rg_iconst C dX5_held_82 ?_
          exact rg_iret C hA hQ hr hlk () rfl (by repeat (first | rw [if_pos (by omega)] | rw [if_neg (by omega)])) dX5_held_83
        · refine rg_tableIn (off := 27) (tgt := 52) C ⟨by omega, by omega⟩ dX5_held_25 (by omega) (by omega) (by rw [h_25]; rfl) (by decide) ?_
          refine rg_aload_n C 0 dX5_held_52 rfl rfl ?_
          refine rg_get C fX5_19 0 rfl rfl dX5_held_53 ?_
          refine rg_get C fX5_125 6 rfl rfl dX5_held_56 ?_
          refine rg_iload_n C 1 dX5_held_59 rfl rfl ?_
          refine rg_iald C 10 rfl (by decide) (by omega) (by omega) dX5_held_60 ?_
          exact rg_iret C hA hQ hr hlk () rfl (by repeat (first | rw [if_pos (by omega)] | rw [if_neg (by omega)])) dX5_held_61
        · refine rg_tableIn (off := 37) (tgt := 62) C ⟨by omega, by omega⟩ dX5_held_25 (by omega) (by omega) (by rw [h_25]; rfl) (by decide) ?_
          refine rg_aload_n C 0 dX5_held_62 rfl rfl ?_
          refine rg_get C fX5_19 0 rfl rfl dX5_held_63 ?_
          refine rg_get C fX5_195 6 rfl rfl dX5_held_66 ?_
          refine rg_iload_n C 1 dX5_held_69 rfl rfl ?_
          refine rg_iald C 9 rfl (by decide) (by omega) (by omega) dX5_held_70 ?_
          exact rg_iret C hA hQ hr hlk () rfl (by repeat (first | rw [if_pos (by omega)] | rw [if_neg (by omega)])) dX5_held_71
        · refine rg_tableIn (off := 47) (tgt := 72) C ⟨by omega, by omega⟩ dX5_held_25 (by omega) (by omega) (by rw [h_25]; rfl) (by decide) ?_
          refine rg_aload_n C 0 dX5_held_72 rfl rfl ?_
          refine rg_get C fX5_19 0 rfl rfl dX5_held_73 ?_
          refine rg_get C fX5_122 6 rfl rfl dX5_held_76 ?_
          refine rg_iload_n C 1 dX5_held_79 rfl rfl ?_
          refine rg_iald C 8 rfl (by decide) (by omega) (by omega) dX5_held_80 ?_
          exact rg_iret C hA hQ hr hlk () rfl (by repeat (first | rw [if_pos (by omega)] | rw [if_neg (by omega)])) dX5_held_81
      · refine rg_iconst C dX5_held_22 ?_
        exact rg_iret C hA hQ hr hlk () rfl (by repeat (first | rw [if_pos (by omega)] | rw [if_neg (by omega)])) dX5_held_23
abbrev rX5_book : Room := { frames := 3, cells := 0, slots := 0, locals := 70 }
set_option maxHeartbeats 4000000 in
set_option maxRecDepth 100000 in
/-- book -/
theorem kX5_book (l : Launch) (E : rE) (d0 : Nat) (v0 : Nat) (v1 : Nat) (v2 : Nat) (v3 : Nat) (v4 : Nat) (th : Nat → Int) (be : Nat → Int) (inf : Nat → Int) (snt : Nat → Int) (out : Int) (w0 : Nat) (w1 : Nat) (w2 : Nat) (w3 : Nat) (w4 : Nat) (sth : Nat → Int) (srch : Nat → Int) (cap : Nat → Int) (wat : Nat → Int) (rel : Int) (g0 : Nat) (g1 : Nat) (g2 : Nat) (g3 : Nat) (g4 : Nat) (g5 : Nat) (g6 : Nat) (g7 : Nat) (g8 : Nat) (g9 : Nat) (g : Nat → Int) (pl : Nat → Int) (pr : Nat → Int) (ra : Nat → Int) (wn : Nat → Int) (sh : Nat → Int) (rt : Nat → Int) (st : Nat → Int) (ag : Nat → Int) (cn : Int) (b0 : Nat) (b1 : Nat) (ent : Nat → Int) (day : Int) (p0 : Nat) (p1 : Nat) (p2 : Nat) (p3 : Nat) (get : Nat → Int) (flo : Nat → Int) (roo : Nat → Int) (s0 : Nat) (s1 : Nat) (s2 : Nat) (s3 : Nat) (sget : Nat → Int) (sflo : Nat → Int) (sroo : Nat → Int) (stale : Int) (d : Int) (w : Int) (hday : 0 ≤ day ∧ day ≤ 1000000) (hd0 : inI d) (hw0 : inI w) : rM l yX5_book sX5_book rX5_book E [cO d0 5 [.ref v0, .ref w0, .ref g0, .ref b0, .ref p0, .ref s0, .int (iI stale)], cO v0 4 [.ref v1, .ref v2, .ref v3, .ref v4, .int (iI out)], cZ E v1 32 th, cI E v2 32 be, cI E v3 32 inf, cJ E v4 32 snt, cO w0 2 [.ref w1, .ref w2, .ref w3, .ref w4, .long (lI rel)], cZ E w1 8 sth, cI E w2 8 srch, cI E w3 8 cap, cI E w4 8 wat, cO g0 3 [.ref g1, .ref g2, .ref g3, .ref g4, .ref g5, .ref g6, .ref g7, .ref g8, .ref g9, .int (iI cn)], cZ E g1 40 g, cI E g2 40 pl, cI E g3 40 pr, cI E g4 40 ra, cI E g5 40 wn, cI E g6 40 sh, cI E g7 40 rt, cI E g8 40 st, cI E g9 40 ag, cO b0 0 [.ref b1, .int (iI day)], cJ E b1 300 ent, cO p0 1 [.ref p1, .ref p2, .ref p3], cI E p1 40 get, cJ E p2 32 flo, cI E p3 8 roo, cO s0 1 [.ref s1, .ref s2, .ref s3], cI E s1 40 sget, cJ E s2 32 sflo, cI E s3 8 sroo] [.ref d0, .int (iI d), .int (iI w)] (some (.long (lI (if d < 0 ∨ day ≤ d ∨ d < day - 60 ∨ w < 0 ∨ 5 ≤ w then -1 else ent (d % 60 * 5 + w).toNat)))) (fun _ : Unit => [cO d0 5 [.ref v0, .ref w0, .ref g0, .ref b0, .ref p0, .ref s0, .int (iI stale)], cO v0 4 [.ref v1, .ref v2, .ref v3, .ref v4, .int (iI out)], cZ E v1 32 th, cI E v2 32 be, cI E v3 32 inf, cJ E v4 32 snt, cO w0 2 [.ref w1, .ref w2, .ref w3, .ref w4, .long (lI rel)], cZ E w1 8 sth, cI E w2 8 srch, cI E w3 8 cap, cI E w4 8 wat, cO g0 3 [.ref g1, .ref g2, .ref g3, .ref g4, .ref g5, .ref g6, .ref g7, .ref g8, .ref g9, .int (iI cn)], cZ E g1 40 g, cI E g2 40 pl, cI E g3 40 pr, cI E g4 40 ra, cI E g5 40 wn, cI E g6 40 sh, cI E g7 40 rt, cI E g8 40 st, cI E g9 40 ag, cO b0 0 [.ref b1, .int (iI day)], cJ E b1 300 ent, cO p0 1 [.ref p1, .ref p2, .ref p3], cI E p1 40 get, cJ E p2 32 flo, cI E p3 8 roo, cO s0 1 [.ref s1, .ref s2, .ref s3], cI E s1 40 sget, cJ E s2 32 sflo, cI E s3 8 sroo]) := by
  refine rM.of (cc := cX5_book) (maxL := 3) (ret := (some FieldType.long)) (by decide) rfl (Nat.le_of_ble_eq_true rfl) (fun w h => List.mem_cons_of_mem _ h) ?_
  intro p e s m args below meth c A Q hA hQ C hr hlk hnm
  have C : rC p s m args c E A 3 cX5_book sX5_book RX5 := C
  show rG p l e rX5_book s m args below meth c E A 3 0 0 Q [cO d0 5 [.ref v0, .ref w0, .ref g0, .ref b0, .ref p0, .ref s0, .int (iI stale)], cO v0 4 [.ref v1, .ref v2, .ref v3, .ref v4, .int (iI out)], cZ E v1 32 th, cI E v2 32 be, cI E v3 32 inf, cJ E v4 32 snt, cO w0 2 [.ref w1, .ref w2, .ref w3, .ref w4, .long (lI rel)], cZ E w1 8 sth, cI E w2 8 srch, cI E w3 8 cap, cI E w4 8 wat, cO g0 3 [.ref g1, .ref g2, .ref g3, .ref g4, .ref g5, .ref g6, .ref g7, .ref g8, .ref g9, .int (iI cn)], cZ E g1 40 g, cI E g2 40 pl, cI E g3 40 pr, cI E g4 40 ra, cI E g5 40 wn, cI E g6 40 sh, cI E g7 40 rt, cI E g8 40 st, cI E g9 40 ag, cO b0 0 [.ref b1, .int (iI day)], cJ E b1 300 ent, cO p0 1 [.ref p1, .ref p2, .ref p3], cI E p1 40 get, cJ E p2 32 flo, cI E p3 8 roo, cO s0 1 [.ref s1, .ref s2, .ref s3], cI E s1 40 sget, cJ E s2 32 sflo, cI E s3 8 sroo] 0 [(0, .ref d0), (1, .int (iI d)), (2, .int (iI w))] []
  refine rg_aload_n C 0 dX5_book_0 rfl rfl ?_
  refine rg_get C fX5_33 0 rfl rfl dX5_book_1 ?_
  refine rg_iload_n C 1 dX5_book_4 rfl rfl ?_
  refine rg_iload_n C 2 dX5_book_5 rfl rfl ?_
  refine rg_callV (As := [.int (iI d), .int (iI w)]) (rest := []) (wr := [cO d0 5 [.ref v0, .ref w0, .ref g0, .ref b0, .ref p0, .ref s0, .int (iI stale)], cO v0 4 [.ref v1, .ref v2, .ref v3, .ref v4, .int (iI out)], cZ E v1 32 th, cI E v2 32 be, cI E v3 32 inf, cJ E v4 32 snt, cO w0 2 [.ref w1, .ref w2, .ref w3, .ref w4, .long (lI rel)], cZ E w1 8 sth, cI E w2 8 srch, cI E w3 8 cap, cI E w4 8 wat, cO g0 3 [.ref g1, .ref g2, .ref g3, .ref g4, .ref g5, .ref g6, .ref g7, .ref g8, .ref g9, .int (iI cn)], cZ E g1 40 g, cI E g2 40 pl, cI E g3 40 pr, cI E g4 40 ra, cI E g5 40 wn, cI E g6 40 sh, cI E g7 40 rt, cI E g8 40 st, cI E g9 40 ag, cO p0 1 [.ref p1, .ref p2, .ref p3], cI E p1 40 get, cJ E p2 32 flo, cI E p3 8 roo, cO s0 1 [.ref s1, .ref s2, .ref s3], cI E s1 40 sget, cJ E s2 32 sflo, cI E s3 8 sroo]) (w' := fun _ => [cO d0 5 [.ref v0, .ref w0, .ref g0, .ref b0, .ref p0, .ref s0, .int (iI stale)], cO v0 4 [.ref v1, .ref v2, .ref v3, .ref v4, .int (iI out)], cZ E v1 32 th, cI E v2 32 be, cI E v3 32 inf, cJ E v4 32 snt, cO w0 2 [.ref w1, .ref w2, .ref w3, .ref w4, .long (lI rel)], cZ E w1 8 sth, cI E w2 8 srch, cI E w3 8 cap, cI E w4 8 wat, cO g0 3 [.ref g1, .ref g2, .ref g3, .ref g4, .ref g5, .ref g6, .ref g7, .ref g8, .ref g9, .int (iI cn)], cZ E g1 40 g, cI E g2 40 pl, cI E g3 40 pr, cI E g4 40 ra, cI E g5 40 wn, cI E g6 40 sh, cI E g7 40 rt, cI E g8 40 st, cI E g9 40 ag, cO b0 0 [.ref b1, .int (iI day)], cJ E b1 300 ent, cO p0 1 [.ref p1, .ref p2, .ref p3], cI E p1 40 get, cJ E p2 32 flo, cI E p3 8 roo, cO s0 1 [.ref s1, .ref s2, .ref s3], cI E s1 40 sget, cJ E s2 32 sflo, cI E s3 8 sroo]) C (kX0_read l E b0 b1 ent day d w (by first | assumption | omega) (by first | assumption | omega) (by first | assumption | omega)) (rcwV C mX0_read w_320 ⟨Nat.le_of_ble_eq_true rfl, Nat.le_of_ble_eq_true rfl⟩) [21, 22] [0, 1, 2, 3, 4, 5, 6, 7, 8, 9, 10, 11, 12, 13, 14, 15, 16, 17, 18, 19, 20, 23, 24, 25, 26, 27, 28, 29, 30] [0, 1, 2, 3, 4, 5, 6, 7, 8, 9, 10, 11, 12, 13, 14, 15, 16, 17, 18, 19, 20, 29, 30, 21, 22, 23, 24, 25, 26, 27, 28] rfl rfl (by decide) (by decide) (by decide) (fun _ => rfl) (by decide) 0 rfl rfl rfl rfl (Nat.le_of_ble_eq_true rfl) dX5_book_6 ⟨Nat.le_of_ble_eq_true rfl, Nat.le_of_ble_eq_true rfl⟩ (fun _ => ?_)
  show rG p l e rX5_book s m args below meth c E A 3 0 0 Q [cO d0 5 [.ref v0, .ref w0, .ref g0, .ref b0, .ref p0, .ref s0, .int (iI stale)], cO v0 4 [.ref v1, .ref v2, .ref v3, .ref v4, .int (iI out)], cZ E v1 32 th, cI E v2 32 be, cI E v3 32 inf, cJ E v4 32 snt, cO w0 2 [.ref w1, .ref w2, .ref w3, .ref w4, .long (lI rel)], cZ E w1 8 sth, cI E w2 8 srch, cI E w3 8 cap, cI E w4 8 wat, cO g0 3 [.ref g1, .ref g2, .ref g3, .ref g4, .ref g5, .ref g6, .ref g7, .ref g8, .ref g9, .int (iI cn)], cZ E g1 40 g, cI E g2 40 pl, cI E g3 40 pr, cI E g4 40 ra, cI E g5 40 wn, cI E g6 40 sh, cI E g7 40 rt, cI E g8 40 st, cI E g9 40 ag, cO b0 0 [.ref b1, .int (iI day)], cJ E b1 300 ent, cO p0 1 [.ref p1, .ref p2, .ref p3], cI E p1 40 get, cJ E p2 32 flo, cI E p3 8 roo, cO s0 1 [.ref s1, .ref s2, .ref s3], cI E s1 40 sget, cJ E s2 32 sflo, cI E s3 8 sroo] 9 [(0, .ref d0), (1, .int (iI d)), (2, .int (iI w))] [.long (lI (if d < 0 ∨ day ≤ d ∨ d < day - 60 ∨ w < 0 ∨ 5 ≤ w then -1 else ent (d % 60 * 5 + w).toNat))]
  exact rg_lret C hA hQ hr hlk () rfl rfl dX5_book_9
abbrev rX5_about : Room := { frames := 0, cells := 0, slots := 0, locals := 0 }
set_option maxHeartbeats 4000000 in
set_option maxRecDepth 100000 in
/-- about -/
theorem kX5_about (l : Launch) (E : rE) (d0 : Nat) (v0 : Nat) (v1 : Nat) (v2 : Nat) (v3 : Nat) (v4 : Nat) (th : Nat → Int) (be : Nat → Int) (inf : Nat → Int) (snt : Nat → Int) (out : Int) (w0 : Nat) (w1 : Nat) (w2 : Nat) (w3 : Nat) (w4 : Nat) (sth : Nat → Int) (srch : Nat → Int) (cap : Nat → Int) (wat : Nat → Int) (rel : Int) (g0 : Nat) (g1 : Nat) (g2 : Nat) (g3 : Nat) (g4 : Nat) (g5 : Nat) (g6 : Nat) (g7 : Nat) (g8 : Nat) (g9 : Nat) (g : Nat → Int) (pl : Nat → Int) (pr : Nat → Int) (ra : Nat → Int) (wn : Nat → Int) (sh : Nat → Int) (rt : Nat → Int) (st : Nat → Int) (ag : Nat → Int) (cn : Int) (b0 : Nat) (b1 : Nat) (ent : Nat → Int) (day : Int) (p0 : Nat) (p1 : Nat) (p2 : Nat) (p3 : Nat) (get : Nat → Int) (flo : Nat → Int) (roo : Nat → Int) (s0 : Nat) (s1 : Nat) (s2 : Nat) (s3 : Nat) (sget : Nat → Int) (sflo : Nat → Int) (sroo : Nat → Int) (stale : Int) (r : Int) (w : Int) (hgg : ∀ r : Nat, r < 40 → g r = 0 ∨ g r = 1) (hr0 : inI r) (hw0 : inI w) : rM l yX5_about sX5_about rX5_about E [cO d0 5 [.ref v0, .ref w0, .ref g0, .ref b0, .ref p0, .ref s0, .int (iI stale)], cO v0 4 [.ref v1, .ref v2, .ref v3, .ref v4, .int (iI out)], cZ E v1 32 th, cI E v2 32 be, cI E v3 32 inf, cJ E v4 32 snt, cO w0 2 [.ref w1, .ref w2, .ref w3, .ref w4, .long (lI rel)], cZ E w1 8 sth, cI E w2 8 srch, cI E w3 8 cap, cI E w4 8 wat, cO g0 3 [.ref g1, .ref g2, .ref g3, .ref g4, .ref g5, .ref g6, .ref g7, .ref g8, .ref g9, .int (iI cn)], cZ E g1 40 g, cI E g2 40 pl, cI E g3 40 pr, cI E g4 40 ra, cI E g5 40 wn, cI E g6 40 sh, cI E g7 40 rt, cI E g8 40 st, cI E g9 40 ag, cO b0 0 [.ref b1, .int (iI day)], cJ E b1 300 ent, cO p0 1 [.ref p1, .ref p2, .ref p3], cI E p1 40 get, cJ E p2 32 flo, cI E p3 8 roo, cO s0 1 [.ref s1, .ref s2, .ref s3], cI E s1 40 sget, cJ E s2 32 sflo, cI E s3 8 sroo] [.ref d0, .int (iI r), .int (iI w)] (some (.int (iI (if r < 0 ∨ 40 ≤ r ∨ g r.toNat = 0 then -1 else if w = 0 then pr r.toNat else if w = 1 then ra r.toNat else if w = 2 then wn r.toNat else if w = 3 then sh r.toNat else if w = 4 then st r.toNat else -1)))) (fun _ : Unit => [cO d0 5 [.ref v0, .ref w0, .ref g0, .ref b0, .ref p0, .ref s0, .int (iI stale)], cO v0 4 [.ref v1, .ref v2, .ref v3, .ref v4, .int (iI out)], cZ E v1 32 th, cI E v2 32 be, cI E v3 32 inf, cJ E v4 32 snt, cO w0 2 [.ref w1, .ref w2, .ref w3, .ref w4, .long (lI rel)], cZ E w1 8 sth, cI E w2 8 srch, cI E w3 8 cap, cI E w4 8 wat, cO g0 3 [.ref g1, .ref g2, .ref g3, .ref g4, .ref g5, .ref g6, .ref g7, .ref g8, .ref g9, .int (iI cn)], cZ E g1 40 g, cI E g2 40 pl, cI E g3 40 pr, cI E g4 40 ra, cI E g5 40 wn, cI E g6 40 sh, cI E g7 40 rt, cI E g8 40 st, cI E g9 40 ag, cO b0 0 [.ref b1, .int (iI day)], cJ E b1 300 ent, cO p0 1 [.ref p1, .ref p2, .ref p3], cI E p1 40 get, cJ E p2 32 flo, cI E p3 8 roo, cO s0 1 [.ref s1, .ref s2, .ref s3], cI E s1 40 sget, cJ E s2 32 sflo, cI E s3 8 sroo]) := by
  refine rM.of (cc := cX5_about) (maxL := 3) (ret := (some FieldType.int)) (by decide) rfl (Nat.le_of_ble_eq_true rfl) (fun w h => List.mem_cons_of_mem _ h) ?_
  intro p e s m args below meth c A Q hA hQ C hr hlk hnm
  have C : rC p s m args c E A 3 cX5_about sX5_about RX5 := C
  show rG p l e rX5_about s m args below meth c E A 3 0 0 Q [cO d0 5 [.ref v0, .ref w0, .ref g0, .ref b0, .ref p0, .ref s0, .int (iI stale)], cO v0 4 [.ref v1, .ref v2, .ref v3, .ref v4, .int (iI out)], cZ E v1 32 th, cI E v2 32 be, cI E v3 32 inf, cJ E v4 32 snt, cO w0 2 [.ref w1, .ref w2, .ref w3, .ref w4, .long (lI rel)], cZ E w1 8 sth, cI E w2 8 srch, cI E w3 8 cap, cI E w4 8 wat, cO g0 3 [.ref g1, .ref g2, .ref g3, .ref g4, .ref g5, .ref g6, .ref g7, .ref g8, .ref g9, .int (iI cn)], cZ E g1 40 g, cI E g2 40 pl, cI E g3 40 pr, cI E g4 40 ra, cI E g5 40 wn, cI E g6 40 sh, cI E g7 40 rt, cI E g8 40 st, cI E g9 40 ag, cO b0 0 [.ref b1, .int (iI day)], cJ E b1 300 ent, cO p0 1 [.ref p1, .ref p2, .ref p3], cI E p1 40 get, cJ E p2 32 flo, cI E p3 8 roo, cO s0 1 [.ref s1, .ref s2, .ref s3], cI E s1 40 sget, cJ E s2 32 sflo, cI E s3 8 sroo] 0 [(0, .ref d0), (1, .int (iI r)), (2, .int (iI w))] []
  refine rg_iload_n C 1 dX5_about_0 rfl rfl ?_
  refine rg_if_lt (tgt := 22) C ⟨by omega, by omega⟩ dX5_about_1 (by decide) (fun h_1 => ?_) (fun h_1 => ?_)
  · refine rg_iconst C dX5_about_22 ?_
    exact rg_iret C hA hQ hr hlk () rfl (by repeat (first | rw [if_pos (by omega)] | rw [if_neg (by omega)])) dX5_about_23
  · refine rg_iload_n C 1 dX5_about_4 rfl rfl ?_
    refine rg_bipush (z := 40) C dX5_about_5 (by decide) ?_
    refine rg_icmp_ge (tgt := 22) C ⟨by omega, by omega⟩ ⟨by decide, by decide⟩ dX5_about_7 (by decide) (fun h_7 => ?_) (fun h_7 => ?_)
    · refine rg_iconst C dX5_about_22 ?_
      exact rg_iret C hA hQ hr hlk () rfl (by repeat (first | rw [if_pos (by omega)] | rw [if_neg (by omega)])) dX5_about_23
    · have hs9 := hgg r.toNat (by omega)
      refine rg_aload_n C 0 dX5_about_10 rfl rfl ?_
      refine rg_get C fX5_26 0 rfl rfl dX5_about_11 ?_
      refine rg_get C fX5_85 11 rfl rfl dX5_about_14 ?_
      refine rg_iload_n C 1 dX5_about_17 rfl rfl ?_
      refine rg_zald C 12 rfl (by decide) (by omega) (by omega) dX5_about_18 ?_
      refine rg_if_ne (tgt := 24) C ⟨by omega, by omega⟩ dX5_about_19 (by decide) (fun h_19 => ?_) (fun h_19 => ?_)
      · refine rg_iload_n C 2 dX5_about_24 rfl rfl ?_
        rcases (show w < 0 ∨ 4 < w ∨ w = 0 ∨ w = 1 ∨ w = 2 ∨ w = 3 ∨ w = 4 by omega) with h_25 | h_25 | h_25 | h_25 | h_25 | h_25 | h_25
        · refine rg_tableOut (tgt := 110) C ⟨by omega, by omega⟩ dX5_about_25 (Or.inl h_25) (by decide) ?_
          refine rg_iconst C dX5_about_110 ?_
          exact rg_iret C hA hQ hr hlk () rfl (by repeat (first | rw [if_pos (by omega)] | rw [if_neg (by omega)])) dX5_about_111
        · refine rg_tableOut (tgt := 110) C ⟨by omega, by omega⟩ dX5_about_25 (Or.inr h_25) (by decide) ?_
          refine rg_iconst C dX5_about_110 ?_
          exact rg_iret C hA hQ hr hlk () rfl (by repeat (first | rw [if_pos (by omega)] | rw [if_neg (by omega)])) dX5_about_111
        · refine rg_tableIn (off := 35) (tgt := 60) C ⟨by omega, by omega⟩ dX5_about_25 (by omega) (by omega) (by rw [h_25]; rfl) (by decide) ?_
          refine rg_aload_n C 0 dX5_about_60 rfl rfl ?_
          refine rg_get C fX5_26 0 rfl rfl dX5_about_61 ?_
          refine rg_get C fX5_202 11 rfl rfl dX5_about_64 ?_
          refine rg_iload_n C 1 dX5_about_67 rfl rfl ?_
          refine rg_iald C 14 rfl (by decide) (by omega) (by omega) dX5_about_68 ?_
          exact rg_iret C hA hQ hr hlk () rfl (by repeat (first | rw [if_pos (by omega)] | rw [if_neg (by omega)])) dX5_about_69
        · refine rg_tableIn (off := 45) (tgt := 70) C ⟨by omega, by omega⟩ dX5_about_25 (by omega) (by omega) (by rw [h_25]; rfl) (by decide) ?_
          refine rg_aload_n C 0 dX5_about_70 rfl rfl ?_
          refine rg_get C fX5_26 0 rfl rfl dX5_about_71 ?_
          refine rg_get C fX5_106 11 rfl rfl dX5_about_74 ?_
          refine rg_iload_n C 1 dX5_about_77 rfl rfl ?_
          refine rg_iald C 15 rfl (by decide) (by omega) (by omega) dX5_about_78 ?_
          exact rg_iret C hA hQ hr hlk () rfl (by repeat (first | rw [if_pos (by omega)] | rw [if_neg (by omega)])) dX5_about_79
        · refine rg_tableIn (off := 55) (tgt := 80) C ⟨by omega, by omega⟩ dX5_about_25 (by omega) (by omega) (by rw [h_25]; rfl) (by decide) ?_
          refine rg_aload_n C 0 dX5_about_80 rfl rfl ?_
          refine rg_get C fX5_26 0 rfl rfl dX5_about_81 ?_
          refine rg_get C fX5_110 11 rfl rfl dX5_about_84 ?_
          refine rg_iload_n C 1 dX5_about_87 rfl rfl ?_
          refine rg_iald C 16 rfl (by decide) (by omega) (by omega) dX5_about_88 ?_
          exact rg_iret C hA hQ hr hlk () rfl (by repeat (first | rw [if_pos (by omega)] | rw [if_neg (by omega)])) dX5_about_89
        · refine rg_tableIn (off := 65) (tgt := 90) C ⟨by omega, by omega⟩ dX5_about_25 (by omega) (by omega) (by rw [h_25]; rfl) (by decide) ?_
          refine rg_aload_n C 0 dX5_about_90 rfl rfl ?_
          refine rg_get C fX5_26 0 rfl rfl dX5_about_91 ?_
          refine rg_get C fX5_205 11 rfl rfl dX5_about_94 ?_
          refine rg_iload_n C 1 dX5_about_97 rfl rfl ?_
          refine rg_iald C 17 rfl (by decide) (by omega) (by omega) dX5_about_98 ?_
          exact rg_iret C hA hQ hr hlk () rfl (by repeat (first | rw [if_pos (by omega)] | rw [if_neg (by omega)])) dX5_about_99
        · refine rg_tableIn (off := 75) (tgt := 100) C ⟨by omega, by omega⟩ dX5_about_25 (by omega) (by omega) (by rw [h_25]; rfl) (by decide) ?_
          refine rg_aload_n C 0 dX5_about_100 rfl rfl ?_
          refine rg_get C fX5_26 0 rfl rfl dX5_about_101 ?_
          refine rg_get C fX5_208 11 rfl rfl dX5_about_104 ?_
          refine rg_iload_n C 1 dX5_about_107 rfl rfl ?_
          refine rg_iald C 19 rfl (by decide) (by omega) (by omega) dX5_about_108 ?_
          exact rg_iret C hA hQ hr hlk () rfl (by repeat (first | rw [if_pos (by omega)] | rw [if_neg (by omega)])) dX5_about_109
      · refine rg_iconst C dX5_about_22 ?_
        exact rg_iret C hA hQ hr hlk () rfl (by repeat (first | rw [if_pos (by omega)] | rw [if_neg (by omega)])) dX5_about_23
abbrev rX5_aged : Room := { frames := 0, cells := 0, slots := 0, locals := 0 }
set_option maxHeartbeats 4000000 in
set_option maxRecDepth 100000 in
/-- aged -/
theorem kX5_aged (l : Launch) (E : rE) (d0 : Nat) (v0 : Nat) (v1 : Nat) (v2 : Nat) (v3 : Nat) (v4 : Nat) (th : Nat → Int) (be : Nat → Int) (inf : Nat → Int) (snt : Nat → Int) (out : Int) (w0 : Nat) (w1 : Nat) (w2 : Nat) (w3 : Nat) (w4 : Nat) (sth : Nat → Int) (srch : Nat → Int) (cap : Nat → Int) (wat : Nat → Int) (rel : Int) (g0 : Nat) (g1 : Nat) (g2 : Nat) (g3 : Nat) (g4 : Nat) (g5 : Nat) (g6 : Nat) (g7 : Nat) (g8 : Nat) (g9 : Nat) (g : Nat → Int) (pl : Nat → Int) (pr : Nat → Int) (ra : Nat → Int) (wn : Nat → Int) (sh : Nat → Int) (rt : Nat → Int) (st : Nat → Int) (ag : Nat → Int) (cn : Int) (b0 : Nat) (b1 : Nat) (ent : Nat → Int) (day : Int) (p0 : Nat) (p1 : Nat) (p2 : Nat) (p3 : Nat) (get : Nat → Int) (flo : Nat → Int) (roo : Nat → Int) (s0 : Nat) (s1 : Nat) (s2 : Nat) (s3 : Nat) (sget : Nat → Int) (sflo : Nat → Int) (sroo : Nat → Int) (stale : Int) (k : Int) (hcn : 0 ≤ cn ∧ cn ≤ 40) (hk0 : inI k) : rM l yX5_aged sX5_aged rX5_aged E [cO d0 5 [.ref v0, .ref w0, .ref g0, .ref b0, .ref p0, .ref s0, .int (iI stale)], cO v0 4 [.ref v1, .ref v2, .ref v3, .ref v4, .int (iI out)], cZ E v1 32 th, cI E v2 32 be, cI E v3 32 inf, cJ E v4 32 snt, cO w0 2 [.ref w1, .ref w2, .ref w3, .ref w4, .long (lI rel)], cZ E w1 8 sth, cI E w2 8 srch, cI E w3 8 cap, cI E w4 8 wat, cO g0 3 [.ref g1, .ref g2, .ref g3, .ref g4, .ref g5, .ref g6, .ref g7, .ref g8, .ref g9, .int (iI cn)], cZ E g1 40 g, cI E g2 40 pl, cI E g3 40 pr, cI E g4 40 ra, cI E g5 40 wn, cI E g6 40 sh, cI E g7 40 rt, cI E g8 40 st, cI E g9 40 ag, cO b0 0 [.ref b1, .int (iI day)], cJ E b1 300 ent, cO p0 1 [.ref p1, .ref p2, .ref p3], cI E p1 40 get, cJ E p2 32 flo, cI E p3 8 roo, cO s0 1 [.ref s1, .ref s2, .ref s3], cI E s1 40 sget, cJ E s2 32 sflo, cI E s3 8 sroo] [.ref d0, .int (iI k)] (some (.int (iI (if k < 0 ∨ cn ≤ k then -1 else ag k.toNat)))) (fun _ : Unit => [cO d0 5 [.ref v0, .ref w0, .ref g0, .ref b0, .ref p0, .ref s0, .int (iI stale)], cO v0 4 [.ref v1, .ref v2, .ref v3, .ref v4, .int (iI out)], cZ E v1 32 th, cI E v2 32 be, cI E v3 32 inf, cJ E v4 32 snt, cO w0 2 [.ref w1, .ref w2, .ref w3, .ref w4, .long (lI rel)], cZ E w1 8 sth, cI E w2 8 srch, cI E w3 8 cap, cI E w4 8 wat, cO g0 3 [.ref g1, .ref g2, .ref g3, .ref g4, .ref g5, .ref g6, .ref g7, .ref g8, .ref g9, .int (iI cn)], cZ E g1 40 g, cI E g2 40 pl, cI E g3 40 pr, cI E g4 40 ra, cI E g5 40 wn, cI E g6 40 sh, cI E g7 40 rt, cI E g8 40 st, cI E g9 40 ag, cO b0 0 [.ref b1, .int (iI day)], cJ E b1 300 ent, cO p0 1 [.ref p1, .ref p2, .ref p3], cI E p1 40 get, cJ E p2 32 flo, cI E p3 8 roo, cO s0 1 [.ref s1, .ref s2, .ref s3], cI E s1 40 sget, cJ E s2 32 sflo, cI E s3 8 sroo]) := by
  refine rM.of (cc := cX5_aged) (maxL := 2) (ret := (some FieldType.int)) (by decide) rfl (Nat.le_of_ble_eq_true rfl) (fun w h => List.mem_cons_of_mem _ h) ?_
  intro p e s m args below meth c A Q hA hQ C hr hlk hnm
  have C : rC p s m args c E A 2 cX5_aged sX5_aged RX5 := C
  show rG p l e rX5_aged s m args below meth c E A 2 0 0 Q [cO d0 5 [.ref v0, .ref w0, .ref g0, .ref b0, .ref p0, .ref s0, .int (iI stale)], cO v0 4 [.ref v1, .ref v2, .ref v3, .ref v4, .int (iI out)], cZ E v1 32 th, cI E v2 32 be, cI E v3 32 inf, cJ E v4 32 snt, cO w0 2 [.ref w1, .ref w2, .ref w3, .ref w4, .long (lI rel)], cZ E w1 8 sth, cI E w2 8 srch, cI E w3 8 cap, cI E w4 8 wat, cO g0 3 [.ref g1, .ref g2, .ref g3, .ref g4, .ref g5, .ref g6, .ref g7, .ref g8, .ref g9, .int (iI cn)], cZ E g1 40 g, cI E g2 40 pl, cI E g3 40 pr, cI E g4 40 ra, cI E g5 40 wn, cI E g6 40 sh, cI E g7 40 rt, cI E g8 40 st, cI E g9 40 ag, cO b0 0 [.ref b1, .int (iI day)], cJ E b1 300 ent, cO p0 1 [.ref p1, .ref p2, .ref p3], cI E p1 40 get, cJ E p2 32 flo, cI E p3 8 roo, cO s0 1 [.ref s1, .ref s2, .ref s3], cI E s1 40 sget, cJ E s2 32 sflo, cI E s3 8 sroo] 0 [(0, .ref d0), (1, .int (iI k))] []
  refine rg_iload_n C 1 dX5_aged_0 rfl rfl ?_
  refine rg_if_lt (tgt := 15) C ⟨by omega, by omega⟩ dX5_aged_1 (by decide) (fun h_1 => ?_) (fun h_1 => ?_)
  · refine rg_iconst C dX5_aged_15 ?_
    refine rg_goto (tgt := 28) C dX5_aged_16 (by decide) ?_
    exact rg_iret C hA hQ hr hlk () rfl (by repeat (first | rw [if_pos (by omega)] | rw [if_neg (by omega)])) dX5_aged_28
  · refine rg_iload_n C 1 dX5_aged_4 rfl rfl ?_
    refine rg_aload_n C 0 dX5_aged_5 rfl rfl ?_
    refine rg_get C fX5_26 0 rfl rfl dX5_aged_6 ?_
    refine rg_get C fX5_140 11 rfl rfl dX5_aged_9 ?_
    refine rg_icmp_lt (tgt := 19) C ⟨by omega, by omega⟩ ⟨by omega, by omega⟩ dX5_aged_12 (by decide) (fun h_12 => ?_) (fun h_12 => ?_)
    · refine rg_aload_n C 0 dX5_aged_19 rfl rfl ?_
      refine rg_get C fX5_26 0 rfl rfl dX5_aged_20 ?_
      refine rg_get C fX5_143 11 rfl rfl dX5_aged_23 ?_
      refine rg_iload_n C 1 dX5_aged_26 rfl rfl ?_
      refine rg_iald C 20 rfl (by decide) (by omega) (by omega) dX5_aged_27 ?_
      exact rg_iret C hA hQ hr hlk () rfl (by repeat (first | rw [if_pos (by omega)] | rw [if_neg (by omega)])) dX5_aged_28
    · refine rg_iconst C dX5_aged_15 ?_
      refine rg_goto (tgt := 28) C dX5_aged_16 (by decide) ?_
      exact rg_iret C hA hQ hr hlk () rfl (by repeat (first | rw [if_pos (by omega)] | rw [if_neg (by omega)])) dX5_aged_28
end
