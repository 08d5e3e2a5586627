section
-- ===== PART A: goes FIRST, ahead of the names: the tables' words, and 'selects' of the private methods out of them =====
/-- a private method of a class that the tables say can be made, by its rows of tables_1 -/
def lw_okq (q : MethodName × Nat) : Prop := (q.1.cls ≠ "java/lang/invoke/MethodHandle" ∧ q.1.cls ≠ "java/lang/invoke/VarHandle") ∧ Cond.instantiable q.1.cls q.2 ∈ tables_1 ∧ Cond.privateMethod q.1 ∈ tables_1 ∧ Cond.instanceMethod q.1 ∈ tables_1
theorem lw_p0 : lw_okq (⟨"RiverDesk", "settleToday", "()V"⟩, 7) := ⟨⟨by decide +kernel, by decide +kernel⟩, List.mem_of_getElem? (i := 19) (by decide +kernel), List.mem_of_getElem? (i := 205) (by decide +kernel), List.mem_of_getElem? (i := 206) (by decide +kernel)⟩
theorem lw_p1 : lw_okq (⟨"RiverDesk$Plan", "pour", "(LRiverDesk$River;I)V"⟩, 3) := ⟨⟨by decide +kernel, by decide +kernel⟩, List.mem_of_getElem? (i := 158) (by decide +kernel), List.mem_of_getElem? (i := 219) (by decide +kernel), List.mem_of_getElem? (i := 220) (by decide +kernel)⟩
theorem lw_p2 : lw_okq (⟨"RiverDesk", "isShort", "(I)Z"⟩, 7) := ⟨⟨by decide +kernel, by decide +kernel⟩, List.mem_of_getElem? (i := 19) (by decide +kernel), List.mem_of_getElem? (i := 252) (by decide +kernel), List.mem_of_getElem? (i := 253) (by decide +kernel)⟩
theorem lw_p3 : lw_okq (⟨"java/lang/Throwable", "fillInStackTrace", "(I)Ljava/lang/Throwable;"⟩, 6) := ⟨⟨by decide +kernel, by decide +kernel⟩, List.mem_of_getElem? (i := 367) (by decide +kernel), List.mem_of_getElem? (i := 365) (by decide +kernel), List.mem_of_getElem? (i := 366) (by decide +kernel)⟩
theorem lw_p4 : lw_okq (⟨"RiverDesk", "checkPath", "(II)V"⟩, 7) := ⟨⟨by decide +kernel, by decide +kernel⟩, List.mem_of_getElem? (i := 19) (by decide +kernel), List.mem_of_getElem? (i := 479) (by decide +kernel), List.mem_of_getElem? (i := 480) (by decide +kernel)⟩
theorem lw_p5 : lw_okq (⟨"RiverDesk", "checkRight", "(I)V"⟩, 7) := ⟨⟨by decide +kernel, by decide +kernel⟩, List.mem_of_getElem? (i := 19) (by decide +kernel), List.mem_of_getElem? (i := 518) (by decide +kernel), List.mem_of_getElem? (i := 519) (by decide +kernel)⟩
theorem lw_p6 : lw_okq (⟨"RiverDesk", "checkReach", "(I)V"⟩, 7) := ⟨⟨by decide +kernel, by decide +kernel⟩, List.mem_of_getElem? (i := 19) (by decide +kernel), List.mem_of_getElem? (i := 540) (by decide +kernel), List.mem_of_getElem? (i := 541) (by decide +kernel)⟩
theorem lw_p7 : lw_okq (⟨"RiverDesk", "oldestThatWouldGetLess", "()I"⟩, 7) := ⟨⟨by decide +kernel, by decide +kernel⟩, List.mem_of_getElem? (i := 19) (by decide +kernel), List.mem_of_getElem? (i := 588) (by decide +kernel), List.mem_of_getElem? (i := 589) (by decide +kernel)⟩
theorem lw_p8 : lw_okq (⟨"RiverDeskModel", "isOn", "(II)Z"⟩, 23) := ⟨⟨by decide +kernel, by decide +kernel⟩, List.mem_of_getElem? (i := 599) (by decide +kernel), List.mem_of_getElem? (i := 696) (by decide +kernel), List.mem_of_getElem? (i := 697) (by decide +kernel)⟩
theorem lw_p9 : lw_okq (⟨"RiverDeskModel", "isTaken", "(II)Z"⟩, 23) := ⟨⟨by decide +kernel, by decide +kernel⟩, List.mem_of_getElem? (i := 599) (by decide +kernel), List.mem_of_getElem? (i := 700) (by decide +kernel), List.mem_of_getElem? (i := 701) (by decide +kernel)⟩
theorem lw_p10 : lw_okq (⟨"RiverDeskModel", "lay", "(IIII)V"⟩, 23) := ⟨⟨by decide +kernel, by decide +kernel⟩, List.mem_of_getElem? (i := 599) (by decide +kernel), List.mem_of_getElem? (i := 704) (by decide +kernel), List.mem_of_getElem? (i := 705) (by decide +kernel)⟩
theorem lw_p11 : lw_okq (⟨"RiverDeskModel", "wrongRight", "(I)I"⟩, 23) := ⟨⟨by decide +kernel, by decide +kernel⟩, List.mem_of_getElem? (i := 599) (by decide +kernel), List.mem_of_getElem? (i := 716) (by decide +kernel), List.mem_of_getElem? (i := 717) (by decide +kernel)⟩
theorem lw_p12 : lw_okq (⟨"RiverDeskModel", "wrongReach", "(I)I"⟩, 23) := ⟨⟨by decide +kernel, by decide +kernel⟩, List.mem_of_getElem? (i := 599) (by decide +kernel), List.mem_of_getElem? (i := 728) (by decide +kernel), List.mem_of_getElem? (i := 729) (by decide +kernel)⟩
theorem lw_p13 : lw_okq (⟨"RiverDeskModel", "make", "(III)Z"⟩, 23) := ⟨⟨by decide +kernel, by decide +kernel⟩, List.mem_of_getElem? (i := 599) (by decide +kernel), List.mem_of_getElem? (i := 740) (by decide +kernel), List.mem_of_getElem? (i := 741) (by decide +kernel)⟩
theorem lw_p14 : lw_okq (⟨"RiverDeskModel", "age", "()V"⟩, 23) := ⟨⟨by decide +kernel, by decide +kernel⟩, List.mem_of_getElem? (i := 599) (by decide +kernel), List.mem_of_getElem? (i := 744) (by decide +kernel), List.mem_of_getElem? (i := 745) (by decide +kernel)⟩
theorem lw_p15 : lw_okq (⟨"RiverDeskModel", "holdsPlan", "(I)Z"⟩, 23) := ⟨⟨by decide +kernel, by decide +kernel⟩, List.mem_of_getElem? (i := 599) (by decide +kernel), List.mem_of_getElem? (i := 748) (by decide +kernel), List.mem_of_getElem? (i := 749) (by decide +kernel)⟩
def lw_privs_1 : List (MethodName × Nat) := [(⟨"RiverDesk", "settleToday", "()V"⟩, 7), (⟨"RiverDesk$Plan", "pour", "(LRiverDesk$River;I)V"⟩, 3), (⟨"RiverDesk", "isShort", "(I)Z"⟩, 7), (⟨"java/lang/Throwable", "fillInStackTrace", "(I)Ljava/lang/Throwable;"⟩, 6), (⟨"RiverDesk", "checkPath", "(II)V"⟩, 7), (⟨"RiverDesk", "checkRight", "(I)V"⟩, 7), (⟨"RiverDesk", "checkReach", "(I)V"⟩, 7), (⟨"RiverDesk", "oldestThatWouldGetLess", "()I"⟩, 7), (⟨"RiverDeskModel", "isOn", "(II)Z"⟩, 23), (⟨"RiverDeskModel", "isTaken", "(II)Z"⟩, 23), (⟨"RiverDeskModel", "lay", "(IIII)V"⟩, 23), (⟨"RiverDeskModel", "wrongRight", "(I)I"⟩, 23), (⟨"RiverDeskModel", "wrongReach", "(I)I"⟩, 23), (⟨"RiverDeskModel", "make", "(III)Z"⟩, 23), (⟨"RiverDeskModel", "age", "()V"⟩, 23), (⟨"RiverDeskModel", "holdsPlan", "(I)Z"⟩, 23)]
theorem lw_r1 : ∀ q ∈ lw_privs_1, lw_okq q := List.forall_mem_cons.mpr ⟨lw_p0, List.forall_mem_cons.mpr ⟨lw_p1, List.forall_mem_cons.mpr ⟨lw_p2, List.forall_mem_cons.mpr ⟨lw_p3, List.forall_mem_cons.mpr ⟨lw_p4, List.forall_mem_cons.mpr ⟨lw_p5, List.forall_mem_cons.mpr ⟨lw_p6, List.forall_mem_cons.mpr ⟨lw_p7, List.forall_mem_cons.mpr ⟨lw_p8, List.forall_mem_cons.mpr ⟨lw_p9, List.forall_mem_cons.mpr ⟨lw_p10, List.forall_mem_cons.mpr ⟨lw_p11, List.forall_mem_cons.mpr ⟨lw_p12, List.forall_mem_cons.mpr ⟨lw_p13, List.forall_mem_cons.mpr ⟨lw_p14, List.forall_mem_cons.mpr ⟨lw_p15, fun _ h => absurd h List.not_mem_nil⟩⟩⟩⟩⟩⟩⟩⟩⟩⟩⟩⟩⟩⟩⟩⟩
theorem lw_p16 : lw_okq (⟨"RiverDeskModel", "natural", "(I)J"⟩, 23) := ⟨⟨by decide +kernel, by decide +kernel⟩, List.mem_of_getElem? (i := 599) (by decide +kernel), List.mem_of_getElem? (i := 752) (by decide +kernel), List.mem_of_getElem? (i := 753) (by decide +kernel)⟩
theorem lw_p17 : lw_okq (⟨"RiverDeskModel", "returned", "(IJ)J"⟩, 23) := ⟨⟨by decide +kernel, by decide +kernel⟩, List.mem_of_getElem? (i := 599) (by decide +kernel), List.mem_of_getElem? (i := 756) (by decide +kernel), List.mem_of_getElem? (i := 757) (by decide +kernel)⟩
theorem lw_p18 : lw_okq (⟨"RiverDeskModel", "isShort", "(I)Z"⟩, 23) := ⟨⟨by decide +kernel, by decide +kernel⟩, List.mem_of_getElem? (i := 599) (by decide +kernel), List.mem_of_getElem? (i := 761) (by decide +kernel), List.mem_of_getElem? (i := 762) (by decide +kernel)⟩
def lw_privs_2 : List (MethodName × Nat) := [(⟨"RiverDeskModel", "natural", "(I)J"⟩, 23), (⟨"RiverDeskModel", "returned", "(IJ)J"⟩, 23), (⟨"RiverDeskModel", "isShort", "(I)Z"⟩, 23)]
theorem lw_r2 : ∀ q ∈ lw_privs_2, lw_okq q := List.forall_mem_cons.mpr ⟨lw_p16, List.forall_mem_cons.mpr ⟨lw_p17, List.forall_mem_cons.mpr ⟨lw_p18, fun _ h => absurd h List.not_mem_nil⟩⟩⟩
def lw_privs : List (MethodName × Nat) := lw_privs_1 ++ (lw_privs_2)
def lw_tbl : List Cond := k2_sels lw_privs ++ tables_1
theorem lw_privs_ok : ∀ q ∈ lw_privs, lw_okq q := by
  show ∀ q ∈ lw_privs_1 ++ (lw_privs_2), lw_okq q
  exact List.forall_mem_append.mpr ⟨lw_r1, lw_r2⟩
/-! the words that all methods share: the good ones of the tables, by their places -/
def gW : List Cond := lw_tbl.filter goodWord
theorem gI {w : Cond} (i : Nat) (h : lw_tbl[i]? = some w) (hg : goodWord w = true) : w ∈ gW := List.mem_filter.mpr ⟨List.mem_of_getElem? h, hg⟩
theorem gW_good {w : Cond} (h : w ∈ gW) : goodWord w = true := (List.mem_filter.mp h).2
theorem gW_in {w : Cond} (h : w ∈ gW) : w ∈ lw_tbl := (List.mem_filter.mp h).1
def RX0 : String := "RiverDesk$Books"
def TX0 : u_T := fun k => match k with
  | 0 => ("RiverDesk$Books", "entries", "[J", true)
  | _ => ("RiverDesk$Books", "day", "I", false)
def tyX0 : Nat → FieldType := fun k => match k with
  | 0 => .array .long
  | _ => .int
theorem nmX0 : ∀ a, a < 2 → ∀ b, b < 2 → a ≠ b → (TX0 a).2.1 ≠ (TX0 b).2.1 := by decide +kernel
theorem tyX0_ok : ∀ k, k < 2 → parseFieldDescriptor (TX0 k).2.2.1 = some (tyX0 k) := by decide +kernel
theorem inX0 : ∀ w ∈ u_ws RX0 TX0 2, w ∈ gW := by
  have h : (u_ws RX0 TX0 2).all (fun w => decide (w ∈ lw_tbl) && goodWord w) = true := by decide +kernel
  intro w hw
  have h1 := List.all_eq_true.mp h w hw
  simp only [Bool.and_eq_true, decide_eq_true_eq] at h1
  exact List.mem_filter.mpr h1
def RX1 : String := "RiverDesk$Plan"
def TX1 : u_T := fun k => match k with
  | 0 => ("RiverDesk$Plan", "gets", "[I", true)
  | 1 => ("RiverDesk$Plan", "flows", "[J", true)
  | _ => ("RiverDesk$Plan", "rooms", "[I", true)
def tyX1 : Nat → FieldType := fun k => match k with
  | 0 => .array .int
  | 1 => .array .long
  | _ => .array .int
theorem nmX1 : ∀ a, a < 3 → ∀ b, b < 3 → a ≠ b → (TX1 a).2.1 ≠ (TX1 b).2.1 := by decide +kernel
theorem tyX1_ok : ∀ k, k < 3 → parseFieldDescriptor (TX1 k).2.2.1 = some (tyX1 k) := by decide +kernel
theorem inX1 : ∀ w ∈ u_ws RX1 TX1 3, w ∈ gW := by
  have h : (u_ws RX1 TX1 3).all (fun w => decide (w ∈ lw_tbl) && goodWord w) = true := by decide +kernel
  intro w hw
  have h1 := List.all_eq_true.mp h w hw
  simp only [Bool.and_eq_true, decide_eq_true_eq] at h1
  exact List.mem_filter.mpr h1
def RX2 : String := "RiverDesk$Reservoirs"
def TX2 : u_T := fun k => match k with
  | 0 => ("RiverDesk$Reservoirs", "there", "[Z", true)
  | 1 => ("RiverDesk$Reservoirs", "reaches", "[I", true)
  | 2 => ("RiverDesk$Reservoirs", "capacities", "[I", true)
  | 3 => ("RiverDesk$Reservoirs", "waters", "[I", true)
  | _ => ("RiverDesk$Reservoirs", "released", "J", false)
def tyX2 : Nat → FieldType := fun k => match k with
  | 0 => .array .boolean
  | 1 => .array .int
  | 2 => .array .int
  | 3 => .array .int
  | _ => .long
theorem nmX2 : ∀ a, a < 5 → ∀ b, b < 5 → a ≠ b → (TX2 a).2.1 ≠ (TX2 b).2.1 := by decide +kernel
theorem tyX2_ok : ∀ k, k < 5 → parseFieldDescriptor (TX2 k).2.2.1 = some (tyX2 k) := by decide +kernel
theorem inX2 : ∀ w ∈ u_ws RX2 TX2 5, w ∈ gW := by
  have h : (u_ws RX2 TX2 5).all (fun w => decide (w ∈ lw_tbl) && goodWord w) = true := by decide +kernel
  intro w hw
  have h1 := List.all_eq_true.mp h w hw
  simp only [Bool.and_eq_true, decide_eq_true_eq] at h1
  exact List.mem_filter.mpr h1
def RX3 : String := "RiverDesk$Rights"
def TX3 : u_T := fun k => match k with
  | 0 => ("RiverDesk$Rights", "there", "[Z", true)
  | 1 => ("RiverDesk$Rights", "reaches", "[I", true)
  | 2 => ("RiverDesk$Rights", "priorities", "[I", true)
  | 3 => ("RiverDesk$Rights", "rates", "[I", true)
  | 4 => ("RiverDesk$Rights", "wants", "[I", true)
  | 5 => ("RiverDesk$Rights", "shares", "[I", true)
  | 6 => ("RiverDesk$Rights", "returns", "[I", true)
  | 7 => ("RiverDesk$Rights", "reservoirs", "[I", true)
  | 8 => ("RiverDesk$Rights", "byAge", "[I", true)
  | _ => ("RiverDesk$Rights", "count", "I", false)
def tyX3 : Nat → FieldType := fun k => match k with
  | 0 => .array .boolean
  | 1 => .array .int
  | 2 => .array .int
  | 3 => .array .int
  | 4 => .array .int
  | 5 => .array .int
  | 6 => .array .int
  | 7 => .array .int
  | 8 => .array .int
  | _ => .int
theorem nmX3 : ∀ a, a < 10 → ∀ b, b < 10 → a ≠ b → (TX3 a).2.1 ≠ (TX3 b).2.1 := by decide +kernel
theorem tyX3_ok : ∀ k, k < 10 → parseFieldDescriptor (TX3 k).2.2.1 = some (tyX3 k) := by decide +kernel
theorem inX3 : ∀ w ∈ u_ws RX3 TX3 10, w ∈ gW := by
  have h : (u_ws RX3 TX3 10).all (fun w => decide (w ∈ lw_tbl) && goodWord w) = true := by decide +kernel
  intro w hw
  have h1 := List.all_eq_true.mp h w hw
  simp only [Bool.and_eq_true, decide_eq_true_eq] at h1
  exact List.mem_filter.mpr h1
def RX4 : String := "RiverDesk$River"
def TX4 : u_T := fun k => match k with
  | 0 => ("RiverDesk$River", "there", "[Z", true)
  | 1 => ("RiverDesk$River", "below", "[I", true)
  | 2 => ("RiverDesk$River", "inflows", "[I", true)
  | 3 => ("RiverDesk$River", "sent", "[J", true)
  | _ => ("RiverDesk$River", "outlet", "I", false)
def tyX4 : Nat → FieldType := fun k => match k with
  | 0 => .array .boolean
  | 1 => .array .int
  | 2 => .array .int
  | 3 => .array .long
  | _ => .int
theorem nmX4 : ∀ a, a < 5 → ∀ b, b < 5 → a ≠ b → (TX4 a).2.1 ≠ (TX4 b).2.1 := by decide +kernel
theorem tyX4_ok : ∀ k, k < 5 → parseFieldDescriptor (TX4 k).2.2.1 = some (tyX4 k) := by decide +kernel
theorem inX4 : ∀ w ∈ u_ws RX4 TX4 5, w ∈ gW := by
  have h : (u_ws RX4 TX4 5).all (fun w => decide (w ∈ lw_tbl) && goodWord w) = true := by decide +kernel
  intro w hw
  have h1 := List.all_eq_true.mp h w hw
  simp only [Bool.and_eq_true, decide_eq_true_eq] at h1
  exact List.mem_filter.mpr h1
def RX5 : String := "RiverDesk"
def TX5 : u_T := fun k => match k with
  | 0 => ("RiverDesk", "river", "LRiverDesk$River;", true)
  | 1 => ("RiverDesk", "reservoirs", "LRiverDesk$Reservoirs;", true)
  | 2 => ("RiverDesk", "rights", "LRiverDesk$Rights;", true)
  | 3 => ("RiverDesk", "books", "LRiverDesk$Books;", true)
  | 4 => ("RiverDesk", "today", "LRiverDesk$Plan;", true)
  | 5 => ("RiverDesk", "supposed", "LRiverDesk$Plan;", true)
  | _ => ("RiverDesk", "todayIsStale", "Z", false)
def tyX5 : Nat → FieldType := fun k => match k with
  | 0 => .object "RiverDesk$River"
  | 1 => .object "RiverDesk$Reservoirs"
  | 2 => .object "RiverDesk$Rights"
  | 3 => .object "RiverDesk$Books"
  | 4 => .object "RiverDesk$Plan"
  | 5 => .object "RiverDesk$Plan"
  | _ => .boolean
theorem nmX5 : ∀ a, a < 7 → ∀ b, b < 7 → a ≠ b → (TX5 a).2.1 ≠ (TX5 b).2.1 := by decide +kernel
theorem tyX5_ok : ∀ k, k < 7 → parseFieldDescriptor (TX5 k).2.2.1 = some (tyX5 k) := by decide +kernel
theorem inX5 : ∀ w ∈ u_ws RX5 TX5 7, w ∈ gW := by
  have h : (u_ws RX5 TX5 7).all (fun w => decide (w ∈ lw_tbl) && goodWord w) = true := by decide +kernel
  intro w hw
  have h1 := List.all_eq_true.mp h w hw
  simp only [Bool.and_eq_true, decide_eq_true_eq] at h1
  exact List.mem_filter.mpr h1
def RX6 : String := "RiverDeskModel"
def TX6 : u_T := fun k => match k with
  | 0 => ("RiverDeskModel", "thrown", "I", false)
  | 1 => ("RiverDeskModel", "isReach", "[Z", true)
  | 2 => ("RiverDeskModel", "down", "[I", true)
  | 3 => ("RiverDeskModel", "inflows", "[I", true)
  | 4 => ("RiverDeskModel", "isStore", "[Z", true)
  | 5 => ("RiverDeskModel", "storeReach", "[I", true)
  | 6 => ("RiverDeskModel", "capacity", "[I", true)
  | 7 => ("RiverDeskModel", "holds", "[I", true)
  | 8 => ("RiverDeskModel", "released", "[J", true)
  | 9 => ("RiverDeskModel", "isRight", "[Z", true)
  | 10 => ("RiverDeskModel", "place", "[I", true)
  | 11 => ("RiverDeskModel", "priority", "[I", true)
  | 12 => ("RiverDeskModel", "rate", "[I", true)
  | 13 => ("RiverDeskModel", "share", "[I", true)
  | 14 => ("RiverDeskModel", "back", "[I", true)
  | 15 => ("RiverDeskModel", "store", "[I", true)
  | 16 => ("RiverDeskModel", "wants", "[I", true)
  | 17 => ("RiverDeskModel", "day", "I", false)
  | 18 => ("RiverDeskModel", "books", "[J", true)
  | 19 => ("RiverDeskModel", "amount", "[I", true)
  | 20 => ("RiverDeskModel", "first", "[I", true)
  | 21 => ("RiverDeskModel", "order", "[I", true)
  | _ => ("RiverDeskModel", "rights", "I", false)
def tyX6 : Nat → FieldType := fun k => match k with
  | 0 => .int
  | 1 => .array .boolean
  | 2 => .array .int
  | 3 => .array .int
  | 4 => .array .boolean
  | 5 => .array .int
  | 6 => .array .int
  | 7 => .array .int
  | 8 => .array .long
  | 9 => .array .boolean
  | 10 => .array .int
  | 11 => .array .int
  | 12 => .array .int
  | 13 => .array .int
  | 14 => .array .int
  | 15 => .array .int
  | 16 => .array .int
  | 17 => .int
  | 18 => .array .long
  | 19 => .array .int
  | 20 => .array .int
  | 21 => .array .int
  | _ => .int
theorem nmX6 : ∀ a, a < 23 → ∀ b, b < 23 → a ≠ b → (TX6 a).2.1 ≠ (TX6 b).2.1 := by decide +kernel
theorem tyX6_ok : ∀ k, k < 23 → parseFieldDescriptor (TX6 k).2.2.1 = some (tyX6 k) := by decide +kernel
theorem inX6 : ∀ w ∈ u_ws RX6 TX6 23, w ∈ gW := by
  have h : (u_ws RX6 TX6 23).all (fun w => decide (w ∈ lw_tbl) && goodWord w) = true := by decide +kernel
  intro w hw
  have h1 := List.all_eq_true.mp h w hw
  simp only [Bool.and_eq_true, decide_eq_true_eq] at h1
  exact List.mem_filter.mpr h1
def RL : String := "RiverDeskLaw"
def RJA : String := "java/util/Arrays"
def RJM : String := "java/lang/Math"
abbrev vwCl : List vw_C := [(RX0, TX0, 2), (RX1, TX1, 3), (RX2, TX2, 5), (RX3, TX3, 10), (RX4, TX4, 5), (RX5, TX5, 7), (RX6, TX6, 23)]
abbrev cX5_init : ByteArray := prog_1_method_1_code
def yX5_init : MethodName := ⟨RX5, "<init>", "()V"⟩
def sX5_init : List Cond := .code yX5_init cX5_init 1 none :: gW
abbrev cX4_init : ByteArray := prog_6_method_1_code
def yX4_init : MethodName := ⟨RX4, "<init>", "()V"⟩
def sX4_init : List Cond := .code yX4_init cX4_init 1 none :: gW
abbrev cX2_init : ByteArray := prog_4_method_1_code
def yX2_init : MethodName := ⟨RX2, "<init>", "()V"⟩
def sX2_init : List Cond := .code yX2_init cX2_init 1 none :: gW
abbrev cX3_init : ByteArray := prog_5_method_1_code
def yX3_init : MethodName := ⟨RX3, "<init>", "()V"⟩
def sX3_init : List Cond := .code yX3_init cX3_init 1 none :: gW
abbrev cX0_init : ByteArray := prog_2_method_1_code
def yX0_init : MethodName := ⟨RX0, "<init>", "()V"⟩
def sX0_init : List Cond := .code yX0_init cX0_init 1 none :: gW
abbrev cX1_init : ByteArray := prog_3_method_1_code
def yX1_init : MethodName := ⟨RX1, "<init>", "()V"⟩
def sX1_init : List Cond := .code yX1_init cX1_init 1 none :: gW
abbrev cX5_plan : ByteArray := prog_1_method_10_code
def yX5_plan : MethodName := ⟨RX5, "plan", "()I"⟩
def sX5_plan : List Cond := .code yX5_plan cX5_plan 3 (some FieldType.int) :: gW
abbrev cX5_settleToday : ByteArray := prog_1_method_20_code
def yX5_settleToday : MethodName := ⟨RX5, "settleToday", "()V"⟩
def sX5_settleToday : List Cond := .code yX5_settleToday cX5_settleToday 1 none :: gW
abbrev cX1_begin : ByteArray := prog_3_method_2_code
def yX1_begin : MethodName := ⟨RX1, "begin", "(LRiverDesk$River;LRiverDesk$Reservoirs;)V"⟩
def sX1_begin : List Cond := .code yX1_begin cX1_begin 4 none :: gW
abbrev cJA_fillI : ByteArray := prog_18_method_103_code
def yJA_fillI : MethodName := ⟨RJA, "fill", "([II)V"⟩
def sJA_fillI : List Cond := .code yJA_fillI cJA_fillI 4 none :: gW
abbrev cJA_fillJ : ByteArray := prog_18_method_101_code
def yJA_fillJ : MethodName := ⟨RJA, "fill", "([JJ)V"⟩
def sJA_fillJ : List Cond := .code yJA_fillJ cJA_fillJ 5 none :: gW
abbrev cX1_pour : ByteArray := prog_3_method_3_code
def yX1_pour : MethodName := ⟨RX1, "pour", "(LRiverDesk$River;I)V"⟩
def sX1_pour : List Cond := .code yX1_pour cX1_pour 5 none :: gW
abbrev cX1_giveAllBut : ByteArray := prog_3_method_4_code
def yX1_giveAllBut : MethodName := ⟨RX1, "giveAllBut", "(LRiverDesk$River;LRiverDesk$Rights;I)V"⟩
def sX1_giveAllBut : List Cond := .code yX1_giveAllBut cX1_giveAllBut 6 none :: gW
abbrev cX1_most : ByteArray := prog_3_method_5_code
def yX1_most : MethodName := ⟨RX1, "most", "(LRiverDesk$River;LRiverDesk$Rights;I)I"⟩
def sX1_most : List Cond := .code yX1_most cX1_most 9 (some FieldType.int) :: gW
abbrev cX3_isStorage : ByteArray := prog_5_method_7_code
def yX3_isStorage : MethodName := ⟨RX3, "isStorage", "(I)Z"⟩
def sX3_isStorage : List Cond := .code yX3_isStorage cX3_isStorage 2 (some FieldType.boolean) :: gW
abbrev cJM_min : ByteArray := prog_13_method_70_code
def yJM_min : MethodName := ⟨RJM, "min", "(JJ)J"⟩
def sJM_min : List Cond := .code yJM_min cJM_min 4 (some FieldType.long) :: gW
abbrev cX3_mostForUse : ByteArray := prog_5_method_9_code
def yX3_mostForUse : MethodName := ⟨RX3, "mostForUse", "(IJ)J"⟩
def sX3_mostForUse : List Cond := .code yX3_mostForUse cX3_mostForUse 5 (some FieldType.long) :: gW
abbrev cX1_give : ByteArray := prog_3_method_6_code
def yX1_give : MethodName := ⟨RX1, "give", "(LRiverDesk$River;LRiverDesk$Rights;II)V"⟩
def sX1_give : List Cond := .code yX1_give cX1_give 8 none :: gW
abbrev cX3_usedOf : ByteArray := prog_5_method_8_code
def yX3_usedOf : MethodName := ⟨RX3, "usedOf", "(II)J"⟩
def sX3_usedOf : List Cond := .code yX3_usedOf cX3_usedOf 3 (some FieldType.long) :: gW
abbrev cX5_isShort : ByteArray := prog_1_method_21_code
def yX5_isShort : MethodName := ⟨RX5, "isShort", "(I)Z"⟩
def sX5_isShort : List Cond := .code yX5_isShort cX5_isShort 2 (some FieldType.boolean) :: gW
abbrev cX5_close : ByteArray := prog_1_method_15_code
def yX5_close : MethodName := ⟨RX5, "close", "()I"⟩
def sX5_close : List Cond := .code yX5_close cX5_close 1 (some FieldType.int) :: gW
abbrev cX0_write : ByteArray := prog_2_method_2_code
def yX0_write : MethodName := ⟨RX0, "write", "(LRiverDesk$River;LRiverDesk$Reservoirs;LRiverDesk$Rights;LRiverDesk$Plan;)V"⟩
def sX0_write : List Cond := .code yX0_write cX0_write 11 none :: gW
abbrev cX0_pageOf : ByteArray := prog_2_method_3_code
def yX0_pageOf : MethodName := ⟨RX0, "pageOf", "(I)I"⟩
def sX0_pageOf : List Cond := .code yX0_pageOf cX0_pageOf 1 (some FieldType.int) :: gW
abbrev cJM_floorMod : ByteArray := prog_13_method_50_code
def yJM_floorMod : MethodName := ⟨RJM, "floorMod", "(II)I"⟩
def sJM_floorMod : List Cond := .code yJM_floorMod cJM_floorMod 3 (some FieldType.int) :: gW
abbrev cX4_allInflow : ByteArray := prog_6_method_5_code
def yX4_allInflow : MethodName := ⟨RX4, "allInflow", "()J"⟩
def sX4_allInflow : List Cond := .code yX4_allInflow cX4_allInflow 4 (some FieldType.long) :: gW
abbrev cX2_beginDay : ByteArray := prog_4_method_4_code
def yX2_beginDay : MethodName := ⟨RX2, "beginDay", "(LRiverDesk$Rights;LRiverDesk$Plan;)V"⟩
def sX2_beginDay : List Cond := .code yX2_beginDay cX2_beginDay 5 none :: gW
abbrev cX4_beginDay : ByteArray := prog_6_method_6_code
def yX4_beginDay : MethodName := ⟨RX4, "beginDay", "()V"⟩
def sX4_beginDay : List Cond := .code yX4_beginDay cX4_beginDay 1 none :: gW
abbrev cX3_beginDay : ByteArray := prog_5_method_10_code
def yX3_beginDay : MethodName := ⟨RX3, "beginDay", "()V"⟩
def sX3_beginDay : List Cond := .code yX3_beginDay cX3_beginDay 1 none :: gW
abbrev cX5_held : ByteArray := prog_1_method_16_code
def yX5_held : MethodName := ⟨RX5, "held", "(II)I"⟩
def sX5_held : List Cond := .code yX5_held cX5_held 3 (some FieldType.int) :: gW
abbrev cX5_book : ByteArray := prog_1_method_17_code
def yX5_book : MethodName := ⟨RX5, "book", "(II)J"⟩
def sX5_book : List Cond := .code yX5_book cX5_book 3 (some FieldType.long) :: gW
abbrev cX0_read : ByteArray := prog_2_method_4_code
def yX0_read : MethodName := ⟨RX0, "read", "(II)J"⟩
def sX0_read : List Cond := .code yX0_read cX0_read 3 (some FieldType.long) :: gW
abbrev cX5_about : ByteArray := prog_1_method_18_code
def yX5_about : MethodName := ⟨RX5, "about", "(II)I"⟩
def sX5_about : List Cond := .code yX5_about cX5_about 3 (some FieldType.int) :: gW
abbrev cX5_aged : ByteArray := prog_1_method_19_code
def yX5_aged : MethodName := ⟨RX5, "aged", "(I)I"⟩
def sX5_aged : List Cond := .code yX5_aged cX5_aged 2 (some FieldType.int) :: gW
abbrev cL_reach : ByteArray := method_3_code
def yL_reach : MethodName := ⟨RL, "reach", "(LRiverDesk;II)I"⟩
def sL_reach : List Cond := .codeWith yL_reach cL_reach 4 (some FieldType.int) [(0, 6, 9, 13), (0, 6, 12, 15), (0, 6, 15, 17)] :: gW
abbrev cX5_reach : ByteArray := prog_1_method_2_code
def yX5_reach : MethodName := ⟨RX5, "reach", "(II)V"⟩
def sX5_reach : List Cond := .code yX5_reach cX5_reach 3 none :: gW
abbrev cX5_checkNumber : ByteArray := prog_1_method_26_code
def yX5_checkNumber : MethodName := ⟨RX5, "checkNumber", "(II)V"⟩
def sX5_checkNumber : List Cond := .code yX5_checkNumber cX5_checkNumber 2 none :: gW
abbrev cX5_checkThere : ByteArray := prog_1_method_27_code
def yX5_checkThere : MethodName := ⟨RX5, "checkThere", "(Z)V"⟩
def sX5_checkThere : List Cond := .code yX5_checkThere cX5_checkThere 1 none :: gW
abbrev cX5_checkFree : ByteArray := prog_1_method_29_code
def yX5_checkFree : MethodName := ⟨RX5, "checkFree", "(Z)V"⟩
def sX5_checkFree : List Cond := .code yX5_checkFree cX5_checkFree 1 none :: gW
abbrev cX4_add : ByteArray := prog_6_method_2_code
def yX4_add : MethodName := ⟨RX4, "add", "(II)V"⟩
def sX4_add : List Cond := .code yX4_add cX4_add 3 none :: gW
abbrev cL_reservoir : ByteArray := method_4_code
def yL_reservoir : MethodName := ⟨RL, "reservoir", "(LRiverDesk;III)I"⟩
def sL_reservoir : List Cond := .codeWith yL_reservoir cL_reservoir 5 (some FieldType.int) [(0, 7, 10, 13), (0, 7, 14, 15), (0, 7, 18, 23), (0, 7, 22, 17)] :: gW
abbrev cX5_reservoir : ByteArray := prog_1_method_3_code
def yX5_reservoir : MethodName := ⟨RX5, "reservoir", "(III)V"⟩
def sX5_reservoir : List Cond := .code yX5_reservoir cX5_reservoir 4 none :: gW
abbrev cX5_checkBetween : ByteArray := prog_1_method_28_code
def yX5_checkBetween : MethodName := ⟨RX5, "checkBetween", "(III)V"⟩
def sX5_checkBetween : List Cond := .code yX5_checkBetween cX5_checkBetween 3 none :: gW
abbrev cX2_add : ByteArray := prog_4_method_2_code
def yX2_add : MethodName := ⟨RX2, "add", "(III)V"⟩
def sX2_add : List Cond := .code yX2_add cX2_add 4 none :: gW
abbrev cL_right : ByteArray := method_5_code
def yL_right : MethodName := ⟨RL, "right", "(LRiverDesk;IIIIII)I"⟩
def sL_right : List Cond := .codeWith yL_right cL_right 8 (some FieldType.int) [(0, 13, 16, 13), (0, 13, 20, 15), (0, 13, 24, 23), (0, 13, 28, 17)] :: gW
abbrev cX5_right : ByteArray := prog_1_method_4_code
def yX5_right : MethodName := ⟨RX5, "right", "(IIIIII)V"⟩
def sX5_right : List Cond := .code yX5_right cX5_right 7 none :: gW
abbrev cX5_checkPath : ByteArray := prog_1_method_25_code
def yX5_checkPath : MethodName := ⟨RX5, "checkPath", "(II)V"⟩
def sX5_checkPath : List Cond := .code yX5_checkPath cX5_checkPath 3 none :: gW
abbrev cX4_leadsTo : ByteArray := prog_6_method_3_code
def yX4_leadsTo : MethodName := ⟨RX4, "leadsTo", "(II)Z"⟩
def sX4_leadsTo : List Cond := .code yX4_leadsTo cX4_leadsTo 5 (some FieldType.boolean) :: gW
abbrev cX3_hasPriority : ByteArray := prog_5_method_6_code
def yX3_hasPriority : MethodName := ⟨RX3, "hasPriority", "(I)Z"⟩
def sX3_hasPriority : List Cond := .code yX3_hasPriority cX3_hasPriority 3 (some FieldType.boolean) :: gW
abbrev cX3_setDirect : ByteArray := prog_5_method_2_code
def yX3_setDirect : MethodName := ⟨RX3, "setDirect", "(III)V"⟩
def sX3_setDirect : List Cond := .code yX3_setDirect cX3_setDirect 4 none :: gW
abbrev cX3_add : ByteArray := prog_5_method_4_code
def yX3_add : MethodName := ⟨RX3, "add", "(IIII)V"⟩
def sX3_add : List Cond := .code yX3_add cX3_add 6 none :: gW
abbrev cL_storage : ByteArray := method_6_code
def yL_storage : MethodName := ⟨RL, "storage", "(LRiverDesk;IIIII)I"⟩
def sL_storage : List Cond := .codeWith yL_storage cL_storage 7 (some FieldType.int) [(0, 11, 14, 13), (0, 11, 18, 15), (0, 11, 22, 23), (0, 11, 26, 17)] :: gW
abbrev cX5_storage : ByteArray := prog_1_method_5_code
def yX5_storage : MethodName := ⟨RX5, "storage", "(IIIII)V"⟩
def sX5_storage : List Cond := .code yX5_storage cX5_storage 6 none :: gW
abbrev cX3_setStorage : ByteArray := prog_5_method_3_code
def yX3_setStorage : MethodName := ⟨RX3, "setStorage", "(II)V"⟩
def sX3_setStorage : List Cond := .code yX3_setStorage cX3_setStorage 3 none :: gW
abbrev cL_drop : ByteArray := method_7_code
def yL_drop : MethodName := ⟨RL, "drop", "(LRiverDesk;I)I"⟩
def sL_drop : List Cond := .codeWith yL_drop cL_drop 3 (some FieldType.int) [(0, 5, 8, 13), (0, 5, 11, 15)] :: gW
abbrev cX5_drop : ByteArray := prog_1_method_6_code
def yX5_drop : MethodName := ⟨RX5, "drop", "(I)V"⟩
def sX5_drop : List Cond := .code yX5_drop cX5_drop 2 none :: gW
abbrev cX5_checkRight : ByteArray := prog_1_method_24_code
def yX5_checkRight : MethodName := ⟨RX5, "checkRight", "(I)V"⟩
def sX5_checkRight : List Cond := .code yX5_checkRight cX5_checkRight 2 none :: gW
abbrev cX3_remove : ByteArray := prog_5_method_5_code
def yX3_remove : MethodName := ⟨RX3, "remove", "(I)V"⟩
def sX3_remove : List Cond := .code yX3_remove cX3_remove 4 none :: gW
abbrev cL_want : ByteArray := method_8_code
def yL_want : MethodName := ⟨RL, "want", "(LRiverDesk;II)I"⟩
def sL_want : List Cond := .codeWith yL_want cL_want 4 (some FieldType.int) [(0, 6, 9, 13), (0, 6, 12, 15), (0, 6, 15, 23)] :: gW
abbrev cX5_want : ByteArray := prog_1_method_7_code
def yX5_want : MethodName := ⟨RX5, "want", "(II)V"⟩
def sX5_want : List Cond := .code yX5_want cX5_want 3 none :: gW
abbrev cL_inflow : ByteArray := method_9_code
def yL_inflow : MethodName := ⟨RL, "inflow", "(LRiverDesk;II)I"⟩
def sL_inflow : List Cond := .codeWith yL_inflow cL_inflow 4 (some FieldType.int) [(0, 6, 9, 13), (0, 6, 12, 15), (0, 6, 15, 23)] :: gW
abbrev cX5_inflow : ByteArray := prog_1_method_8_code
def yX5_inflow : MethodName := ⟨RX5, "inflow", "(II)V"⟩
def sX5_inflow : List Cond := .code yX5_inflow cX5_inflow 3 none :: gW
abbrev cX5_checkReach : ByteArray := prog_1_method_23_code
def yX5_checkReach : MethodName := ⟨RX5, "checkReach", "(I)V"⟩
def sX5_checkReach : List Cond := .code yX5_checkReach cX5_checkReach 2 none :: gW
abbrev cL_release : ByteArray := method_10_code
def yL_release : MethodName := ⟨RL, "release", "(LRiverDesk;III[J)I"⟩
def sL_release : List Cond := .codeWith yL_release cL_release 6 (some FieldType.int) [(0, 12, 15, 13), (0, 12, 19, 15), (0, 12, 23, 23), (0, 12, 27, 17)] :: gW
abbrev cX5_release : ByteArray := prog_1_method_9_code
def yX5_release : MethodName := ⟨RX5, "release", "(III)I"⟩
def sX5_release : List Cond := .code yX5_release cX5_release 4 (some FieldType.int) :: gW
abbrev cX5_checkEnough : ByteArray := prog_1_method_30_code
def yX5_checkEnough : MethodName := ⟨RX5, "checkEnough", "(II)V"⟩
def sX5_checkEnough : List Cond := .code yX5_checkEnough cX5_checkEnough 2 none :: gW
abbrev cX2_letOut : ByteArray := prog_4_method_3_code
def yX2_letOut : MethodName := ⟨RX2, "letOut", "(II)V"⟩
def sX2_letOut : List Cond := .code yX2_letOut cX2_letOut 3 none :: gW
abbrev cX4_send : ByteArray := prog_6_method_4_code
def yX4_send : MethodName := ⟨RX4, "send", "(III)V"⟩
def sX4_send : List Cond := .code yX4_send cX4_send 7 none :: gW
abbrev cL_given : ByteArray := method_11_code
def yL_given : MethodName := ⟨RL, "given", "(LRiverDesk;I[J)I"⟩
def sL_given : List Cond := .codeWith yL_given cL_given 4 (some FieldType.int) [(0, 9, 12, 13), (0, 9, 15, 15)] :: gW
abbrev cX5_given : ByteArray := prog_1_method_11_code
def yX5_given : MethodName := ⟨RX5, "given", "(I)I"⟩
def sX5_given : List Cond := .code yX5_given cX5_given 2 (some FieldType.int) :: gW
abbrev cL_flow : ByteArray := method_12_code
def yL_flow : MethodName := ⟨RL, "flow", "(LRiverDesk;II[J)I"⟩
def sL_flow : List Cond := .codeWith yL_flow cL_flow 5 (some FieldType.int) [(0, 9, 12, 13), (0, 9, 16, 15)] :: gW
abbrev cX5_flow : ByteArray := prog_1_method_12_code
def yX5_flow : MethodName := ⟨RX5, "flow", "(II)J"⟩
def sX5_flow : List Cond := .code yX5_flow cX5_flow 3 (some FieldType.long) :: gW
abbrev cL_call : ByteArray := method_13_code
def yL_call : MethodName := ⟨RL, "call", "(LRiverDesk;I[J)I"⟩
def sL_call : List Cond := .codeWith yL_call cL_call 4 (some FieldType.int) [(0, 9, 12, 13), (0, 9, 15, 15)] :: gW
abbrev cX5_call : ByteArray := prog_1_method_13_code
def yX5_call : MethodName := ⟨RX5, "call", "(I)I"⟩
def sX5_call : List Cond := .code yX5_call cX5_call 3 (some FieldType.int) :: gW
abbrev cX5_oldestThatWouldGetLess : ByteArray := prog_1_method_22_code
def yX5_oldestThatWouldGetLess : MethodName := ⟨RX5, "oldestThatWouldGetLess", "()I"⟩
def sX5_oldestThatWouldGetLess : List Cond := .code yX5_oldestThatWouldGetLess cX5_oldestThatWouldGetLess 3 (some FieldType.int) :: gW
abbrev cL_futile : ByteArray := method_14_code
def yL_futile : MethodName := ⟨RL, "futile", "(LRiverDesk;II[J)I"⟩
def sL_futile : List Cond := .codeWith yL_futile cL_futile 5 (some FieldType.int) [(0, 17, 20, 13), (0, 17, 24, 15)] :: gW
abbrev cX5_futile : ByteArray := prog_1_method_14_code
def yX5_futile : MethodName := ⟨RX5, "futile", "(II)Z"⟩
def sX5_futile : List Cond := .code yX5_futile cX5_futile 3 (some FieldType.boolean) :: gW
abbrev cX6_init : ByteArray := prog_8_method_1_code
def yX6_init : MethodName := ⟨RX6, "<init>", "()V"⟩
def sX6_init : List Cond := .code yX6_init cX6_init 1 none :: gW
abbrev cX6_thrown : ByteArray := prog_8_method_2_code
def yX6_thrown : MethodName := ⟨RX6, "thrown", "()I"⟩
def sX6_thrown : List Cond := .code yX6_thrown cX6_thrown 1 (some FieldType.int) :: gW
abbrev cX6_reach : ByteArray := prog_8_method_5_code
def yX6_reach : MethodName := ⟨RX6, "reach", "(II)V"⟩
def sX6_reach : List Cond := .code yX6_reach cX6_reach 5 none :: gW
abbrev cX6_isNumber : ByteArray := prog_8_method_4_code
def yX6_isNumber : MethodName := ⟨RX6, "isNumber", "(II)Z"⟩
def sX6_isNumber : List Cond := .code yX6_isNumber cX6_isNumber 2 (some FieldType.boolean) :: gW
abbrev cX6_reservoir : ByteArray := prog_8_method_6_code
def yX6_reservoir : MethodName := ⟨RX6, "reservoir", "(III)V"⟩
def sX6_reservoir : List Cond := .code yX6_reservoir cX6_reservoir 4 none :: gW
abbrev cX6_right : ByteArray := prog_8_method_9_code
def yX6_right : MethodName := ⟨RX6, "right", "(IIIIII)V"⟩
def sX6_right : List Cond := .code yX6_right cX6_right 8 none :: gW
abbrev cX6_isOn : ByteArray := prog_8_method_3_code
def yX6_isOn : MethodName := ⟨RX6, "isOn", "(II)Z"⟩
def sX6_isOn : List Cond := .code yX6_isOn cX6_isOn 4 (some FieldType.boolean) :: gW
abbrev cX6_isTaken : ByteArray := prog_8_method_7_code
def yX6_isTaken : MethodName := ⟨RX6, "isTaken", "(II)Z"⟩
def sX6_isTaken : List Cond := .code yX6_isTaken cX6_isTaken 5 (some FieldType.boolean) :: gW
abbrev cX6_lay : ByteArray := prog_8_method_8_code
def yX6_lay : MethodName := ⟨RX6, "lay", "(IIII)V"⟩
def sX6_lay : List Cond := .code yX6_lay cX6_lay 5 none :: gW
abbrev cX6_storage : ByteArray := prog_8_method_10_code
def yX6_storage : MethodName := ⟨RX6, "storage", "(IIIII)V"⟩
def sX6_storage : List Cond := .code yX6_storage cX6_storage 7 none :: gW
abbrev cX6_drop : ByteArray := prog_8_method_13_code
def yX6_drop : MethodName := ⟨RX6, "drop", "(I)V"⟩
def sX6_drop : List Cond := .code yX6_drop cX6_drop 2 none :: gW
abbrev cX6_wrongRight : ByteArray := prog_8_method_11_code
def yX6_wrongRight : MethodName := ⟨RX6, "wrongRight", "(I)I"⟩
def sX6_wrongRight : List Cond := .code yX6_wrongRight cX6_wrongRight 2 (some FieldType.int) :: gW
abbrev cX6_want : ByteArray := prog_8_method_14_code
def yX6_want : MethodName := ⟨RX6, "want", "(II)V"⟩
def sX6_want : List Cond := .code yX6_want cX6_want 3 none :: gW
abbrev cX6_inflow : ByteArray := prog_8_method_15_code
def yX6_inflow : MethodName := ⟨RX6, "inflow", "(II)V"⟩
def sX6_inflow : List Cond := .code yX6_inflow cX6_inflow 3 none :: gW
abbrev cX6_wrongReach : ByteArray := prog_8_method_12_code
def yX6_wrongReach : MethodName := ⟨RX6, "wrongReach", "(I)I"⟩
def sX6_wrongReach : List Cond := .code yX6_wrongReach cX6_wrongReach 2 (some FieldType.int) :: gW
abbrev cX6_release : ByteArray := prog_8_method_16_code
def yX6_release : MethodName := ⟨RX6, "release", "(III)I"⟩
def sX6_release : List Cond := .code yX6_release cX6_release 4 (some FieldType.int) :: gW
abbrev cX6_plan : ByteArray := prog_8_method_23_code
def yX6_plan : MethodName := ⟨RX6, "plan", "()I"⟩
def sX6_plan : List Cond := .code yX6_plan cX6_plan 3 (some FieldType.int) :: gW
abbrev cX6_make : ByteArray := prog_8_method_21_code
def yX6_make : MethodName := ⟨RX6, "make", "(III)Z"⟩
def sX6_make : List Cond := .code yX6_make cX6_make 8 (some FieldType.boolean) :: gW
abbrev cX6_age : ByteArray := prog_8_method_20_code
def yX6_age : MethodName := ⟨RX6, "age", "()V"⟩
def sX6_age : List Cond := .code yX6_age cX6_age 5 none :: gW
abbrev cX6_holdsPlan : ByteArray := prog_8_method_19_code
def yX6_holdsPlan : MethodName := ⟨RX6, "holdsPlan", "(I)Z"⟩
def sX6_holdsPlan : List Cond := .code yX6_holdsPlan cX6_holdsPlan 6 (some FieldType.boolean) :: gW
abbrev cX6_natural : ByteArray := prog_8_method_18_code
def yX6_natural : MethodName := ⟨RX6, "natural", "(I)J"⟩
def sX6_natural : List Cond := .code yX6_natural cX6_natural 5 (some FieldType.long) :: gW
abbrev cX6_returned : ByteArray := prog_8_method_17_code
def yX6_returned : MethodName := ⟨RX6, "returned", "(IJ)J"⟩
def sX6_returned : List Cond := .code yX6_returned cX6_returned 4 (some FieldType.long) :: gW
abbrev cX6_isShort : ByteArray := prog_8_method_22_code
def yX6_isShort : MethodName := ⟨RX6, "isShort", "(I)Z"⟩
def sX6_isShort : List Cond := .code yX6_isShort cX6_isShort 2 (some FieldType.boolean) :: gW
abbrev cX6_given : ByteArray := prog_8_method_24_code
def yX6_given : MethodName := ⟨RX6, "given", "(I)I"⟩
def sX6_given : List Cond := .code yX6_given cX6_given 2 (some FieldType.int) :: gW
abbrev cX6_flow : ByteArray := prog_8_method_25_code
def yX6_flow : MethodName := ⟨RX6, "flow", "(II)J"⟩
def sX6_flow : List Cond := .code yX6_flow cX6_flow 7 (some FieldType.long) :: gW
abbrev cX6_call : ByteArray := prog_8_method_26_code
def yX6_call : MethodName := ⟨RX6, "call", "(I)I"⟩
def sX6_call : List Cond := .code yX6_call cX6_call 3 (some FieldType.int) :: gW
abbrev cX6_futile : ByteArray := prog_8_method_27_code
def yX6_futile : MethodName := ⟨RX6, "futile", "(II)Z"⟩
def sX6_futile : List Cond := .code yX6_futile cX6_futile 4 (some FieldType.boolean) :: gW
abbrev cX6_close : ByteArray := prog_8_method_28_code
def yX6_close : MethodName := ⟨RX6, "close", "()I"⟩
def sX6_close : List Cond := .code yX6_close cX6_close 3 (some FieldType.int) :: gW
abbrev cX6_held : ByteArray := prog_8_method_29_code
def yX6_held : MethodName := ⟨RX6, "held", "(II)I"⟩
def sX6_held : List Cond := .code yX6_held cX6_held 3 (some FieldType.int) :: gW
abbrev cX6_book : ByteArray := prog_8_method_30_code
def yX6_book : MethodName := ⟨RX6, "book", "(II)J"⟩
def sX6_book : List Cond := .code yX6_book cX6_book 3 (some FieldType.long) :: gW
abbrev cX6_about : ByteArray := prog_8_method_31_code
def yX6_about : MethodName := ⟨RX6, "about", "(II)I"⟩
def sX6_about : List Cond := .code yX6_about cX6_about 3 (some FieldType.int) :: gW
abbrev cX6_aged : ByteArray := prog_8_method_32_code
def yX6_aged : MethodName := ⟨RX6, "aged", "(I)I"⟩
def sX6_aged : List Cond := .code yX6_aged cX6_aged 2 (some FieldType.int) :: gW
end
section
theorem w_0 : (Cond.selects "RiverDesk" ⟨"RiverDesk", "settleToday", "()V"⟩ ⟨"RiverDesk", "settleToday", "()V"⟩ : Cond) ∈ gW := gI 0 (by decide +kernel) rfl
theorem w_1 : (Cond.selects "RiverDesk$Plan" ⟨"RiverDesk$Plan", "pour", "(LRiverDesk$River;I)V"⟩ ⟨"RiverDesk$Plan", "pour", "(LRiverDesk$River;I)V"⟩ : Cond) ∈ gW := gI 1 (by decide +kernel) rfl
theorem w_2 : (Cond.selects "RiverDesk" ⟨"RiverDesk", "isShort", "(I)Z"⟩ ⟨"RiverDesk", "isShort", "(I)Z"⟩ : Cond) ∈ gW := gI 2 (by decide +kernel) rfl
theorem w_3 : (Cond.selects "java/lang/Throwable" ⟨"java/lang/Throwable", "fillInStackTrace", "(I)Ljava/lang/Throwable;"⟩ ⟨"java/lang/Throwable", "fillInStackTrace", "(I)Ljava/lang/Throwable;"⟩ : Cond) ∈ gW := gI 3 (by decide +kernel) rfl
theorem w_4 : (Cond.selects "RiverDesk" ⟨"RiverDesk", "checkPath", "(II)V"⟩ ⟨"RiverDesk", "checkPath", "(II)V"⟩ : Cond) ∈ gW := gI 4 (by decide +kernel) rfl
theorem w_5 : (Cond.selects "RiverDesk" ⟨"RiverDesk", "checkRight", "(I)V"⟩ ⟨"RiverDesk", "checkRight", "(I)V"⟩ : Cond) ∈ gW := gI 5 (by decide +kernel) rfl
theorem w_6 : (Cond.selects "RiverDesk" ⟨"RiverDesk", "checkReach", "(I)V"⟩ ⟨"RiverDesk", "checkReach", "(I)V"⟩ : Cond) ∈ gW := gI 6 (by decide +kernel) rfl
theorem w_7 : (Cond.selects "RiverDesk" ⟨"RiverDesk", "oldestThatWouldGetLess", "()I"⟩ ⟨"RiverDesk", "oldestThatWouldGetLess", "()I"⟩ : Cond) ∈ gW := gI 7 (by decide +kernel) rfl
theorem w_8 : (Cond.selects "RiverDeskModel" ⟨"RiverDeskModel", "isOn", "(II)Z"⟩ ⟨"RiverDeskModel", "isOn", "(II)Z"⟩ : Cond) ∈ gW := gI 8 (by decide +kernel) rfl
theorem w_9 : (Cond.selects "RiverDeskModel" ⟨"RiverDeskModel", "isTaken", "(II)Z"⟩ ⟨"RiverDeskModel", "isTaken", "(II)Z"⟩ : Cond) ∈ gW := gI 9 (by decide +kernel) rfl
theorem w_10 : (Cond.selects "RiverDeskModel" ⟨"RiverDeskModel", "lay", "(IIII)V"⟩ ⟨"RiverDeskModel", "lay", "(IIII)V"⟩ : Cond) ∈ gW := gI 10 (by decide +kernel) rfl
theorem w_11 : (Cond.selects "RiverDeskModel" ⟨"RiverDeskModel", "wrongRight", "(I)I"⟩ ⟨"RiverDeskModel", "wrongRight", "(I)I"⟩ : Cond) ∈ gW := gI 11 (by decide +kernel) rfl
theorem w_12 : (Cond.selects "RiverDeskModel" ⟨"RiverDeskModel", "wrongReach", "(I)I"⟩ ⟨"RiverDeskModel", "wrongReach", "(I)I"⟩ : Cond) ∈ gW := gI 12 (by decide +kernel) rfl
theorem w_13 : (Cond.selects "RiverDeskModel" ⟨"RiverDeskModel", "make", "(III)Z"⟩ ⟨"RiverDeskModel", "make", "(III)Z"⟩ : Cond) ∈ gW := gI 13 (by decide +kernel) rfl
theorem w_14 : (Cond.selects "RiverDeskModel" ⟨"RiverDeskModel", "age", "()V"⟩ ⟨"RiverDeskModel", "age", "()V"⟩ : Cond) ∈ gW := gI 14 (by decide +kernel) rfl
theorem w_15 : (Cond.selects "RiverDeskModel" ⟨"RiverDeskModel", "holdsPlan", "(I)Z"⟩ ⟨"RiverDeskModel", "holdsPlan", "(I)Z"⟩ : Cond) ∈ gW := gI 15 (by decide +kernel) rfl
theorem w_16 : (Cond.selects "RiverDeskModel" ⟨"RiverDeskModel", "natural", "(I)J"⟩ ⟨"RiverDeskModel", "natural", "(I)J"⟩ : Cond) ∈ gW := gI 16 (by decide +kernel) rfl
theorem w_17 : (Cond.selects "RiverDeskModel" ⟨"RiverDeskModel", "returned", "(IJ)J"⟩ ⟨"RiverDeskModel", "returned", "(IJ)J"⟩ : Cond) ∈ gW := gI 17 (by decide +kernel) rfl
theorem w_18 : (Cond.selects "RiverDeskModel" ⟨"RiverDeskModel", "isShort", "(I)Z"⟩ ⟨"RiverDeskModel", "isShort", "(I)Z"⟩ : Cond) ∈ gW := gI 18 (by decide +kernel) rfl
theorem w_19 : (Cond.initialized "RiverDeskLaw" : Cond) ∈ gW := gI 19 (by decide +kernel) rfl
theorem w_20 : (Cond.initialized "RiverDesk" : Cond) ∈ gW := gI 20 (by decide +kernel) rfl
theorem w_21 : (Cond.initialized "RiverDesk$River" : Cond) ∈ gW := gI 21 (by decide +kernel) rfl
theorem w_22 : (Cond.initialized "RiverDesk$Reservoirs" : Cond) ∈ gW := gI 22 (by decide +kernel) rfl
theorem w_23 : (Cond.initialized "RiverDesk$Rights" : Cond) ∈ gW := gI 23 (by decide +kernel) rfl
theorem w_24 : (Cond.initialized "RiverDesk$Books" : Cond) ∈ gW := gI 24 (by decide +kernel) rfl
theorem w_25 : (Cond.initialized "RiverDesk$Plan" : Cond) ∈ gW := gI 25 (by decide +kernel) rfl
theorem w_26 : (Cond.initialized "RiverDeskModel" : Cond) ∈ gW := gI 26 (by decide +kernel) rfl
theorem w_27 : (Cond.initialized "java/lang/Throwable" : Cond) ∈ gW := gI 27 (by decide +kernel) rfl
theorem w_28 : (Cond.initialized "java/lang/Exception" : Cond) ∈ gW := gI 28 (by decide +kernel) rfl
theorem w_29 : (Cond.initialized "java/lang/RuntimeException" : Cond) ∈ gW := gI 29 (by decide +kernel) rfl
theorem w_30 : (Cond.initialized "java/lang/IndexOutOfBoundsException" : Cond) ∈ gW := gI 30 (by decide +kernel) rfl
theorem w_31 : (Cond.initialized "java/util/NoSuchElementException" : Cond) ∈ gW := gI 31 (by decide +kernel) rfl
theorem w_32 : (Cond.initialized "java/lang/IllegalStateException" : Cond) ∈ gW := gI 32 (by decide +kernel) rfl
theorem w_33 : (Cond.initialized "java/lang/IllegalArgumentException" : Cond) ∈ gW := gI 33 (by decide +kernel) rfl
theorem w_34 : (Cond.initialized "java/util/Arrays" : Cond) ∈ gW := gI 34 (by decide +kernel) rfl
theorem w_35 : (Cond.initialized "java/lang/Math" : Cond) ∈ gW := gI 35 (by decide +kernel) rfl
theorem w_36 : (Cond.initialized "java/lang/System" : Cond) ∈ gW := gI 36 (by decide +kernel) rfl
theorem w_37 : (Cond.classLink "RiverDeskLaw" 8 "RiverDesk" : Cond) ∈ gW := gI 37 (by decide +kernel) rfl
theorem w_38 : (Cond.instantiable "RiverDesk" 7 : Cond) ∈ gW := gI 38 (by decide +kernel) rfl
theorem w_39 : (Cond.methodLink "RiverDeskLaw" 62 ⟨"RiverDesk", "<init>", "()V"⟩ : Cond) ∈ gW := gI 39 (by decide +kernel) rfl
theorem w_40 : (Cond.instanceMethod ⟨"RiverDesk", "<init>", "()V"⟩ : Cond) ∈ gW := gI 40 (by decide +kernel) rfl
theorem w_41 : (Cond.code ⟨"RiverDesk", "<init>", "()V"⟩ prog_1_method_1_code 1 none : Cond) ∈ gW := gI 41 (by decide +kernel) rfl
theorem w_42 : (Cond.methodLink "RiverDesk" 1 ⟨"java/lang/Object", "<init>", "()V"⟩ : Cond) ∈ gW := gI 42 (by decide +kernel) rfl
theorem w_43 : (Cond.instanceMethod ⟨"java/lang/Object", "<init>", "()V"⟩ : Cond) ∈ gW := gI 43 (by decide +kernel) rfl
theorem w_44 : (Cond.code ⟨"java/lang/Object", "<init>", "()V"⟩ object_method_1_code 1 none : Cond) ∈ gW := gI 44 (by decide +kernel) rfl
theorem w_45 : (Cond.classLink "RiverDesk" 7 "RiverDesk$River" : Cond) ∈ gW := gI 45 (by decide +kernel) rfl
theorem w_46 : (Cond.instantiable "RiverDesk$River" 5 : Cond) ∈ gW := gI 46 (by decide +kernel) rfl
theorem w_48 : (Cond.instanceMethod ⟨"RiverDesk$River", "<init>", "()V"⟩ : Cond) ∈ gW := gI 48 (by decide +kernel) rfl
theorem w_49 : (Cond.code ⟨"RiverDesk$River", "<init>", "()V"⟩ prog_6_method_1_code 1 none : Cond) ∈ gW := gI 49 (by decide +kernel) rfl
theorem w_50 : (Cond.methodLink "RiverDesk$River" 3 ⟨"java/lang/Object", "<init>", "()V"⟩ : Cond) ∈ gW := gI 50 (by decide +kernel) rfl
theorem w_51 : (Cond.fieldLink "RiverDesk$River" 9 "RiverDesk$River" "there" "[Z" : Cond) ∈ gW := gI 51 (by decide +kernel) rfl
theorem w_52 : (Cond.fieldLink "RiverDesk" 55 "RiverDesk$River" "there" "[Z" : Cond) ∈ gW := gI 52 (by decide +kernel) rfl
theorem w_53 : (Cond.fieldLink "RiverDesk$River" 15 "RiverDesk$River" "below" "[I" : Cond) ∈ gW := gI 53 (by decide +kernel) rfl
theorem w_54 : (Cond.fieldLink "RiverDesk$Plan" 48 "RiverDesk$River" "below" "[I" : Cond) ∈ gW := gI 54 (by decide +kernel) rfl
theorem w_55 : (Cond.fieldLink "RiverDesk$River" 19 "RiverDesk$River" "inflows" "[I" : Cond) ∈ gW := gI 55 (by decide +kernel) rfl
theorem w_56 : (Cond.fieldLink "RiverDesk$Plan" 31 "RiverDesk$River" "inflows" "[I" : Cond) ∈ gW := gI 56 (by decide +kernel) rfl
theorem w_57 : (Cond.fieldLink "RiverDesk" 116 "RiverDesk$River" "inflows" "[I" : Cond) ∈ gW := gI 57 (by decide +kernel) rfl
theorem w_58 : (Cond.fieldLink "RiverDesk$River" 22 "RiverDesk$River" "sent" "[J" : Cond) ∈ gW := gI 58 (by decide +kernel) rfl
theorem w_59 : (Cond.fieldLink "RiverDesk" 156 "RiverDesk$River" "sent" "[J" : Cond) ∈ gW := gI 59 (by decide +kernel) rfl
theorem w_60 : (Cond.fieldLink "RiverDesk$River" 26 "RiverDesk$River" "outlet" "I" : Cond) ∈ gW := gI 60 (by decide +kernel) rfl
theorem w_61 : (Cond.fieldLink "RiverDesk" 66 "RiverDesk$River" "outlet" "I" : Cond) ∈ gW := gI 61 (by decide +kernel) rfl
theorem w_62 : (Cond.fieldLink "RiverDesk$Books" 57 "RiverDesk$River" "outlet" "I" : Cond) ∈ gW := gI 62 (by decide +kernel) rfl
theorem w_74 : (Cond.arrayClass FieldType.boolean : Cond) ∈ gW := gI 74 (by decide +kernel) rfl
theorem w_75 : (Cond.arrayClass FieldType.int : Cond) ∈ gW := gI 75 (by decide +kernel) rfl
theorem w_76 : (Cond.arrayClass FieldType.long : Cond) ∈ gW := gI 76 (by decide +kernel) rfl
theorem w_77 : (Cond.classLink "RiverDesk" 16 "RiverDesk$Reservoirs" : Cond) ∈ gW := gI 77 (by decide +kernel) rfl
theorem w_78 : (Cond.instantiable "RiverDesk$Reservoirs" 5 : Cond) ∈ gW := gI 78 (by decide +kernel) rfl
theorem w_80 : (Cond.instanceMethod ⟨"RiverDesk$Reservoirs", "<init>", "()V"⟩ : Cond) ∈ gW := gI 80 (by decide +kernel) rfl
theorem w_81 : (Cond.code ⟨"RiverDesk$Reservoirs", "<init>", "()V"⟩ prog_4_method_1_code 1 none : Cond) ∈ gW := gI 81 (by decide +kernel) rfl
theorem w_82 : (Cond.methodLink "RiverDesk$Reservoirs" 3 ⟨"java/lang/Object", "<init>", "()V"⟩ : Cond) ∈ gW := gI 82 (by decide +kernel) rfl
theorem w_83 : (Cond.fieldLink "RiverDesk$Reservoirs" 9 "RiverDesk$Reservoirs" "there" "[Z" : Cond) ∈ gW := gI 83 (by decide +kernel) rfl
theorem w_84 : (Cond.fieldLink "RiverDesk" 78 "RiverDesk$Reservoirs" "there" "[Z" : Cond) ∈ gW := gI 84 (by decide +kernel) rfl
theorem w_85 : (Cond.fieldLink "RiverDesk$Reservoirs" 15 "RiverDesk$Reservoirs" "reaches" "[I" : Cond) ∈ gW := gI 85 (by decide +kernel) rfl
theorem w_86 : (Cond.fieldLink "RiverDesk" 122 "RiverDesk$Reservoirs" "reaches" "[I" : Cond) ∈ gW := gI 86 (by decide +kernel) rfl
theorem w_87 : (Cond.fieldLink "RiverDesk$Reservoirs" 19 "RiverDesk$Reservoirs" "capacities" "[I" : Cond) ∈ gW := gI 87 (by decide +kernel) rfl
theorem w_88 : (Cond.fieldLink "RiverDesk$Plan" 40 "RiverDesk$Reservoirs" "capacities" "[I" : Cond) ∈ gW := gI 88 (by decide +kernel) rfl
theorem w_89 : (Cond.fieldLink "RiverDesk" 195 "RiverDesk$Reservoirs" "capacities" "[I" : Cond) ∈ gW := gI 89 (by decide +kernel) rfl
theorem w_90 : (Cond.fieldLink "RiverDesk$Reservoirs" 22 "RiverDesk$Reservoirs" "waters" "[I" : Cond) ∈ gW := gI 90 (by decide +kernel) rfl
theorem w_91 : (Cond.fieldLink "RiverDesk$Plan" 45 "RiverDesk$Reservoirs" "waters" "[I" : Cond) ∈ gW := gI 91 (by decide +kernel) rfl
theorem w_92 : (Cond.fieldLink "RiverDesk" 125 "RiverDesk$Reservoirs" "waters" "[I" : Cond) ∈ gW := gI 92 (by decide +kernel) rfl
theorem w_93 : (Cond.fieldLink "RiverDesk$Books" 15 "RiverDesk$Reservoirs" "released" "J" : Cond) ∈ gW := gI 93 (by decide +kernel) rfl
theorem w_94 : (Cond.fieldLink "RiverDesk$Reservoirs" 25 "RiverDesk$Reservoirs" "released" "J" : Cond) ∈ gW := gI 94 (by decide +kernel) rfl
theorem w_106 : (Cond.classLink "RiverDesk" 23 "RiverDesk$Rights" : Cond) ∈ gW := gI 106 (by decide +kernel) rfl
theorem w_107 : (Cond.instantiable "RiverDesk$Rights" 10 : Cond) ∈ gW := gI 107 (by decide +kernel) rfl
theorem w_109 : (Cond.instanceMethod ⟨"RiverDesk$Rights", "<init>", "()V"⟩ : Cond) ∈ gW := gI 109 (by decide +kernel) rfl
theorem w_110 : (Cond.code ⟨"RiverDesk$Rights", "<init>", "()V"⟩ prog_5_method_1_code 1 none : Cond) ∈ gW := gI 110 (by decide +kernel) rfl
theorem w_111 : (Cond.methodLink "RiverDesk$Rights" 3 ⟨"java/lang/Object", "<init>", "()V"⟩ : Cond) ∈ gW := gI 111 (by decide +kernel) rfl
theorem w_112 : (Cond.fieldLink "RiverDesk$Rights" 9 "RiverDesk$Rights" "there" "[Z" : Cond) ∈ gW := gI 112 (by decide +kernel) rfl
theorem w_113 : (Cond.fieldLink "RiverDesk" 85 "RiverDesk$Rights" "there" "[Z" : Cond) ∈ gW := gI 113 (by decide +kernel) rfl
theorem w_114 : (Cond.fieldLink "RiverDesk$Rights" 15 "RiverDesk$Rights" "reaches" "[I" : Cond) ∈ gW := gI 114 (by decide +kernel) rfl
theorem w_115 : (Cond.fieldLink "RiverDesk$Plan" 84 "RiverDesk$Rights" "reaches" "[I" : Cond) ∈ gW := gI 115 (by decide +kernel) rfl
theorem w_116 : (Cond.fieldLink "RiverDesk$Rights" 19 "RiverDesk$Rights" "priorities" "[I" : Cond) ∈ gW := gI 116 (by decide +kernel) rfl
theorem w_117 : (Cond.fieldLink "RiverDesk" 202 "RiverDesk$Rights" "priorities" "[I" : Cond) ∈ gW := gI 117 (by decide +kernel) rfl
theorem w_118 : (Cond.fieldLink "RiverDesk$Rights" 22 "RiverDesk$Rights" "rates" "[I" : Cond) ∈ gW := gI 118 (by decide +kernel) rfl
theorem w_119 : (Cond.fieldLink "RiverDesk" 106 "RiverDesk$Rights" "rates" "[I" : Cond) ∈ gW := gI 119 (by decide +kernel) rfl
theorem w_120 : (Cond.fieldLink "RiverDesk$Rights" 25 "RiverDesk$Rights" "wants" "[I" : Cond) ∈ gW := gI 120 (by decide +kernel) rfl
theorem w_121 : (Cond.fieldLink "RiverDesk$Plan" 68 "RiverDesk$Rights" "wants" "[I" : Cond) ∈ gW := gI 121 (by decide +kernel) rfl
theorem w_122 : (Cond.fieldLink "RiverDesk" 110 "RiverDesk$Rights" "wants" "[I" : Cond) ∈ gW := gI 122 (by decide +kernel) rfl
theorem w_123 : (Cond.fieldLink "RiverDesk$Rights" 28 "RiverDesk$Rights" "shares" "[I" : Cond) ∈ gW := gI 123 (by decide +kernel) rfl
theorem w_124 : (Cond.fieldLink "RiverDesk" 205 "RiverDesk$Rights" "shares" "[I" : Cond) ∈ gW := gI 124 (by decide +kernel) rfl
theorem w_125 : (Cond.fieldLink "RiverDesk$Rights" 31 "RiverDesk$Rights" "returns" "[I" : Cond) ∈ gW := gI 125 (by decide +kernel) rfl
theorem w_126 : (Cond.fieldLink "RiverDesk$Plan" 87 "RiverDesk$Rights" "returns" "[I" : Cond) ∈ gW := gI 126 (by decide +kernel) rfl
theorem w_127 : (Cond.fieldLink "RiverDesk$Rights" 34 "RiverDesk$Rights" "reservoirs" "[I" : Cond) ∈ gW := gI 127 (by decide +kernel) rfl
theorem w_128 : (Cond.fieldLink "RiverDesk$Reservoirs" 42 "RiverDesk$Rights" "reservoirs" "[I" : Cond) ∈ gW := gI 128 (by decide +kernel) rfl
theorem w_129 : (Cond.fieldLink "RiverDesk$Plan" 75 "RiverDesk$Rights" "reservoirs" "[I" : Cond) ∈ gW := gI 129 (by decide +kernel) rfl
theorem w_130 : (Cond.fieldLink "RiverDesk" 208 "RiverDesk$Rights" "reservoirs" "[I" : Cond) ∈ gW := gI 130 (by decide +kernel) rfl
theorem w_131 : (Cond.fieldLink "RiverDesk$Rights" 37 "RiverDesk$Rights" "byAge" "[I" : Cond) ∈ gW := gI 131 (by decide +kernel) rfl
theorem w_132 : (Cond.fieldLink "RiverDesk$Books" 27 "RiverDesk$Rights" "byAge" "[I" : Cond) ∈ gW := gI 132 (by decide +kernel) rfl
theorem w_133 : (Cond.fieldLink "RiverDesk$Reservoirs" 35 "RiverDesk$Rights" "byAge" "[I" : Cond) ∈ gW := gI 133 (by decide +kernel) rfl
theorem w_134 : (Cond.fieldLink "RiverDesk$Plan" 57 "RiverDesk$Rights" "byAge" "[I" : Cond) ∈ gW := gI 134 (by decide +kernel) rfl
theorem w_135 : (Cond.fieldLink "RiverDesk" 143 "RiverDesk$Rights" "byAge" "[I" : Cond) ∈ gW := gI 135 (by decide +kernel) rfl
theorem w_136 : (Cond.fieldLink "RiverDesk$Books" 21 "RiverDesk$Rights" "count" "I" : Cond) ∈ gW := gI 136 (by decide +kernel) rfl
theorem w_137 : (Cond.fieldLink "RiverDesk$Reservoirs" 29 "RiverDesk$Rights" "count" "I" : Cond) ∈ gW := gI 137 (by decide +kernel) rfl
theorem w_138 : (Cond.fieldLink "RiverDesk$Plan" 51 "RiverDesk$Rights" "count" "I" : Cond) ∈ gW := gI 138 (by decide +kernel) rfl
theorem w_139 : (Cond.fieldLink "RiverDesk$Rights" 40 "RiverDesk$Rights" "count" "I" : Cond) ∈ gW := gI 139 (by decide +kernel) rfl
theorem w_140 : (Cond.fieldLink "RiverDesk" 140 "RiverDesk$Rights" "count" "I" : Cond) ∈ gW := gI 140 (by decide +kernel) rfl
theorem w_162 : (Cond.classLink "RiverDesk" 30 "RiverDesk$Books" : Cond) ∈ gW := gI 162 (by decide +kernel) rfl
theorem w_163 : (Cond.instantiable "RiverDesk$Books" 2 : Cond) ∈ gW := gI 163 (by decide +kernel) rfl
theorem w_165 : (Cond.instanceMethod ⟨"RiverDesk$Books", "<init>", "()V"⟩ : Cond) ∈ gW := gI 165 (by decide +kernel) rfl
theorem w_166 : (Cond.code ⟨"RiverDesk$Books", "<init>", "()V"⟩ prog_2_method_1_code 1 none : Cond) ∈ gW := gI 166 (by decide +kernel) rfl
theorem w_167 : (Cond.methodLink "RiverDesk$Books" 3 ⟨"java/lang/Object", "<init>", "()V"⟩ : Cond) ∈ gW := gI 167 (by decide +kernel) rfl
theorem w_168 : (Cond.fieldLink "RiverDesk$Books" 11 "RiverDesk$Books" "entries" "[J" : Cond) ∈ gW := gI 168 (by decide +kernel) rfl
theorem w_169 : (Cond.fieldLink "RiverDesk$Books" 44 "RiverDesk$Books" "day" "I" : Cond) ∈ gW := gI 169 (by decide +kernel) rfl
theorem w_170 : (Cond.fieldLink "RiverDesk" 192 "RiverDesk$Books" "day" "I" : Cond) ∈ gW := gI 170 (by decide +kernel) rfl
theorem w_176 : (Cond.classLink "RiverDesk" 37 "RiverDesk$Plan" : Cond) ∈ gW := gI 176 (by decide +kernel) rfl
theorem w_177 : (Cond.instantiable "RiverDesk$Plan" 3 : Cond) ∈ gW := gI 177 (by decide +kernel) rfl
theorem w_179 : (Cond.instanceMethod ⟨"RiverDesk$Plan", "<init>", "()V"⟩ : Cond) ∈ gW := gI 179 (by decide +kernel) rfl
theorem w_180 : (Cond.code ⟨"RiverDesk$Plan", "<init>", "()V"⟩ prog_3_method_1_code 1 none : Cond) ∈ gW := gI 180 (by decide +kernel) rfl
theorem w_181 : (Cond.methodLink "RiverDesk$Plan" 3 ⟨"java/lang/Object", "<init>", "()V"⟩ : Cond) ∈ gW := gI 181 (by decide +kernel) rfl
theorem w_182 : (Cond.fieldLink "RiverDesk$Plan" 9 "RiverDesk$Plan" "gets" "[I" : Cond) ∈ gW := gI 182 (by decide +kernel) rfl
theorem w_183 : (Cond.fieldLink "RiverDesk$Books" 35 "RiverDesk$Plan" "gets" "[I" : Cond) ∈ gW := gI 183 (by decide +kernel) rfl
theorem w_184 : (Cond.fieldLink "RiverDesk$Reservoirs" 45 "RiverDesk$Plan" "gets" "[I" : Cond) ∈ gW := gI 184 (by decide +kernel) rfl
theorem w_185 : (Cond.fieldLink "RiverDesk" 149 "RiverDesk$Plan" "gets" "[I" : Cond) ∈ gW := gI 185 (by decide +kernel) rfl
theorem w_186 : (Cond.fieldLink "RiverDesk$Plan" 15 "RiverDesk$Plan" "flows" "[J" : Cond) ∈ gW := gI 186 (by decide +kernel) rfl
theorem w_187 : (Cond.fieldLink "RiverDesk$Books" 60 "RiverDesk$Plan" "flows" "[J" : Cond) ∈ gW := gI 187 (by decide +kernel) rfl
theorem w_188 : (Cond.fieldLink "RiverDesk" 152 "RiverDesk$Plan" "flows" "[J" : Cond) ∈ gW := gI 188 (by decide +kernel) rfl
theorem w_189 : (Cond.fieldLink "RiverDesk$Plan" 19 "RiverDesk$Plan" "rooms" "[I" : Cond) ∈ gW := gI 189 (by decide +kernel) rfl
theorem w_197 : (Cond.fieldLink "RiverDesk" 10 "RiverDesk" "river" "LRiverDesk$River;" : Cond) ∈ gW := gI 197 (by decide +kernel) rfl
theorem w_198 : (Cond.fieldLink "RiverDesk" 19 "RiverDesk" "reservoirs" "LRiverDesk$Reservoirs;" : Cond) ∈ gW := gI 198 (by decide +kernel) rfl
theorem w_199 : (Cond.fieldLink "RiverDesk" 26 "RiverDesk" "rights" "LRiverDesk$Rights;" : Cond) ∈ gW := gI 199 (by decide +kernel) rfl
theorem w_200 : (Cond.fieldLink "RiverDesk" 33 "RiverDesk" "books" "LRiverDesk$Books;" : Cond) ∈ gW := gI 200 (by decide +kernel) rfl
theorem w_201 : (Cond.fieldLink "RiverDesk" 40 "RiverDesk" "today" "LRiverDesk$Plan;" : Cond) ∈ gW := gI 201 (by decide +kernel) rfl
theorem w_202 : (Cond.fieldLink "RiverDesk" 44 "RiverDesk" "supposed" "LRiverDesk$Plan;" : Cond) ∈ gW := gI 202 (by decide +kernel) rfl
theorem w_203 : (Cond.fieldLink "RiverDesk" 47 "RiverDesk" "todayIsStale" "Z" : Cond) ∈ gW := gI 203 (by decide +kernel) rfl
theorem w_219 : (Cond.methodLink "RiverDeskLaw" 102 ⟨"RiverDesk", "plan", "()I"⟩ : Cond) ∈ gW := gI 219 (by decide +kernel) rfl
theorem w_220 : (Cond.instanceMethod ⟨"RiverDesk", "plan", "()I"⟩ : Cond) ∈ gW := gI 220 (by decide +kernel) rfl
theorem w_221 : (Cond.selects "RiverDesk" ⟨"RiverDesk", "plan", "()I"⟩ ⟨"RiverDesk", "plan", "()I"⟩ : Cond) ∈ gW := gI 221 (by decide +kernel) rfl
theorem w_222 : (Cond.code ⟨"RiverDesk", "plan", "()I"⟩ prog_1_method_10_code 3 (some FieldType.int) : Cond) ∈ gW := gI 222 (by decide +kernel) rfl
theorem w_223 : (Cond.methodLink "RiverDesk" 137 ⟨"RiverDesk", "settleToday", "()V"⟩ : Cond) ∈ gW := gI 223 (by decide +kernel) rfl
theorem w_225 : (Cond.instanceMethod ⟨"RiverDesk", "settleToday", "()V"⟩ : Cond) ∈ gW := gI 225 (by decide +kernel) rfl
theorem w_226 : (Cond.code ⟨"RiverDesk", "settleToday", "()V"⟩ prog_1_method_20_code 1 none : Cond) ∈ gW := gI 226 (by decide +kernel) rfl
theorem w_227 : (Cond.methodLink "RiverDesk" 161 ⟨"RiverDesk$Plan", "begin", "(LRiverDesk$River;LRiverDesk$Reservoirs;)V"⟩ : Cond) ∈ gW := gI 227 (by decide +kernel) rfl
theorem w_228 : (Cond.instanceMethod ⟨"RiverDesk$Plan", "begin", "(LRiverDesk$River;LRiverDesk$Reservoirs;)V"⟩ : Cond) ∈ gW := gI 228 (by decide +kernel) rfl
theorem w_229 : (Cond.selects "RiverDesk$Plan" ⟨"RiverDesk$Plan", "begin", "(LRiverDesk$River;LRiverDesk$Reservoirs;)V"⟩ ⟨"RiverDesk$Plan", "begin", "(LRiverDesk$River;LRiverDesk$Reservoirs;)V"⟩ : Cond) ∈ gW := gI 229 (by decide +kernel) rfl
theorem w_230 : (Cond.code ⟨"RiverDesk$Plan", "begin", "(LRiverDesk$River;LRiverDesk$Reservoirs;)V"⟩ prog_3_method_2_code 4 none : Cond) ∈ gW := gI 230 (by decide +kernel) rfl
theorem w_231 : (Cond.methodLink "RiverDesk$Plan" 22 ⟨"java/util/Arrays", "fill", "([II)V"⟩ : Cond) ∈ gW := gI 231 (by decide +kernel) rfl
theorem w_232 : (Cond.static ⟨"java/util/Arrays", "fill", "([II)V"⟩ : Cond) ∈ gW := gI 232 (by decide +kernel) rfl
theorem w_233 : (Cond.code ⟨"java/util/Arrays", "fill", "([II)V"⟩ prog_18_method_103_code 4 none : Cond) ∈ gW := gI 233 (by decide +kernel) rfl
theorem w_234 : (Cond.methodLink "RiverDesk$Plan" 28 ⟨"java/util/Arrays", "fill", "([JJ)V"⟩ : Cond) ∈ gW := gI 234 (by decide +kernel) rfl
theorem w_235 : (Cond.static ⟨"java/util/Arrays", "fill", "([JJ)V"⟩ : Cond) ∈ gW := gI 235 (by decide +kernel) rfl
theorem w_236 : (Cond.code ⟨"java/util/Arrays", "fill", "([JJ)V"⟩ prog_18_method_101_code 5 none : Cond) ∈ gW := gI 236 (by decide +kernel) rfl
theorem w_237 : (Cond.methodLink "RiverDesk$Plan" 36 ⟨"RiverDesk$Plan", "pour", "(LRiverDesk$River;I)V"⟩ : Cond) ∈ gW := gI 237 (by decide +kernel) rfl
theorem w_239 : (Cond.instanceMethod ⟨"RiverDesk$Plan", "pour", "(LRiverDesk$River;I)V"⟩ : Cond) ∈ gW := gI 239 (by decide +kernel) rfl
theorem w_240 : (Cond.code ⟨"RiverDesk$Plan", "pour", "(LRiverDesk$River;I)V"⟩ prog_3_method_3_code 5 none : Cond) ∈ gW := gI 240 (by decide +kernel) rfl
theorem w_241 : (Cond.methodLink "RiverDesk" 173 ⟨"RiverDesk$Plan", "giveAllBut", "(LRiverDesk$River;LRiverDesk$Rights;I)V"⟩ : Cond) ∈ gW := gI 241 (by decide +kernel) rfl
theorem w_242 : (Cond.instanceMethod ⟨"RiverDesk$Plan", "giveAllBut", "(LRiverDesk$River;LRiverDesk$Rights;I)V"⟩ : Cond) ∈ gW := gI 242 (by decide +kernel) rfl
theorem w_243 : (Cond.selects "RiverDesk$Plan" ⟨"RiverDesk$Plan", "giveAllBut", "(LRiverDesk$River;LRiverDesk$Rights;I)V"⟩ ⟨"RiverDesk$Plan", "giveAllBut", "(LRiverDesk$River;LRiverDesk$Rights;I)V"⟩ : Cond) ∈ gW := gI 243 (by decide +kernel) rfl
theorem w_244 : (Cond.code ⟨"RiverDesk$Plan", "giveAllBut", "(LRiverDesk$River;LRiverDesk$Rights;I)V"⟩ prog_3_method_4_code 6 none : Cond) ∈ gW := gI 244 (by decide +kernel) rfl
theorem w_245 : (Cond.methodLink "RiverDesk$Plan" 60 ⟨"RiverDesk$Plan", "most", "(LRiverDesk$River;LRiverDesk$Rights;I)I"⟩ : Cond) ∈ gW := gI 245 (by decide +kernel) rfl
theorem w_246 : (Cond.instanceMethod ⟨"RiverDesk$Plan", "most", "(LRiverDesk$River;LRiverDesk$Rights;I)I"⟩ : Cond) ∈ gW := gI 246 (by decide +kernel) rfl
theorem w_247 : (Cond.selects "RiverDesk$Plan" ⟨"RiverDesk$Plan", "most", "(LRiverDesk$River;LRiverDesk$Rights;I)I"⟩ ⟨"RiverDesk$Plan", "most", "(LRiverDesk$River;LRiverDesk$Rights;I)I"⟩ : Cond) ∈ gW := gI 247 (by decide +kernel) rfl
theorem w_248 : (Cond.code ⟨"RiverDesk$Plan", "most", "(LRiverDesk$River;LRiverDesk$Rights;I)I"⟩ prog_3_method_5_code 9 (some FieldType.int) : Cond) ∈ gW := gI 248 (by decide +kernel) rfl
theorem w_249 : (Cond.methodLink "RiverDesk$Plan" 71 ⟨"RiverDesk$Rights", "isStorage", "(I)Z"⟩ : Cond) ∈ gW := gI 249 (by decide +kernel) rfl
theorem w_250 : (Cond.instanceMethod ⟨"RiverDesk$Rights", "isStorage", "(I)Z"⟩ : Cond) ∈ gW := gI 250 (by decide +kernel) rfl
theorem w_251 : (Cond.selects "RiverDesk$Rights" ⟨"RiverDesk$Rights", "isStorage", "(I)Z"⟩ ⟨"RiverDesk$Rights", "isStorage", "(I)Z"⟩ : Cond) ∈ gW := gI 251 (by decide +kernel) rfl
theorem w_252 : (Cond.code ⟨"RiverDesk$Rights", "isStorage", "(I)Z"⟩ prog_5_method_7_code 2 (some FieldType.boolean) : Cond) ∈ gW := gI 252 (by decide +kernel) rfl
theorem w_253 : (Cond.methodLink "RiverDesk$Plan" 78 ⟨"java/lang/Math", "min", "(JJ)J"⟩ : Cond) ∈ gW := gI 253 (by decide +kernel) rfl
theorem w_254 : (Cond.static ⟨"java/lang/Math", "min", "(JJ)J"⟩ : Cond) ∈ gW := gI 254 (by decide +kernel) rfl
theorem w_255 : (Cond.code ⟨"java/lang/Math", "min", "(JJ)J"⟩ prog_13_method_70_code 4 (some FieldType.long) : Cond) ∈ gW := gI 255 (by decide +kernel) rfl
theorem w_256 : (Cond.methodLink "RiverDesk$Plan" 90 ⟨"RiverDesk$Rights", "mostForUse", "(IJ)J"⟩ : Cond) ∈ gW := gI 256 (by decide +kernel) rfl
theorem w_257 : (Cond.instanceMethod ⟨"RiverDesk$Rights", "mostForUse", "(IJ)J"⟩ : Cond) ∈ gW := gI 257 (by decide +kernel) rfl
theorem w_258 : (Cond.selects "RiverDesk$Rights" ⟨"RiverDesk$Rights", "mostForUse", "(IJ)J"⟩ ⟨"RiverDesk$Rights", "mostForUse", "(IJ)J"⟩ : Cond) ∈ gW := gI 258 (by decide +kernel) rfl
theorem w_259 : (Cond.code ⟨"RiverDesk$Rights", "mostForUse", "(IJ)J"⟩ prog_5_method_9_code 5 (some FieldType.long) : Cond) ∈ gW := gI 259 (by decide +kernel) rfl
theorem w_260 : (Cond.constantLong "RiverDesk$Rights" 46 1000000000 : Cond) ∈ gW := gI 260 (by decide +kernel) rfl
theorem w_261 : (Cond.constantLong "RiverDesk$Rights" 44 1000 : Cond) ∈ gW := gI 261 (by decide +kernel) rfl
theorem w_262 : (Cond.methodLink "RiverDesk$Plan" 64 ⟨"RiverDesk$Plan", "give", "(LRiverDesk$River;LRiverDesk$Rights;II)V"⟩ : Cond) ∈ gW := gI 262 (by decide +kernel) rfl
theorem w_263 : (Cond.instanceMethod ⟨"RiverDesk$Plan", "give", "(LRiverDesk$River;LRiverDesk$Rights;II)V"⟩ : Cond) ∈ gW := gI 263 (by decide +kernel) rfl
theorem w_264 : (Cond.selects "RiverDesk$Plan" ⟨"RiverDesk$Plan", "give", "(LRiverDesk$River;LRiverDesk$Rights;II)V"⟩ ⟨"RiverDesk$Plan", "give", "(LRiverDesk$River;LRiverDesk$Rights;II)V"⟩ : Cond) ∈ gW := gI 264 (by decide +kernel) rfl
theorem w_265 : (Cond.code ⟨"RiverDesk$Plan", "give", "(LRiverDesk$River;LRiverDesk$Rights;II)V"⟩ prog_3_method_6_code 8 none : Cond) ∈ gW := gI 265 (by decide +kernel) rfl
theorem w_266 : (Cond.methodLink "RiverDesk$Plan" 94 ⟨"RiverDesk$Rights", "usedOf", "(II)J"⟩ : Cond) ∈ gW := gI 266 (by decide +kernel) rfl
theorem w_267 : (Cond.instanceMethod ⟨"RiverDesk$Rights", "usedOf", "(II)J"⟩ : Cond) ∈ gW := gI 267 (by decide +kernel) rfl
theorem w_268 : (Cond.selects "RiverDesk$Rights" ⟨"RiverDesk$Rights", "usedOf", "(II)J"⟩ ⟨"RiverDesk$Rights", "usedOf", "(II)J"⟩ : Cond) ∈ gW := gI 268 (by decide +kernel) rfl
theorem w_269 : (Cond.code ⟨"RiverDesk$Rights", "usedOf", "(II)J"⟩ prog_5_method_8_code 3 (some FieldType.long) : Cond) ∈ gW := gI 269 (by decide +kernel) rfl
theorem w_270 : (Cond.methodLink "RiverDesk" 146 ⟨"RiverDesk", "isShort", "(I)Z"⟩ : Cond) ∈ gW := gI 270 (by decide +kernel) rfl
theorem w_272 : (Cond.instanceMethod ⟨"RiverDesk", "isShort", "(I)Z"⟩ : Cond) ∈ gW := gI 272 (by decide +kernel) rfl
theorem w_273 : (Cond.code ⟨"RiverDesk", "isShort", "(I)Z"⟩ prog_1_method_21_code 2 (some FieldType.boolean) : Cond) ∈ gW := gI 273 (by decide +kernel) rfl
theorem w_274 : (Cond.methodLink "RiverDeskLaw" 120 ⟨"RiverDesk", "close", "()I"⟩ : Cond) ∈ gW := gI 274 (by decide +kernel) rfl
theorem w_275 : (Cond.instanceMethod ⟨"RiverDesk", "close", "()I"⟩ : Cond) ∈ gW := gI 275 (by decide +kernel) rfl
theorem w_276 : (Cond.selects "RiverDesk" ⟨"RiverDesk", "close", "()I"⟩ ⟨"RiverDesk", "close", "()I"⟩ : Cond) ∈ gW := gI 276 (by decide +kernel) rfl
theorem w_277 : (Cond.code ⟨"RiverDesk", "close", "()I"⟩ prog_1_method_15_code 1 (some FieldType.int) : Cond) ∈ gW := gI 277 (by decide +kernel) rfl
theorem w_278 : (Cond.methodLink "RiverDesk" 181 ⟨"RiverDesk$Books", "write", "(LRiverDesk$River;LRiverDesk$Reservoirs;LRiverDesk$Rights;LRiverDesk$Plan;)V"⟩ : Cond) ∈ gW := gI 278 (by decide +kernel) rfl
theorem w_279 : (Cond.instanceMethod ⟨"RiverDesk$Books", "write", "(LRiverDesk$River;LRiverDesk$Reservoirs;LRiverDesk$Rights;LRiverDesk$Plan;)V"⟩ : Cond) ∈ gW := gI 279 (by decide +kernel) rfl
theorem w_280 : (Cond.selects "RiverDesk$Books" ⟨"RiverDesk$Books", "write", "(LRiverDesk$River;LRiverDesk$Reservoirs;LRiverDesk$Rights;LRiverDesk$Plan;)V"⟩ ⟨"RiverDesk$Books", "write", "(LRiverDesk$River;LRiverDesk$Reservoirs;LRiverDesk$Rights;LRiverDesk$Plan;)V"⟩ : Cond) ∈ gW := gI 280 (by decide +kernel) rfl
theorem w_281 : (Cond.code ⟨"RiverDesk$Books", "write", "(LRiverDesk$River;LRiverDesk$Reservoirs;LRiverDesk$Rights;LRiverDesk$Plan;)V"⟩ prog_2_method_2_code 11 none : Cond) ∈ gW := gI 281 (by decide +kernel) rfl
theorem w_282 : (Cond.methodLink "RiverDesk$Books" 31 ⟨"RiverDesk$Rights", "isStorage", "(I)Z"⟩ : Cond) ∈ gW := gI 282 (by decide +kernel) rfl
theorem w_283 : (Cond.methodLink "RiverDesk$Books" 40 ⟨"RiverDesk$Rights", "usedOf", "(II)J"⟩ : Cond) ∈ gW := gI 283 (by decide +kernel) rfl
theorem w_284 : (Cond.methodLink "RiverDesk$Books" 47 ⟨"RiverDesk$Books", "pageOf", "(I)I"⟩ : Cond) ∈ gW := gI 284 (by decide +kernel) rfl
theorem w_285 : (Cond.static ⟨"RiverDesk$Books", "pageOf", "(I)I"⟩ : Cond) ∈ gW := gI 285 (by decide +kernel) rfl
theorem w_286 : (Cond.code ⟨"RiverDesk$Books", "pageOf", "(I)I"⟩ prog_2_method_3_code 1 (some FieldType.int) : Cond) ∈ gW := gI 286 (by decide +kernel) rfl
theorem w_287 : (Cond.methodLink "RiverDesk$Books" 63 ⟨"java/lang/Math", "floorMod", "(II)I"⟩ : Cond) ∈ gW := gI 287 (by decide +kernel) rfl
theorem w_288 : (Cond.static ⟨"java/lang/Math", "floorMod", "(II)I"⟩ : Cond) ∈ gW := gI 288 (by decide +kernel) rfl
theorem w_289 : (Cond.code ⟨"java/lang/Math", "floorMod", "(II)I"⟩ prog_13_method_50_code 3 (some FieldType.int) : Cond) ∈ gW := gI 289 (by decide +kernel) rfl
theorem w_290 : (Cond.methodLink "RiverDesk$Books" 51 ⟨"RiverDesk$River", "allInflow", "()J"⟩ : Cond) ∈ gW := gI 290 (by decide +kernel) rfl
theorem w_291 : (Cond.instanceMethod ⟨"RiverDesk$River", "allInflow", "()J"⟩ : Cond) ∈ gW := gI 291 (by decide +kernel) rfl
theorem w_292 : (Cond.selects "RiverDesk$River" ⟨"RiverDesk$River", "allInflow", "()J"⟩ ⟨"RiverDesk$River", "allInflow", "()J"⟩ : Cond) ∈ gW := gI 292 (by decide +kernel) rfl
theorem w_293 : (Cond.code ⟨"RiverDesk$River", "allInflow", "()J"⟩ prog_6_method_5_code 4 (some FieldType.long) : Cond) ∈ gW := gI 293 (by decide +kernel) rfl
theorem w_294 : (Cond.methodLink "RiverDesk" 185 ⟨"RiverDesk$Reservoirs", "beginDay", "(LRiverDesk$Rights;LRiverDesk$Plan;)V"⟩ : Cond) ∈ gW := gI 294 (by decide +kernel) rfl
theorem w_295 : (Cond.instanceMethod ⟨"RiverDesk$Reservoirs", "beginDay", "(LRiverDesk$Rights;LRiverDesk$Plan;)V"⟩ : Cond) ∈ gW := gI 295 (by decide +kernel) rfl
theorem w_296 : (Cond.selects "RiverDesk$Reservoirs" ⟨"RiverDesk$Reservoirs", "beginDay", "(LRiverDesk$Rights;LRiverDesk$Plan;)V"⟩ ⟨"RiverDesk$Reservoirs", "beginDay", "(LRiverDesk$Rights;LRiverDesk$Plan;)V"⟩ : Cond) ∈ gW := gI 296 (by decide +kernel) rfl
theorem w_297 : (Cond.code ⟨"RiverDesk$Reservoirs", "beginDay", "(LRiverDesk$Rights;LRiverDesk$Plan;)V"⟩ prog_4_method_4_code 5 none : Cond) ∈ gW := gI 297 (by decide +kernel) rfl
theorem w_298 : (Cond.methodLink "RiverDesk$Reservoirs" 38 ⟨"RiverDesk$Rights", "isStorage", "(I)Z"⟩ : Cond) ∈ gW := gI 298 (by decide +kernel) rfl
theorem w_299 : (Cond.methodLink "RiverDesk" 189 ⟨"RiverDesk$River", "beginDay", "()V"⟩ : Cond) ∈ gW := gI 299 (by decide +kernel) rfl
theorem w_300 : (Cond.instanceMethod ⟨"RiverDesk$River", "beginDay", "()V"⟩ : Cond) ∈ gW := gI 300 (by decide +kernel) rfl
theorem w_301 : (Cond.selects "RiverDesk$River" ⟨"RiverDesk$River", "beginDay", "()V"⟩ ⟨"RiverDesk$River", "beginDay", "()V"⟩ : Cond) ∈ gW := gI 301 (by decide +kernel) rfl
theorem w_302 : (Cond.code ⟨"RiverDesk$River", "beginDay", "()V"⟩ prog_6_method_6_code 1 none : Cond) ∈ gW := gI 302 (by decide +kernel) rfl
theorem w_303 : (Cond.methodLink "RiverDesk$River" 30 ⟨"java/util/Arrays", "fill", "([II)V"⟩ : Cond) ∈ gW := gI 303 (by decide +kernel) rfl
theorem w_304 : (Cond.methodLink "RiverDesk$River" 36 ⟨"java/util/Arrays", "fill", "([JJ)V"⟩ : Cond) ∈ gW := gI 304 (by decide +kernel) rfl
theorem w_305 : (Cond.methodLink "RiverDesk" 191 ⟨"RiverDesk$Rights", "beginDay", "()V"⟩ : Cond) ∈ gW := gI 305 (by decide +kernel) rfl
theorem w_306 : (Cond.instanceMethod ⟨"RiverDesk$Rights", "beginDay", "()V"⟩ : Cond) ∈ gW := gI 306 (by decide +kernel) rfl
theorem w_307 : (Cond.selects "RiverDesk$Rights" ⟨"RiverDesk$Rights", "beginDay", "()V"⟩ ⟨"RiverDesk$Rights", "beginDay", "()V"⟩ : Cond) ∈ gW := gI 307 (by decide +kernel) rfl
theorem w_308 : (Cond.code ⟨"RiverDesk$Rights", "beginDay", "()V"⟩ prog_5_method_10_code 1 none : Cond) ∈ gW := gI 308 (by decide +kernel) rfl
theorem w_309 : (Cond.methodLink "RiverDesk$Rights" 48 ⟨"java/lang/System", "arraycopy", "(Ljava/lang/Object;ILjava/lang/Object;II)V"⟩ : Cond) ∈ gW := gI 309 (by decide +kernel) rfl
theorem w_310 : (Cond.static ⟨"java/lang/System", "arraycopy", "(Ljava/lang/Object;ILjava/lang/Object;II)V"⟩ : Cond) ∈ gW := gI 310 (by decide +kernel) rfl
theorem w_311 : (Cond.native ⟨"java/lang/System", "arraycopy", "(Ljava/lang/Object;ILjava/lang/Object;II)V"⟩ : Cond) ∈ gW := gI 311 (by decide +kernel) rfl
theorem w_312 : (Cond.methodLink "RiverDeskLaw" 124 ⟨"RiverDesk", "held", "(II)I"⟩ : Cond) ∈ gW := gI 312 (by decide +kernel) rfl
theorem w_313 : (Cond.instanceMethod ⟨"RiverDesk", "held", "(II)I"⟩ : Cond) ∈ gW := gI 313 (by decide +kernel) rfl
theorem w_314 : (Cond.selects "RiverDesk" ⟨"RiverDesk", "held", "(II)I"⟩ ⟨"RiverDesk", "held", "(II)I"⟩ : Cond) ∈ gW := gI 314 (by decide +kernel) rfl
theorem w_315 : (Cond.code ⟨"RiverDesk", "held", "(II)I"⟩ prog_1_method_16_code 3 (some FieldType.int) : Cond) ∈ gW := gI 315 (by decide +kernel) rfl
theorem w_316 : (Cond.methodLink "RiverDeskLaw" 129 ⟨"RiverDesk", "book", "(II)J"⟩ : Cond) ∈ gW := gI 316 (by decide +kernel) rfl
theorem w_317 : (Cond.instanceMethod ⟨"RiverDesk", "book", "(II)J"⟩ : Cond) ∈ gW := gI 317 (by decide +kernel) rfl
theorem w_318 : (Cond.selects "RiverDesk" ⟨"RiverDesk", "book", "(II)J"⟩ ⟨"RiverDesk", "book", "(II)J"⟩ : Cond) ∈ gW := gI 318 (by decide +kernel) rfl
theorem w_319 : (Cond.code ⟨"RiverDesk", "book", "(II)J"⟩ prog_1_method_17_code 3 (some FieldType.long) : Cond) ∈ gW := gI 319 (by decide +kernel) rfl
theorem w_320 : (Cond.methodLink "RiverDesk" 198 ⟨"RiverDesk$Books", "read", "(II)J"⟩ : Cond) ∈ gW := gI 320 (by decide +kernel) rfl
theorem w_321 : (Cond.instanceMethod ⟨"RiverDesk$Books", "read", "(II)J"⟩ : Cond) ∈ gW := gI 321 (by decide +kernel) rfl
theorem w_322 : (Cond.selects "RiverDesk$Books" ⟨"RiverDesk$Books", "read", "(II)J"⟩ ⟨"RiverDesk$Books", "read", "(II)J"⟩ : Cond) ∈ gW := gI 322 (by decide +kernel) rfl
theorem w_323 : (Cond.code ⟨"RiverDesk$Books", "read", "(II)J"⟩ prog_2_method_4_code 3 (some FieldType.long) : Cond) ∈ gW := gI 323 (by decide +kernel) rfl
theorem w_324 : (Cond.constantLong "RiverDesk$Books" 69 (-1) : Cond) ∈ gW := gI 324 (by decide +kernel) rfl
theorem w_325 : (Cond.methodLink "RiverDeskLaw" 133 ⟨"RiverDesk", "about", "(II)I"⟩ : Cond) ∈ gW := gI 325 (by decide +kernel) rfl
theorem w_326 : (Cond.instanceMethod ⟨"RiverDesk", "about", "(II)I"⟩ : Cond) ∈ gW := gI 326 (by decide +kernel) rfl
theorem w_327 : (Cond.selects "RiverDesk" ⟨"RiverDesk", "about", "(II)I"⟩ ⟨"RiverDesk", "about", "(II)I"⟩ : Cond) ∈ gW := gI 327 (by decide +kernel) rfl
theorem w_328 : (Cond.code ⟨"RiverDesk", "about", "(II)I"⟩ prog_1_method_18_code 3 (some FieldType.int) : Cond) ∈ gW := gI 328 (by decide +kernel) rfl
theorem w_329 : (Cond.methodLink "RiverDeskLaw" 137 ⟨"RiverDesk", "aged", "(I)I"⟩ : Cond) ∈ gW := gI 329 (by decide +kernel) rfl
theorem w_330 : (Cond.instanceMethod ⟨"RiverDesk", "aged", "(I)I"⟩ : Cond) ∈ gW := gI 330 (by decide +kernel) rfl
theorem w_331 : (Cond.selects "RiverDesk" ⟨"RiverDesk", "aged", "(I)I"⟩ ⟨"RiverDesk", "aged", "(I)I"⟩ : Cond) ∈ gW := gI 331 (by decide +kernel) rfl
theorem w_332 : (Cond.code ⟨"RiverDesk", "aged", "(I)I"⟩ prog_1_method_19_code 2 (some FieldType.int) : Cond) ∈ gW := gI 332 (by decide +kernel) rfl
theorem w_333 : (Cond.methodLink "RiverDeskLaw" 66 ⟨"RiverDeskLaw", "reach", "(LRiverDesk;II)I"⟩ : Cond) ∈ gW := gI 333 (by decide +kernel) rfl
theorem w_334 : (Cond.static ⟨"RiverDeskLaw", "reach", "(LRiverDesk;II)I"⟩ : Cond) ∈ gW := gI 334 (by decide +kernel) rfl
theorem w_335 : (Cond.codeWith ⟨"RiverDeskLaw", "reach", "(LRiverDesk;II)I"⟩ method_3_code 4 (some FieldType.int) [(0, 6, 9, 13), (0, 6, 12, 15), (0, 6, 15, 17)] : Cond) ∈ gW := gI 335 (by decide +kernel) rfl
theorem w_336 : (Cond.classLink "RiverDeskLaw" 13 "java/lang/IndexOutOfBoundsException" : Cond) ∈ gW := gI 336 (by decide +kernel) rfl
theorem w_337 : (Cond.classLink "RiverDeskLaw" 15 "java/util/NoSuchElementException" : Cond) ∈ gW := gI 337 (by decide +kernel) rfl
theorem w_338 : (Cond.classLink "RiverDeskLaw" 17 "java/lang/IllegalStateException" : Cond) ∈ gW := gI 338 (by decide +kernel) rfl
theorem w_339 : (Cond.methodLink "RiverDeskLaw" 7 ⟨"RiverDesk", "reach", "(II)V"⟩ : Cond) ∈ gW := gI 339 (by decide +kernel) rfl
theorem w_340 : (Cond.instanceMethod ⟨"RiverDesk", "reach", "(II)V"⟩ : Cond) ∈ gW := gI 340 (by decide +kernel) rfl
theorem w_341 : (Cond.selects "RiverDesk" ⟨"RiverDesk", "reach", "(II)V"⟩ ⟨"RiverDesk", "reach", "(II)V"⟩ : Cond) ∈ gW := gI 341 (by decide +kernel) rfl
theorem w_342 : (Cond.code ⟨"RiverDesk", "reach", "(II)V"⟩ prog_1_method_2_code 3 none : Cond) ∈ gW := gI 342 (by decide +kernel) rfl
theorem w_343 : (Cond.methodLink "RiverDesk" 51 ⟨"RiverDesk", "checkNumber", "(II)V"⟩ : Cond) ∈ gW := gI 343 (by decide +kernel) rfl
theorem w_344 : (Cond.static ⟨"RiverDesk", "checkNumber", "(II)V"⟩ : Cond) ∈ gW := gI 344 (by decide +kernel) rfl
theorem w_345 : (Cond.code ⟨"RiverDesk", "checkNumber", "(II)V"⟩ prog_1_method_26_code 2 none : Cond) ∈ gW := gI 345 (by decide +kernel) rfl
theorem w_346 : (Cond.classLink "RiverDesk" 221 "java/lang/IndexOutOfBoundsException" : Cond) ∈ gW := gI 346 (by decide +kernel) rfl
theorem w_347 : (Cond.instantiable "java/lang/IndexOutOfBoundsException" 6 : Cond) ∈ gW := gI 347 (by decide +kernel) rfl
theorem w_355 : (Cond.selects "java/lang/IndexOutOfBoundsException" ⟨"java/lang/Throwable", "fillInStackTrace", "(I)Ljava/lang/Throwable;"⟩ ⟨"java/lang/Throwable", "fillInStackTrace", "(I)Ljava/lang/Throwable;"⟩ : Cond) ∈ gW := gI 355 (by decide +kernel) rfl
theorem w_356 : (Cond.selects "java/lang/IndexOutOfBoundsException" ⟨"java/lang/Throwable", "fillInStackTrace", "()Ljava/lang/Throwable;"⟩ ⟨"java/lang/Throwable", "fillInStackTrace", "()Ljava/lang/Throwable;"⟩ : Cond) ∈ gW := gI 356 (by decide +kernel) rfl
theorem w_367 : (Cond.fieldLink "java/lang/Throwable" 198 "java/lang/Throwable" "backtrace" "Ljava/lang/Object;" : Cond) ∈ gW := gI 367 (by decide +kernel) rfl
theorem w_369 : (Cond.instanceMethod ⟨"java/lang/Throwable", "<init>", "()V"⟩ : Cond) ∈ gW := gI 369 (by decide +kernel) rfl
theorem w_370 : (Cond.code ⟨"java/lang/Throwable", "<init>", "()V"⟩ prog_17_method_1_code 1 none : Cond) ∈ gW := gI 370 (by decide +kernel) rfl
theorem w_371 : (Cond.methodLink "java/lang/Throwable" 1 ⟨"java/lang/Object", "<init>", "()V"⟩ : Cond) ∈ gW := gI 371 (by decide +kernel) rfl
theorem w_372 : (Cond.fieldLink "java/lang/Throwable" 13 "java/lang/Throwable" "UNASSIGNED_STACK" "[Ljava/lang/StackTraceElement;" : Cond) ∈ gW := gI 372 (by decide +kernel) rfl
theorem w_374 : (Cond.fieldLink "java/lang/Throwable" 20 "java/lang/Throwable" "SUPPRESSED_SENTINEL" "Ljava/util/List;" : Cond) ∈ gW := gI 374 (by decide +kernel) rfl
theorem w_376 : (Cond.methodLink "java/lang/Throwable" 27 ⟨"java/lang/Throwable", "fillInStackTrace", "()Ljava/lang/Throwable;"⟩ : Cond) ∈ gW := gI 376 (by decide +kernel) rfl
theorem w_377 : (Cond.instanceMethod ⟨"java/lang/Throwable", "fillInStackTrace", "()Ljava/lang/Throwable;"⟩ : Cond) ∈ gW := gI 377 (by decide +kernel) rfl
theorem w_379 : (Cond.selects "java/lang/IllegalArgumentException" ⟨"java/lang/Throwable", "fillInStackTrace", "()Ljava/lang/Throwable;"⟩ ⟨"java/lang/Throwable", "fillInStackTrace", "()Ljava/lang/Throwable;"⟩ : Cond) ∈ gW := gI 379 (by decide +kernel) rfl
theorem w_380 : (Cond.selects "java/lang/IllegalStateException" ⟨"java/lang/Throwable", "fillInStackTrace", "()Ljava/lang/Throwable;"⟩ ⟨"java/lang/Throwable", "fillInStackTrace", "()Ljava/lang/Throwable;"⟩ : Cond) ∈ gW := gI 380 (by decide +kernel) rfl
theorem w_381 : (Cond.selects "java/util/NoSuchElementException" ⟨"java/lang/Throwable", "fillInStackTrace", "()Ljava/lang/Throwable;"⟩ ⟨"java/lang/Throwable", "fillInStackTrace", "()Ljava/lang/Throwable;"⟩ : Cond) ∈ gW := gI 381 (by decide +kernel) rfl
theorem w_383 : (Cond.methodLink "java/lang/Throwable" 202 ⟨"java/lang/Throwable", "fillInStackTrace", "(I)Ljava/lang/Throwable;"⟩ : Cond) ∈ gW := gI 383 (by decide +kernel) rfl
theorem w_385 : (Cond.instanceMethod ⟨"java/lang/Throwable", "fillInStackTrace", "(I)Ljava/lang/Throwable;"⟩ : Cond) ∈ gW := gI 385 (by decide +kernel) rfl
theorem w_386 : (Cond.instantiable "java/lang/Throwable" 6 : Cond) ∈ gW := gI 386 (by decide +kernel) rfl
theorem w_387 : (Cond.native ⟨"java/lang/Throwable", "fillInStackTrace", "(I)Ljava/lang/Throwable;"⟩ : Cond) ∈ gW := gI 387 (by decide +kernel) rfl
theorem w_389 : (Cond.methodLink "RiverDesk" 225 ⟨"java/lang/IndexOutOfBoundsException", "<init>", "(Ljava/lang/String;)V"⟩ : Cond) ∈ gW := gI 389 (by decide +kernel) rfl
theorem w_390 : (Cond.instanceMethod ⟨"java/lang/IndexOutOfBoundsException", "<init>", "(Ljava/lang/String;)V"⟩ : Cond) ∈ gW := gI 390 (by decide +kernel) rfl
theorem w_391 : (Cond.code ⟨"java/lang/IndexOutOfBoundsException", "<init>", "(Ljava/lang/String;)V"⟩ prog_12_method_2_code 2 none : Cond) ∈ gW := gI 391 (by decide +kernel) rfl
theorem w_392 : (Cond.methodLink "java/lang/IndexOutOfBoundsException" 7 ⟨"java/lang/RuntimeException", "<init>", "(Ljava/lang/String;)V"⟩ : Cond) ∈ gW := gI 392 (by decide +kernel) rfl
theorem w_393 : (Cond.instanceMethod ⟨"java/lang/RuntimeException", "<init>", "(Ljava/lang/String;)V"⟩ : Cond) ∈ gW := gI 393 (by decide +kernel) rfl
theorem w_394 : (Cond.code ⟨"java/lang/RuntimeException", "<init>", "(Ljava/lang/String;)V"⟩ prog_14_method_2_code 2 none : Cond) ∈ gW := gI 394 (by decide +kernel) rfl
theorem w_395 : (Cond.methodLink "java/lang/RuntimeException" 7 ⟨"java/lang/Exception", "<init>", "(Ljava/lang/String;)V"⟩ : Cond) ∈ gW := gI 395 (by decide +kernel) rfl
theorem w_396 : (Cond.instanceMethod ⟨"java/lang/Exception", "<init>", "(Ljava/lang/String;)V"⟩ : Cond) ∈ gW := gI 396 (by decide +kernel) rfl
theorem w_397 : (Cond.code ⟨"java/lang/Exception", "<init>", "(Ljava/lang/String;)V"⟩ prog_9_method_2_code 2 none : Cond) ∈ gW := gI 397 (by decide +kernel) rfl
theorem w_398 : (Cond.methodLink "java/lang/Exception" 7 ⟨"java/lang/Throwable", "<init>", "(Ljava/lang/String;)V"⟩ : Cond) ∈ gW := gI 398 (by decide +kernel) rfl
theorem w_399 : (Cond.instanceMethod ⟨"java/lang/Throwable", "<init>", "(Ljava/lang/String;)V"⟩ : Cond) ∈ gW := gI 399 (by decide +kernel) rfl
theorem w_400 : (Cond.code ⟨"java/lang/Throwable", "<init>", "(Ljava/lang/String;)V"⟩ prog_17_method_2_code 2 none : Cond) ∈ gW := gI 400 (by decide +kernel) rfl
theorem w_402 : (Cond.fieldLink "java/lang/Throwable" 31 "java/lang/Throwable" "detailMessage" "Ljava/lang/String;" : Cond) ∈ gW := gI 402 (by decide +kernel) rfl
theorem w_403 : (Cond.fieldLink "java/lang/Throwable" 7 "java/lang/Throwable" "cause" "Ljava/lang/Throwable;" : Cond) ∈ gW := gI 403 (by decide +kernel) rfl
theorem w_404 : (Cond.fieldLink "java/lang/Throwable" 17 "java/lang/Throwable" "stackTrace" "[Ljava/lang/StackTraceElement;" : Cond) ∈ gW := gI 404 (by decide +kernel) rfl
theorem w_405 : (Cond.fieldLink "java/lang/Throwable" 24 "java/lang/Throwable" "suppressedExceptions" "Ljava/util/List;" : Cond) ∈ gW := gI 405 (by decide +kernel) rfl
theorem w_414 : (Cond.arrayClass FieldType.byte : Cond) ∈ gW := gI 414 (by decide +kernel) rfl
theorem w_415 : (Cond.methodLink "RiverDesk" 59 ⟨"RiverDesk", "checkThere", "(Z)V"⟩ : Cond) ∈ gW := gI 415 (by decide +kernel) rfl
theorem w_416 : (Cond.static ⟨"RiverDesk", "checkThere", "(Z)V"⟩ : Cond) ∈ gW := gI 416 (by decide +kernel) rfl
theorem w_417 : (Cond.code ⟨"RiverDesk", "checkThere", "(Z)V"⟩ prog_1_method_27_code 1 none : Cond) ∈ gW := gI 417 (by decide +kernel) rfl
theorem w_418 : (Cond.classLink "RiverDesk" 226 "java/util/NoSuchElementException" : Cond) ∈ gW := gI 418 (by decide +kernel) rfl
theorem w_419 : (Cond.instantiable "java/util/NoSuchElementException" 6 : Cond) ∈ gW := gI 419 (by decide +kernel) rfl
theorem w_421 : (Cond.selects "java/util/NoSuchElementException" ⟨"java/lang/Throwable", "fillInStackTrace", "(I)Ljava/lang/Throwable;"⟩ ⟨"java/lang/Throwable", "fillInStackTrace", "(I)Ljava/lang/Throwable;"⟩ : Cond) ∈ gW := gI 421 (by decide +kernel) rfl
theorem w_428 : (Cond.methodLink "RiverDesk" 230 ⟨"java/util/NoSuchElementException", "<init>", "(Ljava/lang/String;)V"⟩ : Cond) ∈ gW := gI 428 (by decide +kernel) rfl
theorem w_429 : (Cond.instanceMethod ⟨"java/util/NoSuchElementException", "<init>", "(Ljava/lang/String;)V"⟩ : Cond) ∈ gW := gI 429 (by decide +kernel) rfl
theorem w_430 : (Cond.code ⟨"java/util/NoSuchElementException", "<init>", "(Ljava/lang/String;)V"⟩ prog_19_method_4_code 2 none : Cond) ∈ gW := gI 430 (by decide +kernel) rfl
theorem w_431 : (Cond.methodLink "java/util/NoSuchElementException" 13 ⟨"java/lang/RuntimeException", "<init>", "(Ljava/lang/String;)V"⟩ : Cond) ∈ gW := gI 431 (by decide +kernel) rfl
theorem w_434 : (Cond.methodLink "RiverDesk" 63 ⟨"RiverDesk", "checkFree", "(Z)V"⟩ : Cond) ∈ gW := gI 434 (by decide +kernel) rfl
theorem w_435 : (Cond.static ⟨"RiverDesk", "checkFree", "(Z)V"⟩ : Cond) ∈ gW := gI 435 (by decide +kernel) rfl
theorem w_436 : (Cond.code ⟨"RiverDesk", "checkFree", "(Z)V"⟩ prog_1_method_29_code 1 none : Cond) ∈ gW := gI 436 (by decide +kernel) rfl
theorem w_437 : (Cond.classLink "RiverDesk" 233 "java/lang/IllegalStateException" : Cond) ∈ gW := gI 437 (by decide +kernel) rfl
theorem w_438 : (Cond.instantiable "java/lang/IllegalStateException" 6 : Cond) ∈ gW := gI 438 (by decide +kernel) rfl
theorem w_440 : (Cond.selects "java/lang/IllegalStateException" ⟨"java/lang/Throwable", "fillInStackTrace", "(I)Ljava/lang/Throwable;"⟩ ⟨"java/lang/Throwable", "fillInStackTrace", "(I)Ljava/lang/Throwable;"⟩ : Cond) ∈ gW := gI 440 (by decide +kernel) rfl
theorem w_447 : (Cond.methodLink "RiverDesk" 237 ⟨"java/lang/IllegalStateException", "<init>", "(Ljava/lang/String;)V"⟩ : Cond) ∈ gW := gI 447 (by decide +kernel) rfl
theorem w_448 : (Cond.instanceMethod ⟨"java/lang/IllegalStateException", "<init>", "(Ljava/lang/String;)V"⟩ : Cond) ∈ gW := gI 448 (by decide +kernel) rfl
theorem w_449 : (Cond.code ⟨"java/lang/IllegalStateException", "<init>", "(Ljava/lang/String;)V"⟩ prog_11_method_2_code 2 none : Cond) ∈ gW := gI 449 (by decide +kernel) rfl
theorem w_450 : (Cond.methodLink "java/lang/IllegalStateException" 7 ⟨"java/lang/RuntimeException", "<init>", "(Ljava/lang/String;)V"⟩ : Cond) ∈ gW := gI 450 (by decide +kernel) rfl
theorem w_453 : (Cond.methodLink "RiverDesk" 70 ⟨"RiverDesk$River", "add", "(II)V"⟩ : Cond) ∈ gW := gI 453 (by decide +kernel) rfl
theorem w_454 : (Cond.instanceMethod ⟨"RiverDesk$River", "add", "(II)V"⟩ : Cond) ∈ gW := gI 454 (by decide +kernel) rfl
theorem w_455 : (Cond.selects "RiverDesk$River" ⟨"RiverDesk$River", "add", "(II)V"⟩ ⟨"RiverDesk$River", "add", "(II)V"⟩ : Cond) ∈ gW := gI 455 (by decide +kernel) rfl
theorem w_456 : (Cond.code ⟨"RiverDesk$River", "add", "(II)V"⟩ prog_6_method_2_code 3 none : Cond) ∈ gW := gI 456 (by decide +kernel) rfl
theorem w_457 : (Cond.methodLink "RiverDeskLaw" 76 ⟨"RiverDeskLaw", "reservoir", "(LRiverDesk;III)I"⟩ : Cond) ∈ gW := gI 457 (by decide +kernel) rfl
theorem w_458 : (Cond.static ⟨"RiverDeskLaw", "reservoir", "(LRiverDesk;III)I"⟩ : Cond) ∈ gW := gI 458 (by decide +kernel) rfl
theorem w_459 : (Cond.codeWith ⟨"RiverDeskLaw", "reservoir", "(LRiverDesk;III)I"⟩ method_4_code 5 (some FieldType.int) [(0, 7, 10, 13), (0, 7, 14, 15), (0, 7, 18, 23), (0, 7, 22, 17)] : Cond) ∈ gW := gI 459 (by decide +kernel) rfl
theorem w_460 : (Cond.classLink "RiverDeskLaw" 23 "java/lang/IllegalArgumentException" : Cond) ∈ gW := gI 460 (by decide +kernel) rfl
theorem w_461 : (Cond.methodLink "RiverDeskLaw" 19 ⟨"RiverDesk", "reservoir", "(III)V"⟩ : Cond) ∈ gW := gI 461 (by decide +kernel) rfl
theorem w_462 : (Cond.instanceMethod ⟨"RiverDesk", "reservoir", "(III)V"⟩ : Cond) ∈ gW := gI 462 (by decide +kernel) rfl
theorem w_463 : (Cond.selects "RiverDesk" ⟨"RiverDesk", "reservoir", "(III)V"⟩ ⟨"RiverDesk", "reservoir", "(III)V"⟩ : Cond) ∈ gW := gI 463 (by decide +kernel) rfl
theorem w_464 : (Cond.code ⟨"RiverDesk", "reservoir", "(III)V"⟩ prog_1_method_3_code 4 none : Cond) ∈ gW := gI 464 (by decide +kernel) rfl
theorem w_465 : (Cond.constant "RiverDesk" 73 1000000000 : Cond) ∈ gW := gI 465 (by decide +kernel) rfl
theorem w_466 : (Cond.methodLink "RiverDesk" 74 ⟨"RiverDesk", "checkBetween", "(III)V"⟩ : Cond) ∈ gW := gI 466 (by decide +kernel) rfl
theorem w_467 : (Cond.static ⟨"RiverDesk", "checkBetween", "(III)V"⟩ : Cond) ∈ gW := gI 467 (by decide +kernel) rfl
theorem w_468 : (Cond.code ⟨"RiverDesk", "checkBetween", "(III)V"⟩ prog_1_method_28_code 3 none : Cond) ∈ gW := gI 468 (by decide +kernel) rfl
theorem w_469 : (Cond.classLink "RiverDesk" 214 "java/lang/IllegalArgumentException" : Cond) ∈ gW := gI 469 (by decide +kernel) rfl
theorem w_470 : (Cond.instantiable "java/lang/IllegalArgumentException" 6 : Cond) ∈ gW := gI 470 (by decide +kernel) rfl
theorem w_472 : (Cond.selects "java/lang/IllegalArgumentException" ⟨"java/lang/Throwable", "fillInStackTrace", "(I)Ljava/lang/Throwable;"⟩ ⟨"java/lang/Throwable", "fillInStackTrace", "(I)Ljava/lang/Throwable;"⟩ : Cond) ∈ gW := gI 472 (by decide +kernel) rfl
theorem w_479 : (Cond.methodLink "RiverDesk" 218 ⟨"java/lang/IllegalArgumentException", "<init>", "(Ljava/lang/String;)V"⟩ : Cond) ∈ gW := gI 479 (by decide +kernel) rfl
theorem w_480 : (Cond.instanceMethod ⟨"java/lang/IllegalArgumentException", "<init>", "(Ljava/lang/String;)V"⟩ : Cond) ∈ gW := gI 480 (by decide +kernel) rfl
theorem w_481 : (Cond.code ⟨"java/lang/IllegalArgumentException", "<init>", "(Ljava/lang/String;)V"⟩ prog_10_method_2_code 2 none : Cond) ∈ gW := gI 481 (by decide +kernel) rfl
theorem w_482 : (Cond.methodLink "java/lang/IllegalArgumentException" 7 ⟨"java/lang/RuntimeException", "<init>", "(Ljava/lang/String;)V"⟩ : Cond) ∈ gW := gI 482 (by decide +kernel) rfl
theorem w_485 : (Cond.methodLink "RiverDesk" 79 ⟨"RiverDesk$Reservoirs", "add", "(III)V"⟩ : Cond) ∈ gW := gI 485 (by decide +kernel) rfl
theorem w_486 : (Cond.instanceMethod ⟨"RiverDesk$Reservoirs", "add", "(III)V"⟩ : Cond) ∈ gW := gI 486 (by decide +kernel) rfl
theorem w_487 : (Cond.selects "RiverDesk$Reservoirs" ⟨"RiverDesk$Reservoirs", "add", "(III)V"⟩ ⟨"RiverDesk$Reservoirs", "add", "(III)V"⟩ : Cond) ∈ gW := gI 487 (by decide +kernel) rfl
theorem w_488 : (Cond.code ⟨"RiverDesk$Reservoirs", "add", "(III)V"⟩ prog_4_method_2_code 4 none : Cond) ∈ gW := gI 488 (by decide +kernel) rfl
theorem w_489 : (Cond.methodLink "RiverDeskLaw" 80 ⟨"RiverDeskLaw", "right", "(LRiverDesk;IIIIII)I"⟩ : Cond) ∈ gW := gI 489 (by decide +kernel) rfl
theorem w_490 : (Cond.static ⟨"RiverDeskLaw", "right", "(LRiverDesk;IIIIII)I"⟩ : Cond) ∈ gW := gI 490 (by decide +kernel) rfl
theorem w_491 : (Cond.codeWith ⟨"RiverDeskLaw", "right", "(LRiverDesk;IIIIII)I"⟩ method_5_code 8 (some FieldType.int) [(0, 13, 16, 13), (0, 13, 20, 15), (0, 13, 24, 23), (0, 13, 28, 17)] : Cond) ∈ gW := gI 491 (by decide +kernel) rfl
theorem w_492 : (Cond.methodLink "RiverDeskLaw" 25 ⟨"RiverDesk", "right", "(IIIIII)V"⟩ : Cond) ∈ gW := gI 492 (by decide +kernel) rfl
theorem w_493 : (Cond.instanceMethod ⟨"RiverDesk", "right", "(IIIIII)V"⟩ : Cond) ∈ gW := gI 493 (by decide +kernel) rfl
theorem w_494 : (Cond.selects "RiverDesk" ⟨"RiverDesk", "right", "(IIIIII)V"⟩ ⟨"RiverDesk", "right", "(IIIIII)V"⟩ : Cond) ∈ gW := gI 494 (by decide +kernel) rfl
theorem w_495 : (Cond.code ⟨"RiverDesk", "right", "(IIIIII)V"⟩ prog_1_method_4_code 7 none : Cond) ∈ gW := gI 495 (by decide +kernel) rfl
theorem w_496 : (Cond.constant "RiverDesk" 81 1000000 : Cond) ∈ gW := gI 496 (by decide +kernel) rfl
theorem w_497 : (Cond.methodLink "RiverDesk" 82 ⟨"RiverDesk", "checkPath", "(II)V"⟩ : Cond) ∈ gW := gI 497 (by decide +kernel) rfl
theorem w_499 : (Cond.instanceMethod ⟨"RiverDesk", "checkPath", "(II)V"⟩ : Cond) ∈ gW := gI 499 (by decide +kernel) rfl
theorem w_500 : (Cond.code ⟨"RiverDesk", "checkPath", "(II)V"⟩ prog_1_method_25_code 3 none : Cond) ∈ gW := gI 500 (by decide +kernel) rfl
theorem w_501 : (Cond.methodLink "RiverDesk" 210 ⟨"RiverDesk$River", "leadsTo", "(II)Z"⟩ : Cond) ∈ gW := gI 501 (by decide +kernel) rfl
theorem w_502 : (Cond.instanceMethod ⟨"RiverDesk$River", "leadsTo", "(II)Z"⟩ : Cond) ∈ gW := gI 502 (by decide +kernel) rfl
theorem w_503 : (Cond.selects "RiverDesk$River" ⟨"RiverDesk$River", "leadsTo", "(II)Z"⟩ ⟨"RiverDesk$River", "leadsTo", "(II)Z"⟩ : Cond) ∈ gW := gI 503 (by decide +kernel) rfl
theorem w_504 : (Cond.code ⟨"RiverDesk$River", "leadsTo", "(II)Z"⟩ prog_6_method_3_code 5 (some FieldType.boolean) : Cond) ∈ gW := gI 504 (by decide +kernel) rfl
theorem w_506 : (Cond.methodLink "RiverDesk" 86 ⟨"RiverDesk$Rights", "hasPriority", "(I)Z"⟩ : Cond) ∈ gW := gI 506 (by decide +kernel) rfl
theorem w_507 : (Cond.instanceMethod ⟨"RiverDesk$Rights", "hasPriority", "(I)Z"⟩ : Cond) ∈ gW := gI 507 (by decide +kernel) rfl
theorem w_508 : (Cond.selects "RiverDesk$Rights" ⟨"RiverDesk$Rights", "hasPriority", "(I)Z"⟩ ⟨"RiverDesk$Rights", "hasPriority", "(I)Z"⟩ : Cond) ∈ gW := gI 508 (by decide +kernel) rfl
theorem w_509 : (Cond.code ⟨"RiverDesk$Rights", "hasPriority", "(I)Z"⟩ prog_5_method_6_code 3 (some FieldType.boolean) : Cond) ∈ gW := gI 509 (by decide +kernel) rfl
theorem w_510 : (Cond.methodLink "RiverDesk" 90 ⟨"RiverDesk$Rights", "setDirect", "(III)V"⟩ : Cond) ∈ gW := gI 510 (by decide +kernel) rfl
theorem w_511 : (Cond.instanceMethod ⟨"RiverDesk$Rights", "setDirect", "(III)V"⟩ : Cond) ∈ gW := gI 511 (by decide +kernel) rfl
theorem w_512 : (Cond.selects "RiverDesk$Rights" ⟨"RiverDesk$Rights", "setDirect", "(III)V"⟩ ⟨"RiverDesk$Rights", "setDirect", "(III)V"⟩ : Cond) ∈ gW := gI 512 (by decide +kernel) rfl
theorem w_513 : (Cond.code ⟨"RiverDesk$Rights", "setDirect", "(III)V"⟩ prog_5_method_2_code 4 none : Cond) ∈ gW := gI 513 (by decide +kernel) rfl
theorem w_514 : (Cond.methodLink "RiverDesk" 93 ⟨"RiverDesk$Rights", "add", "(IIII)V"⟩ : Cond) ∈ gW := gI 514 (by decide +kernel) rfl
theorem w_515 : (Cond.instanceMethod ⟨"RiverDesk$Rights", "add", "(IIII)V"⟩ : Cond) ∈ gW := gI 515 (by decide +kernel) rfl
theorem w_516 : (Cond.selects "RiverDesk$Rights" ⟨"RiverDesk$Rights", "add", "(IIII)V"⟩ ⟨"RiverDesk$Rights", "add", "(IIII)V"⟩ : Cond) ∈ gW := gI 516 (by decide +kernel) rfl
theorem w_517 : (Cond.code ⟨"RiverDesk$Rights", "add", "(IIII)V"⟩ prog_5_method_4_code 6 none : Cond) ∈ gW := gI 517 (by decide +kernel) rfl
theorem w_518 : (Cond.methodLink "RiverDeskLaw" 84 ⟨"RiverDeskLaw", "storage", "(LRiverDesk;IIIII)I"⟩ : Cond) ∈ gW := gI 518 (by decide +kernel) rfl
theorem w_519 : (Cond.static ⟨"RiverDeskLaw", "storage", "(LRiverDesk;IIIII)I"⟩ : Cond) ∈ gW := gI 519 (by decide +kernel) rfl
theorem w_520 : (Cond.codeWith ⟨"RiverDeskLaw", "storage", "(LRiverDesk;IIIII)I"⟩ method_6_code 7 (some FieldType.int) [(0, 11, 14, 13), (0, 11, 18, 15), (0, 11, 22, 23), (0, 11, 26, 17)] : Cond) ∈ gW := gI 520 (by decide +kernel) rfl
theorem w_521 : (Cond.methodLink "RiverDeskLaw" 29 ⟨"RiverDesk", "storage", "(IIIII)V"⟩ : Cond) ∈ gW := gI 521 (by decide +kernel) rfl
theorem w_522 : (Cond.instanceMethod ⟨"RiverDesk", "storage", "(IIIII)V"⟩ : Cond) ∈ gW := gI 522 (by decide +kernel) rfl
theorem w_523 : (Cond.selects "RiverDesk" ⟨"RiverDesk", "storage", "(IIIII)V"⟩ ⟨"RiverDesk", "storage", "(IIIII)V"⟩ : Cond) ∈ gW := gI 523 (by decide +kernel) rfl
theorem w_524 : (Cond.code ⟨"RiverDesk", "storage", "(IIIII)V"⟩ prog_1_method_5_code 6 none : Cond) ∈ gW := gI 524 (by decide +kernel) rfl
theorem w_525 : (Cond.methodLink "RiverDesk" 96 ⟨"RiverDesk$Rights", "setStorage", "(II)V"⟩ : Cond) ∈ gW := gI 525 (by decide +kernel) rfl
theorem w_526 : (Cond.instanceMethod ⟨"RiverDesk$Rights", "setStorage", "(II)V"⟩ : Cond) ∈ gW := gI 526 (by decide +kernel) rfl
theorem w_527 : (Cond.selects "RiverDesk$Rights" ⟨"RiverDesk$Rights", "setStorage", "(II)V"⟩ ⟨"RiverDesk$Rights", "setStorage", "(II)V"⟩ : Cond) ∈ gW := gI 527 (by decide +kernel) rfl
theorem w_528 : (Cond.code ⟨"RiverDesk$Rights", "setStorage", "(II)V"⟩ prog_5_method_3_code 3 none : Cond) ∈ gW := gI 528 (by decide +kernel) rfl
theorem w_529 : (Cond.methodLink "RiverDeskLaw" 88 ⟨"RiverDeskLaw", "drop", "(LRiverDesk;I)I"⟩ : Cond) ∈ gW := gI 529 (by decide +kernel) rfl
theorem w_530 : (Cond.static ⟨"RiverDeskLaw", "drop", "(LRiverDesk;I)I"⟩ : Cond) ∈ gW := gI 530 (by decide +kernel) rfl
theorem w_531 : (Cond.codeWith ⟨"RiverDeskLaw", "drop", "(LRiverDesk;I)I"⟩ method_7_code 3 (some FieldType.int) [(0, 5, 8, 13), (0, 5, 11, 15)] : Cond) ∈ gW := gI 531 (by decide +kernel) rfl
theorem w_532 : (Cond.methodLink "RiverDeskLaw" 33 ⟨"RiverDesk", "drop", "(I)V"⟩ : Cond) ∈ gW := gI 532 (by decide +kernel) rfl
theorem w_533 : (Cond.instanceMethod ⟨"RiverDesk", "drop", "(I)V"⟩ : Cond) ∈ gW := gI 533 (by decide +kernel) rfl
theorem w_534 : (Cond.selects "RiverDesk" ⟨"RiverDesk", "drop", "(I)V"⟩ ⟨"RiverDesk", "drop", "(I)V"⟩ : Cond) ∈ gW := gI 534 (by decide +kernel) rfl
theorem w_535 : (Cond.code ⟨"RiverDesk", "drop", "(I)V"⟩ prog_1_method_6_code 2 none : Cond) ∈ gW := gI 535 (by decide +kernel) rfl
theorem w_536 : (Cond.methodLink "RiverDesk" 99 ⟨"RiverDesk", "checkRight", "(I)V"⟩ : Cond) ∈ gW := gI 536 (by decide +kernel) rfl
theorem w_538 : (Cond.instanceMethod ⟨"RiverDesk", "checkRight", "(I)V"⟩ : Cond) ∈ gW := gI 538 (by decide +kernel) rfl
theorem w_539 : (Cond.code ⟨"RiverDesk", "checkRight", "(I)V"⟩ prog_1_method_24_code 2 none : Cond) ∈ gW := gI 539 (by decide +kernel) rfl
theorem w_540 : (Cond.methodLink "RiverDesk" 103 ⟨"RiverDesk$Rights", "remove", "(I)V"⟩ : Cond) ∈ gW := gI 540 (by decide +kernel) rfl
theorem w_541 : (Cond.instanceMethod ⟨"RiverDesk$Rights", "remove", "(I)V"⟩ : Cond) ∈ gW := gI 541 (by decide +kernel) rfl
theorem w_542 : (Cond.selects "RiverDesk$Rights" ⟨"RiverDesk$Rights", "remove", "(I)V"⟩ ⟨"RiverDesk$Rights", "remove", "(I)V"⟩ : Cond) ∈ gW := gI 542 (by decide +kernel) rfl
theorem w_543 : (Cond.code ⟨"RiverDesk$Rights", "remove", "(I)V"⟩ prog_5_method_5_code 4 none : Cond) ∈ gW := gI 543 (by decide +kernel) rfl
theorem w_544 : (Cond.methodLink "RiverDeskLaw" 92 ⟨"RiverDeskLaw", "want", "(LRiverDesk;II)I"⟩ : Cond) ∈ gW := gI 544 (by decide +kernel) rfl
theorem w_545 : (Cond.static ⟨"RiverDeskLaw", "want", "(LRiverDesk;II)I"⟩ : Cond) ∈ gW := gI 545 (by decide +kernel) rfl
theorem w_546 : (Cond.codeWith ⟨"RiverDeskLaw", "want", "(LRiverDesk;II)I"⟩ method_8_code 4 (some FieldType.int) [(0, 6, 9, 13), (0, 6, 12, 15), (0, 6, 15, 23)] : Cond) ∈ gW := gI 546 (by decide +kernel) rfl
theorem w_547 : (Cond.methodLink "RiverDeskLaw" 37 ⟨"RiverDesk", "want", "(II)V"⟩ : Cond) ∈ gW := gI 547 (by decide +kernel) rfl
theorem w_548 : (Cond.instanceMethod ⟨"RiverDesk", "want", "(II)V"⟩ : Cond) ∈ gW := gI 548 (by decide +kernel) rfl
theorem w_549 : (Cond.selects "RiverDesk" ⟨"RiverDesk", "want", "(II)V"⟩ ⟨"RiverDesk", "want", "(II)V"⟩ : Cond) ∈ gW := gI 549 (by decide +kernel) rfl
theorem w_550 : (Cond.code ⟨"RiverDesk", "want", "(II)V"⟩ prog_1_method_7_code 3 none : Cond) ∈ gW := gI 550 (by decide +kernel) rfl
theorem w_551 : (Cond.methodLink "RiverDeskLaw" 95 ⟨"RiverDeskLaw", "inflow", "(LRiverDesk;II)I"⟩ : Cond) ∈ gW := gI 551 (by decide +kernel) rfl
theorem w_552 : (Cond.static ⟨"RiverDeskLaw", "inflow", "(LRiverDesk;II)I"⟩ : Cond) ∈ gW := gI 552 (by decide +kernel) rfl
theorem w_553 : (Cond.codeWith ⟨"RiverDeskLaw", "inflow", "(LRiverDesk;II)I"⟩ method_9_code 4 (some FieldType.int) [(0, 6, 9, 13), (0, 6, 12, 15), (0, 6, 15, 23)] : Cond) ∈ gW := gI 553 (by decide +kernel) rfl
theorem w_554 : (Cond.methodLink "RiverDeskLaw" 40 ⟨"RiverDesk", "inflow", "(II)V"⟩ : Cond) ∈ gW := gI 554 (by decide +kernel) rfl
theorem w_555 : (Cond.instanceMethod ⟨"RiverDesk", "inflow", "(II)V"⟩ : Cond) ∈ gW := gI 555 (by decide +kernel) rfl
theorem w_556 : (Cond.selects "RiverDesk" ⟨"RiverDesk", "inflow", "(II)V"⟩ ⟨"RiverDesk", "inflow", "(II)V"⟩ : Cond) ∈ gW := gI 556 (by decide +kernel) rfl
theorem w_557 : (Cond.code ⟨"RiverDesk", "inflow", "(II)V"⟩ prog_1_method_8_code 3 none : Cond) ∈ gW := gI 557 (by decide +kernel) rfl
theorem w_558 : (Cond.methodLink "RiverDesk" 113 ⟨"RiverDesk", "checkReach", "(I)V"⟩ : Cond) ∈ gW := gI 558 (by decide +kernel) rfl
theorem w_560 : (Cond.instanceMethod ⟨"RiverDesk", "checkReach", "(I)V"⟩ : Cond) ∈ gW := gI 560 (by decide +kernel) rfl
theorem w_561 : (Cond.code ⟨"RiverDesk", "checkReach", "(I)V"⟩ prog_1_method_23_code 2 none : Cond) ∈ gW := gI 561 (by decide +kernel) rfl
theorem w_562 : (Cond.methodLink "RiverDeskLaw" 98 ⟨"RiverDeskLaw", "release", "(LRiverDesk;III[J)I"⟩ : Cond) ∈ gW := gI 562 (by decide +kernel) rfl
theorem w_563 : (Cond.static ⟨"RiverDeskLaw", "release", "(LRiverDesk;III[J)I"⟩ : Cond) ∈ gW := gI 563 (by decide +kernel) rfl
theorem w_564 : (Cond.codeWith ⟨"RiverDeskLaw", "release", "(LRiverDesk;III[J)I"⟩ method_10_code 6 (some FieldType.int) [(0, 12, 15, 13), (0, 12, 19, 15), (0, 12, 23, 23), (0, 12, 27, 17)] : Cond) ∈ gW := gI 564 (by decide +kernel) rfl
theorem w_565 : (Cond.methodLink "RiverDeskLaw" 43 ⟨"RiverDesk", "release", "(III)I"⟩ : Cond) ∈ gW := gI 565 (by decide +kernel) rfl
theorem w_566 : (Cond.instanceMethod ⟨"RiverDesk", "release", "(III)I"⟩ : Cond) ∈ gW := gI 566 (by decide +kernel) rfl
theorem w_567 : (Cond.selects "RiverDesk" ⟨"RiverDesk", "release", "(III)I"⟩ ⟨"RiverDesk", "release", "(III)I"⟩ : Cond) ∈ gW := gI 567 (by decide +kernel) rfl
theorem w_568 : (Cond.code ⟨"RiverDesk", "release", "(III)I"⟩ prog_1_method_9_code 4 (some FieldType.int) : Cond) ∈ gW := gI 568 (by decide +kernel) rfl
theorem w_569 : (Cond.constant "RiverDesk" 121 2147483647 : Cond) ∈ gW := gI 569 (by decide +kernel) rfl
theorem w_570 : (Cond.methodLink "RiverDesk" 128 ⟨"RiverDesk", "checkEnough", "(II)V"⟩ : Cond) ∈ gW := gI 570 (by decide +kernel) rfl
theorem w_571 : (Cond.static ⟨"RiverDesk", "checkEnough", "(II)V"⟩ : Cond) ∈ gW := gI 571 (by decide +kernel) rfl
theorem w_572 : (Cond.code ⟨"RiverDesk", "checkEnough", "(II)V"⟩ prog_1_method_30_code 2 none : Cond) ∈ gW := gI 572 (by decide +kernel) rfl
theorem w_574 : (Cond.methodLink "RiverDesk" 131 ⟨"RiverDesk$Reservoirs", "letOut", "(II)V"⟩ : Cond) ∈ gW := gI 574 (by decide +kernel) rfl
theorem w_575 : (Cond.instanceMethod ⟨"RiverDesk$Reservoirs", "letOut", "(II)V"⟩ : Cond) ∈ gW := gI 575 (by decide +kernel) rfl
theorem w_576 : (Cond.selects "RiverDesk$Reservoirs" ⟨"RiverDesk$Reservoirs", "letOut", "(II)V"⟩ ⟨"RiverDesk$Reservoirs", "letOut", "(II)V"⟩ : Cond) ∈ gW := gI 576 (by decide +kernel) rfl
theorem w_577 : (Cond.code ⟨"RiverDesk$Reservoirs", "letOut", "(II)V"⟩ prog_4_method_3_code 3 none : Cond) ∈ gW := gI 577 (by decide +kernel) rfl
theorem w_578 : (Cond.methodLink "RiverDesk" 134 ⟨"RiverDesk$River", "send", "(III)V"⟩ : Cond) ∈ gW := gI 578 (by decide +kernel) rfl
theorem w_579 : (Cond.instanceMethod ⟨"RiverDesk$River", "send", "(III)V"⟩ : Cond) ∈ gW := gI 579 (by decide +kernel) rfl
theorem w_580 : (Cond.selects "RiverDesk$River" ⟨"RiverDesk$River", "send", "(III)V"⟩ ⟨"RiverDesk$River", "send", "(III)V"⟩ : Cond) ∈ gW := gI 580 (by decide +kernel) rfl
theorem w_581 : (Cond.code ⟨"RiverDesk$River", "send", "(III)V"⟩ prog_6_method_4_code 7 none : Cond) ∈ gW := gI 581 (by decide +kernel) rfl
theorem w_582 : (Cond.methodLink "RiverDeskLaw" 106 ⟨"RiverDeskLaw", "given", "(LRiverDesk;I[J)I"⟩ : Cond) ∈ gW := gI 582 (by decide +kernel) rfl
theorem w_583 : (Cond.static ⟨"RiverDeskLaw", "given", "(LRiverDesk;I[J)I"⟩ : Cond) ∈ gW := gI 583 (by decide +kernel) rfl
theorem w_584 : (Cond.codeWith ⟨"RiverDeskLaw", "given", "(LRiverDesk;I[J)I"⟩ method_11_code 4 (some FieldType.int) [(0, 9, 12, 13), (0, 9, 15, 15)] : Cond) ∈ gW := gI 584 (by decide +kernel) rfl
theorem w_585 : (Cond.methodLink "RiverDeskLaw" 47 ⟨"RiverDesk", "given", "(I)I"⟩ : Cond) ∈ gW := gI 585 (by decide +kernel) rfl
theorem w_586 : (Cond.instanceMethod ⟨"RiverDesk", "given", "(I)I"⟩ : Cond) ∈ gW := gI 586 (by decide +kernel) rfl
theorem w_587 : (Cond.selects "RiverDesk" ⟨"RiverDesk", "given", "(I)I"⟩ ⟨"RiverDesk", "given", "(I)I"⟩ : Cond) ∈ gW := gI 587 (by decide +kernel) rfl
theorem w_588 : (Cond.code ⟨"RiverDesk", "given", "(I)I"⟩ prog_1_method_11_code 2 (some FieldType.int) : Cond) ∈ gW := gI 588 (by decide +kernel) rfl
theorem w_589 : (Cond.methodLink "RiverDeskLaw" 110 ⟨"RiverDeskLaw", "flow", "(LRiverDesk;II[J)I"⟩ : Cond) ∈ gW := gI 589 (by decide +kernel) rfl
theorem w_590 : (Cond.static ⟨"RiverDeskLaw", "flow", "(LRiverDesk;II[J)I"⟩ : Cond) ∈ gW := gI 590 (by decide +kernel) rfl
theorem w_591 : (Cond.codeWith ⟨"RiverDeskLaw", "flow", "(LRiverDesk;II[J)I"⟩ method_12_code 5 (some FieldType.int) [(0, 9, 12, 13), (0, 9, 16, 15)] : Cond) ∈ gW := gI 591 (by decide +kernel) rfl
theorem w_592 : (Cond.methodLink "RiverDeskLaw" 51 ⟨"RiverDesk", "flow", "(II)J"⟩ : Cond) ∈ gW := gI 592 (by decide +kernel) rfl
theorem w_593 : (Cond.instanceMethod ⟨"RiverDesk", "flow", "(II)J"⟩ : Cond) ∈ gW := gI 593 (by decide +kernel) rfl
theorem w_594 : (Cond.selects "RiverDesk" ⟨"RiverDesk", "flow", "(II)J"⟩ ⟨"RiverDesk", "flow", "(II)J"⟩ : Cond) ∈ gW := gI 594 (by decide +kernel) rfl
theorem w_595 : (Cond.code ⟨"RiverDesk", "flow", "(II)J"⟩ prog_1_method_12_code 3 (some FieldType.long) : Cond) ∈ gW := gI 595 (by decide +kernel) rfl
theorem w_596 : (Cond.constantLong "RiverDesk" 159 (-1) : Cond) ∈ gW := gI 596 (by decide +kernel) rfl
theorem w_597 : (Cond.methodLink "RiverDeskLaw" 114 ⟨"RiverDeskLaw", "call", "(LRiverDesk;I[J)I"⟩ : Cond) ∈ gW := gI 597 (by decide +kernel) rfl
theorem w_598 : (Cond.static ⟨"RiverDeskLaw", "call", "(LRiverDesk;I[J)I"⟩ : Cond) ∈ gW := gI 598 (by decide +kernel) rfl
theorem w_599 : (Cond.codeWith ⟨"RiverDeskLaw", "call", "(LRiverDesk;I[J)I"⟩ method_13_code 4 (some FieldType.int) [(0, 9, 12, 13), (0, 9, 15, 15)] : Cond) ∈ gW := gI 599 (by decide +kernel) rfl
theorem w_600 : (Cond.methodLink "RiverDeskLaw" 55 ⟨"RiverDesk", "call", "(I)I"⟩ : Cond) ∈ gW := gI 600 (by decide +kernel) rfl
theorem w_601 : (Cond.instanceMethod ⟨"RiverDesk", "call", "(I)I"⟩ : Cond) ∈ gW := gI 601 (by decide +kernel) rfl
theorem w_602 : (Cond.selects "RiverDesk" ⟨"RiverDesk", "call", "(I)I"⟩ ⟨"RiverDesk", "call", "(I)I"⟩ : Cond) ∈ gW := gI 602 (by decide +kernel) rfl
theorem w_603 : (Cond.code ⟨"RiverDesk", "call", "(I)I"⟩ prog_1_method_13_code 3 (some FieldType.int) : Cond) ∈ gW := gI 603 (by decide +kernel) rfl
theorem w_604 : (Cond.methodLink "RiverDesk" 165 ⟨"RiverDesk$Plan", "most", "(LRiverDesk$River;LRiverDesk$Rights;I)I"⟩ : Cond) ∈ gW := gI 604 (by decide +kernel) rfl
theorem w_605 : (Cond.methodLink "RiverDesk" 169 ⟨"RiverDesk$Plan", "give", "(LRiverDesk$River;LRiverDesk$Rights;II)V"⟩ : Cond) ∈ gW := gI 605 (by decide +kernel) rfl
theorem w_606 : (Cond.methodLink "RiverDesk" 177 ⟨"RiverDesk", "oldestThatWouldGetLess", "()I"⟩ : Cond) ∈ gW := gI 606 (by decide +kernel) rfl
theorem w_608 : (Cond.instanceMethod ⟨"RiverDesk", "oldestThatWouldGetLess", "()I"⟩ : Cond) ∈ gW := gI 608 (by decide +kernel) rfl
theorem w_609 : (Cond.code ⟨"RiverDesk", "oldestThatWouldGetLess", "()I"⟩ prog_1_method_22_code 3 (some FieldType.int) : Cond) ∈ gW := gI 609 (by decide +kernel) rfl
theorem w_610 : (Cond.methodLink "RiverDeskLaw" 117 ⟨"RiverDeskLaw", "futile", "(LRiverDesk;II[J)I"⟩ : Cond) ∈ gW := gI 610 (by decide +kernel) rfl
theorem w_611 : (Cond.static ⟨"RiverDeskLaw", "futile", "(LRiverDesk;II[J)I"⟩ : Cond) ∈ gW := gI 611 (by decide +kernel) rfl
theorem w_612 : (Cond.codeWith ⟨"RiverDeskLaw", "futile", "(LRiverDesk;II[J)I"⟩ method_14_code 5 (some FieldType.int) [(0, 17, 20, 13), (0, 17, 24, 15)] : Cond) ∈ gW := gI 612 (by decide +kernel) rfl
theorem w_613 : (Cond.methodLink "RiverDeskLaw" 58 ⟨"RiverDesk", "futile", "(II)Z"⟩ : Cond) ∈ gW := gI 613 (by decide +kernel) rfl
theorem w_614 : (Cond.instanceMethod ⟨"RiverDesk", "futile", "(II)Z"⟩ : Cond) ∈ gW := gI 614 (by decide +kernel) rfl
theorem w_615 : (Cond.selects "RiverDesk" ⟨"RiverDesk", "futile", "(II)Z"⟩ ⟨"RiverDesk", "futile", "(II)Z"⟩ : Cond) ∈ gW := gI 615 (by decide +kernel) rfl
theorem w_616 : (Cond.code ⟨"RiverDesk", "futile", "(II)Z"⟩ prog_1_method_14_code 3 (some FieldType.boolean) : Cond) ∈ gW := gI 616 (by decide +kernel) rfl
theorem w_617 : (Cond.classLink "RiverDeskLaw" 63 "RiverDeskModel" : Cond) ∈ gW := gI 617 (by decide +kernel) rfl
theorem w_618 : (Cond.instantiable "RiverDeskModel" 23 : Cond) ∈ gW := gI 618 (by decide +kernel) rfl
theorem w_619 : (Cond.methodLink "RiverDeskLaw" 65 ⟨"RiverDeskModel", "<init>", "()V"⟩ : Cond) ∈ gW := gI 619 (by decide +kernel) rfl
theorem w_620 : (Cond.instanceMethod ⟨"RiverDeskModel", "<init>", "()V"⟩ : Cond) ∈ gW := gI 620 (by decide +kernel) rfl
theorem w_621 : (Cond.code ⟨"RiverDeskModel", "<init>", "()V"⟩ prog_8_method_1_code 1 none : Cond) ∈ gW := gI 621 (by decide +kernel) rfl
theorem w_622 : (Cond.methodLink "RiverDeskModel" 1 ⟨"java/lang/Object", "<init>", "()V"⟩ : Cond) ∈ gW := gI 622 (by decide +kernel) rfl
theorem w_623 : (Cond.fieldLink "RiverDeskModel" 72 "RiverDeskModel" "thrown" "I" : Cond) ∈ gW := gI 623 (by decide +kernel) rfl
theorem w_624 : (Cond.fieldLink "RiverDeskModel" 7 "RiverDeskModel" "isReach" "[Z" : Cond) ∈ gW := gI 624 (by decide +kernel) rfl
theorem w_625 : (Cond.fieldLink "RiverDeskModel" 13 "RiverDeskModel" "down" "[I" : Cond) ∈ gW := gI 625 (by decide +kernel) rfl
theorem w_626 : (Cond.fieldLink "RiverDeskModel" 17 "RiverDeskModel" "inflows" "[I" : Cond) ∈ gW := gI 626 (by decide +kernel) rfl
theorem w_627 : (Cond.fieldLink "RiverDeskModel" 20 "RiverDeskModel" "isStore" "[Z" : Cond) ∈ gW := gI 627 (by decide +kernel) rfl
theorem w_628 : (Cond.fieldLink "RiverDeskModel" 23 "RiverDeskModel" "storeReach" "[I" : Cond) ∈ gW := gI 628 (by decide +kernel) rfl
theorem w_629 : (Cond.fieldLink "RiverDeskModel" 26 "RiverDeskModel" "capacity" "[I" : Cond) ∈ gW := gI 629 (by decide +kernel) rfl
theorem w_630 : (Cond.fieldLink "RiverDeskModel" 29 "RiverDeskModel" "holds" "[I" : Cond) ∈ gW := gI 630 (by decide +kernel) rfl
theorem w_631 : (Cond.fieldLink "RiverDeskModel" 32 "RiverDeskModel" "released" "[J" : Cond) ∈ gW := gI 631 (by decide +kernel) rfl
theorem w_632 : (Cond.fieldLink "RiverDeskModel" 36 "RiverDeskModel" "isRight" "[Z" : Cond) ∈ gW := gI 632 (by decide +kernel) rfl
theorem w_633 : (Cond.fieldLink "RiverDeskModel" 39 "RiverDeskModel" "place" "[I" : Cond) ∈ gW := gI 633 (by decide +kernel) rfl
theorem w_634 : (Cond.fieldLink "RiverDeskModel" 42 "RiverDeskModel" "priority" "[I" : Cond) ∈ gW := gI 634 (by decide +kernel) rfl
theorem w_635 : (Cond.fieldLink "RiverDeskModel" 45 "RiverDeskModel" "rate" "[I" : Cond) ∈ gW := gI 635 (by decide +kernel) rfl
theorem w_636 : (Cond.fieldLink "RiverDeskModel" 48 "RiverDeskModel" "share" "[I" : Cond) ∈ gW := gI 636 (by decide +kernel) rfl
theorem w_637 : (Cond.fieldLink "RiverDeskModel" 51 "RiverDeskModel" "back" "[I" : Cond) ∈ gW := gI 637 (by decide +kernel) rfl
theorem w_638 : (Cond.fieldLink "RiverDeskModel" 54 "RiverDeskModel" "store" "[I" : Cond) ∈ gW := gI 638 (by decide +kernel) rfl
theorem w_639 : (Cond.fieldLink "RiverDeskModel" 57 "RiverDeskModel" "wants" "[I" : Cond) ∈ gW := gI 639 (by decide +kernel) rfl
theorem w_640 : (Cond.fieldLink "RiverDeskModel" 128 "RiverDeskModel" "day" "I" : Cond) ∈ gW := gI 640 (by decide +kernel) rfl
theorem w_641 : (Cond.fieldLink "RiverDeskModel" 60 "RiverDeskModel" "books" "[J" : Cond) ∈ gW := gI 641 (by decide +kernel) rfl
theorem w_642 : (Cond.fieldLink "RiverDeskModel" 63 "RiverDeskModel" "amount" "[I" : Cond) ∈ gW := gI 642 (by decide +kernel) rfl
theorem w_643 : (Cond.fieldLink "RiverDeskModel" 66 "RiverDeskModel" "first" "[I" : Cond) ∈ gW := gI 643 (by decide +kernel) rfl
theorem w_644 : (Cond.fieldLink "RiverDeskModel" 69 "RiverDeskModel" "order" "[I" : Cond) ∈ gW := gI 644 (by decide +kernel) rfl
theorem w_645 : (Cond.fieldLink "RiverDeskModel" 109 "RiverDeskModel" "rights" "I" : Cond) ∈ gW := gI 645 (by decide +kernel) rfl
theorem w_693 : (Cond.methodLink "RiverDeskLaw" 72 ⟨"RiverDeskModel", "thrown", "()I"⟩ : Cond) ∈ gW := gI 693 (by decide +kernel) rfl
theorem w_694 : (Cond.instanceMethod ⟨"RiverDeskModel", "thrown", "()I"⟩ : Cond) ∈ gW := gI 694 (by decide +kernel) rfl
theorem w_695 : (Cond.selects "RiverDeskModel" ⟨"RiverDeskModel", "thrown", "()I"⟩ ⟨"RiverDeskModel", "thrown", "()I"⟩ : Cond) ∈ gW := gI 695 (by decide +kernel) rfl
theorem w_696 : (Cond.code ⟨"RiverDeskModel", "thrown", "()I"⟩ prog_8_method_2_code 1 (some FieldType.int) : Cond) ∈ gW := gI 696 (by decide +kernel) rfl
theorem w_697 : (Cond.methodLink "RiverDeskLaw" 71 ⟨"RiverDeskModel", "reach", "(II)V"⟩ : Cond) ∈ gW := gI 697 (by decide +kernel) rfl
theorem w_698 : (Cond.instanceMethod ⟨"RiverDeskModel", "reach", "(II)V"⟩ : Cond) ∈ gW := gI 698 (by decide +kernel) rfl
theorem w_699 : (Cond.selects "RiverDeskModel" ⟨"RiverDeskModel", "reach", "(II)V"⟩ ⟨"RiverDeskModel", "reach", "(II)V"⟩ : Cond) ∈ gW := gI 699 (by decide +kernel) rfl
theorem w_700 : (Cond.code ⟨"RiverDeskModel", "reach", "(II)V"⟩ prog_8_method_5_code 5 none : Cond) ∈ gW := gI 700 (by decide +kernel) rfl
theorem w_701 : (Cond.methodLink "RiverDeskModel" 76 ⟨"RiverDeskModel", "isNumber", "(II)Z"⟩ : Cond) ∈ gW := gI 701 (by decide +kernel) rfl
theorem w_702 : (Cond.static ⟨"RiverDeskModel", "isNumber", "(II)Z"⟩ : Cond) ∈ gW := gI 702 (by decide +kernel) rfl
theorem w_703 : (Cond.code ⟨"RiverDeskModel", "isNumber", "(II)Z"⟩ prog_8_method_4_code 2 (some FieldType.boolean) : Cond) ∈ gW := gI 703 (by decide +kernel) rfl
theorem w_704 : (Cond.methodLink "RiverDeskLaw" 79 ⟨"RiverDeskModel", "reservoir", "(III)V"⟩ : Cond) ∈ gW := gI 704 (by decide +kernel) rfl
theorem w_705 : (Cond.instanceMethod ⟨"RiverDeskModel", "reservoir", "(III)V"⟩ : Cond) ∈ gW := gI 705 (by decide +kernel) rfl
theorem w_706 : (Cond.selects "RiverDeskModel" ⟨"RiverDeskModel", "reservoir", "(III)V"⟩ ⟨"RiverDeskModel", "reservoir", "(III)V"⟩ : Cond) ∈ gW := gI 706 (by decide +kernel) rfl
theorem w_707 : (Cond.code ⟨"RiverDeskModel", "reservoir", "(III)V"⟩ prog_8_method_6_code 4 none : Cond) ∈ gW := gI 707 (by decide +kernel) rfl
theorem w_708 : (Cond.constant "RiverDeskModel" 80 1000000000 : Cond) ∈ gW := gI 708 (by decide +kernel) rfl
theorem w_709 : (Cond.methodLink "RiverDeskLaw" 83 ⟨"RiverDeskModel", "right", "(IIIIII)V"⟩ : Cond) ∈ gW := gI 709 (by decide +kernel) rfl
theorem w_710 : (Cond.instanceMethod ⟨"RiverDeskModel", "right", "(IIIIII)V"⟩ : Cond) ∈ gW := gI 710 (by decide +kernel) rfl
theorem w_711 : (Cond.selects "RiverDeskModel" ⟨"RiverDeskModel", "right", "(IIIIII)V"⟩ ⟨"RiverDeskModel", "right", "(IIIIII)V"⟩ : Cond) ∈ gW := gI 711 (by decide +kernel) rfl
theorem w_712 : (Cond.code ⟨"RiverDeskModel", "right", "(IIIIII)V"⟩ prog_8_method_9_code 8 none : Cond) ∈ gW := gI 712 (by decide +kernel) rfl
theorem w_713 : (Cond.constant "RiverDeskModel" 81 1000000 : Cond) ∈ gW := gI 713 (by decide +kernel) rfl
theorem w_714 : (Cond.methodLink "RiverDeskModel" 82 ⟨"RiverDeskModel", "isOn", "(II)Z"⟩ : Cond) ∈ gW := gI 714 (by decide +kernel) rfl
theorem w_716 : (Cond.instanceMethod ⟨"RiverDeskModel", "isOn", "(II)Z"⟩ : Cond) ∈ gW := gI 716 (by decide +kernel) rfl
theorem w_717 : (Cond.code ⟨"RiverDeskModel", "isOn", "(II)Z"⟩ prog_8_method_3_code 4 (some FieldType.boolean) : Cond) ∈ gW := gI 717 (by decide +kernel) rfl
theorem w_718 : (Cond.methodLink "RiverDeskModel" 85 ⟨"RiverDeskModel", "isTaken", "(II)Z"⟩ : Cond) ∈ gW := gI 718 (by decide +kernel) rfl
theorem w_720 : (Cond.instanceMethod ⟨"RiverDeskModel", "isTaken", "(II)Z"⟩ : Cond) ∈ gW := gI 720 (by decide +kernel) rfl
theorem w_721 : (Cond.code ⟨"RiverDeskModel", "isTaken", "(II)Z"⟩ prog_8_method_7_code 5 (some FieldType.boolean) : Cond) ∈ gW := gI 721 (by decide +kernel) rfl
theorem w_722 : (Cond.methodLink "RiverDeskModel" 88 ⟨"RiverDeskModel", "lay", "(IIII)V"⟩ : Cond) ∈ gW := gI 722 (by decide +kernel) rfl
theorem w_724 : (Cond.instanceMethod ⟨"RiverDeskModel", "lay", "(IIII)V"⟩ : Cond) ∈ gW := gI 724 (by decide +kernel) rfl
theorem w_725 : (Cond.code ⟨"RiverDeskModel", "lay", "(IIII)V"⟩ prog_8_method_8_code 5 none : Cond) ∈ gW := gI 725 (by decide +kernel) rfl
theorem w_726 : (Cond.methodLink "RiverDeskLaw" 87 ⟨"RiverDeskModel", "storage", "(IIIII)V"⟩ : Cond) ∈ gW := gI 726 (by decide +kernel) rfl
theorem w_727 : (Cond.instanceMethod ⟨"RiverDeskModel", "storage", "(IIIII)V"⟩ : Cond) ∈ gW := gI 727 (by decide +kernel) rfl
theorem w_728 : (Cond.selects "RiverDeskModel" ⟨"RiverDeskModel", "storage", "(IIIII)V"⟩ ⟨"RiverDeskModel", "storage", "(IIIII)V"⟩ : Cond) ∈ gW := gI 728 (by decide +kernel) rfl
theorem w_729 : (Cond.code ⟨"RiverDeskModel", "storage", "(IIIII)V"⟩ prog_8_method_10_code 7 none : Cond) ∈ gW := gI 729 (by decide +kernel) rfl
theorem w_730 : (Cond.methodLink "RiverDeskLaw" 91 ⟨"RiverDeskModel", "drop", "(I)V"⟩ : Cond) ∈ gW := gI 730 (by decide +kernel) rfl
theorem w_731 : (Cond.instanceMethod ⟨"RiverDeskModel", "drop", "(I)V"⟩ : Cond) ∈ gW := gI 731 (by decide +kernel) rfl
theorem w_732 : (Cond.selects "RiverDeskModel" ⟨"RiverDeskModel", "drop", "(I)V"⟩ ⟨"RiverDeskModel", "drop", "(I)V"⟩ : Cond) ∈ gW := gI 732 (by decide +kernel) rfl
theorem w_733 : (Cond.code ⟨"RiverDeskModel", "drop", "(I)V"⟩ prog_8_method_13_code 2 none : Cond) ∈ gW := gI 733 (by decide +kernel) rfl
theorem w_734 : (Cond.methodLink "RiverDeskModel" 92 ⟨"RiverDeskModel", "wrongRight", "(I)I"⟩ : Cond) ∈ gW := gI 734 (by decide +kernel) rfl
theorem w_736 : (Cond.instanceMethod ⟨"RiverDeskModel", "wrongRight", "(I)I"⟩ : Cond) ∈ gW := gI 736 (by decide +kernel) rfl
theorem w_737 : (Cond.code ⟨"RiverDeskModel", "wrongRight", "(I)I"⟩ prog_8_method_11_code 2 (some FieldType.int) : Cond) ∈ gW := gI 737 (by decide +kernel) rfl
theorem w_738 : (Cond.methodLink "RiverDeskLaw" 94 ⟨"RiverDeskModel", "want", "(II)V"⟩ : Cond) ∈ gW := gI 738 (by decide +kernel) rfl
theorem w_739 : (Cond.instanceMethod ⟨"RiverDeskModel", "want", "(II)V"⟩ : Cond) ∈ gW := gI 739 (by decide +kernel) rfl
theorem w_740 : (Cond.selects "RiverDeskModel" ⟨"RiverDeskModel", "want", "(II)V"⟩ ⟨"RiverDeskModel", "want", "(II)V"⟩ : Cond) ∈ gW := gI 740 (by decide +kernel) rfl
theorem w_741 : (Cond.code ⟨"RiverDeskModel", "want", "(II)V"⟩ prog_8_method_14_code 3 none : Cond) ∈ gW := gI 741 (by decide +kernel) rfl
theorem w_742 : (Cond.methodLink "RiverDeskLaw" 97 ⟨"RiverDeskModel", "inflow", "(II)V"⟩ : Cond) ∈ gW := gI 742 (by decide +kernel) rfl
theorem w_743 : (Cond.instanceMethod ⟨"RiverDeskModel", "inflow", "(II)V"⟩ : Cond) ∈ gW := gI 743 (by decide +kernel) rfl
theorem w_744 : (Cond.selects "RiverDeskModel" ⟨"RiverDeskModel", "inflow", "(II)V"⟩ ⟨"RiverDeskModel", "inflow", "(II)V"⟩ : Cond) ∈ gW := gI 744 (by decide +kernel) rfl
theorem w_745 : (Cond.code ⟨"RiverDeskModel", "inflow", "(II)V"⟩ prog_8_method_15_code 3 none : Cond) ∈ gW := gI 745 (by decide +kernel) rfl
theorem w_746 : (Cond.methodLink "RiverDeskModel" 96 ⟨"RiverDeskModel", "wrongReach", "(I)I"⟩ : Cond) ∈ gW := gI 746 (by decide +kernel) rfl
theorem w_748 : (Cond.instanceMethod ⟨"RiverDeskModel", "wrongReach", "(I)I"⟩ : Cond) ∈ gW := gI 748 (by decide +kernel) rfl
theorem w_749 : (Cond.code ⟨"RiverDeskModel", "wrongReach", "(I)I"⟩ prog_8_method_12_code 2 (some FieldType.int) : Cond) ∈ gW := gI 749 (by decide +kernel) rfl
theorem w_750 : (Cond.methodLink "RiverDeskLaw" 101 ⟨"RiverDeskModel", "release", "(III)I"⟩ : Cond) ∈ gW := gI 750 (by decide +kernel) rfl
theorem w_751 : (Cond.instanceMethod ⟨"RiverDeskModel", "release", "(III)I"⟩ : Cond) ∈ gW := gI 751 (by decide +kernel) rfl
theorem w_752 : (Cond.selects "RiverDeskModel" ⟨"RiverDeskModel", "release", "(III)I"⟩ ⟨"RiverDeskModel", "release", "(III)I"⟩ : Cond) ∈ gW := gI 752 (by decide +kernel) rfl
theorem w_753 : (Cond.code ⟨"RiverDeskModel", "release", "(III)I"⟩ prog_8_method_16_code 4 (some FieldType.int) : Cond) ∈ gW := gI 753 (by decide +kernel) rfl
theorem w_754 : (Cond.methodLink "RiverDeskLaw" 105 ⟨"RiverDeskModel", "plan", "()I"⟩ : Cond) ∈ gW := gI 754 (by decide +kernel) rfl
theorem w_755 : (Cond.instanceMethod ⟨"RiverDeskModel", "plan", "()I"⟩ : Cond) ∈ gW := gI 755 (by decide +kernel) rfl
theorem w_756 : (Cond.selects "RiverDeskModel" ⟨"RiverDeskModel", "plan", "()I"⟩ ⟨"RiverDeskModel", "plan", "()I"⟩ : Cond) ∈ gW := gI 756 (by decide +kernel) rfl
theorem w_757 : (Cond.code ⟨"RiverDeskModel", "plan", "()I"⟩ prog_8_method_23_code 3 (some FieldType.int) : Cond) ∈ gW := gI 757 (by decide +kernel) rfl
theorem w_758 : (Cond.methodLink "RiverDeskModel" 119 ⟨"RiverDeskModel", "make", "(III)Z"⟩ : Cond) ∈ gW := gI 758 (by decide +kernel) rfl
theorem w_760 : (Cond.instanceMethod ⟨"RiverDeskModel", "make", "(III)Z"⟩ : Cond) ∈ gW := gI 760 (by decide +kernel) rfl
theorem w_761 : (Cond.code ⟨"RiverDeskModel", "make", "(III)Z"⟩ prog_8_method_21_code 8 (some FieldType.boolean) : Cond) ∈ gW := gI 761 (by decide +kernel) rfl
theorem w_762 : (Cond.methodLink "RiverDeskModel" 112 ⟨"RiverDeskModel", "age", "()V"⟩ : Cond) ∈ gW := gI 762 (by decide +kernel) rfl
theorem w_764 : (Cond.instanceMethod ⟨"RiverDeskModel", "age", "()V"⟩ : Cond) ∈ gW := gI 764 (by decide +kernel) rfl
theorem w_765 : (Cond.code ⟨"RiverDeskModel", "age", "()V"⟩ prog_8_method_20_code 5 none : Cond) ∈ gW := gI 765 (by decide +kernel) rfl
theorem w_766 : (Cond.methodLink "RiverDeskModel" 115 ⟨"RiverDeskModel", "holdsPlan", "(I)Z"⟩ : Cond) ∈ gW := gI 766 (by decide +kernel) rfl
theorem w_768 : (Cond.instanceMethod ⟨"RiverDeskModel", "holdsPlan", "(I)Z"⟩ : Cond) ∈ gW := gI 768 (by decide +kernel) rfl
theorem w_769 : (Cond.code ⟨"RiverDeskModel", "holdsPlan", "(I)Z"⟩ prog_8_method_19_code 6 (some FieldType.boolean) : Cond) ∈ gW := gI 769 (by decide +kernel) rfl
theorem w_770 : (Cond.methodLink "RiverDeskModel" 105 ⟨"RiverDeskModel", "natural", "(I)J"⟩ : Cond) ∈ gW := gI 770 (by decide +kernel) rfl
theorem w_772 : (Cond.instanceMethod ⟨"RiverDeskModel", "natural", "(I)J"⟩ : Cond) ∈ gW := gI 772 (by decide +kernel) rfl
theorem w_773 : (Cond.code ⟨"RiverDeskModel", "natural", "(I)J"⟩ prog_8_method_18_code 5 (some FieldType.long) : Cond) ∈ gW := gI 773 (by decide +kernel) rfl
theorem w_774 : (Cond.methodLink "RiverDeskModel" 101 ⟨"RiverDeskModel", "returned", "(IJ)J"⟩ : Cond) ∈ gW := gI 774 (by decide +kernel) rfl
theorem w_776 : (Cond.instanceMethod ⟨"RiverDeskModel", "returned", "(IJ)J"⟩ : Cond) ∈ gW := gI 776 (by decide +kernel) rfl
theorem w_777 : (Cond.code ⟨"RiverDeskModel", "returned", "(IJ)J"⟩ prog_8_method_17_code 4 (some FieldType.long) : Cond) ∈ gW := gI 777 (by decide +kernel) rfl
theorem w_778 : (Cond.constantLong "RiverDeskModel" 99 1000 : Cond) ∈ gW := gI 778 (by decide +kernel) rfl
theorem w_779 : (Cond.methodLink "RiverDeskModel" 123 ⟨"RiverDeskModel", "isShort", "(I)Z"⟩ : Cond) ∈ gW := gI 779 (by decide +kernel) rfl
theorem w_781 : (Cond.instanceMethod ⟨"RiverDeskModel", "isShort", "(I)Z"⟩ : Cond) ∈ gW := gI 781 (by decide +kernel) rfl
theorem w_782 : (Cond.code ⟨"RiverDeskModel", "isShort", "(I)Z"⟩ prog_8_method_22_code 2 (some FieldType.boolean) : Cond) ∈ gW := gI 782 (by decide +kernel) rfl
theorem w_783 : (Cond.methodLink "RiverDeskLaw" 109 ⟨"RiverDeskModel", "given", "(I)I"⟩ : Cond) ∈ gW := gI 783 (by decide +kernel) rfl
theorem w_784 : (Cond.instanceMethod ⟨"RiverDeskModel", "given", "(I)I"⟩ : Cond) ∈ gW := gI 784 (by decide +kernel) rfl
theorem w_785 : (Cond.selects "RiverDeskModel" ⟨"RiverDeskModel", "given", "(I)I"⟩ ⟨"RiverDeskModel", "given", "(I)I"⟩ : Cond) ∈ gW := gI 785 (by decide +kernel) rfl
theorem w_786 : (Cond.code ⟨"RiverDeskModel", "given", "(I)I"⟩ prog_8_method_24_code 2 (some FieldType.int) : Cond) ∈ gW := gI 786 (by decide +kernel) rfl
theorem w_787 : (Cond.methodLink "RiverDeskLaw" 113 ⟨"RiverDeskModel", "flow", "(II)J"⟩ : Cond) ∈ gW := gI 787 (by decide +kernel) rfl
theorem w_788 : (Cond.instanceMethod ⟨"RiverDeskModel", "flow", "(II)J"⟩ : Cond) ∈ gW := gI 788 (by decide +kernel) rfl
theorem w_789 : (Cond.selects "RiverDeskModel" ⟨"RiverDeskModel", "flow", "(II)J"⟩ ⟨"RiverDeskModel", "flow", "(II)J"⟩ : Cond) ∈ gW := gI 789 (by decide +kernel) rfl
theorem w_790 : (Cond.code ⟨"RiverDeskModel", "flow", "(II)J"⟩ prog_8_method_25_code 7 (some FieldType.long) : Cond) ∈ gW := gI 790 (by decide +kernel) rfl
theorem w_791 : (Cond.constantLong "RiverDeskModel" 126 (-1) : Cond) ∈ gW := gI 791 (by decide +kernel) rfl
theorem w_792 : (Cond.methodLink "RiverDeskLaw" 116 ⟨"RiverDeskModel", "call", "(I)I"⟩ : Cond) ∈ gW := gI 792 (by decide +kernel) rfl
theorem w_793 : (Cond.instanceMethod ⟨"RiverDeskModel", "call", "(I)I"⟩ : Cond) ∈ gW := gI 793 (by decide +kernel) rfl
theorem w_794 : (Cond.selects "RiverDeskModel" ⟨"RiverDeskModel", "call", "(I)I"⟩ ⟨"RiverDeskModel", "call", "(I)I"⟩ : Cond) ∈ gW := gI 794 (by decide +kernel) rfl
theorem w_795 : (Cond.code ⟨"RiverDeskModel", "call", "(I)I"⟩ prog_8_method_26_code 3 (some FieldType.int) : Cond) ∈ gW := gI 795 (by decide +kernel) rfl
theorem w_796 : (Cond.methodLink "RiverDeskLaw" 119 ⟨"RiverDeskModel", "futile", "(II)Z"⟩ : Cond) ∈ gW := gI 796 (by decide +kernel) rfl
theorem w_797 : (Cond.instanceMethod ⟨"RiverDeskModel", "futile", "(II)Z"⟩ : Cond) ∈ gW := gI 797 (by decide +kernel) rfl
theorem w_798 : (Cond.selects "RiverDeskModel" ⟨"RiverDeskModel", "futile", "(II)Z"⟩ ⟨"RiverDeskModel", "futile", "(II)Z"⟩ : Cond) ∈ gW := gI 798 (by decide +kernel) rfl
theorem w_799 : (Cond.code ⟨"RiverDeskModel", "futile", "(II)Z"⟩ prog_8_method_27_code 4 (some FieldType.boolean) : Cond) ∈ gW := gI 799 (by decide +kernel) rfl
theorem w_800 : (Cond.methodLink "RiverDeskLaw" 123 ⟨"RiverDeskModel", "close", "()I"⟩ : Cond) ∈ gW := gI 800 (by decide +kernel) rfl
theorem w_801 : (Cond.instanceMethod ⟨"RiverDeskModel", "close", "()I"⟩ : Cond) ∈ gW := gI 801 (by decide +kernel) rfl
theorem w_802 : (Cond.selects "RiverDeskModel" ⟨"RiverDeskModel", "close", "()I"⟩ ⟨"RiverDeskModel", "close", "()I"⟩ : Cond) ∈ gW := gI 802 (by decide +kernel) rfl
theorem w_803 : (Cond.code ⟨"RiverDeskModel", "close", "()I"⟩ prog_8_method_28_code 3 (some FieldType.int) : Cond) ∈ gW := gI 803 (by decide +kernel) rfl
theorem w_804 : (Cond.methodLink "RiverDeskLaw" 128 ⟨"RiverDeskModel", "held", "(II)I"⟩ : Cond) ∈ gW := gI 804 (by decide +kernel) rfl
theorem w_805 : (Cond.instanceMethod ⟨"RiverDeskModel", "held", "(II)I"⟩ : Cond) ∈ gW := gI 805 (by decide +kernel) rfl
theorem w_806 : (Cond.selects "RiverDeskModel" ⟨"RiverDeskModel", "held", "(II)I"⟩ ⟨"RiverDeskModel", "held", "(II)I"⟩ : Cond) ∈ gW := gI 806 (by decide +kernel) rfl
theorem w_807 : (Cond.code ⟨"RiverDeskModel", "held", "(II)I"⟩ prog_8_method_29_code 3 (some FieldType.int) : Cond) ∈ gW := gI 807 (by decide +kernel) rfl
theorem w_808 : (Cond.methodLink "RiverDeskLaw" 132 ⟨"RiverDeskModel", "book", "(II)J"⟩ : Cond) ∈ gW := gI 808 (by decide +kernel) rfl
theorem w_809 : (Cond.instanceMethod ⟨"RiverDeskModel", "book", "(II)J"⟩ : Cond) ∈ gW := gI 809 (by decide +kernel) rfl
theorem w_810 : (Cond.selects "RiverDeskModel" ⟨"RiverDeskModel", "book", "(II)J"⟩ ⟨"RiverDeskModel", "book", "(II)J"⟩ : Cond) ∈ gW := gI 810 (by decide +kernel) rfl
theorem w_811 : (Cond.code ⟨"RiverDeskModel", "book", "(II)J"⟩ prog_8_method_30_code 3 (some FieldType.long) : Cond) ∈ gW := gI 811 (by decide +kernel) rfl
theorem w_812 : (Cond.methodLink "RiverDeskLaw" 136 ⟨"RiverDeskModel", "about", "(II)I"⟩ : Cond) ∈ gW := gI 812 (by decide +kernel) rfl
theorem w_813 : (Cond.instanceMethod ⟨"RiverDeskModel", "about", "(II)I"⟩ : Cond) ∈ gW := gI 813 (by decide +kernel) rfl
theorem w_814 : (Cond.selects "RiverDeskModel" ⟨"RiverDeskModel", "about", "(II)I"⟩ ⟨"RiverDeskModel", "about", "(II)I"⟩ : Cond) ∈ gW := gI 814 (by decide +kernel) rfl
theorem w_815 : (Cond.code ⟨"RiverDeskModel", "about", "(II)I"⟩ prog_8_method_31_code 3 (some FieldType.int) : Cond) ∈ gW := gI 815 (by decide +kernel) rfl
theorem w_816 : (Cond.methodLink "RiverDeskLaw" 140 ⟨"RiverDeskModel", "aged", "(I)I"⟩ : Cond) ∈ gW := gI 816 (by decide +kernel) rfl
theorem w_817 : (Cond.instanceMethod ⟨"RiverDeskModel", "aged", "(I)I"⟩ : Cond) ∈ gW := gI 817 (by decide +kernel) rfl
theorem w_818 : (Cond.selects "RiverDeskModel" ⟨"RiverDeskModel", "aged", "(I)I"⟩ ⟨"RiverDeskModel", "aged", "(I)I"⟩ : Cond) ∈ gW := gI 818 (by decide +kernel) rfl
theorem w_819 : (Cond.code ⟨"RiverDeskModel", "aged", "(I)I"⟩ prog_8_method_32_code 2 (some FieldType.int) : Cond) ∈ gW := gI 819 (by decide +kernel) rfl
end
section
/-! numbers: an int is iI z, a long is lI z, for a z : Int; sums, differences and products need no bound -/
def iI (z : Int) : Int32 := Int32.ofInt z
def lI (z : Int) : Int64 := Int64.ofInt z
abbrev inI (z : Int) : Prop := -2147483648 ≤ z ∧ z ≤ 2147483647
abbrev inL (z : Int) : Prop := -9223372036854775808 ≤ z ∧ z ≤ 9223372036854775807
theorem iI_to {z : Int} (h : inI z) : (iI z).toInt = z := Int32.toInt_ofInt_of_le (by have := h.1; omega) (by have := h.2; omega)
theorem lI_to {z : Int} (h : inL z) : (lI z).toInt = z := Int64.toInt_ofInt_of_le (by have := h.1; omega) (by have := h.2; omega)
theorem iI_of (x : Int32) : ∃ z : Int, inI z ∧ x = iI z := ⟨x.toInt, ⟨by have := Int32.le_toInt x; omega, by have := Int32.toInt_lt x; omega⟩, (Int32.ofInt_toInt x).symm⟩
theorem iI_add (a b : Int) : iI a + iI b = iI (a + b) := (Int32.ofInt_add a b).symm
theorem iI_sub (a b : Int) : iI a - iI b = iI (a - b) := (Int32.ofInt_sub a b).symm
theorem iI_mul (a b : Int) : iI a * iI b = iI (a * b) := (Int32.ofInt_mul a b).symm
theorem lI_add (a b : Int) : lI a + lI b = lI (a + b) := (Int64.ofInt_add a b).symm
theorem lI_sub (a b : Int) : lI a - lI b = lI (a - b) := (Int64.ofInt_sub a b).symm
theorem lI_mul (a b : Int) : lI a * lI b = lI (a * b) := (Int64.ofInt_mul a b).symm
theorem iI_le {a b : Int} (ha : inI a) (hb : inI b) : iI a ≤ iI b ↔ a ≤ b := by rw [Int32.le_iff_toInt_le, iI_to ha, iI_to hb]
theorem iI_lt {a b : Int} (ha : inI a) (hb : inI b) : iI a < iI b ↔ a < b := by rw [Int32.lt_iff_toInt_lt, iI_to ha, iI_to hb]
theorem iI_eq {a b : Int} (ha : inI a) (hb : inI b) : iI a = iI b ↔ a = b := by rw [← Int32.toInt_inj, iI_to ha, iI_to hb]
theorem lI_le {a b : Int} (ha : inL a) (hb : inL b) : lI a ≤ lI b ↔ a ≤ b := by rw [Int64.le_iff_toInt_le, lI_to ha, lI_to hb]
theorem lI_lt {a b : Int} (ha : inL a) (hb : inL b) : lI a < lI b ↔ a < b := by rw [Int64.lt_iff_toInt_lt, lI_to ha, lI_to hb]
theorem lI_eq {a b : Int} (ha : inL a) (hb : inL b) : lI a = lI b ↔ a = b := by rw [← Int64.toInt_inj, lI_to ha, lI_to hb]
theorem iI_0 : iI 0 = 0 := rfl
theorem inI_0 : inI 0 := ⟨by decide, by decide⟩
theorem iI_cl {z : Int} (h0 : 0 ≤ z) (h : z ≤ 2147483647) : (iI z).toNatClampNeg = z.toNat := Int32.toNatClampNeg_ofInt_of_le (by omega) (by omega)
theorem iI_in {z : Int} {n : Nat} (h0 : 0 ≤ z) (h : z < n) (hn : n < 2147483648) : vp_in (iI z) n := by
  rw [vp_in_iff, iI_to ⟨by omega, by omega⟩]
  exact ⟨h0, h⟩
theorem iI_l {z : Int} (h : inI z) : (iI z).toInt64 = lI z := Int64.toInt_inj.mp (by rw [Int32.toInt_toInt64, iI_to h, lI_to ⟨by have := h.1; omega, by have := h.2; omega⟩])
theorem lI_i (z : Int) : (lI z).toInt32 = iI z := Int64.toInt32_ofInt
theorem iI_div {a b : Int} (ha : inI a) (h0 : 0 ≤ a) (hb : 0 < b) (hb2 : inI b) : iI a / iI b = iI (a / b) := by
  have hq : a / b ≤ a := Int.ediv_le_self b h0
  have hq0 : 0 ≤ a / b := Int.ediv_nonneg h0 (by omega)
  have hne : iI b ≠ -1 := fun h => by
    have h1 : (iI b).toInt = (-1 : Int32).toInt := by rw [h]
    rw [iI_to hb2, show ((-1 : Int32)).toInt = -1 from by decide] at h1
    omega
  refine Int32.toInt_inj.mp ?_
  rw [Int32.toInt_div_of_ne_right _ _ hne, iI_to ha, iI_to hb2, iI_to ⟨by omega, by have := ha.2; omega⟩]
  exact Int.tdiv_eq_ediv_of_nonneg h0
theorem lI_div {a b : Int} (ha : inL a) (h0 : 0 ≤ a) (hb : 0 < b) (hb2 : inL b) : lI a / lI b = lI (a / b) := by
  have hq : a / b ≤ a := Int.ediv_le_self b h0
  have hq0 : 0 ≤ a / b := Int.ediv_nonneg h0 (by omega)
  have hne : lI b ≠ -1 := fun h => by
    have h1 : (lI b).toInt = (-1 : Int64).toInt := by rw [h]
    rw [lI_to hb2, show ((-1 : Int64)).toInt = -1 from by decide] at h1
    omega
  refine Int64.toInt_inj.mp ?_
  rw [Int64.toInt_div_of_ne_right _ _ hne, lI_to ha, lI_to hb2, lI_to ⟨by omega, by have := ha.2; omega⟩]
  exact Int.tdiv_eq_ediv_of_nonneg h0
theorem iI_ne0 {b : Int} (hb : b ≠ 0) (h : inI b) : ¬ iI b = 0 := fun q => hb ((iI_eq h inI_0).mp (q.trans iI_0.symm))
theorem lI_ne0 {b : Int} (hb : b ≠ 0) (h : inL b) : ¬ lI b = 0 := fun q => hb ((lI_eq h ⟨by decide, by decide⟩).mp (q.trans (show (0 : Int64) = lI 0 from rfl)))
/-- an array's contents, one place changed -/
def uZ (f : Nat → Int) (j : Nat) (x : Int) : Nat → Int := fun k => if k = j then x else f k
theorem uZ_s (f : Nat → Int) (j : Nat) (x : Int) : uZ f j x j = x := by simp [uZ]
theorem uZ_n (f : Nat → Int) {j k : Nat} (x : Int) (h : k ≠ j) : uZ f j x k = f k := by simp [uZ, h]
theorem upd_iI (f : Nat → Int) (j : Nat) (x : Int) : upd (fun k => iI (f k)) j (iI x) = fun k => iI (uZ f j x k) := by
  funext k
  unfold upd uZ
  split <;> rfl
theorem upd_lI (f : Nat → Int) (j : Nat) (x : Int) : vp_updL (fun k => lI (f k)) j (lI x) = fun k => lI (uZ f j x k) := by
  funext k
  unfold vp_updL uZ
  split <;> rfl
/-! the cells: E holds the classes' numbers and those of int[], boolean[], long[] -/
abbrev rE : Type := va_G × ClassId × ClassId × ClassId
abbrev rTy (E : rE) : List (ClassId × FieldType) := [(E.2.1, .int), (E.2.2.1, .boolean), (E.2.2.2, .long)]
abbrev cI (E : rE) (a n : Nat) (f : Nat → Int) : Nat × va_E := (a, .inl (E.2.1, n, .inl (fun k => iI (f k))))
abbrev cZ (E : rE) (a n : Nat) (f : Nat → Int) : Nat × va_E := (a, .inl (E.2.2.1, n, .inl (fun k => iI (f k))))
abbrev cJ (E : rE) (a n : Nat) (f : Nat → Int) : Nat × va_E := (a, .inl (E.2.2.2, n, .inr (.inl (fun k => lI (f k)))))
abbrev cO (a ci : Nat) (fs : List Value) : Nat × va_E := (a, .inr (ci, fs))
abbrev rK (E : rE) (U : State) : Prop := va_K E.1 vwCl (rTy E) U
/-- what is fixed in a method's walk -/
def rC (p : Program) (s : State) (m : MethodId) (args : Array Value) (c : Code) (E : rE) (A : Nat → Prop) (nL : Nat) (cc : ByteArray) (Ts : List Cond) (own : String) : Prop := CallFix p m c cc nL s args Ts own ∧ rK E s ∧ (∀ q, s.heap.size ≤ q → A q) ∧ ∀ w ∈ gW, w ∈ Ts
/-- the goal: at pc, with the cells ws, the locals lv, the operands st, the machine comes to Q -/
def rG (p : Program) (l : Launch) (e : Env) (R : Room) (s : State) (m : MethodId) (args : Array Value) (below : List Frame) (meth : Method) (c : Code) (E : rE) (A : Nat → Prop) (nL cells slots : Nat) (Q : State → Prop) (ws : va_W) (pc : Nat) (lv : List (Nat × Value)) (st : List Value) : Prop :=
  ∀ (H : Heap) (locs : List Loc) (la : Array Slot), va_P E.1 vwCl ws H → va_D A ws → va_S A s.heap H locs → lv_has la nL lv → W p l e R s m args below meth c H locs cells slots Q (F0 m pc la st)
section RV1
variable {p : Program} {l : Launch} {e : Env} {R : Room} {s : State} {m : MethodId} {args : Array Value} {below : List Frame} {meth : Method} {c : Code} {E : rE} {A : Nat → Prop} {nL cells slots : Nat} {Q : State → Prop} {ws : va_W} {pc : Nat} {lv : List (Nat × Value)} {st : List Value} {cc : ByteArray} {Ts : List Cond} {own : String}

theorem rG.plv {lv' : List (Nat × Value)} (ks : List Nat) (h : lv_pick lv ks = lv') (kk : rG p l e R s m args below meth c E A nL cells slots Q ws pc lv' st) : rG p l e R s m args below meth c E A nL cells slots Q ws pc lv st := fun H locs la hP hD hS hl => kk H locs la hP hD hS (lv_sub hl ks h)
theorem rG.pws {ws' : va_W} (h : ws = ws') (kk : rG p l e R s m args below meth c E A nL cells slots Q ws' pc lv st) : rG p l e R s m args below meth c E A nL cells slots Q ws pc lv st := h ▸ kk
theorem rG.pst {st' : List Value} (h : st = st') (kk : rG p l e R s m args below meth c E A nL cells slots Q ws pc lv st') : rG p l e R s m args below meth c E A nL cells slots Q ws pc lv st := h ▸ kk
theorem rG.eqlv {lv' : List (Nat × Value)} (h : lv = lv') (kk : rG p l e R s m args below meth c E A nL cells slots Q ws pc lv' st) : rG p l e R s m args below meth c E A nL cells slots Q ws pc lv st := h ▸ kk
theorem rG.wide {k n : Nat} (h1 : cells ≤ k) (h2 : slots ≤ n) (kk : rG p l e R s m args below meth c E A nL k n Q ws pc lv st) : rG p l e R s m args below meth c E A nL cells slots Q ws pc lv st := fun H locs la hP hD hS hl => W.widen h1 h2 (kk H locs la hP hD hS hl)
theorem sel_map {is : List Nat} {w w' : va_W} (h : is.map (fun i => w[i]?) = w'.map some) : is.filterMap (fun i => w[i]?) = w' := by
  have : is.filterMap (fun i => w[i]?) = (is.map (fun i => w[i]?)).filterMap id := by rw [List.filterMap_map]; rfl
  rw [this, h, List.filterMap_map]
  simp
theorem rG.sub {ws' : va_W} (is : List Nat) (hn : va_nd is = true) (h : is.map (fun i => ws[i]?) = ws'.map some) (kk : rG p l e R s m args below meth c E A nL cells slots Q ws' pc lv st) : rG p l e R s m args below meth c E A nL cells slots Q ws pc lv st := fun H locs la hP hD hS hl => kk H locs la (hP.sub is (sel_map h)) (hD.sub is hn h) hS hl
theorem rg_iconst (C : rC p s m args c E A nL cc Ts own) {n : Int} (hd : decode cc pc = .ok (.iconst n, 1)) (kk : rG p l e R s m args below meth c E A nL cells slots Q ws (pc + 1) lv (.int (iI n) :: st)) : rG p l e R s m args below meth c E A nL cells slots Q ws pc lv st := by
  intro H locs la hP hD hS hl
  exact lv_iconst (v := iI n) C.1.1 C.1.2.1 hd rfl (kk H locs la hP hD hS hl)
theorem rg_bipush (C : rC p s m args c E A nL cc Ts own) {n z : Int} (hd : decode cc pc = .ok (.bipush n, 2)) (hv : (Int8.ofInt n).toInt32 = iI z) (kk : rG p l e R s m args below meth c E A nL cells slots Q ws (pc + 2) lv (.int (iI z) :: st)) : rG p l e R s m args below meth c E A nL cells slots Q ws pc lv st := by
  intro H locs la hP hD hS hl
  exact lv_bipush C.1.1 C.1.2.1 hd hv (kk H locs la hP hD hS hl)
theorem rg_sipush (C : rC p s m args c E A nL cc Ts own) {n z : Int} (hd : decode cc pc = .ok (.sipush n, 3)) (hv : (Int16.ofInt n).toInt32 = iI z) (kk : rG p l e R s m args below meth c E A nL cells slots Q ws (pc + 3) lv (.int (iI z) :: st)) : rG p l e R s m args below meth c E A nL cells slots Q ws pc lv st := by
  intro H locs la hP hD hS hl
  exact lv_sipush C.1.1 C.1.2.1 hd hv (kk H locs la hP hD hS hl)
theorem rg_lconst (C : rC p s m args c E A nL cc Ts own) {n : Fin 2} {z : Int} (hd : decode cc pc = .ok (.lconst n, 1)) (hv : Int64.ofNat (n : Nat) = lI z) (kk : rG p l e R s m args below meth c E A nL cells slots Q ws (pc + 1) lv (.long (lI z) :: st)) : rG p l e R s m args below meth c E A nL cells slots Q ws pc lv st := by
  intro H locs la hP hD hS hl
  exact lv_lconst C.1.1 C.1.2.1 hd hv (kk H locs la hP hD hS hl)
theorem rg_ldc (C : rC p s m args c E A nL cc Ts own) {index : Nat} {v : Int32} {z : Int} (hm : Jvm.Cond.constant own index v ∈ gW) (hv : v = iI z) (hd : decode cc pc = .ok (.ldc index, 2)) (kk : rG p l e R s m args below meth c E A nL cells slots Q ws (pc + 2) lv (.int (iI z) :: st)) : rG p l e R s m args below meth c E A nL cells slots Q ws pc lv st := by
  intro H locs la hP hD hS hl
  subst hv
  exact lv_ldc C.1.1 C.1.2.1 C.1.2.2.2.1 (C.1.2.2.2.2 _ (C.2.2.2 _ hm)) hd (kk H locs la hP hD hS hl)
theorem rg_ldc2 (C : rC p s m args c E A nL cc Ts own) {index : Nat} {v : Int64} {z : Int} (hm : Jvm.Cond.constantLong own index v ∈ gW) (hv : v = lI z) (hd : decode cc pc = .ok (.ldc2_w index, 3)) (kk : rG p l e R s m args below meth c E A nL cells slots Q ws (pc + 3) lv (.long (lI z) :: st)) : rG p l e R s m args below meth c E A nL cells slots Q ws pc lv st := by
  intro H locs la hP hD hS hl
  subst hv
  exact lv_ldc2 C.1.1 C.1.2.1 C.1.2.2.2.1 (C.1.2.2.2.2 _ (C.2.2.2 _ hm)) hd (kk H locs la hP hD hS hl)
theorem rg_iload_n (C : rC p s m args c E A nL cc Ts own) {n : Fin 4} {i : Nat} {v : Int32} (k : Nat) (hd : decode cc pc = .ok (.iload_n n, 1)) (hi : (n : Nat) = i) (hk : lv[k]? = some (i, .int v)) (kk : rG p l e R s m args below meth c E A nL cells slots Q ws (pc + 1) lv (.int v :: st)) : rG p l e R s m args below meth c E A nL cells slots Q ws pc lv st := by
  intro H locs la hP hD hS hl
  exact lv_iload_n C.1.1 C.1.2.1 hd hi (lv_at hl k hk) (kk H locs la hP hD hS hl)
theorem rg_iload (C : rC p s m args c E A nL cc Ts own) {i : Nat} {v : Int32} (k : Nat) (hd : decode cc pc = .ok (.iload i, 2)) (hk : lv[k]? = some (i, .int v)) (kk : rG p l e R s m args below meth c E A nL cells slots Q ws (pc + 2) lv (.int v :: st)) : rG p l e R s m args below meth c E A nL cells slots Q ws pc lv st := by
  intro H locs la hP hD hS hl
  exact lv_iload C.1.1 C.1.2.1 hd (lv_at hl k hk) (kk H locs la hP hD hS hl)
theorem rg_istore_n (C : rC p s m args c E A nL cc Ts own) {n : Fin 4} {i : Nat} {v : Int32} {lv' : List (Nat × Value)} (hd : decode cc pc = .ok (.istore_n n, 1)) (hi : (n : Nat) = i) (hn : i < nL) (h' : (i, Value.int v) :: lv.filter (fun q => !(q.1 == i) && !(q.1 + 1 == i && q.2.category == 2)) = lv') (kk : rG p l e R s m args below meth c E A nL cells slots Q ws (pc + 1) lv' st) : rG p l e R s m args below meth c E A nL cells slots Q ws pc lv (.int v :: st) := by
  intro H locs la hP hD hS hl
  exact lv_istore_n C.1.1 C.1.2.1 hd hi hl hn h' (fun la' hl' => kk H locs la' hP hD hS hl')
theorem rg_istore (C : rC p s m args c E A nL cc Ts own) {i : Nat} {v : Int32} {lv' : List (Nat × Value)} (hd : decode cc pc = .ok (.istore i, 2)) (hn : i < nL) (h' : (i, Value.int v) :: lv.filter (fun q => !(q.1 == i) && !(q.1 + 1 == i && q.2.category == 2)) = lv') (kk : rG p l e R s m args below meth c E A nL cells slots Q ws (pc + 2) lv' st) : rG p l e R s m args below meth c E A nL cells slots Q ws pc lv (.int v :: st) := by
  intro H locs la hP hD hS hl
  exact lv_istore C.1.1 C.1.2.1 hd hl hn h' (fun la' hl' => kk H locs la' hP hD hS hl')
theorem rg_lload_n (C : rC p s m args c E A nL cc Ts own) {n : Fin 4} {i : Nat} {v : Int64} (k : Nat) (hd : decode cc pc = .ok (.lload_n n, 1)) (hi : (n : Nat) = i) (hk : lv[k]? = some (i, .long v)) (kk : rG p l e R s m args below meth c E A nL cells slots Q ws (pc + 1) lv (.long v :: st)) : rG p l e R s m args below meth c E A nL cells slots Q ws pc lv st := by
  intro H locs la hP hD hS hl
  exact lv_lload_n C.1.1 C.1.2.1 hd hi (lv_at hl k hk) (kk H locs la hP hD hS hl)
theorem rg_lload (C : rC p s m args c E A nL cc Ts own) {i : Nat} {v : Int64} (k : Nat) (hd : decode cc pc = .ok (.lload i, 2)) (hk : lv[k]? = some (i, .long v)) (kk : rG p l e R s m args below meth c E A nL cells slots Q ws (pc + 2) lv (.long v :: st)) : rG p l e R s m args below meth c E A nL cells slots Q ws pc lv st := by
  intro H locs la hP hD hS hl
  exact lv_lload C.1.1 C.1.2.1 hd (lv_at hl k hk) (kk H locs la hP hD hS hl)
theorem rg_lstore_n (C : rC p s m args c E A nL cc Ts own) {n : Fin 4} {i : Nat} {v : Int64} {lv' : List (Nat × Value)} (hd : decode cc pc = .ok (.lstore_n n, 1)) (hi : (n : Nat) = i) (hn : i + 1 < nL) (h' : (i, Value.long v) :: lv.filter (fun q => !(q.1 == i) && (!(q.1 == i + 1) && !(q.1 + 1 == i && q.2.category == 2))) = lv') (kk : rG p l e R s m args below meth c E A nL cells slots Q ws (pc + 1) lv' st) : rG p l e R s m args below meth c E A nL cells slots Q ws pc lv (.long v :: st) := by
  intro H locs la hP hD hS hl
  exact lv_lstore_n C.1.1 C.1.2.1 hd hi hl hn h' (fun la' hl' => kk H locs la' hP hD hS hl')
theorem rg_lstore (C : rC p s m args c E A nL cc Ts own) {i : Nat} {v : Int64} {lv' : List (Nat × Value)} (hd : decode cc pc = .ok (.lstore i, 2)) (hn : i + 1 < nL) (h' : (i, Value.long v) :: lv.filter (fun q => !(q.1 == i) && (!(q.1 == i + 1) && !(q.1 + 1 == i && q.2.category == 2))) = lv') (kk : rG p l e R s m args below meth c E A nL cells slots Q ws (pc + 2) lv' st) : rG p l e R s m args below meth c E A nL cells slots Q ws pc lv (.long v :: st) := by
  intro H locs la hP hD hS hl
  exact lv_lstore C.1.1 C.1.2.1 hd hl hn h' (fun la' hl' => kk H locs la' hP hD hS hl')
theorem rg_aload_n (C : rC p s m args c E A nL cc Ts own) {n : Fin 4} {i : Nat} {v : Nat} (k : Nat) (hd : decode cc pc = .ok (.aload_n n, 1)) (hi : (n : Nat) = i) (hk : lv[k]? = some (i, .ref v)) (kk : rG p l e R s m args below meth c E A nL cells slots Q ws (pc + 1) lv (.ref v :: st)) : rG p l e R s m args below meth c E A nL cells slots Q ws pc lv st := by
  intro H locs la hP hD hS hl
  exact lv_aload_n C.1.1 C.1.2.1 hd hi (lv_at hl k hk) (kk H locs la hP hD hS hl)
theorem rg_aload (C : rC p s m args c E A nL cc Ts own) {i : Nat} {v : Nat} (k : Nat) (hd : decode cc pc = .ok (.aload i, 2)) (hk : lv[k]? = some (i, .ref v)) (kk : rG p l e R s m args below meth c E A nL cells slots Q ws (pc + 2) lv (.ref v :: st)) : rG p l e R s m args below meth c E A nL cells slots Q ws pc lv st := by
  intro H locs la hP hD hS hl
  exact lv_aload C.1.1 C.1.2.1 hd (lv_at hl k hk) (kk H locs la hP hD hS hl)
theorem rg_astore_n (C : rC p s m args c E A nL cc Ts own) {n : Fin 4} {i : Nat} {v : Nat} {lv' : List (Nat × Value)} (hd : decode cc pc = .ok (.astore_n n, 1)) (hi : (n : Nat) = i) (hn : i < nL) (h' : (i, Value.ref v) :: lv.filter (fun q => !(q.1 == i) && !(q.1 + 1 == i && q.2.category == 2)) = lv') (kk : rG p l e R s m args below meth c E A nL cells slots Q ws (pc + 1) lv' st) : rG p l e R s m args below meth c E A nL cells slots Q ws pc lv (.ref v :: st) := by
  intro H locs la hP hD hS hl
  exact lv_astore_n C.1.1 C.1.2.1 hd hi hl hn h' (fun la' hl' => kk H locs la' hP hD hS hl')
theorem rg_astore (C : rC p s m args c E A nL cc Ts own) {i : Nat} {v : Nat} {lv' : List (Nat × Value)} (hd : decode cc pc = .ok (.astore i, 2)) (hn : i < nL) (h' : (i, Value.ref v) :: lv.filter (fun q => !(q.1 == i) && !(q.1 + 1 == i && q.2.category == 2)) = lv') (kk : rG p l e R s m args below meth c E A nL cells slots Q ws (pc + 2) lv' st) : rG p l e R s m args below meth c E A nL cells slots Q ws pc lv (.ref v :: st) := by
  intro H locs la hP hD hS hl
  exact lv_astore C.1.1 C.1.2.1 hd hl hn h' (fun la' hl' => kk H locs la' hP hD hS hl')
theorem rg_iinc (C : rC p s m args c E A nL cc Ts own) {i k : Nat} {n z : Int} {lv' : List (Nat × Value)} (hd : decode cc pc = .ok (.iinc i n, 3)) (hk : lv[k]? = some (i, .int (iI z))) (hn : i < nL) (h' : (i, Value.int (iI (z + n))) :: lv.filter (fun q => !(q.1 == i) && !(q.1 + 1 == i && q.2.category == 2)) = lv') (kk : rG p l e R s m args below meth c E A nL cells slots Q ws (pc + 3) lv' st) : rG p l e R s m args below meth c E A nL cells slots Q ws pc lv st := by
  intro H locs la hP hD hS hl
  exact lv_iinc (v := iI (z + n)) C.1.1 C.1.2.1 hd hl hk (iI_add z n) hn h' (fun la' hl' => kk H locs la' hP hD hS hl')
theorem rg_iadd (C : rC p s m args c E A nL cc Ts own) {a b : Int} (hd : decode cc pc = .ok (.iadd, 1)) (kk : rG p l e R s m args below meth c E A nL cells slots Q ws (pc + 1) lv (.int (iI (a + b)) :: st)) : rG p l e R s m args below meth c E A nL cells slots Q ws pc lv (.int (iI b) :: .int (iI a) :: st) := by
  intro H locs la hP hD hS hl
  refine lv_iadd C.1.1 C.1.2.1 hd ?_
  rw [iI_add]
  exact (kk H locs la hP hD hS hl)
theorem rg_isub (C : rC p s m args c E A nL cc Ts own) {a b : Int} (hd : decode cc pc = .ok (.isub, 1)) (kk : rG p l e R s m args below meth c E A nL cells slots Q ws (pc + 1) lv (.int (iI (a - b)) :: st)) : rG p l e R s m args below meth c E A nL cells slots Q ws pc lv (.int (iI b) :: .int (iI a) :: st) := by
  intro H locs la hP hD hS hl
  refine lv_isub C.1.1 C.1.2.1 hd ?_
  rw [iI_sub]
  exact (kk H locs la hP hD hS hl)
theorem rg_imul (C : rC p s m args c E A nL cc Ts own) {a b : Int} (hd : decode cc pc = .ok (.imul, 1)) (kk : rG p l e R s m args below meth c E A nL cells slots Q ws (pc + 1) lv (.int (iI (a * b)) :: st)) : rG p l e R s m args below meth c E A nL cells slots Q ws pc lv (.int (iI b) :: .int (iI a) :: st) := by
  intro H locs la hP hD hS hl
  refine lv_imul C.1.1 C.1.2.1 hd ?_
  rw [iI_mul]
  exact (kk H locs la hP hD hS hl)
theorem rg_ladd (C : rC p s m args c E A nL cc Ts own) {a b : Int} (hd : decode cc pc = .ok (.ladd, 1)) (kk : rG p l e R s m args below meth c E A nL cells slots Q ws (pc + 1) lv (.long (lI (a + b)) :: st)) : rG p l e R s m args below meth c E A nL cells slots Q ws pc lv (.long (lI b) :: .long (lI a) :: st) := by
  intro H locs la hP hD hS hl
  refine lv_ladd C.1.1 C.1.2.1 hd ?_
  rw [lI_add]
  exact (kk H locs la hP hD hS hl)
theorem rg_lsub (C : rC p s m args c E A nL cc Ts own) {a b : Int} (hd : decode cc pc = .ok (.lsub, 1)) (kk : rG p l e R s m args below meth c E A nL cells slots Q ws (pc + 1) lv (.long (lI (a - b)) :: st)) : rG p l e R s m args below meth c E A nL cells slots Q ws pc lv (.long (lI b) :: .long (lI a) :: st) := by
  intro H locs la hP hD hS hl
  refine lv_lsub C.1.1 C.1.2.1 hd ?_
  rw [lI_sub]
  exact (kk H locs la hP hD hS hl)
theorem rg_lmul (C : rC p s m args c E A nL cc Ts own) {a b : Int} (hd : decode cc pc = .ok (.lmul, 1)) (kk : rG p l e R s m args below meth c E A nL cells slots Q ws (pc + 1) lv (.long (lI (a * b)) :: st)) : rG p l e R s m args below meth c E A nL cells slots Q ws pc lv (.long (lI b) :: .long (lI a) :: st) := by
  intro H locs la hP hD hS hl
  refine lv_lmul C.1.1 C.1.2.1 hd ?_
  rw [lI_mul]
  exact (kk H locs la hP hD hS hl)
theorem rg_idiv (C : rC p s m args c E A nL cc Ts own) {a b : Int} (ha : inI a) (h0 : 0 ≤ a) (hb : 0 < b) (hb2 : inI b) (hd : decode cc pc = .ok (.idiv, 1)) (kk : rG p l e R s m args below meth c E A nL cells slots Q ws (pc + 1) lv (.int (iI (a / b)) :: st)) : rG p l e R s m args below meth c E A nL cells slots Q ws pc lv (.int (iI b) :: .int (iI a) :: st) := by
  intro H locs la hP hD hS hl
  refine lv_idiv C.1.1 C.1.2.1 hd (iI_ne0 (by omega) hb2) ?_
  rw [iI_div ha h0 hb hb2]
  exact (kk H locs la hP hD hS hl)
theorem rg_irem (C : rC p s m args c E A nL cc Ts own) {a b : Int} (ha : inI a) (h0 : 0 ≤ a) (hb : 0 < b) (hb2 : inI b) (hd : decode cc pc = .ok (.irem, 1)) (kk : rG p l e R s m args below meth c E A nL cells slots Q ws (pc + 1) lv (.int (iI (a % b)) :: st)) : rG p l e R s m args below meth c E A nL cells slots Q ws pc lv (.int (iI b) :: .int (iI a) :: st) := by
  intro H locs la hP hD hS hl
  refine lv_irem C.1.1 C.1.2.1 hd (iI_ne0 (by omega) hb2) ?_
  rw [iI_div ha h0 hb hb2, iI_mul, iI_sub, show a - a / b * b = a % b from by rw [Int.mul_comm, Int.emod_def]]
  exact (kk H locs la hP hD hS hl)
theorem rg_ldiv (C : rC p s m args c E A nL cc Ts own) {a b : Int} (ha : inL a) (h0 : 0 ≤ a) (hb : 0 < b) (hb2 : inL b) (hd : decode cc pc = .ok (.ldiv, 1)) (kk : rG p l e R s m args below meth c E A nL cells slots Q ws (pc + 1) lv (.long (lI (a / b)) :: st)) : rG p l e R s m args below meth c E A nL cells slots Q ws pc lv (.long (lI b) :: .long (lI a) :: st) := by
  intro H locs la hP hD hS hl
  refine lv_ldiv C.1.1 C.1.2.1 hd (lI_ne0 (by omega) hb2) ?_
  rw [lI_div ha h0 hb hb2]
  exact (kk H locs la hP hD hS hl)
theorem rg_lrem (C : rC p s m args c E A nL cc Ts own) {a b : Int} (ha : inL a) (h0 : 0 ≤ a) (hb : 0 < b) (hb2 : inL b) (hd : decode cc pc = .ok (.lrem, 1)) (kk : rG p l e R s m args below meth c E A nL cells slots Q ws (pc + 1) lv (.long (lI (a % b)) :: st)) : rG p l e R s m args below meth c E A nL cells slots Q ws pc lv (.long (lI b) :: .long (lI a) :: st) := by
  intro H locs la hP hD hS hl
  refine lv_lrem C.1.1 C.1.2.1 hd (lI_ne0 (by omega) hb2) ?_
  rw [lI_div ha h0 hb hb2, lI_mul, lI_sub, show a - a / b * b = a % b from by rw [Int.mul_comm, Int.emod_def]]
  exact (kk H locs la hP hD hS hl)
theorem rg_i2l (C : rC p s m args c E A nL cc Ts own) {z : Int} (hz : inI z) (hd : decode cc pc = .ok (.i2l, 1)) (kk : rG p l e R s m args below meth c E A nL cells slots Q ws (pc + 1) lv (.long (lI z) :: st)) : rG p l e R s m args below meth c E A nL cells slots Q ws pc lv (.int (iI z) :: st) := by
  intro H locs la hP hD hS hl
  exact lv_i2l C.1.1 C.1.2.1 hd (iI_l hz) (kk H locs la hP hD hS hl)
theorem rg_l2i (C : rC p s m args c E A nL cc Ts own) {z : Int} (hd : decode cc pc = .ok (.l2i, 1)) (kk : rG p l e R s m args below meth c E A nL cells slots Q ws (pc + 1) lv (.int (iI z) :: st)) : rG p l e R s m args below meth c E A nL cells slots Q ws pc lv (.long (lI z) :: st) := by
  intro H locs la hP hD hS hl
  exact lv_l2i C.1.1 C.1.2.1 hd (lI_i z) (kk H locs la hP hD hS hl)
theorem rg_dup (C : rC p s m args c E A nL cc Ts own) {v : Value} (hd : decode cc pc = .ok (.dup, 1)) (hv : v.category = 1) (kk : rG p l e R s m args below meth c E A nL cells slots Q ws (pc + 1) lv (v :: v :: st)) : rG p l e R s m args below meth c E A nL cells slots Q ws pc lv (v :: st) := by
  intro H locs la hP hD hS hl
  exact lv_dup C.1.1 C.1.2.1 hd hv (kk H locs la hP hD hS hl)
theorem rg_pop (C : rC p s m args c E A nL cc Ts own) {v : Value} (hd : decode cc pc = .ok (.pop, 1)) (hv : v.category = 1) (kk : rG p l e R s m args below meth c E A nL cells slots Q ws (pc + 1) lv st) : rG p l e R s m args below meth c E A nL cells slots Q ws pc lv (v :: st) := by
  intro H locs la hP hD hS hl
  exact lv_pop C.1.1 C.1.2.1 hd hv (kk H locs la hP hD hS hl)
theorem rg_dup_x1 (C : rC p s m args c E A nL cc Ts own) {v u : Value} (hd : decode cc pc = .ok (.dup_x1, 1)) (hv : v.category = 1) (hu : u.category = 1) (kk : rG p l e R s m args below meth c E A nL cells slots Q ws (pc + 1) lv (v :: u :: v :: st)) : rG p l e R s m args below meth c E A nL cells slots Q ws pc lv (v :: u :: st) := by
  intro H locs la hP hD hS hl
  exact lv_dup_x1 C.1.1 C.1.2.1 hd hv hu (kk H locs la hP hD hS hl)
theorem rg_dup_x2 (C : rC p s m args c E A nL cc Ts own) {v u t : Value} (hd : decode cc pc = .ok (.dup_x2, 1)) (hv : v.category = 1) (hu : u.category = 1) (ht : t.category = 1) (kk : rG p l e R s m args below meth c E A nL cells slots Q ws (pc + 1) lv (v :: u :: t :: v :: st)) : rG p l e R s m args below meth c E A nL cells slots Q ws pc lv (v :: u :: t :: st) := by
  intro H locs la hP hD hS hl
  exact lv_dup_x2 C.1.1 C.1.2.1 hd hv hu ht (kk H locs la hP hD hS hl)
theorem rg_dup2 (C : rC p s m args c E A nL cc Ts own) {v u : Value} (hd : decode cc pc = .ok (.dup2, 1)) (hv : v.category = 1) (hu : u.category = 1) (kk : rG p l e R s m args below meth c E A nL cells slots Q ws (pc + 1) lv (v :: u :: v :: u :: st)) : rG p l e R s m args below meth c E A nL cells slots Q ws pc lv (v :: u :: st) := by
  intro H locs la hP hD hS hl
  exact lv_dup2_11 C.1.1 C.1.2.1 hd hv hu (kk H locs la hP hD hS hl)
theorem rg_dup2_x2 (C : rC p s m args c E A nL cc Ts own) {v u t : Value} (hd : decode cc pc = .ok (.dup2_x2, 1)) (hv : v.category = 2) (hu : u.category = 1) (ht : t.category = 1) (kk : rG p l e R s m args below meth c E A nL cells slots Q ws (pc + 1) lv (v :: u :: t :: v :: st)) : rG p l e R s m args below meth c E A nL cells slots Q ws pc lv (v :: u :: t :: st) := by
  intro H locs la hP hD hS hl
  exact lv_dup2_x2_2 C.1.1 C.1.2.1 hd hv hu ht (kk H locs la hP hD hS hl)
theorem rg_dup2_x1 (C : rC p s m args c E A nL cc Ts own) {v u : Value} (hd : decode cc pc = .ok (.dup2_x1, 1)) (hv : v.category = 2) (hu : u.category = 1) (kk : rG p l e R s m args below meth c E A nL cells slots Q ws (pc + 1) lv (v :: u :: v :: st)) : rG p l e R s m args below meth c E A nL cells slots Q ws pc lv (v :: u :: st) := by
  intro H locs la hP hD hS hl
  exact lv_dup2_x1_2 C.1.1 C.1.2.1 hd hv hu (kk H locs la hP hD hS hl)
theorem rg_goto (C : rC p s m args c E A nL cc Ts own) {off : Int} {tgt : Nat} (hd : decode cc pc = .ok (.goto off, 3)) (ht : (pc : Int) + off = (tgt : Int)) (kk : rG p l e R s m args below meth c E A nL cells slots Q ws tgt lv st) : rG p l e R s m args below meth c E A nL cells slots Q ws pc lv st := by
  intro H locs la hP hD hS hl
  exact lv_goto C.1.1 C.1.2.1 hd ht (kk H locs la hP hD hS hl)
theorem rg_icmp_eq (C : rC p s m args c E A nL cc Ts own) {a b : Int} {off : Int} {tgt : Nat} (ha : inI a) (hb : inI b) (hd : decode cc pc = .ok (.if_icmp .eq off, 3)) (ht : (pc : Int) + off = (tgt : Int)) (kt : a = b → rG p l e R s m args below meth c E A nL cells slots Q ws tgt lv st) (kf : ¬ (a = b) → rG p l e R s m args below meth c E A nL cells slots Q ws (pc + 3) lv st) : rG p l e R s m args below meth c E A nL cells slots Q ws pc lv (.int (iI b) :: .int (iI a) :: st) := by
  intro H locs la hP hD hS hl
  exact lv_icmp_eq C.1.1 C.1.2.1 hd ht (fun h => kt ((iI_eq ha hb).mp h) H locs la hP hD hS hl) (fun h => kf (fun q => h ((iI_eq ha hb).mpr q)) H locs la hP hD hS hl)
theorem rg_if_eq (C : rC p s m args c E A nL cc Ts own) {a : Int} {off : Int} {tgt : Nat} (ha : inI a) (hd : decode cc pc = .ok (.ifCond .eq off, 3)) (ht : (pc : Int) + off = (tgt : Int)) (kt : a = 0 → rG p l e R s m args below meth c E A nL cells slots Q ws tgt lv st) (kf : ¬ (a = 0) → rG p l e R s m args below meth c E A nL cells slots Q ws (pc + 3) lv st) : rG p l e R s m args below meth c E A nL cells slots Q ws pc lv (.int (iI a) :: st) := by
  intro H locs la hP hD hS hl
  exact lv_if_eq C.1.1 C.1.2.1 hd ht (fun h => kt ((iI_eq ha inI_0).mp h) H locs la hP hD hS hl) (fun h => kf (fun q => h ((iI_eq ha inI_0).mpr q)) H locs la hP hD hS hl)
theorem rg_icmp_ne (C : rC p s m args c E A nL cc Ts own) {a b : Int} {off : Int} {tgt : Nat} (ha : inI a) (hb : inI b) (hd : decode cc pc = .ok (.if_icmp .ne off, 3)) (ht : (pc : Int) + off = (tgt : Int)) (kt : a ≠ b → rG p l e R s m args below meth c E A nL cells slots Q ws tgt lv st) (kf : a = b → rG p l e R s m args below meth c E A nL cells slots Q ws (pc + 3) lv st) : rG p l e R s m args below meth c E A nL cells slots Q ws pc lv (.int (iI b) :: .int (iI a) :: st) := by
  intro H locs la hP hD hS hl
  exact lv_icmp_ne C.1.1 C.1.2.1 hd ht (fun h => kt (fun q => h ((iI_eq ha hb).mpr q)) H locs la hP hD hS hl) (fun h => kf ((iI_eq ha hb).mp h) H locs la hP hD hS hl)
theorem rg_if_ne (C : rC p s m args c E A nL cc Ts own) {a : Int} {off : Int} {tgt : Nat} (ha : inI a) (hd : decode cc pc = .ok (.ifCond .ne off, 3)) (ht : (pc : Int) + off = (tgt : Int)) (kt : a ≠ 0 → rG p l e R s m args below meth c E A nL cells slots Q ws tgt lv st) (kf : a = 0 → rG p l e R s m args below meth c E A nL cells slots Q ws (pc + 3) lv st) : rG p l e R s m args below meth c E A nL cells slots Q ws pc lv (.int (iI a) :: st) := by
  intro H locs la hP hD hS hl
  exact lv_if_ne C.1.1 C.1.2.1 hd ht (fun h => kt (fun q => h ((iI_eq ha inI_0).mpr q)) H locs la hP hD hS hl) (fun h => kf ((iI_eq ha inI_0).mp h) H locs la hP hD hS hl)
theorem rg_icmp_lt (C : rC p s m args c E A nL cc Ts own) {a b : Int} {off : Int} {tgt : Nat} (ha : inI a) (hb : inI b) (hd : decode cc pc = .ok (.if_icmp .lt off, 3)) (ht : (pc : Int) + off = (tgt : Int)) (kt : a < b → rG p l e R s m args below meth c E A nL cells slots Q ws tgt lv st) (kf : ¬ (a < b) → rG p l e R s m args below meth c E A nL cells slots Q ws (pc + 3) lv st) : rG p l e R s m args below meth c E A nL cells slots Q ws pc lv (.int (iI b) :: .int (iI a) :: st) := by
  intro H locs la hP hD hS hl
  exact lv_icmp_lt C.1.1 C.1.2.1 hd ht (fun h => kt ((iI_lt ha hb).mp h) H locs la hP hD hS hl) (fun h => kf (fun q => h ((iI_lt ha hb).mpr q)) H locs la hP hD hS hl)
theorem rg_if_lt (C : rC p s m args c E A nL cc Ts own) {a : Int} {off : Int} {tgt : Nat} (ha : inI a) (hd : decode cc pc = .ok (.ifCond .lt off, 3)) (ht : (pc : Int) + off = (tgt : Int)) (kt : a < 0 → rG p l e R s m args below meth c E A nL cells slots Q ws tgt lv st) (kf : ¬ (a < 0) → rG p l e R s m args below meth c E A nL cells slots Q ws (pc + 3) lv st) : rG p l e R s m args below meth c E A nL cells slots Q ws pc lv (.int (iI a) :: st) := by
  intro H locs la hP hD hS hl
  exact lv_if_lt C.1.1 C.1.2.1 hd ht (fun h => kt ((iI_lt ha inI_0).mp h) H locs la hP hD hS hl) (fun h => kf (fun q => h ((iI_lt ha inI_0).mpr q)) H locs la hP hD hS hl)
theorem rg_icmp_ge (C : rC p s m args c E A nL cc Ts own) {a b : Int} {off : Int} {tgt : Nat} (ha : inI a) (hb : inI b) (hd : decode cc pc = .ok (.if_icmp .ge off, 3)) (ht : (pc : Int) + off = (tgt : Int)) (kt : b ≤ a → rG p l e R s m args below meth c E A nL cells slots Q ws tgt lv st) (kf : ¬ (b ≤ a) → rG p l e R s m args below meth c E A nL cells slots Q ws (pc + 3) lv st) : rG p l e R s m args below meth c E A nL cells slots Q ws pc lv (.int (iI b) :: .int (iI a) :: st) := by
  intro H locs la hP hD hS hl
  exact lv_icmp_ge C.1.1 C.1.2.1 hd ht (fun h => kt ((iI_le hb ha).mp h) H locs la hP hD hS hl) (fun h => kf (fun q => h ((iI_le hb ha).mpr q)) H locs la hP hD hS hl)
theorem rg_if_ge (C : rC p s m args c E A nL cc Ts own) {a : Int} {off : Int} {tgt : Nat} (ha : inI a) (hd : decode cc pc = .ok (.ifCond .ge off, 3)) (ht : (pc : Int) + off = (tgt : Int)) (kt : 0 ≤ a → rG p l e R s m args below meth c E A nL cells slots Q ws tgt lv st) (kf : ¬ (0 ≤ a) → rG p l e R s m args below meth c E A nL cells slots Q ws (pc + 3) lv st) : rG p l e R s m args below meth c E A nL cells slots Q ws pc lv (.int (iI a) :: st) := by
  intro H locs la hP hD hS hl
  exact lv_if_ge C.1.1 C.1.2.1 hd ht (fun h => kt ((iI_le inI_0 ha).mp h) H locs la hP hD hS hl) (fun h => kf (fun q => h ((iI_le inI_0 ha).mpr q)) H locs la hP hD hS hl)
theorem rg_icmp_gt (C : rC p s m args c E A nL cc Ts own) {a b : Int} {off : Int} {tgt : Nat} (ha : inI a) (hb : inI b) (hd : decode cc pc = .ok (.if_icmp .gt off, 3)) (ht : (pc : Int) + off = (tgt : Int)) (kt : b < a → rG p l e R s m args below meth c E A nL cells slots Q ws tgt lv st) (kf : ¬ (b < a) → rG p l e R s m args below meth c E A nL cells slots Q ws (pc + 3) lv st) : rG p l e R s m args below meth c E A nL cells slots Q ws pc lv (.int (iI b) :: .int (iI a) :: st) := by
  intro H locs la hP hD hS hl
  exact lv_icmp_gt C.1.1 C.1.2.1 hd ht (fun h => kt ((iI_lt hb ha).mp h) H locs la hP hD hS hl) (fun h => kf (fun q => h ((iI_lt hb ha).mpr q)) H locs la hP hD hS hl)
theorem rg_if_gt (C : rC p s m args c E A nL cc Ts own) {a : Int} {off : Int} {tgt : Nat} (ha : inI a) (hd : decode cc pc = .ok (.ifCond .gt off, 3)) (ht : (pc : Int) + off = (tgt : Int)) (kt : 0 < a → rG p l e R s m args below meth c E A nL cells slots Q ws tgt lv st) (kf : ¬ (0 < a) → rG p l e R s m args below meth c E A nL cells slots Q ws (pc + 3) lv st) : rG p l e R s m args below meth c E A nL cells slots Q ws pc lv (.int (iI a) :: st) := by
  intro H locs la hP hD hS hl
  exact lv_if_gt C.1.1 C.1.2.1 hd ht (fun h => kt ((iI_lt inI_0 ha).mp h) H locs la hP hD hS hl) (fun h => kf (fun q => h ((iI_lt inI_0 ha).mpr q)) H locs la hP hD hS hl)
theorem rg_icmp_le (C : rC p s m args c E A nL cc Ts own) {a b : Int} {off : Int} {tgt : Nat} (ha : inI a) (hb : inI b) (hd : decode cc pc = .ok (.if_icmp .le off, 3)) (ht : (pc : Int) + off = (tgt : Int)) (kt : a ≤ b → rG p l e R s m args below meth c E A nL cells slots Q ws tgt lv st) (kf : ¬ (a ≤ b) → rG p l e R s m args below meth c E A nL cells slots Q ws (pc + 3) lv st) : rG p l e R s m args below meth c E A nL cells slots Q ws pc lv (.int (iI b) :: .int (iI a) :: st) := by
  intro H locs la hP hD hS hl
  exact lv_icmp_le C.1.1 C.1.2.1 hd ht (fun h => kt ((iI_le ha hb).mp h) H locs la hP hD hS hl) (fun h => kf (fun q => h ((iI_le ha hb).mpr q)) H locs la hP hD hS hl)
theorem rg_if_le (C : rC p s m args c E A nL cc Ts own) {a : Int} {off : Int} {tgt : Nat} (ha : inI a) (hd : decode cc pc = .ok (.ifCond .le off, 3)) (ht : (pc : Int) + off = (tgt : Int)) (kt : a ≤ 0 → rG p l e R s m args below meth c E A nL cells slots Q ws tgt lv st) (kf : ¬ (a ≤ 0) → rG p l e R s m args below meth c E A nL cells slots Q ws (pc + 3) lv st) : rG p l e R s m args below meth c E A nL cells slots Q ws pc lv (.int (iI a) :: st) := by
  intro H locs la hP hD hS hl
  exact lv_if_le C.1.1 C.1.2.1 hd ht (fun h => kt ((iI_le ha inI_0).mp h) H locs la hP hD hS hl) (fun h => kf (fun q => h ((iI_le ha inI_0).mpr q)) H locs la hP hD hS hl)
theorem lgc {x y : Int64} : lg_cmp x y = if y < x then 1 else if x = y then 0 else -1 := rfl
theorem rg_lcmp_eq (C : rC p s m args c E A nL cc Ts own) {a b : Int} {off : Int} {tgt : Nat} (ha : inL a) (hb : inL b) (hd : decode cc pc = .ok (.lcmp, 1)) (hd2 : decode cc (pc + 1) = .ok (.ifCond .eq off, 3)) (ht : ((pc + 1 : Nat) : Int) + off = (tgt : Int)) (kt : a = b → rG p l e R s m args below meth c E A nL cells slots Q ws tgt lv st) (kf : ¬ (a = b) → rG p l e R s m args below meth c E A nL cells slots Q ws (pc + 1 + 3) lv st) : rG p l e R s m args below meth c E A nL cells slots Q ws pc lv (.long (lI b) :: .long (lI a) :: st) := by
  intro H locs la hP hD hS hl
  have h1 := lI_lt hb ha
  have h2 := lI_eq ha hb
  refine W.lcmp C.1.1 C.1.2.1 hd ?_
  have hz : ∃ z : Int, lg_cmp (lI a) (lI b) = iI z ∧ inI z ∧ ((z = 1 ∧ b < a) ∨ (z = 0 ∧ a = b) ∨ (z = -1 ∧ a < b)) := by
    rw [lgc]
    by_cases q1 : b < a
    · exact ⟨1, by rw [if_pos (h1.mpr q1)]; rfl, ⟨by decide, by decide⟩, Or.inl ⟨rfl, q1⟩⟩
    · by_cases q2 : a = b
      · exact ⟨0, by rw [if_neg (fun z => q1 (h1.mp z)), if_pos (h2.mpr q2)]; rfl, ⟨by decide, by decide⟩, Or.inr (Or.inl ⟨rfl, q2⟩)⟩
      · exact ⟨-1, by rw [if_neg (fun z => q1 (h1.mp z)), if_neg (fun z => q2 (h2.mp z))]; rfl, ⟨by decide, by decide⟩, Or.inr (Or.inr ⟨rfl, by omega⟩)⟩
  obtain ⟨z, e1, e2, e3⟩ := hz
  rw [e1]
  exact rg_if_eq C e2 hd2 ht (fun h => kt (by omega)) (fun h => kf (by omega)) H locs la hP hD hS hl
theorem rg_lcmp_ne (C : rC p s m args c E A nL cc Ts own) {a b : Int} {off : Int} {tgt : Nat} (ha : inL a) (hb : inL b) (hd : decode cc pc = .ok (.lcmp, 1)) (hd2 : decode cc (pc + 1) = .ok (.ifCond .ne off, 3)) (ht : ((pc + 1 : Nat) : Int) + off = (tgt : Int)) (kt : a ≠ b → rG p l e R s m args below meth c E A nL cells slots Q ws tgt lv st) (kf : a = b → rG p l e R s m args below meth c E A nL cells slots Q ws (pc + 1 + 3) lv st) : rG p l e R s m args below meth c E A nL cells slots Q ws pc lv (.long (lI b) :: .long (lI a) :: st) := by
  intro H locs la hP hD hS hl
  have h1 := lI_lt hb ha
  have h2 := lI_eq ha hb
  refine W.lcmp C.1.1 C.1.2.1 hd ?_
  have hz : ∃ z : Int, lg_cmp (lI a) (lI b) = iI z ∧ inI z ∧ ((z = 1 ∧ b < a) ∨ (z = 0 ∧ a = b) ∨ (z = -1 ∧ a < b)) := by
    rw [lgc]
    by_cases q1 : b < a
    · exact ⟨1, by rw [if_pos (h1.mpr q1)]; rfl, ⟨by decide, by decide⟩, Or.inl ⟨rfl, q1⟩⟩
    · by_cases q2 : a = b
      · exact ⟨0, by rw [if_neg (fun z => q1 (h1.mp z)), if_pos (h2.mpr q2)]; rfl, ⟨by decide, by decide⟩, Or.inr (Or.inl ⟨rfl, q2⟩)⟩
      · exact ⟨-1, by rw [if_neg (fun z => q1 (h1.mp z)), if_neg (fun z => q2 (h2.mp z))]; rfl, ⟨by decide, by decide⟩, Or.inr (Or.inr ⟨rfl, by omega⟩)⟩
  obtain ⟨z, e1, e2, e3⟩ := hz
  rw [e1]
  exact rg_if_ne C e2 hd2 ht (fun h => kt (by omega)) (fun h => kf (by omega)) H locs la hP hD hS hl
theorem rg_lcmp_lt (C : rC p s m args c E A nL cc Ts own) {a b : Int} {off : Int} {tgt : Nat} (ha : inL a) (hb : inL b) (hd : decode cc pc = .ok (.lcmp, 1)) (hd2 : decode cc (pc + 1) = .ok (.ifCond .lt off, 3)) (ht : ((pc + 1 : Nat) : Int) + off = (tgt : Int)) (kt : a < b → rG p l e R s m args below meth c E A nL cells slots Q ws tgt lv st) (kf : ¬ (a < b) → rG p l e R s m args below meth c E A nL cells slots Q ws (pc + 1 + 3) lv st) : rG p l e R s m args below meth c E A nL cells slots Q ws pc lv (.long (lI b) :: .long (lI a) :: st) := by
  intro H locs la hP hD hS hl
  have h1 := lI_lt hb ha
  have h2 := lI_eq ha hb
  refine W.lcmp C.1.1 C.1.2.1 hd ?_
  have hz : ∃ z : Int, lg_cmp (lI a) (lI b) = iI z ∧ inI z ∧ ((z = 1 ∧ b < a) ∨ (z = 0 ∧ a = b) ∨ (z = -1 ∧ a < b)) := by
    rw [lgc]
    by_cases q1 : b < a
    · exact ⟨1, by rw [if_pos (h1.mpr q1)]; rfl, ⟨by decide, by decide⟩, Or.inl ⟨rfl, q1⟩⟩
    · by_cases q2 : a = b
      · exact ⟨0, by rw [if_neg (fun z => q1 (h1.mp z)), if_pos (h2.mpr q2)]; rfl, ⟨by decide, by decide⟩, Or.inr (Or.inl ⟨rfl, q2⟩)⟩
      · exact ⟨-1, by rw [if_neg (fun z => q1 (h1.mp z)), if_neg (fun z => q2 (h2.mp z))]; rfl, ⟨by decide, by decide⟩, Or.inr (Or.inr ⟨rfl, by omega⟩)⟩
  obtain ⟨z, e1, e2, e3⟩ := hz
  rw [e1]
  exact rg_if_lt C e2 hd2 ht (fun h => kt (by omega)) (fun h => kf (by omega)) H locs la hP hD hS hl
theorem rg_lcmp_ge (C : rC p s m args c E A nL cc Ts own) {a b : Int} {off : Int} {tgt : Nat} (ha : inL a) (hb : inL b) (hd : decode cc pc = .ok (.lcmp, 1)) (hd2 : decode cc (pc + 1) = .ok (.ifCond .ge off, 3)) (ht : ((pc + 1 : Nat) : Int) + off = (tgt : Int)) (kt : b ≤ a → rG p l e R s m args below meth c E A nL cells slots Q ws tgt lv st) (kf : ¬ (b ≤ a) → rG p l e R s m args below meth c E A nL cells slots Q ws (pc + 1 + 3) lv st) : rG p l e R s m args below meth c E A nL cells slots Q ws pc lv (.long (lI b) :: .long (lI a) :: st) := by
  intro H locs la hP hD hS hl
  have h1 := lI_lt hb ha
  have h2 := lI_eq ha hb
  refine W.lcmp C.1.1 C.1.2.1 hd ?_
  have hz : ∃ z : Int, lg_cmp (lI a) (lI b) = iI z ∧ inI z ∧ ((z = 1 ∧ b < a) ∨ (z = 0 ∧ a = b) ∨ (z = -1 ∧ a < b)) := by
    rw [lgc]
    by_cases q1 : b < a
    · exact ⟨1, by rw [if_pos (h1.mpr q1)]; rfl, ⟨by decide, by decide⟩, Or.inl ⟨rfl, q1⟩⟩
    · by_cases q2 : a = b
      · exact ⟨0, by rw [if_neg (fun z => q1 (h1.mp z)), if_pos (h2.mpr q2)]; rfl, ⟨by decide, by decide⟩, Or.inr (Or.inl ⟨rfl, q2⟩)⟩
      · exact ⟨-1, by rw [if_neg (fun z => q1 (h1.mp z)), if_neg (fun z => q2 (h2.mp z))]; rfl, ⟨by decide, by decide⟩, Or.inr (Or.inr ⟨rfl, by omega⟩)⟩
  obtain ⟨z, e1, e2, e3⟩ := hz
  rw [e1]
  exact rg_if_ge C e2 hd2 ht (fun h => kt (by omega)) (fun h => kf (by omega)) H locs la hP hD hS hl
theorem rg_lcmp_gt (C : rC p s m args c E A nL cc Ts own) {a b : Int} {off : Int} {tgt : Nat} (ha : inL a) (hb : inL b) (hd : decode cc pc = .ok (.lcmp, 1)) (hd2 : decode cc (pc + 1) = .ok (.ifCond .gt off, 3)) (ht : ((pc + 1 : Nat) : Int) + off = (tgt : Int)) (kt : b < a → rG p l e R s m args below meth c E A nL cells slots Q ws tgt lv st) (kf : ¬ (b < a) → rG p l e R s m args below meth c E A nL cells slots Q ws (pc + 1 + 3) lv st) : rG p l e R s m args below meth c E A nL cells slots Q ws pc lv (.long (lI b) :: .long (lI a) :: st) := by
  intro H locs la hP hD hS hl
  have h1 := lI_lt hb ha
  have h2 := lI_eq ha hb
  refine W.lcmp C.1.1 C.1.2.1 hd ?_
  have hz : ∃ z : Int, lg_cmp (lI a) (lI b) = iI z ∧ inI z ∧ ((z = 1 ∧ b < a) ∨ (z = 0 ∧ a = b) ∨ (z = -1 ∧ a < b)) := by
    rw [lgc]
    by_cases q1 : b < a
    · exact ⟨1, by rw [if_pos (h1.mpr q1)]; rfl, ⟨by decide, by decide⟩, Or.inl ⟨rfl, q1⟩⟩
    · by_cases q2 : a = b
      · exact ⟨0, by rw [if_neg (fun z => q1 (h1.mp z)), if_pos (h2.mpr q2)]; rfl, ⟨by decide, by decide⟩, Or.inr (Or.inl ⟨rfl, q2⟩)⟩
      · exact ⟨-1, by rw [if_neg (fun z => q1 (h1.mp z)), if_neg (fun z => q2 (h2.mp z))]; rfl, ⟨by decide, by decide⟩, Or.inr (Or.inr ⟨rfl, by omega⟩)⟩
  obtain ⟨z, e1, e2, e3⟩ := hz
  rw [e1]
  exact rg_if_gt C e2 hd2 ht (fun h => kt (by omega)) (fun h => kf (by omega)) H locs la hP hD hS hl
theorem rg_lcmp_le (C : rC p s m args c E A nL cc Ts own) {a b : Int} {off : Int} {tgt : Nat} (ha : inL a) (hb : inL b) (hd : decode cc pc = .ok (.lcmp, 1)) (hd2 : decode cc (pc + 1) = .ok (.ifCond .le off, 3)) (ht : ((pc + 1 : Nat) : Int) + off = (tgt : Int)) (kt : a ≤ b → rG p l e R s m args below meth c E A nL cells slots Q ws tgt lv st) (kf : ¬ (a ≤ b) → rG p l e R s m args below meth c E A nL cells slots Q ws (pc + 1 + 3) lv st) : rG p l e R s m args below meth c E A nL cells slots Q ws pc lv (.long (lI b) :: .long (lI a) :: st) := by
  intro H locs la hP hD hS hl
  have h1 := lI_lt hb ha
  have h2 := lI_eq ha hb
  refine W.lcmp C.1.1 C.1.2.1 hd ?_
  have hz : ∃ z : Int, lg_cmp (lI a) (lI b) = iI z ∧ inI z ∧ ((z = 1 ∧ b < a) ∨ (z = 0 ∧ a = b) ∨ (z = -1 ∧ a < b)) := by
    rw [lgc]
    by_cases q1 : b < a
    · exact ⟨1, by rw [if_pos (h1.mpr q1)]; rfl, ⟨by decide, by decide⟩, Or.inl ⟨rfl, q1⟩⟩
    · by_cases q2 : a = b
      · exact ⟨0, by rw [if_neg (fun z => q1 (h1.mp z)), if_pos (h2.mpr q2)]; rfl, ⟨by decide, by decide⟩, Or.inr (Or.inl ⟨rfl, q2⟩)⟩
      · exact ⟨-1, by rw [if_neg (fun z => q1 (h1.mp z)), if_neg (fun z => q2 (h2.mp z))]; rfl, ⟨by decide, by decide⟩, Or.inr (Or.inr ⟨rfl, by omega⟩)⟩
  obtain ⟨z, e1, e2, e3⟩ := hz
  rw [e1]
  exact rg_if_le C e2 hd2 ht (fun h => kt (by omega)) (fun h => kf (by omega)) H locs la hP hD hS hl
theorem rg_tableOut (C : rC p s m args c E A nL cc Ts own) {dflt lo hi : Int} {offs : Array Int} {len tgt : Nat} {z : Int} (hz : inI z) (hd : decode cc pc = .ok (.tableswitch dflt lo hi offs, len)) (h : z < lo ∨ hi < z) (ht : (pc : Int) + dflt = (tgt : Int)) (kk : rG p l e R s m args below meth c E A nL cells slots Q ws tgt lv st) : rG p l e R s m args below meth c E A nL cells slots Q ws pc lv (.int (iI z) :: st) := by
  intro H locs la hP hD hS hl
  exact lv_tableOut C.1.1 C.1.2.1 hd (by rw [iI_to hz]; exact h) ht (kk H locs la hP hD hS hl)
theorem rg_tableIn (C : rC p s m args c E A nL cc Ts own) {dflt lo hi off : Int} {offs : Array Int} {len tgt : Nat} {z : Int} (hz : inI z) (hd : decode cc pc = .ok (.tableswitch dflt lo hi offs, len)) (h1 : ¬ z < lo) (h2 : ¬ hi < z) (ho : offs[(z - lo).toNat]? = some off) (ht : (pc : Int) + off = (tgt : Int)) (kk : rG p l e R s m args below meth c E A nL cells slots Q ws tgt lv st) : rG p l e R s m args below meth c E A nL cells slots Q ws pc lv (.int (iI z) :: st) := by
  intro H locs la hP hD hS hl
  exact lv_tableIn C.1.1 C.1.2.1 hd (by rw [iI_to hz]; exact h1) (by rw [iI_to hz]; exact h2) (by rw [iI_to hz]; exact ho) ht (kk H locs la hP hD hS hl)
/-- a field, as a method's pool index names it -/
def rFld (own : String) (index : Nat) (Cn : String) (T : u_T) (N ci k : Nat) : Prop := (∀ w ∈ u_ws Cn T N, w ∈ gW) ∧ vwCl[ci]? = some (Cn, T, N) ∧ k < N ∧ Cond.fieldLink own index (T k).1 (T k).2.1 (T k).2.2.1 ∈ gW
/-- what the tables say for a store -/
def rLay (T : u_T) (N : Nat) (ty : Nat → FieldType) : Prop := (∀ k, k < N → parseFieldDescriptor (T k).2.2.1 = some (ty k)) ∧ ∀ a, a < N → ∀ b, b < N → a ≠ b → (T a).2.1 ≠ (T b).2.1
theorem rg_get (C : rC p s m args c E A nL cc Ts own) {Cn : String} {T : u_T} {N ci k index a : Nat} {fs : List Value} {v : Value} (F : rFld own index Cn T N ci k) (q0 : Nat) (he : ws[q0]? = some (a, .inr (ci, fs))) (hv : fs[k]? = some v) (hd : decode cc pc = .ok (.getfield index, 3)) (kk : rG p l e R s m args below meth c E A nL cells slots Q ws (pc + 3) lv (v :: st)) : rG p l e R s m args below meth c E A nL cells slots Q ws pc lv (.ref a :: st) := by
  intro H locs la hP hD hS hl
  exact va_get C.1.1 C.1.2.1 C.1.2.2.2.2 (fun w h => C.2.2.2 w (F.1 w h)) C.1.2.2.2.1 C.2.1 hP q0 he F.2.1 k F.2.2.1 (C.1.2.2.2.2 _ (C.2.2.2 _ F.2.2.2)) (fun _ h => h) hv hd (kk H locs la hP hD hS hl)
theorem rg_put (C : rC p s m args c E A nL cc Ts own) {Cn : String} {T : u_T} {N ci k index a : Nat} {fs : List Value} {v : Value} {ty : Nat → FieldType} {ws' : va_W} (F : rFld own index Cn T N ci k) (L : rLay T N ty) (hf : (T k).2.2.2 = false) (q0 : Nat) (he : ws[q0]? = some (a, .inr (ci, fs))) (hn : narrow (ty k) v = v) (hfit : fits (ty k) v = true) (hlen : k < fs.length) (hd : decode cc pc = .ok (.putfield index, 3)) (hw : ws.set q0 (a, .inr (ci, fs.set k v)) = ws') (kk : rG p l e R s m args below meth c E A nL cells slots Q ws' (pc + 3) lv st) : rG p l e R s m args below meth c E A nL cells slots Q ws pc lv (v :: .ref a :: st) := by
  intro H locs la hP hD hS hl
  subst hw
  exact va_put (ty := ty k) C.1.1 C.1.2.1 C.1.2.2.2.2 (fun w h => C.2.2.2 w (F.1 w h)) ty L.1 L.2 C.1.2.2.2.1 C.2.1 hP hD hS q0 he F.2.1 k F.2.2.1 (C.1.2.2.2.2 _ (C.2.2.2 _ F.2.2.2)) (fun _ h => h) hf (L.1 k F.2.2.1) hn hfit hlen hd (fun H1 locs1 hP1 hD1 hS1 => kk H1 locs1 la hP1 hD1 hS1 hl)
theorem rg_putF (C : rC p s m args c E A nL cc Ts own) {Cn : String} {T : u_T} {N ci k index a : Nat} {fs : List Value} {v : Value} {ty : Nat → FieldType} {ws' : va_W} (F : rFld own index Cn T N ci k) (L : rLay T N ty) (hf : (T k).2.2.2 = true) (hin : meth.name = "<init>") (hdc : (T k).1 = own) (q0 : Nat) (he : ws[q0]? = some (a, .inr (ci, fs))) (hn : narrow (ty k) v = v) (hfit : fits (ty k) v = true) (hlen : k < fs.length) (hd : decode cc pc = .ok (.putfield index, 3)) (hw : ws.set q0 (a, .inr (ci, fs.set k v)) = ws') (kk : rG p l e R s m args below meth c E A nL cells slots Q ws' (pc + 3) lv st) : rG p l e R s m args below meth c E A nL cells slots Q ws pc lv (v :: .ref a :: st) := by
  intro H locs la hP hD hS hl
  subst hw
  exact va_putF (ty := ty k) C.1.1 C.1.2.1 C.1.2.2.2.2 (fun w h => C.2.2.2 w (F.1 w h)) ty L.1 L.2 C.1.2.2.2.1 C.2.1 hP hD hS q0 he F.2.1 k F.2.2.1 (C.1.2.2.2.2 _ (C.2.2.2 _ F.2.2.2)) (fun _ h => h) hf hin hdc (L.1 k F.2.2.1) hn hfit hlen hd (fun H1 locs1 hP1 hD1 hS1 => kk H1 locs1 la hP1 hD1 hS1 hl)
theorem rg_iald (C : rC p s m args c E A nL cc Ts own) {a n : Nat} {f : Nat → Int} {z : Int} (q0 : Nat) (ha : ws[q0]? = some (cI E a n f)) (hn : n < 2147483648) (h0 : 0 ≤ z) (h1 : z < (n : Int)) (hd : decode cc pc = .ok (.iaload, 1)) (kk : rG p l e R s m args below meth c E A nL cells slots Q ws (pc + 1) lv (.int (iI (f z.toNat)) :: st)) : rG p l e R s m args below meth c E A nL cells slots Q ws pc lv (.int (iI z) :: .ref a :: st) := by
  intro H locs la hP hD hS hl
  refine va_iald C.1.1 C.1.2.1 C.2.1 hP q0 0 ha rfl (iI_in h0 h1 hn) hd ?_
  rw [iI_cl h0 (by omega)]
  exact (kk H locs la hP hD hS hl)
theorem rg_zald (C : rC p s m args c E A nL cc Ts own) {a n : Nat} {f : Nat → Int} {z : Int} (q0 : Nat) (ha : ws[q0]? = some (cZ E a n f)) (hn : n < 2147483648) (h0 : 0 ≤ z) (h1 : z < (n : Int)) (hd : decode cc pc = .ok (.baload, 1)) (kk : rG p l e R s m args below meth c E A nL cells slots Q ws (pc + 1) lv (.int (iI (f z.toNat)) :: st)) : rG p l e R s m args below meth c E A nL cells slots Q ws pc lv (.int (iI z) :: .ref a :: st) := by
  intro H locs la hP hD hS hl
  refine va_zald C.1.1 C.1.2.1 C.2.1 hP q0 1 ha rfl (iI_in h0 h1 hn) hd ?_
  rw [iI_cl h0 (by omega)]
  exact (kk H locs la hP hD hS hl)
theorem rg_lald (C : rC p s m args c E A nL cc Ts own) {a n : Nat} {f : Nat → Int} {z : Int} (q0 : Nat) (ha : ws[q0]? = some (cJ E a n f)) (hn : n < 2147483648) (h0 : 0 ≤ z) (h1 : z < (n : Int)) (hd : decode cc pc = .ok (.laload, 1)) (kk : rG p l e R s m args below meth c E A nL cells slots Q ws (pc + 1) lv (.long (lI (f z.toNat)) :: st)) : rG p l e R s m args below meth c E A nL cells slots Q ws pc lv (.int (iI z) :: .ref a :: st) := by
  intro H locs la hP hD hS hl
  refine va_lald C.1.1 C.1.2.1 C.2.1 hP q0 2 ha rfl (iI_in h0 h1 hn) hd ?_
  rw [iI_cl h0 (by omega)]
  exact (kk H locs la hP hD hS hl)
theorem rg_iast (C : rC p s m args c E A nL cc Ts own) {a n : Nat} {f : Nat → Int} {z x : Int} {ws' : va_W} (q0 : Nat) (ha : ws[q0]? = some (cI E a n f)) (hn : n < 2147483648) (h0 : 0 ≤ z) (h1 : z < (n : Int)) (hd : decode cc pc = .ok (.iastore, 1)) (hw : ws.set q0 (cI E a n (uZ f z.toNat x)) = ws') (kk : rG p l e R s m args below meth c E A nL cells slots Q ws' (pc + 1) lv st) : rG p l e R s m args below meth c E A nL cells slots Q ws pc lv (.int (iI x) :: .int (iI z) :: .ref a :: st) := by
  intro H locs la hP hD hS hl
  subst hw
  refine va_iast C.1.1 C.1.2.1 C.2.1 hP hD hS q0 0 ha rfl (iI_in h0 h1 hn) hd ?_
  rw [iI_cl h0 (by omega), upd_iI]
  exact fun H1 locs1 hP1 hD1 hS1 => kk H1 locs1 la hP1 hD1 hS1 hl
theorem rg_zast (C : rC p s m args c E A nL cc Ts own) {a n : Nat} {f : Nat → Int} {z x : Int} {ws' : va_W} (q0 : Nat) (ha : ws[q0]? = some (cZ E a n f)) (hn : n < 2147483648) (h0 : 0 ≤ z) (h1 : z < (n : Int)) (hx : vp_nar .boolean (iI x) = iI x) (hd : decode cc pc = .ok (.bastore, 1)) (hw : ws.set q0 (cZ E a n (uZ f z.toNat x)) = ws') (kk : rG p l e R s m args below meth c E A nL cells slots Q ws' (pc + 1) lv st) : rG p l e R s m args below meth c E A nL cells slots Q ws pc lv (.int (iI x) :: .int (iI z) :: .ref a :: st) := by
  intro H locs la hP hD hS hl
  subst hw
  refine va_zast C.1.1 C.1.2.1 C.2.1 hP hD hS q0 1 ha rfl (iI_in h0 h1 hn) hd ?_
  rw [hx, iI_cl h0 (by omega), upd_iI]
  exact fun H1 locs1 hP1 hD1 hS1 => kk H1 locs1 la hP1 hD1 hS1 hl
theorem rg_last (C : rC p s m args c E A nL cc Ts own) {a n : Nat} {f : Nat → Int} {z x : Int} {ws' : va_W} (q0 : Nat) (ha : ws[q0]? = some (cJ E a n f)) (hn : n < 2147483648) (h0 : 0 ≤ z) (h1 : z < (n : Int)) (hd : decode cc pc = .ok (.lastore, 1)) (hw : ws.set q0 (cJ E a n (uZ f z.toNat x)) = ws') (kk : rG p l e R s m args below meth c E A nL cells slots Q ws' (pc + 1) lv st) : rG p l e R s m args below meth c E A nL cells slots Q ws pc lv (.long (lI x) :: .int (iI z) :: .ref a :: st) := by
  intro H locs la hP hD hS hl
  subst hw
  refine va_last C.1.1 C.1.2.1 C.2.1 hP hD hS q0 2 ha rfl (iI_in h0 h1 hn) hd ?_
  rw [iI_cl h0 (by omega), upd_lI]
  exact fun H1 locs1 hP1 hD1 hS1 => kk H1 locs1 la hP1 hD1 hS1 hl
theorem rg_leni (C : rC p s m args c E A nL cc Ts own) {a n : Nat} {f : Nat → Int} (q0 : Nat) (ha : ws[q0]? = some (cI E a n f)) (hd : decode cc pc = .ok (.arraylength, 1)) (kk : rG p l e R s m args below meth c E A nL cells slots Q ws (pc + 1) lv (.int (iI (n : Int)) :: st)) : rG p l e R s m args below meth c E A nL cells slots Q ws pc lv (.ref a :: st) := by
  intro H locs la hP hD hS hl
  exact va_alen (v := iI (n : Int)) C.1.1 C.1.2.1 C.2.1 hP q0 0 ha (ty := .int) rfl (Int32.ofInt_eq_ofNat.symm) hd (kk H locs la hP hD hS hl)
theorem rg_lenz (C : rC p s m args c E A nL cc Ts own) {a n : Nat} {f : Nat → Int} (q0 : Nat) (ha : ws[q0]? = some (cZ E a n f)) (hd : decode cc pc = .ok (.arraylength, 1)) (kk : rG p l e R s m args below meth c E A nL cells slots Q ws (pc + 1) lv (.int (iI (n : Int)) :: st)) : rG p l e R s m args below meth c E A nL cells slots Q ws pc lv (.ref a :: st) := by
  intro H locs la hP hD hS hl
  exact va_alen (v := iI (n : Int)) C.1.1 C.1.2.1 C.2.1 hP q0 1 ha (ty := .boolean) rfl (Int32.ofInt_eq_ofNat.symm) hd (kk H locs la hP hD hS hl)
theorem rg_lenj (C : rC p s m args c E A nL cc Ts own) {a n : Nat} {f : Nat → Int} (q0 : Nat) (ha : ws[q0]? = some (cJ E a n f)) (hd : decode cc pc = .ok (.arraylength, 1)) (kk : rG p l e R s m args below meth c E A nL cells slots Q ws (pc + 1) lv (.int (iI (n : Int)) :: st)) : rG p l e R s m args below meth c E A nL cells slots Q ws pc lv (.ref a :: st) := by
  intro H locs la hP hD hS hl
  exact va_alen (v := iI (n : Int)) C.1.1 C.1.2.1 C.2.1 hP q0 2 ha (ty := .long) rfl (Int32.ofInt_eq_ofNat.symm) hd (kk H locs la hP hD hS hl)
end RV1
end
section
/-! contracts: from the cells cin (and any others, which stay) the method returns r, the cells are cout u -/
def rP (E : rE) (cin : va_W) (sz : Nat) (U : State) : Prop := U.heap.size = sz ∧ rK E U ∧ va_P E.1 vwCl cin U.heap ∧ va_D (fun _ => True) cin
def rQ (E : rE) (cin : va_W) (sz : Nat) {S : Type} (r : Option Value) (cout : S → va_W) : Array Value → State → Outcome → State → Prop := fun _ st o t => (∃ u : S, o = .returned r ∧ rK E t ∧ va_P E.1 vwCl (cout u) t.heap ∧ va_D (va_A cin sz) (cout u)) ∧ va_F (va_A cin sz) st t
def rM (l : Launch) (y : MethodName) (ws : List Cond) (rm : Room) (E : rE) (cin : va_W) (av : List Value) {S : Type} (r : Option Value) (cout : S → va_W) : Prop := ∀ sz : Nat, Met l y ws rm (va_Pc av (rP E cin sz)) (rQ E cin sz r cout) rm.cells rm.slots (va_A cin sz)
theorem rP_blind (E : rE) (cin : va_W) (sz : Nat) (av : List Value) : FrameBlind (va_Pc av (rP E cin sz)) := fun a U g mk q => by
  obtain ⟨q0, q1, qK, qP, qD⟩ := q
  exact ⟨q0, q1, va_K.moved (u := U) (U := U.calling g mk a) (Vm.Alike.refl U.vm) qK, qP, qD⟩
theorem rM.of {l : Launch} {y : MethodName} {ws ws' : List Cond} {rm : Room} {E : rE} {cin : va_W} {av : List Value} {S : Type} {r : Option Value} {cout : S → va_W} {cc : ByteArray} {maxL : Nat} {ret : Option FieldType}
    (hy : plainName y.cls = true) (hw : ws = Cond.code y cc maxL ret :: ws') (hle : (lg_sl av).length ≤ maxL)
    (hg : ∀ w ∈ gW, w ∈ ws)
    (body : ∀ (p : Program) (e : Env) (s : State) (m : MethodId) (args : Array Value) (below : List Frame) (meth : Method) (c : Code) (A : Nat → Prop) (Q : State → Prop), A = va_A cin s.heap.size → Q = MQ below (rQ E cin s.heap.size r cout) args s rm.cells rm.slots A → rC p s m args c E A maxL cc ws y.cls → meth.sig.returnType = ret → meth.locks = false → meth.name = y.name →
      rG p l e rm s m args below meth c E A maxL 0 0 Q cin 0 (lv_args 0 av) []) : rM l y ws rm E cin av r cout := by
  intro sz
  refine Met.ofW (cc := cc) (maxL := maxL) (ret := ret) hy hw ?_
  intro p e s m args below meth c s₁ B hml hv
  obtain ⟨rfl, hsz, hK, hP, hD0⟩ := hv
  subst hsz
  have hb := body p e s m av.toArray below meth c (va_A cin s.heap.size) _ rfl rfl ⟨⟨B.exec, B.bytes, hml, findClass_of_methodNamed B.named, atoms_spec (ws := ws) B.pre⟩, hK, fun q h => Or.inr h, hg⟩ B.returns B.notSynchronized (name_of_methodNamed B.named B.method).1
  rw [lg_entry_eq]
  exact hb s.heap [] _ hP hD0.self va_S.rf (lv_entry av hle)
section RV2
variable {p : Program} {l : Launch} {e : Env} {R : Room} {s : State} {m : MethodId} {args : Array Value} {below : List Frame} {meth : Method} {c : Code} {E : rE} {A : Nat → Prop} {nL cells slots : Nat} {Q : State → Prop} {ws : va_W} {pc : Nat} {lv : List (Nat × Value)} {st : List Value} {cc : ByteArray} {Ts : List Cond} {own : String}
variable {S : Type} {cin wr : va_W} {cout w' : S → va_W} {r : Option Value}
theorem rg_iret (C : rC p s m args c E A nL cc Ts own) (hA : A = va_A cin s.heap.size) (hQ : Q = MQ below (rQ E cin s.heap.size r cout) args s cells slots A) (hr : meth.sig.returnType = some .int) (hlk : meth.locks = false) (u : S) (hw : ws = cout u) {v : Int32} (hv : r = some (.int v)) (hd : decode cc pc = .ok (.ireturn, 1)) : rG p l e R s m args below meth c E A nL cells slots Q ws pc lv [.int v] := by
  intro H locs la hP hD hS hl
  subst hQ hv hw hA
  exact W.iret C.1.1 C.1.2.1 hr (fun t ht hW => ⟨⟨u, rfl, va_K.moved hW.alike C.2.1, by rw [ht]; exact hP, hD⟩, hS.F ht⟩) hS.2.2 hd hlk
theorem rg_zret (C : rC p s m args c E A nL cc Ts own) (hA : A = va_A cin s.heap.size) (hQ : Q = MQ below (rQ E cin s.heap.size r cout) args s cells slots A) {ty : FieldType} (hr : meth.sig.returnType = some ty) (hlk : meth.locks = false) (u : S) (hw : ws = cout u) {v : Int32} (hn : narrow ty (.int v) = .int v) (hv : r = some (.int v)) (hd : decode cc pc = .ok (.ireturn, 1)) : rG p l e R s m args below meth c E A nL cells slots Q ws pc lv [.int v] := by
  intro H locs la hP hD hS hl
  subst hQ hv hw hA
  exact W.zret C.1.1 C.1.2.1 hr hn (fun t ht hW => ⟨⟨u, rfl, va_K.moved hW.alike C.2.1, by rw [ht]; exact hP, hD⟩, hS.F ht⟩) hS.2.2 hd hlk
theorem rg_lret (C : rC p s m args c E A nL cc Ts own) (hA : A = va_A cin s.heap.size) (hQ : Q = MQ below (rQ E cin s.heap.size r cout) args s cells slots A) (hr : meth.sig.returnType = some .long) (hlk : meth.locks = false) (u : S) (hw : ws = cout u) {v : Int64} (hv : r = some (.long v)) (hd : decode cc pc = .ok (.lreturn, 1)) : rG p l e R s m args below meth c E A nL cells slots Q ws pc lv [.long v] := by
  intro H locs la hP hD hS hl
  subst hQ hv hw hA
  exact W.lret C.1.1 C.1.2.1 hr (fun t ht hW => ⟨⟨u, rfl, va_K.moved hW.alike C.2.1, by rw [ht]; exact hP, hD⟩, hS.F ht⟩) hS.2.2 hd hlk
theorem rg_vret (C : rC p s m args c E A nL cc Ts own) (hA : A = va_A cin s.heap.size) (hQ : Q = MQ below (rQ E cin s.heap.size r cout) args s cells slots A) (hr : meth.sig.returnType = none) (hlk : meth.locks = false) (u : S) (hw : ws = cout u) (hv : r = none) (hd : decode cc pc = .ok (.return_, 1)) : rG p l e R s m args below meth c E A nL cells slots Q ws pc lv [] := by
  intro H locs la hP hD hS hl
  subst hQ hv hw hA
  exact W.vret C.1.1 C.1.2.1 hr (fun t ht hW => ⟨⟨u, rfl, va_K.moved hW.alike C.2.1, by rw [ht]; exact hP, hD⟩, hS.F ht⟩) hS.2.2 hd hlk
/-- behind a call: the callee's cells and the rest, in the order that ps says -/
theorem rg_after {H : Heap} {locs : List Loc} {la : Array Slot} {mc ms : Nat} {st0 rest : List Value} {av : Array Value} (C : rC p s m args c E A nL cc Ts own)
    (hP : va_P E.1 vwCl ws H) (hD : va_D A ws) (hS : va_S A s.heap H locs) (hl : lv_has la nL lv)
    (run : va_Run p l e R s m args below meth c H locs cells slots mc ms (F0 m pc la st0) rest (rQ E cin H.size r cout av) (va_A cin H.size))
    (isC isR ps : List Nat) (hC : isC.map (fun i => ws[i]?) = cin.map some) (hR : isR.map (fun i => ws[i]?) = wr.map some) (hnR : va_nd isR = true) (hdis : ∀ i ∈ isR, i ∉ isC)
    (hps : ∀ u, ps.map (fun i => (wr ++ cout u)[i]?) = (w' u).map some) (hnp : va_nd ps = true)
    (kk : ∀ u, rG p l e R s m args below meth c E A nL (cells + mc) (slots + ms) Q (w' u) (pc + 3) lv (r.toList ++ rest)) : W p l e R s m args below meth c H locs cells slots Q (F0 m pc la st0) := by
  have hFc := va_free (wc := cin) hD hS C.2.2.1 isC hC
  intro T hT X
  obtain ⟨v, st₀, t, T', L, h0, X', hL, e1, e2, ⟨⟨u, hv, hK1, hP1, hD1⟩, hz, hk⟩, stp⟩ := run T hT X
  cases hv
  rw [h0] at hz hk
  rw [← e1] at hz hk hP1
  obtain ⟨hPj, hDj⟩ := va_join (wr := wr) (w1 := cout u) hP hD isC isR hC hR hnR hdis hk hFc hP1 hD1
  have hS1 : va_S A s.heap T'.heap (locs ++ L) := ⟨Nat.le_trans hS.1 hz, fun q h1 h2 => by
      rw [hk q (Nat.lt_of_lt_of_le h1 hS.1) (fun z => h2 (hFc q z))]
      exact hS.2.1 q h1 h2, fun q hq => by
      rcases List.mem_append.mp hq with h | h
      · exact hS.2.2 q h
      · exact hFc _ (hL q h)⟩
  obtain ⟨t2, a1, b1⟩ := kk u T'.heap (locs ++ L) la (hPj.sub ps (sel_map (hps u))) (hDj.sub ps hnp (hps u)) hS1 hl T' rfl X'
  exact ⟨t2, stp t2 a1, b1⟩
variable {y : MethodName} {bytes : ByteArray} {maxL index n : Nat} {ret : Option FieldType} {wsy : List Cond} {rm : Room} {As rest : List Value} {b : Nat}
theorem rg_callV {Cn : String} {T : u_T} {N ci : Nat} {fs : List Value} (C : rC p s m args c E A nL cc Ts own) (M : rM l y wsy rm E cin (.ref b :: As) r cout) (cw : CallW R s args own Cn index y bytes maxL ret wsy rm rm.cells rm.slots n)
    (isC isR ps : List Nat) (hC : isC.map (fun i => ws[i]?) = cin.map some) (hR : isR.map (fun i => ws[i]?) = wr.map some) (hnC : va_nd isC = true) (hnR : va_nd isR = true) (hdis : ∀ i ∈ isR, i ∉ isC)
    (hps : ∀ u, ps.map (fun i => (wr ++ cout u)[i]?) = (w' u).map some) (hnp : va_nd ps = true)
    (q0 : Nat) (he : cin[q0]? = some (b, .inr (ci, fs))) (hc : vwCl[ci]? = some (Cn, T, N)) (hn : As.length = n) (hst : st = As.reverse ++ .ref b :: rest) (hroom : (rest.map fun v => v.category).sum ≤ 8)
    (hd : decode cc pc = .ok (.invokevirtual index, 3)) (hf : cells + rm.cells ≤ R.cells ∧ slots + rm.slots ≤ R.slots)
    (kk : ∀ u, rG p l e R s m args below meth c E A nL (cells + rm.cells) (slots + rm.slots) Q (w' u) (pc + 3) lv (r.toList ++ rest)) : rG p l e R s m args below meth c E A nL cells slots Q ws pc lv st := by
  intro H locs la hP hD hS hl
  subst hst
  have hPc := hP.sub isC (sel_map hC)
  have hDc := hD.sub isC hnC hC
  exact rg_after C hP hD hS hl (va_runV (As := As) (rest := rest) C.1 (M H.size) cw ⟨rP_blind E cin H.size _, va_recv C.2.1 hPc hc he, fun U hU hW => ⟨rfl, by rw [hU], va_K.moved hW.alike C.2.1, by rw [hU]; exact hPc, hDc.weaken (fun _ _ _ _ => trivial)⟩⟩ rfl hn hl.1 rfl (lv_room hroom) hd hf) isC isR ps hC hR hnR hdis hps hnp kk
theorem rg_callS (C : rC p s m args c E A nL cc Ts own) (M : rM l y wsy rm E cin As r cout) (cw : CallB R s args own index y bytes maxL ret wsy rm rm.cells rm.slots n ∧ (Cond.static y).before args s = true)
    (isC isR ps : List Nat) (hC : isC.map (fun i => ws[i]?) = cin.map some) (hR : isR.map (fun i => ws[i]?) = wr.map some) (hnC : va_nd isC = true) (hnR : va_nd isR = true) (hdis : ∀ i ∈ isR, i ∉ isC)
    (hps : ∀ u, ps.map (fun i => (wr ++ cout u)[i]?) = (w' u).map some) (hnp : va_nd ps = true)
    (hn : As.length = n) (hst : st = As.reverse ++ rest) (hroom : (rest.map fun v => v.category).sum ≤ 8)
    (hd : decode cc pc = .ok (.invokestatic index, 3)) (hf : cells + rm.cells ≤ R.cells ∧ slots + rm.slots ≤ R.slots)
    (kk : ∀ u, rG p l e R s m args below meth c E A nL (cells + rm.cells) (slots + rm.slots) Q (w' u) (pc + 3) lv (r.toList ++ rest)) : rG p l e R s m args below meth c E A nL cells slots Q ws pc lv st := by
  intro H locs la hP hD hS hl
  subst hst
  have hPc := hP.sub isC (sel_map hC)
  have hDc := hD.sub isC hnC hC
  exact rg_after C hP hD hS hl (va_runS (As := As) (rest := rest) C.1 (M H.size) cw ⟨rP_blind E cin H.size _, fun U hU hW => ⟨rfl, by rw [hU], va_K.moved hW.alike C.2.1, by rw [hU]; exact hPc, hDc.weaken (fun _ _ _ _ => trivial)⟩⟩ rfl hn hl.1 rfl (lv_room hroom) hd hf) isC isR ps hC hR hnR hdis hps hnp kk
theorem rg_callI (C : rC p s m args c E A nL cc Ts own) (M : rM l y wsy rm E cin (.ref b :: As) r cout) (cw : CallB R s args own index y bytes maxL none wsy rm rm.cells rm.slots n ∧ y.name = "<init>" ∧ (Cond.instanceMethod y).before args s = true)
    (isC isR ps : List Nat) (hC : isC.map (fun i => ws[i]?) = cin.map some) (hR : isR.map (fun i => ws[i]?) = wr.map some) (hnC : va_nd isC = true) (hnR : va_nd isR = true) (hdis : ∀ i ∈ isR, i ∉ isC)
    (hps : ∀ u, ps.map (fun i => (wr ++ cout u)[i]?) = (w' u).map some) (hnp : va_nd ps = true)
    (hn : As.length = n) (hst : st = As.reverse ++ .ref b :: rest) (hroom : (rest.map fun v => v.category).sum ≤ 8)
    (hd : decode cc pc = .ok (.invokespecial index, 3)) (hf : cells + rm.cells ≤ R.cells ∧ slots + rm.slots ≤ R.slots)
    (kk : ∀ u, rG p l e R s m args below meth c E A nL (cells + rm.cells) (slots + rm.slots) Q (w' u) (pc + 3) lv (r.toList ++ rest)) : rG p l e R s m args below meth c E A nL cells slots Q ws pc lv st := by
  intro H locs la hP hD hS hl
  subst hst
  have hPc := hP.sub isC (sel_map hC)
  have hDc := hD.sub isC hnC hC
  exact rg_after C hP hD hS hl (va_runI (As := As) (rest := rest) C.1 (M H.size) cw ⟨rP_blind E cin H.size _, fun U hU hW => ⟨rfl, by rw [hU], va_K.moved hW.alike C.2.1, by rw [hU]; exact hPc, hDc.weaken (fun _ _ _ _ => trivial)⟩⟩ rfl hn hl.1 rfl (lv_room hroom) hd hf) isC isR ps hC hR hnR hdis hps hnp kk
/-! the words of a call, out of the shared ones -/
theorem gAll {big ws : List Cond} (hb : ∀ w ∈ gW, w ∈ big) (hw : ∀ w ∈ ws, w ∈ gW) : GoodIn big ws := fun w h => ⟨hb w (hw w h), good_of_word (gW_good (hw w h))⟩
/-- what the tables say of a method that objects have, and of a static one -/
def rMV (y : MethodName) (Cn : String) (bytes : ByteArray) (maxL : Nat) (ret : Option FieldType) (n : Nat) : Prop := Cond.instanceMethod y ∈ gW ∧ Cond.selects Cn y y ∈ gW ∧ Cond.initialized Cn ∈ gW ∧ Cond.code y bytes maxL ret ∈ gW ∧ (y.cls = Cn ∧ y.cls ≠ "java/lang/invoke/MethodHandle" ∧ y.cls ≠ "java/lang/invoke/VarHandle" ∧ (parseMethodDescriptor y.desc).map (fun d => d.parameters.length) = some n)
def rMS (y : MethodName) (bytes : ByteArray) (maxL : Nat) (ret : Option FieldType) (n : Nat) : Prop := Cond.static y ∈ gW ∧ Cond.initialized y.cls ∈ gW ∧ Cond.code y bytes maxL ret ∈ gW ∧ (y.cls ≠ "java/lang/invoke/MethodHandle" ∧ y.cls ≠ "java/lang/invoke/VarHandle" ∧ (parseMethodDescriptor y.desc).map (fun d => d.parameters.length) = some n)
theorem rcwV {Cn : String} (C : rC p s m args c E A nL cc Ts own) (hM : rMV y Cn bytes maxL ret n) (hl : Cond.methodLink own index y ∈ gW) (hR : rm.frames + 1 ≤ R.frames ∧ 8 + (maxL + 11) + rm.locals ≤ R.locals) : CallW R s args own Cn index y bytes maxL ret (Cond.code y bytes maxL ret :: gW) rm rm.cells rm.slots n := by
  obtain ⟨h1, h2, h3, h4, h5⟩ := hM
  refine cwV n C.1.2.2.2.2 (gAll C.2.2.2 fun w h => ?_) rfl rfl rfl h5 hR
  simp only [wsV, List.mem_append, List.mem_cons, List.not_mem_nil, or_false] at h
  rcases h with (rfl | rfl | rfl | rfl) | rfl | h
  · exact hl
  · exact h1
  · exact h2
  · exact h3
  · exact h4
  · exact h
theorem rcwS (C : rC p s m args c E A nL cc Ts own) (hM : rMS y bytes maxL ret n) (hl : Cond.methodLink own index y ∈ gW) (hR : rm.frames + 1 ≤ R.frames ∧ 8 + (maxL + 11) + rm.locals ≤ R.locals) : CallB R s args own index y bytes maxL ret (Cond.code y bytes maxL ret :: gW) rm rm.cells rm.slots n ∧ (Cond.static y).before args s = true := by
  obtain ⟨h1, h2, h3, h4⟩ := hM
  refine va_cwS n C.1.2.2.2.2 (gAll C.2.2.2 fun w h => ?_) rfl rfl rfl h4 hR
  simp only [va_wsS, List.mem_append, List.mem_cons, List.not_mem_nil, or_false] at h
  rcases h with (rfl | rfl | rfl) | rfl | h
  · exact hl
  · exact h1
  · exact h2
  · exact h3
  · exact h
end RV2
end
