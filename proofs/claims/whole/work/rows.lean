section
-- ===== PART A: goes FIRST, ahead of the names: the tables' words, and 'selects' of the private methods out of them =====
/-- a private method of a class that the tables say can be made, by its rows of tables_1 -/
def lw_okq (q : MethodName × Nat) : Prop := (q.1.cls ≠ "java/lang/invoke/MethodHandle" ∧ q.1.cls ≠ "java/lang/invoke/VarHandle") ∧ Cond.instantiable q.1.cls q.2 ∈ tables_1 ∧ Cond.privateMethod q.1 ∈ tables_1 ∧ Cond.instanceMethod q.1 ∈ tables_1
theorem lw_p0 : lw_okq (⟨"CallWalker$Walk", "op\x65n", "(LCallWalker$Behaviour;III)LCallWalker$Frame;"⟩, 7) := ⟨⟨by decide +kernel, by decide +kernel⟩, List.mem_of_getElem? (i := 107) (by decide +kernel), List.mem_of_getElem? (i := 267) (by decide +kernel), List.mem_of_getElem? (i := 268) (by decide +kernel)⟩
theorem lw_p1 : lw_okq (⟨"CallWalker$Walk", "advance", "(LCallWalker$Frame;)V"⟩, 7) := ⟨⟨by decide +kernel, by decide +kernel⟩, List.mem_of_getElem? (i := 107) (by decide +kernel), List.mem_of_getElem? (i := 294) (by decide +kernel), List.mem_of_getElem? (i := 295) (by decide +kernel)⟩
theorem lw_p2 : lw_okq (⟨"CallWalker$Walk", "endWell", "(J)V"⟩, 7) := ⟨⟨by decide +kernel, by decide +kernel⟩, List.mem_of_getElem? (i := 107) (by decide +kernel), List.mem_of_getElem? (i := 302) (by decide +kernel), List.mem_of_getElem? (i := 303) (by decide +kernel)⟩
theorem lw_p3 : lw_okq (⟨"CallWalker$Walk", "fail", "(I)V"⟩, 7) := ⟨⟨by decide +kernel, by decide +kernel⟩, List.mem_of_getElem? (i := 107) (by decide +kernel), List.mem_of_getElem? (i := 306) (by decide +kernel), List.mem_of_getElem? (i := 307) (by decide +kernel)⟩
theorem lw_p4 : lw_okq (⟨"CallWalker$Walk", "undoTo", "(I)V"⟩, 7) := ⟨⟨by decide +kernel, by decide +kernel⟩, List.mem_of_getElem? (i := 107) (by decide +kernel), List.mem_of_getElem? (i := 310) (by decide +kernel), List.mem_of_getElem? (i := 311) (by decide +kernel)⟩
theorem lw_p5 : lw_okq (⟨"CallWalker$Walk", "perform", "(LCallWalker$Frame;II)I"⟩, 7) := ⟨⟨by decide +kernel, by decide +kernel⟩, List.mem_of_getElem? (i := 107) (by decide +kernel), List.mem_of_getElem? (i := 326) (by decide +kernel), List.mem_of_getElem? (i := 327) (by decide +kernel)⟩
theorem lw_p6 : lw_okq (⟨"CallWalker$Walk", "putLeaf", "(LCallWalker$Frame;I)I"⟩, 7) := ⟨⟨by decide +kernel, by decide +kernel⟩, List.mem_of_getElem? (i := 107) (by decide +kernel), List.mem_of_getElem? (i := 343) (by decide +kernel), List.mem_of_getElem? (i := 344) (by decide +kernel)⟩
theorem lw_p7 : lw_okq (⟨"CallWalker$Walk", "changeLeaf", "(LCallWalker$Frame;I)I"⟩, 7) := ⟨⟨by decide +kernel, by decide +kernel⟩, List.mem_of_getElem? (i := 107) (by decide +kernel), List.mem_of_getElem? (i := 350) (by decide +kernel), List.mem_of_getElem? (i := 351) (by decide +kernel)⟩
theorem lw_p8 : lw_okq (⟨"CallWalker$Rows", "elementFailure", "(IIJJ)I"⟩, 3) := ⟨⟨by decide +kernel, by decide +kernel⟩, List.mem_of_getElem? (i := 140) (by decide +kernel), List.mem_of_getElem? (i := 403) (by decide +kernel), List.mem_of_getElem? (i := 404) (by decide +kernel)⟩
theorem lw_p9 : lw_okq (⟨"CallWalker$Rows", "lengthOf", "(J)I"⟩, 3) := ⟨⟨by decide +kernel, by decide +kernel⟩, List.mem_of_getElem? (i := 140) (by decide +kernel), List.mem_of_getElem? (i := 407) (by decide +kernel), List.mem_of_getElem? (i := 408) (by decide +kernel)⟩
theorem lw_p10 : lw_okq (⟨"CallWalker$Rows", "placeOf", "(JJ)I"⟩, 3) := ⟨⟨by decide +kernel, by decide +kernel⟩, List.mem_of_getElem? (i := 140) (by decide +kernel), List.mem_of_getElem? (i := 412) (by decide +kernel), List.mem_of_getElem? (i := 413) (by decide +kernel)⟩
theorem lw_p11 : lw_okq (⟨"CallWalker$Rows", "hasRange", "(JJJ)Z"⟩, 3) := ⟨⟨by decide +kernel, by decide +kernel⟩, List.mem_of_getElem? (i := 140) (by decide +kernel), List.mem_of_getElem? (i := 429) (by decide +kernel), List.mem_of_getElem? (i := 430) (by decide +kernel)⟩
theorem lw_p12 : lw_okq (⟨"CallWalker$Walk", "giveBack", "(LCallWalker$Pile;)I"⟩, 7) := ⟨⟨by decide +kernel, by decide +kernel⟩, List.mem_of_getElem? (i := 107) (by decide +kernel), List.mem_of_getElem? (i := 442) (by decide +kernel), List.mem_of_getElem? (i := 443) (by decide +kernel)⟩
theorem lw_p13 : lw_okq (⟨"CallWalker$Walk", "tellEvent", "(LCallWalker$Frame;)I"⟩, 7) := ⟨⟨by decide +kernel, by decide +kernel⟩, List.mem_of_getElem? (i := 107) (by decide +kernel), List.mem_of_getElem? (i := 446) (by decide +kernel), List.mem_of_getElem? (i := 447) (by decide +kernel)⟩
theorem lw_p14 : lw_okq (⟨"CallWalker$Walk", "callOther", "(LCallWalker$Frame;I)I"⟩, 7) := ⟨⟨by decide +kernel, by decide +kernel⟩, List.mem_of_getElem? (i := 107) (by decide +kernel), List.mem_of_getElem? (i := 454) (by decide +kernel), List.mem_of_getElem? (i := 455) (by decide +kernel)⟩
theorem lw_p15 : lw_okq (⟨"CallWalker$Walk", "callFailure", "(IJI)I"⟩, 7) := ⟨⟨by decide +kernel, by decide +kernel⟩, List.mem_of_getElem? (i := 107) (by decide +kernel), List.mem_of_getElem? (i := 458) (by decide +kernel), List.mem_of_getElem? (i := 459) (by decide +kernel)⟩
def lw_privs_1 : List (MethodName × Nat) := [(⟨"CallWalker$Walk", "op\x65n", "(LCallWalker$Behaviour;III)LCallWalker$Frame;"⟩, 7), (⟨"CallWalker$Walk", "advance", "(LCallWalker$Frame;)V"⟩, 7), (⟨"CallWalker$Walk", "endWell", "(J)V"⟩, 7), (⟨"CallWalker$Walk", "fail", "(I)V"⟩, 7), (⟨"CallWalker$Walk", "undoTo", "(I)V"⟩, 7), (⟨"CallWalker$Walk", "perform", "(LCallWalker$Frame;II)I"⟩, 7), (⟨"CallWalker$Walk", "putLeaf", "(LCallWalker$Frame;I)I"⟩, 7), (⟨"CallWalker$Walk", "changeLeaf", "(LCallWalker$Frame;I)I"⟩, 7), (⟨"CallWalker$Rows", "elementFailure", "(IIJJ)I"⟩, 3), (⟨"CallWalker$Rows", "lengthOf", "(J)I"⟩, 3), (⟨"CallWalker$Rows", "placeOf", "(JJ)I"⟩, 3), (⟨"CallWalker$Rows", "hasRange", "(JJJ)Z"⟩, 3), (⟨"CallWalker$Walk", "giveBack", "(LCallWalker$Pile;)I"⟩, 7), (⟨"CallWalker$Walk", "tellEvent", "(LCallWalker$Frame;)I"⟩, 7), (⟨"CallWalker$Walk", "callOther", "(LCallWalker$Frame;I)I"⟩, 7), (⟨"CallWalker$Walk", "callFailure", "(IJI)I"⟩, 7)]
theorem lw_r1 : ∀ q ∈ lw_privs_1, lw_okq q := List.forall_mem_cons.mpr ⟨lw_p0, List.forall_mem_cons.mpr ⟨lw_p1, List.forall_mem_cons.mpr ⟨lw_p2, List.forall_mem_cons.mpr ⟨lw_p3, List.forall_mem_cons.mpr ⟨lw_p4, List.forall_mem_cons.mpr ⟨lw_p5, List.forall_mem_cons.mpr ⟨lw_p6, List.forall_mem_cons.mpr ⟨lw_p7, List.forall_mem_cons.mpr ⟨lw_p8, List.forall_mem_cons.mpr ⟨lw_p9, List.forall_mem_cons.mpr ⟨lw_p10, List.forall_mem_cons.mpr ⟨lw_p11, List.forall_mem_cons.mpr ⟨lw_p12, List.forall_mem_cons.mpr ⟨lw_p13, List.forall_mem_cons.mpr ⟨lw_p14, List.forall_mem_cons.mpr ⟨lw_p15, fun _ h => absurd h List.not_mem_nil⟩⟩⟩⟩⟩⟩⟩⟩⟩⟩⟩⟩⟩⟩⟩⟩
theorem lw_p16 : lw_okq (⟨"CallWalker$Walk", "isUnderWay", "(I)Z"⟩, 7) := ⟨⟨by decide +kernel, by decide +kernel⟩, List.mem_of_getElem? (i := 107) (by decide +kernel), List.mem_of_getElem? (i := 463) (by decide +kernel), List.mem_of_getElem? (i := 464) (by decide +kernel)⟩
theorem lw_p17 : lw_okq (⟨"java/lang/Throwable", "fillInStackTrace", "(I)Ljava/lang/Throwable;"⟩, 6) := ⟨⟨by decide +kernel, by decide +kernel⟩, List.mem_of_getElem? (i := 573) (by decide +kernel), List.mem_of_getElem? (i := 571) (by decide +kernel), List.mem_of_getElem? (i := 572) (by decide +kernel)⟩
theorem lw_p18 : lw_okq (⟨"CallWalkerModel", "isBehaviour", "(II)Z"⟩, 19) := ⟨⟨by decide +kernel, by decide +kernel⟩, List.mem_of_getElem? (i := 603) (by decide +kernel), List.mem_of_getElem? (i := 677) (by decide +kernel), List.mem_of_getElem? (i := 678) (by decide +kernel)⟩
theorem lw_p19 : lw_okq (⟨"CallWalkerModel", "isContract", "(I)Z"⟩, 19) := ⟨⟨by decide +kernel, by decide +kernel⟩, List.mem_of_getElem? (i := 603) (by decide +kernel), List.mem_of_getElem? (i := 681) (by decide +kernel), List.mem_of_getElem? (i := 682) (by decide +kernel)⟩
theorem lw_p20 : lw_okq (⟨"CallWalkerModel", "frame", "(IIII)LCallWalkerModel$Frame;"⟩, 19) := ⟨⟨by decide +kernel, by decide +kernel⟩, List.mem_of_getElem? (i := 603) (by decide +kernel), List.mem_of_getElem? (i := 704) (by decide +kernel), List.mem_of_getElem? (i := 705) (by decide +kernel)⟩
theorem lw_p21 : lw_okq (⟨"CallWalkerModel", "ran", "(LCallWalkerModel$Frame;J)I"⟩, 19) := ⟨⟨by decide +kernel, by decide +kernel⟩, List.mem_of_getElem? (i := 603) (by decide +kernel), List.mem_of_getElem? (i := 787) (by decide +kernel), List.mem_of_getElem? (i := 788) (by decide +kernel)⟩
theorem lw_p22 : lw_okq (⟨"CallWalkerModel", "goes", "(LCallWalkerModel$Frame;)I"⟩, 19) := ⟨⟨by decide +kernel, by decide +kernel⟩, List.mem_of_getElem? (i := 603) (by decide +kernel), List.mem_of_getElem? (i := 793) (by decide +kernel), List.mem_of_getElem? (i := 794) (by decide +kernel)⟩
theorem lw_p23 : lw_okq (⟨"CallWalkerModel", "done", "(LCallWalkerModel$Frame;)I"⟩, 19) := ⟨⟨by decide +kernel, by decide +kernel⟩, List.mem_of_getElem? (i := 603) (by decide +kernel), List.mem_of_getElem? (i := 797) (by decide +kernel), List.mem_of_getElem? (i := 798) (by decide +kernel)⟩
theorem lw_p24 : lw_okq (⟨"CallWalkerModel", "reckoned", "(LCallWalkerModel$Frame;II)I"⟩, 19) := ⟨⟨by decide +kernel, by decide +kernel⟩, List.mem_of_getElem? (i := 603) (by decide +kernel), List.mem_of_getElem? (i := 804) (by decide +kernel), List.mem_of_getElem? (i := 805) (by decide +kernel)⟩
theorem lw_p25 : lw_okq (⟨"CallWalkerModel", "rowed", "(LCallWalkerModel$Frame;II)I"⟩, 19) := ⟨⟨by decide +kernel, by decide +kernel⟩, List.mem_of_getElem? (i := 603) (by decide +kernel), List.mem_of_getElem? (i := 819) (by decide +kernel), List.mem_of_getElem? (i := 820) (by decide +kernel)⟩
theorem lw_p26 : lw_okq (⟨"CallWalkerModel", "went", "(LCallWalkerModel$Frame;III)I"⟩, 19) := ⟨⟨by decide +kernel, by decide +kernel⟩, List.mem_of_getElem? (i := 603) (by decide +kernel), List.mem_of_getElem? (i := 831) (by decide +kernel), List.mem_of_getElem? (i := 832) (by decide +kernel)⟩
theorem lw_p27 : lw_okq (⟨"CallWalkerModel", "calls", "(LCallWalkerModel$Frame;II)I"⟩, 19) := ⟨⟨by decide +kernel, by decide +kernel⟩, List.mem_of_getElem? (i := 603) (by decide +kernel), List.mem_of_getElem? (i := 835) (by decide +kernel), List.mem_of_getElem? (i := 836) (by decide +kernel)⟩
def lw_privs_2 : List (MethodName × Nat) := [(⟨"CallWalker$Walk", "isUnderWay", "(I)Z"⟩, 7), (⟨"java/lang/Throwable", "fillInStackTrace", "(I)Ljava/lang/Throwable;"⟩, 6), (⟨"CallWalkerModel", "isBehaviour", "(II)Z"⟩, 19), (⟨"CallWalkerModel", "isContract", "(I)Z"⟩, 19), (⟨"CallWalkerModel", "frame", "(IIII)LCallWalkerModel$Frame;"⟩, 19), (⟨"CallWalkerModel", "ran", "(LCallWalkerModel$Frame;J)I"⟩, 19), (⟨"CallWalkerModel", "goes", "(LCallWalkerModel$Frame;)I"⟩, 19), (⟨"CallWalkerModel", "done", "(LCallWalkerModel$Frame;)I"⟩, 19), (⟨"CallWalkerModel", "reckoned", "(LCallWalkerModel$Frame;II)I"⟩, 19), (⟨"CallWalkerModel", "rowed", "(LCallWalkerModel$Frame;II)I"⟩, 19), (⟨"CallWalkerModel", "went", "(LCallWalkerModel$Frame;III)I"⟩, 19), (⟨"CallWalkerModel", "calls", "(LCallWalkerModel$Frame;II)I"⟩, 19)]
theorem lw_r2 : ∀ q ∈ lw_privs_2, lw_okq q := List.forall_mem_cons.mpr ⟨lw_p16, List.forall_mem_cons.mpr ⟨lw_p17, List.forall_mem_cons.mpr ⟨lw_p18, List.forall_mem_cons.mpr ⟨lw_p19, List.forall_mem_cons.mpr ⟨lw_p20, List.forall_mem_cons.mpr ⟨lw_p21, List.forall_mem_cons.mpr ⟨lw_p22, List.forall_mem_cons.mpr ⟨lw_p23, List.forall_mem_cons.mpr ⟨lw_p24, List.forall_mem_cons.mpr ⟨lw_p25, List.forall_mem_cons.mpr ⟨lw_p26, List.forall_mem_cons.mpr ⟨lw_p27, fun _ h => absurd h List.not_mem_nil⟩⟩⟩⟩⟩⟩⟩⟩⟩⟩⟩⟩
def lw_privs : List (MethodName × Nat) := lw_privs_1 ++ (lw_privs_2)
def lw_tbl : List Cond := k2_sels lw_privs ++ tables_1
theorem lw_privs_ok : ∀ q ∈ lw_privs, lw_okq q := by
  show ∀ q ∈ lw_privs_1 ++ (lw_privs_2), lw_okq q
  exact List.forall_mem_append.mpr ⟨lw_r1, lw_r2⟩
end
section
/-! ===== BEGIN words of one list among another's, by their places ===== -/
theorem goodIn_r {big : List Cond} (ws : List Cond) (ps : List Nat) (hp : ws = ps.filterMap (fun i => big[i]?)) (h : ws.all goodWord = true) : GoodIn big ws := by
  intro w hw
  have h1 := List.all_eq_true.mp h w hw
  rw [hp] at hw
  obtain ⟨i, -, hi⟩ := List.mem_filterMap.mp hw
  have hm : w ∈ big := by first | exact List.mem_of_getElem? hi | exact List.getElem?_mem hi
  exact ⟨hm, good_of_word h1⟩
theorem goodIn_app {big a b : List Cond} (ha : GoodIn big a) (hb : GoodIn big b) : GoodIn big (a ++ b) := fun w h => (List.mem_append.mp h).elim (ha w) (hb w)
theorem goodIn_ca {big a b : List Cond} {c : Cond} (ha : GoodIn big (c :: a)) (hb : GoodIn big b) : GoodIn big (c :: (a ++ b)) := fun w h => (List.mem_cons.mp h).elim (fun e => ha w (List.mem_cons.mpr (Or.inl e))) (fun h => (List.mem_append.mp h).elim (fun h => ha w (List.mem_cons.mpr (Or.inr h))) (hb w))
theorem goodIn_sub {big ws : List Cond} (hm : ∀ w ∈ ws, w ∈ big) (h : ws.all goodWord = true) : GoodIn big ws := fun w hw => ⟨hm w hw, good_of_word (List.all_eq_true.mp h w hw)⟩
/-! ===== END ===== -/
def vx_no (w : Cond) : Bool := decide (w ≠ .isRef (.static Bundle.tN "UNASSIGNED_STACK" Bundle.steD)) && decide (w ≠ .isRef (.static Bundle.tN "SUPPRESSED_SENTINEL" Bundle.listD)) && decide (w ≠ .laysStatic Bundle.tN "UNASSIGNED_STACK" Bundle.steD) && decide (w ≠ .laysStatic Bundle.tN "SUPPRESSED_SENTINEL" Bundle.listD)
def vx_at0 (own : String) (ic : Nat) (X : String) (names : List String) : List Cond := (Bundle.ownAtoms0 own ic X names).filter vx_no
def vx_atS (own : String) (ic : Nat) (X : String) (names : List String) : List Cond := (Bundle.ownAtoms own ic X names).filter vx_no
end
section
/-! ===== BEGIN printed: names, fields, word lists, decode rows ===== -/
def RX0 : String := "CallWalker$Behaviour"
def TX0 : u_T := fun k => match k with
  | 0 => ("CallWalker$Behaviour", "codes", "[I", true)
  | 1 => ("CallWalker$Behaviour", "numbers", "[I", true)
  | _ => ("CallWalker$Behaviour", "count", "I", false)
def tyX0 : Nat → FieldType := fun k => match k with
  | 0 => .array .int
  | 1 => .array .int
  | _ => .int
abbrev wsX00 : List Cond := u_ws RX0 TX0 3
theorem nmX0 : ∀ a, a < 3 → ∀ b, b < 3 → a ≠ b → (TX0 a).2.1 ≠ (TX0 b).2.1 := by decide +kernel
theorem tyX0_ok : ∀ k, k < 3 → parseFieldDescriptor (TX0 k).2.2.1 = some (tyX0 k) := by decide +kernel
abbrev cX0_init : ByteArray := prog_2_method_1_code
def yX0_init : MethodName := ⟨RX0, "<init>", "()V"⟩
abbrev cX0_append : ByteArray := prog_2_method_2_code
def yX0_append : MethodName := ⟨RX0, "append", "(II)Z"⟩
abbrev cX0_hasPlace : ByteArray := prog_2_method_3_code
def yX0_hasPlace : MethodName := ⟨RX0, "hasPlace", "(I)Z"⟩
def RX1 : String := "CallWalker$Book"
def TX1 : u_T := fun k => match k with
  | 0 => ("CallWalker$Book", "behaviours", "[LCallWalker$Behaviour;", true)
  | _ => ("CallWalker$Book", "guarded", "[Z", true)
def tyX1 : Nat → FieldType := fun k => match k with
  | 0 => .array (.object "CallWalker$Behaviour")
  | _ => .array .boolean
abbrev wsX10 : List Cond := u_ws RX1 TX1 2
theorem nmX1 : ∀ a, a < 2 → ∀ b, b < 2 → a ≠ b → (TX1 a).2.1 ≠ (TX1 b).2.1 := by decide +kernel
theorem tyX1_ok : ∀ k, k < 2 → parseFieldDescriptor (TX1 k).2.2.1 = some (tyX1 k) := by decide +kernel
abbrev cX1_init : ByteArray := prog_3_method_1_code
def yX1_init : MethodName := ⟨RX1, "<init>", "()V"⟩
abbrev cX1_find : ByteArray := prog_3_method_2_code
def yX1_find : MethodName := ⟨RX1, "find", "(II)LCallWalker$Behaviour;"⟩
def RX2 : String := "CallWalker$Frame"
def TX2 : u_T := fun k => match k with
  | 0 => ("CallWalker$Frame", "pile", "LCallWalker$Pile;", true)
  | 1 => ("CallWalker$Frame", "rows", "LCallWalker$Rows;", true)
  | 2 => ("CallWalker$Frame", "handlerSteps", "[I", true)
  | 3 => ("CallWalker$Frame", "handlerHeights", "[I", true)
  | 4 => ("CallWalker$Frame", "handlers", "I", false)
  | 5 => ("CallWalker$Frame", "behaviour", "LCallWalker$Behaviour;", false)
  | 6 => ("CallWalker$Frame", "contract", "I", false)
  | 7 => ("CallWalker$Frame", "caller", "I", false)
  | 8 => ("CallWalker$Frame", "next", "I", false)
  | _ => ("CallWalker$Frame", "stop", "I", false)
def tyX2 : Nat → FieldType := fun k => match k with
  | 0 => .object "CallWalker$Pile"
  | 1 => .object "CallWalker$Rows"
  | 2 => .array .int
  | 3 => .array .int
  | 4 => .int
  | 5 => .object "CallWalker$Behaviour"
  | 6 => .int
  | 7 => .int
  | 8 => .int
  | _ => .int
abbrev wsX20 : List Cond := u_ws RX2 TX2 10
theorem nmX2 : ∀ a, a < 10 → ∀ b, b < 10 → a ≠ b → (TX2 a).2.1 ≠ (TX2 b).2.1 := by decide +kernel
theorem tyX2_ok : ∀ k, k < 10 → parseFieldDescriptor (TX2 k).2.2.1 = some (tyX2 k) := by decide +kernel
abbrev cX2_init : ByteArray := prog_4_method_1_code
def yX2_init : MethodName := ⟨RX2, "<init>", "(LCallWalker$Behaviour;)V"⟩
abbrev cX2_begin : ByteArray := prog_4_method_2_code
def yX2_begin : MethodName := ⟨RX2, "begin", "(LCallWalker$Behaviour;III)V"⟩
abbrev cX2_isAtEnd : ByteArray := prog_4_method_3_code
def yX2_isAtEnd : MethodName := ⟨RX2, "isAtEnd", "()Z"⟩
abbrev cX2_jump : ByteArray := prog_4_method_4_code
def yX2_jump : MethodName := ⟨RX2, "jump", "(I)I"⟩
abbrev cX2_addHandler : ByteArray := prog_4_method_5_code
def yX2_addHandler : MethodName := ⟨RX2, "addHandler", "(I)I"⟩
abbrev cX2_dropHandler : ByteArray := prog_4_method_6_code
def yX2_dropHandler : MethodName := ⟨RX2, "dropHandler", "()I"⟩
abbrev cX2_handle : ByteArray := prog_4_method_7_code
def yX2_handle : MethodName := ⟨RX2, "handle", "(I)Z"⟩
def RX3 : String := "CallWalker$Ledger"
def TX3 : u_T := fun k => match k with
  | 0 => ("CallWalker$Ledger", "leaves", "[J", true)
  | 1 => ("CallWalker$Ledger", "balances", "[J", true)
  | 2 => ("CallWalker$Ledger", "eventContracts", "[I", true)
  | 3 => ("CallWalker$Ledger", "eventNumbers", "[J", true)
  | 4 => ("CallWalker$Ledger", "eventCount", "I", false)
  | 5 => ("CallWalker$Ledger", "keptLeaves", "[[J", true)
  | 6 => ("CallWalker$Ledger", "keptBalances", "[[J", true)
  | _ => ("CallWalker$Ledger", "keptCounts", "[I", true)
def tyX3 : Nat → FieldType := fun k => match k with
  | 0 => .array .long
  | 1 => .array .long
  | 2 => .array .int
  | 3 => .array .long
  | 4 => .int
  | 5 => .array (.array .long)
  | 6 => .array (.array .long)
  | _ => .array .int
abbrev wsX30 : List Cond := u_ws RX3 TX3 8
theorem nmX3 : ∀ a, a < 8 → ∀ b, b < 8 → a ≠ b → (TX3 a).2.1 ≠ (TX3 b).2.1 := by decide +kernel
theorem tyX3_ok : ∀ k, k < 8 → parseFieldDescriptor (TX3 k).2.2.1 = some (tyX3 k) := by decide +kernel
abbrev cX3_init : ByteArray := prog_5_method_1_code
def yX3_init : MethodName := ⟨RX3, "<init>", "()V"⟩
abbrev cX3_hasEvent : ByteArray := prog_5_method_2_code
def yX3_hasEvent : MethodName := ⟨RX3, "hasEvent", "(I)Z"⟩
abbrev cX3_addEvent : ByteArray := prog_5_method_3_code
def yX3_addEvent : MethodName := ⟨RX3, "addEvent", "(IJ)Z"⟩
abbrev cX3_canMove : ByteArray := prog_5_method_4_code
def yX3_canMove : MethodName := ⟨RX3, "canMove", "(IIJ)Z"⟩
abbrev cX3_move : ByteArray := prog_5_method_5_code
def yX3_move : MethodName := ⟨RX3, "move", "(IIJ)V"⟩
abbrev cX3_keep : ByteArray := prog_5_method_6_code
def yX3_keep : MethodName := ⟨RX3, "keep", "(I)V"⟩
abbrev cX3_restore : ByteArray := prog_5_method_7_code
def yX3_restore : MethodName := ⟨RX3, "restore", "(I)V"⟩
def RX4 : String := "CallWalker$Pile"
def TX4 : u_T := fun k => match k with
  | 0 => ("CallWalker$Pile", "kinds", "[I", true)
  | 1 => ("CallWalker$Pile", "numbers", "[J", true)
  | 2 => ("CallWalker$Pile", "height", "I", false)
  | _ => ("CallWalker$Pile", "heightBefore", "I", false)
def tyX4 : Nat → FieldType := fun k => match k with
  | 0 => .array .int
  | 1 => .array .long
  | 2 => .int
  | _ => .int
abbrev wsX40 : List Cond := u_ws RX4 TX4 4
theorem nmX4 : ∀ a, a < 4 → ∀ b, b < 4 → a ≠ b → (TX4 a).2.1 ≠ (TX4 b).2.1 := by decide +kernel
theorem tyX4_ok : ∀ k, k < 4 → parseFieldDescriptor (TX4 k).2.2.1 = some (tyX4 k) := by decide +kernel
abbrev cX4_init : ByteArray := prog_6_method_1_code
def yX4_init : MethodName := ⟨RX4, "<init>", "()V"⟩
abbrev cX4_allows : ByteArray := prog_6_method_2_code
def yX4_allows : MethodName := ⟨RX4, "allows", "(II)Z"⟩
abbrev cX4_take : ByteArray := prog_6_method_3_code
def yX4_take : MethodName := ⟨RX4, "take", "(I)V"⟩
abbrev cX4_tookKind : ByteArray := prog_6_method_4_code
def yX4_tookKind : MethodName := ⟨RX4, "tookKind", "(I)I"⟩
abbrev cX4_took : ByteArray := prog_6_method_5_code
def yX4_took : MethodName := ⟨RX4, "took", "(I)J"⟩
abbrev cX4_tookNumber : ByteArray := prog_6_method_6_code
def yX4_tookNumber : MethodName := ⟨RX4, "tookNumber", "(I)Z"⟩
abbrev cX4_put : ByteArray := prog_6_method_7_code
def yX4_put : MethodName := ⟨RX4, "put", "(IJ)I"⟩
abbrev cX4_putNumber : ByteArray := prog_6_method_8_code
def yX4_putNumber : MethodName := ⟨RX4, "putNumber", "(J)I"⟩
abbrev cX4_freeRow : ByteArray := prog_6_method_9_code
def yX4_freeRow : MethodName := ⟨RX4, "freeRow", "()I"⟩
def RX5 : String := "CallWalker$Rows"
def TX5 : u_T := fun k => match k with
  | 0 => ("CallWalker$Rows", "pile", "LCallWalker$Pile;", true)
  | 1 => ("CallWalker$Rows", "elements", "[J", true)
  | _ => ("CallWalker$Rows", "lengths", "[I", true)
def tyX5 : Nat → FieldType := fun k => match k with
  | 0 => .object "CallWalker$Pile"
  | 1 => .array .long
  | _ => .array .int
abbrev wsX50 : List Cond := u_ws RX5 TX5 3
theorem nmX5 : ∀ a, a < 3 → ∀ b, b < 3 → a ≠ b → (TX5 a).2.1 ≠ (TX5 b).2.1 := by decide +kernel
theorem tyX5_ok : ∀ k, k < 3 → parseFieldDescriptor (TX5 k).2.2.1 = some (tyX5 k) := by decide +kernel
abbrev cX5_init : ByteArray := prog_7_method_1_code
def yX5_init : MethodName := ⟨RX5, "<init>", "(LCallWalker$Pile;)V"⟩
abbrev cX5_putNew : ByteArray := prog_7_method_2_code
def yX5_putNew : MethodName := ⟨RX5, "putNew", "(I)I"⟩
abbrev cX5_putCopy : ByteArray := prog_7_method_3_code
def yX5_putCopy : MethodName := ⟨RX5, "putCopy", "(ILCallWalker$Rows;J)I"⟩
abbrev cX5_putElement : ByteArray := prog_7_method_4_code
def yX5_putElement : MethodName := ⟨RX5, "putElement", "(I)I"⟩
abbrev cX5_changeElement : ByteArray := prog_7_method_5_code
def yX5_changeElement : MethodName := ⟨RX5, "changeElement", "(I)I"⟩
abbrev cX5_elementFailure : ByteArray := prog_7_method_6_code
def yX5_elementFailure : MethodName := ⟨RX5, "elementFailure", "(IIJJ)I"⟩
abbrev cX5_putLength : ByteArray := prog_7_method_7_code
def yX5_putLength : MethodName := ⟨RX5, "putLength", "()I"⟩
abbrev cX5_copyElements : ByteArray := prog_7_method_8_code
def yX5_copyElements : MethodName := ⟨RX5, "copyElements", "()I"⟩
abbrev cX5_lengthOf : ByteArray := prog_7_method_9_code
def yX5_lengthOf : MethodName := ⟨RX5, "lengthOf", "(J)I"⟩
abbrev cX5_hasRange : ByteArray := prog_7_method_10_code
def yX5_hasRange : MethodName := ⟨RX5, "hasRange", "(JJJ)Z"⟩
abbrev cX5_placeOf : ByteArray := prog_7_method_11_code
def yX5_placeOf : MethodName := ⟨RX5, "placeOf", "(JJ)I"⟩
def RX6 : String := "CallWalker$Walk"
def TX6 : u_T := fun k => match k with
  | 0 => ("CallWalker$Walk", "book", "LCallWalker$Book;", true)
  | 1 => ("CallWalker$Walk", "ledger", "LCallWalker$Ledger;", true)
  | 2 => ("CallWalker$Walk", "frames", "[LCallWalker$Frame;", true)
  | 3 => ("CallWalker$Walk", "counts", "[I", true)
  | 4 => ("CallWalker$Walk", "depth", "I", false)
  | 5 => ("CallWalker$Walk", "answer", "I", false)
  | _ => ("CallWalker$Walk", "result", "J", false)
def tyX6 : Nat → FieldType := fun k => match k with
  | 0 => .object "CallWalker$Book"
  | 1 => .object "CallWalker$Ledger"
  | 2 => .array (.object "CallWalker$Frame")
  | 3 => .array .int
  | 4 => .int
  | 5 => .int
  | _ => .long
abbrev wsX60 : List Cond := u_ws RX6 TX6 7
theorem nmX6 : ∀ a, a < 7 → ∀ b, b < 7 → a ≠ b → (TX6 a).2.1 ≠ (TX6 b).2.1 := by decide +kernel
theorem tyX6_ok : ∀ k, k < 7 → parseFieldDescriptor (TX6 k).2.2.1 = some (tyX6 k) := by decide +kernel
abbrev cX6_init : ByteArray := prog_8_method_1_code
def yX6_init : MethodName := ⟨RX6, "<init>", "(LCallWalker$Book;LCallWalker$Ledger;)V"⟩
abbrev cX6_go : ByteArray := prog_8_method_2_code
def yX6_go : MethodName := ⟨RX6, "go", "(IIJI)I"⟩
abbrev cX6_open : ByteArray := prog_8_method_3_code
def yX6_open : MethodName := ⟨RX6, "op\x65n", "(LCallWalker$Behaviour;III)LCallWalker$Frame;"⟩
abbrev cX6_advance : ByteArray := prog_8_method_4_code
def yX6_advance : MethodName := ⟨RX6, "advance", "(LCallWalker$Frame;)V"⟩
abbrev cX6_endWell : ByteArray := prog_8_method_5_code
def yX6_endWell : MethodName := ⟨RX6, "endWell", "(J)V"⟩
abbrev cX6_fail : ByteArray := prog_8_method_6_code
def yX6_fail : MethodName := ⟨RX6, "fail", "(I)V"⟩
abbrev cX6_undoTo : ByteArray := prog_8_method_7_code
def yX6_undoTo : MethodName := ⟨RX6, "undoTo", "(I)V"⟩
abbrev cX6_perform : ByteArray := prog_8_method_8_code
def yX6_perform : MethodName := ⟨RX6, "perform", "(LCallWalker$Frame;II)I"⟩
abbrev cX6_putLeaf : ByteArray := prog_8_method_9_code
def yX6_putLeaf : MethodName := ⟨RX6, "putLeaf", "(LCallWalker$Frame;I)I"⟩
abbrev cX6_changeLeaf : ByteArray := prog_8_method_10_code
def yX6_changeLeaf : MethodName := ⟨RX6, "changeLeaf", "(LCallWalker$Frame;I)I"⟩
abbrev cX6_putTwice : ByteArray := prog_8_method_11_code
def yX6_putTwice : MethodName := ⟨RX6, "putTwice", "(LCallWalker$Pile;)I"⟩
abbrev cX6_putSwapped : ByteArray := prog_8_method_12_code
def yX6_putSwapped : MethodName := ⟨RX6, "putSwapped", "(LCallWalker$Pile;)I"⟩
abbrev cX6_calculate : ByteArray := prog_8_method_13_code
def yX6_calculate : MethodName := ⟨RX6, "calculate", "(LCallWalker$Pile;I)I"⟩
abbrev cX6_jumpIfZero : ByteArray := prog_8_method_14_code
def yX6_jumpIfZero : MethodName := ⟨RX6, "jumpIfZero", "(LCallWalker$Frame;I)I"⟩
abbrev cX6_giveBack : ByteArray := prog_8_method_15_code
def yX6_giveBack : MethodName := ⟨RX6, "giveBack", "(LCallWalker$Pile;)I"⟩
abbrev cX6_tellEvent : ByteArray := prog_8_method_16_code
def yX6_tellEvent : MethodName := ⟨RX6, "tellEvent", "(LCallWalker$Frame;)I"⟩
abbrev cX6_callOther : ByteArray := prog_8_method_17_code
def yX6_callOther : MethodName := ⟨RX6, "callOther", "(LCallWalker$Frame;I)I"⟩
abbrev cX6_callFailure : ByteArray := prog_8_method_18_code
def yX6_callFailure : MethodName := ⟨RX6, "callFailure", "(IJI)I"⟩
abbrev cX6_isUnderWay : ByteArray := prog_8_method_19_code
def yX6_isUnderWay : MethodName := ⟨RX6, "isUnderWay", "(I)Z"⟩
def RX7 : String := "CallWalker"
def TX7 : u_T := fun k => match k with
  | 0 => ("CallWalker", "book", "LCallWalker$Book;", true)
  | 1 => ("CallWalker", "ledger", "LCallWalker$Ledger;", true)
  | _ => ("CallWalker", "walk", "LCallWalker$Walk;", true)
def tyX7 : Nat → FieldType := fun k => match k with
  | 0 => .object "CallWalker$Book"
  | 1 => .object "CallWalker$Ledger"
  | _ => .object "CallWalker$Walk"
abbrev wsX70 : List Cond := u_ws RX7 TX7 3
theorem nmX7 : ∀ a, a < 3 → ∀ b, b < 3 → a ≠ b → (TX7 a).2.1 ≠ (TX7 b).2.1 := by decide +kernel
theorem tyX7_ok : ∀ k, k < 3 → parseFieldDescriptor (TX7 k).2.2.1 = some (tyX7 k) := by decide +kernel
abbrev cX7_init : ByteArray := prog_1_method_1_code
def yX7_init : MethodName := ⟨RX7, "<init>", "()V"⟩
abbrev cX7_step : ByteArray := prog_1_method_2_code
def yX7_step : MethodName := ⟨RX7, "step", "(IIII)I"⟩
abbrev cX7_empty : ByteArray := prog_1_method_3_code
def yX7_empty : MethodName := ⟨RX7, "empty", "(II)I"⟩
abbrev cX7_guard : ByteArray := prog_1_method_4_code
def yX7_guard : MethodName := ⟨RX7, "guard", "(IZ)I"⟩
abbrev cX7_fund : ByteArray := prog_1_method_5_code
def yX7_fund : MethodName := ⟨RX7, "fund", "(IJ)I"⟩
abbrev cX7_run : ByteArray := prog_1_method_6_code
def yX7_run : MethodName := ⟨RX7, "run", "(IIJI)I"⟩
abbrev cX7_given : ByteArray := prog_1_method_7_code
def yX7_given : MethodName := ⟨RX7, "given", "()J"⟩
abbrev cX7_told : ByteArray := prog_1_method_8_code
def yX7_told : MethodName := ⟨RX7, "told", "(I)I"⟩
abbrev cX7_leaf : ByteArray := prog_1_method_9_code
def yX7_leaf : MethodName := ⟨RX7, "leaf", "(II)J"⟩
abbrev cX7_balance : ByteArray := prog_1_method_10_code
def yX7_balance : MethodName := ⟨RX7, "balance", "(I)J"⟩
abbrev cX7_events : ByteArray := prog_1_method_11_code
def yX7_events : MethodName := ⟨RX7, "events", "()I"⟩
abbrev cX7_event : ByteArray := prog_1_method_12_code
def yX7_event : MethodName := ⟨RX7, "event", "(II)I"⟩
abbrev cX7_value : ByteArray := prog_1_method_13_code
def yX7_value : MethodName := ⟨RX7, "value", "(I)J"⟩
abbrev cX7_isContract : ByteArray := prog_1_method_14_code
def yX7_isContract : MethodName := ⟨RX7, "isContract", "(I)Z"⟩
abbrev cX7_isBehaviour : ByteArray := prog_1_method_15_code
def yX7_isBehaviour : MethodName := ⟨RX7, "isBehaviour", "(II)Z"⟩
abbrev cX7_isLeaf : ByteArray := prog_1_method_16_code
def yX7_isLeaf : MethodName := ⟨RX7, "isLeaf", "(I)Z"⟩
abbrev cX7_sumFits : ByteArray := prog_1_method_17_code
def yX7_sumFits : MethodName := ⟨RX7, "sumFits", "(JJ)Z"⟩
abbrev cX7_differenceFits : ByteArray := prog_1_method_18_code
def yX7_differenceFits : MethodName := ⟨RX7, "differenceFits", "(JJ)Z"⟩
abbrev cX7_productFits : ByteArray := prog_1_method_19_code
def yX7_productFits : MethodName := ⟨RX7, "productFits", "(JJ)Z"⟩
def RX8 : String := "CallWalkerModel$Frame"
def TX8 : u_T := fun k => match k with
  | 0 => ("CallWalkerModel$Frame", "contract", "I", false)
  | 1 => ("CallWalkerModel$Frame", "caller", "I", false)
  | 2 => ("CallWalkerModel$Frame", "behaviour", "I", false)
  | 3 => ("CallWalkerModel$Frame", "limit", "I", false)
  | 4 => ("CallWalkerModel$Frame", "hadLeaves", "[J", true)
  | 5 => ("CallWalkerModel$Frame", "hadBalances", "[J", true)
  | 6 => ("CallWalkerModel$Frame", "sorts", "[I", true)
  | 7 => ("CallWalkerModel$Frame", "n", "[J", true)
  | 8 => ("CallWalkerModel$Frame", "rows", "[[J", true)
  | 9 => ("CallWalkerModel$Frame", "high", "I", false)
  | 10 => ("CallWalkerModel$Frame", "handlerSteps", "[I", true)
  | 11 => ("CallWalkerModel$Frame", "handlerHighs", "[I", true)
  | 12 => ("CallWalkerModel$Frame", "handlers", "I", false)
  | 13 => ("CallWalkerModel$Frame", "at", "I", false)
  | _ => ("CallWalkerModel$Frame", "gives", "J", false)
def tyX8 : Nat → FieldType := fun k => match k with
  | 0 => .int
  | 1 => .int
  | 2 => .int
  | 3 => .int
  | 4 => .array .long
  | 5 => .array .long
  | 6 => .array .int
  | 7 => .array .long
  | 8 => .array (.array .long)
  | 9 => .int
  | 10 => .array .int
  | 11 => .array .int
  | 12 => .int
  | 13 => .int
  | _ => .long
abbrev wsX80 : List Cond := u_ws RX8 TX8 15
theorem nmX8 : ∀ a, a < 15 → ∀ b, b < 15 → a ≠ b → (TX8 a).2.1 ≠ (TX8 b).2.1 := by decide +kernel
theorem tyX8_ok : ∀ k, k < 15 → parseFieldDescriptor (TX8 k).2.2.1 = some (tyX8 k) := by decide +kernel
abbrev cX8_init : ByteArray := prog_11_method_1_code
def yX8_init : MethodName := ⟨RX8, "<init>", "()V"⟩
abbrev cX8_begin : ByteArray := prog_11_method_2_code
def yX8_begin : MethodName := ⟨RX8, "begin", "(IIII)V"⟩
abbrev cX8_push : ByteArray := prog_11_method_3_code
def yX8_push : MethodName := ⟨RX8, "push", "(IJ[J)V"⟩
abbrev cX8_number : ByteArray := prog_11_method_4_code
def yX8_number : MethodName := ⟨RX8, "number", "(J)V"⟩
abbrev cX8_isNumber : ByteArray := prog_11_method_5_code
def yX8_isNumber : MethodName := ⟨RX8, "isNumber", "(I)Z"⟩
def RX9 : String := "CallWalkerModel"
def TX9 : u_T := fun k => match k with
  | 0 => ("CallWalkerModel", "code", "I", false)
  | 1 => ("CallWalkerModel", "codes", "[I", true)
  | 2 => ("CallWalkerModel", "numbers", "[I", true)
  | 3 => ("CallWalkerModel", "sizes", "[I", true)
  | 4 => ("CallWalkerModel", "guarded", "[Z", true)
  | 5 => ("CallWalkerModel", "leaves", "[J", true)
  | 6 => ("CallWalkerModel", "balances", "[J", true)
  | 7 => ("CallWalkerModel", "under", "[I", true)
  | 8 => ("CallWalkerModel", "eventContracts", "[I", true)
  | 9 => ("CallWalkerModel", "eventNumbers", "[J", true)
  | 10 => ("CallWalkerModel", "events", "I", false)
  | 11 => ("CallWalkerModel", "given", "J", false)
  | 12 => ("CallWalkerModel", "taken", "I", false)
  | 13 => ("CallWalkerModel", "failures", "I", false)
  | 14 => ("CallWalkerModel", "most", "I", false)
  | 15 => ("CallWalkerModel", "well", "I", false)
  | 16 => ("CallWalkerModel", "undone", "I", false)
  | 17 => ("CallWalkerModel", "calls", "I", false)
  | _ => ("CallWalkerModel", "frames", "[LCallWalkerModel$Frame;", true)
def tyX9 : Nat → FieldType := fun k => match k with
  | 0 => .int
  | 1 => .array .int
  | 2 => .array .int
  | 3 => .array .int
  | 4 => .array .boolean
  | 5 => .array .long
  | 6 => .array .long
  | 7 => .array .int
  | 8 => .array .int
  | 9 => .array .long
  | 10 => .int
  | 11 => .long
  | 12 => .int
  | 13 => .int
  | 14 => .int
  | 15 => .int
  | 16 => .int
  | 17 => .int
  | _ => .array (.object "CallWalkerModel$Frame")
abbrev wsX90 : List Cond := u_ws RX9 TX9 19
theorem nmX9 : ∀ a, a < 19 → ∀ b, b < 19 → a ≠ b → (TX9 a).2.1 ≠ (TX9 b).2.1 := by decide +kernel
theorem tyX9_ok : ∀ k, k < 19 → parseFieldDescriptor (TX9 k).2.2.1 = some (tyX9 k) := by decide +kernel
abbrev cX9_init : ByteArray := prog_10_method_1_code
def yX9_init : MethodName := ⟨RX9, "<init>", "()V"⟩
abbrev cX9_thrown : ByteArray := prog_10_method_2_code
def yX9_thrown : MethodName := ⟨RX9, "thrown", "()I"⟩
abbrev cX9_isIn : ByteArray := prog_10_method_3_code
def yX9_isIn : MethodName := ⟨RX9, "isIn", "(III)Z"⟩
abbrev cX9_isContract : ByteArray := prog_10_method_4_code
def yX9_isContract : MethodName := ⟨RX9, "isContract", "(I)Z"⟩
abbrev cX9_isBehaviour : ByteArray := prog_10_method_5_code
def yX9_isBehaviour : MethodName := ⟨RX9, "isBehaviour", "(II)Z"⟩
abbrev cX9_step : ByteArray := prog_10_method_6_code
def yX9_step : MethodName := ⟨RX9, "step", "(IIII)I"⟩
abbrev cX9_empty : ByteArray := prog_10_method_7_code
def yX9_empty : MethodName := ⟨RX9, "empty", "(II)I"⟩
abbrev cX9_guard : ByteArray := prog_10_method_8_code
def yX9_guard : MethodName := ⟨RX9, "guard", "(IZ)I"⟩
abbrev cX9_fund : ByteArray := prog_10_method_9_code
def yX9_fund : MethodName := ⟨RX9, "fund", "(IJ)I"⟩
abbrev cX9_needs : ByteArray := prog_10_method_10_code
def yX9_needs : MethodName := ⟨RX9, "needs", "(I)I"⟩
abbrev cX9_done : ByteArray := prog_10_method_11_code
def yX9_done : MethodName := ⟨RX9, "done", "(LCallWalkerModel$Frame;)I"⟩
abbrev cX9_went : ByteArray := prog_10_method_12_code
def yX9_went : MethodName := ⟨RX9, "went", "(LCallWalkerModel$Frame;III)I"⟩
abbrev cX9_reckoned : ByteArray := prog_10_method_13_code
def yX9_reckoned : MethodName := ⟨RX9, "reckoned", "(LCallWalkerModel$Frame;II)I"⟩
abbrev cX9_fits : ByteArray := prog_10_method_14_code
def yX9_fits : MethodName := ⟨RX9, "fits", "(IJJ)Z"⟩
abbrev cX9_wrongRow : ByteArray := prog_10_method_15_code
def yX9_wrongRow : MethodName := ⟨RX9, "wrongRow", "(LCallWalkerModel$Frame;II)I"⟩
abbrev cX9_rowed : ByteArray := prog_10_method_16_code
def yX9_rowed : MethodName := ⟨RX9, "rowed", "(LCallWalkerModel$Frame;II)I"⟩
abbrev cX9_copied : ByteArray := prog_10_method_17_code
def yX9_copied : MethodName := ⟨RX9, "copied", "(LCallWalkerModel$Frame;I)I"⟩
abbrev cX9_calls : ByteArray := prog_10_method_18_code
def yX9_calls : MethodName := ⟨RX9, "calls", "(LCallWalkerModel$Frame;II)I"⟩
abbrev cX9_frame : ByteArray := prog_10_method_19_code
def yX9_frame : MethodName := ⟨RX9, "frame", "(IIII)LCallWalkerModel$Frame;"⟩
abbrev cX9_ran : ByteArray := prog_10_method_20_code
def yX9_ran : MethodName := ⟨RX9, "ran", "(LCallWalkerModel$Frame;J)I"⟩
abbrev cX9_goes : ByteArray := prog_10_method_21_code
def yX9_goes : MethodName := ⟨RX9, "goes", "(LCallWalkerModel$Frame;)I"⟩
abbrev cX9_run : ByteArray := prog_10_method_22_code
def yX9_run : MethodName := ⟨RX9, "run", "(IIJI)I"⟩
abbrev cX9_given : ByteArray := prog_10_method_23_code
def yX9_given : MethodName := ⟨RX9, "given", "()J"⟩
abbrev cX9_told : ByteArray := prog_10_method_24_code
def yX9_told : MethodName := ⟨RX9, "told", "(I)I"⟩
abbrev cX9_leaf : ByteArray := prog_10_method_25_code
def yX9_leaf : MethodName := ⟨RX9, "leaf", "(II)J"⟩
abbrev cX9_balance : ByteArray := prog_10_method_26_code
def yX9_balance : MethodName := ⟨RX9, "balance", "(I)J"⟩
abbrev cX9_events : ByteArray := prog_10_method_27_code
def yX9_events : MethodName := ⟨RX9, "events", "()I"⟩
abbrev cX9_event : ByteArray := prog_10_method_28_code
def yX9_event : MethodName := ⟨RX9, "event", "(II)I"⟩
abbrev cX9_value : ByteArray := prog_10_method_29_code
def yX9_value : MethodName := ⟨RX9, "value", "(I)J"⟩
def RJ9 : String := "java/lang/Math"
def TJ9 : u_T := fun k => match k with
  | _ => ("", "", "", false)
def tyJ9 : Nat → FieldType := fun k => match k with
  | _ => .int
abbrev wsJ90 : List Cond := u_ws RJ9 TJ9 0
theorem nmJ9 : ∀ a, a < 0 → ∀ b, b < 0 → a ≠ b → (TJ9 a).2.1 ≠ (TJ9 b).2.1 := by decide +kernel
theorem tyJ9_ok : ∀ k, k < 0 → parseFieldDescriptor (TJ9 k).2.2.1 = some (tyJ9 k) := by decide +kernel
abbrev cJ9_multiplyHigh_f86c9 : ByteArray := prog_14_method_45_code
def yJ9_multiplyHigh_f86c9 : MethodName := ⟨RJ9, "multiplyHigh", "(JJ)J"⟩
abbrev cJ9_max_7cf53 : ByteArray := prog_14_method_65_code
def yJ9_max_7cf53 : MethodName := ⟨RJ9, "max", "(II)I"⟩
abbrev cJ9_max_f86c9 : ByteArray := prog_14_method_66_code
def yJ9_max_f86c9 : MethodName := ⟨RJ9, "max", "(JJ)J"⟩
abbrev cJ9_min_7cf53 : ByteArray := prog_14_method_69_code
def yJ9_min_7cf53 : MethodName := ⟨RJ9, "min", "(II)I"⟩
abbrev cJ9_min_f86c9 : ByteArray := prog_14_method_70_code
def yJ9_min_f86c9 : MethodName := ⟨RJ9, "min", "(JJ)J"⟩
def RJ0 : String := "java/lang/String"
def TJ0 : u_T := fun k => match k with
  | _ => ("", "", "", false)
def tyJ0 : Nat → FieldType := fun k => match k with
  | _ => .int
abbrev wsJ00 : List Cond := u_ws RJ0 TJ0 0
theorem nmJ0 : ∀ a, a < 0 → ∀ b, b < 0 → a ≠ b → (TJ0 a).2.1 ≠ (TJ0 b).2.1 := by decide +kernel
theorem tyJ0_ok : ∀ k, k < 0 → parseFieldDescriptor (TJ0 k).2.2.1 = some (tyJ0 k) := by decide +kernel
def RJ10 : String := "java/lang/System"
def TJ10 : u_T := fun k => match k with
  | _ => ("", "", "", false)
def tyJ10 : Nat → FieldType := fun k => match k with
  | _ => .int
abbrev wsJ100 : List Cond := u_ws RJ10 TJ10 0
theorem nmJ10 : ∀ a, a < 0 → ∀ b, b < 0 → a ≠ b → (TJ10 a).2.1 ≠ (TJ10 b).2.1 := by decide +kernel
theorem tyJ10_ok : ∀ k, k < 0 → parseFieldDescriptor (TJ10 k).2.2.1 = some (tyJ10 k) := by decide +kernel
def RL : String := "CallWalkerLaw"
abbrev cL_value : ByteArray := method_3_code
def yL_value : MethodName := ⟨RL, "value", "(LCallWalker;I[J)I"⟩
abbrev cL_law : ByteArray := code
def yL_law : MethodName := ⟨RL, "law", "([I)Z"⟩
end
section
abbrev vwCl : List vw_C := [(RX0, TX0, 3), (RX1, TX1, 2), (RX2, TX2, 10), (RX3, TX3, 8), (RX4, TX4, 4), (RX5, TX5, 3), (RX6, TX6, 7), (RX7, TX7, 3), (RX8, TX8, 15), (RX9, TX9, 19)]
theorem dX0_init_0 : decode cX0_init 0 = .ok (.aload_n 0, 1) := by decide +kernel
theorem dX0_init_1 : decode cX0_init 1 = .ok (.invokespecial 3, 3) := by decide +kernel
theorem dX0_init_4 : decode cX0_init 4 = .ok (.aload_n 0, 1) := by decide +kernel
theorem dX0_init_5 : decode cX0_init 5 = .ok (.bipush 24, 2) := by decide +kernel
theorem dX0_init_7 : decode cX0_init 7 = .ok (.newarray .int, 2) := by decide +kernel
theorem dX0_init_9 : decode cX0_init 9 = .ok (.putfield 9, 3) := by decide +kernel
theorem dX0_init_12 : decode cX0_init 12 = .ok (.aload_n 0, 1) := by decide +kernel
theorem dX0_init_13 : decode cX0_init 13 = .ok (.bipush 24, 2) := by decide +kernel
theorem dX0_init_15 : decode cX0_init 15 = .ok (.newarray .int, 2) := by decide +kernel
theorem dX0_init_17 : decode cX0_init 17 = .ok (.putfield 15, 3) := by decide +kernel
theorem dX0_init_20 : decode cX0_init 20 = .ok (.aload_n 0, 1) := by decide +kernel
theorem dX0_init_21 : decode cX0_init 21 = .ok (.iconst 0, 1) := by decide +kernel
theorem dX0_init_22 : decode cX0_init 22 = .ok (.putfield 18, 3) := by decide +kernel
theorem dX0_init_25 : decode cX0_init 25 = .ok (.return_, 1) := by decide +kernel
theorem dX0_append_0 : decode cX0_append 0 = .ok (.aload_n 0, 1) := by decide +kernel
theorem dX0_append_1 : decode cX0_append 1 = .ok (.getfield 18, 3) := by decide +kernel
theorem dX0_append_4 : decode cX0_append 4 = .ok (.bipush 24, 2) := by decide +kernel
theorem dX0_append_6 : decode cX0_append 6 = .ok (.if_icmp .lt 5, 3) := by decide +kernel
theorem dX0_append_9 : decode cX0_append 9 = .ok (.iconst 0, 1) := by decide +kernel
theorem dX0_append_10 : decode cX0_append 10 = .ok (.ireturn, 1) := by decide +kernel
theorem dX0_append_11 : decode cX0_append 11 = .ok (.aload_n 0, 1) := by decide +kernel
theorem dX0_append_12 : decode cX0_append 12 = .ok (.getfield 9, 3) := by decide +kernel
theorem dX0_append_15 : decode cX0_append 15 = .ok (.aload_n 0, 1) := by decide +kernel
theorem dX0_append_16 : decode cX0_append 16 = .ok (.getfield 18, 3) := by decide +kernel
theorem dX0_append_19 : decode cX0_append 19 = .ok (.iload_n 1, 1) := by decide +kernel
theorem dX0_append_20 : decode cX0_append 20 = .ok (.iastore, 1) := by decide +kernel
theorem dX0_append_21 : decode cX0_append 21 = .ok (.aload_n 0, 1) := by decide +kernel
theorem dX0_append_22 : decode cX0_append 22 = .ok (.getfield 15, 3) := by decide +kernel
theorem dX0_append_25 : decode cX0_append 25 = .ok (.aload_n 0, 1) := by decide +kernel
theorem dX0_append_26 : decode cX0_append 26 = .ok (.getfield 18, 3) := by decide +kernel
theorem dX0_append_29 : decode cX0_append 29 = .ok (.iload_n 2, 1) := by decide +kernel
theorem dX0_append_30 : decode cX0_append 30 = .ok (.iastore, 1) := by decide +kernel
theorem dX0_append_31 : decode cX0_append 31 = .ok (.aload_n 0, 1) := by decide +kernel
theorem dX0_append_32 : decode cX0_append 32 = .ok (.dup, 1) := by decide +kernel
theorem dX0_append_33 : decode cX0_append 33 = .ok (.getfield 18, 3) := by decide +kernel
theorem dX0_append_36 : decode cX0_append 36 = .ok (.iconst 1, 1) := by decide +kernel
theorem dX0_append_37 : decode cX0_append 37 = .ok (.iadd, 1) := by decide +kernel
theorem dX0_append_38 : decode cX0_append 38 = .ok (.putfield 18, 3) := by decide +kernel
theorem dX0_append_41 : decode cX0_append 41 = .ok (.iconst 1, 1) := by decide +kernel
theorem dX0_append_42 : decode cX0_append 42 = .ok (.ireturn, 1) := by decide +kernel
theorem dX0_hasPlace_0 : decode cX0_hasPlace 0 = .ok (.iload_n 1, 1) := by decide +kernel
theorem dX0_hasPlace_1 : decode cX0_hasPlace 1 = .ok (.ifCond .lt 15, 3) := by decide +kernel
theorem dX0_hasPlace_4 : decode cX0_hasPlace 4 = .ok (.iload_n 1, 1) := by decide +kernel
theorem dX0_hasPlace_5 : decode cX0_hasPlace 5 = .ok (.aload_n 0, 1) := by decide +kernel
theorem dX0_hasPlace_6 : decode cX0_hasPlace 6 = .ok (.getfield 18, 3) := by decide +kernel
theorem dX0_hasPlace_9 : decode cX0_hasPlace 9 = .ok (.if_icmp .gt 7, 3) := by decide +kernel
theorem dX0_hasPlace_12 : decode cX0_hasPlace 12 = .ok (.iconst 1, 1) := by decide +kernel
theorem dX0_hasPlace_13 : decode cX0_hasPlace 13 = .ok (.goto 4, 3) := by decide +kernel
theorem dX0_hasPlace_16 : decode cX0_hasPlace 16 = .ok (.iconst 0, 1) := by decide +kernel
theorem dX0_hasPlace_17 : decode cX0_hasPlace 17 = .ok (.ireturn, 1) := by decide +kernel
theorem dX1_init_0 : decode cX1_init 0 = .ok (.aload_n 0, 1) := by decide +kernel
theorem dX1_init_1 : decode cX1_init 1 = .ok (.invokespecial 3, 3) := by decide +kernel
theorem dX1_init_4 : decode cX1_init 4 = .ok (.aload_n 0, 1) := by decide +kernel
theorem dX1_init_5 : decode cX1_init 5 = .ok (.bipush 48, 2) := by decide +kernel
theorem dX1_init_7 : decode cX1_init 7 = .ok (.anewarray 9, 3) := by decide +kernel
theorem dX1_init_10 : decode cX1_init 10 = .ok (.putfield 11, 3) := by decide +kernel
theorem dX1_init_13 : decode cX1_init 13 = .ok (.aload_n 0, 1) := by decide +kernel
theorem dX1_init_14 : decode cX1_init 14 = .ok (.bipush 8, 2) := by decide +kernel
theorem dX1_init_16 : decode cX1_init 16 = .ok (.newarray .boolean, 2) := by decide +kernel
theorem dX1_init_18 : decode cX1_init 18 = .ok (.putfield 17, 3) := by decide +kernel
theorem dX1_init_21 : decode cX1_init 21 = .ok (.iconst 0, 1) := by decide +kernel
theorem dX1_init_22 : decode cX1_init 22 = .ok (.istore_n 1, 1) := by decide +kernel
theorem dX1_init_23 : decode cX1_init 23 = .ok (.iload_n 1, 1) := by decide +kernel
theorem dX1_init_24 : decode cX1_init 24 = .ok (.bipush 48, 2) := by decide +kernel
theorem dX1_init_26 : decode cX1_init 26 = .ok (.if_icmp .ge 22, 3) := by decide +kernel
theorem dX1_init_29 : decode cX1_init 29 = .ok (.aload_n 0, 1) := by decide +kernel
theorem dX1_init_30 : decode cX1_init 30 = .ok (.getfield 11, 3) := by decide +kernel
theorem dX1_init_33 : decode cX1_init 33 = .ok (.iload_n 1, 1) := by decide +kernel
theorem dX1_init_34 : decode cX1_init 34 = .ok (.new 9, 3) := by decide +kernel
theorem dX1_init_37 : decode cX1_init 37 = .ok (.dup, 1) := by decide +kernel
theorem dX1_init_38 : decode cX1_init 38 = .ok (.invokespecial 21, 3) := by decide +kernel
theorem dX1_init_41 : decode cX1_init 41 = .ok (.aastore, 1) := by decide +kernel
theorem dX1_init_42 : decode cX1_init 42 = .ok (.iinc 1 1, 3) := by decide +kernel
theorem dX1_init_45 : decode cX1_init 45 = .ok (.goto (-22), 3) := by decide +kernel
theorem dX1_init_48 : decode cX1_init 48 = .ok (.return_, 1) := by decide +kernel
theorem dX1_find_0 : decode cX1_find 0 = .ok (.aload_n 0, 1) := by decide +kernel
theorem dX1_find_1 : decode cX1_find 1 = .ok (.getfield 11, 3) := by decide +kernel
theorem dX1_find_4 : decode cX1_find 4 = .ok (.iload_n 1, 1) := by decide +kernel
theorem dX1_find_5 : decode cX1_find 5 = .ok (.bipush 6, 2) := by decide +kernel
theorem dX1_find_7 : decode cX1_find 7 = .ok (.imul, 1) := by decide +kernel
theorem dX1_find_8 : decode cX1_find 8 = .ok (.iload_n 2, 1) := by decide +kernel
theorem dX1_find_9 : decode cX1_find 9 = .ok (.iadd, 1) := by decide +kernel
theorem dX1_find_10 : decode cX1_find 10 = .ok (.aaload, 1) := by decide +kernel
theorem dX1_find_11 : decode cX1_find 11 = .ok (.areturn, 1) := by decide +kernel
theorem dX2_init_0 : decode cX2_init 0 = .ok (.aload_n 0, 1) := by decide +kernel
theorem dX2_init_1 : decode cX2_init 1 = .ok (.invokespecial 3, 3) := by decide +kernel
theorem dX2_init_4 : decode cX2_init 4 = .ok (.aload_n 0, 1) := by decide +kernel
theorem dX2_init_5 : decode cX2_init 5 = .ok (.iconst 4, 1) := by decide +kernel
theorem dX2_init_6 : decode cX2_init 6 = .ok (.newarray .int, 2) := by decide +kernel
theorem dX2_init_8 : decode cX2_init 8 = .ok (.putfield 9, 3) := by decide +kernel
theorem dX2_init_11 : decode cX2_init 11 = .ok (.aload_n 0, 1) := by decide +kernel
theorem dX2_init_12 : decode cX2_init 12 = .ok (.iconst 4, 1) := by decide +kernel
theorem dX2_init_13 : decode cX2_init 13 = .ok (.newarray .int, 2) := by decide +kernel
theorem dX2_init_15 : decode cX2_init 15 = .ok (.putfield 15, 3) := by decide +kernel
theorem dX2_init_18 : decode cX2_init 18 = .ok (.aload_n 0, 1) := by decide +kernel
theorem dX2_init_19 : decode cX2_init 19 = .ok (.iconst 0, 1) := by decide +kernel
theorem dX2_init_20 : decode cX2_init 20 = .ok (.putfield 18, 3) := by decide +kernel
theorem dX2_init_23 : decode cX2_init 23 = .ok (.aload_n 0, 1) := by decide +kernel
theorem dX2_init_24 : decode cX2_init 24 = .ok (.iconst 0, 1) := by decide +kernel
theorem dX2_init_25 : decode cX2_init 25 = .ok (.putfield 22, 3) := by decide +kernel
theorem dX2_init_28 : decode cX2_init 28 = .ok (.aload_n 0, 1) := by decide +kernel
theorem dX2_init_29 : decode cX2_init 29 = .ok (.iconst (-1), 1) := by decide +kernel
theorem dX2_init_30 : decode cX2_init 30 = .ok (.putfield 25, 3) := by decide +kernel
theorem dX2_init_33 : decode cX2_init 33 = .ok (.aload_n 0, 1) := by decide +kernel
theorem dX2_init_34 : decode cX2_init 34 = .ok (.iconst 0, 1) := by decide +kernel
theorem dX2_init_35 : decode cX2_init 35 = .ok (.putfield 28, 3) := by decide +kernel
theorem dX2_init_38 : decode cX2_init 38 = .ok (.aload_n 0, 1) := by decide +kernel
theorem dX2_init_39 : decode cX2_init 39 = .ok (.iconst 0, 1) := by decide +kernel
theorem dX2_init_40 : decode cX2_init 40 = .ok (.putfield 31, 3) := by decide +kernel
theorem dX2_init_43 : decode cX2_init 43 = .ok (.aload_n 0, 1) := by decide +kernel
theorem dX2_init_44 : decode cX2_init 44 = .ok (.aload_n 1, 1) := by decide +kernel
theorem dX2_init_45 : decode cX2_init 45 = .ok (.putfield 34, 3) := by decide +kernel
theorem dX2_init_48 : decode cX2_init 48 = .ok (.aload_n 0, 1) := by decide +kernel
theorem dX2_init_49 : decode cX2_init 49 = .ok (.new 38, 3) := by decide +kernel
theorem dX2_init_52 : decode cX2_init 52 = .ok (.dup, 1) := by decide +kernel
theorem dX2_init_53 : decode cX2_init 53 = .ok (.invokespecial 40, 3) := by decide +kernel
theorem dX2_init_56 : decode cX2_init 56 = .ok (.putfield 41, 3) := by decide +kernel
theorem dX2_init_59 : decode cX2_init 59 = .ok (.aload_n 0, 1) := by decide +kernel
theorem dX2_init_60 : decode cX2_init 60 = .ok (.new 45, 3) := by decide +kernel
theorem dX2_init_63 : decode cX2_init 63 = .ok (.dup, 1) := by decide +kernel
theorem dX2_init_64 : decode cX2_init 64 = .ok (.aload_n 0, 1) := by decide +kernel
theorem dX2_init_65 : decode cX2_init 65 = .ok (.getfield 41, 3) := by decide +kernel
theorem dX2_init_68 : decode cX2_init 68 = .ok (.invokespecial 47, 3) := by decide +kernel
theorem dX2_init_71 : decode cX2_init 71 = .ok (.putfield 50, 3) := by decide +kernel
theorem dX2_init_74 : decode cX2_init 74 = .ok (.return_, 1) := by decide +kernel
theorem dX2_begin_0 : decode cX2_begin 0 = .ok (.aload_n 0, 1) := by decide +kernel
theorem dX2_begin_1 : decode cX2_begin 1 = .ok (.aload_n 1, 1) := by decide +kernel
theorem dX2_begin_2 : decode cX2_begin 2 = .ok (.putfield 34, 3) := by decide +kernel
theorem dX2_begin_5 : decode cX2_begin 5 = .ok (.aload_n 0, 1) := by decide +kernel
theorem dX2_begin_6 : decode cX2_begin 6 = .ok (.iload_n 2, 1) := by decide +kernel
theorem dX2_begin_7 : decode cX2_begin 7 = .ok (.putfield 22, 3) := by decide +kernel
theorem dX2_begin_10 : decode cX2_begin 10 = .ok (.aload_n 0, 1) := by decide +kernel
theorem dX2_begin_11 : decode cX2_begin 11 = .ok (.iload_n 3, 1) := by decide +kernel
theorem dX2_begin_12 : decode cX2_begin 12 = .ok (.putfield 25, 3) := by decide +kernel
theorem dX2_begin_15 : decode cX2_begin 15 = .ok (.aload_n 0, 1) := by decide +kernel
theorem dX2_begin_16 : decode cX2_begin 16 = .ok (.iload 4, 2) := by decide +kernel
theorem dX2_begin_18 : decode cX2_begin 18 = .ok (.putfield 31, 3) := by decide +kernel
theorem dX2_begin_21 : decode cX2_begin 21 = .ok (.aload_n 0, 1) := by decide +kernel
theorem dX2_begin_22 : decode cX2_begin 22 = .ok (.iconst 0, 1) := by decide +kernel
theorem dX2_begin_23 : decode cX2_begin 23 = .ok (.putfield 28, 3) := by decide +kernel
theorem dX2_begin_26 : decode cX2_begin 26 = .ok (.aload_n 0, 1) := by decide +kernel
theorem dX2_begin_27 : decode cX2_begin 27 = .ok (.iconst 0, 1) := by decide +kernel
theorem dX2_begin_28 : decode cX2_begin 28 = .ok (.putfield 18, 3) := by decide +kernel
theorem dX2_begin_31 : decode cX2_begin 31 = .ok (.aload_n 0, 1) := by decide +kernel
theorem dX2_begin_32 : decode cX2_begin 32 = .ok (.getfield 41, 3) := by decide +kernel
theorem dX2_begin_35 : decode cX2_begin 35 = .ok (.iconst 0, 1) := by decide +kernel
theorem dX2_begin_36 : decode cX2_begin 36 = .ok (.putfield 54, 3) := by decide +kernel
theorem dX2_begin_39 : decode cX2_begin 39 = .ok (.return_, 1) := by decide +kernel
theorem dX2_isAtEnd_0 : decode cX2_isAtEnd 0 = .ok (.aload_n 0, 1) := by decide +kernel
theorem dX2_isAtEnd_1 : decode cX2_isAtEnd 1 = .ok (.getfield 28, 3) := by decide +kernel
theorem dX2_isAtEnd_4 : decode cX2_isAtEnd 4 = .ok (.ifCond .lt 17, 3) := by decide +kernel
theorem dX2_isAtEnd_7 : decode cX2_isAtEnd 7 = .ok (.aload_n 0, 1) := by decide +kernel
theorem dX2_isAtEnd_8 : decode cX2_isAtEnd 8 = .ok (.getfield 28, 3) := by decide +kernel
theorem dX2_isAtEnd_11 : decode cX2_isAtEnd 11 = .ok (.aload_n 0, 1) := by decide +kernel
theorem dX2_isAtEnd_12 : decode cX2_isAtEnd 12 = .ok (.getfield 34, 3) := by decide +kernel
theorem dX2_isAtEnd_15 : decode cX2_isAtEnd 15 = .ok (.getfield 57, 3) := by decide +kernel
theorem dX2_isAtEnd_18 : decode cX2_isAtEnd 18 = .ok (.if_icmp .lt 7, 3) := by decide +kernel
theorem dX2_isAtEnd_21 : decode cX2_isAtEnd 21 = .ok (.iconst 1, 1) := by decide +kernel
theorem dX2_isAtEnd_22 : decode cX2_isAtEnd 22 = .ok (.goto 4, 3) := by decide +kernel
theorem dX2_isAtEnd_25 : decode cX2_isAtEnd 25 = .ok (.iconst 0, 1) := by decide +kernel
theorem dX2_isAtEnd_26 : decode cX2_isAtEnd 26 = .ok (.ireturn, 1) := by decide +kernel
theorem dX2_jump_0 : decode cX2_jump 0 = .ok (.aload_n 0, 1) := by decide +kernel
theorem dX2_jump_1 : decode cX2_jump 1 = .ok (.getfield 34, 3) := by decide +kernel
theorem dX2_jump_4 : decode cX2_jump 4 = .ok (.iload_n 1, 1) := by decide +kernel
theorem dX2_jump_5 : decode cX2_jump 5 = .ok (.invokevirtual 62, 3) := by decide +kernel
theorem dX2_jump_8 : decode cX2_jump 8 = .ok (.ifCond .ne 6, 3) := by decide +kernel
theorem dX2_jump_11 : decode cX2_jump 11 = .ok (.bipush 12, 2) := by decide +kernel
theorem dX2_jump_13 : decode cX2_jump 13 = .ok (.ireturn, 1) := by decide +kernel
theorem dX2_jump_14 : decode cX2_jump 14 = .ok (.aload_n 0, 1) := by decide +kernel
theorem dX2_jump_15 : decode cX2_jump 15 = .ok (.iload_n 1, 1) := by decide +kernel
theorem dX2_jump_16 : decode cX2_jump 16 = .ok (.putfield 28, 3) := by decide +kernel
theorem dX2_jump_19 : decode cX2_jump 19 = .ok (.iconst 0, 1) := by decide +kernel
theorem dX2_jump_20 : decode cX2_jump 20 = .ok (.ireturn, 1) := by decide +kernel
theorem dX2_addHandler_0 : decode cX2_addHandler 0 = .ok (.aload_n 0, 1) := by decide +kernel
theorem dX2_addHandler_1 : decode cX2_addHandler 1 = .ok (.getfield 34, 3) := by decide +kernel
theorem dX2_addHandler_4 : decode cX2_addHandler 4 = .ok (.iload_n 1, 1) := by decide +kernel
theorem dX2_addHandler_5 : decode cX2_addHandler 5 = .ok (.invokevirtual 62, 3) := by decide +kernel
theorem dX2_addHandler_8 : decode cX2_addHandler 8 = .ok (.ifCond .ne 6, 3) := by decide +kernel
theorem dX2_addHandler_11 : decode cX2_addHandler 11 = .ok (.bipush 12, 2) := by decide +kernel
theorem dX2_addHandler_13 : decode cX2_addHandler 13 = .ok (.ireturn, 1) := by decide +kernel
theorem dX2_addHandler_14 : decode cX2_addHandler 14 = .ok (.aload_n 0, 1) := by decide +kernel
theorem dX2_addHandler_15 : decode cX2_addHandler 15 = .ok (.getfield 18, 3) := by decide +kernel
theorem dX2_addHandler_18 : decode cX2_addHandler 18 = .ok (.iconst 4, 1) := by decide +kernel
theorem dX2_addHandler_19 : decode cX2_addHandler 19 = .ok (.if_icmp .ge 15, 3) := by decide +kernel
theorem dX2_addHandler_22 : decode cX2_addHandler 22 = .ok (.aload_n 0, 1) := by decide +kernel
theorem dX2_addHandler_23 : decode cX2_addHandler 23 = .ok (.getfield 41, 3) := by decide +kernel
theorem dX2_addHandler_26 : decode cX2_addHandler 26 = .ok (.getfield 54, 3) := by decide +kernel
theorem dX2_addHandler_29 : decode cX2_addHandler 29 = .ok (.bipush 12, 2) := by decide +kernel
theorem dX2_addHandler_31 : decode cX2_addHandler 31 = .ok (.if_icmp .lt 6, 3) := by decide +kernel
theorem dX2_addHandler_34 : decode cX2_addHandler 34 = .ok (.bipush 11, 2) := by decide +kernel
theorem dX2_addHandler_36 : decode cX2_addHandler 36 = .ok (.ireturn, 1) := by decide +kernel
theorem dX2_addHandler_37 : decode cX2_addHandler 37 = .ok (.aload_n 0, 1) := by decide +kernel
theorem dX2_addHandler_38 : decode cX2_addHandler 38 = .ok (.getfield 9, 3) := by decide +kernel
theorem dX2_addHandler_41 : decode cX2_addHandler 41 = .ok (.aload_n 0, 1) := by decide +kernel
theorem dX2_addHandler_42 : decode cX2_addHandler 42 = .ok (.getfield 18, 3) := by decide +kernel
theorem dX2_addHandler_45 : decode cX2_addHandler 45 = .ok (.iload_n 1, 1) := by decide +kernel
theorem dX2_addHandler_46 : decode cX2_addHandler 46 = .ok (.iastore, 1) := by decide +kernel
theorem dX2_addHandler_47 : decode cX2_addHandler 47 = .ok (.aload_n 0, 1) := by decide +kernel
theorem dX2_addHandler_48 : decode cX2_addHandler 48 = .ok (.getfield 15, 3) := by decide +kernel
theorem dX2_addHandler_51 : decode cX2_addHandler 51 = .ok (.aload_n 0, 1) := by decide +kernel
theorem dX2_addHandler_52 : decode cX2_addHandler 52 = .ok (.getfield 18, 3) := by decide +kernel
theorem dX2_addHandler_55 : decode cX2_addHandler 55 = .ok (.aload_n 0, 1) := by decide +kernel
theorem dX2_addHandler_56 : decode cX2_addHandler 56 = .ok (.getfield 41, 3) := by decide +kernel
theorem dX2_addHandler_59 : decode cX2_addHandler 59 = .ok (.getfield 54, 3) := by decide +kernel
theorem dX2_addHandler_62 : decode cX2_addHandler 62 = .ok (.iastore, 1) := by decide +kernel
theorem dX2_addHandler_63 : decode cX2_addHandler 63 = .ok (.aload_n 0, 1) := by decide +kernel
theorem dX2_addHandler_64 : decode cX2_addHandler 64 = .ok (.dup, 1) := by decide +kernel
theorem dX2_addHandler_65 : decode cX2_addHandler 65 = .ok (.getfield 18, 3) := by decide +kernel
theorem dX2_addHandler_68 : decode cX2_addHandler 68 = .ok (.iconst 1, 1) := by decide +kernel
theorem dX2_addHandler_69 : decode cX2_addHandler 69 = .ok (.iadd, 1) := by decide +kernel
theorem dX2_addHandler_70 : decode cX2_addHandler 70 = .ok (.putfield 18, 3) := by decide +kernel
theorem dX2_addHandler_73 : decode cX2_addHandler 73 = .ok (.iconst 0, 1) := by decide +kernel
theorem dX2_addHandler_74 : decode cX2_addHandler 74 = .ok (.ireturn, 1) := by decide +kernel
theorem dX2_dropHandler_0 : decode cX2_dropHandler 0 = .ok (.aload_n 0, 1) := by decide +kernel
theorem dX2_dropHandler_1 : decode cX2_dropHandler 1 = .ok (.getfield 18, 3) := by decide +kernel
theorem dX2_dropHandler_4 : decode cX2_dropHandler 4 = .ok (.ifCond .gt 6, 3) := by decide +kernel
theorem dX2_dropHandler_7 : decode cX2_dropHandler 7 = .ok (.bipush 11, 2) := by decide +kernel
theorem dX2_dropHandler_9 : decode cX2_dropHandler 9 = .ok (.ireturn, 1) := by decide +kernel
theorem dX2_dropHandler_10 : decode cX2_dropHandler 10 = .ok (.aload_n 0, 1) := by decide +kernel
theorem dX2_dropHandler_11 : decode cX2_dropHandler 11 = .ok (.dup, 1) := by decide +kernel
theorem dX2_dropHandler_12 : decode cX2_dropHandler 12 = .ok (.getfield 18, 3) := by decide +kernel
theorem dX2_dropHandler_15 : decode cX2_dropHandler 15 = .ok (.iconst 1, 1) := by decide +kernel
theorem dX2_dropHandler_16 : decode cX2_dropHandler 16 = .ok (.isub, 1) := by decide +kernel
theorem dX2_dropHandler_17 : decode cX2_dropHandler 17 = .ok (.putfield 18, 3) := by decide +kernel
theorem dX2_dropHandler_20 : decode cX2_dropHandler 20 = .ok (.iconst 0, 1) := by decide +kernel
theorem dX2_dropHandler_21 : decode cX2_dropHandler 21 = .ok (.ireturn, 1) := by decide +kernel
theorem dX2_handle_0 : decode cX2_handle 0 = .ok (.aload_n 0, 1) := by decide +kernel
theorem dX2_handle_1 : decode cX2_handle 1 = .ok (.getfield 18, 3) := by decide +kernel
theorem dX2_handle_4 : decode cX2_handle 4 = .ok (.ifCond .gt 5, 3) := by decide +kernel
theorem dX2_handle_7 : decode cX2_handle 7 = .ok (.iconst 0, 1) := by decide +kernel
theorem dX2_handle_8 : decode cX2_handle 8 = .ok (.ireturn, 1) := by decide +kernel
theorem dX2_handle_9 : decode cX2_handle 9 = .ok (.aload_n 0, 1) := by decide +kernel
theorem dX2_handle_10 : decode cX2_handle 10 = .ok (.dup, 1) := by decide +kernel
theorem dX2_handle_11 : decode cX2_handle 11 = .ok (.getfield 18, 3) := by decide +kernel
theorem dX2_handle_14 : decode cX2_handle 14 = .ok (.iconst 1, 1) := by decide +kernel
theorem dX2_handle_15 : decode cX2_handle 15 = .ok (.isub, 1) := by decide +kernel
theorem dX2_handle_16 : decode cX2_handle 16 = .ok (.putfield 18, 3) := by decide +kernel
theorem dX2_handle_19 : decode cX2_handle 19 = .ok (.aload_n 0, 1) := by decide +kernel
theorem dX2_handle_20 : decode cX2_handle 20 = .ok (.getfield 41, 3) := by decide +kernel
theorem dX2_handle_23 : decode cX2_handle 23 = .ok (.aload_n 0, 1) := by decide +kernel
theorem dX2_handle_24 : decode cX2_handle 24 = .ok (.getfield 41, 3) := by decide +kernel
theorem dX2_handle_27 : decode cX2_handle 27 = .ok (.getfield 54, 3) := by decide +kernel
theorem dX2_handle_30 : decode cX2_handle 30 = .ok (.aload_n 0, 1) := by decide +kernel
theorem dX2_handle_31 : decode cX2_handle 31 = .ok (.getfield 15, 3) := by decide +kernel
theorem dX2_handle_34 : decode cX2_handle 34 = .ok (.aload_n 0, 1) := by decide +kernel
theorem dX2_handle_35 : decode cX2_handle 35 = .ok (.getfield 18, 3) := by decide +kernel
theorem dX2_handle_38 : decode cX2_handle 38 = .ok (.iaload, 1) := by decide +kernel
theorem dX2_handle_39 : decode cX2_handle 39 = .ok (.invokestatic 66, 3) := by decide +kernel
theorem dX2_handle_42 : decode cX2_handle 42 = .ok (.putfield 54, 3) := by decide +kernel
theorem dX2_handle_45 : decode cX2_handle 45 = .ok (.aload_n 0, 1) := by decide +kernel
theorem dX2_handle_46 : decode cX2_handle 46 = .ok (.getfield 41, 3) := by decide +kernel
theorem dX2_handle_49 : decode cX2_handle 49 = .ok (.iload_n 1, 1) := by decide +kernel
theorem dX2_handle_50 : decode cX2_handle 50 = .ok (.i2l, 1) := by decide +kernel
theorem dX2_handle_51 : decode cX2_handle 51 = .ok (.invokevirtual 72, 3) := by decide +kernel
theorem dX2_handle_54 : decode cX2_handle 54 = .ok (.pop, 1) := by decide +kernel
theorem dX2_handle_55 : decode cX2_handle 55 = .ok (.aload_n 0, 1) := by decide +kernel
theorem dX2_handle_56 : decode cX2_handle 56 = .ok (.aload_n 0, 1) := by decide +kernel
theorem dX2_handle_57 : decode cX2_handle 57 = .ok (.getfield 9, 3) := by decide +kernel
theorem dX2_handle_60 : decode cX2_handle 60 = .ok (.aload_n 0, 1) := by decide +kernel
theorem dX2_handle_61 : decode cX2_handle 61 = .ok (.getfield 18, 3) := by decide +kernel
theorem dX2_handle_64 : decode cX2_handle 64 = .ok (.iaload, 1) := by decide +kernel
theorem dX2_handle_65 : decode cX2_handle 65 = .ok (.putfield 28, 3) := by decide +kernel
theorem dX2_handle_68 : decode cX2_handle 68 = .ok (.iconst 1, 1) := by decide +kernel
theorem dX2_handle_69 : decode cX2_handle 69 = .ok (.ireturn, 1) := by decide +kernel
theorem dX3_init_0 : decode cX3_init 0 = .ok (.aload_n 0, 1) := by decide +kernel
theorem dX3_init_1 : decode cX3_init 1 = .ok (.invokespecial 3, 3) := by decide +kernel
theorem dX3_init_4 : decode cX3_init 4 = .ok (.aload_n 0, 1) := by decide +kernel
theorem dX3_init_5 : decode cX3_init 5 = .ok (.bipush 64, 2) := by decide +kernel
theorem dX3_init_7 : decode cX3_init 7 = .ok (.newarray .long, 2) := by decide +kernel
theorem dX3_init_9 : decode cX3_init 9 = .ok (.putfield 9, 3) := by decide +kernel
theorem dX3_init_12 : decode cX3_init 12 = .ok (.aload_n 0, 1) := by decide +kernel
theorem dX3_init_13 : decode cX3_init 13 = .ok (.bipush 8, 2) := by decide +kernel
theorem dX3_init_15 : decode cX3_init 15 = .ok (.newarray .long, 2) := by decide +kernel
theorem dX3_init_17 : decode cX3_init 17 = .ok (.putfield 15, 3) := by decide +kernel
theorem dX3_init_20 : decode cX3_init 20 = .ok (.aload_n 0, 1) := by decide +kernel
theorem dX3_init_21 : decode cX3_init 21 = .ok (.bipush 40, 2) := by decide +kernel
theorem dX3_init_23 : decode cX3_init 23 = .ok (.newarray .int, 2) := by decide +kernel
theorem dX3_init_25 : decode cX3_init 25 = .ok (.putfield 18, 3) := by decide +kernel
theorem dX3_init_28 : decode cX3_init 28 = .ok (.aload_n 0, 1) := by decide +kernel
theorem dX3_init_29 : decode cX3_init 29 = .ok (.bipush 40, 2) := by decide +kernel
theorem dX3_init_31 : decode cX3_init 31 = .ok (.newarray .long, 2) := by decide +kernel
theorem dX3_init_33 : decode cX3_init 33 = .ok (.putfield 22, 3) := by decide +kernel
theorem dX3_init_36 : decode cX3_init 36 = .ok (.aload_n 0, 1) := by decide +kernel
theorem dX3_init_37 : decode cX3_init 37 = .ok (.iconst 0, 1) := by decide +kernel
theorem dX3_init_38 : decode cX3_init 38 = .ok (.putfield 25, 3) := by decide +kernel
theorem dX3_init_41 : decode cX3_init 41 = .ok (.aload_n 0, 1) := by decide +kernel
theorem dX3_init_42 : decode cX3_init 42 = .ok (.bipush 10, 2) := by decide +kernel
theorem dX3_init_44 : decode cX3_init 44 = .ok (.bipush 64, 2) := by decide +kernel
theorem dX3_init_46 : decode cX3_init 46 = .ok (.multianewarray 29 2, 4) := by decide +kernel
theorem dX3_init_50 : decode cX3_init 50 = .ok (.putfield 31, 3) := by decide +kernel
theorem dX3_init_53 : decode cX3_init 53 = .ok (.aload_n 0, 1) := by decide +kernel
theorem dX3_init_54 : decode cX3_init 54 = .ok (.bipush 10, 2) := by decide +kernel
theorem dX3_init_56 : decode cX3_init 56 = .ok (.bipush 8, 2) := by decide +kernel
theorem dX3_init_58 : decode cX3_init 58 = .ok (.multianewarray 29 2, 4) := by decide +kernel
theorem dX3_init_62 : decode cX3_init 62 = .ok (.putfield 34, 3) := by decide +kernel
theorem dX3_init_65 : decode cX3_init 65 = .ok (.aload_n 0, 1) := by decide +kernel
theorem dX3_init_66 : decode cX3_init 66 = .ok (.bipush 10, 2) := by decide +kernel
theorem dX3_init_68 : decode cX3_init 68 = .ok (.newarray .int, 2) := by decide +kernel
theorem dX3_init_70 : decode cX3_init 70 = .ok (.putfield 37, 3) := by decide +kernel
theorem dX3_init_73 : decode cX3_init 73 = .ok (.return_, 1) := by decide +kernel
theorem dX3_hasEvent_0 : decode cX3_hasEvent 0 = .ok (.iload_n 1, 1) := by decide +kernel
theorem dX3_hasEvent_1 : decode cX3_hasEvent 1 = .ok (.ifCond .lt 15, 3) := by decide +kernel
theorem dX3_hasEvent_4 : decode cX3_hasEvent 4 = .ok (.iload_n 1, 1) := by decide +kernel
theorem dX3_hasEvent_5 : decode cX3_hasEvent 5 = .ok (.aload_n 0, 1) := by decide +kernel
theorem dX3_hasEvent_6 : decode cX3_hasEvent 6 = .ok (.getfield 25, 3) := by decide +kernel
theorem dX3_hasEvent_9 : decode cX3_hasEvent 9 = .ok (.if_icmp .ge 7, 3) := by decide +kernel
theorem dX3_hasEvent_12 : decode cX3_hasEvent 12 = .ok (.iconst 1, 1) := by decide +kernel
theorem dX3_hasEvent_13 : decode cX3_hasEvent 13 = .ok (.goto 4, 3) := by decide +kernel
theorem dX3_hasEvent_16 : decode cX3_hasEvent 16 = .ok (.iconst 0, 1) := by decide +kernel
theorem dX3_hasEvent_17 : decode cX3_hasEvent 17 = .ok (.ireturn, 1) := by decide +kernel
theorem dX3_addEvent_0 : decode cX3_addEvent 0 = .ok (.aload_n 0, 1) := by decide +kernel
theorem dX3_addEvent_1 : decode cX3_addEvent 1 = .ok (.getfield 25, 3) := by decide +kernel
theorem dX3_addEvent_4 : decode cX3_addEvent 4 = .ok (.bipush 40, 2) := by decide +kernel
theorem dX3_addEvent_6 : decode cX3_addEvent 6 = .ok (.if_icmp .lt 5, 3) := by decide +kernel
theorem dX3_addEvent_9 : decode cX3_addEvent 9 = .ok (.iconst 0, 1) := by decide +kernel
theorem dX3_addEvent_10 : decode cX3_addEvent 10 = .ok (.ireturn, 1) := by decide +kernel
theorem dX3_addEvent_11 : decode cX3_addEvent 11 = .ok (.aload_n 0, 1) := by decide +kernel
theorem dX3_addEvent_12 : decode cX3_addEvent 12 = .ok (.getfield 18, 3) := by decide +kernel
theorem dX3_addEvent_15 : decode cX3_addEvent 15 = .ok (.aload_n 0, 1) := by decide +kernel
theorem dX3_addEvent_16 : decode cX3_addEvent 16 = .ok (.getfield 25, 3) := by decide +kernel
theorem dX3_addEvent_19 : decode cX3_addEvent 19 = .ok (.iload_n 1, 1) := by decide +kernel
theorem dX3_addEvent_20 : decode cX3_addEvent 20 = .ok (.iastore, 1) := by decide +kernel
theorem dX3_addEvent_21 : decode cX3_addEvent 21 = .ok (.aload_n 0, 1) := by decide +kernel
theorem dX3_addEvent_22 : decode cX3_addEvent 22 = .ok (.getfield 22, 3) := by decide +kernel
theorem dX3_addEvent_25 : decode cX3_addEvent 25 = .ok (.aload_n 0, 1) := by decide +kernel
theorem dX3_addEvent_26 : decode cX3_addEvent 26 = .ok (.getfield 25, 3) := by decide +kernel
theorem dX3_addEvent_29 : decode cX3_addEvent 29 = .ok (.lload_n 2, 1) := by decide +kernel
theorem dX3_addEvent_30 : decode cX3_addEvent 30 = .ok (.lastore, 1) := by decide +kernel
theorem dX3_addEvent_31 : decode cX3_addEvent 31 = .ok (.aload_n 0, 1) := by decide +kernel
theorem dX3_addEvent_32 : decode cX3_addEvent 32 = .ok (.dup, 1) := by decide +kernel
theorem dX3_addEvent_33 : decode cX3_addEvent 33 = .ok (.getfield 25, 3) := by decide +kernel
theorem dX3_addEvent_36 : decode cX3_addEvent 36 = .ok (.iconst 1, 1) := by decide +kernel
theorem dX3_addEvent_37 : decode cX3_addEvent 37 = .ok (.iadd, 1) := by decide +kernel
theorem dX3_addEvent_38 : decode cX3_addEvent 38 = .ok (.putfield 25, 3) := by decide +kernel
theorem dX3_addEvent_41 : decode cX3_addEvent 41 = .ok (.iconst 1, 1) := by decide +kernel
theorem dX3_addEvent_42 : decode cX3_addEvent 42 = .ok (.ireturn, 1) := by decide +kernel
theorem dX3_canMove_0 : decode cX3_canMove 0 = .ok (.iload_n 1, 1) := by decide +kernel
theorem dX3_canMove_1 : decode cX3_canMove 1 = .ok (.iload_n 2, 1) := by decide +kernel
theorem dX3_canMove_2 : decode cX3_canMove 2 = .ok (.if_icmp .eq 18, 3) := by decide +kernel
theorem dX3_canMove_5 : decode cX3_canMove 5 = .ok (.aload_n 0, 1) := by decide +kernel
theorem dX3_canMove_6 : decode cX3_canMove 6 = .ok (.getfield 15, 3) := by decide +kernel
theorem dX3_canMove_9 : decode cX3_canMove 9 = .ok (.iload_n 2, 1) := by decide +kernel
theorem dX3_canMove_10 : decode cX3_canMove 10 = .ok (.laload, 1) := by decide +kernel
theorem dX3_canMove_11 : decode cX3_canMove 11 = .ok (.ldc2_w 42, 3) := by decide +kernel
theorem dX3_canMove_14 : decode cX3_canMove 14 = .ok (.lload_n 3, 1) := by decide +kernel
theorem dX3_canMove_15 : decode cX3_canMove 15 = .ok (.lsub, 1) := by decide +kernel
theorem dX3_canMove_16 : decode cX3_canMove 16 = .ok (.lcmp, 1) := by decide +kernel
theorem dX3_canMove_17 : decode cX3_canMove 17 = .ok (.ifCond .gt 7, 3) := by decide +kernel
theorem dX3_canMove_20 : decode cX3_canMove 20 = .ok (.iconst 1, 1) := by decide +kernel
theorem dX3_canMove_21 : decode cX3_canMove 21 = .ok (.goto 4, 3) := by decide +kernel
theorem dX3_canMove_24 : decode cX3_canMove 24 = .ok (.iconst 0, 1) := by decide +kernel
theorem dX3_canMove_25 : decode cX3_canMove 25 = .ok (.ireturn, 1) := by decide +kernel
theorem dX3_move_0 : decode cX3_move 0 = .ok (.aload_n 0, 1) := by decide +kernel
theorem dX3_move_1 : decode cX3_move 1 = .ok (.getfield 15, 3) := by decide +kernel
theorem dX3_move_4 : decode cX3_move 4 = .ok (.iload_n 1, 1) := by decide +kernel
theorem dX3_move_5 : decode cX3_move 5 = .ok (.dup2, 1) := by decide +kernel
theorem dX3_move_6 : decode cX3_move 6 = .ok (.laload, 1) := by decide +kernel
theorem dX3_move_7 : decode cX3_move 7 = .ok (.lload_n 3, 1) := by decide +kernel
theorem dX3_move_8 : decode cX3_move 8 = .ok (.lsub, 1) := by decide +kernel
theorem dX3_move_9 : decode cX3_move 9 = .ok (.lastore, 1) := by decide +kernel
theorem dX3_move_10 : decode cX3_move 10 = .ok (.aload_n 0, 1) := by decide +kernel
theorem dX3_move_11 : decode cX3_move 11 = .ok (.getfield 15, 3) := by decide +kernel
theorem dX3_move_14 : decode cX3_move 14 = .ok (.iload_n 2, 1) := by decide +kernel
theorem dX3_move_15 : decode cX3_move 15 = .ok (.dup2, 1) := by decide +kernel
theorem dX3_move_16 : decode cX3_move 16 = .ok (.laload, 1) := by decide +kernel
theorem dX3_move_17 : decode cX3_move 17 = .ok (.lload_n 3, 1) := by decide +kernel
theorem dX3_move_18 : decode cX3_move 18 = .ok (.ladd, 1) := by decide +kernel
theorem dX3_move_19 : decode cX3_move 19 = .ok (.lastore, 1) := by decide +kernel
theorem dX3_move_20 : decode cX3_move 20 = .ok (.return_, 1) := by decide +kernel
theorem dX3_keep_0 : decode cX3_keep 0 = .ok (.aload_n 0, 1) := by decide +kernel
theorem dX3_keep_1 : decode cX3_keep 1 = .ok (.getfield 9, 3) := by decide +kernel
theorem dX3_keep_4 : decode cX3_keep 4 = .ok (.iconst 0, 1) := by decide +kernel
theorem dX3_keep_5 : decode cX3_keep 5 = .ok (.aload_n 0, 1) := by decide +kernel
theorem dX3_keep_6 : decode cX3_keep 6 = .ok (.getfield 31, 3) := by decide +kernel
theorem dX3_keep_9 : decode cX3_keep 9 = .ok (.iload_n 1, 1) := by decide +kernel
theorem dX3_keep_10 : decode cX3_keep 10 = .ok (.aaload, 1) := by decide +kernel
theorem dX3_keep_11 : decode cX3_keep 11 = .ok (.iconst 0, 1) := by decide +kernel
theorem dX3_keep_12 : decode cX3_keep 12 = .ok (.bipush 64, 2) := by decide +kernel
theorem dX3_keep_14 : decode cX3_keep 14 = .ok (.invokestatic 44, 3) := by decide +kernel
theorem dX3_keep_17 : decode cX3_keep 17 = .ok (.aload_n 0, 1) := by decide +kernel
theorem dX3_keep_18 : decode cX3_keep 18 = .ok (.getfield 15, 3) := by decide +kernel
theorem dX3_keep_21 : decode cX3_keep 21 = .ok (.iconst 0, 1) := by decide +kernel
theorem dX3_keep_22 : decode cX3_keep 22 = .ok (.aload_n 0, 1) := by decide +kernel
theorem dX3_keep_23 : decode cX3_keep 23 = .ok (.getfield 34, 3) := by decide +kernel
theorem dX3_keep_26 : decode cX3_keep 26 = .ok (.iload_n 1, 1) := by decide +kernel
theorem dX3_keep_27 : decode cX3_keep 27 = .ok (.aaload, 1) := by decide +kernel
theorem dX3_keep_28 : decode cX3_keep 28 = .ok (.iconst 0, 1) := by decide +kernel
theorem dX3_keep_29 : decode cX3_keep 29 = .ok (.bipush 8, 2) := by decide +kernel
theorem dX3_keep_31 : decode cX3_keep 31 = .ok (.invokestatic 44, 3) := by decide +kernel
theorem dX3_keep_34 : decode cX3_keep 34 = .ok (.aload_n 0, 1) := by decide +kernel
theorem dX3_keep_35 : decode cX3_keep 35 = .ok (.getfield 37, 3) := by decide +kernel
theorem dX3_keep_38 : decode cX3_keep 38 = .ok (.iload_n 1, 1) := by decide +kernel
theorem dX3_keep_39 : decode cX3_keep 39 = .ok (.aload_n 0, 1) := by decide +kernel
theorem dX3_keep_40 : decode cX3_keep 40 = .ok (.getfield 25, 3) := by decide +kernel
theorem dX3_keep_43 : decode cX3_keep 43 = .ok (.iastore, 1) := by decide +kernel
theorem dX3_keep_44 : decode cX3_keep 44 = .ok (.return_, 1) := by decide +kernel
theorem dX3_restore_0 : decode cX3_restore 0 = .ok (.aload_n 0, 1) := by decide +kernel
theorem dX3_restore_1 : decode cX3_restore 1 = .ok (.getfield 31, 3) := by decide +kernel
theorem dX3_restore_4 : decode cX3_restore 4 = .ok (.iload_n 1, 1) := by decide +kernel
theorem dX3_restore_5 : decode cX3_restore 5 = .ok (.aaload, 1) := by decide +kernel
theorem dX3_restore_6 : decode cX3_restore 6 = .ok (.iconst 0, 1) := by decide +kernel
theorem dX3_restore_7 : decode cX3_restore 7 = .ok (.aload_n 0, 1) := by decide +kernel
theorem dX3_restore_8 : decode cX3_restore 8 = .ok (.getfield 9, 3) := by decide +kernel
theorem dX3_restore_11 : decode cX3_restore 11 = .ok (.iconst 0, 1) := by decide +kernel
theorem dX3_restore_12 : decode cX3_restore 12 = .ok (.bipush 64, 2) := by decide +kernel
theorem dX3_restore_14 : decode cX3_restore 14 = .ok (.invokestatic 44, 3) := by decide +kernel
theorem dX3_restore_17 : decode cX3_restore 17 = .ok (.aload_n 0, 1) := by decide +kernel
theorem dX3_restore_18 : decode cX3_restore 18 = .ok (.getfield 34, 3) := by decide +kernel
theorem dX3_restore_21 : decode cX3_restore 21 = .ok (.iload_n 1, 1) := by decide +kernel
theorem dX3_restore_22 : decode cX3_restore 22 = .ok (.aaload, 1) := by decide +kernel
theorem dX3_restore_23 : decode cX3_restore 23 = .ok (.iconst 0, 1) := by decide +kernel
theorem dX3_restore_24 : decode cX3_restore 24 = .ok (.aload_n 0, 1) := by decide +kernel
theorem dX3_restore_25 : decode cX3_restore 25 = .ok (.getfield 15, 3) := by decide +kernel
theorem dX3_restore_28 : decode cX3_restore 28 = .ok (.iconst 0, 1) := by decide +kernel
theorem dX3_restore_29 : decode cX3_restore 29 = .ok (.bipush 8, 2) := by decide +kernel
theorem dX3_restore_31 : decode cX3_restore 31 = .ok (.invokestatic 44, 3) := by decide +kernel
theorem dX3_restore_34 : decode cX3_restore 34 = .ok (.aload_n 0, 1) := by decide +kernel
theorem dX3_restore_35 : decode cX3_restore 35 = .ok (.aload_n 0, 1) := by decide +kernel
theorem dX3_restore_36 : decode cX3_restore 36 = .ok (.getfield 37, 3) := by decide +kernel
theorem dX3_restore_39 : decode cX3_restore 39 = .ok (.iload_n 1, 1) := by decide +kernel
theorem dX3_restore_40 : decode cX3_restore 40 = .ok (.iaload, 1) := by decide +kernel
theorem dX3_restore_41 : decode cX3_restore 41 = .ok (.putfield 25, 3) := by decide +kernel
theorem dX3_restore_44 : decode cX3_restore 44 = .ok (.return_, 1) := by decide +kernel
theorem dX4_init_0 : decode cX4_init 0 = .ok (.aload_n 0, 1) := by decide +kernel
theorem dX4_init_1 : decode cX4_init 1 = .ok (.invokespecial 3, 3) := by decide +kernel
theorem dX4_init_4 : decode cX4_init 4 = .ok (.aload_n 0, 1) := by decide +kernel
theorem dX4_init_5 : decode cX4_init 5 = .ok (.bipush 12, 2) := by decide +kernel
theorem dX4_init_7 : decode cX4_init 7 = .ok (.newarray .int, 2) := by decide +kernel
theorem dX4_init_9 : decode cX4_init 9 = .ok (.putfield 9, 3) := by decide +kernel
theorem dX4_init_12 : decode cX4_init 12 = .ok (.aload_n 0, 1) := by decide +kernel
theorem dX4_init_13 : decode cX4_init 13 = .ok (.bipush 12, 2) := by decide +kernel
theorem dX4_init_15 : decode cX4_init 15 = .ok (.newarray .long, 2) := by decide +kernel
theorem dX4_init_17 : decode cX4_init 17 = .ok (.putfield 15, 3) := by decide +kernel
theorem dX4_init_20 : decode cX4_init 20 = .ok (.aload_n 0, 1) := by decide +kernel
theorem dX4_init_21 : decode cX4_init 21 = .ok (.iconst 0, 1) := by decide +kernel
theorem dX4_init_22 : decode cX4_init 22 = .ok (.putfield 19, 3) := by decide +kernel
theorem dX4_init_25 : decode cX4_init 25 = .ok (.aload_n 0, 1) := by decide +kernel
theorem dX4_init_26 : decode cX4_init 26 = .ok (.iconst 0, 1) := by decide +kernel
theorem dX4_init_27 : decode cX4_init 27 = .ok (.putfield 23, 3) := by decide +kernel
theorem dX4_init_30 : decode cX4_init 30 = .ok (.return_, 1) := by decide +kernel
theorem dX4_allows_0 : decode cX4_allows 0 = .ok (.aload_n 0, 1) := by decide +kernel
theorem dX4_allows_1 : decode cX4_allows 1 = .ok (.getfield 19, 3) := by decide +kernel
theorem dX4_allows_4 : decode cX4_allows 4 = .ok (.iload_n 1, 1) := by decide +kernel
theorem dX4_allows_5 : decode cX4_allows 5 = .ok (.if_icmp .lt 20, 3) := by decide +kernel
theorem dX4_allows_8 : decode cX4_allows 8 = .ok (.aload_n 0, 1) := by decide +kernel
theorem dX4_allows_9 : decode cX4_allows 9 = .ok (.getfield 19, 3) := by decide +kernel
theorem dX4_allows_12 : decode cX4_allows 12 = .ok (.iload_n 1, 1) := by decide +kernel
theorem dX4_allows_13 : decode cX4_allows 13 = .ok (.isub, 1) := by decide +kernel
theorem dX4_allows_14 : decode cX4_allows 14 = .ok (.iload_n 2, 1) := by decide +kernel
theorem dX4_allows_15 : decode cX4_allows 15 = .ok (.iadd, 1) := by decide +kernel
theorem dX4_allows_16 : decode cX4_allows 16 = .ok (.bipush 12, 2) := by decide +kernel
theorem dX4_allows_18 : decode cX4_allows 18 = .ok (.if_icmp .gt 7, 3) := by decide +kernel
theorem dX4_allows_21 : decode cX4_allows 21 = .ok (.iconst 1, 1) := by decide +kernel
theorem dX4_allows_22 : decode cX4_allows 22 = .ok (.goto 4, 3) := by decide +kernel
theorem dX4_allows_25 : decode cX4_allows 25 = .ok (.iconst 0, 1) := by decide +kernel
theorem dX4_allows_26 : decode cX4_allows 26 = .ok (.ireturn, 1) := by decide +kernel
theorem dX4_take_0 : decode cX4_take 0 = .ok (.aload_n 0, 1) := by decide +kernel
theorem dX4_take_1 : decode cX4_take 1 = .ok (.aload_n 0, 1) := by decide +kernel
theorem dX4_take_2 : decode cX4_take 2 = .ok (.getfield 19, 3) := by decide +kernel
theorem dX4_take_5 : decode cX4_take 5 = .ok (.putfield 23, 3) := by decide +kernel
theorem dX4_take_8 : decode cX4_take 8 = .ok (.aload_n 0, 1) := by decide +kernel
theorem dX4_take_9 : decode cX4_take 9 = .ok (.iconst 0, 1) := by decide +kernel
theorem dX4_take_10 : decode cX4_take 10 = .ok (.aload_n 0, 1) := by decide +kernel
theorem dX4_take_11 : decode cX4_take 11 = .ok (.getfield 19, 3) := by decide +kernel
theorem dX4_take_14 : decode cX4_take 14 = .ok (.iload_n 1, 1) := by decide +kernel
theorem dX4_take_15 : decode cX4_take 15 = .ok (.isub, 1) := by decide +kernel
theorem dX4_take_16 : decode cX4_take 16 = .ok (.invokestatic 26, 3) := by decide +kernel
theorem dX4_take_19 : decode cX4_take 19 = .ok (.putfield 19, 3) := by decide +kernel
theorem dX4_take_22 : decode cX4_take 22 = .ok (.return_, 1) := by decide +kernel
theorem dX4_tookKind_0 : decode cX4_tookKind 0 = .ok (.aload_n 0, 1) := by decide +kernel
theorem dX4_tookKind_1 : decode cX4_tookKind 1 = .ok (.getfield 23, 3) := by decide +kernel
theorem dX4_tookKind_4 : decode cX4_tookKind 4 = .ok (.iconst 1, 1) := by decide +kernel
theorem dX4_tookKind_5 : decode cX4_tookKind 5 = .ok (.isub, 1) := by decide +kernel
theorem dX4_tookKind_6 : decode cX4_tookKind 6 = .ok (.iload_n 1, 1) := by decide +kernel
theorem dX4_tookKind_7 : decode cX4_tookKind 7 = .ok (.isub, 1) := by decide +kernel
theorem dX4_tookKind_8 : decode cX4_tookKind 8 = .ok (.istore_n 2, 1) := by decide +kernel
theorem dX4_tookKind_9 : decode cX4_tookKind 9 = .ok (.iload_n 2, 1) := by decide +kernel
theorem dX4_tookKind_10 : decode cX4_tookKind 10 = .ok (.ifCond .lt 18, 3) := by decide +kernel
theorem dX4_tookKind_13 : decode cX4_tookKind 13 = .ok (.iload_n 2, 1) := by decide +kernel
theorem dX4_tookKind_14 : decode cX4_tookKind 14 = .ok (.bipush 12, 2) := by decide +kernel
theorem dX4_tookKind_16 : decode cX4_tookKind 16 = .ok (.if_icmp .ge 12, 3) := by decide +kernel
theorem dX4_tookKind_19 : decode cX4_tookKind 19 = .ok (.aload_n 0, 1) := by decide +kernel
theorem dX4_tookKind_20 : decode cX4_tookKind 20 = .ok (.getfield 9, 3) := by decide +kernel
theorem dX4_tookKind_23 : decode cX4_tookKind 23 = .ok (.iload_n 2, 1) := by decide +kernel
theorem dX4_tookKind_24 : decode cX4_tookKind 24 = .ok (.iaload, 1) := by decide +kernel
theorem dX4_tookKind_25 : decode cX4_tookKind 25 = .ok (.goto 4, 3) := by decide +kernel
theorem dX4_tookKind_28 : decode cX4_tookKind 28 = .ok (.iconst 3, 1) := by decide +kernel
theorem dX4_tookKind_29 : decode cX4_tookKind 29 = .ok (.ireturn, 1) := by decide +kernel
theorem dX4_took_0 : decode cX4_took 0 = .ok (.aload_n 0, 1) := by decide +kernel
theorem dX4_took_1 : decode cX4_took 1 = .ok (.getfield 23, 3) := by decide +kernel
theorem dX4_took_4 : decode cX4_took 4 = .ok (.iconst 1, 1) := by decide +kernel
theorem dX4_took_5 : decode cX4_took 5 = .ok (.isub, 1) := by decide +kernel
theorem dX4_took_6 : decode cX4_took 6 = .ok (.iload_n 1, 1) := by decide +kernel
theorem dX4_took_7 : decode cX4_took 7 = .ok (.isub, 1) := by decide +kernel
theorem dX4_took_8 : decode cX4_took 8 = .ok (.istore_n 2, 1) := by decide +kernel
theorem dX4_took_9 : decode cX4_took 9 = .ok (.iload_n 2, 1) := by decide +kernel
theorem dX4_took_10 : decode cX4_took 10 = .ok (.ifCond .lt 18, 3) := by decide +kernel
theorem dX4_took_13 : decode cX4_took 13 = .ok (.iload_n 2, 1) := by decide +kernel
theorem dX4_took_14 : decode cX4_took 14 = .ok (.bipush 12, 2) := by decide +kernel
theorem dX4_took_16 : decode cX4_took 16 = .ok (.if_icmp .ge 12, 3) := by decide +kernel
theorem dX4_took_19 : decode cX4_took 19 = .ok (.aload_n 0, 1) := by decide +kernel
theorem dX4_took_20 : decode cX4_took 20 = .ok (.getfield 15, 3) := by decide +kernel
theorem dX4_took_23 : decode cX4_took 23 = .ok (.iload_n 2, 1) := by decide +kernel
theorem dX4_took_24 : decode cX4_took 24 = .ok (.laload, 1) := by decide +kernel
theorem dX4_took_25 : decode cX4_took 25 = .ok (.goto 4, 3) := by decide +kernel
theorem dX4_took_28 : decode cX4_took 28 = .ok (.lconst 0, 1) := by decide +kernel
theorem dX4_took_29 : decode cX4_took 29 = .ok (.lreturn, 1) := by decide +kernel
theorem dX4_tookNumber_0 : decode cX4_tookNumber 0 = .ok (.aload_n 0, 1) := by decide +kernel
theorem dX4_tookNumber_1 : decode cX4_tookNumber 1 = .ok (.iload_n 1, 1) := by decide +kernel
theorem dX4_tookNumber_2 : decode cX4_tookNumber 2 = .ok (.invokevirtual 32, 3) := by decide +kernel
theorem dX4_tookNumber_5 : decode cX4_tookNumber 5 = .ok (.ifCond .ne 7, 3) := by decide +kernel
theorem dX4_tookNumber_8 : decode cX4_tookNumber 8 = .ok (.iconst 1, 1) := by decide +kernel
theorem dX4_tookNumber_9 : decode cX4_tookNumber 9 = .ok (.goto 4, 3) := by decide +kernel
theorem dX4_tookNumber_12 : decode cX4_tookNumber 12 = .ok (.iconst 0, 1) := by decide +kernel
theorem dX4_tookNumber_13 : decode cX4_tookNumber 13 = .ok (.ireturn, 1) := by decide +kernel
theorem dX4_put_0 : decode cX4_put 0 = .ok (.aload_n 0, 1) := by decide +kernel
theorem dX4_put_1 : decode cX4_put 1 = .ok (.getfield 19, 3) := by decide +kernel
theorem dX4_put_4 : decode cX4_put 4 = .ok (.ifCond .lt 12, 3) := by decide +kernel
theorem dX4_put_7 : decode cX4_put 7 = .ok (.aload_n 0, 1) := by decide +kernel
theorem dX4_put_8 : decode cX4_put 8 = .ok (.getfield 19, 3) := by decide +kernel
theorem dX4_put_11 : decode cX4_put 11 = .ok (.bipush 12, 2) := by decide +kernel
theorem dX4_put_13 : decode cX4_put 13 = .ok (.if_icmp .lt 6, 3) := by decide +kernel
theorem dX4_put_16 : decode cX4_put 16 = .ok (.bipush 11, 2) := by decide +kernel
theorem dX4_put_18 : decode cX4_put 18 = .ok (.ireturn, 1) := by decide +kernel
theorem dX4_put_19 : decode cX4_put 19 = .ok (.aload_n 0, 1) := by decide +kernel
theorem dX4_put_20 : decode cX4_put 20 = .ok (.getfield 9, 3) := by decide +kernel
theorem dX4_put_23 : decode cX4_put 23 = .ok (.aload_n 0, 1) := by decide +kernel
theorem dX4_put_24 : decode cX4_put 24 = .ok (.getfield 19, 3) := by decide +kernel
theorem dX4_put_27 : decode cX4_put 27 = .ok (.iload_n 1, 1) := by decide +kernel
theorem dX4_put_28 : decode cX4_put 28 = .ok (.iastore, 1) := by decide +kernel
theorem dX4_put_29 : decode cX4_put 29 = .ok (.aload_n 0, 1) := by decide +kernel
theorem dX4_put_30 : decode cX4_put 30 = .ok (.getfield 15, 3) := by decide +kernel
theorem dX4_put_33 : decode cX4_put 33 = .ok (.aload_n 0, 1) := by decide +kernel
theorem dX4_put_34 : decode cX4_put 34 = .ok (.getfield 19, 3) := by decide +kernel
theorem dX4_put_37 : decode cX4_put 37 = .ok (.lload_n 2, 1) := by decide +kernel
theorem dX4_put_38 : decode cX4_put 38 = .ok (.lastore, 1) := by decide +kernel
theorem dX4_put_39 : decode cX4_put 39 = .ok (.aload_n 0, 1) := by decide +kernel
theorem dX4_put_40 : decode cX4_put 40 = .ok (.dup, 1) := by decide +kernel
theorem dX4_put_41 : decode cX4_put 41 = .ok (.getfield 19, 3) := by decide +kernel
theorem dX4_put_44 : decode cX4_put 44 = .ok (.iconst 1, 1) := by decide +kernel
theorem dX4_put_45 : decode cX4_put 45 = .ok (.iadd, 1) := by decide +kernel
theorem dX4_put_46 : decode cX4_put 46 = .ok (.putfield 19, 3) := by decide +kernel
theorem dX4_put_49 : decode cX4_put 49 = .ok (.iconst 0, 1) := by decide +kernel
theorem dX4_put_50 : decode cX4_put 50 = .ok (.ireturn, 1) := by decide +kernel
theorem dX4_putNumber_0 : decode cX4_putNumber 0 = .ok (.aload_n 0, 1) := by decide +kernel
theorem dX4_putNumber_1 : decode cX4_putNumber 1 = .ok (.iconst 0, 1) := by decide +kernel
theorem dX4_putNumber_2 : decode cX4_putNumber 2 = .ok (.lload_n 1, 1) := by decide +kernel
theorem dX4_putNumber_3 : decode cX4_putNumber 3 = .ok (.invokevirtual 36, 3) := by decide +kernel
theorem dX4_putNumber_6 : decode cX4_putNumber 6 = .ok (.ireturn, 1) := by decide +kernel
theorem dX4_freeRow_0 : decode cX4_freeRow 0 = .ok (.iconst 0, 1) := by decide +kernel
theorem dX4_freeRow_1 : decode cX4_freeRow 1 = .ok (.istore_n 1, 1) := by decide +kernel
theorem dX4_freeRow_2 : decode cX4_freeRow 2 = .ok (.iconst 0, 1) := by decide +kernel
theorem dX4_freeRow_3 : decode cX4_freeRow 3 = .ok (.istore_n 2, 1) := by decide +kernel
theorem dX4_freeRow_4 : decode cX4_freeRow 4 = .ok (.iload_n 2, 1) := by decide +kernel
theorem dX4_freeRow_5 : decode cX4_freeRow 5 = .ok (.aload_n 0, 1) := by decide +kernel
theorem dX4_freeRow_6 : decode cX4_freeRow 6 = .ok (.getfield 19, 3) := by decide +kernel
theorem dX4_freeRow_9 : decode cX4_freeRow 9 = .ok (.if_icmp .ge 47, 3) := by decide +kernel
theorem dX4_freeRow_12 : decode cX4_freeRow 12 = .ok (.iload_n 2, 1) := by decide +kernel
theorem dX4_freeRow_13 : decode cX4_freeRow 13 = .ok (.bipush 12, 2) := by decide +kernel
theorem dX4_freeRow_15 : decode cX4_freeRow 15 = .ok (.if_icmp .ge 41, 3) := by decide +kernel
theorem dX4_freeRow_18 : decode cX4_freeRow 18 = .ok (.aload_n 0, 1) := by decide +kernel
theorem dX4_freeRow_19 : decode cX4_freeRow 19 = .ok (.getfield 9, 3) := by decide +kernel
theorem dX4_freeRow_22 : decode cX4_freeRow 22 = .ok (.iload_n 2, 1) := by decide +kernel
theorem dX4_freeRow_23 : decode cX4_freeRow 23 = .ok (.iaload, 1) := by decide +kernel
theorem dX4_freeRow_24 : decode cX4_freeRow 24 = .ok (.iconst 1, 1) := by decide +kernel
theorem dX4_freeRow_25 : decode cX4_freeRow 25 = .ok (.if_icmp .eq 13, 3) := by decide +kernel
theorem dX4_freeRow_28 : decode cX4_freeRow 28 = .ok (.aload_n 0, 1) := by decide +kernel
theorem dX4_freeRow_29 : decode cX4_freeRow 29 = .ok (.getfield 9, 3) := by decide +kernel
theorem dX4_freeRow_32 : decode cX4_freeRow 32 = .ok (.iload_n 2, 1) := by decide +kernel
theorem dX4_freeRow_33 : decode cX4_freeRow 33 = .ok (.iaload, 1) := by decide +kernel
theorem dX4_freeRow_34 : decode cX4_freeRow 34 = .ok (.iconst 2, 1) := by decide +kernel
theorem dX4_freeRow_35 : decode cX4_freeRow 35 = .ok (.if_icmp .ne 15, 3) := by decide +kernel
theorem dX4_freeRow_38 : decode cX4_freeRow 38 = .ok (.iload_n 1, 1) := by decide +kernel
theorem dX4_freeRow_39 : decode cX4_freeRow 39 = .ok (.iconst 1, 1) := by decide +kernel
theorem dX4_freeRow_40 : decode cX4_freeRow 40 = .ok (.aload_n 0, 1) := by decide +kernel
theorem dX4_freeRow_41 : decode cX4_freeRow 41 = .ok (.getfield 15, 3) := by decide +kernel
theorem dX4_freeRow_44 : decode cX4_freeRow 44 = .ok (.iload_n 2, 1) := by decide +kernel
theorem dX4_freeRow_45 : decode cX4_freeRow 45 = .ok (.laload, 1) := by decide +kernel
theorem dX4_freeRow_46 : decode cX4_freeRow 46 = .ok (.l2i, 1) := by decide +kernel
theorem dX4_freeRow_47 : decode cX4_freeRow 47 = .ok (.ishl, 1) := by decide +kernel
theorem dX4_freeRow_48 : decode cX4_freeRow 48 = .ok (.ior, 1) := by decide +kernel
theorem dX4_freeRow_49 : decode cX4_freeRow 49 = .ok (.istore_n 1, 1) := by decide +kernel
theorem dX4_freeRow_50 : decode cX4_freeRow 50 = .ok (.iinc 2 1, 3) := by decide +kernel
theorem dX4_freeRow_53 : decode cX4_freeRow 53 = .ok (.goto (-49), 3) := by decide +kernel
theorem dX4_freeRow_56 : decode cX4_freeRow 56 = .ok (.iconst 0, 1) := by decide +kernel
theorem dX4_freeRow_57 : decode cX4_freeRow 57 = .ok (.istore_n 2, 1) := by decide +kernel
theorem dX4_freeRow_58 : decode cX4_freeRow 58 = .ok (.iload_n 2, 1) := by decide +kernel
theorem dX4_freeRow_59 : decode cX4_freeRow 59 = .ok (.bipush 12, 2) := by decide +kernel
theorem dX4_freeRow_61 : decode cX4_freeRow 61 = .ok (.if_icmp .ge 19, 3) := by decide +kernel
theorem dX4_freeRow_64 : decode cX4_freeRow 64 = .ok (.iload_n 1, 1) := by decide +kernel
theorem dX4_freeRow_65 : decode cX4_freeRow 65 = .ok (.iload_n 2, 1) := by decide +kernel
theorem dX4_freeRow_66 : decode cX4_freeRow 66 = .ok (.ishr, 1) := by decide +kernel
theorem dX4_freeRow_67 : decode cX4_freeRow 67 = .ok (.iconst 1, 1) := by decide +kernel
theorem dX4_freeRow_68 : decode cX4_freeRow 68 = .ok (.iand, 1) := by decide +kernel
theorem dX4_freeRow_69 : decode cX4_freeRow 69 = .ok (.ifCond .ne 5, 3) := by decide +kernel
theorem dX4_freeRow_72 : decode cX4_freeRow 72 = .ok (.iload_n 2, 1) := by decide +kernel
theorem dX4_freeRow_73 : decode cX4_freeRow 73 = .ok (.ireturn, 1) := by decide +kernel
theorem dX4_freeRow_74 : decode cX4_freeRow 74 = .ok (.iinc 2 1, 3) := by decide +kernel
theorem dX4_freeRow_77 : decode cX4_freeRow 77 = .ok (.goto (-19), 3) := by decide +kernel
theorem dX4_freeRow_80 : decode cX4_freeRow 80 = .ok (.iconst (-1), 1) := by decide +kernel
theorem dX4_freeRow_81 : decode cX4_freeRow 81 = .ok (.ireturn, 1) := by decide +kernel
theorem dX5_init_0 : decode cX5_init 0 = .ok (.aload_n 0, 1) := by decide +kernel
theorem dX5_init_1 : decode cX5_init 1 = .ok (.invokespecial 3, 3) := by decide +kernel
theorem dX5_init_4 : decode cX5_init 4 = .ok (.aload_n 0, 1) := by decide +kernel
theorem dX5_init_5 : decode cX5_init 5 = .ok (.sipush 192, 3) := by decide +kernel
theorem dX5_init_8 : decode cX5_init 8 = .ok (.newarray .long, 2) := by decide +kernel
theorem dX5_init_10 : decode cX5_init 10 = .ok (.putfield 9, 3) := by decide +kernel
theorem dX5_init_13 : decode cX5_init 13 = .ok (.aload_n 0, 1) := by decide +kernel
theorem dX5_init_14 : decode cX5_init 14 = .ok (.bipush 12, 2) := by decide +kernel
theorem dX5_init_16 : decode cX5_init 16 = .ok (.newarray .int, 2) := by decide +kernel
theorem dX5_init_18 : decode cX5_init 18 = .ok (.putfield 15, 3) := by decide +kernel
theorem dX5_init_21 : decode cX5_init 21 = .ok (.aload_n 0, 1) := by decide +kernel
theorem dX5_init_22 : decode cX5_init 22 = .ok (.aload_n 1, 1) := by decide +kernel
theorem dX5_init_23 : decode cX5_init 23 = .ok (.putfield 19, 3) := by decide +kernel
theorem dX5_init_26 : decode cX5_init 26 = .ok (.return_, 1) := by decide +kernel
theorem dX5_putNew_0 : decode cX5_putNew 0 = .ok (.aload_n 0, 1) := by decide +kernel
theorem dX5_putNew_1 : decode cX5_putNew 1 = .ok (.getfield 19, 3) := by decide +kernel
theorem dX5_putNew_4 : decode cX5_putNew 4 = .ok (.iconst 0, 1) := by decide +kernel
theorem dX5_putNew_5 : decode cX5_putNew 5 = .ok (.invokevirtual 23, 3) := by decide +kernel
theorem dX5_putNew_8 : decode cX5_putNew 8 = .ok (.ifCond .ne 5, 3) := by decide +kernel
theorem dX5_putNew_11 : decode cX5_putNew 11 = .ok (.iconst 4, 1) := by decide +kernel
theorem dX5_putNew_12 : decode cX5_putNew 12 = .ok (.ireturn, 1) := by decide +kernel
theorem dX5_putNew_13 : decode cX5_putNew 13 = .ok (.aload_n 0, 1) := by decide +kernel
theorem dX5_putNew_14 : decode cX5_putNew 14 = .ok (.getfield 19, 3) := by decide +kernel
theorem dX5_putNew_17 : decode cX5_putNew 17 = .ok (.iconst 0, 1) := by decide +kernel
theorem dX5_putNew_18 : decode cX5_putNew 18 = .ok (.invokevirtual 29, 3) := by decide +kernel
theorem dX5_putNew_21 : decode cX5_putNew 21 = .ok (.lstore_n 2, 1) := by decide +kernel
theorem dX5_putNew_22 : decode cX5_putNew 22 = .ok (.lload_n 2, 1) := by decide +kernel
theorem dX5_putNew_23 : decode cX5_putNew 23 = .ok (.lconst 0, 1) := by decide +kernel
theorem dX5_putNew_24 : decode cX5_putNew 24 = .ok (.lcmp, 1) := by decide +kernel
theorem dX5_putNew_25 : decode cX5_putNew 25 = .ok (.ifCond .ge 5, 3) := by decide +kernel
theorem dX5_putNew_28 : decode cX5_putNew 28 = .ok (.iconst 5, 1) := by decide +kernel
theorem dX5_putNew_29 : decode cX5_putNew 29 = .ok (.ireturn, 1) := by decide +kernel
theorem dX5_putNew_30 : decode cX5_putNew 30 = .ok (.lload_n 2, 1) := by decide +kernel
theorem dX5_putNew_31 : decode cX5_putNew 31 = .ok (.ldc2_w 33, 3) := by decide +kernel
theorem dX5_putNew_34 : decode cX5_putNew 34 = .ok (.lcmp, 1) := by decide +kernel
theorem dX5_putNew_35 : decode cX5_putNew 35 = .ok (.ifCond .le 6, 3) := by decide +kernel
theorem dX5_putNew_38 : decode cX5_putNew 38 = .ok (.bipush 6, 2) := by decide +kernel
theorem dX5_putNew_40 : decode cX5_putNew 40 = .ok (.ireturn, 1) := by decide +kernel
theorem dX5_putNew_41 : decode cX5_putNew 41 = .ok (.aload_n 0, 1) := by decide +kernel
theorem dX5_putNew_42 : decode cX5_putNew 42 = .ok (.getfield 19, 3) := by decide +kernel
theorem dX5_putNew_45 : decode cX5_putNew 45 = .ok (.invokevirtual 35, 3) := by decide +kernel
theorem dX5_putNew_48 : decode cX5_putNew 48 = .ok (.istore 4, 2) := by decide +kernel
theorem dX5_putNew_50 : decode cX5_putNew 50 = .ok (.iload 4, 2) := by decide +kernel
theorem dX5_putNew_52 : decode cX5_putNew 52 = .ok (.ifCond .ge 6, 3) := by decide +kernel
theorem dX5_putNew_55 : decode cX5_putNew 55 = .ok (.bipush 11, 2) := by decide +kernel
theorem dX5_putNew_57 : decode cX5_putNew 57 = .ok (.ireturn, 1) := by decide +kernel
theorem dX5_putNew_58 : decode cX5_putNew 58 = .ok (.aload_n 0, 1) := by decide +kernel
theorem dX5_putNew_59 : decode cX5_putNew 59 = .ok (.getfield 15, 3) := by decide +kernel
theorem dX5_putNew_62 : decode cX5_putNew 62 = .ok (.iload 4, 2) := by decide +kernel
theorem dX5_putNew_64 : decode cX5_putNew 64 = .ok (.lload_n 2, 1) := by decide +kernel
theorem dX5_putNew_65 : decode cX5_putNew 65 = .ok (.l2i, 1) := by decide +kernel
theorem dX5_putNew_66 : decode cX5_putNew 66 = .ok (.iastore, 1) := by decide +kernel
theorem dX5_putNew_67 : decode cX5_putNew 67 = .ok (.iconst 0, 1) := by decide +kernel
theorem dX5_putNew_68 : decode cX5_putNew 68 = .ok (.istore 5, 2) := by decide +kernel
theorem dX5_putNew_70 : decode cX5_putNew 70 = .ok (.iload 5, 2) := by decide +kernel
theorem dX5_putNew_72 : decode cX5_putNew 72 = .ok (.i2l, 1) := by decide +kernel
theorem dX5_putNew_73 : decode cX5_putNew 73 = .ok (.lload_n 2, 1) := by decide +kernel
theorem dX5_putNew_74 : decode cX5_putNew 74 = .ok (.lcmp, 1) := by decide +kernel
theorem dX5_putNew_75 : decode cX5_putNew 75 = .ok (.ifCond .ge 23, 3) := by decide +kernel
theorem dX5_putNew_78 : decode cX5_putNew 78 = .ok (.aload_n 0, 1) := by decide +kernel
theorem dX5_putNew_79 : decode cX5_putNew 79 = .ok (.getfield 9, 3) := by decide +kernel
theorem dX5_putNew_82 : decode cX5_putNew 82 = .ok (.iload 4, 2) := by decide +kernel
theorem dX5_putNew_84 : decode cX5_putNew 84 = .ok (.bipush 16, 2) := by decide +kernel
theorem dX5_putNew_86 : decode cX5_putNew 86 = .ok (.imul, 1) := by decide +kernel
theorem dX5_putNew_87 : decode cX5_putNew 87 = .ok (.iload 5, 2) := by decide +kernel
theorem dX5_putNew_89 : decode cX5_putNew 89 = .ok (.iadd, 1) := by decide +kernel
theorem dX5_putNew_90 : decode cX5_putNew 90 = .ok (.lconst 0, 1) := by decide +kernel
theorem dX5_putNew_91 : decode cX5_putNew 91 = .ok (.lastore, 1) := by decide +kernel
theorem dX5_putNew_92 : decode cX5_putNew 92 = .ok (.iinc 5 1, 3) := by decide +kernel
theorem dX5_putNew_95 : decode cX5_putNew 95 = .ok (.goto (-25), 3) := by decide +kernel
theorem dX5_putNew_98 : decode cX5_putNew 98 = .ok (.aload_n 0, 1) := by decide +kernel
theorem dX5_putNew_99 : decode cX5_putNew 99 = .ok (.getfield 19, 3) := by decide +kernel
theorem dX5_putNew_102 : decode cX5_putNew 102 = .ok (.iload_n 1, 1) := by decide +kernel
theorem dX5_putNew_103 : decode cX5_putNew 103 = .ok (.iload 4, 2) := by decide +kernel
theorem dX5_putNew_105 : decode cX5_putNew 105 = .ok (.i2l, 1) := by decide +kernel
theorem dX5_putNew_106 : decode cX5_putNew 106 = .ok (.invokevirtual 39, 3) := by decide +kernel
theorem dX5_putNew_109 : decode cX5_putNew 109 = .ok (.ireturn, 1) := by decide +kernel
theorem dX5_putCopy_0 : decode cX5_putCopy 0 = .ok (.aload_n 0, 1) := by decide +kernel
theorem dX5_putCopy_1 : decode cX5_putCopy 1 = .ok (.getfield 19, 3) := by decide +kernel
theorem dX5_putCopy_4 : decode cX5_putCopy 4 = .ok (.invokevirtual 35, 3) := by decide +kernel
theorem dX5_putCopy_7 : decode cX5_putCopy 7 = .ok (.istore 5, 2) := by decide +kernel
theorem dX5_putCopy_9 : decode cX5_putCopy 9 = .ok (.iload 5, 2) := by decide +kernel
theorem dX5_putCopy_11 : decode cX5_putCopy 11 = .ok (.ifCond .ge 6, 3) := by decide +kernel
theorem dX5_putCopy_14 : decode cX5_putCopy 14 = .ok (.bipush 11, 2) := by decide +kernel
theorem dX5_putCopy_16 : decode cX5_putCopy 16 = .ok (.ireturn, 1) := by decide +kernel
theorem dX5_putCopy_17 : decode cX5_putCopy 17 = .ok (.aload_n 0, 1) := by decide +kernel
theorem dX5_putCopy_18 : decode cX5_putCopy 18 = .ok (.getfield 15, 3) := by decide +kernel
theorem dX5_putCopy_21 : decode cX5_putCopy 21 = .ok (.iload 5, 2) := by decide +kernel
theorem dX5_putCopy_23 : decode cX5_putCopy 23 = .ok (.aload_n 2, 1) := by decide +kernel
theorem dX5_putCopy_24 : decode cX5_putCopy 24 = .ok (.lload_n 3, 1) := by decide +kernel
theorem dX5_putCopy_25 : decode cX5_putCopy 25 = .ok (.invokevirtual 43, 3) := by decide +kernel
theorem dX5_putCopy_28 : decode cX5_putCopy 28 = .ok (.iastore, 1) := by decide +kernel
theorem dX5_putCopy_29 : decode cX5_putCopy 29 = .ok (.aload_n 0, 1) := by decide +kernel
theorem dX5_putCopy_30 : decode cX5_putCopy 30 = .ok (.getfield 15, 3) := by decide +kernel
theorem dX5_putCopy_33 : decode cX5_putCopy 33 = .ok (.iload 5, 2) := by decide +kernel
theorem dX5_putCopy_35 : decode cX5_putCopy 35 = .ok (.iaload, 1) := by decide +kernel
theorem dX5_putCopy_36 : decode cX5_putCopy 36 = .ok (.ifCond .le 39, 3) := by decide +kernel
theorem dX5_putCopy_39 : decode cX5_putCopy 39 = .ok (.aload_n 2, 1) := by decide +kernel
theorem dX5_putCopy_40 : decode cX5_putCopy 40 = .ok (.lload_n 3, 1) := by decide +kernel
theorem dX5_putCopy_41 : decode cX5_putCopy 41 = .ok (.lconst 0, 1) := by decide +kernel
theorem dX5_putCopy_42 : decode cX5_putCopy 42 = .ok (.invokevirtual 47, 3) := by decide +kernel
theorem dX5_putCopy_45 : decode cX5_putCopy 45 = .ok (.istore 6, 2) := by decide +kernel
theorem dX5_putCopy_47 : decode cX5_putCopy 47 = .ok (.aload_n 2, 1) := by decide +kernel
theorem dX5_putCopy_48 : decode cX5_putCopy 48 = .ok (.getfield 9, 3) := by decide +kernel
theorem dX5_putCopy_51 : decode cX5_putCopy 51 = .ok (.iload 6, 2) := by decide +kernel
theorem dX5_putCopy_53 : decode cX5_putCopy 53 = .ok (.aload_n 0, 1) := by decide +kernel
theorem dX5_putCopy_54 : decode cX5_putCopy 54 = .ok (.getfield 9, 3) := by decide +kernel
theorem dX5_putCopy_57 : decode cX5_putCopy 57 = .ok (.aload_n 0, 1) := by decide +kernel
theorem dX5_putCopy_58 : decode cX5_putCopy 58 = .ok (.iload 5, 2) := by decide +kernel
theorem dX5_putCopy_60 : decode cX5_putCopy 60 = .ok (.i2l, 1) := by decide +kernel
theorem dX5_putCopy_61 : decode cX5_putCopy 61 = .ok (.lconst 0, 1) := by decide +kernel
theorem dX5_putCopy_62 : decode cX5_putCopy 62 = .ok (.invokevirtual 47, 3) := by decide +kernel
theorem dX5_putCopy_65 : decode cX5_putCopy 65 = .ok (.aload_n 0, 1) := by decide +kernel
theorem dX5_putCopy_66 : decode cX5_putCopy 66 = .ok (.getfield 15, 3) := by decide +kernel
theorem dX5_putCopy_69 : decode cX5_putCopy 69 = .ok (.iload 5, 2) := by decide +kernel
theorem dX5_putCopy_71 : decode cX5_putCopy 71 = .ok (.iaload, 1) := by decide +kernel
theorem dX5_putCopy_72 : decode cX5_putCopy 72 = .ok (.invokestatic 51, 3) := by decide +kernel
theorem dX5_putCopy_75 : decode cX5_putCopy 75 = .ok (.aload_n 0, 1) := by decide +kernel
theorem dX5_putCopy_76 : decode cX5_putCopy 76 = .ok (.getfield 19, 3) := by decide +kernel
theorem dX5_putCopy_79 : decode cX5_putCopy 79 = .ok (.iload_n 1, 1) := by decide +kernel
theorem dX5_putCopy_80 : decode cX5_putCopy 80 = .ok (.iload 5, 2) := by decide +kernel
theorem dX5_putCopy_82 : decode cX5_putCopy 82 = .ok (.i2l, 1) := by decide +kernel
theorem dX5_putCopy_83 : decode cX5_putCopy 83 = .ok (.invokevirtual 39, 3) := by decide +kernel
theorem dX5_putCopy_86 : decode cX5_putCopy 86 = .ok (.ireturn, 1) := by decide +kernel
theorem dX5_putElement_0 : decode cX5_putElement 0 = .ok (.aload_n 0, 1) := by decide +kernel
theorem dX5_putElement_1 : decode cX5_putElement 1 = .ok (.getfield 19, 3) := by decide +kernel
theorem dX5_putElement_4 : decode cX5_putElement 4 = .ok (.iconst 0, 1) := by decide +kernel
theorem dX5_putElement_5 : decode cX5_putElement 5 = .ok (.invokevirtual 23, 3) := by decide +kernel
theorem dX5_putElement_8 : decode cX5_putElement 8 = .ok (.ifCond .ne 5, 3) := by decide +kernel
theorem dX5_putElement_11 : decode cX5_putElement 11 = .ok (.iconst 4, 1) := by decide +kernel
theorem dX5_putElement_12 : decode cX5_putElement 12 = .ok (.ireturn, 1) := by decide +kernel
theorem dX5_putElement_13 : decode cX5_putElement 13 = .ok (.aload_n 0, 1) := by decide +kernel
theorem dX5_putElement_14 : decode cX5_putElement 14 = .ok (.getfield 19, 3) := by decide +kernel
theorem dX5_putElement_17 : decode cX5_putElement 17 = .ok (.iconst 0, 1) := by decide +kernel
theorem dX5_putElement_18 : decode cX5_putElement 18 = .ok (.invokevirtual 29, 3) := by decide +kernel
theorem dX5_putElement_21 : decode cX5_putElement 21 = .ok (.lstore_n 2, 1) := by decide +kernel
theorem dX5_putElement_22 : decode cX5_putElement 22 = .ok (.aload_n 0, 1) := by decide +kernel
theorem dX5_putElement_23 : decode cX5_putElement 23 = .ok (.getfield 19, 3) := by decide +kernel
theorem dX5_putElement_26 : decode cX5_putElement 26 = .ok (.iconst 1, 1) := by decide +kernel
theorem dX5_putElement_27 : decode cX5_putElement 27 = .ok (.invokevirtual 29, 3) := by decide +kernel
theorem dX5_putElement_30 : decode cX5_putElement 30 = .ok (.lstore 4, 2) := by decide +kernel
theorem dX5_putElement_32 : decode cX5_putElement 32 = .ok (.aload_n 0, 1) := by decide +kernel
theorem dX5_putElement_33 : decode cX5_putElement 33 = .ok (.iload_n 1, 1) := by decide +kernel
theorem dX5_putElement_34 : decode cX5_putElement 34 = .ok (.aload_n 0, 1) := by decide +kernel
theorem dX5_putElement_35 : decode cX5_putElement 35 = .ok (.getfield 19, 3) := by decide +kernel
theorem dX5_putElement_38 : decode cX5_putElement 38 = .ok (.iconst 1, 1) := by decide +kernel
theorem dX5_putElement_39 : decode cX5_putElement 39 = .ok (.invokevirtual 57, 3) := by decide +kernel
theorem dX5_putElement_42 : decode cX5_putElement 42 = .ok (.lload 4, 2) := by decide +kernel
theorem dX5_putElement_44 : decode cX5_putElement 44 = .ok (.lload_n 2, 1) := by decide +kernel
theorem dX5_putElement_45 : decode cX5_putElement 45 = .ok (.invokevirtual 61, 3) := by decide +kernel
theorem dX5_putElement_48 : decode cX5_putElement 48 = .ok (.istore 6, 2) := by decide +kernel
theorem dX5_putElement_50 : decode cX5_putElement 50 = .ok (.iload 6, 2) := by decide +kernel
theorem dX5_putElement_52 : decode cX5_putElement 52 = .ok (.ifCond .ne 25, 3) := by decide +kernel
theorem dX5_putElement_55 : decode cX5_putElement 55 = .ok (.aload_n 0, 1) := by decide +kernel
theorem dX5_putElement_56 : decode cX5_putElement 56 = .ok (.getfield 19, 3) := by decide +kernel
theorem dX5_putElement_59 : decode cX5_putElement 59 = .ok (.aload_n 0, 1) := by decide +kernel
theorem dX5_putElement_60 : decode cX5_putElement 60 = .ok (.getfield 9, 3) := by decide +kernel
theorem dX5_putElement_63 : decode cX5_putElement 63 = .ok (.aload_n 0, 1) := by decide +kernel
theorem dX5_putElement_64 : decode cX5_putElement 64 = .ok (.lload 4, 2) := by decide +kernel
theorem dX5_putElement_66 : decode cX5_putElement 66 = .ok (.lload_n 2, 1) := by decide +kernel
theorem dX5_putElement_67 : decode cX5_putElement 67 = .ok (.invokevirtual 47, 3) := by decide +kernel
theorem dX5_putElement_70 : decode cX5_putElement 70 = .ok (.laload, 1) := by decide +kernel
theorem dX5_putElement_71 : decode cX5_putElement 71 = .ok (.invokevirtual 65, 3) := by decide +kernel
theorem dX5_putElement_74 : decode cX5_putElement 74 = .ok (.goto 5, 3) := by decide +kernel
theorem dX5_putElement_77 : decode cX5_putElement 77 = .ok (.iload 6, 2) := by decide +kernel
theorem dX5_putElement_79 : decode cX5_putElement 79 = .ok (.ireturn, 1) := by decide +kernel
theorem dX5_changeElement_0 : decode cX5_changeElement 0 = .ok (.aload_n 0, 1) := by decide +kernel
theorem dX5_changeElement_1 : decode cX5_changeElement 1 = .ok (.getfield 19, 3) := by decide +kernel
theorem dX5_changeElement_4 : decode cX5_changeElement 4 = .ok (.iconst 0, 1) := by decide +kernel
theorem dX5_changeElement_5 : decode cX5_changeElement 5 = .ok (.invokevirtual 23, 3) := by decide +kernel
theorem dX5_changeElement_8 : decode cX5_changeElement 8 = .ok (.ifCond .eq 14, 3) := by decide +kernel
theorem dX5_changeElement_11 : decode cX5_changeElement 11 = .ok (.aload_n 0, 1) := by decide +kernel
theorem dX5_changeElement_12 : decode cX5_changeElement 12 = .ok (.getfield 19, 3) := by decide +kernel
theorem dX5_changeElement_15 : decode cX5_changeElement 15 = .ok (.iconst 1, 1) := by decide +kernel
theorem dX5_changeElement_16 : decode cX5_changeElement 16 = .ok (.invokevirtual 23, 3) := by decide +kernel
theorem dX5_changeElement_19 : decode cX5_changeElement 19 = .ok (.ifCond .ne 5, 3) := by decide +kernel
theorem dX5_changeElement_22 : decode cX5_changeElement 22 = .ok (.iconst 4, 1) := by decide +kernel
theorem dX5_changeElement_23 : decode cX5_changeElement 23 = .ok (.ireturn, 1) := by decide +kernel
theorem dX5_changeElement_24 : decode cX5_changeElement 24 = .ok (.aload_n 0, 1) := by decide +kernel
theorem dX5_changeElement_25 : decode cX5_changeElement 25 = .ok (.getfield 19, 3) := by decide +kernel
theorem dX5_changeElement_28 : decode cX5_changeElement 28 = .ok (.iconst 0, 1) := by decide +kernel
theorem dX5_changeElement_29 : decode cX5_changeElement 29 = .ok (.invokevirtual 29, 3) := by decide +kernel
theorem dX5_changeElement_32 : decode cX5_changeElement 32 = .ok (.lstore_n 2, 1) := by decide +kernel
theorem dX5_changeElement_33 : decode cX5_changeElement 33 = .ok (.aload_n 0, 1) := by decide +kernel
theorem dX5_changeElement_34 : decode cX5_changeElement 34 = .ok (.getfield 19, 3) := by decide +kernel
theorem dX5_changeElement_37 : decode cX5_changeElement 37 = .ok (.iconst 1, 1) := by decide +kernel
theorem dX5_changeElement_38 : decode cX5_changeElement 38 = .ok (.invokevirtual 29, 3) := by decide +kernel
theorem dX5_changeElement_41 : decode cX5_changeElement 41 = .ok (.lstore 4, 2) := by decide +kernel
theorem dX5_changeElement_43 : decode cX5_changeElement 43 = .ok (.aload_n 0, 1) := by decide +kernel
theorem dX5_changeElement_44 : decode cX5_changeElement 44 = .ok (.getfield 19, 3) := by decide +kernel
theorem dX5_changeElement_47 : decode cX5_changeElement 47 = .ok (.iconst 2, 1) := by decide +kernel
theorem dX5_changeElement_48 : decode cX5_changeElement 48 = .ok (.invokevirtual 29, 3) := by decide +kernel
theorem dX5_changeElement_51 : decode cX5_changeElement 51 = .ok (.lstore 6, 2) := by decide +kernel
theorem dX5_changeElement_53 : decode cX5_changeElement 53 = .ok (.aload_n 0, 1) := by decide +kernel
theorem dX5_changeElement_54 : decode cX5_changeElement 54 = .ok (.iload_n 1, 1) := by decide +kernel
theorem dX5_changeElement_55 : decode cX5_changeElement 55 = .ok (.aload_n 0, 1) := by decide +kernel
theorem dX5_changeElement_56 : decode cX5_changeElement 56 = .ok (.getfield 19, 3) := by decide +kernel
theorem dX5_changeElement_59 : decode cX5_changeElement 59 = .ok (.iconst 2, 1) := by decide +kernel
theorem dX5_changeElement_60 : decode cX5_changeElement 60 = .ok (.invokevirtual 57, 3) := by decide +kernel
theorem dX5_changeElement_63 : decode cX5_changeElement 63 = .ok (.lload 6, 2) := by decide +kernel
theorem dX5_changeElement_65 : decode cX5_changeElement 65 = .ok (.lload 4, 2) := by decide +kernel
theorem dX5_changeElement_67 : decode cX5_changeElement 67 = .ok (.invokevirtual 61, 3) := by decide +kernel
theorem dX5_changeElement_70 : decode cX5_changeElement 70 = .ok (.istore 8, 2) := by decide +kernel
theorem dX5_changeElement_72 : decode cX5_changeElement 72 = .ok (.iload 8, 2) := by decide +kernel
theorem dX5_changeElement_74 : decode cX5_changeElement 74 = .ok (.ifCond .ne 28, 3) := by decide +kernel
theorem dX5_changeElement_77 : decode cX5_changeElement 77 = .ok (.aload_n 0, 1) := by decide +kernel
theorem dX5_changeElement_78 : decode cX5_changeElement 78 = .ok (.getfield 9, 3) := by decide +kernel
theorem dX5_changeElement_81 : decode cX5_changeElement 81 = .ok (.aload_n 0, 1) := by decide +kernel
theorem dX5_changeElement_82 : decode cX5_changeElement 82 = .ok (.lload 6, 2) := by decide +kernel
theorem dX5_changeElement_84 : decode cX5_changeElement 84 = .ok (.lload 4, 2) := by decide +kernel
theorem dX5_changeElement_86 : decode cX5_changeElement 86 = .ok (.invokevirtual 47, 3) := by decide +kernel
theorem dX5_changeElement_89 : decode cX5_changeElement 89 = .ok (.iload_n 1, 1) := by decide +kernel
theorem dX5_changeElement_90 : decode cX5_changeElement 90 = .ok (.iconst 2, 1) := by decide +kernel
theorem dX5_changeElement_91 : decode cX5_changeElement 91 = .ok (.if_icmp .ne 9, 3) := by decide +kernel
theorem dX5_changeElement_94 : decode cX5_changeElement 94 = .ok (.lload_n 2, 1) := by decide +kernel
theorem dX5_changeElement_95 : decode cX5_changeElement 95 = .ok (.l2i, 1) := by decide +kernel
theorem dX5_changeElement_96 : decode cX5_changeElement 96 = .ok (.i2l, 1) := by decide +kernel
theorem dX5_changeElement_97 : decode cX5_changeElement 97 = .ok (.goto 4, 3) := by decide +kernel
theorem dX5_changeElement_100 : decode cX5_changeElement 100 = .ok (.lload_n 2, 1) := by decide +kernel
theorem dX5_changeElement_101 : decode cX5_changeElement 101 = .ok (.lastore, 1) := by decide +kernel
theorem dX5_changeElement_102 : decode cX5_changeElement 102 = .ok (.iload 8, 2) := by decide +kernel
theorem dX5_changeElement_104 : decode cX5_changeElement 104 = .ok (.ireturn, 1) := by decide +kernel
theorem dX5_elementFailure_0 : decode cX5_elementFailure 0 = .ok (.iload_n 2, 1) := by decide +kernel
theorem dX5_elementFailure_1 : decode cX5_elementFailure 1 = .ok (.iconst 3, 1) := by decide +kernel
theorem dX5_elementFailure_2 : decode cX5_elementFailure 2 = .ok (.if_icmp .ne 5, 3) := by decide +kernel
theorem dX5_elementFailure_5 : decode cX5_elementFailure 5 = .ok (.iconst 2, 1) := by decide +kernel
theorem dX5_elementFailure_6 : decode cX5_elementFailure 6 = .ok (.ireturn, 1) := by decide +kernel
theorem dX5_elementFailure_7 : decode cX5_elementFailure 7 = .ok (.iload_n 2, 1) := by decide +kernel
theorem dX5_elementFailure_8 : decode cX5_elementFailure 8 = .ok (.iload_n 1, 1) := by decide +kernel
theorem dX5_elementFailure_9 : decode cX5_elementFailure 9 = .ok (.if_icmp .eq 5, 3) := by decide +kernel
theorem dX5_elementFailure_12 : decode cX5_elementFailure 12 = .ok (.iconst 4, 1) := by decide +kernel
theorem dX5_elementFailure_13 : decode cX5_elementFailure 13 = .ok (.ireturn, 1) := by decide +kernel
theorem dX5_elementFailure_14 : decode cX5_elementFailure 14 = .ok (.lload 5, 2) := by decide +kernel
theorem dX5_elementFailure_16 : decode cX5_elementFailure 16 = .ok (.lconst 0, 1) := by decide +kernel
theorem dX5_elementFailure_17 : decode cX5_elementFailure 17 = .ok (.lcmp, 1) := by decide +kernel
theorem dX5_elementFailure_18 : decode cX5_elementFailure 18 = .ok (.ifCond .lt 19, 3) := by decide +kernel
theorem dX5_elementFailure_21 : decode cX5_elementFailure 21 = .ok (.lload 5, 2) := by decide +kernel
theorem dX5_elementFailure_23 : decode cX5_elementFailure 23 = .ok (.aload_n 0, 1) := by decide +kernel
theorem dX5_elementFailure_24 : decode cX5_elementFailure 24 = .ok (.lload_n 3, 1) := by decide +kernel
theorem dX5_elementFailure_25 : decode cX5_elementFailure 25 = .ok (.invokevirtual 43, 3) := by decide +kernel
theorem dX5_elementFailure_28 : decode cX5_elementFailure 28 = .ok (.i2l, 1) := by decide +kernel
theorem dX5_elementFailure_29 : decode cX5_elementFailure 29 = .ok (.lcmp, 1) := by decide +kernel
theorem dX5_elementFailure_30 : decode cX5_elementFailure 30 = .ok (.ifCond .ge 7, 3) := by decide +kernel
theorem dX5_elementFailure_33 : decode cX5_elementFailure 33 = .ok (.iconst 0, 1) := by decide +kernel
theorem dX5_elementFailure_34 : decode cX5_elementFailure 34 = .ok (.goto 4, 3) := by decide +kernel
theorem dX5_elementFailure_37 : decode cX5_elementFailure 37 = .ok (.iconst 3, 1) := by decide +kernel
theorem dX5_elementFailure_38 : decode cX5_elementFailure 38 = .ok (.ireturn, 1) := by decide +kernel
theorem dX5_putLength_0 : decode cX5_putLength 0 = .ok (.aload_n 0, 1) := by decide +kernel
theorem dX5_putLength_1 : decode cX5_putLength 1 = .ok (.getfield 19, 3) := by decide +kernel
theorem dX5_putLength_4 : decode cX5_putLength 4 = .ok (.iconst 0, 1) := by decide +kernel
theorem dX5_putLength_5 : decode cX5_putLength 5 = .ok (.invokevirtual 57, 3) := by decide +kernel
theorem dX5_putLength_8 : decode cX5_putLength 8 = .ok (.iconst 3, 1) := by decide +kernel
theorem dX5_putLength_9 : decode cX5_putLength 9 = .ok (.if_icmp .ne 5, 3) := by decide +kernel
theorem dX5_putLength_12 : decode cX5_putLength 12 = .ok (.iconst 2, 1) := by decide +kernel
theorem dX5_putLength_13 : decode cX5_putLength 13 = .ok (.ireturn, 1) := by decide +kernel
theorem dX5_putLength_14 : decode cX5_putLength 14 = .ok (.aload_n 0, 1) := by decide +kernel
theorem dX5_putLength_15 : decode cX5_putLength 15 = .ok (.getfield 19, 3) := by decide +kernel
theorem dX5_putLength_18 : decode cX5_putLength 18 = .ok (.iconst 0, 1) := by decide +kernel
theorem dX5_putLength_19 : decode cX5_putLength 19 = .ok (.invokevirtual 23, 3) := by decide +kernel
theorem dX5_putLength_22 : decode cX5_putLength 22 = .ok (.ifCond .eq 5, 3) := by decide +kernel
theorem dX5_putLength_25 : decode cX5_putLength 25 = .ok (.iconst 4, 1) := by decide +kernel
theorem dX5_putLength_26 : decode cX5_putLength 26 = .ok (.ireturn, 1) := by decide +kernel
theorem dX5_putLength_27 : decode cX5_putLength 27 = .ok (.aload_n 0, 1) := by decide +kernel
theorem dX5_putLength_28 : decode cX5_putLength 28 = .ok (.getfield 19, 3) := by decide +kernel
theorem dX5_putLength_31 : decode cX5_putLength 31 = .ok (.aload_n 0, 1) := by decide +kernel
theorem dX5_putLength_32 : decode cX5_putLength 32 = .ok (.aload_n 0, 1) := by decide +kernel
theorem dX5_putLength_33 : decode cX5_putLength 33 = .ok (.getfield 19, 3) := by decide +kernel
theorem dX5_putLength_36 : decode cX5_putLength 36 = .ok (.iconst 0, 1) := by decide +kernel
theorem dX5_putLength_37 : decode cX5_putLength 37 = .ok (.invokevirtual 29, 3) := by decide +kernel
theorem dX5_putLength_40 : decode cX5_putLength 40 = .ok (.invokevirtual 43, 3) := by decide +kernel
theorem dX5_putLength_43 : decode cX5_putLength 43 = .ok (.i2l, 1) := by decide +kernel
theorem dX5_putLength_44 : decode cX5_putLength 44 = .ok (.invokevirtual 65, 3) := by decide +kernel
theorem dX5_putLength_47 : decode cX5_putLength 47 = .ok (.ireturn, 1) := by decide +kernel
theorem dX5_copyElements_0 : decode cX5_copyElements 0 = .ok (.aload_n 0, 1) := by decide +kernel
theorem dX5_copyElements_1 : decode cX5_copyElements 1 = .ok (.getfield 19, 3) := by decide +kernel
theorem dX5_copyElements_4 : decode cX5_copyElements 4 = .ok (.iconst 0, 1) := by decide +kernel
theorem dX5_copyElements_5 : decode cX5_copyElements 5 = .ok (.invokevirtual 23, 3) := by decide +kernel
theorem dX5_copyElements_8 : decode cX5_copyElements 8 = .ok (.ifCond .eq 25, 3) := by decide +kernel
theorem dX5_copyElements_11 : decode cX5_copyElements 11 = .ok (.aload_n 0, 1) := by decide +kernel
theorem dX5_copyElements_12 : decode cX5_copyElements 12 = .ok (.getfield 19, 3) := by decide +kernel
theorem dX5_copyElements_15 : decode cX5_copyElements 15 = .ok (.iconst 1, 1) := by decide +kernel
theorem dX5_copyElements_16 : decode cX5_copyElements 16 = .ok (.invokevirtual 23, 3) := by decide +kernel
theorem dX5_copyElements_19 : decode cX5_copyElements 19 = .ok (.ifCond .eq 14, 3) := by decide +kernel
theorem dX5_copyElements_22 : decode cX5_copyElements 22 = .ok (.aload_n 0, 1) := by decide +kernel
theorem dX5_copyElements_23 : decode cX5_copyElements 23 = .ok (.getfield 19, 3) := by decide +kernel
theorem dX5_copyElements_26 : decode cX5_copyElements 26 = .ok (.iconst 3, 1) := by decide +kernel
theorem dX5_copyElements_27 : decode cX5_copyElements 27 = .ok (.invokevirtual 23, 3) := by decide +kernel
theorem dX5_copyElements_30 : decode cX5_copyElements 30 = .ok (.ifCond .ne 5, 3) := by decide +kernel
theorem dX5_copyElements_33 : decode cX5_copyElements 33 = .ok (.iconst 4, 1) := by decide +kernel
theorem dX5_copyElements_34 : decode cX5_copyElements 34 = .ok (.ireturn, 1) := by decide +kernel
theorem dX5_copyElements_35 : decode cX5_copyElements 35 = .ok (.aload_n 0, 1) := by decide +kernel
theorem dX5_copyElements_36 : decode cX5_copyElements 36 = .ok (.getfield 19, 3) := by decide +kernel
theorem dX5_copyElements_39 : decode cX5_copyElements 39 = .ok (.iconst 2, 1) := by decide +kernel
theorem dX5_copyElements_40 : decode cX5_copyElements 40 = .ok (.invokevirtual 57, 3) := by decide +kernel
theorem dX5_copyElements_43 : decode cX5_copyElements 43 = .ok (.iconst 3, 1) := by decide +kernel
theorem dX5_copyElements_44 : decode cX5_copyElements 44 = .ok (.if_icmp .eq 15, 3) := by decide +kernel
theorem dX5_copyElements_47 : decode cX5_copyElements 47 = .ok (.aload_n 0, 1) := by decide +kernel
theorem dX5_copyElements_48 : decode cX5_copyElements 48 = .ok (.getfield 19, 3) := by decide +kernel
theorem dX5_copyElements_51 : decode cX5_copyElements 51 = .ok (.iconst 4, 1) := by decide +kernel
theorem dX5_copyElements_52 : decode cX5_copyElements 52 = .ok (.invokevirtual 57, 3) := by decide +kernel
theorem dX5_copyElements_55 : decode cX5_copyElements 55 = .ok (.iconst 3, 1) := by decide +kernel
theorem dX5_copyElements_56 : decode cX5_copyElements 56 = .ok (.if_icmp .ne 5, 3) := by decide +kernel
theorem dX5_copyElements_59 : decode cX5_copyElements 59 = .ok (.iconst 2, 1) := by decide +kernel
theorem dX5_copyElements_60 : decode cX5_copyElements 60 = .ok (.ireturn, 1) := by decide +kernel
theorem dX5_copyElements_61 : decode cX5_copyElements 61 = .ok (.aload_n 0, 1) := by decide +kernel
theorem dX5_copyElements_62 : decode cX5_copyElements 62 = .ok (.getfield 19, 3) := by decide +kernel
theorem dX5_copyElements_65 : decode cX5_copyElements 65 = .ok (.iconst 2, 1) := by decide +kernel
theorem dX5_copyElements_66 : decode cX5_copyElements 66 = .ok (.invokevirtual 23, 3) := by decide +kernel
theorem dX5_copyElements_69 : decode cX5_copyElements 69 = .ok (.ifCond .ne 22, 3) := by decide +kernel
theorem dX5_copyElements_72 : decode cX5_copyElements 72 = .ok (.aload_n 0, 1) := by decide +kernel
theorem dX5_copyElements_73 : decode cX5_copyElements 73 = .ok (.getfield 19, 3) := by decide +kernel
theorem dX5_copyElements_76 : decode cX5_copyElements 76 = .ok (.iconst 2, 1) := by decide +kernel
theorem dX5_copyElements_77 : decode cX5_copyElements 77 = .ok (.invokevirtual 57, 3) := by decide +kernel
theorem dX5_copyElements_80 : decode cX5_copyElements 80 = .ok (.aload_n 0, 1) := by decide +kernel
theorem dX5_copyElements_81 : decode cX5_copyElements 81 = .ok (.getfield 19, 3) := by decide +kernel
theorem dX5_copyElements_84 : decode cX5_copyElements 84 = .ok (.iconst 4, 1) := by decide +kernel
theorem dX5_copyElements_85 : decode cX5_copyElements 85 = .ok (.invokevirtual 57, 3) := by decide +kernel
theorem dX5_copyElements_88 : decode cX5_copyElements 88 = .ok (.if_icmp .eq 5, 3) := by decide +kernel
theorem dX5_copyElements_91 : decode cX5_copyElements 91 = .ok (.iconst 4, 1) := by decide +kernel
theorem dX5_copyElements_92 : decode cX5_copyElements 92 = .ok (.ireturn, 1) := by decide +kernel
theorem dX5_copyElements_93 : decode cX5_copyElements 93 = .ok (.aload_n 0, 1) := by decide +kernel
theorem dX5_copyElements_94 : decode cX5_copyElements 94 = .ok (.getfield 19, 3) := by decide +kernel
theorem dX5_copyElements_97 : decode cX5_copyElements 97 = .ok (.iconst 0, 1) := by decide +kernel
theorem dX5_copyElements_98 : decode cX5_copyElements 98 = .ok (.invokevirtual 29, 3) := by decide +kernel
theorem dX5_copyElements_101 : decode cX5_copyElements 101 = .ok (.lstore_n 1, 1) := by decide +kernel
theorem dX5_copyElements_102 : decode cX5_copyElements 102 = .ok (.aload_n 0, 1) := by decide +kernel
theorem dX5_copyElements_103 : decode cX5_copyElements 103 = .ok (.getfield 19, 3) := by decide +kernel
theorem dX5_copyElements_106 : decode cX5_copyElements 106 = .ok (.iconst 1, 1) := by decide +kernel
theorem dX5_copyElements_107 : decode cX5_copyElements 107 = .ok (.invokevirtual 29, 3) := by decide +kernel
theorem dX5_copyElements_110 : decode cX5_copyElements 110 = .ok (.lstore_n 3, 1) := by decide +kernel
theorem dX5_copyElements_111 : decode cX5_copyElements 111 = .ok (.aload_n 0, 1) := by decide +kernel
theorem dX5_copyElements_112 : decode cX5_copyElements 112 = .ok (.getfield 19, 3) := by decide +kernel
theorem dX5_copyElements_115 : decode cX5_copyElements 115 = .ok (.iconst 2, 1) := by decide +kernel
theorem dX5_copyElements_116 : decode cX5_copyElements 116 = .ok (.invokevirtual 29, 3) := by decide +kernel
theorem dX5_copyElements_119 : decode cX5_copyElements 119 = .ok (.lstore 5, 2) := by decide +kernel
theorem dX5_copyElements_121 : decode cX5_copyElements 121 = .ok (.aload_n 0, 1) := by decide +kernel
theorem dX5_copyElements_122 : decode cX5_copyElements 122 = .ok (.getfield 19, 3) := by decide +kernel
theorem dX5_copyElements_125 : decode cX5_copyElements 125 = .ok (.iconst 3, 1) := by decide +kernel
theorem dX5_copyElements_126 : decode cX5_copyElements 126 = .ok (.invokevirtual 29, 3) := by decide +kernel
theorem dX5_copyElements_129 : decode cX5_copyElements 129 = .ok (.lstore 7, 2) := by decide +kernel
theorem dX5_copyElements_131 : decode cX5_copyElements 131 = .ok (.aload_n 0, 1) := by decide +kernel
theorem dX5_copyElements_132 : decode cX5_copyElements 132 = .ok (.getfield 19, 3) := by decide +kernel
theorem dX5_copyElements_135 : decode cX5_copyElements 135 = .ok (.iconst 4, 1) := by decide +kernel
theorem dX5_copyElements_136 : decode cX5_copyElements 136 = .ok (.invokevirtual 29, 3) := by decide +kernel
theorem dX5_copyElements_139 : decode cX5_copyElements 139 = .ok (.lstore 9, 2) := by decide +kernel
theorem dX5_copyElements_141 : decode cX5_copyElements 141 = .ok (.aload_n 0, 1) := by decide +kernel
theorem dX5_copyElements_142 : decode cX5_copyElements 142 = .ok (.lload 9, 2) := by decide +kernel
theorem dX5_copyElements_144 : decode cX5_copyElements 144 = .ok (.lload 7, 2) := by decide +kernel
theorem dX5_copyElements_146 : decode cX5_copyElements 146 = .ok (.lload_n 1, 1) := by decide +kernel
theorem dX5_copyElements_147 : decode cX5_copyElements 147 = .ok (.invokevirtual 68, 3) := by decide +kernel
theorem dX5_copyElements_150 : decode cX5_copyElements 150 = .ok (.ifCond .eq 14, 3) := by decide +kernel
theorem dX5_copyElements_153 : decode cX5_copyElements 153 = .ok (.aload_n 0, 1) := by decide +kernel
theorem dX5_copyElements_154 : decode cX5_copyElements 154 = .ok (.lload 5, 2) := by decide +kernel
theorem dX5_copyElements_156 : decode cX5_copyElements 156 = .ok (.lload_n 3, 1) := by decide +kernel
theorem dX5_copyElements_157 : decode cX5_copyElements 157 = .ok (.lload_n 1, 1) := by decide +kernel
theorem dX5_copyElements_158 : decode cX5_copyElements 158 = .ok (.invokevirtual 68, 3) := by decide +kernel
theorem dX5_copyElements_161 : decode cX5_copyElements 161 = .ok (.ifCond .ne 5, 3) := by decide +kernel
theorem dX5_copyElements_164 : decode cX5_copyElements 164 = .ok (.iconst 3, 1) := by decide +kernel
theorem dX5_copyElements_165 : decode cX5_copyElements 165 = .ok (.ireturn, 1) := by decide +kernel
theorem dX5_copyElements_166 : decode cX5_copyElements 166 = .ok (.lload_n 1, 1) := by decide +kernel
theorem dX5_copyElements_167 : decode cX5_copyElements 167 = .ok (.lconst 0, 1) := by decide +kernel
theorem dX5_copyElements_168 : decode cX5_copyElements 168 = .ok (.lcmp, 1) := by decide +kernel
theorem dX5_copyElements_169 : decode cX5_copyElements 169 = .ok (.ifCond .le 31, 3) := by decide +kernel
theorem dX5_copyElements_172 : decode cX5_copyElements 172 = .ok (.aload_n 0, 1) := by decide +kernel
theorem dX5_copyElements_173 : decode cX5_copyElements 173 = .ok (.getfield 9, 3) := by decide +kernel
theorem dX5_copyElements_176 : decode cX5_copyElements 176 = .ok (.aload_n 0, 1) := by decide +kernel
theorem dX5_copyElements_177 : decode cX5_copyElements 177 = .ok (.lload 9, 2) := by decide +kernel
theorem dX5_copyElements_179 : decode cX5_copyElements 179 = .ok (.lload 7, 2) := by decide +kernel
theorem dX5_copyElements_181 : decode cX5_copyElements 181 = .ok (.invokevirtual 47, 3) := by decide +kernel
theorem dX5_copyElements_184 : decode cX5_copyElements 184 = .ok (.aload_n 0, 1) := by decide +kernel
theorem dX5_copyElements_185 : decode cX5_copyElements 185 = .ok (.getfield 9, 3) := by decide +kernel
theorem dX5_copyElements_188 : decode cX5_copyElements 188 = .ok (.aload_n 0, 1) := by decide +kernel
theorem dX5_copyElements_189 : decode cX5_copyElements 189 = .ok (.lload 5, 2) := by decide +kernel
theorem dX5_copyElements_191 : decode cX5_copyElements 191 = .ok (.lload_n 3, 1) := by decide +kernel
theorem dX5_copyElements_192 : decode cX5_copyElements 192 = .ok (.invokevirtual 47, 3) := by decide +kernel
theorem dX5_copyElements_195 : decode cX5_copyElements 195 = .ok (.lload_n 1, 1) := by decide +kernel
theorem dX5_copyElements_196 : decode cX5_copyElements 196 = .ok (.l2i, 1) := by decide +kernel
theorem dX5_copyElements_197 : decode cX5_copyElements 197 = .ok (.invokestatic 51, 3) := by decide +kernel
theorem dX5_copyElements_200 : decode cX5_copyElements 200 = .ok (.iconst 0, 1) := by decide +kernel
theorem dX5_copyElements_201 : decode cX5_copyElements 201 = .ok (.ireturn, 1) := by decide +kernel
theorem dX5_lengthOf_0 : decode cX5_lengthOf 0 = .ok (.lload_n 1, 1) := by decide +kernel
theorem dX5_lengthOf_1 : decode cX5_lengthOf 1 = .ok (.lconst 0, 1) := by decide +kernel
theorem dX5_lengthOf_2 : decode cX5_lengthOf 2 = .ok (.lcmp, 1) := by decide +kernel
theorem dX5_lengthOf_3 : decode cX5_lengthOf 3 = .ok (.ifCond .lt 21, 3) := by decide +kernel
theorem dX5_lengthOf_6 : decode cX5_lengthOf 6 = .ok (.lload_n 1, 1) := by decide +kernel
theorem dX5_lengthOf_7 : decode cX5_lengthOf 7 = .ok (.ldc2_w 72, 3) := by decide +kernel
theorem dX5_lengthOf_10 : decode cX5_lengthOf 10 = .ok (.lcmp, 1) := by decide +kernel
theorem dX5_lengthOf_11 : decode cX5_lengthOf 11 = .ok (.ifCond .ge 13, 3) := by decide +kernel
theorem dX5_lengthOf_14 : decode cX5_lengthOf 14 = .ok (.aload_n 0, 1) := by decide +kernel
theorem dX5_lengthOf_15 : decode cX5_lengthOf 15 = .ok (.getfield 15, 3) := by decide +kernel
theorem dX5_lengthOf_18 : decode cX5_lengthOf 18 = .ok (.lload_n 1, 1) := by decide +kernel
theorem dX5_lengthOf_19 : decode cX5_lengthOf 19 = .ok (.l2i, 1) := by decide +kernel
theorem dX5_lengthOf_20 : decode cX5_lengthOf 20 = .ok (.iaload, 1) := by decide +kernel
theorem dX5_lengthOf_21 : decode cX5_lengthOf 21 = .ok (.goto 4, 3) := by decide +kernel
theorem dX5_lengthOf_24 : decode cX5_lengthOf 24 = .ok (.iconst 0, 1) := by decide +kernel
theorem dX5_lengthOf_25 : decode cX5_lengthOf 25 = .ok (.ireturn, 1) := by decide +kernel
theorem dX5_hasRange_0 : decode cX5_hasRange 0 = .ok (.aload_n 0, 1) := by decide +kernel
theorem dX5_hasRange_1 : decode cX5_hasRange 1 = .ok (.lload_n 1, 1) := by decide +kernel
theorem dX5_hasRange_2 : decode cX5_hasRange 2 = .ok (.invokevirtual 43, 3) := by decide +kernel
theorem dX5_hasRange_5 : decode cX5_hasRange 5 = .ok (.istore 7, 2) := by decide +kernel
theorem dX5_hasRange_7 : decode cX5_hasRange 7 = .ok (.lload 5, 2) := by decide +kernel
theorem dX5_hasRange_9 : decode cX5_hasRange 9 = .ok (.lconst 0, 1) := by decide +kernel
theorem dX5_hasRange_10 : decode cX5_hasRange 10 = .ok (.lcmp, 1) := by decide +kernel
theorem dX5_hasRange_11 : decode cX5_hasRange 11 = .ok (.ifCond .lt 32, 3) := by decide +kernel
theorem dX5_hasRange_14 : decode cX5_hasRange 14 = .ok (.lload_n 3, 1) := by decide +kernel
theorem dX5_hasRange_15 : decode cX5_hasRange 15 = .ok (.lconst 0, 1) := by decide +kernel
theorem dX5_hasRange_16 : decode cX5_hasRange 16 = .ok (.lcmp, 1) := by decide +kernel
theorem dX5_hasRange_17 : decode cX5_hasRange 17 = .ok (.ifCond .lt 26, 3) := by decide +kernel
theorem dX5_hasRange_20 : decode cX5_hasRange 20 = .ok (.lload_n 3, 1) := by decide +kernel
theorem dX5_hasRange_21 : decode cX5_hasRange 21 = .ok (.iload 7, 2) := by decide +kernel
theorem dX5_hasRange_23 : decode cX5_hasRange 23 = .ok (.i2l, 1) := by decide +kernel
theorem dX5_hasRange_24 : decode cX5_hasRange 24 = .ok (.lcmp, 1) := by decide +kernel
theorem dX5_hasRange_25 : decode cX5_hasRange 25 = .ok (.ifCond .gt 18, 3) := by decide +kernel
theorem dX5_hasRange_28 : decode cX5_hasRange 28 = .ok (.lload 5, 2) := by decide +kernel
theorem dX5_hasRange_30 : decode cX5_hasRange 30 = .ok (.iload 7, 2) := by decide +kernel
theorem dX5_hasRange_32 : decode cX5_hasRange 32 = .ok (.i2l, 1) := by decide +kernel
theorem dX5_hasRange_33 : decode cX5_hasRange 33 = .ok (.lload_n 3, 1) := by decide +kernel
theorem dX5_hasRange_34 : decode cX5_hasRange 34 = .ok (.lsub, 1) := by decide +kernel
theorem dX5_hasRange_35 : decode cX5_hasRange 35 = .ok (.lcmp, 1) := by decide +kernel
theorem dX5_hasRange_36 : decode cX5_hasRange 36 = .ok (.ifCond .gt 7, 3) := by decide +kernel
theorem dX5_hasRange_39 : decode cX5_hasRange 39 = .ok (.iconst 1, 1) := by decide +kernel
theorem dX5_hasRange_40 : decode cX5_hasRange 40 = .ok (.goto 4, 3) := by decide +kernel
theorem dX5_hasRange_43 : decode cX5_hasRange 43 = .ok (.iconst 0, 1) := by decide +kernel
theorem dX5_hasRange_44 : decode cX5_hasRange 44 = .ok (.ireturn, 1) := by decide +kernel
theorem dX5_placeOf_0 : decode cX5_placeOf 0 = .ok (.lload_n 1, 1) := by decide +kernel
theorem dX5_placeOf_1 : decode cX5_placeOf 1 = .ok (.l2i, 1) := by decide +kernel
theorem dX5_placeOf_2 : decode cX5_placeOf 2 = .ok (.bipush 16, 2) := by decide +kernel
theorem dX5_placeOf_4 : decode cX5_placeOf 4 = .ok (.imul, 1) := by decide +kernel
theorem dX5_placeOf_5 : decode cX5_placeOf 5 = .ok (.lload_n 3, 1) := by decide +kernel
theorem dX5_placeOf_6 : decode cX5_placeOf 6 = .ok (.l2i, 1) := by decide +kernel
theorem dX5_placeOf_7 : decode cX5_placeOf 7 = .ok (.iadd, 1) := by decide +kernel
theorem dX5_placeOf_8 : decode cX5_placeOf 8 = .ok (.ireturn, 1) := by decide +kernel
end
section
theorem dX6_init_0 : decode cX6_init 0 = .ok (.aload_n 0, 1) := by decide +kernel
theorem dX6_init_1 : decode cX6_init 1 = .ok (.invokespecial 3, 3) := by decide +kernel
theorem dX6_init_4 : decode cX6_init 4 = .ok (.aload_n 0, 1) := by decide +kernel
theorem dX6_init_5 : decode cX6_init 5 = .ok (.bipush 10, 2) := by decide +kernel
theorem dX6_init_7 : decode cX6_init 7 = .ok (.anewarray 9, 3) := by decide +kernel
theorem dX6_init_10 : decode cX6_init 10 = .ok (.putfield 11, 3) := by decide +kernel
theorem dX6_init_13 : decode cX6_init 13 = .ok (.aload_n 0, 1) := by decide +kernel
theorem dX6_init_14 : decode cX6_init 14 = .ok (.iconst 5, 1) := by decide +kernel
theorem dX6_init_15 : decode cX6_init 15 = .ok (.newarray .int, 2) := by decide +kernel
theorem dX6_init_17 : decode cX6_init 17 = .ok (.putfield 17, 3) := by decide +kernel
theorem dX6_init_20 : decode cX6_init 20 = .ok (.aload_n 0, 1) := by decide +kernel
theorem dX6_init_21 : decode cX6_init 21 = .ok (.iconst 0, 1) := by decide +kernel
theorem dX6_init_22 : decode cX6_init 22 = .ok (.putfield 21, 3) := by decide +kernel
theorem dX6_init_25 : decode cX6_init 25 = .ok (.aload_n 0, 1) := by decide +kernel
theorem dX6_init_26 : decode cX6_init 26 = .ok (.iconst 0, 1) := by decide +kernel
theorem dX6_init_27 : decode cX6_init 27 = .ok (.putfield 25, 3) := by decide +kernel
theorem dX6_init_30 : decode cX6_init 30 = .ok (.aload_n 0, 1) := by decide +kernel
theorem dX6_init_31 : decode cX6_init 31 = .ok (.lconst 0, 1) := by decide +kernel
theorem dX6_init_32 : decode cX6_init 32 = .ok (.putfield 28, 3) := by decide +kernel
theorem dX6_init_35 : decode cX6_init 35 = .ok (.aload_n 0, 1) := by decide +kernel
theorem dX6_init_36 : decode cX6_init 36 = .ok (.aload_n 1, 1) := by decide +kernel
theorem dX6_init_37 : decode cX6_init 37 = .ok (.putfield 32, 3) := by decide +kernel
theorem dX6_init_40 : decode cX6_init 40 = .ok (.aload_n 0, 1) := by decide +kernel
theorem dX6_init_41 : decode cX6_init 41 = .ok (.aload_n 2, 1) := by decide +kernel
theorem dX6_init_42 : decode cX6_init 42 = .ok (.putfield 36, 3) := by decide +kernel
theorem dX6_init_45 : decode cX6_init 45 = .ok (.iconst 0, 1) := by decide +kernel
theorem dX6_init_46 : decode cX6_init 46 = .ok (.istore_n 3, 1) := by decide +kernel
theorem dX6_init_47 : decode cX6_init 47 = .ok (.iload_n 3, 1) := by decide +kernel
theorem dX6_init_48 : decode cX6_init 48 = .ok (.bipush 10, 2) := by decide +kernel
theorem dX6_init_50 : decode cX6_init 50 = .ok (.if_icmp .ge 28, 3) := by decide +kernel
theorem dX6_init_53 : decode cX6_init 53 = .ok (.aload_n 0, 1) := by decide +kernel
theorem dX6_init_54 : decode cX6_init 54 = .ok (.getfield 11, 3) := by decide +kernel
theorem dX6_init_57 : decode cX6_init 57 = .ok (.iload_n 3, 1) := by decide +kernel
theorem dX6_init_58 : decode cX6_init 58 = .ok (.new 9, 3) := by decide +kernel
theorem dX6_init_61 : decode cX6_init 61 = .ok (.dup, 1) := by decide +kernel
theorem dX6_init_62 : decode cX6_init 62 = .ok (.aload_n 1, 1) := by decide +kernel
theorem dX6_init_63 : decode cX6_init 63 = .ok (.getfield 40, 3) := by decide +kernel
theorem dX6_init_66 : decode cX6_init 66 = .ok (.iconst 0, 1) := by decide +kernel
theorem dX6_init_67 : decode cX6_init 67 = .ok (.aaload, 1) := by decide +kernel
theorem dX6_init_68 : decode cX6_init 68 = .ok (.invokespecial 46, 3) := by decide +kernel
theorem dX6_init_71 : decode cX6_init 71 = .ok (.aastore, 1) := by decide +kernel
theorem dX6_init_72 : decode cX6_init 72 = .ok (.iinc 3 1, 3) := by decide +kernel
theorem dX6_init_75 : decode cX6_init 75 = .ok (.goto (-28), 3) := by decide +kernel
theorem dX6_init_78 : decode cX6_init 78 = .ok (.return_, 1) := by decide +kernel
theorem dX6_go_0 : decode cX6_go 0 = .ok (.iconst 0, 1) := by decide +kernel
theorem dX6_go_1 : decode cX6_go 1 = .ok (.istore 6, 2) := by decide +kernel
theorem dX6_go_3 : decode cX6_go 3 = .ok (.iload 6, 2) := by decide +kernel
theorem dX6_go_5 : decode cX6_go 5 = .ok (.iconst 5, 1) := by decide +kernel
theorem dX6_go_6 : decode cX6_go 6 = .ok (.if_icmp .ge 17, 3) := by decide +kernel
theorem dX6_go_9 : decode cX6_go 9 = .ok (.aload_n 0, 1) := by decide +kernel
theorem dX6_go_10 : decode cX6_go 10 = .ok (.getfield 17, 3) := by decide +kernel
theorem dX6_go_13 : decode cX6_go 13 = .ok (.iload 6, 2) := by decide +kernel
theorem dX6_go_15 : decode cX6_go 15 = .ok (.iconst 0, 1) := by decide +kernel
theorem dX6_go_16 : decode cX6_go 16 = .ok (.iastore, 1) := by decide +kernel
theorem dX6_go_17 : decode cX6_go 17 = .ok (.iinc 6 1, 3) := by decide +kernel
theorem dX6_go_20 : decode cX6_go 20 = .ok (.goto (-17), 3) := by decide +kernel
theorem dX6_go_23 : decode cX6_go 23 = .ok (.aload_n 0, 1) := by decide +kernel
theorem dX6_go_24 : decode cX6_go 24 = .ok (.getfield 36, 3) := by decide +kernel
theorem dX6_go_27 : decode cX6_go 27 = .ok (.iconst 0, 1) := by decide +kernel
theorem dX6_go_28 : decode cX6_go 28 = .ok (.putfield 49, 3) := by decide +kernel
theorem dX6_go_31 : decode cX6_go 31 = .ok (.aload_n 0, 1) := by decide +kernel
theorem dX6_go_32 : decode cX6_go 32 = .ok (.iconst 0, 1) := by decide +kernel
theorem dX6_go_33 : decode cX6_go 33 = .ok (.putfield 21, 3) := by decide +kernel
theorem dX6_go_36 : decode cX6_go 36 = .ok (.aload_n 0, 1) := by decide +kernel
theorem dX6_go_37 : decode cX6_go 37 = .ok (.iconst 0, 1) := by decide +kernel
theorem dX6_go_38 : decode cX6_go 38 = .ok (.putfield 25, 3) := by decide +kernel
theorem dX6_go_41 : decode cX6_go 41 = .ok (.aload_n 0, 1) := by decide +kernel
theorem dX6_go_42 : decode cX6_go 42 = .ok (.lconst 0, 1) := by decide +kernel
theorem dX6_go_43 : decode cX6_go 43 = .ok (.putfield 28, 3) := by decide +kernel
theorem dX6_go_46 : decode cX6_go 46 = .ok (.aload_n 0, 1) := by decide +kernel
theorem dX6_go_47 : decode cX6_go 47 = .ok (.aload_n 0, 1) := by decide +kernel
theorem dX6_go_48 : decode cX6_go 48 = .ok (.getfield 32, 3) := by decide +kernel
theorem dX6_go_51 : decode cX6_go 51 = .ok (.iload_n 1, 1) := by decide +kernel
theorem dX6_go_52 : decode cX6_go 52 = .ok (.iload_n 2, 1) := by decide +kernel
theorem dX6_go_53 : decode cX6_go 53 = .ok (.invokevirtual 54, 3) := by decide +kernel
theorem dX6_go_56 : decode cX6_go 56 = .ok (.iload_n 1, 1) := by decide +kernel
theorem dX6_go_57 : decode cX6_go 57 = .ok (.iconst (-1), 1) := by decide +kernel
theorem dX6_go_58 : decode cX6_go 58 = .ok (.iload 5, 2) := by decide +kernel
theorem dX6_go_60 : decode cX6_go 60 = .ok (.invokevirtual 58, 3) := by decide +kernel
theorem dX6_go_63 : decode cX6_go 63 = .ok (.astore 6, 2) := by decide +kernel
theorem dX6_go_65 : decode cX6_go 65 = .ok (.aload 6, 2) := by decide +kernel
theorem dX6_go_67 : decode cX6_go 67 = .ok (.getfield 62, 3) := by decide +kernel
theorem dX6_go_70 : decode cX6_go 70 = .ok (.lload_n 3, 1) := by decide +kernel
theorem dX6_go_71 : decode cX6_go 71 = .ok (.invokevirtual 66, 3) := by decide +kernel
theorem dX6_go_74 : decode cX6_go 74 = .ok (.pop, 1) := by decide +kernel
theorem dX6_go_75 : decode cX6_go 75 = .ok (.iconst 0, 1) := by decide +kernel
theorem dX6_go_76 : decode cX6_go 76 = .ok (.istore 7, 2) := by decide +kernel
theorem dX6_go_78 : decode cX6_go 78 = .ok (.iload 7, 2) := by decide +kernel
theorem dX6_go_80 : decode cX6_go 80 = .ok (.ldc 72, 2) := by decide +kernel
theorem dX6_go_82 : decode cX6_go 82 = .ok (.if_icmp .ge 31, 3) := by decide +kernel
theorem dX6_go_85 : decode cX6_go 85 = .ok (.aload_n 0, 1) := by decide +kernel
theorem dX6_go_86 : decode cX6_go 86 = .ok (.getfield 21, 3) := by decide +kernel
theorem dX6_go_89 : decode cX6_go 89 = .ok (.ifCond .le 24, 3) := by decide +kernel
theorem dX6_go_92 : decode cX6_go 92 = .ok (.aload_n 0, 1) := by decide +kernel
theorem dX6_go_93 : decode cX6_go 93 = .ok (.aload_n 0, 1) := by decide +kernel
theorem dX6_go_94 : decode cX6_go 94 = .ok (.getfield 11, 3) := by decide +kernel
theorem dX6_go_97 : decode cX6_go 97 = .ok (.aload_n 0, 1) := by decide +kernel
theorem dX6_go_98 : decode cX6_go 98 = .ok (.getfield 21, 3) := by decide +kernel
theorem dX6_go_101 : decode cX6_go 101 = .ok (.iconst 1, 1) := by decide +kernel
theorem dX6_go_102 : decode cX6_go 102 = .ok (.isub, 1) := by decide +kernel
theorem dX6_go_103 : decode cX6_go 103 = .ok (.aaload, 1) := by decide +kernel
theorem dX6_go_104 : decode cX6_go 104 = .ok (.invokevirtual 73, 3) := by decide +kernel
theorem dX6_go_107 : decode cX6_go 107 = .ok (.iinc 7 1, 3) := by decide +kernel
theorem dX6_go_110 : decode cX6_go 110 = .ok (.goto (-32), 3) := by decide +kernel
theorem dX6_go_113 : decode cX6_go 113 = .ok (.aload_n 0, 1) := by decide +kernel
theorem dX6_go_114 : decode cX6_go 114 = .ok (.getfield 25, 3) := by decide +kernel
theorem dX6_go_117 : decode cX6_go 117 = .ok (.ireturn, 1) := by decide +kernel
theorem dX6_open_0 : decode cX6_open 0 = .ok (.aload_n 0, 1) := by decide +kernel
theorem dX6_open_1 : decode cX6_open 1 = .ok (.getfield 36, 3) := by decide +kernel
theorem dX6_open_4 : decode cX6_open 4 = .ok (.aload_n 0, 1) := by decide +kernel
theorem dX6_open_5 : decode cX6_open 5 = .ok (.getfield 21, 3) := by decide +kernel
theorem dX6_open_8 : decode cX6_open 8 = .ok (.invokevirtual 77, 3) := by decide +kernel
theorem dX6_open_11 : decode cX6_open 11 = .ok (.aload_n 0, 1) := by decide +kernel
theorem dX6_open_12 : decode cX6_open 12 = .ok (.getfield 11, 3) := by decide +kernel
theorem dX6_open_15 : decode cX6_open 15 = .ok (.aload_n 0, 1) := by decide +kernel
theorem dX6_open_16 : decode cX6_open 16 = .ok (.getfield 21, 3) := by decide +kernel
theorem dX6_open_19 : decode cX6_open 19 = .ok (.aaload, 1) := by decide +kernel
theorem dX6_open_20 : decode cX6_open 20 = .ok (.astore 5, 2) := by decide +kernel
theorem dX6_open_22 : decode cX6_open 22 = .ok (.aload 5, 2) := by decide +kernel
theorem dX6_open_24 : decode cX6_open 24 = .ok (.aload_n 1, 1) := by decide +kernel
theorem dX6_open_25 : decode cX6_open 25 = .ok (.iload_n 2, 1) := by decide +kernel
theorem dX6_open_26 : decode cX6_open 26 = .ok (.iload_n 3, 1) := by decide +kernel
theorem dX6_open_27 : decode cX6_open 27 = .ok (.aload_n 0, 1) := by decide +kernel
theorem dX6_open_28 : decode cX6_open 28 = .ok (.getfield 17, 3) := by decide +kernel
theorem dX6_open_31 : decode cX6_open 31 = .ok (.iconst 0, 1) := by decide +kernel
theorem dX6_open_32 : decode cX6_open 32 = .ok (.iaload, 1) := by decide +kernel
theorem dX6_open_33 : decode cX6_open 33 = .ok (.iload 4, 2) := by decide +kernel
theorem dX6_open_35 : decode cX6_open 35 = .ok (.iadd, 1) := by decide +kernel
theorem dX6_open_36 : decode cX6_open 36 = .ok (.invokevirtual 81, 3) := by decide +kernel
theorem dX6_open_39 : decode cX6_open 39 = .ok (.aload_n 0, 1) := by decide +kernel
theorem dX6_open_40 : decode cX6_open 40 = .ok (.dup, 1) := by decide +kernel
theorem dX6_open_41 : decode cX6_open 41 = .ok (.getfield 21, 3) := by decide +kernel
theorem dX6_open_44 : decode cX6_open 44 = .ok (.iconst 1, 1) := by decide +kernel
theorem dX6_open_45 : decode cX6_open 45 = .ok (.iadd, 1) := by decide +kernel
theorem dX6_open_46 : decode cX6_open 46 = .ok (.putfield 21, 3) := by decide +kernel
theorem dX6_open_49 : decode cX6_open 49 = .ok (.aload_n 0, 1) := by decide +kernel
theorem dX6_open_50 : decode cX6_open 50 = .ok (.getfield 17, 3) := by decide +kernel
theorem dX6_open_53 : decode cX6_open 53 = .ok (.iconst 2, 1) := by decide +kernel
theorem dX6_open_54 : decode cX6_open 54 = .ok (.aload_n 0, 1) := by decide +kernel
theorem dX6_open_55 : decode cX6_open 55 = .ok (.getfield 17, 3) := by decide +kernel
theorem dX6_open_58 : decode cX6_open 58 = .ok (.iconst 2, 1) := by decide +kernel
theorem dX6_open_59 : decode cX6_open 59 = .ok (.iaload, 1) := by decide +kernel
theorem dX6_open_60 : decode cX6_open 60 = .ok (.aload_n 0, 1) := by decide +kernel
theorem dX6_open_61 : decode cX6_open 61 = .ok (.getfield 21, 3) := by decide +kernel
theorem dX6_open_64 : decode cX6_open 64 = .ok (.invokestatic 85, 3) := by decide +kernel
theorem dX6_open_67 : decode cX6_open 67 = .ok (.iastore, 1) := by decide +kernel
theorem dX6_open_68 : decode cX6_open 68 = .ok (.aload 5, 2) := by decide +kernel
theorem dX6_open_70 : decode cX6_open 70 = .ok (.areturn, 1) := by decide +kernel
theorem dX6_advance_0 : decode cX6_advance 0 = .ok (.aload_n 1, 1) := by decide +kernel
theorem dX6_advance_1 : decode cX6_advance 1 = .ok (.invokevirtual 91, 3) := by decide +kernel
theorem dX6_advance_4 : decode cX6_advance 4 = .ok (.ifCond .eq 9, 3) := by decide +kernel
theorem dX6_advance_7 : decode cX6_advance 7 = .ok (.aload_n 0, 1) := by decide +kernel
theorem dX6_advance_8 : decode cX6_advance 8 = .ok (.lconst 0, 1) := by decide +kernel
theorem dX6_advance_9 : decode cX6_advance 9 = .ok (.invokevirtual 95, 3) := by decide +kernel
theorem dX6_advance_12 : decode cX6_advance 12 = .ok (.return_, 1) := by decide +kernel
theorem dX6_advance_13 : decode cX6_advance 13 = .ok (.aload_n 0, 1) := by decide +kernel
theorem dX6_advance_14 : decode cX6_advance 14 = .ok (.getfield 17, 3) := by decide +kernel
theorem dX6_advance_17 : decode cX6_advance 17 = .ok (.iconst 0, 1) := by decide +kernel
theorem dX6_advance_18 : decode cX6_advance 18 = .ok (.iaload, 1) := by decide +kernel
theorem dX6_advance_19 : decode cX6_advance 19 = .ok (.aload_n 1, 1) := by decide +kernel
theorem dX6_advance_20 : decode cX6_advance 20 = .ok (.getfield 99, 3) := by decide +kernel
theorem dX6_advance_23 : decode cX6_advance 23 = .ok (.if_icmp .lt 10, 3) := by decide +kernel
theorem dX6_advance_26 : decode cX6_advance 26 = .ok (.aload_n 0, 1) := by decide +kernel
theorem dX6_advance_27 : decode cX6_advance 27 = .ok (.bipush 7, 2) := by decide +kernel
theorem dX6_advance_29 : decode cX6_advance 29 = .ok (.invokevirtual 102, 3) := by decide +kernel
theorem dX6_advance_32 : decode cX6_advance 32 = .ok (.return_, 1) := by decide +kernel
theorem dX6_advance_33 : decode cX6_advance 33 = .ok (.aload_n 0, 1) := by decide +kernel
theorem dX6_advance_34 : decode cX6_advance 34 = .ok (.getfield 17, 3) := by decide +kernel
theorem dX6_advance_37 : decode cX6_advance 37 = .ok (.iconst 0, 1) := by decide +kernel
theorem dX6_advance_38 : decode cX6_advance 38 = .ok (.dup2, 1) := by decide +kernel
theorem dX6_advance_39 : decode cX6_advance 39 = .ok (.iaload, 1) := by decide +kernel
theorem dX6_advance_40 : decode cX6_advance 40 = .ok (.iconst 1, 1) := by decide +kernel
theorem dX6_advance_41 : decode cX6_advance 41 = .ok (.iadd, 1) := by decide +kernel
theorem dX6_advance_42 : decode cX6_advance 42 = .ok (.iastore, 1) := by decide +kernel
theorem dX6_advance_43 : decode cX6_advance 43 = .ok (.aload_n 1, 1) := by decide +kernel
theorem dX6_advance_44 : decode cX6_advance 44 = .ok (.getfield 105, 3) := by decide +kernel
theorem dX6_advance_47 : decode cX6_advance 47 = .ok (.istore_n 2, 1) := by decide +kernel
theorem dX6_advance_48 : decode cX6_advance 48 = .ok (.aload_n 1, 1) := by decide +kernel
theorem dX6_advance_49 : decode cX6_advance 49 = .ok (.dup, 1) := by decide +kernel
theorem dX6_advance_50 : decode cX6_advance 50 = .ok (.getfield 105, 3) := by decide +kernel
theorem dX6_advance_53 : decode cX6_advance 53 = .ok (.iconst 1, 1) := by decide +kernel
theorem dX6_advance_54 : decode cX6_advance 54 = .ok (.iadd, 1) := by decide +kernel
theorem dX6_advance_55 : decode cX6_advance 55 = .ok (.putfield 105, 3) := by decide +kernel
theorem dX6_advance_58 : decode cX6_advance 58 = .ok (.aload_n 0, 1) := by decide +kernel
theorem dX6_advance_59 : decode cX6_advance 59 = .ok (.aload_n 1, 1) := by decide +kernel
theorem dX6_advance_60 : decode cX6_advance 60 = .ok (.aload_n 1, 1) := by decide +kernel
theorem dX6_advance_61 : decode cX6_advance 61 = .ok (.getfield 108, 3) := by decide +kernel
theorem dX6_advance_64 : decode cX6_advance 64 = .ok (.getfield 112, 3) := by decide +kernel
theorem dX6_advance_67 : decode cX6_advance 67 = .ok (.iload_n 2, 1) := by decide +kernel
theorem dX6_advance_68 : decode cX6_advance 68 = .ok (.iaload, 1) := by decide +kernel
theorem dX6_advance_69 : decode cX6_advance 69 = .ok (.aload_n 1, 1) := by decide +kernel
theorem dX6_advance_70 : decode cX6_advance 70 = .ok (.getfield 108, 3) := by decide +kernel
theorem dX6_advance_73 : decode cX6_advance 73 = .ok (.getfield 117, 3) := by decide +kernel
theorem dX6_advance_76 : decode cX6_advance 76 = .ok (.iload_n 2, 1) := by decide +kernel
theorem dX6_advance_77 : decode cX6_advance 77 = .ok (.iaload, 1) := by decide +kernel
theorem dX6_advance_78 : decode cX6_advance 78 = .ok (.invokevirtual 120, 3) := by decide +kernel
theorem dX6_advance_81 : decode cX6_advance 81 = .ok (.istore_n 3, 1) := by decide +kernel
theorem dX6_advance_82 : decode cX6_advance 82 = .ok (.iload_n 3, 1) := by decide +kernel
theorem dX6_advance_83 : decode cX6_advance 83 = .ok (.ifCond .eq 8, 3) := by decide +kernel
theorem dX6_advance_86 : decode cX6_advance 86 = .ok (.aload_n 0, 1) := by decide +kernel
theorem dX6_advance_87 : decode cX6_advance 87 = .ok (.iload_n 3, 1) := by decide +kernel
theorem dX6_advance_88 : decode cX6_advance 88 = .ok (.invokevirtual 102, 3) := by decide +kernel
theorem dX6_advance_91 : decode cX6_advance 91 = .ok (.return_, 1) := by decide +kernel
theorem dX6_endWell_0 : decode cX6_endWell 0 = .ok (.aload_n 0, 1) := by decide +kernel
theorem dX6_endWell_1 : decode cX6_endWell 1 = .ok (.getfield 17, 3) := by decide +kernel
theorem dX6_endWell_4 : decode cX6_endWell 4 = .ok (.iconst 3, 1) := by decide +kernel
theorem dX6_endWell_5 : decode cX6_endWell 5 = .ok (.dup2, 1) := by decide +kernel
theorem dX6_endWell_6 : decode cX6_endWell 6 = .ok (.iaload, 1) := by decide +kernel
theorem dX6_endWell_7 : decode cX6_endWell 7 = .ok (.iconst 1, 1) := by decide +kernel
theorem dX6_endWell_8 : decode cX6_endWell 8 = .ok (.iadd, 1) := by decide +kernel
theorem dX6_endWell_9 : decode cX6_endWell 9 = .ok (.iastore, 1) := by decide +kernel
theorem dX6_endWell_10 : decode cX6_endWell 10 = .ok (.aload_n 0, 1) := by decide +kernel
theorem dX6_endWell_11 : decode cX6_endWell 11 = .ok (.dup, 1) := by decide +kernel
theorem dX6_endWell_12 : decode cX6_endWell 12 = .ok (.getfield 21, 3) := by decide +kernel
theorem dX6_endWell_15 : decode cX6_endWell 15 = .ok (.iconst 1, 1) := by decide +kernel
theorem dX6_endWell_16 : decode cX6_endWell 16 = .ok (.isub, 1) := by decide +kernel
theorem dX6_endWell_17 : decode cX6_endWell 17 = .ok (.putfield 21, 3) := by decide +kernel
theorem dX6_endWell_20 : decode cX6_endWell 20 = .ok (.aload_n 0, 1) := by decide +kernel
theorem dX6_endWell_21 : decode cX6_endWell 21 = .ok (.getfield 21, 3) := by decide +kernel
theorem dX6_endWell_24 : decode cX6_endWell 24 = .ok (.ifCond .le 25, 3) := by decide +kernel
theorem dX6_endWell_27 : decode cX6_endWell 27 = .ok (.aload_n 0, 1) := by decide +kernel
theorem dX6_endWell_28 : decode cX6_endWell 28 = .ok (.getfield 11, 3) := by decide +kernel
theorem dX6_endWell_31 : decode cX6_endWell 31 = .ok (.aload_n 0, 1) := by decide +kernel
theorem dX6_endWell_32 : decode cX6_endWell 32 = .ok (.getfield 21, 3) := by decide +kernel
theorem dX6_endWell_35 : decode cX6_endWell 35 = .ok (.iconst 1, 1) := by decide +kernel
theorem dX6_endWell_36 : decode cX6_endWell 36 = .ok (.isub, 1) := by decide +kernel
theorem dX6_endWell_37 : decode cX6_endWell 37 = .ok (.aaload, 1) := by decide +kernel
theorem dX6_endWell_38 : decode cX6_endWell 38 = .ok (.getfield 62, 3) := by decide +kernel
theorem dX6_endWell_41 : decode cX6_endWell 41 = .ok (.lload_n 1, 1) := by decide +kernel
theorem dX6_endWell_42 : decode cX6_endWell 42 = .ok (.invokevirtual 66, 3) := by decide +kernel
theorem dX6_endWell_45 : decode cX6_endWell 45 = .ok (.pop, 1) := by decide +kernel
theorem dX6_endWell_46 : decode cX6_endWell 46 = .ok (.goto 8, 3) := by decide +kernel
theorem dX6_endWell_49 : decode cX6_endWell 49 = .ok (.aload_n 0, 1) := by decide +kernel
theorem dX6_endWell_50 : decode cX6_endWell 50 = .ok (.lload_n 1, 1) := by decide +kernel
theorem dX6_endWell_51 : decode cX6_endWell 51 = .ok (.putfield 28, 3) := by decide +kernel
theorem dX6_endWell_54 : decode cX6_endWell 54 = .ok (.return_, 1) := by decide +kernel
theorem dX6_fail_0 : decode cX6_fail 0 = .ok (.aload_n 0, 1) := by decide +kernel
theorem dX6_fail_1 : decode cX6_fail 1 = .ok (.getfield 17, 3) := by decide +kernel
theorem dX6_fail_4 : decode cX6_fail 4 = .ok (.iconst 1, 1) := by decide +kernel
theorem dX6_fail_5 : decode cX6_fail 5 = .ok (.iaload, 1) := by decide +kernel
theorem dX6_fail_6 : decode cX6_fail 6 = .ok (.bipush 10, 2) := by decide +kernel
theorem dX6_fail_8 : decode cX6_fail 8 = .ok (.if_icmp .lt 15, 3) := by decide +kernel
theorem dX6_fail_11 : decode cX6_fail 11 = .ok (.aload_n 0, 1) := by decide +kernel
theorem dX6_fail_12 : decode cX6_fail 12 = .ok (.iconst 0, 1) := by decide +kernel
theorem dX6_fail_13 : decode cX6_fail 13 = .ok (.invokevirtual 124, 3) := by decide +kernel
theorem dX6_fail_16 : decode cX6_fail 16 = .ok (.aload_n 0, 1) := by decide +kernel
theorem dX6_fail_17 : decode cX6_fail 17 = .ok (.bipush (-3), 2) := by decide +kernel
theorem dX6_fail_19 : decode cX6_fail 19 = .ok (.putfield 25, 3) := by decide +kernel
theorem dX6_fail_22 : decode cX6_fail 22 = .ok (.return_, 1) := by decide +kernel
theorem dX6_fail_23 : decode cX6_fail 23 = .ok (.aload_n 0, 1) := by decide +kernel
theorem dX6_fail_24 : decode cX6_fail 24 = .ok (.getfield 17, 3) := by decide +kernel
theorem dX6_fail_27 : decode cX6_fail 27 = .ok (.iconst 1, 1) := by decide +kernel
theorem dX6_fail_28 : decode cX6_fail 28 = .ok (.dup2, 1) := by decide +kernel
theorem dX6_fail_29 : decode cX6_fail 29 = .ok (.iaload, 1) := by decide +kernel
theorem dX6_fail_30 : decode cX6_fail 30 = .ok (.iconst 1, 1) := by decide +kernel
theorem dX6_fail_31 : decode cX6_fail 31 = .ok (.iadd, 1) := by decide +kernel
theorem dX6_fail_32 : decode cX6_fail 32 = .ok (.iastore, 1) := by decide +kernel
theorem dX6_fail_33 : decode cX6_fail 33 = .ok (.aload_n 0, 1) := by decide +kernel
theorem dX6_fail_34 : decode cX6_fail 34 = .ok (.getfield 21, 3) := by decide +kernel
theorem dX6_fail_37 : decode cX6_fail 37 = .ok (.istore_n 2, 1) := by decide +kernel
theorem dX6_fail_38 : decode cX6_fail 38 = .ok (.iload_n 2, 1) := by decide +kernel
theorem dX6_fail_39 : decode cX6_fail 39 = .ok (.ifCond .le 32, 3) := by decide +kernel
theorem dX6_fail_42 : decode cX6_fail 42 = .ok (.aload_n 0, 1) := by decide +kernel
theorem dX6_fail_43 : decode cX6_fail 43 = .ok (.getfield 11, 3) := by decide +kernel
theorem dX6_fail_46 : decode cX6_fail 46 = .ok (.iload_n 2, 1) := by decide +kernel
theorem dX6_fail_47 : decode cX6_fail 47 = .ok (.iconst 1, 1) := by decide +kernel
theorem dX6_fail_48 : decode cX6_fail 48 = .ok (.isub, 1) := by decide +kernel
theorem dX6_fail_49 : decode cX6_fail 49 = .ok (.aaload, 1) := by decide +kernel
theorem dX6_fail_50 : decode cX6_fail 50 = .ok (.iload_n 1, 1) := by decide +kernel
theorem dX6_fail_51 : decode cX6_fail 51 = .ok (.invokevirtual 127, 3) := by decide +kernel
theorem dX6_fail_54 : decode cX6_fail 54 = .ok (.ifCond .eq 4, 3) := by decide +kernel
theorem dX6_fail_57 : decode cX6_fail 57 = .ok (.return_, 1) := by decide +kernel
theorem dX6_fail_58 : decode cX6_fail 58 = .ok (.aload_n 0, 1) := by decide +kernel
theorem dX6_fail_59 : decode cX6_fail 59 = .ok (.iload_n 2, 1) := by decide +kernel
theorem dX6_fail_60 : decode cX6_fail 60 = .ok (.iconst 1, 1) := by decide +kernel
theorem dX6_fail_61 : decode cX6_fail 61 = .ok (.isub, 1) := by decide +kernel
theorem dX6_fail_62 : decode cX6_fail 62 = .ok (.invokevirtual 124, 3) := by decide +kernel
theorem dX6_fail_65 : decode cX6_fail 65 = .ok (.iinc 2 (-1), 3) := by decide +kernel
theorem dX6_fail_68 : decode cX6_fail 68 = .ok (.goto (-30), 3) := by decide +kernel
theorem dX6_fail_71 : decode cX6_fail 71 = .ok (.aload_n 0, 1) := by decide +kernel
theorem dX6_fail_72 : decode cX6_fail 72 = .ok (.iload_n 1, 1) := by decide +kernel
theorem dX6_fail_73 : decode cX6_fail 73 = .ok (.putfield 25, 3) := by decide +kernel
theorem dX6_fail_76 : decode cX6_fail 76 = .ok (.return_, 1) := by decide +kernel
theorem dX6_undoTo_0 : decode cX6_undoTo 0 = .ok (.aload_n 0, 1) := by decide +kernel
theorem dX6_undoTo_1 : decode cX6_undoTo 1 = .ok (.getfield 17, 3) := by decide +kernel
theorem dX6_undoTo_4 : decode cX6_undoTo 4 = .ok (.iconst 4, 1) := by decide +kernel
theorem dX6_undoTo_5 : decode cX6_undoTo 5 = .ok (.dup2, 1) := by decide +kernel
theorem dX6_undoTo_6 : decode cX6_undoTo 6 = .ok (.iaload, 1) := by decide +kernel
theorem dX6_undoTo_7 : decode cX6_undoTo 7 = .ok (.aload_n 0, 1) := by decide +kernel
theorem dX6_undoTo_8 : decode cX6_undoTo 8 = .ok (.getfield 21, 3) := by decide +kernel
theorem dX6_undoTo_11 : decode cX6_undoTo 11 = .ok (.iload_n 1, 1) := by decide +kernel
theorem dX6_undoTo_12 : decode cX6_undoTo 12 = .ok (.isub, 1) := by decide +kernel
theorem dX6_undoTo_13 : decode cX6_undoTo 13 = .ok (.iadd, 1) := by decide +kernel
theorem dX6_undoTo_14 : decode cX6_undoTo 14 = .ok (.iastore, 1) := by decide +kernel
theorem dX6_undoTo_15 : decode cX6_undoTo 15 = .ok (.aload_n 0, 1) := by decide +kernel
theorem dX6_undoTo_16 : decode cX6_undoTo 16 = .ok (.getfield 36, 3) := by decide +kernel
theorem dX6_undoTo_19 : decode cX6_undoTo 19 = .ok (.iload_n 1, 1) := by decide +kernel
theorem dX6_undoTo_20 : decode cX6_undoTo 20 = .ok (.invokevirtual 131, 3) := by decide +kernel
theorem dX6_undoTo_23 : decode cX6_undoTo 23 = .ok (.aload_n 0, 1) := by decide +kernel
theorem dX6_undoTo_24 : decode cX6_undoTo 24 = .ok (.iload_n 1, 1) := by decide +kernel
theorem dX6_undoTo_25 : decode cX6_undoTo 25 = .ok (.putfield 21, 3) := by decide +kernel
theorem dX6_undoTo_28 : decode cX6_undoTo 28 = .ok (.return_, 1) := by decide +kernel
theorem dX6_perform_0 : decode cX6_perform 0 = .ok (.iload_n 2, 1) := by decide +kernel
theorem dX6_perform_1 : decode cX6_perform 1 = .ok (.ifCond .lt 19, 3) := by decide +kernel
theorem dX6_perform_4 : decode cX6_perform 4 = .ok (.iload_n 2, 1) := by decide +kernel
theorem dX6_perform_5 : decode cX6_perform 5 = .ok (.getstatic 134, 3) := by decide +kernel
theorem dX6_perform_8 : decode cX6_perform 8 = .ok (.arraylength, 1) := by decide +kernel
theorem dX6_perform_9 : decode cX6_perform 9 = .ok (.if_icmp .ge 11, 3) := by decide +kernel
theorem dX6_perform_12 : decode cX6_perform 12 = .ok (.iload_n 2, 1) := by decide +kernel
theorem dX6_perform_13 : decode cX6_perform 13 = .ok (.getstatic 137, 3) := by decide +kernel
theorem dX6_perform_16 : decode cX6_perform 16 = .ok (.arraylength, 1) := by decide +kernel
theorem dX6_perform_17 : decode cX6_perform 17 = .ok (.if_icmp .lt 6, 3) := by decide +kernel
theorem dX6_perform_20 : decode cX6_perform 20 = .ok (.bipush 12, 2) := by decide +kernel
theorem dX6_perform_22 : decode cX6_perform 22 = .ok (.ireturn, 1) := by decide +kernel
theorem dX6_perform_23 : decode cX6_perform 23 = .ok (.aload_n 1, 1) := by decide +kernel
theorem dX6_perform_24 : decode cX6_perform 24 = .ok (.getfield 62, 3) := by decide +kernel
theorem dX6_perform_27 : decode cX6_perform 27 = .ok (.astore 4, 2) := by decide +kernel
theorem dX6_perform_29 : decode cX6_perform 29 = .ok (.aload 4, 2) := by decide +kernel
theorem dX6_perform_31 : decode cX6_perform 31 = .ok (.getstatic 134, 3) := by decide +kernel
theorem dX6_perform_34 : decode cX6_perform 34 = .ok (.iload_n 2, 1) := by decide +kernel
theorem dX6_perform_35 : decode cX6_perform 35 = .ok (.iaload, 1) := by decide +kernel
theorem dX6_perform_36 : decode cX6_perform 36 = .ok (.getstatic 137, 3) := by decide +kernel
theorem dX6_perform_39 : decode cX6_perform 39 = .ok (.iload_n 2, 1) := by decide +kernel
theorem dX6_perform_40 : decode cX6_perform 40 = .ok (.iaload, 1) := by decide +kernel
theorem dX6_perform_41 : decode cX6_perform 41 = .ok (.invokevirtual 140, 3) := by decide +kernel
theorem dX6_perform_44 : decode cX6_perform 44 = .ok (.ifCond .ne 6, 3) := by decide +kernel
theorem dX6_perform_47 : decode cX6_perform 47 = .ok (.bipush 11, 2) := by decide +kernel
theorem dX6_perform_49 : decode cX6_perform 49 = .ok (.ireturn, 1) := by decide +kernel
theorem dX6_perform_50 : decode cX6_perform 50 = .ok (.aload 4, 2) := by decide +kernel
theorem dX6_perform_52 : decode cX6_perform 52 = .ok (.getstatic 134, 3) := by decide +kernel
theorem dX6_perform_55 : decode cX6_perform 55 = .ok (.iload_n 2, 1) := by decide +kernel
theorem dX6_perform_56 : decode cX6_perform 56 = .ok (.iaload, 1) := by decide +kernel
theorem dX6_perform_57 : decode cX6_perform 57 = .ok (.invokevirtual 144, 3) := by decide +kernel
theorem dX6_perform_60 : decode cX6_perform 60 = .ok (.iload_n 2, 1) := by decide +kernel
theorem dX6_perform_61 : decode cX6_perform 61 = .ok (.tableswitch 349 0 31 #[143, 151, 158, 165, 171, 173, 349, 349, 349, 349, 349, 349, 349, 179, 185, 191, 200, 209, 218, 227, 236, 245, 253, 261, 269, 275, 280, 300, 307, 313, 320, 338], 143) := by decide +kernel
theorem dX6_perform_204 : decode cX6_perform 204 = .ok (.aload 4, 2) := by decide +kernel
theorem dX6_perform_206 : decode cX6_perform 206 = .ok (.iload_n 3, 1) := by decide +kernel
theorem dX6_perform_207 : decode cX6_perform 207 = .ok (.i2l, 1) := by decide +kernel
theorem dX6_perform_208 : decode cX6_perform 208 = .ok (.invokevirtual 66, 3) := by decide +kernel
theorem dX6_perform_211 : decode cX6_perform 211 = .ok (.ireturn, 1) := by decide +kernel
theorem dX6_perform_212 : decode cX6_perform 212 = .ok (.aload_n 0, 1) := by decide +kernel
theorem dX6_perform_213 : decode cX6_perform 213 = .ok (.aload_n 1, 1) := by decide +kernel
theorem dX6_perform_214 : decode cX6_perform 214 = .ok (.iload_n 3, 1) := by decide +kernel
theorem dX6_perform_215 : decode cX6_perform 215 = .ok (.invokevirtual 147, 3) := by decide +kernel
theorem dX6_perform_218 : decode cX6_perform 218 = .ok (.ireturn, 1) := by decide +kernel
theorem dX6_perform_219 : decode cX6_perform 219 = .ok (.aload_n 0, 1) := by decide +kernel
theorem dX6_perform_220 : decode cX6_perform 220 = .ok (.aload_n 1, 1) := by decide +kernel
theorem dX6_perform_221 : decode cX6_perform 221 = .ok (.iload_n 3, 1) := by decide +kernel
theorem dX6_perform_222 : decode cX6_perform 222 = .ok (.invokevirtual 151, 3) := by decide +kernel
theorem dX6_perform_225 : decode cX6_perform 225 = .ok (.ireturn, 1) := by decide +kernel
theorem dX6_perform_226 : decode cX6_perform 226 = .ok (.aload 4, 2) := by decide +kernel
theorem dX6_perform_228 : decode cX6_perform 228 = .ok (.invokestatic 154, 3) := by decide +kernel
theorem dX6_perform_231 : decode cX6_perform 231 = .ok (.ireturn, 1) := by decide +kernel
theorem dX6_perform_232 : decode cX6_perform 232 = .ok (.iconst 0, 1) := by decide +kernel
theorem dX6_perform_233 : decode cX6_perform 233 = .ok (.ireturn, 1) := by decide +kernel
theorem dX6_perform_234 : decode cX6_perform 234 = .ok (.aload 4, 2) := by decide +kernel
theorem dX6_perform_236 : decode cX6_perform 236 = .ok (.invokestatic 158, 3) := by decide +kernel
theorem dX6_perform_239 : decode cX6_perform 239 = .ok (.ireturn, 1) := by decide +kernel
theorem dX6_perform_240 : decode cX6_perform 240 = .ok (.aload_n 1, 1) := by decide +kernel
theorem dX6_perform_241 : decode cX6_perform 241 = .ok (.iload_n 3, 1) := by decide +kernel
theorem dX6_perform_242 : decode cX6_perform 242 = .ok (.invokevirtual 161, 3) := by decide +kernel
theorem dX6_perform_245 : decode cX6_perform 245 = .ok (.ireturn, 1) := by decide +kernel
theorem dX6_perform_246 : decode cX6_perform 246 = .ok (.aload_n 1, 1) := by decide +kernel
theorem dX6_perform_247 : decode cX6_perform 247 = .ok (.iload_n 3, 1) := by decide +kernel
theorem dX6_perform_248 : decode cX6_perform 248 = .ok (.invokestatic 165, 3) := by decide +kernel
theorem dX6_perform_251 : decode cX6_perform 251 = .ok (.ireturn, 1) := by decide +kernel
theorem dX6_perform_252 : decode cX6_perform 252 = .ok (.aload_n 1, 1) := by decide +kernel
theorem dX6_perform_253 : decode cX6_perform 253 = .ok (.getfield 168, 3) := by decide +kernel
theorem dX6_perform_256 : decode cX6_perform 256 = .ok (.iconst 1, 1) := by decide +kernel
theorem dX6_perform_257 : decode cX6_perform 257 = .ok (.invokevirtual 172, 3) := by decide +kernel
theorem dX6_perform_260 : decode cX6_perform 260 = .ok (.ireturn, 1) := by decide +kernel
theorem dX6_perform_261 : decode cX6_perform 261 = .ok (.aload_n 1, 1) := by decide +kernel
theorem dX6_perform_262 : decode cX6_perform 262 = .ok (.getfield 168, 3) := by decide +kernel
theorem dX6_perform_265 : decode cX6_perform 265 = .ok (.iconst 2, 1) := by decide +kernel
theorem dX6_perform_266 : decode cX6_perform 266 = .ok (.invokevirtual 172, 3) := by decide +kernel
theorem dX6_perform_269 : decode cX6_perform 269 = .ok (.ireturn, 1) := by decide +kernel
theorem dX6_perform_270 : decode cX6_perform 270 = .ok (.aload_n 1, 1) := by decide +kernel
theorem dX6_perform_271 : decode cX6_perform 271 = .ok (.getfield 168, 3) := by decide +kernel
theorem dX6_perform_274 : decode cX6_perform 274 = .ok (.iconst 1, 1) := by decide +kernel
theorem dX6_perform_275 : decode cX6_perform 275 = .ok (.invokevirtual 177, 3) := by decide +kernel
theorem dX6_perform_278 : decode cX6_perform 278 = .ok (.ireturn, 1) := by decide +kernel
theorem dX6_perform_279 : decode cX6_perform 279 = .ok (.aload_n 1, 1) := by decide +kernel
theorem dX6_perform_280 : decode cX6_perform 280 = .ok (.getfield 168, 3) := by decide +kernel
theorem dX6_perform_283 : decode cX6_perform 283 = .ok (.iconst 2, 1) := by decide +kernel
theorem dX6_perform_284 : decode cX6_perform 284 = .ok (.invokevirtual 177, 3) := by decide +kernel
theorem dX6_perform_287 : decode cX6_perform 287 = .ok (.ireturn, 1) := by decide +kernel
theorem dX6_perform_288 : decode cX6_perform 288 = .ok (.aload_n 1, 1) := by decide +kernel
theorem dX6_perform_289 : decode cX6_perform 289 = .ok (.getfield 168, 3) := by decide +kernel
theorem dX6_perform_292 : decode cX6_perform 292 = .ok (.iconst 1, 1) := by decide +kernel
theorem dX6_perform_293 : decode cX6_perform 293 = .ok (.invokevirtual 180, 3) := by decide +kernel
theorem dX6_perform_296 : decode cX6_perform 296 = .ok (.ireturn, 1) := by decide +kernel
theorem dX6_perform_297 : decode cX6_perform 297 = .ok (.aload_n 1, 1) := by decide +kernel
theorem dX6_perform_298 : decode cX6_perform 298 = .ok (.getfield 168, 3) := by decide +kernel
theorem dX6_perform_301 : decode cX6_perform 301 = .ok (.iconst 2, 1) := by decide +kernel
theorem dX6_perform_302 : decode cX6_perform 302 = .ok (.invokevirtual 180, 3) := by decide +kernel
theorem dX6_perform_305 : decode cX6_perform 305 = .ok (.ireturn, 1) := by decide +kernel
theorem dX6_perform_306 : decode cX6_perform 306 = .ok (.aload_n 1, 1) := by decide +kernel
theorem dX6_perform_307 : decode cX6_perform 307 = .ok (.getfield 168, 3) := by decide +kernel
theorem dX6_perform_310 : decode cX6_perform 310 = .ok (.invokevirtual 183, 3) := by decide +kernel
theorem dX6_perform_313 : decode cX6_perform 313 = .ok (.ireturn, 1) := by decide +kernel
theorem dX6_perform_314 : decode cX6_perform 314 = .ok (.aload 4, 2) := by decide +kernel
theorem dX6_perform_316 : decode cX6_perform 316 = .ok (.iconst 3, 1) := by decide +kernel
theorem dX6_perform_317 : decode cX6_perform 317 = .ok (.lconst 0, 1) := by decide +kernel
theorem dX6_perform_318 : decode cX6_perform 318 = .ok (.invokevirtual 187, 3) := by decide +kernel
theorem dX6_perform_321 : decode cX6_perform 321 = .ok (.ireturn, 1) := by decide +kernel
theorem dX6_perform_322 : decode cX6_perform 322 = .ok (.aload_n 1, 1) := by decide +kernel
theorem dX6_perform_323 : decode cX6_perform 323 = .ok (.getfield 168, 3) := by decide +kernel
theorem dX6_perform_326 : decode cX6_perform 326 = .ok (.invokevirtual 191, 3) := by decide +kernel
theorem dX6_perform_329 : decode cX6_perform 329 = .ok (.ireturn, 1) := by decide +kernel
theorem dX6_perform_330 : decode cX6_perform 330 = .ok (.aload_n 1, 1) := by decide +kernel
theorem dX6_perform_331 : decode cX6_perform 331 = .ok (.iload_n 3, 1) := by decide +kernel
theorem dX6_perform_332 : decode cX6_perform 332 = .ok (.invokevirtual 194, 3) := by decide +kernel
theorem dX6_perform_335 : decode cX6_perform 335 = .ok (.ireturn, 1) := by decide +kernel
theorem dX6_perform_336 : decode cX6_perform 336 = .ok (.aload_n 1, 1) := by decide +kernel
theorem dX6_perform_337 : decode cX6_perform 337 = .ok (.invokevirtual 197, 3) := by decide +kernel
theorem dX6_perform_340 : decode cX6_perform 340 = .ok (.ireturn, 1) := by decide +kernel
theorem dX6_perform_341 : decode cX6_perform 341 = .ok (.iload_n 3, 1) := by decide +kernel
theorem dX6_perform_342 : decode cX6_perform 342 = .ok (.ifCond .lt 16, 3) := by decide +kernel
theorem dX6_perform_345 : decode cX6_perform 345 = .ok (.iload_n 3, 1) := by decide +kernel
theorem dX6_perform_346 : decode cX6_perform 346 = .ok (.bipush 7, 2) := by decide +kernel
theorem dX6_perform_348 : decode cX6_perform 348 = .ok (.if_icmp .gt 10, 3) := by decide +kernel
theorem dX6_perform_351 : decode cX6_perform 351 = .ok (.bipush 13, 2) := by decide +kernel
theorem dX6_perform_353 : decode cX6_perform 353 = .ok (.iload_n 3, 1) := by decide +kernel
theorem dX6_perform_354 : decode cX6_perform 354 = .ok (.iadd, 1) := by decide +kernel
theorem dX6_perform_355 : decode cX6_perform 355 = .ok (.goto 5, 3) := by decide +kernel
theorem dX6_perform_358 : decode cX6_perform 358 = .ok (.bipush 12, 2) := by decide +kernel
theorem dX6_perform_360 : decode cX6_perform 360 = .ok (.ireturn, 1) := by decide +kernel
theorem dX6_perform_361 : decode cX6_perform 361 = .ok (.aload_n 0, 1) := by decide +kernel
theorem dX6_perform_362 : decode cX6_perform 362 = .ok (.aload 4, 2) := by decide +kernel
theorem dX6_perform_364 : decode cX6_perform 364 = .ok (.invokevirtual 200, 3) := by decide +kernel
theorem dX6_perform_367 : decode cX6_perform 367 = .ok (.ireturn, 1) := by decide +kernel
theorem dX6_perform_368 : decode cX6_perform 368 = .ok (.aload_n 0, 1) := by decide +kernel
theorem dX6_perform_369 : decode cX6_perform 369 = .ok (.aload_n 1, 1) := by decide +kernel
theorem dX6_perform_370 : decode cX6_perform 370 = .ok (.invokevirtual 203, 3) := by decide +kernel
theorem dX6_perform_373 : decode cX6_perform 373 = .ok (.ireturn, 1) := by decide +kernel
theorem dX6_perform_374 : decode cX6_perform 374 = .ok (.aload_n 0, 1) := by decide +kernel
theorem dX6_perform_375 : decode cX6_perform 375 = .ok (.aload_n 1, 1) := by decide +kernel
theorem dX6_perform_376 : decode cX6_perform 376 = .ok (.iload_n 3, 1) := by decide +kernel
theorem dX6_perform_377 : decode cX6_perform 377 = .ok (.invokevirtual 207, 3) := by decide +kernel
theorem dX6_perform_380 : decode cX6_perform 380 = .ok (.ireturn, 1) := by decide +kernel
theorem dX6_perform_381 : decode cX6_perform 381 = .ok (.aload 4, 2) := by decide +kernel
theorem dX6_perform_383 : decode cX6_perform 383 = .ok (.aload_n 0, 1) := by decide +kernel
theorem dX6_perform_384 : decode cX6_perform 384 = .ok (.getfield 36, 3) := by decide +kernel
theorem dX6_perform_387 : decode cX6_perform 387 = .ok (.getfield 210, 3) := by decide +kernel
theorem dX6_perform_390 : decode cX6_perform 390 = .ok (.aload_n 1, 1) := by decide +kernel
theorem dX6_perform_391 : decode cX6_perform 391 = .ok (.getfield 214, 3) := by decide +kernel
theorem dX6_perform_394 : decode cX6_perform 394 = .ok (.laload, 1) := by decide +kernel
theorem dX6_perform_395 : decode cX6_perform 395 = .ok (.invokevirtual 66, 3) := by decide +kernel
theorem dX6_perform_398 : decode cX6_perform 398 = .ok (.ireturn, 1) := by decide +kernel
theorem dX6_perform_399 : decode cX6_perform 399 = .ok (.aload 4, 2) := by decide +kernel
theorem dX6_perform_401 : decode cX6_perform 401 = .ok (.aload_n 1, 1) := by decide +kernel
theorem dX6_perform_402 : decode cX6_perform 402 = .ok (.getfield 217, 3) := by decide +kernel
theorem dX6_perform_405 : decode cX6_perform 405 = .ok (.i2l, 1) := by decide +kernel
theorem dX6_perform_406 : decode cX6_perform 406 = .ok (.invokevirtual 66, 3) := by decide +kernel
theorem dX6_perform_409 : decode cX6_perform 409 = .ok (.ireturn, 1) := by decide +kernel
theorem dX6_perform_410 : decode cX6_perform 410 = .ok (.aload 4, 2) := by decide +kernel
theorem dX6_perform_412 : decode cX6_perform 412 = .ok (.iload_n 2, 1) := by decide +kernel
theorem dX6_perform_413 : decode cX6_perform 413 = .ok (.invokestatic 220, 3) := by decide +kernel
theorem dX6_perform_416 : decode cX6_perform 416 = .ok (.ireturn, 1) := by decide +kernel
theorem dX6_putLeaf_0 : decode cX6_putLeaf 0 = .ok (.iload_n 2, 1) := by decide +kernel
theorem dX6_putLeaf_1 : decode cX6_putLeaf 1 = .ok (.invokestatic 224, 3) := by decide +kernel
theorem dX6_putLeaf_4 : decode cX6_putLeaf 4 = .ok (.ifCond .ne 6, 3) := by decide +kernel
theorem dX6_putLeaf_7 : decode cX6_putLeaf 7 = .ok (.bipush 12, 2) := by decide +kernel
theorem dX6_putLeaf_9 : decode cX6_putLeaf 9 = .ok (.ireturn, 1) := by decide +kernel
theorem dX6_putLeaf_10 : decode cX6_putLeaf 10 = .ok (.aload_n 1, 1) := by decide +kernel
theorem dX6_putLeaf_11 : decode cX6_putLeaf 11 = .ok (.getfield 62, 3) := by decide +kernel
theorem dX6_putLeaf_14 : decode cX6_putLeaf 14 = .ok (.aload_n 0, 1) := by decide +kernel
theorem dX6_putLeaf_15 : decode cX6_putLeaf 15 = .ok (.getfield 36, 3) := by decide +kernel
theorem dX6_putLeaf_18 : decode cX6_putLeaf 18 = .ok (.getfield 227, 3) := by decide +kernel
theorem dX6_putLeaf_21 : decode cX6_putLeaf 21 = .ok (.aload_n 1, 1) := by decide +kernel
theorem dX6_putLeaf_22 : decode cX6_putLeaf 22 = .ok (.getfield 214, 3) := by decide +kernel
theorem dX6_putLeaf_25 : decode cX6_putLeaf 25 = .ok (.bipush 8, 2) := by decide +kernel
theorem dX6_putLeaf_27 : decode cX6_putLeaf 27 = .ok (.imul, 1) := by decide +kernel
theorem dX6_putLeaf_28 : decode cX6_putLeaf 28 = .ok (.iload_n 2, 1) := by decide +kernel
theorem dX6_putLeaf_29 : decode cX6_putLeaf 29 = .ok (.iadd, 1) := by decide +kernel
theorem dX6_putLeaf_30 : decode cX6_putLeaf 30 = .ok (.laload, 1) := by decide +kernel
theorem dX6_putLeaf_31 : decode cX6_putLeaf 31 = .ok (.invokevirtual 66, 3) := by decide +kernel
theorem dX6_putLeaf_34 : decode cX6_putLeaf 34 = .ok (.ireturn, 1) := by decide +kernel
theorem dX6_changeLeaf_0 : decode cX6_changeLeaf 0 = .ok (.iload_n 2, 1) := by decide +kernel
theorem dX6_changeLeaf_1 : decode cX6_changeLeaf 1 = .ok (.invokestatic 224, 3) := by decide +kernel
theorem dX6_changeLeaf_4 : decode cX6_changeLeaf 4 = .ok (.ifCond .ne 6, 3) := by decide +kernel
theorem dX6_changeLeaf_7 : decode cX6_changeLeaf 7 = .ok (.bipush 12, 2) := by decide +kernel
theorem dX6_changeLeaf_9 : decode cX6_changeLeaf 9 = .ok (.ireturn, 1) := by decide +kernel
theorem dX6_changeLeaf_10 : decode cX6_changeLeaf 10 = .ok (.aload_n 1, 1) := by decide +kernel
theorem dX6_changeLeaf_11 : decode cX6_changeLeaf 11 = .ok (.getfield 62, 3) := by decide +kernel
theorem dX6_changeLeaf_14 : decode cX6_changeLeaf 14 = .ok (.iconst 0, 1) := by decide +kernel
theorem dX6_changeLeaf_15 : decode cX6_changeLeaf 15 = .ok (.invokevirtual 230, 3) := by decide +kernel
theorem dX6_changeLeaf_18 : decode cX6_changeLeaf 18 = .ok (.ifCond .ne 5, 3) := by decide +kernel
theorem dX6_changeLeaf_21 : decode cX6_changeLeaf 21 = .ok (.iconst 4, 1) := by decide +kernel
theorem dX6_changeLeaf_22 : decode cX6_changeLeaf 22 = .ok (.ireturn, 1) := by decide +kernel
theorem dX6_changeLeaf_23 : decode cX6_changeLeaf 23 = .ok (.aload_n 0, 1) := by decide +kernel
theorem dX6_changeLeaf_24 : decode cX6_changeLeaf 24 = .ok (.getfield 36, 3) := by decide +kernel
theorem dX6_changeLeaf_27 : decode cX6_changeLeaf 27 = .ok (.getfield 227, 3) := by decide +kernel
theorem dX6_changeLeaf_30 : decode cX6_changeLeaf 30 = .ok (.aload_n 1, 1) := by decide +kernel
theorem dX6_changeLeaf_31 : decode cX6_changeLeaf 31 = .ok (.getfield 214, 3) := by decide +kernel
theorem dX6_changeLeaf_34 : decode cX6_changeLeaf 34 = .ok (.bipush 8, 2) := by decide +kernel
theorem dX6_changeLeaf_36 : decode cX6_changeLeaf 36 = .ok (.imul, 1) := by decide +kernel
theorem dX6_changeLeaf_37 : decode cX6_changeLeaf 37 = .ok (.iload_n 2, 1) := by decide +kernel
theorem dX6_changeLeaf_38 : decode cX6_changeLeaf 38 = .ok (.iadd, 1) := by decide +kernel
theorem dX6_changeLeaf_39 : decode cX6_changeLeaf 39 = .ok (.aload_n 1, 1) := by decide +kernel
theorem dX6_changeLeaf_40 : decode cX6_changeLeaf 40 = .ok (.getfield 62, 3) := by decide +kernel
theorem dX6_changeLeaf_43 : decode cX6_changeLeaf 43 = .ok (.iconst 0, 1) := by decide +kernel
theorem dX6_changeLeaf_44 : decode cX6_changeLeaf 44 = .ok (.invokevirtual 233, 3) := by decide +kernel
theorem dX6_changeLeaf_47 : decode cX6_changeLeaf 47 = .ok (.lastore, 1) := by decide +kernel
theorem dX6_changeLeaf_48 : decode cX6_changeLeaf 48 = .ok (.iconst 0, 1) := by decide +kernel
theorem dX6_changeLeaf_49 : decode cX6_changeLeaf 49 = .ok (.ireturn, 1) := by decide +kernel
theorem dX6_putTwice_0 : decode cX6_putTwice 0 = .ok (.aload_n 0, 1) := by decide +kernel
theorem dX6_putTwice_1 : decode cX6_putTwice 1 = .ok (.iconst 0, 1) := by decide +kernel
theorem dX6_putTwice_2 : decode cX6_putTwice 2 = .ok (.invokevirtual 237, 3) := by decide +kernel
theorem dX6_putTwice_5 : decode cX6_putTwice 5 = .ok (.istore_n 1, 1) := by decide +kernel
theorem dX6_putTwice_6 : decode cX6_putTwice 6 = .ok (.aload_n 0, 1) := by decide +kernel
theorem dX6_putTwice_7 : decode cX6_putTwice 7 = .ok (.iconst 0, 1) := by decide +kernel
theorem dX6_putTwice_8 : decode cX6_putTwice 8 = .ok (.invokevirtual 233, 3) := by decide +kernel
theorem dX6_putTwice_11 : decode cX6_putTwice 11 = .ok (.lstore_n 2, 1) := by decide +kernel
theorem dX6_putTwice_12 : decode cX6_putTwice 12 = .ok (.aload_n 0, 1) := by decide +kernel
theorem dX6_putTwice_13 : decode cX6_putTwice 13 = .ok (.iload_n 1, 1) := by decide +kernel
theorem dX6_putTwice_14 : decode cX6_putTwice 14 = .ok (.lload_n 2, 1) := by decide +kernel
theorem dX6_putTwice_15 : decode cX6_putTwice 15 = .ok (.invokevirtual 187, 3) := by decide +kernel
theorem dX6_putTwice_18 : decode cX6_putTwice 18 = .ok (.pop, 1) := by decide +kernel
theorem dX6_putTwice_19 : decode cX6_putTwice 19 = .ok (.aload_n 0, 1) := by decide +kernel
theorem dX6_putTwice_20 : decode cX6_putTwice 20 = .ok (.iload_n 1, 1) := by decide +kernel
theorem dX6_putTwice_21 : decode cX6_putTwice 21 = .ok (.lload_n 2, 1) := by decide +kernel
theorem dX6_putTwice_22 : decode cX6_putTwice 22 = .ok (.invokevirtual 187, 3) := by decide +kernel
theorem dX6_putTwice_25 : decode cX6_putTwice 25 = .ok (.ireturn, 1) := by decide +kernel
theorem dX6_putSwapped_0 : decode cX6_putSwapped 0 = .ok (.aload_n 0, 1) := by decide +kernel
theorem dX6_putSwapped_1 : decode cX6_putSwapped 1 = .ok (.iconst 0, 1) := by decide +kernel
theorem dX6_putSwapped_2 : decode cX6_putSwapped 2 = .ok (.invokevirtual 237, 3) := by decide +kernel
theorem dX6_putSwapped_5 : decode cX6_putSwapped 5 = .ok (.istore_n 1, 1) := by decide +kernel
theorem dX6_putSwapped_6 : decode cX6_putSwapped 6 = .ok (.aload_n 0, 1) := by decide +kernel
theorem dX6_putSwapped_7 : decode cX6_putSwapped 7 = .ok (.iconst 0, 1) := by decide +kernel
theorem dX6_putSwapped_8 : decode cX6_putSwapped 8 = .ok (.invokevirtual 233, 3) := by decide +kernel
theorem dX6_putSwapped_11 : decode cX6_putSwapped 11 = .ok (.lstore_n 2, 1) := by decide +kernel
theorem dX6_putSwapped_12 : decode cX6_putSwapped 12 = .ok (.aload_n 0, 1) := by decide +kernel
theorem dX6_putSwapped_13 : decode cX6_putSwapped 13 = .ok (.iconst 1, 1) := by decide +kernel
theorem dX6_putSwapped_14 : decode cX6_putSwapped 14 = .ok (.invokevirtual 237, 3) := by decide +kernel
theorem dX6_putSwapped_17 : decode cX6_putSwapped 17 = .ok (.istore 4, 2) := by decide +kernel
theorem dX6_putSwapped_19 : decode cX6_putSwapped 19 = .ok (.aload_n 0, 1) := by decide +kernel
theorem dX6_putSwapped_20 : decode cX6_putSwapped 20 = .ok (.iconst 1, 1) := by decide +kernel
theorem dX6_putSwapped_21 : decode cX6_putSwapped 21 = .ok (.invokevirtual 233, 3) := by decide +kernel
theorem dX6_putSwapped_24 : decode cX6_putSwapped 24 = .ok (.lstore 5, 2) := by decide +kernel
theorem dX6_putSwapped_26 : decode cX6_putSwapped 26 = .ok (.aload_n 0, 1) := by decide +kernel
theorem dX6_putSwapped_27 : decode cX6_putSwapped 27 = .ok (.iload_n 1, 1) := by decide +kernel
theorem dX6_putSwapped_28 : decode cX6_putSwapped 28 = .ok (.lload_n 2, 1) := by decide +kernel
theorem dX6_putSwapped_29 : decode cX6_putSwapped 29 = .ok (.invokevirtual 187, 3) := by decide +kernel
theorem dX6_putSwapped_32 : decode cX6_putSwapped 32 = .ok (.pop, 1) := by decide +kernel
theorem dX6_putSwapped_33 : decode cX6_putSwapped 33 = .ok (.aload_n 0, 1) := by decide +kernel
theorem dX6_putSwapped_34 : decode cX6_putSwapped 34 = .ok (.iload 4, 2) := by decide +kernel
theorem dX6_putSwapped_36 : decode cX6_putSwapped 36 = .ok (.lload 5, 2) := by decide +kernel
theorem dX6_putSwapped_38 : decode cX6_putSwapped 38 = .ok (.invokevirtual 187, 3) := by decide +kernel
theorem dX6_putSwapped_41 : decode cX6_putSwapped 41 = .ok (.ireturn, 1) := by decide +kernel
theorem dX6_calculate_0 : decode cX6_calculate 0 = .ok (.aload_n 0, 1) := by decide +kernel
theorem dX6_calculate_1 : decode cX6_calculate 1 = .ok (.iconst 0, 1) := by decide +kernel
theorem dX6_calculate_2 : decode cX6_calculate 2 = .ok (.invokevirtual 230, 3) := by decide +kernel
theorem dX6_calculate_5 : decode cX6_calculate 5 = .ok (.ifCond .eq 11, 3) := by decide +kernel
theorem dX6_calculate_8 : decode cX6_calculate 8 = .ok (.aload_n 0, 1) := by decide +kernel
theorem dX6_calculate_9 : decode cX6_calculate 9 = .ok (.iconst 1, 1) := by decide +kernel
theorem dX6_calculate_10 : decode cX6_calculate 10 = .ok (.invokevirtual 230, 3) := by decide +kernel
theorem dX6_calculate_13 : decode cX6_calculate 13 = .ok (.ifCond .ne 5, 3) := by decide +kernel
theorem dX6_calculate_16 : decode cX6_calculate 16 = .ok (.iconst 4, 1) := by decide +kernel
theorem dX6_calculate_17 : decode cX6_calculate 17 = .ok (.ireturn, 1) := by decide +kernel
theorem dX6_calculate_18 : decode cX6_calculate 18 = .ok (.aload_n 0, 1) := by decide +kernel
theorem dX6_calculate_19 : decode cX6_calculate 19 = .ok (.iconst 0, 1) := by decide +kernel
theorem dX6_calculate_20 : decode cX6_calculate 20 = .ok (.invokevirtual 233, 3) := by decide +kernel
theorem dX6_calculate_23 : decode cX6_calculate 23 = .ok (.lstore_n 2, 1) := by decide +kernel
theorem dX6_calculate_24 : decode cX6_calculate 24 = .ok (.aload_n 0, 1) := by decide +kernel
theorem dX6_calculate_25 : decode cX6_calculate 25 = .ok (.iconst 1, 1) := by decide +kernel
theorem dX6_calculate_26 : decode cX6_calculate 26 = .ok (.invokevirtual 233, 3) := by decide +kernel
theorem dX6_calculate_29 : decode cX6_calculate 29 = .ok (.lstore 4, 2) := by decide +kernel
theorem dX6_calculate_31 : decode cX6_calculate 31 = .ok (.iload_n 1, 1) := by decide +kernel
theorem dX6_calculate_32 : decode cX6_calculate 32 = .ok (.tableswitch 185 6 12 #[44, 67, 90, 113, 132, 151, 168], 44) := by decide +kernel
theorem dX6_calculate_76 : decode cX6_calculate 76 = .ok (.lload 4, 2) := by decide +kernel
theorem dX6_calculate_78 : decode cX6_calculate 78 = .ok (.lload_n 2, 1) := by decide +kernel
theorem dX6_calculate_79 : decode cX6_calculate 79 = .ok (.invokestatic 240, 3) := by decide +kernel
theorem dX6_calculate_82 : decode cX6_calculate 82 = .ok (.ifCond .eq 14, 3) := by decide +kernel
theorem dX6_calculate_85 : decode cX6_calculate 85 = .ok (.aload_n 0, 1) := by decide +kernel
theorem dX6_calculate_86 : decode cX6_calculate 86 = .ok (.lload 4, 2) := by decide +kernel
theorem dX6_calculate_88 : decode cX6_calculate 88 = .ok (.lload_n 2, 1) := by decide +kernel
theorem dX6_calculate_89 : decode cX6_calculate 89 = .ok (.ladd, 1) := by decide +kernel
theorem dX6_calculate_90 : decode cX6_calculate 90 = .ok (.invokevirtual 66, 3) := by decide +kernel
theorem dX6_calculate_93 : decode cX6_calculate 93 = .ok (.goto 5, 3) := by decide +kernel
theorem dX6_calculate_96 : decode cX6_calculate 96 = .ok (.bipush 6, 2) := by decide +kernel
theorem dX6_calculate_98 : decode cX6_calculate 98 = .ok (.ireturn, 1) := by decide +kernel
theorem dX6_calculate_99 : decode cX6_calculate 99 = .ok (.lload 4, 2) := by decide +kernel
theorem dX6_calculate_101 : decode cX6_calculate 101 = .ok (.lload_n 2, 1) := by decide +kernel
theorem dX6_calculate_102 : decode cX6_calculate 102 = .ok (.invokestatic 244, 3) := by decide +kernel
theorem dX6_calculate_105 : decode cX6_calculate 105 = .ok (.ifCond .eq 14, 3) := by decide +kernel
theorem dX6_calculate_108 : decode cX6_calculate 108 = .ok (.aload_n 0, 1) := by decide +kernel
theorem dX6_calculate_109 : decode cX6_calculate 109 = .ok (.lload 4, 2) := by decide +kernel
theorem dX6_calculate_111 : decode cX6_calculate 111 = .ok (.lload_n 2, 1) := by decide +kernel
theorem dX6_calculate_112 : decode cX6_calculate 112 = .ok (.lsub, 1) := by decide +kernel
theorem dX6_calculate_113 : decode cX6_calculate 113 = .ok (.invokevirtual 66, 3) := by decide +kernel
theorem dX6_calculate_116 : decode cX6_calculate 116 = .ok (.goto 5, 3) := by decide +kernel
theorem dX6_calculate_119 : decode cX6_calculate 119 = .ok (.bipush 6, 2) := by decide +kernel
theorem dX6_calculate_121 : decode cX6_calculate 121 = .ok (.ireturn, 1) := by decide +kernel
theorem dX6_calculate_122 : decode cX6_calculate 122 = .ok (.lload 4, 2) := by decide +kernel
theorem dX6_calculate_124 : decode cX6_calculate 124 = .ok (.lload_n 2, 1) := by decide +kernel
theorem dX6_calculate_125 : decode cX6_calculate 125 = .ok (.invokestatic 247, 3) := by decide +kernel
theorem dX6_calculate_128 : decode cX6_calculate 128 = .ok (.ifCond .eq 14, 3) := by decide +kernel
theorem dX6_calculate_131 : decode cX6_calculate 131 = .ok (.aload_n 0, 1) := by decide +kernel
theorem dX6_calculate_132 : decode cX6_calculate 132 = .ok (.lload 4, 2) := by decide +kernel
theorem dX6_calculate_134 : decode cX6_calculate 134 = .ok (.lload_n 2, 1) := by decide +kernel
theorem dX6_calculate_135 : decode cX6_calculate 135 = .ok (.lmul, 1) := by decide +kernel
theorem dX6_calculate_136 : decode cX6_calculate 136 = .ok (.invokevirtual 66, 3) := by decide +kernel
theorem dX6_calculate_139 : decode cX6_calculate 139 = .ok (.goto 5, 3) := by decide +kernel
theorem dX6_calculate_142 : decode cX6_calculate 142 = .ok (.bipush 6, 2) := by decide +kernel
theorem dX6_calculate_144 : decode cX6_calculate 144 = .ok (.ireturn, 1) := by decide +kernel
theorem dX6_calculate_145 : decode cX6_calculate 145 = .ok (.lload_n 2, 1) := by decide +kernel
theorem dX6_calculate_146 : decode cX6_calculate 146 = .ok (.lconst 0, 1) := by decide +kernel
theorem dX6_calculate_147 : decode cX6_calculate 147 = .ok (.lcmp, 1) := by decide +kernel
theorem dX6_calculate_148 : decode cX6_calculate 148 = .ok (.ifCond .eq 14, 3) := by decide +kernel
theorem dX6_calculate_151 : decode cX6_calculate 151 = .ok (.aload_n 0, 1) := by decide +kernel
theorem dX6_calculate_152 : decode cX6_calculate 152 = .ok (.lload 4, 2) := by decide +kernel
theorem dX6_calculate_154 : decode cX6_calculate 154 = .ok (.lload_n 2, 1) := by decide +kernel
theorem dX6_calculate_155 : decode cX6_calculate 155 = .ok (.ldiv, 1) := by decide +kernel
theorem dX6_calculate_156 : decode cX6_calculate 156 = .ok (.invokevirtual 66, 3) := by decide +kernel
theorem dX6_calculate_159 : decode cX6_calculate 159 = .ok (.goto 4, 3) := by decide +kernel
theorem dX6_calculate_162 : decode cX6_calculate 162 = .ok (.iconst 1, 1) := by decide +kernel
theorem dX6_calculate_163 : decode cX6_calculate 163 = .ok (.ireturn, 1) := by decide +kernel
theorem dX6_calculate_164 : decode cX6_calculate 164 = .ok (.lload_n 2, 1) := by decide +kernel
theorem dX6_calculate_165 : decode cX6_calculate 165 = .ok (.lconst 0, 1) := by decide +kernel
theorem dX6_calculate_166 : decode cX6_calculate 166 = .ok (.lcmp, 1) := by decide +kernel
theorem dX6_calculate_167 : decode cX6_calculate 167 = .ok (.ifCond .eq 14, 3) := by decide +kernel
theorem dX6_calculate_170 : decode cX6_calculate 170 = .ok (.aload_n 0, 1) := by decide +kernel
theorem dX6_calculate_171 : decode cX6_calculate 171 = .ok (.lload 4, 2) := by decide +kernel
theorem dX6_calculate_173 : decode cX6_calculate 173 = .ok (.lload_n 2, 1) := by decide +kernel
theorem dX6_calculate_174 : decode cX6_calculate 174 = .ok (.lrem, 1) := by decide +kernel
theorem dX6_calculate_175 : decode cX6_calculate 175 = .ok (.invokevirtual 66, 3) := by decide +kernel
theorem dX6_calculate_178 : decode cX6_calculate 178 = .ok (.goto 4, 3) := by decide +kernel
theorem dX6_calculate_181 : decode cX6_calculate 181 = .ok (.iconst 1, 1) := by decide +kernel
theorem dX6_calculate_182 : decode cX6_calculate 182 = .ok (.ireturn, 1) := by decide +kernel
theorem dX6_calculate_183 : decode cX6_calculate 183 = .ok (.aload_n 0, 1) := by decide +kernel
theorem dX6_calculate_184 : decode cX6_calculate 184 = .ok (.lload 4, 2) := by decide +kernel
theorem dX6_calculate_186 : decode cX6_calculate 186 = .ok (.lload_n 2, 1) := by decide +kernel
theorem dX6_calculate_187 : decode cX6_calculate 187 = .ok (.lcmp, 1) := by decide +kernel
theorem dX6_calculate_188 : decode cX6_calculate 188 = .ok (.ifCond .ge 7, 3) := by decide +kernel
theorem dX6_calculate_191 : decode cX6_calculate 191 = .ok (.lconst 1, 1) := by decide +kernel
theorem dX6_calculate_192 : decode cX6_calculate 192 = .ok (.goto 4, 3) := by decide +kernel
theorem dX6_calculate_195 : decode cX6_calculate 195 = .ok (.lconst 0, 1) := by decide +kernel
theorem dX6_calculate_196 : decode cX6_calculate 196 = .ok (.invokevirtual 66, 3) := by decide +kernel
theorem dX6_calculate_199 : decode cX6_calculate 199 = .ok (.ireturn, 1) := by decide +kernel
theorem dX6_calculate_200 : decode cX6_calculate 200 = .ok (.aload_n 0, 1) := by decide +kernel
theorem dX6_calculate_201 : decode cX6_calculate 201 = .ok (.lload 4, 2) := by decide +kernel
theorem dX6_calculate_203 : decode cX6_calculate 203 = .ok (.lload_n 2, 1) := by decide +kernel
theorem dX6_calculate_204 : decode cX6_calculate 204 = .ok (.lcmp, 1) := by decide +kernel
theorem dX6_calculate_205 : decode cX6_calculate 205 = .ok (.ifCond .ne 7, 3) := by decide +kernel
theorem dX6_calculate_208 : decode cX6_calculate 208 = .ok (.lconst 1, 1) := by decide +kernel
theorem dX6_calculate_209 : decode cX6_calculate 209 = .ok (.goto 4, 3) := by decide +kernel
theorem dX6_calculate_212 : decode cX6_calculate 212 = .ok (.lconst 0, 1) := by decide +kernel
theorem dX6_calculate_213 : decode cX6_calculate 213 = .ok (.invokevirtual 66, 3) := by decide +kernel
theorem dX6_calculate_216 : decode cX6_calculate 216 = .ok (.ireturn, 1) := by decide +kernel
theorem dX6_calculate_217 : decode cX6_calculate 217 = .ok (.bipush 12, 2) := by decide +kernel
theorem dX6_calculate_219 : decode cX6_calculate 219 = .ok (.ireturn, 1) := by decide +kernel
theorem dX6_jumpIfZero_0 : decode cX6_jumpIfZero 0 = .ok (.aload_n 0, 1) := by decide +kernel
theorem dX6_jumpIfZero_1 : decode cX6_jumpIfZero 1 = .ok (.getfield 62, 3) := by decide +kernel
theorem dX6_jumpIfZero_4 : decode cX6_jumpIfZero 4 = .ok (.iconst 0, 1) := by decide +kernel
theorem dX6_jumpIfZero_5 : decode cX6_jumpIfZero 5 = .ok (.invokevirtual 230, 3) := by decide +kernel
theorem dX6_jumpIfZero_8 : decode cX6_jumpIfZero 8 = .ok (.ifCond .ne 5, 3) := by decide +kernel
theorem dX6_jumpIfZero_11 : decode cX6_jumpIfZero 11 = .ok (.iconst 4, 1) := by decide +kernel
theorem dX6_jumpIfZero_12 : decode cX6_jumpIfZero 12 = .ok (.ireturn, 1) := by decide +kernel
theorem dX6_jumpIfZero_13 : decode cX6_jumpIfZero 13 = .ok (.aload_n 0, 1) := by decide +kernel
theorem dX6_jumpIfZero_14 : decode cX6_jumpIfZero 14 = .ok (.getfield 108, 3) := by decide +kernel
theorem dX6_jumpIfZero_17 : decode cX6_jumpIfZero 17 = .ok (.iload_n 1, 1) := by decide +kernel
theorem dX6_jumpIfZero_18 : decode cX6_jumpIfZero 18 = .ok (.invokevirtual 250, 3) := by decide +kernel
theorem dX6_jumpIfZero_21 : decode cX6_jumpIfZero 21 = .ok (.ifCond .ne 6, 3) := by decide +kernel
theorem dX6_jumpIfZero_24 : decode cX6_jumpIfZero 24 = .ok (.bipush 12, 2) := by decide +kernel
theorem dX6_jumpIfZero_26 : decode cX6_jumpIfZero 26 = .ok (.ireturn, 1) := by decide +kernel
theorem dX6_jumpIfZero_27 : decode cX6_jumpIfZero 27 = .ok (.aload_n 0, 1) := by decide +kernel
theorem dX6_jumpIfZero_28 : decode cX6_jumpIfZero 28 = .ok (.getfield 62, 3) := by decide +kernel
theorem dX6_jumpIfZero_31 : decode cX6_jumpIfZero 31 = .ok (.iconst 0, 1) := by decide +kernel
theorem dX6_jumpIfZero_32 : decode cX6_jumpIfZero 32 = .ok (.invokevirtual 233, 3) := by decide +kernel
theorem dX6_jumpIfZero_35 : decode cX6_jumpIfZero 35 = .ok (.lconst 0, 1) := by decide +kernel
theorem dX6_jumpIfZero_36 : decode cX6_jumpIfZero 36 = .ok (.lcmp, 1) := by decide +kernel
theorem dX6_jumpIfZero_37 : decode cX6_jumpIfZero 37 = .ok (.ifCond .ne 11, 3) := by decide +kernel
theorem dX6_jumpIfZero_40 : decode cX6_jumpIfZero 40 = .ok (.aload_n 0, 1) := by decide +kernel
theorem dX6_jumpIfZero_41 : decode cX6_jumpIfZero 41 = .ok (.iload_n 1, 1) := by decide +kernel
theorem dX6_jumpIfZero_42 : decode cX6_jumpIfZero 42 = .ok (.invokevirtual 161, 3) := by decide +kernel
theorem dX6_jumpIfZero_45 : decode cX6_jumpIfZero 45 = .ok (.goto 4, 3) := by decide +kernel
theorem dX6_jumpIfZero_48 : decode cX6_jumpIfZero 48 = .ok (.iconst 0, 1) := by decide +kernel
theorem dX6_jumpIfZero_49 : decode cX6_jumpIfZero 49 = .ok (.ireturn, 1) := by decide +kernel
theorem dX6_giveBack_0 : decode cX6_giveBack 0 = .ok (.aload_n 1, 1) := by decide +kernel
theorem dX6_giveBack_1 : decode cX6_giveBack 1 = .ok (.iconst 0, 1) := by decide +kernel
theorem dX6_giveBack_2 : decode cX6_giveBack 2 = .ok (.invokevirtual 230, 3) := by decide +kernel
theorem dX6_giveBack_5 : decode cX6_giveBack 5 = .ok (.ifCond .ne 5, 3) := by decide +kernel
theorem dX6_giveBack_8 : decode cX6_giveBack 8 = .ok (.iconst 4, 1) := by decide +kernel
theorem dX6_giveBack_9 : decode cX6_giveBack 9 = .ok (.ireturn, 1) := by decide +kernel
theorem dX6_giveBack_10 : decode cX6_giveBack 10 = .ok (.aload_n 0, 1) := by decide +kernel
theorem dX6_giveBack_11 : decode cX6_giveBack 11 = .ok (.aload_n 1, 1) := by decide +kernel
theorem dX6_giveBack_12 : decode cX6_giveBack 12 = .ok (.iconst 0, 1) := by decide +kernel
theorem dX6_giveBack_13 : decode cX6_giveBack 13 = .ok (.invokevirtual 233, 3) := by decide +kernel
theorem dX6_giveBack_16 : decode cX6_giveBack 16 = .ok (.invokevirtual 95, 3) := by decide +kernel
theorem dX6_giveBack_19 : decode cX6_giveBack 19 = .ok (.iconst 0, 1) := by decide +kernel
theorem dX6_giveBack_20 : decode cX6_giveBack 20 = .ok (.ireturn, 1) := by decide +kernel
theorem dX6_tellEvent_0 : decode cX6_tellEvent 0 = .ok (.aload_n 1, 1) := by decide +kernel
theorem dX6_tellEvent_1 : decode cX6_tellEvent 1 = .ok (.getfield 62, 3) := by decide +kernel
theorem dX6_tellEvent_4 : decode cX6_tellEvent 4 = .ok (.iconst 0, 1) := by decide +kernel
theorem dX6_tellEvent_5 : decode cX6_tellEvent 5 = .ok (.invokevirtual 230, 3) := by decide +kernel
theorem dX6_tellEvent_8 : decode cX6_tellEvent 8 = .ok (.ifCond .ne 5, 3) := by decide +kernel
theorem dX6_tellEvent_11 : decode cX6_tellEvent 11 = .ok (.iconst 4, 1) := by decide +kernel
theorem dX6_tellEvent_12 : decode cX6_tellEvent 12 = .ok (.ireturn, 1) := by decide +kernel
theorem dX6_tellEvent_13 : decode cX6_tellEvent 13 = .ok (.aload_n 0, 1) := by decide +kernel
theorem dX6_tellEvent_14 : decode cX6_tellEvent 14 = .ok (.getfield 36, 3) := by decide +kernel
theorem dX6_tellEvent_17 : decode cX6_tellEvent 17 = .ok (.aload_n 1, 1) := by decide +kernel
theorem dX6_tellEvent_18 : decode cX6_tellEvent 18 = .ok (.getfield 214, 3) := by decide +kernel
theorem dX6_tellEvent_21 : decode cX6_tellEvent 21 = .ok (.aload_n 1, 1) := by decide +kernel
theorem dX6_tellEvent_22 : decode cX6_tellEvent 22 = .ok (.getfield 62, 3) := by decide +kernel
theorem dX6_tellEvent_25 : decode cX6_tellEvent 25 = .ok (.iconst 0, 1) := by decide +kernel
theorem dX6_tellEvent_26 : decode cX6_tellEvent 26 = .ok (.invokevirtual 233, 3) := by decide +kernel
theorem dX6_tellEvent_29 : decode cX6_tellEvent 29 = .ok (.invokevirtual 253, 3) := by decide +kernel
theorem dX6_tellEvent_32 : decode cX6_tellEvent 32 = .ok (.ifCond .eq 7, 3) := by decide +kernel
theorem dX6_tellEvent_35 : decode cX6_tellEvent 35 = .ok (.iconst 0, 1) := by decide +kernel
theorem dX6_tellEvent_36 : decode cX6_tellEvent 36 = .ok (.goto 5, 3) := by decide +kernel
theorem dX6_tellEvent_39 : decode cX6_tellEvent 39 = .ok (.bipush 11, 2) := by decide +kernel
theorem dX6_tellEvent_41 : decode cX6_tellEvent 41 = .ok (.ireturn, 1) := by decide +kernel
theorem dX6_callOther_0 : decode cX6_callOther 0 = .ok (.aload_n 1, 1) := by decide +kernel
theorem dX6_callOther_1 : decode cX6_callOther 1 = .ok (.getfield 62, 3) := by decide +kernel
theorem dX6_callOther_4 : decode cX6_callOther 4 = .ok (.astore_n 3, 1) := by decide +kernel
theorem dX6_callOther_5 : decode cX6_callOther 5 = .ok (.aload_n 3, 1) := by decide +kernel
theorem dX6_callOther_6 : decode cX6_callOther 6 = .ok (.iconst 1, 1) := by decide +kernel
theorem dX6_callOther_7 : decode cX6_callOther 7 = .ok (.invokevirtual 230, 3) := by decide +kernel
theorem dX6_callOther_10 : decode cX6_callOther 10 = .ok (.ifCond .eq 11, 3) := by decide +kernel
theorem dX6_callOther_13 : decode cX6_callOther 13 = .ok (.aload_n 3, 1) := by decide +kernel
theorem dX6_callOther_14 : decode cX6_callOther 14 = .ok (.iconst 2, 1) := by decide +kernel
theorem dX6_callOther_15 : decode cX6_callOther 15 = .ok (.invokevirtual 230, 3) := by decide +kernel
theorem dX6_callOther_18 : decode cX6_callOther 18 = .ok (.ifCond .ne 5, 3) := by decide +kernel
theorem dX6_callOther_21 : decode cX6_callOther 21 = .ok (.iconst 4, 1) := by decide +kernel
theorem dX6_callOther_22 : decode cX6_callOther 22 = .ok (.ireturn, 1) := by decide +kernel
theorem dX6_callOther_23 : decode cX6_callOther 23 = .ok (.aload_n 3, 1) := by decide +kernel
theorem dX6_callOther_24 : decode cX6_callOther 24 = .ok (.iconst 2, 1) := by decide +kernel
theorem dX6_callOther_25 : decode cX6_callOther 25 = .ok (.invokevirtual 233, 3) := by decide +kernel
theorem dX6_callOther_28 : decode cX6_callOther 28 = .ok (.lstore 4, 2) := by decide +kernel
theorem dX6_callOther_30 : decode cX6_callOther 30 = .ok (.aload_n 0, 1) := by decide +kernel
theorem dX6_callOther_31 : decode cX6_callOther 31 = .ok (.aload_n 1, 1) := by decide +kernel
theorem dX6_callOther_32 : decode cX6_callOther 32 = .ok (.getfield 214, 3) := by decide +kernel
theorem dX6_callOther_35 : decode cX6_callOther 35 = .ok (.lload 4, 2) := by decide +kernel
theorem dX6_callOther_37 : decode cX6_callOther 37 = .ok (.iload_n 2, 1) := by decide +kernel
theorem dX6_callOther_38 : decode cX6_callOther 38 = .ok (.invokevirtual 257, 3) := by decide +kernel
theorem dX6_callOther_41 : decode cX6_callOther 41 = .ok (.istore 6, 2) := by decide +kernel
theorem dX6_callOther_43 : decode cX6_callOther 43 = .ok (.iload 6, 2) := by decide +kernel
theorem dX6_callOther_45 : decode cX6_callOther 45 = .ok (.ifCond .eq 6, 3) := by decide +kernel
theorem dX6_callOther_48 : decode cX6_callOther 48 = .ok (.iload 6, 2) := by decide +kernel
theorem dX6_callOther_50 : decode cX6_callOther 50 = .ok (.ireturn, 1) := by decide +kernel
theorem dX6_callOther_51 : decode cX6_callOther 51 = .ok (.iload_n 2, 1) := by decide +kernel
theorem dX6_callOther_52 : decode cX6_callOther 52 = .ok (.bipush 8, 2) := by decide +kernel
theorem dX6_callOther_54 : decode cX6_callOther 54 = .ok (.idiv, 1) := by decide +kernel
theorem dX6_callOther_55 : decode cX6_callOther 55 = .ok (.istore 7, 2) := by decide +kernel
theorem dX6_callOther_57 : decode cX6_callOther 57 = .ok (.aload_n 1, 1) := by decide +kernel
theorem dX6_callOther_58 : decode cX6_callOther 58 = .ok (.getfield 99, 3) := by decide +kernel
theorem dX6_callOther_61 : decode cX6_callOther 61 = .ok (.aload_n 0, 1) := by decide +kernel
theorem dX6_callOther_62 : decode cX6_callOther 62 = .ok (.getfield 17, 3) := by decide +kernel
theorem dX6_callOther_65 : decode cX6_callOther 65 = .ok (.iconst 0, 1) := by decide +kernel
theorem dX6_callOther_66 : decode cX6_callOther 66 = .ok (.iaload, 1) := by decide +kernel
theorem dX6_callOther_67 : decode cX6_callOther 67 = .ok (.isub, 1) := by decide +kernel
theorem dX6_callOther_68 : decode cX6_callOther 68 = .ok (.i2l, 1) := by decide +kernel
theorem dX6_callOther_69 : decode cX6_callOther 69 = .ok (.lstore 8, 2) := by decide +kernel
theorem dX6_callOther_71 : decode cX6_callOther 71 = .ok (.lconst 0, 1) := by decide +kernel
theorem dX6_callOther_72 : decode cX6_callOther 72 = .ok (.aload_n 3, 1) := by decide +kernel
theorem dX6_callOther_73 : decode cX6_callOther 73 = .ok (.iconst 1, 1) := by decide +kernel
theorem dX6_callOther_74 : decode cX6_callOther 74 = .ok (.invokevirtual 233, 3) := by decide +kernel
theorem dX6_callOther_77 : decode cX6_callOther 77 = .ok (.lload 8, 2) := by decide +kernel
theorem dX6_callOther_79 : decode cX6_callOther 79 = .ok (.invokestatic 261, 3) := by decide +kernel
theorem dX6_callOther_82 : decode cX6_callOther 82 = .ok (.invokestatic 265, 3) := by decide +kernel
theorem dX6_callOther_85 : decode cX6_callOther 85 = .ok (.l2i, 1) := by decide +kernel
theorem dX6_callOther_86 : decode cX6_callOther 86 = .ok (.istore 10, 2) := by decide +kernel
theorem dX6_callOther_88 : decode cX6_callOther 88 = .ok (.aload_n 0, 1) := by decide +kernel
theorem dX6_callOther_89 : decode cX6_callOther 89 = .ok (.aload_n 0, 1) := by decide +kernel
theorem dX6_callOther_90 : decode cX6_callOther 90 = .ok (.getfield 32, 3) := by decide +kernel
theorem dX6_callOther_93 : decode cX6_callOther 93 = .ok (.iload 7, 2) := by decide +kernel
theorem dX6_callOther_95 : decode cX6_callOther 95 = .ok (.iload_n 2, 1) := by decide +kernel
theorem dX6_callOther_96 : decode cX6_callOther 96 = .ok (.bipush 8, 2) := by decide +kernel
theorem dX6_callOther_98 : decode cX6_callOther 98 = .ok (.irem, 1) := by decide +kernel
theorem dX6_callOther_99 : decode cX6_callOther 99 = .ok (.invokevirtual 54, 3) := by decide +kernel
theorem dX6_callOther_102 : decode cX6_callOther 102 = .ok (.iload 7, 2) := by decide +kernel
theorem dX6_callOther_104 : decode cX6_callOther 104 = .ok (.aload_n 1, 1) := by decide +kernel
theorem dX6_callOther_105 : decode cX6_callOther 105 = .ok (.getfield 214, 3) := by decide +kernel
theorem dX6_callOther_108 : decode cX6_callOther 108 = .ok (.iload 10, 2) := by decide +kernel
theorem dX6_callOther_110 : decode cX6_callOther 110 = .ok (.invokevirtual 58, 3) := by decide +kernel
theorem dX6_callOther_113 : decode cX6_callOther 113 = .ok (.astore 11, 2) := by decide +kernel
theorem dX6_callOther_115 : decode cX6_callOther 115 = .ok (.aload_n 0, 1) := by decide +kernel
theorem dX6_callOther_116 : decode cX6_callOther 116 = .ok (.getfield 36, 3) := by decide +kernel
theorem dX6_callOther_119 : decode cX6_callOther 119 = .ok (.aload_n 1, 1) := by decide +kernel
theorem dX6_callOther_120 : decode cX6_callOther 120 = .ok (.getfield 214, 3) := by decide +kernel
theorem dX6_callOther_123 : decode cX6_callOther 123 = .ok (.iload 7, 2) := by decide +kernel
theorem dX6_callOther_125 : decode cX6_callOther 125 = .ok (.lload 4, 2) := by decide +kernel
theorem dX6_callOther_127 : decode cX6_callOther 127 = .ok (.invokevirtual 267, 3) := by decide +kernel
theorem dX6_callOther_130 : decode cX6_callOther 130 = .ok (.aload_n 3, 1) := by decide +kernel
theorem dX6_callOther_131 : decode cX6_callOther 131 = .ok (.iconst 0, 1) := by decide +kernel
theorem dX6_callOther_132 : decode cX6_callOther 132 = .ok (.invokevirtual 237, 3) := by decide +kernel
theorem dX6_callOther_135 : decode cX6_callOther 135 = .ok (.istore 12, 2) := by decide +kernel
theorem dX6_callOther_137 : decode cX6_callOther 137 = .ok (.iload 12, 2) := by decide +kernel
theorem dX6_callOther_139 : decode cX6_callOther 139 = .ok (.iconst 1, 1) := by decide +kernel
theorem dX6_callOther_140 : decode cX6_callOther 140 = .ok (.if_icmp .eq 9, 3) := by decide +kernel
theorem dX6_callOther_143 : decode cX6_callOther 143 = .ok (.iload 12, 2) := by decide +kernel
theorem dX6_callOther_145 : decode cX6_callOther 145 = .ok (.iconst 2, 1) := by decide +kernel
theorem dX6_callOther_146 : decode cX6_callOther 146 = .ok (.if_icmp .ne 23, 3) := by decide +kernel
theorem dX6_callOther_149 : decode cX6_callOther 149 = .ok (.aload 11, 2) := by decide +kernel
theorem dX6_callOther_151 : decode cX6_callOther 151 = .ok (.getfield 168, 3) := by decide +kernel
theorem dX6_callOther_154 : decode cX6_callOther 154 = .ok (.iload 12, 2) := by decide +kernel
theorem dX6_callOther_156 : decode cX6_callOther 156 = .ok (.aload_n 1, 1) := by decide +kernel
theorem dX6_callOther_157 : decode cX6_callOther 157 = .ok (.getfield 168, 3) := by decide +kernel
theorem dX6_callOther_160 : decode cX6_callOther 160 = .ok (.aload_n 3, 1) := by decide +kernel
theorem dX6_callOther_161 : decode cX6_callOther 161 = .ok (.iconst 0, 1) := by decide +kernel
theorem dX6_callOther_162 : decode cX6_callOther 162 = .ok (.invokevirtual 233, 3) := by decide +kernel
theorem dX6_callOther_165 : decode cX6_callOther 165 = .ok (.invokevirtual 271, 3) := by decide +kernel
theorem dX6_callOther_168 : decode cX6_callOther 168 = .ok (.ireturn, 1) := by decide +kernel
theorem dX6_callOther_169 : decode cX6_callOther 169 = .ok (.aload 11, 2) := by decide +kernel
theorem dX6_callOther_171 : decode cX6_callOther 171 = .ok (.getfield 62, 3) := by decide +kernel
theorem dX6_callOther_174 : decode cX6_callOther 174 = .ok (.iload 12, 2) := by decide +kernel
theorem dX6_callOther_176 : decode cX6_callOther 176 = .ok (.aload_n 3, 1) := by decide +kernel
theorem dX6_callOther_177 : decode cX6_callOther 177 = .ok (.iconst 0, 1) := by decide +kernel
theorem dX6_callOther_178 : decode cX6_callOther 178 = .ok (.invokevirtual 233, 3) := by decide +kernel
theorem dX6_callOther_181 : decode cX6_callOther 181 = .ok (.invokevirtual 187, 3) := by decide +kernel
theorem dX6_callOther_184 : decode cX6_callOther 184 = .ok (.ireturn, 1) := by decide +kernel
theorem dX6_callFailure_0 : decode cX6_callFailure 0 = .ok (.lload_n 2, 1) := by decide +kernel
theorem dX6_callFailure_1 : decode cX6_callFailure 1 = .ok (.lconst 0, 1) := by decide +kernel
theorem dX6_callFailure_2 : decode cX6_callFailure 2 = .ok (.lcmp, 1) := by decide +kernel
theorem dX6_callFailure_3 : decode cX6_callFailure 3 = .ok (.ifCond .lt 17, 3) := by decide +kernel
theorem dX6_callFailure_6 : decode cX6_callFailure 6 = .ok (.lload_n 2, 1) := by decide +kernel
theorem dX6_callFailure_7 : decode cX6_callFailure 7 = .ok (.aload_n 0, 1) := by decide +kernel
theorem dX6_callFailure_8 : decode cX6_callFailure 8 = .ok (.getfield 36, 3) := by decide +kernel
theorem dX6_callFailure_11 : decode cX6_callFailure 11 = .ok (.getfield 210, 3) := by decide +kernel
theorem dX6_callFailure_14 : decode cX6_callFailure 14 = .ok (.iload_n 1, 1) := by decide +kernel
theorem dX6_callFailure_15 : decode cX6_callFailure 15 = .ok (.laload, 1) := by decide +kernel
theorem dX6_callFailure_16 : decode cX6_callFailure 16 = .ok (.lcmp, 1) := by decide +kernel
theorem dX6_callFailure_17 : decode cX6_callFailure 17 = .ok (.ifCond .le 6, 3) := by decide +kernel
theorem dX6_callFailure_20 : decode cX6_callFailure 20 = .ok (.bipush 9, 2) := by decide +kernel
theorem dX6_callFailure_22 : decode cX6_callFailure 22 = .ok (.ireturn, 1) := by decide +kernel
theorem dX6_callFailure_23 : decode cX6_callFailure 23 = .ok (.iload 4, 2) := by decide +kernel
theorem dX6_callFailure_25 : decode cX6_callFailure 25 = .ok (.ifCond .lt 19, 3) := by decide +kernel
theorem dX6_callFailure_28 : decode cX6_callFailure 28 = .ok (.iload 4, 2) := by decide +kernel
theorem dX6_callFailure_30 : decode cX6_callFailure 30 = .ok (.bipush 8, 2) := by decide +kernel
theorem dX6_callFailure_32 : decode cX6_callFailure 32 = .ok (.idiv, 1) := by decide +kernel
theorem dX6_callFailure_33 : decode cX6_callFailure 33 = .ok (.iload 4, 2) := by decide +kernel
theorem dX6_callFailure_35 : decode cX6_callFailure 35 = .ok (.bipush 8, 2) := by decide +kernel
theorem dX6_callFailure_37 : decode cX6_callFailure 37 = .ok (.irem, 1) := by decide +kernel
theorem dX6_callFailure_38 : decode cX6_callFailure 38 = .ok (.invokestatic 275, 3) := by decide +kernel
theorem dX6_callFailure_41 : decode cX6_callFailure 41 = .ok (.ifCond .ne 6, 3) := by decide +kernel
theorem dX6_callFailure_44 : decode cX6_callFailure 44 = .ok (.bipush 12, 2) := by decide +kernel
theorem dX6_callFailure_46 : decode cX6_callFailure 46 = .ok (.ireturn, 1) := by decide +kernel
theorem dX6_callFailure_47 : decode cX6_callFailure 47 = .ok (.aload_n 0, 1) := by decide +kernel
theorem dX6_callFailure_48 : decode cX6_callFailure 48 = .ok (.getfield 32, 3) := by decide +kernel
theorem dX6_callFailure_51 : decode cX6_callFailure 51 = .ok (.getfield 278, 3) := by decide +kernel
theorem dX6_callFailure_54 : decode cX6_callFailure 54 = .ok (.iload 4, 2) := by decide +kernel
theorem dX6_callFailure_56 : decode cX6_callFailure 56 = .ok (.bipush 8, 2) := by decide +kernel
theorem dX6_callFailure_58 : decode cX6_callFailure 58 = .ok (.idiv, 1) := by decide +kernel
theorem dX6_callFailure_59 : decode cX6_callFailure 59 = .ok (.baload, 1) := by decide +kernel
theorem dX6_callFailure_60 : decode cX6_callFailure 60 = .ok (.ifCond .eq 18, 3) := by decide +kernel
theorem dX6_callFailure_63 : decode cX6_callFailure 63 = .ok (.aload_n 0, 1) := by decide +kernel
theorem dX6_callFailure_64 : decode cX6_callFailure 64 = .ok (.iload 4, 2) := by decide +kernel
theorem dX6_callFailure_66 : decode cX6_callFailure 66 = .ok (.bipush 8, 2) := by decide +kernel
theorem dX6_callFailure_68 : decode cX6_callFailure 68 = .ok (.idiv, 1) := by decide +kernel
theorem dX6_callFailure_69 : decode cX6_callFailure 69 = .ok (.invokevirtual 282, 3) := by decide +kernel
theorem dX6_callFailure_72 : decode cX6_callFailure 72 = .ok (.ifCond .eq 6, 3) := by decide +kernel
theorem dX6_callFailure_75 : decode cX6_callFailure 75 = .ok (.bipush 8, 2) := by decide +kernel
theorem dX6_callFailure_77 : decode cX6_callFailure 77 = .ok (.ireturn, 1) := by decide +kernel
theorem dX6_callFailure_78 : decode cX6_callFailure 78 = .ok (.aload_n 0, 1) := by decide +kernel
theorem dX6_callFailure_79 : decode cX6_callFailure 79 = .ok (.getfield 21, 3) := by decide +kernel
theorem dX6_callFailure_82 : decode cX6_callFailure 82 = .ok (.bipush 10, 2) := by decide +kernel
theorem dX6_callFailure_84 : decode cX6_callFailure 84 = .ok (.if_icmp .lt 6, 3) := by decide +kernel
theorem dX6_callFailure_87 : decode cX6_callFailure 87 = .ok (.bipush 10, 2) := by decide +kernel
theorem dX6_callFailure_89 : decode cX6_callFailure 89 = .ok (.ireturn, 1) := by decide +kernel
theorem dX6_callFailure_90 : decode cX6_callFailure 90 = .ok (.aload_n 0, 1) := by decide +kernel
theorem dX6_callFailure_91 : decode cX6_callFailure 91 = .ok (.getfield 36, 3) := by decide +kernel
theorem dX6_callFailure_94 : decode cX6_callFailure 94 = .ok (.iload_n 1, 1) := by decide +kernel
theorem dX6_callFailure_95 : decode cX6_callFailure 95 = .ok (.iload 4, 2) := by decide +kernel
theorem dX6_callFailure_97 : decode cX6_callFailure 97 = .ok (.bipush 8, 2) := by decide +kernel
theorem dX6_callFailure_99 : decode cX6_callFailure 99 = .ok (.idiv, 1) := by decide +kernel
theorem dX6_callFailure_100 : decode cX6_callFailure 100 = .ok (.lload_n 2, 1) := by decide +kernel
theorem dX6_callFailure_101 : decode cX6_callFailure 101 = .ok (.invokevirtual 285, 3) := by decide +kernel
theorem dX6_callFailure_104 : decode cX6_callFailure 104 = .ok (.ifCond .eq 7, 3) := by decide +kernel
theorem dX6_callFailure_107 : decode cX6_callFailure 107 = .ok (.iconst 0, 1) := by decide +kernel
theorem dX6_callFailure_108 : decode cX6_callFailure 108 = .ok (.goto 5, 3) := by decide +kernel
theorem dX6_callFailure_111 : decode cX6_callFailure 111 = .ok (.bipush 6, 2) := by decide +kernel
theorem dX6_callFailure_113 : decode cX6_callFailure 113 = .ok (.ireturn, 1) := by decide +kernel
theorem dX6_isUnderWay_0 : decode cX6_isUnderWay 0 = .ok (.iconst 0, 1) := by decide +kernel
theorem dX6_isUnderWay_1 : decode cX6_isUnderWay 1 = .ok (.istore_n 2, 1) := by decide +kernel
theorem dX6_isUnderWay_2 : decode cX6_isUnderWay 2 = .ok (.iload_n 2, 1) := by decide +kernel
theorem dX6_isUnderWay_3 : decode cX6_isUnderWay 3 = .ok (.aload_n 0, 1) := by decide +kernel
theorem dX6_isUnderWay_4 : decode cX6_isUnderWay 4 = .ok (.getfield 21, 3) := by decide +kernel
theorem dX6_isUnderWay_7 : decode cX6_isUnderWay 7 = .ok (.if_icmp .ge 30, 3) := by decide +kernel
theorem dX6_isUnderWay_10 : decode cX6_isUnderWay 10 = .ok (.iload_n 2, 1) := by decide +kernel
theorem dX6_isUnderWay_11 : decode cX6_isUnderWay 11 = .ok (.bipush 10, 2) := by decide +kernel
theorem dX6_isUnderWay_13 : decode cX6_isUnderWay 13 = .ok (.if_icmp .ge 24, 3) := by decide +kernel
theorem dX6_isUnderWay_16 : decode cX6_isUnderWay 16 = .ok (.aload_n 0, 1) := by decide +kernel
theorem dX6_isUnderWay_17 : decode cX6_isUnderWay 17 = .ok (.getfield 11, 3) := by decide +kernel
theorem dX6_isUnderWay_20 : decode cX6_isUnderWay 20 = .ok (.iload_n 2, 1) := by decide +kernel
theorem dX6_isUnderWay_21 : decode cX6_isUnderWay 21 = .ok (.aaload, 1) := by decide +kernel
theorem dX6_isUnderWay_22 : decode cX6_isUnderWay 22 = .ok (.getfield 214, 3) := by decide +kernel
theorem dX6_isUnderWay_25 : decode cX6_isUnderWay 25 = .ok (.iload_n 1, 1) := by decide +kernel
theorem dX6_isUnderWay_26 : decode cX6_isUnderWay 26 = .ok (.if_icmp .ne 5, 3) := by decide +kernel
theorem dX6_isUnderWay_29 : decode cX6_isUnderWay 29 = .ok (.iconst 1, 1) := by decide +kernel
theorem dX6_isUnderWay_30 : decode cX6_isUnderWay 30 = .ok (.ireturn, 1) := by decide +kernel
theorem dX6_isUnderWay_31 : decode cX6_isUnderWay 31 = .ok (.iinc 2 1, 3) := by decide +kernel
theorem dX6_isUnderWay_34 : decode cX6_isUnderWay 34 = .ok (.goto (-32), 3) := by decide +kernel
theorem dX6_isUnderWay_37 : decode cX6_isUnderWay 37 = .ok (.iconst 0, 1) := by decide +kernel
theorem dX6_isUnderWay_38 : decode cX6_isUnderWay 38 = .ok (.ireturn, 1) := by decide +kernel
end
section
theorem dX7_init_0 : decode cX7_init 0 = .ok (.aload_n 0, 1) := by decide +kernel
theorem dX7_init_1 : decode cX7_init 1 = .ok (.invokespecial 1, 3) := by decide +kernel
theorem dX7_init_4 : decode cX7_init 4 = .ok (.aload_n 0, 1) := by decide +kernel
theorem dX7_init_5 : decode cX7_init 5 = .ok (.new 7, 3) := by decide +kernel
theorem dX7_init_8 : decode cX7_init 8 = .ok (.dup, 1) := by decide +kernel
theorem dX7_init_9 : decode cX7_init 9 = .ok (.invokespecial 9, 3) := by decide +kernel
theorem dX7_init_12 : decode cX7_init 12 = .ok (.putfield 10, 3) := by decide +kernel
theorem dX7_init_15 : decode cX7_init 15 = .ok (.aload_n 0, 1) := by decide +kernel
theorem dX7_init_16 : decode cX7_init 16 = .ok (.new 16, 3) := by decide +kernel
theorem dX7_init_19 : decode cX7_init 19 = .ok (.dup, 1) := by decide +kernel
theorem dX7_init_20 : decode cX7_init 20 = .ok (.invokespecial 18, 3) := by decide +kernel
theorem dX7_init_23 : decode cX7_init 23 = .ok (.putfield 19, 3) := by decide +kernel
theorem dX7_init_26 : decode cX7_init 26 = .ok (.aload_n 0, 1) := by decide +kernel
theorem dX7_init_27 : decode cX7_init 27 = .ok (.new 23, 3) := by decide +kernel
theorem dX7_init_30 : decode cX7_init 30 = .ok (.dup, 1) := by decide +kernel
theorem dX7_init_31 : decode cX7_init 31 = .ok (.aload_n 0, 1) := by decide +kernel
theorem dX7_init_32 : decode cX7_init 32 = .ok (.getfield 10, 3) := by decide +kernel
theorem dX7_init_35 : decode cX7_init 35 = .ok (.aload_n 0, 1) := by decide +kernel
theorem dX7_init_36 : decode cX7_init 36 = .ok (.getfield 19, 3) := by decide +kernel
theorem dX7_init_39 : decode cX7_init 39 = .ok (.invokespecial 25, 3) := by decide +kernel
theorem dX7_init_42 : decode cX7_init 42 = .ok (.putfield 28, 3) := by decide +kernel
theorem dX7_init_45 : decode cX7_init 45 = .ok (.return_, 1) := by decide +kernel
theorem dX7_step_0 : decode cX7_step 0 = .ok (.iload_n 1, 1) := by decide +kernel
theorem dX7_step_1 : decode cX7_step 1 = .ok (.iload_n 2, 1) := by decide +kernel
theorem dX7_step_2 : decode cX7_step 2 = .ok (.invokestatic 32, 3) := by decide +kernel
theorem dX7_step_5 : decode cX7_step 5 = .ok (.ifCond .ne 5, 3) := by decide +kernel
theorem dX7_step_8 : decode cX7_step 8 = .ok (.iconst (-1), 1) := by decide +kernel
theorem dX7_step_9 : decode cX7_step 9 = .ok (.ireturn, 1) := by decide +kernel
theorem dX7_step_10 : decode cX7_step 10 = .ok (.aload_n 0, 1) := by decide +kernel
theorem dX7_step_11 : decode cX7_step 11 = .ok (.getfield 10, 3) := by decide +kernel
theorem dX7_step_14 : decode cX7_step 14 = .ok (.iload_n 1, 1) := by decide +kernel
theorem dX7_step_15 : decode cX7_step 15 = .ok (.iload_n 2, 1) := by decide +kernel
theorem dX7_step_16 : decode cX7_step 16 = .ok (.invokevirtual 36, 3) := by decide +kernel
theorem dX7_step_19 : decode cX7_step 19 = .ok (.astore 5, 2) := by decide +kernel
theorem dX7_step_21 : decode cX7_step 21 = .ok (.aload 5, 2) := by decide +kernel
theorem dX7_step_23 : decode cX7_step 23 = .ok (.iload_n 3, 1) := by decide +kernel
theorem dX7_step_24 : decode cX7_step 24 = .ok (.iload 4, 2) := by decide +kernel
theorem dX7_step_26 : decode cX7_step 26 = .ok (.invokevirtual 40, 3) := by decide +kernel
theorem dX7_step_29 : decode cX7_step 29 = .ok (.ifCond .eq 11, 3) := by decide +kernel
theorem dX7_step_32 : decode cX7_step 32 = .ok (.aload 5, 2) := by decide +kernel
theorem dX7_step_34 : decode cX7_step 34 = .ok (.getfield 45, 3) := by decide +kernel
theorem dX7_step_37 : decode cX7_step 37 = .ok (.goto 5, 3) := by decide +kernel
theorem dX7_step_40 : decode cX7_step 40 = .ok (.bipush (-2), 2) := by decide +kernel
theorem dX7_step_42 : decode cX7_step 42 = .ok (.ireturn, 1) := by decide +kernel
theorem dX7_empty_0 : decode cX7_empty 0 = .ok (.iload_n 1, 1) := by decide +kernel
theorem dX7_empty_1 : decode cX7_empty 1 = .ok (.iload_n 2, 1) := by decide +kernel
theorem dX7_empty_2 : decode cX7_empty 2 = .ok (.invokestatic 32, 3) := by decide +kernel
theorem dX7_empty_5 : decode cX7_empty 5 = .ok (.ifCond .ne 5, 3) := by decide +kernel
theorem dX7_empty_8 : decode cX7_empty 8 = .ok (.iconst (-1), 1) := by decide +kernel
theorem dX7_empty_9 : decode cX7_empty 9 = .ok (.ireturn, 1) := by decide +kernel
theorem dX7_empty_10 : decode cX7_empty 10 = .ok (.aload_n 0, 1) := by decide +kernel
theorem dX7_empty_11 : decode cX7_empty 11 = .ok (.getfield 10, 3) := by decide +kernel
theorem dX7_empty_14 : decode cX7_empty 14 = .ok (.iload_n 1, 1) := by decide +kernel
theorem dX7_empty_15 : decode cX7_empty 15 = .ok (.iload_n 2, 1) := by decide +kernel
theorem dX7_empty_16 : decode cX7_empty 16 = .ok (.invokevirtual 36, 3) := by decide +kernel
theorem dX7_empty_19 : decode cX7_empty 19 = .ok (.astore_n 3, 1) := by decide +kernel
theorem dX7_empty_20 : decode cX7_empty 20 = .ok (.aload_n 3, 1) := by decide +kernel
theorem dX7_empty_21 : decode cX7_empty 21 = .ok (.getfield 45, 3) := by decide +kernel
theorem dX7_empty_24 : decode cX7_empty 24 = .ok (.istore 4, 2) := by decide +kernel
theorem dX7_empty_26 : decode cX7_empty 26 = .ok (.aload_n 3, 1) := by decide +kernel
theorem dX7_empty_27 : decode cX7_empty 27 = .ok (.iconst 0, 1) := by decide +kernel
theorem dX7_empty_28 : decode cX7_empty 28 = .ok (.putfield 45, 3) := by decide +kernel
theorem dX7_empty_31 : decode cX7_empty 31 = .ok (.iload 4, 2) := by decide +kernel
theorem dX7_empty_33 : decode cX7_empty 33 = .ok (.ireturn, 1) := by decide +kernel
theorem dX7_guard_0 : decode cX7_guard 0 = .ok (.iload_n 1, 1) := by decide +kernel
theorem dX7_guard_1 : decode cX7_guard 1 = .ok (.invokestatic 49, 3) := by decide +kernel
theorem dX7_guard_4 : decode cX7_guard 4 = .ok (.ifCond .ne 5, 3) := by decide +kernel
theorem dX7_guard_7 : decode cX7_guard 7 = .ok (.iconst (-1), 1) := by decide +kernel
theorem dX7_guard_8 : decode cX7_guard 8 = .ok (.ireturn, 1) := by decide +kernel
theorem dX7_guard_9 : decode cX7_guard 9 = .ok (.aload_n 0, 1) := by decide +kernel
theorem dX7_guard_10 : decode cX7_guard 10 = .ok (.getfield 10, 3) := by decide +kernel
theorem dX7_guard_13 : decode cX7_guard 13 = .ok (.getfield 53, 3) := by decide +kernel
theorem dX7_guard_16 : decode cX7_guard 16 = .ok (.iload_n 1, 1) := by decide +kernel
theorem dX7_guard_17 : decode cX7_guard 17 = .ok (.baload, 1) := by decide +kernel
theorem dX7_guard_18 : decode cX7_guard 18 = .ok (.istore_n 3, 1) := by decide +kernel
theorem dX7_guard_19 : decode cX7_guard 19 = .ok (.aload_n 0, 1) := by decide +kernel
theorem dX7_guard_20 : decode cX7_guard 20 = .ok (.getfield 10, 3) := by decide +kernel
theorem dX7_guard_23 : decode cX7_guard 23 = .ok (.getfield 53, 3) := by decide +kernel
theorem dX7_guard_26 : decode cX7_guard 26 = .ok (.iload_n 1, 1) := by decide +kernel
theorem dX7_guard_27 : decode cX7_guard 27 = .ok (.iload_n 2, 1) := by decide +kernel
theorem dX7_guard_28 : decode cX7_guard 28 = .ok (.bastore, 1) := by decide +kernel
theorem dX7_guard_29 : decode cX7_guard 29 = .ok (.iload_n 3, 1) := by decide +kernel
theorem dX7_guard_30 : decode cX7_guard 30 = .ok (.ifCond .eq 7, 3) := by decide +kernel
theorem dX7_guard_33 : decode cX7_guard 33 = .ok (.iconst 1, 1) := by decide +kernel
theorem dX7_guard_34 : decode cX7_guard 34 = .ok (.goto 4, 3) := by decide +kernel
theorem dX7_guard_37 : decode cX7_guard 37 = .ok (.iconst 0, 1) := by decide +kernel
theorem dX7_guard_38 : decode cX7_guard 38 = .ok (.ireturn, 1) := by decide +kernel
theorem dX7_fund_0 : decode cX7_fund 0 = .ok (.iload_n 1, 1) := by decide +kernel
theorem dX7_fund_1 : decode cX7_fund 1 = .ok (.invokestatic 49, 3) := by decide +kernel
theorem dX7_fund_4 : decode cX7_fund 4 = .ok (.ifCond .eq 9, 3) := by decide +kernel
theorem dX7_fund_7 : decode cX7_fund 7 = .ok (.lload_n 2, 1) := by decide +kernel
theorem dX7_fund_8 : decode cX7_fund 8 = .ok (.lconst 0, 1) := by decide +kernel
theorem dX7_fund_9 : decode cX7_fund 9 = .ok (.lcmp, 1) := by decide +kernel
theorem dX7_fund_10 : decode cX7_fund 10 = .ok (.ifCond .ge 5, 3) := by decide +kernel
theorem dX7_fund_13 : decode cX7_fund 13 = .ok (.iconst (-1), 1) := by decide +kernel
theorem dX7_fund_14 : decode cX7_fund 14 = .ok (.ireturn, 1) := by decide +kernel
theorem dX7_fund_15 : decode cX7_fund 15 = .ok (.aload_n 0, 1) := by decide +kernel
theorem dX7_fund_16 : decode cX7_fund 16 = .ok (.getfield 19, 3) := by decide +kernel
theorem dX7_fund_19 : decode cX7_fund 19 = .ok (.getfield 57, 3) := by decide +kernel
theorem dX7_fund_22 : decode cX7_fund 22 = .ok (.iload_n 1, 1) := by decide +kernel
theorem dX7_fund_23 : decode cX7_fund 23 = .ok (.lload_n 2, 1) := by decide +kernel
theorem dX7_fund_24 : decode cX7_fund 24 = .ok (.lastore, 1) := by decide +kernel
theorem dX7_fund_25 : decode cX7_fund 25 = .ok (.iconst 1, 1) := by decide +kernel
theorem dX7_fund_26 : decode cX7_fund 26 = .ok (.ireturn, 1) := by decide +kernel
theorem dX7_run_0 : decode cX7_run 0 = .ok (.iload_n 1, 1) := by decide +kernel
theorem dX7_run_1 : decode cX7_run 1 = .ok (.iload_n 2, 1) := by decide +kernel
theorem dX7_run_2 : decode cX7_run 2 = .ok (.invokestatic 32, 3) := by decide +kernel
theorem dX7_run_5 : decode cX7_run 5 = .ok (.ifCond .eq 16, 3) := by decide +kernel
theorem dX7_run_8 : decode cX7_run 8 = .ok (.iload 5, 2) := by decide +kernel
theorem dX7_run_10 : decode cX7_run 10 = .ok (.ifCond .lt 11, 3) := by decide +kernel
theorem dX7_run_13 : decode cX7_run 13 = .ok (.iload 5, 2) := by decide +kernel
theorem dX7_run_15 : decode cX7_run 15 = .ok (.sipush 600, 3) := by decide +kernel
theorem dX7_run_18 : decode cX7_run 18 = .ok (.if_icmp .le 5, 3) := by decide +kernel
theorem dX7_run_21 : decode cX7_run 21 = .ok (.iconst (-1), 1) := by decide +kernel
theorem dX7_run_22 : decode cX7_run 22 = .ok (.ireturn, 1) := by decide +kernel
theorem dX7_run_23 : decode cX7_run 23 = .ok (.aload_n 0, 1) := by decide +kernel
theorem dX7_run_24 : decode cX7_run 24 = .ok (.getfield 28, 3) := by decide +kernel
theorem dX7_run_27 : decode cX7_run 27 = .ok (.iload_n 1, 1) := by decide +kernel
theorem dX7_run_28 : decode cX7_run 28 = .ok (.iload_n 2, 1) := by decide +kernel
theorem dX7_run_29 : decode cX7_run 29 = .ok (.lload_n 3, 1) := by decide +kernel
theorem dX7_run_30 : decode cX7_run 30 = .ok (.iload 5, 2) := by decide +kernel
theorem dX7_run_32 : decode cX7_run 32 = .ok (.invokevirtual 61, 3) := by decide +kernel
theorem dX7_run_35 : decode cX7_run 35 = .ok (.ireturn, 1) := by decide +kernel
theorem dX7_given_0 : decode cX7_given 0 = .ok (.aload_n 0, 1) := by decide +kernel
theorem dX7_given_1 : decode cX7_given 1 = .ok (.getfield 28, 3) := by decide +kernel
theorem dX7_given_4 : decode cX7_given 4 = .ok (.getfield 65, 3) := by decide +kernel
theorem dX7_given_7 : decode cX7_given 7 = .ok (.lreturn, 1) := by decide +kernel
theorem dX7_told_0 : decode cX7_told 0 = .ok (.iload_n 1, 1) := by decide +kernel
theorem dX7_told_1 : decode cX7_told 1 = .ok (.ifCond .lt 20, 3) := by decide +kernel
theorem dX7_told_4 : decode cX7_told 4 = .ok (.iload_n 1, 1) := by decide +kernel
theorem dX7_told_5 : decode cX7_told 5 = .ok (.iconst 5, 1) := by decide +kernel
theorem dX7_told_6 : decode cX7_told 6 = .ok (.if_icmp .ge 15, 3) := by decide +kernel
theorem dX7_told_9 : decode cX7_told 9 = .ok (.aload_n 0, 1) := by decide +kernel
theorem dX7_told_10 : decode cX7_told 10 = .ok (.getfield 28, 3) := by decide +kernel
theorem dX7_told_13 : decode cX7_told 13 = .ok (.getfield 69, 3) := by decide +kernel
theorem dX7_told_16 : decode cX7_told 16 = .ok (.iload_n 1, 1) := by decide +kernel
theorem dX7_told_17 : decode cX7_told 17 = .ok (.iaload, 1) := by decide +kernel
theorem dX7_told_18 : decode cX7_told 18 = .ok (.goto 4, 3) := by decide +kernel
theorem dX7_told_21 : decode cX7_told 21 = .ok (.iconst (-1), 1) := by decide +kernel
theorem dX7_told_22 : decode cX7_told 22 = .ok (.ireturn, 1) := by decide +kernel
theorem dX7_leaf_0 : decode cX7_leaf 0 = .ok (.iload_n 1, 1) := by decide +kernel
theorem dX7_leaf_1 : decode cX7_leaf 1 = .ok (.invokestatic 49, 3) := by decide +kernel
theorem dX7_leaf_4 : decode cX7_leaf 4 = .ok (.ifCond .eq 27, 3) := by decide +kernel
theorem dX7_leaf_7 : decode cX7_leaf 7 = .ok (.iload_n 2, 1) := by decide +kernel
theorem dX7_leaf_8 : decode cX7_leaf 8 = .ok (.invokestatic 73, 3) := by decide +kernel
theorem dX7_leaf_11 : decode cX7_leaf 11 = .ok (.ifCond .eq 20, 3) := by decide +kernel
theorem dX7_leaf_14 : decode cX7_leaf 14 = .ok (.aload_n 0, 1) := by decide +kernel
theorem dX7_leaf_15 : decode cX7_leaf 15 = .ok (.getfield 19, 3) := by decide +kernel
theorem dX7_leaf_18 : decode cX7_leaf 18 = .ok (.getfield 76, 3) := by decide +kernel
theorem dX7_leaf_21 : decode cX7_leaf 21 = .ok (.iload_n 1, 1) := by decide +kernel
theorem dX7_leaf_22 : decode cX7_leaf 22 = .ok (.bipush 8, 2) := by decide +kernel
theorem dX7_leaf_24 : decode cX7_leaf 24 = .ok (.imul, 1) := by decide +kernel
theorem dX7_leaf_25 : decode cX7_leaf 25 = .ok (.iload_n 2, 1) := by decide +kernel
theorem dX7_leaf_26 : decode cX7_leaf 26 = .ok (.iadd, 1) := by decide +kernel
theorem dX7_leaf_27 : decode cX7_leaf 27 = .ok (.laload, 1) := by decide +kernel
theorem dX7_leaf_28 : decode cX7_leaf 28 = .ok (.goto 4, 3) := by decide +kernel
theorem dX7_leaf_31 : decode cX7_leaf 31 = .ok (.lconst 0, 1) := by decide +kernel
theorem dX7_leaf_32 : decode cX7_leaf 32 = .ok (.lreturn, 1) := by decide +kernel
theorem dX7_balance_0 : decode cX7_balance 0 = .ok (.iload_n 1, 1) := by decide +kernel
theorem dX7_balance_1 : decode cX7_balance 1 = .ok (.invokestatic 49, 3) := by decide +kernel
theorem dX7_balance_4 : decode cX7_balance 4 = .ok (.ifCond .eq 15, 3) := by decide +kernel
theorem dX7_balance_7 : decode cX7_balance 7 = .ok (.aload_n 0, 1) := by decide +kernel
theorem dX7_balance_8 : decode cX7_balance 8 = .ok (.getfield 19, 3) := by decide +kernel
theorem dX7_balance_11 : decode cX7_balance 11 = .ok (.getfield 57, 3) := by decide +kernel
theorem dX7_balance_14 : decode cX7_balance 14 = .ok (.iload_n 1, 1) := by decide +kernel
theorem dX7_balance_15 : decode cX7_balance 15 = .ok (.laload, 1) := by decide +kernel
theorem dX7_balance_16 : decode cX7_balance 16 = .ok (.goto 4, 3) := by decide +kernel
theorem dX7_balance_19 : decode cX7_balance 19 = .ok (.lconst 0, 1) := by decide +kernel
theorem dX7_balance_20 : decode cX7_balance 20 = .ok (.lreturn, 1) := by decide +kernel
theorem dX7_events_0 : decode cX7_events 0 = .ok (.aload_n 0, 1) := by decide +kernel
theorem dX7_events_1 : decode cX7_events 1 = .ok (.getfield 19, 3) := by decide +kernel
theorem dX7_events_4 : decode cX7_events 4 = .ok (.getfield 79, 3) := by decide +kernel
theorem dX7_events_7 : decode cX7_events 7 = .ok (.ireturn, 1) := by decide +kernel
theorem dX7_event_0 : decode cX7_event 0 = .ok (.aload_n 0, 1) := by decide +kernel
theorem dX7_event_1 : decode cX7_event 1 = .ok (.getfield 19, 3) := by decide +kernel
theorem dX7_event_4 : decode cX7_event 4 = .ok (.iload_n 1, 1) := by decide +kernel
theorem dX7_event_5 : decode cX7_event 5 = .ok (.invokevirtual 82, 3) := by decide +kernel
theorem dX7_event_8 : decode cX7_event 8 = .ok (.ifCond .eq 19, 3) := by decide +kernel
theorem dX7_event_11 : decode cX7_event 11 = .ok (.iload_n 2, 1) := by decide +kernel
theorem dX7_event_12 : decode cX7_event 12 = .ok (.ifCond .ne 15, 3) := by decide +kernel
theorem dX7_event_15 : decode cX7_event 15 = .ok (.aload_n 0, 1) := by decide +kernel
theorem dX7_event_16 : decode cX7_event 16 = .ok (.getfield 19, 3) := by decide +kernel
theorem dX7_event_19 : decode cX7_event 19 = .ok (.getfield 85, 3) := by decide +kernel
theorem dX7_event_22 : decode cX7_event 22 = .ok (.iload_n 1, 1) := by decide +kernel
theorem dX7_event_23 : decode cX7_event 23 = .ok (.iaload, 1) := by decide +kernel
theorem dX7_event_24 : decode cX7_event 24 = .ok (.goto 4, 3) := by decide +kernel
theorem dX7_event_27 : decode cX7_event 27 = .ok (.iconst (-1), 1) := by decide +kernel
theorem dX7_event_28 : decode cX7_event 28 = .ok (.ireturn, 1) := by decide +kernel
theorem dX7_value_0 : decode cX7_value 0 = .ok (.aload_n 0, 1) := by decide +kernel
theorem dX7_value_1 : decode cX7_value 1 = .ok (.getfield 19, 3) := by decide +kernel
theorem dX7_value_4 : decode cX7_value 4 = .ok (.iload_n 1, 1) := by decide +kernel
theorem dX7_value_5 : decode cX7_value 5 = .ok (.invokevirtual 82, 3) := by decide +kernel
theorem dX7_value_8 : decode cX7_value 8 = .ok (.ifCond .ne 13, 3) := by decide +kernel
theorem dX7_value_11 : decode cX7_value 11 = .ok (.new 88, 3) := by decide +kernel
theorem dX7_value_14 : decode cX7_value 14 = .ok (.dup, 1) := by decide +kernel
theorem dX7_value_15 : decode cX7_value 15 = .ok (.ldc 90, 2) := by decide +kernel
theorem dX7_value_17 : decode cX7_value 17 = .ok (.invokespecial 92, 3) := by decide +kernel
theorem dX7_value_20 : decode cX7_value 20 = .ok (.athrow, 1) := by decide +kernel
theorem dX7_value_21 : decode cX7_value 21 = .ok (.aload_n 0, 1) := by decide +kernel
theorem dX7_value_22 : decode cX7_value 22 = .ok (.getfield 19, 3) := by decide +kernel
theorem dX7_value_25 : decode cX7_value 25 = .ok (.getfield 95, 3) := by decide +kernel
theorem dX7_value_28 : decode cX7_value 28 = .ok (.iload_n 1, 1) := by decide +kernel
theorem dX7_value_29 : decode cX7_value 29 = .ok (.laload, 1) := by decide +kernel
theorem dX7_value_30 : decode cX7_value 30 = .ok (.lreturn, 1) := by decide +kernel
theorem dX7_isContract_0 : decode cX7_isContract 0 = .ok (.iload_n 0, 1) := by decide +kernel
theorem dX7_isContract_1 : decode cX7_isContract 1 = .ok (.ifCond .lt 13, 3) := by decide +kernel
theorem dX7_isContract_4 : decode cX7_isContract 4 = .ok (.iload_n 0, 1) := by decide +kernel
theorem dX7_isContract_5 : decode cX7_isContract 5 = .ok (.bipush 8, 2) := by decide +kernel
theorem dX7_isContract_7 : decode cX7_isContract 7 = .ok (.if_icmp .ge 7, 3) := by decide +kernel
theorem dX7_isContract_10 : decode cX7_isContract 10 = .ok (.iconst 1, 1) := by decide +kernel
theorem dX7_isContract_11 : decode cX7_isContract 11 = .ok (.goto 4, 3) := by decide +kernel
theorem dX7_isContract_14 : decode cX7_isContract 14 = .ok (.iconst 0, 1) := by decide +kernel
theorem dX7_isContract_15 : decode cX7_isContract 15 = .ok (.ireturn, 1) := by decide +kernel
theorem dX7_isBehaviour_0 : decode cX7_isBehaviour 0 = .ok (.iload_n 0, 1) := by decide +kernel
theorem dX7_isBehaviour_1 : decode cX7_isBehaviour 1 = .ok (.invokestatic 49, 3) := by decide +kernel
theorem dX7_isBehaviour_4 : decode cX7_isBehaviour 4 = .ok (.ifCond .eq 17, 3) := by decide +kernel
theorem dX7_isBehaviour_7 : decode cX7_isBehaviour 7 = .ok (.iload_n 1, 1) := by decide +kernel
theorem dX7_isBehaviour_8 : decode cX7_isBehaviour 8 = .ok (.ifCond .lt 13, 3) := by decide +kernel
theorem dX7_isBehaviour_11 : decode cX7_isBehaviour 11 = .ok (.iload_n 1, 1) := by decide +kernel
theorem dX7_isBehaviour_12 : decode cX7_isBehaviour 12 = .ok (.bipush 6, 2) := by decide +kernel
theorem dX7_isBehaviour_14 : decode cX7_isBehaviour 14 = .ok (.if_icmp .ge 7, 3) := by decide +kernel
theorem dX7_isBehaviour_17 : decode cX7_isBehaviour 17 = .ok (.iconst 1, 1) := by decide +kernel
theorem dX7_isBehaviour_18 : decode cX7_isBehaviour 18 = .ok (.goto 4, 3) := by decide +kernel
theorem dX7_isBehaviour_21 : decode cX7_isBehaviour 21 = .ok (.iconst 0, 1) := by decide +kernel
theorem dX7_isBehaviour_22 : decode cX7_isBehaviour 22 = .ok (.ireturn, 1) := by decide +kernel
theorem dX7_isLeaf_0 : decode cX7_isLeaf 0 = .ok (.iload_n 0, 1) := by decide +kernel
theorem dX7_isLeaf_1 : decode cX7_isLeaf 1 = .ok (.ifCond .lt 13, 3) := by decide +kernel
theorem dX7_isLeaf_4 : decode cX7_isLeaf 4 = .ok (.iload_n 0, 1) := by decide +kernel
theorem dX7_isLeaf_5 : decode cX7_isLeaf 5 = .ok (.bipush 8, 2) := by decide +kernel
theorem dX7_isLeaf_7 : decode cX7_isLeaf 7 = .ok (.if_icmp .ge 7, 3) := by decide +kernel
theorem dX7_isLeaf_10 : decode cX7_isLeaf 10 = .ok (.iconst 1, 1) := by decide +kernel
theorem dX7_isLeaf_11 : decode cX7_isLeaf 11 = .ok (.goto 4, 3) := by decide +kernel
theorem dX7_isLeaf_14 : decode cX7_isLeaf 14 = .ok (.iconst 0, 1) := by decide +kernel
theorem dX7_isLeaf_15 : decode cX7_isLeaf 15 = .ok (.ireturn, 1) := by decide +kernel
theorem dX7_sumFits_0 : decode cX7_sumFits 0 = .ok (.lload_n 0, 1) := by decide +kernel
theorem dX7_sumFits_1 : decode cX7_sumFits 1 = .ok (.lload_n 2, 1) := by decide +kernel
theorem dX7_sumFits_2 : decode cX7_sumFits 2 = .ok (.ladd, 1) := by decide +kernel
theorem dX7_sumFits_3 : decode cX7_sumFits 3 = .ok (.lstore 4, 2) := by decide +kernel
theorem dX7_sumFits_5 : decode cX7_sumFits 5 = .ok (.lload_n 0, 1) := by decide +kernel
theorem dX7_sumFits_6 : decode cX7_sumFits 6 = .ok (.lload 4, 2) := by decide +kernel
theorem dX7_sumFits_8 : decode cX7_sumFits 8 = .ok (.lxor, 1) := by decide +kernel
theorem dX7_sumFits_9 : decode cX7_sumFits 9 = .ok (.lload_n 2, 1) := by decide +kernel
theorem dX7_sumFits_10 : decode cX7_sumFits 10 = .ok (.lload 4, 2) := by decide +kernel
theorem dX7_sumFits_12 : decode cX7_sumFits 12 = .ok (.lxor, 1) := by decide +kernel
theorem dX7_sumFits_13 : decode cX7_sumFits 13 = .ok (.land, 1) := by decide +kernel
theorem dX7_sumFits_14 : decode cX7_sumFits 14 = .ok (.lconst 0, 1) := by decide +kernel
theorem dX7_sumFits_15 : decode cX7_sumFits 15 = .ok (.lcmp, 1) := by decide +kernel
theorem dX7_sumFits_16 : decode cX7_sumFits 16 = .ok (.ifCond .lt 7, 3) := by decide +kernel
theorem dX7_sumFits_19 : decode cX7_sumFits 19 = .ok (.iconst 1, 1) := by decide +kernel
theorem dX7_sumFits_20 : decode cX7_sumFits 20 = .ok (.goto 4, 3) := by decide +kernel
theorem dX7_sumFits_23 : decode cX7_sumFits 23 = .ok (.iconst 0, 1) := by decide +kernel
theorem dX7_sumFits_24 : decode cX7_sumFits 24 = .ok (.ireturn, 1) := by decide +kernel
theorem dX7_differenceFits_0 : decode cX7_differenceFits 0 = .ok (.lload_n 0, 1) := by decide +kernel
theorem dX7_differenceFits_1 : decode cX7_differenceFits 1 = .ok (.lload_n 2, 1) := by decide +kernel
theorem dX7_differenceFits_2 : decode cX7_differenceFits 2 = .ok (.lsub, 1) := by decide +kernel
theorem dX7_differenceFits_3 : decode cX7_differenceFits 3 = .ok (.lstore 4, 2) := by decide +kernel
theorem dX7_differenceFits_5 : decode cX7_differenceFits 5 = .ok (.lload_n 0, 1) := by decide +kernel
theorem dX7_differenceFits_6 : decode cX7_differenceFits 6 = .ok (.lload_n 2, 1) := by decide +kernel
theorem dX7_differenceFits_7 : decode cX7_differenceFits 7 = .ok (.lxor, 1) := by decide +kernel
theorem dX7_differenceFits_8 : decode cX7_differenceFits 8 = .ok (.lload_n 0, 1) := by decide +kernel
theorem dX7_differenceFits_9 : decode cX7_differenceFits 9 = .ok (.lload 4, 2) := by decide +kernel
theorem dX7_differenceFits_11 : decode cX7_differenceFits 11 = .ok (.lxor, 1) := by decide +kernel
theorem dX7_differenceFits_12 : decode cX7_differenceFits 12 = .ok (.land, 1) := by decide +kernel
theorem dX7_differenceFits_13 : decode cX7_differenceFits 13 = .ok (.lconst 0, 1) := by decide +kernel
theorem dX7_differenceFits_14 : decode cX7_differenceFits 14 = .ok (.lcmp, 1) := by decide +kernel
theorem dX7_differenceFits_15 : decode cX7_differenceFits 15 = .ok (.ifCond .lt 7, 3) := by decide +kernel
theorem dX7_differenceFits_18 : decode cX7_differenceFits 18 = .ok (.iconst 1, 1) := by decide +kernel
theorem dX7_differenceFits_19 : decode cX7_differenceFits 19 = .ok (.goto 4, 3) := by decide +kernel
theorem dX7_differenceFits_22 : decode cX7_differenceFits 22 = .ok (.iconst 0, 1) := by decide +kernel
theorem dX7_differenceFits_23 : decode cX7_differenceFits 23 = .ok (.ireturn, 1) := by decide +kernel
theorem dX7_productFits_0 : decode cX7_productFits 0 = .ok (.lload_n 0, 1) := by decide +kernel
theorem dX7_productFits_1 : decode cX7_productFits 1 = .ok (.lconst 0, 1) := by decide +kernel
theorem dX7_productFits_2 : decode cX7_productFits 2 = .ok (.lcmp, 1) := by decide +kernel
theorem dX7_productFits_3 : decode cX7_productFits 3 = .ok (.ifCond .ne 5, 3) := by decide +kernel
theorem dX7_productFits_6 : decode cX7_productFits 6 = .ok (.iconst 1, 1) := by decide +kernel
theorem dX7_productFits_7 : decode cX7_productFits 7 = .ok (.ireturn, 1) := by decide +kernel
theorem dX7_productFits_8 : decode cX7_productFits 8 = .ok (.lload_n 0, 1) := by decide +kernel
theorem dX7_productFits_9 : decode cX7_productFits 9 = .ok (.ldc2_w 98, 3) := by decide +kernel
theorem dX7_productFits_12 : decode cX7_productFits 12 = .ok (.lcmp, 1) := by decide +kernel
theorem dX7_productFits_13 : decode cX7_productFits 13 = .ok (.ifCond .ne 17, 3) := by decide +kernel
theorem dX7_productFits_16 : decode cX7_productFits 16 = .ok (.lload_n 2, 1) := by decide +kernel
theorem dX7_productFits_17 : decode cX7_productFits 17 = .ok (.ldc2_w 102, 3) := by decide +kernel
theorem dX7_productFits_20 : decode cX7_productFits 20 = .ok (.lcmp, 1) := by decide +kernel
theorem dX7_productFits_21 : decode cX7_productFits 21 = .ok (.ifCond .eq 7, 3) := by decide +kernel
theorem dX7_productFits_24 : decode cX7_productFits 24 = .ok (.iconst 1, 1) := by decide +kernel
theorem dX7_productFits_25 : decode cX7_productFits 25 = .ok (.goto 4, 3) := by decide +kernel
theorem dX7_productFits_28 : decode cX7_productFits 28 = .ok (.iconst 0, 1) := by decide +kernel
theorem dX7_productFits_29 : decode cX7_productFits 29 = .ok (.ireturn, 1) := by decide +kernel
theorem dX7_productFits_30 : decode cX7_productFits 30 = .ok (.lload_n 0, 1) := by decide +kernel
theorem dX7_productFits_31 : decode cX7_productFits 31 = .ok (.lload_n 2, 1) := by decide +kernel
theorem dX7_productFits_32 : decode cX7_productFits 32 = .ok (.lmul, 1) := by decide +kernel
theorem dX7_productFits_33 : decode cX7_productFits 33 = .ok (.lload_n 0, 1) := by decide +kernel
theorem dX7_productFits_34 : decode cX7_productFits 34 = .ok (.ldiv, 1) := by decide +kernel
theorem dX7_productFits_35 : decode cX7_productFits 35 = .ok (.lload_n 2, 1) := by decide +kernel
theorem dX7_productFits_36 : decode cX7_productFits 36 = .ok (.lcmp, 1) := by decide +kernel
theorem dX7_productFits_37 : decode cX7_productFits 37 = .ok (.ifCond .ne 7, 3) := by decide +kernel
theorem dX7_productFits_40 : decode cX7_productFits 40 = .ok (.iconst 1, 1) := by decide +kernel
theorem dX7_productFits_41 : decode cX7_productFits 41 = .ok (.goto 4, 3) := by decide +kernel
theorem dX7_productFits_44 : decode cX7_productFits 44 = .ok (.iconst 0, 1) := by decide +kernel
theorem dX7_productFits_45 : decode cX7_productFits 45 = .ok (.ireturn, 1) := by decide +kernel
end
section
noncomputable def gwW : List Cond := lw_tbl.filter goodWord
noncomputable abbrev wv (y : MethodName) (c : ByteArray) (n : Nat) (r : Option FieldType) : List Cond := .code y c n r :: gwW
theorem gw_mem {w : Cond} (h : w ∈ lw_tbl) (hg : goodWord w = true) : w ∈ gwW := List.mem_filter.mpr ⟨h, hg⟩
theorem gw_sub {c0 : Cond} {ws : List Cond} (h : ∀ w ∈ ws, w ∈ gwW) : GoodIn (c0 :: gwW) ws := fun w hw => ⟨List.mem_cons_of_mem _ (h w hw), good_of_word (List.mem_filter.mp (h w hw)).2⟩
theorem gw_V {c0 : Cond} {own C : String} {idx L : Nat} {y : MethodName} {b : ByteArray} {r : Option FieldType} (h1 : Cond.methodLink own idx y ∈ gwW) (h2 : Cond.instanceMethod y ∈ gwW) (h3 : Cond.selects C y y ∈ gwW) (h4 : Cond.initialized C ∈ gwW) (h5 : Cond.code y b L r ∈ gwW) : GoodIn (c0 :: gwW) (wsV own idx C y (.code y b L r :: gwW)) := by
  refine gw_sub fun w hw => ?_
  simp only [wsV, List.cons_append, List.nil_append, List.mem_cons] at hw
  rcases hw with rfl | rfl | rfl | rfl | rfl | hw <;> assumption
theorem gw_S {c0 : Cond} {own : String} {idx L : Nat} {y : MethodName} {b : ByteArray} {r : Option FieldType} (h1 : Cond.methodLink own idx y ∈ gwW) (h2 : Cond.static y ∈ gwW) (h4 : Cond.initialized y.cls ∈ gwW) (h5 : Cond.code y b L r ∈ gwW) : GoodIn (c0 :: gwW) (va_wsS own idx y (.code y b L r :: gwW)) := by
  refine gw_sub fun w hw => ?_
  simp only [va_wsS, List.cons_append, List.nil_append, List.mem_cons] at hw
  rcases hw with rfl | rfl | rfl | rfl | hw <;> assumption
theorem gw_N {c0 : Cond} {L : Nat} {y : MethodName} {b : ByteArray} {r : Option FieldType} (h5 : Cond.code y b L r ∈ gwW) : GoodIn (c0 :: gwW) (.code y b L r :: gwW) := by
  refine gw_sub fun w hw => ?_
  simp only [List.mem_cons] at hw
  rcases hw with rfl | hw <;> assumption
theorem iwBeh : ∀ w ∈ u_ws RX0 TX0 3, w ∈ gwW := fun w h => gw_mem ((show ∀ w ∈ u_ws RX0 TX0 3, w ∈ lw_tbl by decide +kernel) w h) (List.all_eq_true.mp (show (u_ws RX0 TX0 3).all goodWord = true by decide +kernel) w h)
theorem iwBook : ∀ w ∈ u_ws RX1 TX1 2, w ∈ gwW := fun w h => gw_mem ((show ∀ w ∈ u_ws RX1 TX1 2, w ∈ lw_tbl by decide +kernel) w h) (List.all_eq_true.mp (show (u_ws RX1 TX1 2).all goodWord = true by decide +kernel) w h)
theorem iwFrame : ∀ w ∈ u_ws RX2 TX2 10, w ∈ gwW := fun w h => gw_mem ((show ∀ w ∈ u_ws RX2 TX2 10, w ∈ lw_tbl by decide +kernel) w h) (List.all_eq_true.mp (show (u_ws RX2 TX2 10).all goodWord = true by decide +kernel) w h)
theorem iwLedger : ∀ w ∈ u_ws RX3 TX3 8, w ∈ gwW := fun w h => gw_mem ((show ∀ w ∈ u_ws RX3 TX3 8, w ∈ lw_tbl by decide +kernel) w h) (List.all_eq_true.mp (show (u_ws RX3 TX3 8).all goodWord = true by decide +kernel) w h)
theorem iwPile : ∀ w ∈ u_ws RX4 TX4 4, w ∈ gwW := fun w h => gw_mem ((show ∀ w ∈ u_ws RX4 TX4 4, w ∈ lw_tbl by decide +kernel) w h) (List.all_eq_true.mp (show (u_ws RX4 TX4 4).all goodWord = true by decide +kernel) w h)
theorem iwRows : ∀ w ∈ u_ws RX5 TX5 3, w ∈ gwW := fun w h => gw_mem ((show ∀ w ∈ u_ws RX5 TX5 3, w ∈ lw_tbl by decide +kernel) w h) (List.all_eq_true.mp (show (u_ws RX5 TX5 3).all goodWord = true by decide +kernel) w h)
theorem iwWalk : ∀ w ∈ u_ws RX6 TX6 7, w ∈ gwW := fun w h => gw_mem ((show ∀ w ∈ u_ws RX6 TX6 7, w ∈ lw_tbl by decide +kernel) w h) (List.all_eq_true.mp (show (u_ws RX6 TX6 7).all goodWord = true by decide +kernel) w h)
theorem iwCW : ∀ w ∈ u_ws RX7 TX7 3, w ∈ gwW := fun w h => gw_mem ((show ∀ w ∈ u_ws RX7 TX7 3, w ∈ lw_tbl by decide +kernel) w h) (List.all_eq_true.mp (show (u_ws RX7 TX7 3).all goodWord = true by decide +kernel) w h)
theorem iwMF : ∀ w ∈ u_ws RX8 TX8 15, w ∈ gwW := fun w h => gw_mem ((show ∀ w ∈ u_ws RX8 TX8 15, w ∈ lw_tbl by decide +kernel) w h) (List.all_eq_true.mp (show (u_ws RX8 TX8 15).all goodWord = true by decide +kernel) w h)
theorem iwMo : ∀ w ∈ u_ws RX9 TX9 19, w ∈ gwW := fun w h => gw_mem ((show ∀ w ∈ u_ws RX9 TX9 19, w ∈ lw_tbl by decide +kernel) w h) (List.all_eq_true.mp (show (u_ws RX9 TX9 19).all goodWord = true by decide +kernel) w h)
theorem w_92e4e692 : Cond.fieldLink RX0 9 "CallWalker$Behaviour" "codes" "[I" ∈ gwW := gw_mem (by decide +kernel) (by decide +kernel)
theorem w_3596c244 : Cond.fieldLink RX0 15 "CallWalker$Behaviour" "numbers" "[I" ∈ gwW := gw_mem (by decide +kernel) (by decide +kernel)
theorem w_ac02c5f5 : Cond.fieldLink RX0 18 "CallWalker$Behaviour" "count" "I" ∈ gwW := gw_mem (by decide +kernel) (by decide +kernel)
theorem w_cc2d62dd : Cond.fieldLink RX1 11 "CallWalker$Book" "behaviours" "[LCallWalker$Behaviour;" ∈ gwW := gw_mem (by decide +kernel) (by decide +kernel)
theorem w_0675cc0a : Cond.fieldLink RX3 25 "CallWalker$Ledger" "eventCount" "I" ∈ gwW := gw_mem (by decide +kernel) (by decide +kernel)
theorem w_ba44a13a : Cond.fieldLink RX3 18 "CallWalker$Ledger" "eventContracts" "[I" ∈ gwW := gw_mem (by decide +kernel) (by decide +kernel)
theorem w_2b6c9491 : Cond.fieldLink RX3 22 "CallWalker$Ledger" "eventNumbers" "[J" ∈ gwW := gw_mem (by decide +kernel) (by decide +kernel)
theorem w_93fec1d4 : Cond.fieldLink RX3 15 "CallWalker$Ledger" "balances" "[J" ∈ gwW := gw_mem (by decide +kernel) (by decide +kernel)
theorem w_7e4a3a45 : Cond.constantLong RX3 42 (9223372036854775807) ∈ gwW := gw_mem (by decide +kernel) (by decide +kernel)
theorem w_a648c8f7 : Cond.native arraycopyName ∈ gwW := gw_mem (by decide +kernel) (by decide +kernel)
theorem w_410d49e2 : Cond.static arraycopyName ∈ gwW := gw_mem (by decide +kernel) (by decide +kernel)
theorem w_4260ffab : Cond.initialized "java/lang/System" ∈ gwW := gw_mem (by decide +kernel) (by decide +kernel)
theorem w_23a053dd : Cond.fieldLink RX3 9 "CallWalker$Ledger" "leaves" "[J" ∈ gwW := gw_mem (by decide +kernel) (by decide +kernel)
theorem w_f0b03c9d : Cond.fieldLink RX3 31 "CallWalker$Ledger" "keptLeaves" "[[J" ∈ gwW := gw_mem (by decide +kernel) (by decide +kernel)
theorem w_ded8991e : Cond.fieldLink RX3 34 "CallWalker$Ledger" "keptBalances" "[[J" ∈ gwW := gw_mem (by decide +kernel) (by decide +kernel)
theorem w_81616191 : Cond.fieldLink RX3 37 "CallWalker$Ledger" "keptCounts" "[I" ∈ gwW := gw_mem (by decide +kernel) (by decide +kernel)
theorem w_e7d42001 : Cond.methodLink RX3 44 arraycopyName ∈ gwW := gw_mem (by decide +kernel) (by decide +kernel)
theorem w_311ac5d4 : Cond.fieldLink RX4 19 "CallWalker$Pile" "height" "I" ∈ gwW := gw_mem (by decide +kernel) (by decide +kernel)
theorem w_80a2ec50 : Cond.static Lib.Math.max.name ∈ gwW := gw_mem (by decide +kernel) (by decide +kernel)
theorem w_868a9286 : Cond.initialized "java/lang/Math" ∈ gwW := gw_mem (by decide +kernel) (by decide +kernel)
theorem w_b6349a14 : Cond.code Lib.Math.max.name Lib.Math.max.code 2 (some .int) ∈ gwW := gw_mem (by decide +kernel) (by decide +kernel)
theorem w_c51cb73e : Cond.fieldLink RX4 23 "CallWalker$Pile" "heightBefore" "I" ∈ gwW := gw_mem (by decide +kernel) (by decide +kernel)
theorem w_f225a1c0 : Cond.methodLink RX4 26 Lib.Math.max.name ∈ gwW := gw_mem (by decide +kernel) (by decide +kernel)
theorem w_89a9db98 : Cond.fieldLink RX4 9 "CallWalker$Pile" "kinds" "[I" ∈ gwW := gw_mem (by decide +kernel) (by decide +kernel)
theorem w_c5b43c70 : Cond.fieldLink RX4 15 "CallWalker$Pile" "numbers" "[J" ∈ gwW := gw_mem (by decide +kernel) (by decide +kernel)
theorem w_548e850c : Cond.methodLink RX4 32 yX4_tookKind ∈ gwW := gw_mem (by decide +kernel) (by decide +kernel)
theorem w_72af167e : Cond.code yX4_tookKind cX4_tookKind 3 (some .int) ∈ gwW := gw_mem (by decide +kernel) (by decide +kernel)
theorem w_5c9fe01c : Cond.instanceMethod yX4_tookKind ∈ gwW := gw_mem (by decide +kernel) (by decide +kernel)
theorem w_ceab1f00 : Cond.selects RX4 yX4_tookKind yX4_tookKind ∈ gwW := gw_mem (by decide +kernel) (by decide +kernel)
theorem w_76c797a4 : Cond.initialized RX4 ∈ gwW := gw_mem (by decide +kernel) (by decide +kernel)
theorem w_5c3461e8 : Cond.methodLink RX4 36 yX4_put ∈ gwW := gw_mem (by decide +kernel) (by decide +kernel)
theorem w_54242bcb : Cond.code yX4_put cX4_put 4 (some .int) ∈ gwW := gw_mem (by decide +kernel) (by decide +kernel)
theorem w_d8d501aa : Cond.instanceMethod yX4_put ∈ gwW := gw_mem (by decide +kernel) (by decide +kernel)
theorem w_46b57ea6 : Cond.selects RX4 yX4_put yX4_put ∈ gwW := gw_mem (by decide +kernel) (by decide +kernel)
theorem w_f66d2fea : Cond.fieldLink RX2 18 "CallWalker$Frame" "handlers" "I" ∈ gwW := gw_mem (by decide +kernel) (by decide +kernel)
theorem w_69511b5c : Cond.fieldLink RX2 22 "CallWalker$Frame" "contract" "I" ∈ gwW := gw_mem (by decide +kernel) (by decide +kernel)
theorem w_e3b0c746 : Cond.fieldLink RX2 25 "CallWalker$Frame" "caller" "I" ∈ gwW := gw_mem (by decide +kernel) (by decide +kernel)
theorem w_85cdfb7b : Cond.fieldLink RX2 28 "CallWalker$Frame" "next" "I" ∈ gwW := gw_mem (by decide +kernel) (by decide +kernel)
theorem w_b790a6d0 : Cond.fieldLink RX2 31 "CallWalker$Frame" "stop" "I" ∈ gwW := gw_mem (by decide +kernel) (by decide +kernel)
theorem w_99489c43 : Cond.fieldLink RX2 34 "CallWalker$Frame" "behaviour" "LCallWalker$Behaviour;" ∈ gwW := gw_mem (by decide +kernel) (by decide +kernel)
theorem w_bb005698 : Cond.fieldLink RX2 41 "CallWalker$Frame" "pile" "LCallWalker$Pile;" ∈ gwW := gw_mem (by decide +kernel) (by decide +kernel)
theorem w_ac97c914 : Cond.fieldLink RX2 54 "CallWalker$Pile" "height" "I" ∈ gwW := gw_mem (by decide +kernel) (by decide +kernel)
theorem w_464bf442 : Cond.fieldLink RX2 57 "CallWalker$Behaviour" "count" "I" ∈ gwW := gw_mem (by decide +kernel) (by decide +kernel)
theorem w_73fb2ffd : Cond.methodLink RX2 62 yX0_hasPlace ∈ gwW := gw_mem (by decide +kernel) (by decide +kernel)
theorem w_185b0c4c : Cond.code yX0_hasPlace cX0_hasPlace 2 (some .boolean) ∈ gwW := gw_mem (by decide +kernel) (by decide +kernel)
theorem w_5a85a84b : Cond.instanceMethod yX0_hasPlace ∈ gwW := gw_mem (by decide +kernel) (by decide +kernel)
theorem w_16f77c3b : Cond.selects RX0 yX0_hasPlace yX0_hasPlace ∈ gwW := gw_mem (by decide +kernel) (by decide +kernel)
theorem w_644e7304 : Cond.initialized RX0 ∈ gwW := gw_mem (by decide +kernel) (by decide +kernel)
theorem w_a926dd89 : Cond.fieldLink RX2 9 "CallWalker$Frame" "handlerSteps" "[I" ∈ gwW := gw_mem (by decide +kernel) (by decide +kernel)
theorem w_26449b3e : Cond.fieldLink RX2 15 "CallWalker$Frame" "handlerHeights" "[I" ∈ gwW := gw_mem (by decide +kernel) (by decide +kernel)
theorem w_79b26afc : Cond.static Lib.Math.min.name ∈ gwW := gw_mem (by decide +kernel) (by decide +kernel)
theorem w_0fd793e2 : Cond.code Lib.Math.min.name Lib.Math.min.code 2 (some .int) ∈ gwW := gw_mem (by decide +kernel) (by decide +kernel)
theorem w_35bd17b4 : Cond.methodLink RX2 72 yX4_putNumber ∈ gwW := gw_mem (by decide +kernel) (by decide +kernel)
theorem w_03086df0 : Cond.code yX4_putNumber cX4_putNumber 3 (some .int) ∈ gwW := gw_mem (by decide +kernel) (by decide +kernel)
theorem w_34c9ad22 : Cond.instanceMethod yX4_putNumber ∈ gwW := gw_mem (by decide +kernel) (by decide +kernel)
theorem w_9e5e849e : Cond.selects RX4 yX4_putNumber yX4_putNumber ∈ gwW := gw_mem (by decide +kernel) (by decide +kernel)
theorem w_dbdba080 : Cond.methodLink RX2 66 Lib.Math.min.name ∈ gwW := gw_mem (by decide +kernel) (by decide +kernel)
theorem w_642cd4aa : Cond.fieldLink RX5 15 "CallWalker$Rows" "lengths" "[I" ∈ gwW := gw_mem (by decide +kernel) (by decide +kernel)
theorem w_8acbe09c : Cond.constantLong RX5 72 (12) ∈ gwW := gw_mem (by decide +kernel) (by decide +kernel)
theorem w_eb771c37 : Cond.methodLink RX5 43 yX5_lengthOf ∈ gwW := gw_mem (by decide +kernel) (by decide +kernel)
theorem w_69ff08de : Cond.code yX5_lengthOf cX5_lengthOf 3 (some .int) ∈ gwW := gw_mem (by decide +kernel) (by decide +kernel)
theorem w_47a11451 : Cond.instanceMethod yX5_lengthOf ∈ gwW := gw_mem (by decide +kernel) (by decide +kernel)
theorem w_e6548b4e : Cond.selects RX5 yX5_lengthOf yX5_lengthOf ∈ gwW := gw_mem (by decide +kernel) (by decide +kernel)
theorem w_8bdbd0d2 : Cond.initialized RX5 ∈ gwW := gw_mem (by decide +kernel) (by decide +kernel)
theorem w_3df059a5 : Cond.methodLink RX5 23 yX4_tookNumber ∈ gwW := gw_mem (by decide +kernel) (by decide +kernel)
theorem w_f9f5f760 : Cond.code yX4_tookNumber cX4_tookNumber 2 (some .boolean) ∈ gwW := gw_mem (by decide +kernel) (by decide +kernel)
theorem w_710a0455 : Cond.instanceMethod yX4_tookNumber ∈ gwW := gw_mem (by decide +kernel) (by decide +kernel)
theorem w_eea10879 : Cond.selects RX4 yX4_tookNumber yX4_tookNumber ∈ gwW := gw_mem (by decide +kernel) (by decide +kernel)
theorem w_6eb0be21 : Cond.methodLink RX5 29 yX4_took ∈ gwW := gw_mem (by decide +kernel) (by decide +kernel)
theorem w_c905c078 : Cond.code yX4_took cX4_took 3 (some .long) ∈ gwW := gw_mem (by decide +kernel) (by decide +kernel)
theorem w_e50f7684 : Cond.instanceMethod yX4_took ∈ gwW := gw_mem (by decide +kernel) (by decide +kernel)
theorem w_26b160a3 : Cond.selects RX4 yX4_took yX4_took ∈ gwW := gw_mem (by decide +kernel) (by decide +kernel)
theorem w_11bf5328 : Cond.methodLink RX5 35 yX4_freeRow ∈ gwW := gw_mem (by decide +kernel) (by decide +kernel)
theorem w_fd454fa2 : Cond.code yX4_freeRow cX4_freeRow 3 (some .int) ∈ gwW := gw_mem (by decide +kernel) (by decide +kernel)
theorem w_9d73c746 : Cond.instanceMethod yX4_freeRow ∈ gwW := gw_mem (by decide +kernel) (by decide +kernel)
theorem w_ac0097de : Cond.selects RX4 yX4_freeRow yX4_freeRow ∈ gwW := gw_mem (by decide +kernel) (by decide +kernel)
theorem w_4dc44149 : Cond.methodLink RX5 39 yX4_put ∈ gwW := gw_mem (by decide +kernel) (by decide +kernel)
theorem w_44bf1df9 : Cond.fieldLink RX5 9 "CallWalker$Rows" "elements" "[J" ∈ gwW := gw_mem (by decide +kernel) (by decide +kernel)
theorem w_b00e8dcd : Cond.fieldLink RX5 19 "CallWalker$Rows" "pile" "LCallWalker$Pile;" ∈ gwW := gw_mem (by decide +kernel) (by decide +kernel)
theorem w_395c51ba : Cond.constantLong RX5 33 (16) ∈ gwW := gw_mem (by decide +kernel) (by decide +kernel)
theorem w_ac50c630 : Cond.methodLink RX5 47 yX5_placeOf ∈ gwW := gw_mem (by decide +kernel) (by decide +kernel)
theorem w_5ae13e92 : Cond.code yX5_placeOf cX5_placeOf 5 (some .int) ∈ gwW := gw_mem (by decide +kernel) (by decide +kernel)
theorem w_512321e3 : Cond.instanceMethod yX5_placeOf ∈ gwW := gw_mem (by decide +kernel) (by decide +kernel)
theorem w_a4eb41e5 : Cond.selects RX5 yX5_placeOf yX5_placeOf ∈ gwW := gw_mem (by decide +kernel) (by decide +kernel)
theorem w_2284ff03 : Cond.methodLink RX5 51 arraycopyName ∈ gwW := gw_mem (by decide +kernel) (by decide +kernel)
theorem w_cdb175cb : Cond.methodLink RX5 57 yX4_tookKind ∈ gwW := gw_mem (by decide +kernel) (by decide +kernel)
theorem w_c19e7088 : Cond.methodLink RX5 61 yX5_elementFailure ∈ gwW := gw_mem (by decide +kernel) (by decide +kernel)
theorem w_cb51ae7a : Cond.code yX5_elementFailure cX5_elementFailure 7 (some .int) ∈ gwW := gw_mem (by decide +kernel) (by decide +kernel)
theorem w_09edf06d : Cond.instanceMethod yX5_elementFailure ∈ gwW := gw_mem (by decide +kernel) (by decide +kernel)
theorem w_5790b627 : Cond.selects RX5 yX5_elementFailure yX5_elementFailure ∈ gwW := gw_mem (by decide +kernel) (by decide +kernel)
theorem w_81d1523b : Cond.methodLink RX5 65 yX4_putNumber ∈ gwW := gw_mem (by decide +kernel) (by decide +kernel)
theorem w_4a2bada4 : Cond.methodLink RX5 68 yX5_hasRange ∈ gwW := gw_mem (by decide +kernel) (by decide +kernel)
theorem w_0e5f6c57 : Cond.code yX5_hasRange cX5_hasRange 8 (some .boolean) ∈ gwW := gw_mem (by decide +kernel) (by decide +kernel)
theorem w_0b3e77d4 : Cond.instanceMethod yX5_hasRange ∈ gwW := gw_mem (by decide +kernel) (by decide +kernel)
theorem w_86ede6f9 : Cond.selects RX5 yX5_hasRange yX5_hasRange ∈ gwW := gw_mem (by decide +kernel) (by decide +kernel)
theorem w_375a58ab : Cond.methodLink RX7 49 yX7_isContract ∈ gwW := gw_mem (by decide +kernel) (by decide +kernel)
theorem w_9bb5fda8 : Cond.code yX7_isContract cX7_isContract 1 (some .boolean) ∈ gwW := gw_mem (by decide +kernel) (by decide +kernel)
theorem w_6f490791 : Cond.static yX7_isContract ∈ gwW := gw_mem (by decide +kernel) (by decide +kernel)
theorem w_0fc29077 : Cond.initialized RX7 ∈ gwW := gw_mem (by decide +kernel) (by decide +kernel)
theorem w_b5052a64 : Cond.constantLong RX7 98 (-1) ∈ gwW := gw_mem (by decide +kernel) (by decide +kernel)
theorem w_1cc8c3fa : Cond.constantLong RX7 102 (-9223372036854775808) ∈ gwW := gw_mem (by decide +kernel) (by decide +kernel)
theorem w_794f36c5 : Cond.methodLink RX6 77 yX3_keep ∈ gwW := gw_mem (by decide +kernel) (by decide +kernel)
theorem w_9f2ad499 : Cond.code yX3_keep cX3_keep 2 none ∈ gwW := gw_mem (by decide +kernel) (by decide +kernel)
theorem w_0811af9b : Cond.instanceMethod yX3_keep ∈ gwW := gw_mem (by decide +kernel) (by decide +kernel)
theorem w_cac76b74 : Cond.selects RX3 yX3_keep yX3_keep ∈ gwW := gw_mem (by decide +kernel) (by decide +kernel)
theorem w_7f12e8e2 : Cond.initialized RX3 ∈ gwW := gw_mem (by decide +kernel) (by decide +kernel)
theorem w_73c44b14 : Cond.methodLink RX6 81 yX2_begin ∈ gwW := gw_mem (by decide +kernel) (by decide +kernel)
theorem w_8869f1ce : Cond.code yX2_begin cX2_begin 5 none ∈ gwW := gw_mem (by decide +kernel) (by decide +kernel)
theorem w_05f823c4 : Cond.instanceMethod yX2_begin ∈ gwW := gw_mem (by decide +kernel) (by decide +kernel)
theorem w_0b708e23 : Cond.selects RX2 yX2_begin yX2_begin ∈ gwW := gw_mem (by decide +kernel) (by decide +kernel)
theorem w_aeeb22ff : Cond.initialized RX2 ∈ gwW := gw_mem (by decide +kernel) (by decide +kernel)
theorem w_4a27d2bd : Cond.fieldLink RX6 11 "CallWalker$Walk" "frames" "[LCallWalker$Frame;" ∈ gwW := gw_mem (by decide +kernel) (by decide +kernel)
theorem w_b50feff6 : Cond.fieldLink RX6 17 "CallWalker$Walk" "counts" "[I" ∈ gwW := gw_mem (by decide +kernel) (by decide +kernel)
theorem w_b62a6067 : Cond.fieldLink RX6 21 "CallWalker$Walk" "depth" "I" ∈ gwW := gw_mem (by decide +kernel) (by decide +kernel)
theorem w_4f54f888 : Cond.fieldLink RX6 36 "CallWalker$Walk" "ledger" "LCallWalker$Ledger;" ∈ gwW := gw_mem (by decide +kernel) (by decide +kernel)
theorem w_adbda9fd : Cond.methodLink RX6 85 Lib.Math.max.name ∈ gwW := gw_mem (by decide +kernel) (by decide +kernel)
theorem w_8fddbe94 : Cond.methodLink RX6 66 yX4_putNumber ∈ gwW := gw_mem (by decide +kernel) (by decide +kernel)
theorem w_0e7c3207 : Cond.fieldLink RX6 28 "CallWalker$Walk" "result" "J" ∈ gwW := gw_mem (by decide +kernel) (by decide +kernel)
theorem w_115d9ac3 : Cond.fieldLink RX6 62 "CallWalker$Frame" "pile" "LCallWalker$Pile;" ∈ gwW := gw_mem (by decide +kernel) (by decide +kernel)
theorem w_fabbcafd : Cond.methodLink RX6 131 yX3_restore ∈ gwW := gw_mem (by decide +kernel) (by decide +kernel)
theorem w_d374c02e : Cond.code yX3_restore cX3_restore 2 none ∈ gwW := gw_mem (by decide +kernel) (by decide +kernel)
theorem w_f7b23bc1 : Cond.instanceMethod yX3_restore ∈ gwW := gw_mem (by decide +kernel) (by decide +kernel)
theorem w_84252a1b : Cond.selects RX3 yX3_restore yX3_restore ∈ gwW := gw_mem (by decide +kernel) (by decide +kernel)
theorem w_79ee79a2 : Cond.methodLink RX6 127 yX2_handle ∈ gwW := gw_mem (by decide +kernel) (by decide +kernel)
theorem w_65b55aab : Cond.code yX2_handle cX2_handle 2 (some .boolean) ∈ gwW := gw_mem (by decide +kernel) (by decide +kernel)
theorem w_c19dedaa : Cond.instanceMethod yX2_handle ∈ gwW := gw_mem (by decide +kernel) (by decide +kernel)
theorem w_8f92d28b : Cond.selects RX2 yX2_handle yX2_handle ∈ gwW := gw_mem (by decide +kernel) (by decide +kernel)
theorem w_6a1a8a51 : Cond.methodLink RX6 124 yX6_undoTo ∈ gwW := gw_mem (by decide +kernel) (by decide +kernel)
theorem w_7c6d5d6e : Cond.code yX6_undoTo cX6_undoTo 2 none ∈ gwW := gw_mem (by decide +kernel) (by decide +kernel)
theorem w_e6ecb092 : Cond.instanceMethod yX6_undoTo ∈ gwW := gw_mem (by decide +kernel) (by decide +kernel)
theorem w_513f21f0 : Cond.selects RX6 yX6_undoTo yX6_undoTo ∈ gwW := gw_mem (by decide +kernel) (by decide +kernel)
theorem w_f8f5642f : Cond.initialized RX6 ∈ gwW := gw_mem (by decide +kernel) (by decide +kernel)
theorem w_166650d6 : Cond.fieldLink RX6 25 "CallWalker$Walk" "answer" "I" ∈ gwW := gw_mem (by decide +kernel) (by decide +kernel)
theorem w_3799d173 : Cond.fieldLink RX6 214 "CallWalker$Frame" "contract" "I" ∈ gwW := gw_mem (by decide +kernel) (by decide +kernel)
theorem w_f9d22def : Cond.code yX7_isBehaviour cX7_isBehaviour 2 (some .boolean) ∈ gwW := gw_mem (by decide +kernel) (by decide +kernel)
theorem w_03540a48 : Cond.static yX7_isBehaviour ∈ gwW := gw_mem (by decide +kernel) (by decide +kernel)
theorem w_30ec52e4 : Cond.methodLink RX6 285 yX3_canMove ∈ gwW := gw_mem (by decide +kernel) (by decide +kernel)
theorem w_1585a2cb : Cond.code yX3_canMove cX3_canMove 5 (some .boolean) ∈ gwW := gw_mem (by decide +kernel) (by decide +kernel)
theorem w_a386f5ee : Cond.instanceMethod yX3_canMove ∈ gwW := gw_mem (by decide +kernel) (by decide +kernel)
theorem w_816675ed : Cond.selects RX3 yX3_canMove yX3_canMove ∈ gwW := gw_mem (by decide +kernel) (by decide +kernel)
theorem w_a45c4b15 : Cond.methodLink RX6 282 yX6_isUnderWay ∈ gwW := gw_mem (by decide +kernel) (by decide +kernel)
theorem w_a9aa258d : Cond.code yX6_isUnderWay cX6_isUnderWay 3 (some .boolean) ∈ gwW := gw_mem (by decide +kernel) (by decide +kernel)
theorem w_1b280cd3 : Cond.instanceMethod yX6_isUnderWay ∈ gwW := gw_mem (by decide +kernel) (by decide +kernel)
theorem w_e5ab82b5 : Cond.selects RX6 yX6_isUnderWay yX6_isUnderWay ∈ gwW := gw_mem (by decide +kernel) (by decide +kernel)
theorem w_6dd6e69a : Cond.fieldLink RX6 32 "CallWalker$Walk" "book" "LCallWalker$Book;" ∈ gwW := gw_mem (by decide +kernel) (by decide +kernel)
theorem w_112bdd1c : Cond.fieldLink RX6 210 "CallWalker$Ledger" "balances" "[J" ∈ gwW := gw_mem (by decide +kernel) (by decide +kernel)
theorem w_93e070e1 : Cond.fieldLink RX6 278 "CallWalker$Book" "guarded" "[Z" ∈ gwW := gw_mem (by decide +kernel) (by decide +kernel)
theorem w_778875df : Cond.code yX7_isLeaf cX7_isLeaf 1 (some .boolean) ∈ gwW := gw_mem (by decide +kernel) (by decide +kernel)
theorem w_45a6a7ae : Cond.static yX7_isLeaf ∈ gwW := gw_mem (by decide +kernel) (by decide +kernel)
theorem w_d39a3034 : Cond.fieldLink RX6 227 "CallWalker$Ledger" "leaves" "[J" ∈ gwW := gw_mem (by decide +kernel) (by decide +kernel)
theorem w_1588eb10 : Cond.methodLink RX6 230 yX4_tookNumber ∈ gwW := gw_mem (by decide +kernel) (by decide +kernel)
theorem w_93fed6db : Cond.methodLink RX6 233 yX4_took ∈ gwW := gw_mem (by decide +kernel) (by decide +kernel)
theorem w_46dcffd2 : Cond.methodLink RX6 237 yX4_tookKind ∈ gwW := gw_mem (by decide +kernel) (by decide +kernel)
theorem w_085b0eb2 : Cond.methodLink RX6 187 yX4_put ∈ gwW := gw_mem (by decide +kernel) (by decide +kernel)
theorem w_4da7ad3a : Cond.code yX7_sumFits cX7_sumFits 6 (some .boolean) ∈ gwW := gw_mem (by decide +kernel) (by decide +kernel)
theorem w_0bad5949 : Cond.static yX7_sumFits ∈ gwW := gw_mem (by decide +kernel) (by decide +kernel)
theorem w_ef9c150f : Cond.code yX7_differenceFits cX7_differenceFits 6 (some .boolean) ∈ gwW := gw_mem (by decide +kernel) (by decide +kernel)
theorem w_21831aed : Cond.static yX7_differenceFits ∈ gwW := gw_mem (by decide +kernel) (by decide +kernel)
theorem w_d70717ca : Cond.code yX7_productFits cX7_productFits 4 (some .boolean) ∈ gwW := gw_mem (by decide +kernel) (by decide +kernel)
theorem w_3fd43fcb : Cond.static yX7_productFits ∈ gwW := gw_mem (by decide +kernel) (by decide +kernel)
theorem w_aec1e59d : Cond.methodLink RX6 250 yX0_hasPlace ∈ gwW := gw_mem (by decide +kernel) (by decide +kernel)
theorem w_9d79fd68 : Cond.methodLink RX6 161 yX2_jump ∈ gwW := gw_mem (by decide +kernel) (by decide +kernel)
theorem w_a67431f2 : Cond.code yX2_jump cX2_jump 2 (some .int) ∈ gwW := gw_mem (by decide +kernel) (by decide +kernel)
theorem w_a6d3ff5e : Cond.instanceMethod yX2_jump ∈ gwW := gw_mem (by decide +kernel) (by decide +kernel)
theorem w_b84d1b6c : Cond.selects RX2 yX2_jump yX2_jump ∈ gwW := gw_mem (by decide +kernel) (by decide +kernel)
theorem w_9f87e21a : Cond.fieldLink RX6 108 "CallWalker$Frame" "behaviour" "LCallWalker$Behaviour;" ∈ gwW := gw_mem (by decide +kernel) (by decide +kernel)
theorem w_38165e87 : Cond.methodLink RX6 95 yX6_endWell ∈ gwW := gw_mem (by decide +kernel) (by decide +kernel)
theorem w_1b9bef71 : Cond.code yX6_endWell cX6_endWell 3 none ∈ gwW := gw_mem (by decide +kernel) (by decide +kernel)
theorem w_d970e0b9 : Cond.instanceMethod yX6_endWell ∈ gwW := gw_mem (by decide +kernel) (by decide +kernel)
theorem w_f7c4a27b : Cond.selects RX6 yX6_endWell yX6_endWell ∈ gwW := gw_mem (by decide +kernel) (by decide +kernel)
theorem w_66c7743a : Cond.methodLink RX6 253 yX3_addEvent ∈ gwW := gw_mem (by decide +kernel) (by decide +kernel)
theorem w_3ffdc574 : Cond.code yX3_addEvent cX3_addEvent 4 (some .boolean) ∈ gwW := gw_mem (by decide +kernel) (by decide +kernel)
theorem w_c763f9a9 : Cond.instanceMethod yX3_addEvent ∈ gwW := gw_mem (by decide +kernel) (by decide +kernel)
theorem w_9539a923 : Cond.selects RX3 yX3_addEvent yX3_addEvent ∈ gwW := gw_mem (by decide +kernel) (by decide +kernel)
theorem w_8005dff5 : Cond.methodLink RX6 257 yX6_callFailure ∈ gwW := gw_mem (by decide +kernel) (by decide +kernel)
theorem w_5bafc6ba : Cond.code yX6_callFailure cX6_callFailure 5 (some .int) ∈ gwW := gw_mem (by decide +kernel) (by decide +kernel)
theorem w_c3c6afd2 : Cond.instanceMethod yX6_callFailure ∈ gwW := gw_mem (by decide +kernel) (by decide +kernel)
theorem w_8912cd72 : Cond.selects RX6 yX6_callFailure yX6_callFailure ∈ gwW := gw_mem (by decide +kernel) (by decide +kernel)
theorem w_07670a37 : Cond.static Lib.MathLoose.min_long.x ∈ gwW := gw_mem (by decide +kernel) (by decide +kernel)
theorem w_c0acf8a6 : Cond.code Lib.MathLoose.min_long.x Lib.MathLoose.min_long.code 4 (some .long) ∈ gwW := gw_mem (by decide +kernel) (by decide +kernel)
theorem w_8f24d854 : Cond.static Lib.MathLoose.max_long.x ∈ gwW := gw_mem (by decide +kernel) (by decide +kernel)
theorem w_ada86a80 : Cond.code Lib.MathLoose.max_long.x Lib.MathLoose.max_long.code 4 (some .long) ∈ gwW := gw_mem (by decide +kernel) (by decide +kernel)
theorem w_f637e4e7 : Cond.methodLink RX6 54 yX1_find ∈ gwW := gw_mem (by decide +kernel) (by decide +kernel)
theorem w_9a4e77f1 : Cond.code yX1_find cX1_find 3 (some (.object "CallWalker$Behaviour")) ∈ gwW := gw_mem (by decide +kernel) (by decide +kernel)
theorem w_e1327d62 : Cond.instanceMethod yX1_find ∈ gwW := gw_mem (by decide +kernel) (by decide +kernel)
theorem w_a3354a1d : Cond.selects RX1 yX1_find yX1_find ∈ gwW := gw_mem (by decide +kernel) (by decide +kernel)
theorem w_df4c496e : Cond.initialized RX1 ∈ gwW := gw_mem (by decide +kernel) (by decide +kernel)
theorem w_5cb88b1c : Cond.methodLink RX6 58 yX6_open ∈ gwW := gw_mem (by decide +kernel) (by decide +kernel)
theorem w_18b9acd0 : Cond.code yX6_open cX6_open 6 (some (.object "CallWalker$Frame")) ∈ gwW := gw_mem (by decide +kernel) (by decide +kernel)
theorem w_50db3de5 : Cond.instanceMethod yX6_open ∈ gwW := gw_mem (by decide +kernel) (by decide +kernel)
theorem w_c63fa8c6 : Cond.selects RX6 yX6_open yX6_open ∈ gwW := gw_mem (by decide +kernel) (by decide +kernel)
theorem w_541fbdc4 : Cond.methodLink RX6 267 yX3_move ∈ gwW := gw_mem (by decide +kernel) (by decide +kernel)
theorem w_2bb9baac : Cond.code yX3_move cX3_move 5 none ∈ gwW := gw_mem (by decide +kernel) (by decide +kernel)
theorem w_8f3cd1e8 : Cond.instanceMethod yX3_move ∈ gwW := gw_mem (by decide +kernel) (by decide +kernel)
theorem w_b9687fe1 : Cond.selects RX3 yX3_move yX3_move ∈ gwW := gw_mem (by decide +kernel) (by decide +kernel)
theorem w_6264dd0f : Cond.methodLink RX6 271 yX5_putCopy ∈ gwW := gw_mem (by decide +kernel) (by decide +kernel)
theorem w_5629de93 : Cond.code yX5_putCopy cX5_putCopy 7 (some .int) ∈ gwW := gw_mem (by decide +kernel) (by decide +kernel)
theorem w_db39b8ad : Cond.instanceMethod yX5_putCopy ∈ gwW := gw_mem (by decide +kernel) (by decide +kernel)
theorem w_341fb3ad : Cond.selects RX5 yX5_putCopy yX5_putCopy ∈ gwW := gw_mem (by decide +kernel) (by decide +kernel)
theorem w_1602bc2a : Cond.fieldLink RX6 99 "CallWalker$Frame" "stop" "I" ∈ gwW := gw_mem (by decide +kernel) (by decide +kernel)
theorem w_e788c032 : Cond.fieldLink RX6 168 "CallWalker$Frame" "rows" "LCallWalker$Rows;" ∈ gwW := gw_mem (by decide +kernel) (by decide +kernel)
theorem w_6fae0919 : Cond.methodLink RX6 261 Lib.MathLoose.min_long.x ∈ gwW := gw_mem (by decide +kernel) (by decide +kernel)
theorem w_d7508f55 : Cond.methodLink RX6 265 Lib.MathLoose.max_long.x ∈ gwW := gw_mem (by decide +kernel) (by decide +kernel)
theorem w_708fd490 : Cond.methodLink RX6 140 yX4_allows ∈ gwW := gw_mem (by decide +kernel) (by decide +kernel)
theorem w_c208274f : Cond.code yX4_allows cX4_allows 3 (some .boolean) ∈ gwW := gw_mem (by decide +kernel) (by decide +kernel)
theorem w_74cf187d : Cond.instanceMethod yX4_allows ∈ gwW := gw_mem (by decide +kernel) (by decide +kernel)
theorem w_b42b31d3 : Cond.selects RX4 yX4_allows yX4_allows ∈ gwW := gw_mem (by decide +kernel) (by decide +kernel)
theorem w_ad0f8c7c : Cond.methodLink RX6 144 yX4_take ∈ gwW := gw_mem (by decide +kernel) (by decide +kernel)
theorem w_005c6265 : Cond.code yX4_take cX4_take 2 none ∈ gwW := gw_mem (by decide +kernel) (by decide +kernel)
theorem w_0caad721 : Cond.instanceMethod yX4_take ∈ gwW := gw_mem (by decide +kernel) (by decide +kernel)
theorem w_9eaa4874 : Cond.selects RX4 yX4_take yX4_take ∈ gwW := gw_mem (by decide +kernel) (by decide +kernel)
theorem w_9fa06c02 : Cond.methodLink RX6 147 yX6_putLeaf ∈ gwW := gw_mem (by decide +kernel) (by decide +kernel)
theorem w_02b90b82 : Cond.code yX6_putLeaf cX6_putLeaf 3 (some .int) ∈ gwW := gw_mem (by decide +kernel) (by decide +kernel)
theorem w_9c3c8ed7 : Cond.instanceMethod yX6_putLeaf ∈ gwW := gw_mem (by decide +kernel) (by decide +kernel)
theorem w_17da279c : Cond.selects RX6 yX6_putLeaf yX6_putLeaf ∈ gwW := gw_mem (by decide +kernel) (by decide +kernel)
theorem w_be1a65f2 : Cond.methodLink RX6 151 yX6_changeLeaf ∈ gwW := gw_mem (by decide +kernel) (by decide +kernel)
theorem w_3931b0d4 : Cond.code yX6_changeLeaf cX6_changeLeaf 3 (some .int) ∈ gwW := gw_mem (by decide +kernel) (by decide +kernel)
theorem w_e7624642 : Cond.instanceMethod yX6_changeLeaf ∈ gwW := gw_mem (by decide +kernel) (by decide +kernel)
theorem w_f9604c87 : Cond.selects RX6 yX6_changeLeaf yX6_changeLeaf ∈ gwW := gw_mem (by decide +kernel) (by decide +kernel)
theorem w_0c84cd35 : Cond.methodLink RX6 154 yX6_putTwice ∈ gwW := gw_mem (by decide +kernel) (by decide +kernel)
theorem w_f33bdb01 : Cond.code yX6_putTwice cX6_putTwice 4 (some .int) ∈ gwW := gw_mem (by decide +kernel) (by decide +kernel)
theorem w_bdfe83f6 : Cond.static yX6_putTwice ∈ gwW := gw_mem (by decide +kernel) (by decide +kernel)
theorem w_8e01b512 : Cond.methodLink RX6 158 yX6_putSwapped ∈ gwW := gw_mem (by decide +kernel) (by decide +kernel)
theorem w_e53ca726 : Cond.code yX6_putSwapped cX6_putSwapped 7 (some .int) ∈ gwW := gw_mem (by decide +kernel) (by decide +kernel)
theorem w_9b4eed00 : Cond.static yX6_putSwapped ∈ gwW := gw_mem (by decide +kernel) (by decide +kernel)
theorem w_43ca34e5 : Cond.methodLink RX6 165 yX6_jumpIfZero ∈ gwW := gw_mem (by decide +kernel) (by decide +kernel)
theorem w_e2619c40 : Cond.code yX6_jumpIfZero cX6_jumpIfZero 2 (some .int) ∈ gwW := gw_mem (by decide +kernel) (by decide +kernel)
theorem w_e97167b8 : Cond.static yX6_jumpIfZero ∈ gwW := gw_mem (by decide +kernel) (by decide +kernel)
theorem w_24f300af : Cond.methodLink RX6 172 yX5_putNew ∈ gwW := gw_mem (by decide +kernel) (by decide +kernel)
theorem w_c738b028 : Cond.code yX5_putNew cX5_putNew 6 (some .int) ∈ gwW := gw_mem (by decide +kernel) (by decide +kernel)
theorem w_a60ccbfb : Cond.instanceMethod yX5_putNew ∈ gwW := gw_mem (by decide +kernel) (by decide +kernel)
theorem w_98905c69 : Cond.selects RX5 yX5_putNew yX5_putNew ∈ gwW := gw_mem (by decide +kernel) (by decide +kernel)
theorem w_dd8cd33b : Cond.methodLink RX6 177 yX5_putElement ∈ gwW := gw_mem (by decide +kernel) (by decide +kernel)
theorem w_4d7e5faf : Cond.code yX5_putElement cX5_putElement 7 (some .int) ∈ gwW := gw_mem (by decide +kernel) (by decide +kernel)
theorem w_6b278a84 : Cond.instanceMethod yX5_putElement ∈ gwW := gw_mem (by decide +kernel) (by decide +kernel)
theorem w_2e944d78 : Cond.selects RX5 yX5_putElement yX5_putElement ∈ gwW := gw_mem (by decide +kernel) (by decide +kernel)
theorem w_810b722e : Cond.methodLink RX6 180 yX5_changeElement ∈ gwW := gw_mem (by decide +kernel) (by decide +kernel)
theorem w_c81fd045 : Cond.code yX5_changeElement cX5_changeElement 9 (some .int) ∈ gwW := gw_mem (by decide +kernel) (by decide +kernel)
theorem w_7fed198a : Cond.instanceMethod yX5_changeElement ∈ gwW := gw_mem (by decide +kernel) (by decide +kernel)
theorem w_e57cdd68 : Cond.selects RX5 yX5_changeElement yX5_changeElement ∈ gwW := gw_mem (by decide +kernel) (by decide +kernel)
theorem w_c261932e : Cond.methodLink RX6 183 yX5_putLength ∈ gwW := gw_mem (by decide +kernel) (by decide +kernel)
theorem w_4a66d9a4 : Cond.code yX5_putLength cX5_putLength 1 (some .int) ∈ gwW := gw_mem (by decide +kernel) (by decide +kernel)
theorem w_edbe232a : Cond.instanceMethod yX5_putLength ∈ gwW := gw_mem (by decide +kernel) (by decide +kernel)
theorem w_43a81a0f : Cond.selects RX5 yX5_putLength yX5_putLength ∈ gwW := gw_mem (by decide +kernel) (by decide +kernel)
theorem w_1687bed3 : Cond.methodLink RX6 191 yX5_copyElements ∈ gwW := gw_mem (by decide +kernel) (by decide +kernel)
theorem w_b269f87b : Cond.code yX5_copyElements cX5_copyElements 11 (some .int) ∈ gwW := gw_mem (by decide +kernel) (by decide +kernel)
theorem w_2ca43a6e : Cond.instanceMethod yX5_copyElements ∈ gwW := gw_mem (by decide +kernel) (by decide +kernel)
theorem w_e855bd6f : Cond.selects RX5 yX5_copyElements yX5_copyElements ∈ gwW := gw_mem (by decide +kernel) (by decide +kernel)
theorem w_8c4e9d1d : Cond.methodLink RX6 194 yX2_addHandler ∈ gwW := gw_mem (by decide +kernel) (by decide +kernel)
theorem w_3a4480d8 : Cond.code yX2_addHandler cX2_addHandler 2 (some .int) ∈ gwW := gw_mem (by decide +kernel) (by decide +kernel)
theorem w_ca9fc9a0 : Cond.instanceMethod yX2_addHandler ∈ gwW := gw_mem (by decide +kernel) (by decide +kernel)
theorem w_36f2d12d : Cond.selects RX2 yX2_addHandler yX2_addHandler ∈ gwW := gw_mem (by decide +kernel) (by decide +kernel)
theorem w_b14f5273 : Cond.methodLink RX6 197 yX2_dropHandler ∈ gwW := gw_mem (by decide +kernel) (by decide +kernel)
theorem w_3cc04f3d : Cond.code yX2_dropHandler cX2_dropHandler 1 (some .int) ∈ gwW := gw_mem (by decide +kernel) (by decide +kernel)
theorem w_dbb05d45 : Cond.instanceMethod yX2_dropHandler ∈ gwW := gw_mem (by decide +kernel) (by decide +kernel)
theorem w_6187071a : Cond.selects RX2 yX2_dropHandler yX2_dropHandler ∈ gwW := gw_mem (by decide +kernel) (by decide +kernel)
theorem w_1579db53 : Cond.methodLink RX6 200 yX6_giveBack ∈ gwW := gw_mem (by decide +kernel) (by decide +kernel)
theorem w_bffa048c : Cond.code yX6_giveBack cX6_giveBack 2 (some .int) ∈ gwW := gw_mem (by decide +kernel) (by decide +kernel)
theorem w_72c4a5a0 : Cond.instanceMethod yX6_giveBack ∈ gwW := gw_mem (by decide +kernel) (by decide +kernel)
theorem w_509e588c : Cond.selects RX6 yX6_giveBack yX6_giveBack ∈ gwW := gw_mem (by decide +kernel) (by decide +kernel)
theorem w_5b211d43 : Cond.methodLink RX6 203 yX6_tellEvent ∈ gwW := gw_mem (by decide +kernel) (by decide +kernel)
theorem w_03222456 : Cond.code yX6_tellEvent cX6_tellEvent 2 (some .int) ∈ gwW := gw_mem (by decide +kernel) (by decide +kernel)
theorem w_4b8ecf71 : Cond.instanceMethod yX6_tellEvent ∈ gwW := gw_mem (by decide +kernel) (by decide +kernel)
theorem w_ac717402 : Cond.selects RX6 yX6_tellEvent yX6_tellEvent ∈ gwW := gw_mem (by decide +kernel) (by decide +kernel)
theorem w_59a569a3 : Cond.methodLink RX6 207 yX6_callOther ∈ gwW := gw_mem (by decide +kernel) (by decide +kernel)
theorem w_6b25aad2 : Cond.code yX6_callOther cX6_callOther 13 (some .int) ∈ gwW := gw_mem (by decide +kernel) (by decide +kernel)
theorem w_baf9a321 : Cond.instanceMethod yX6_callOther ∈ gwW := gw_mem (by decide +kernel) (by decide +kernel)
theorem w_6651d5c2 : Cond.selects RX6 yX6_callOther yX6_callOther ∈ gwW := gw_mem (by decide +kernel) (by decide +kernel)
theorem w_27e24a95 : Cond.methodLink RX6 220 yX6_calculate ∈ gwW := gw_mem (by decide +kernel) (by decide +kernel)
theorem w_7a0196f1 : Cond.code yX6_calculate cX6_calculate 6 (some .int) ∈ gwW := gw_mem (by decide +kernel) (by decide +kernel)
theorem w_035a230a : Cond.static yX6_calculate ∈ gwW := gw_mem (by decide +kernel) (by decide +kernel)
theorem w_90f648af : Cond.fieldLink RX6 217 "CallWalker$Frame" "caller" "I" ∈ gwW := gw_mem (by decide +kernel) (by decide +kernel)
theorem w_c68c6a57 : Cond.methodLink RX6 91 yX2_isAtEnd ∈ gwW := gw_mem (by decide +kernel) (by decide +kernel)
theorem w_464469b2 : Cond.code yX2_isAtEnd cX2_isAtEnd 1 (some .boolean) ∈ gwW := gw_mem (by decide +kernel) (by decide +kernel)
theorem w_52c9f7df : Cond.instanceMethod yX2_isAtEnd ∈ gwW := gw_mem (by decide +kernel) (by decide +kernel)
theorem w_a8a488a5 : Cond.selects RX2 yX2_isAtEnd yX2_isAtEnd ∈ gwW := gw_mem (by decide +kernel) (by decide +kernel)
theorem w_1f0e3b8d : Cond.methodLink RX6 120 yX6_perform ∈ gwW := gw_mem (by decide +kernel) (by decide +kernel)
theorem w_2b51fd84 : Cond.code yX6_perform cX6_perform 5 (some .int) ∈ gwW := gw_mem (by decide +kernel) (by decide +kernel)
theorem w_2e16982e : Cond.instanceMethod yX6_perform ∈ gwW := gw_mem (by decide +kernel) (by decide +kernel)
theorem w_a502de03 : Cond.selects RX6 yX6_perform yX6_perform ∈ gwW := gw_mem (by decide +kernel) (by decide +kernel)
theorem w_3dcd3af6 : Cond.methodLink RX6 102 yX6_fail ∈ gwW := gw_mem (by decide +kernel) (by decide +kernel)
theorem w_097b7644 : Cond.code yX6_fail cX6_fail 3 none ∈ gwW := gw_mem (by decide +kernel) (by decide +kernel)
theorem w_436503bb : Cond.instanceMethod yX6_fail ∈ gwW := gw_mem (by decide +kernel) (by decide +kernel)
theorem w_f99d3967 : Cond.selects RX6 yX6_fail yX6_fail ∈ gwW := gw_mem (by decide +kernel) (by decide +kernel)
theorem w_ac4d0234 : Cond.fieldLink RX6 105 "CallWalker$Frame" "next" "I" ∈ gwW := gw_mem (by decide +kernel) (by decide +kernel)
theorem w_2808caaf : Cond.fieldLink RX6 112 "CallWalker$Behaviour" "codes" "[I" ∈ gwW := gw_mem (by decide +kernel) (by decide +kernel)
theorem w_4ba90f3d : Cond.fieldLink RX6 117 "CallWalker$Behaviour" "numbers" "[I" ∈ gwW := gw_mem (by decide +kernel) (by decide +kernel)
theorem w_714fe44f : Cond.methodLink RX6 73 yX6_advance ∈ gwW := gw_mem (by decide +kernel) (by decide +kernel)
theorem w_5a2878fc : Cond.code yX6_advance cX6_advance 4 none ∈ gwW := gw_mem (by decide +kernel) (by decide +kernel)
theorem w_580654f0 : Cond.instanceMethod yX6_advance ∈ gwW := gw_mem (by decide +kernel) (by decide +kernel)
theorem w_94a297f8 : Cond.selects RX6 yX6_advance yX6_advance ∈ gwW := gw_mem (by decide +kernel) (by decide +kernel)
theorem w_3ff1e1a5 : Cond.fieldLink RX6 49 "CallWalker$Ledger" "eventCount" "I" ∈ gwW := gw_mem (by decide +kernel) (by decide +kernel)
theorem w_c42e965e : Cond.constant RX6 72 (1000000) ∈ gwW := gw_mem (by decide +kernel) (by decide +kernel)
theorem w_f22a5178 : Cond.methodLink RX7 32 yX7_isBehaviour ∈ gwW := gw_mem (by decide +kernel) (by decide +kernel)
theorem w_11d46912 : Cond.methodLink RX7 36 yX1_find ∈ gwW := gw_mem (by decide +kernel) (by decide +kernel)
theorem w_d483e19d : Cond.methodLink RX7 40 yX0_append ∈ gwW := gw_mem (by decide +kernel) (by decide +kernel)
theorem w_5b168648 : Cond.code yX0_append cX0_append 3 (some .boolean) ∈ gwW := gw_mem (by decide +kernel) (by decide +kernel)
theorem w_42df5868 : Cond.instanceMethod yX0_append ∈ gwW := gw_mem (by decide +kernel) (by decide +kernel)
theorem w_75107e93 : Cond.selects RX0 yX0_append yX0_append ∈ gwW := gw_mem (by decide +kernel) (by decide +kernel)
theorem w_7a3df1ba : Cond.fieldLink RX7 10 "CallWalker" "book" "LCallWalker$Book;" ∈ gwW := gw_mem (by decide +kernel) (by decide +kernel)
theorem w_6e1eea5f : Cond.fieldLink RX7 45 "CallWalker$Behaviour" "count" "I" ∈ gwW := gw_mem (by decide +kernel) (by decide +kernel)
theorem w_8ba0034c : Cond.fieldLink RX7 53 "CallWalker$Book" "guarded" "[Z" ∈ gwW := gw_mem (by decide +kernel) (by decide +kernel)
theorem w_3dcf37e4 : Cond.fieldLink RX7 19 "CallWalker" "ledger" "LCallWalker$Ledger;" ∈ gwW := gw_mem (by decide +kernel) (by decide +kernel)
theorem w_25b74935 : Cond.fieldLink RX7 57 "CallWalker$Ledger" "balances" "[J" ∈ gwW := gw_mem (by decide +kernel) (by decide +kernel)
theorem w_67a65630 : Cond.methodLink RX7 61 yX6_go ∈ gwW := gw_mem (by decide +kernel) (by decide +kernel)
theorem w_f5f12c32 : Cond.code yX6_go cX6_go 8 (some .int) ∈ gwW := gw_mem (by decide +kernel) (by decide +kernel)
theorem w_ec92cf84 : Cond.instanceMethod yX6_go ∈ gwW := gw_mem (by decide +kernel) (by decide +kernel)
theorem w_3b85379b : Cond.selects RX6 yX6_go yX6_go ∈ gwW := gw_mem (by decide +kernel) (by decide +kernel)
theorem w_65f0a2e2 : Cond.fieldLink RX7 28 "CallWalker" "walk" "LCallWalker$Walk;" ∈ gwW := gw_mem (by decide +kernel) (by decide +kernel)
theorem w_75276dbb : Cond.fieldLink RX7 65 "CallWalker$Walk" "result" "J" ∈ gwW := gw_mem (by decide +kernel) (by decide +kernel)
theorem w_c113431e : Cond.fieldLink RX7 69 "CallWalker$Walk" "counts" "[I" ∈ gwW := gw_mem (by decide +kernel) (by decide +kernel)
theorem w_8d25cbe0 : Cond.methodLink RX7 73 yX7_isLeaf ∈ gwW := gw_mem (by decide +kernel) (by decide +kernel)
theorem w_bd66277f : Cond.fieldLink RX7 76 "CallWalker$Ledger" "leaves" "[J" ∈ gwW := gw_mem (by decide +kernel) (by decide +kernel)
theorem w_b67da81a : Cond.fieldLink RX7 79 "CallWalker$Ledger" "eventCount" "I" ∈ gwW := gw_mem (by decide +kernel) (by decide +kernel)
theorem w_3c59aded : Cond.methodLink RX7 82 yX3_hasEvent ∈ gwW := gw_mem (by decide +kernel) (by decide +kernel)
theorem w_e4366073 : Cond.code yX3_hasEvent cX3_hasEvent 2 (some .boolean) ∈ gwW := gw_mem (by decide +kernel) (by decide +kernel)
theorem w_21ef8127 : Cond.instanceMethod yX3_hasEvent ∈ gwW := gw_mem (by decide +kernel) (by decide +kernel)
theorem w_03a0fe8a : Cond.selects RX3 yX3_hasEvent yX3_hasEvent ∈ gwW := gw_mem (by decide +kernel) (by decide +kernel)
theorem w_e8d19600 : Cond.fieldLink RX7 85 "CallWalker$Ledger" "eventContracts" "[I" ∈ gwW := gw_mem (by decide +kernel) (by decide +kernel)
end
section
-- the class's state: ints, longs, references, by kind of place, instance, place
def CwS : Type := (Nat → Nat → Nat → Int32) × (Nat → Nat → Nat → Int64) × (Nat → Nat → Nat)
def gI (st : CwS) (c i p : Nat) : Int32 := st.1 c i p
def gL (st : CwS) (c i p : Nat) : Int64 := st.2.1 c i p
def gR (st : CwS) (c i : Nat) : Nat := st.2.2 c i
def sI (st : CwS) (c i p : Nat) (v : Int32) : CwS := (fun c' i' p' => if c' = c then (if i' = i then (if p' = p then v else st.1 c' i' p') else st.1 c' i' p') else st.1 c' i' p', st.2.1, st.2.2)
def sL (st : CwS) (c i p : Nat) (v : Int64) : CwS := (st.1, fun c' i' p' => if c' = c then (if i' = i then (if p' = p then v else st.2.1 c' i' p') else st.2.1 c' i' p') else st.2.1 c' i' p', st.2.2)
def sR (st : CwS) (c i : Nat) (v : Nat) : CwS := (st.1, st.2.1, fun c' i' => if c' = c then (if i' = i then v else st.2.2 c' i') else st.2.2 c' i')
/-- n longs from place p of (c, i) to place p2 of (c2, i2) -/
def cL (st : CwS) (c i p c2 i2 p2 n : Nat) : CwS := (st.1, fun c' i' p' => if c' = c2 then (if i' = i2 then va_cpy (gL st c i) (gL st c2 i2) p p2 n p' else st.2.1 c' i' p') else st.2.1 c' i' p', st.2.2)
theorem gI_sI (st : CwS) (c i p : Nat) (v : Int32) (c' i' p' : Nat) : gI (sI st c i p v) c' i' p' = if c' = c ∧ i' = i ∧ p' = p then v else gI st c' i' p' := by
  by_cases h1 : c' = c <;> by_cases h2 : i' = i <;> by_cases h3 : p' = p <;> simp [gI, sI, h1, h2, h3]
theorem gL_sL (st : CwS) (c i p : Nat) (v : Int64) (c' i' p' : Nat) : gL (sL st c i p v) c' i' p' = if c' = c ∧ i' = i ∧ p' = p then v else gL st c' i' p' := by
  by_cases h1 : c' = c <;> by_cases h2 : i' = i <;> by_cases h3 : p' = p <;> simp [gL, sL, h1, h2, h3]
theorem gR_sR (st : CwS) (c i v : Nat) (c' i' : Nat) : gR (sR st c i v) c' i' = if c' = c ∧ i' = i then v else gR st c' i' := by
  by_cases h1 : c' = c <;> by_cases h2 : i' = i <;> simp [gR, sR, h1, h2]
theorem gL_cL (st : CwS) (c i p c2 i2 p2 n : Nat) (c' i' p' : Nat) : gL (cL st c i p c2 i2 p2 n) c' i' p' = if c' = c2 ∧ i' = i2 ∧ p2 ≤ p' ∧ p' < p2 + n then gL st c i (p + (p' - p2)) else gL st c' i' p' := by
  by_cases h1 : c' = c2 <;> by_cases h2 : i' = i2 <;> by_cases h3 : p2 ≤ p' ∧ p' < p2 + n <;> simp [gL, cL, va_cpy, h1, h2, h3]
theorem gI_sL (st : CwS) (c i p : Nat) (v : Int64) (c' i' p' : Nat) : gI (sL st c i p v) c' i' p' = gI st c' i' p' := rfl
theorem gI_sR (st : CwS) (c i v : Nat) (c' i' p' : Nat) : gI (sR st c i v) c' i' p' = gI st c' i' p' := rfl
theorem gI_cL (st : CwS) (c i p c2 i2 p2 n : Nat) (c' i' p' : Nat) : gI (cL st c i p c2 i2 p2 n) c' i' p' = gI st c' i' p' := rfl
theorem gL_sI (st : CwS) (c i p : Nat) (v : Int32) (c' i' p' : Nat) : gL (sI st c i p v) c' i' p' = gL st c' i' p' := rfl
theorem gL_sR (st : CwS) (c i v : Nat) (c' i' p' : Nat) : gL (sR st c i v) c' i' p' = gL st c' i' p' := rfl
theorem gR_sI (st : CwS) (c i p : Nat) (v : Int32) (c' i' : Nat) : gR (sI st c i p v) c' i' = gR st c' i' := rfl
theorem gR_sL (st : CwS) (c i p : Nat) (v : Int64) (c' i' : Nat) : gR (sL st c i p v) c' i' = gR st c' i' := rfl
theorem gR_cL (st : CwS) (c i p c2 i2 p2 n : Nat) (c' i' : Nat) : gR (cL st c i p c2 i2 p2 n) c' i' = gR st c' i' := rfl
-- answers that may fail
def ck {α : Type} (b : Bool) (x : Option α) : Option α := match b with
  | true => x
  | false => none
theorem ck_some {α : Type} {b : Bool} {x : Option α} {z : α} (h : ck b x = some z) : b = true ∧ x = some z := by
  cases b with
  | true => exact ⟨rfl, h⟩
  | false => cases h
def bR {α β S : Type} (x : Option (α × S)) (f : α → S → Option β) : Option β := match x with
  | none => none
  | some q => f q.1 q.2
def bV {β S : Type} (x : Option S) (f : S → Option β) : Option β := match x with
  | none => none
  | some q => f q
theorem bR_some {α β S : Type} {x : Option (α × S)} {f : α → S → Option β} {z : β} (h : bR x f = some z) : ∃ r t, x = some (r, t) ∧ f r t = some z := by
  cases x with
  | none => cases h
  | some q => exact ⟨q.1, q.2, rfl, h⟩
theorem bV_some {β S : Type} {x : Option S} {f : S → Option β} {z : β} (h : bV x f = some z) : ∃ t, x = some t ∧ f t = some z := by
  cases x with
  | none => cases h
  | some q => exact ⟨q, rfl, h⟩
theorem ite_t {α : Type} {c : Prop} [Decidable c] {a b x : α} (hc : c) (h : (if c then a else b) = x) : a = x := by rw [if_pos hc] at h; exact h
theorem ite_f {α : Type} {c : Prop} [Decidable c] {a b x : α} (hc : ¬ c) (h : (if c then a else b) = x) : b = x := by rw [if_neg hc] at h; exact h
theorem ret2 {α β : Type} {a c : α} {b d : β} (h : some (a, b) = some (c, d)) : a = c ∧ b = d := by cases h; exact ⟨rfl, rfl⟩
def ix (i : Int32) (n : Nat) : Bool := decide (0 ≤ i.toInt ∧ i.toInt < n)
theorem ix_in {i : Int32} {n : Nat} (h : ix i n = true) : vp_in i n := by
  have h := of_decide_eq_true h
  rintro (q | q)
  · have q1 := Int32.lt_iff_toInt_lt.mp q
    have q2 : (0 : Int32).toInt = 0 := rfl
    omega
  · have q3 : i.toNatClampNeg = i.toInt.toNat := rfl
    omega
theorem ix_lt {i : Int32} {n : Nat} (h : ix i n = true) : i.toNatClampNeg < n := by
  have h := of_decide_eq_true h
  have q3 : i.toNatClampNeg = i.toInt.toNat := rfl
  omega
theorem ck_lt {a b : Nat} (h : decide (a < b) = true) : a < b := of_decide_eq_true h
theorem ck_ne {P : Prop} [Decidable P] (h : (!(decide P)) = true) : ¬ P := by
  intro q
  rw [decide_eq_true q] at h
  cases h
-- a world as a function of the cell's number
def wd (ad : Nat → Nat) (N : Nat) (g : Nat → va_E) : va_W := (List.range N).map (fun k => (ad k, g k))
theorem wd_get {ad : Nat → Nat} {N : Nat} {g : Nat → va_E} {k : Nat} {e : va_E} (hk : k < N) (he : g k = e) : (wd ad N g)[k]? = some (ad k, e) := by
  subst he
  simp [wd, List.getElem?_range hk]
theorem wd_at {ad : Nat → Nat} {N : Nat} {g : Nat → va_E} {k : Nat} {q : Nat × va_E} (h : (wd ad N g)[k]? = some q) : k < N ∧ q = (ad k, g k) := by
  have hl := (List.getElem?_eq_some_iff.mp h).1
  have hk : k < N := by simpa [wd] using hl
  rw [wd_get hk rfl] at h
  exact ⟨hk, (Option.some.inj h).symm⟩
theorem wd_set {ad : Nat → Nat} {N : Nat} {g g2 : Nat → va_E} {k : Nat} (hk : k < N) (h : ∀ j, j < N → j ≠ k → g2 j = g j) : (wd ad N g).set k (ad k, g2 k) = wd ad N g2 := by
  apply List.ext_getElem?
  intro j
  by_cases hj : j = k
  · subst hj
    rw [List.getElem?_set_self (by simp [wd]; exact hk), wd_get hk rfl]
  · rw [List.getElem?_set_ne (Ne.symm hj)]
    by_cases hN : j < N
    · rw [wd_get hN rfl, wd_get hN rfl, h j hN hj]
    · rw [List.getElem?_eq_none (by simp [wd]; omega), List.getElem?_eq_none (by simp [wd]; omega)]
def wd_D (A : Nat → Prop) (ad : Nat → Nat) (N : Nat) : Prop := (∀ i j, i < N → j < N → ad i = ad j → i = j) ∧ ∀ k, k < N → A (ad k)
theorem wd_D.D {A : Nat → Prop} {ad : Nat → Nat} {N : Nat} (h : wd_D A ad N) (g : Nat → va_E) : va_D A (wd ad N g) := by
  refine ⟨fun i j p q hi hj hpq => ?_, fun k q hk => ?_⟩
  · obtain ⟨h1, e1⟩ := wd_at hi
    obtain ⟨h2, e2⟩ := wd_at hj
    subst e1; subst e2
    exact h.1 i j h1 h2 hpq
  · obtain ⟨h1, e1⟩ := wd_at hk
    subst e1
    exact h.2 k h1
theorem va_D.wd {A : Nat → Prop} {ad : Nat → Nat} {N : Nat} {g : Nat → va_E} (h : va_D A (wd ad N g)) : wd_D A ad N := ⟨fun i j hi hj e => h.1 i j _ _ (wd_get hi rfl) (wd_get hj rfl) e, fun k hk => h.2 k _ (wd_get hk rfl)⟩
def cw_kd (k : Nat) : Nat := if k < 4 then 0 + (k - 0) % 4 else if k < 148 then 4 + (k - 4) % 3 else if k < 154 then 7 + (k - 148) % 6 else if k < 164 then 13 + (k - 154) % 1 else if k < 165 then 14 + (k - 164) % 1 else if k < 175 then 15 + (k - 165) % 1 else if k < 179 then 16 + (k - 175) % 4 else 20 + (k - 179) % 9
def cw_kx (k : Nat) : Nat := if k < 4 then (k - 0) / 4 else if k < 148 then (k - 4) / 3 else if k < 154 then (k - 148) / 6 else if k < 164 then (k - 154) / 1 else if k < 165 then (k - 164) / 1 else if k < 175 then (k - 165) / 1 else if k < 179 then (k - 175) / 4 else (k - 179) / 9
def cw_of (n i : Nat) : Nat := if n < 4 then 0 + (n - 0) + 4 * i else if n < 7 then 4 + (n - 4) + 3 * i else if n < 13 then 148 + (n - 7) + 6 * i else if n < 14 then 154 + (n - 13) + 1 * i else if n < 15 then 164 + (n - 14) + 1 * i else if n < 16 then 165 + (n - 15) + 1 * i else if n < 20 then 175 + (n - 16) + 4 * i else 179 + (n - 20) + 9 * i
theorem cw_of_kd {k : Nat} (h : k < 269) : cw_of (cw_kd k) (cw_kx k) = k := by
  by_cases q0 : k < 4
  · have _u := q0
    have e1 : cw_kd k = 0 + (k - 0) % 4 := by unfold cw_kd; rw [if_pos q0]
    have e2 : cw_kx k = (k - 0) / 4 := by unfold cw_kx; rw [if_pos q0]
    have e3 : (k - 0) % 4 < 4 := Nat.mod_lt _ (by decide)
    unfold cw_of
    rw [e1, e2, if_pos (by omega)]
    omega
  by_cases q1 : k < 148
  · have _u := q1
    have e1 : cw_kd k = 4 + (k - 4) % 3 := by unfold cw_kd; rw [if_neg q0, if_pos q1]
    have e2 : cw_kx k = (k - 4) / 3 := by unfold cw_kx; rw [if_neg q0, if_pos q1]
    have e3 : (k - 4) % 3 < 3 := Nat.mod_lt _ (by decide)
    unfold cw_of
    rw [e1, e2, if_neg (by omega), if_pos (by omega)]
    omega
  by_cases q2 : k < 154
  · have _u := q2
    have e1 : cw_kd k = 7 + (k - 148) % 6 := by unfold cw_kd; rw [if_neg q0, if_neg q1, if_pos q2]
    have e2 : cw_kx k = (k - 148) / 6 := by unfold cw_kx; rw [if_neg q0, if_neg q1, if_pos q2]
    have e3 : (k - 148) % 6 < 6 := Nat.mod_lt _ (by decide)
    unfold cw_of
    rw [e1, e2, if_neg (by omega), if_neg (by omega), if_pos (by omega)]
    omega
  by_cases q3 : k < 164
  · have _u := q3
    have e1 : cw_kd k = 13 + (k - 154) % 1 := by unfold cw_kd; rw [if_neg q0, if_neg q1, if_neg q2, if_pos q3]
    have e2 : cw_kx k = (k - 154) / 1 := by unfold cw_kx; rw [if_neg q0, if_neg q1, if_neg q2, if_pos q3]
    have e3 : (k - 154) % 1 < 1 := Nat.mod_lt _ (by decide)
    unfold cw_of
    rw [e1, e2, if_neg (by omega), if_neg (by omega), if_neg (by omega), if_pos (by omega)]
    omega
  by_cases q4 : k < 165
  · have _u := q4
    have e1 : cw_kd k = 14 + (k - 164) % 1 := by unfold cw_kd; rw [if_neg q0, if_neg q1, if_neg q2, if_neg q3, if_pos q4]
    have e2 : cw_kx k = (k - 164) / 1 := by unfold cw_kx; rw [if_neg q0, if_neg q1, if_neg q2, if_neg q3, if_pos q4]
    have e3 : (k - 164) % 1 < 1 := Nat.mod_lt _ (by decide)
    unfold cw_of
    rw [e1, e2, if_neg (by omega), if_neg (by omega), if_neg (by omega), if_neg (by omega), if_pos (by omega)]
    omega
  by_cases q5 : k < 175
  · have _u := q5
    have e1 : cw_kd k = 15 + (k - 165) % 1 := by unfold cw_kd; rw [if_neg q0, if_neg q1, if_neg q2, if_neg q3, if_neg q4, if_pos q5]
    have e2 : cw_kx k = (k - 165) / 1 := by unfold cw_kx; rw [if_neg q0, if_neg q1, if_neg q2, if_neg q3, if_neg q4, if_pos q5]
    have e3 : (k - 165) % 1 < 1 := Nat.mod_lt _ (by decide)
    unfold cw_of
    rw [e1, e2, if_neg (by omega), if_neg (by omega), if_neg (by omega), if_neg (by omega), if_neg (by omega), if_pos (by omega)]
    omega
  by_cases q6 : k < 179
  · have _u := q6
    have e1 : cw_kd k = 16 + (k - 175) % 4 := by unfold cw_kd; rw [if_neg q0, if_neg q1, if_neg q2, if_neg q3, if_neg q4, if_neg q5, if_pos q6]
    have e2 : cw_kx k = (k - 175) / 4 := by unfold cw_kx; rw [if_neg q0, if_neg q1, if_neg q2, if_neg q3, if_neg q4, if_neg q5, if_pos q6]
    have e3 : (k - 175) % 4 < 4 := Nat.mod_lt _ (by decide)
    unfold cw_of
    rw [e1, e2, if_neg (by omega), if_neg (by omega), if_neg (by omega), if_neg (by omega), if_neg (by omega), if_neg (by omega), if_pos (by omega)]
    omega
  have e1 : cw_kd k = 20 + (k - 179) % 9 := by unfold cw_kd; rw [if_neg q0, if_neg q1, if_neg q2, if_neg q3, if_neg q4, if_neg q5, if_neg q6]
  have e2 : cw_kx k = (k - 179) / 9 := by unfold cw_kx; rw [if_neg q0, if_neg q1, if_neg q2, if_neg q3, if_neg q4, if_neg q5, if_neg q6]
  have e3 : (k - 179) % 9 < 9 := Nat.mod_lt _ (by decide)
  unfold cw_of
  rw [e1, e2, if_neg (by omega), if_neg (by omega), if_neg (by omega), if_neg (by omega), if_neg (by omega), if_neg (by omega), if_neg (by omega)]
  omega
theorem kd_CW : cw_kd (0) = 0 ∧ cw_kx (0) = 0 := by
  exact ⟨rfl, rfl⟩
theorem kd_Book : cw_kd (1) = 1 ∧ cw_kx (1) = 0 := by
  exact ⟨rfl, rfl⟩
theorem kd_BehArr : cw_kd (2) = 2 ∧ cw_kx (2) = 0 := by
  exact ⟨rfl, rfl⟩
theorem kd_Guard : cw_kd (3) = 3 ∧ cw_kx (3) = 0 := by
  exact ⟨rfl, rfl⟩
theorem kd_Beh {i : Nat} (hi : i < 48) : cw_kd (4 + 3 * i) = 4 ∧ cw_kx (4 + 3 * i) = i := by
  refine ⟨?_, ?_⟩
  · unfold cw_kd
    rw [if_neg (by omega), if_pos (by omega)]
    omega
  · unfold cw_kx
    rw [if_neg (by omega), if_pos (by omega)]
    omega
theorem kd_Codes {i : Nat} (hi : i < 48) : cw_kd (5 + 3 * i) = 5 ∧ cw_kx (5 + 3 * i) = i := by
  refine ⟨?_, ?_⟩
  · unfold cw_kd
    rw [if_neg (by omega), if_pos (by omega)]
    omega
  · unfold cw_kx
    rw [if_neg (by omega), if_pos (by omega)]
    omega
theorem kd_Nums {i : Nat} (hi : i < 48) : cw_kd (6 + 3 * i) = 6 ∧ cw_kx (6 + 3 * i) = i := by
  refine ⟨?_, ?_⟩
  · unfold cw_kd
    rw [if_neg (by omega), if_pos (by omega)]
    omega
  · unfold cw_kx
    rw [if_neg (by omega), if_pos (by omega)]
    omega
theorem kd_Ledger : cw_kd (148) = 7 ∧ cw_kx (148) = 0 := by
  exact ⟨rfl, rfl⟩
theorem kd_Leaves : cw_kd (149) = 8 ∧ cw_kx (149) = 0 := by
  exact ⟨rfl, rfl⟩
theorem kd_Bals : cw_kd (150) = 9 ∧ cw_kx (150) = 0 := by
  exact ⟨rfl, rfl⟩
theorem kd_EvC : cw_kd (151) = 10 ∧ cw_kx (151) = 0 := by
  exact ⟨rfl, rfl⟩
theorem kd_EvN : cw_kd (152) = 11 ∧ cw_kx (152) = 0 := by
  exact ⟨rfl, rfl⟩
theorem kd_KLo : cw_kd (153) = 12 ∧ cw_kx (153) = 0 := by
  exact ⟨rfl, rfl⟩
theorem kd_KL {i : Nat} (hi : i < 10) : cw_kd (154 + 1 * i) = 13 ∧ cw_kx (154 + 1 * i) = i := by
  refine ⟨?_, ?_⟩
  · unfold cw_kd
    rw [if_neg (by omega), if_neg (by omega), if_neg (by omega), if_pos (by omega)]
    omega
  · unfold cw_kx
    rw [if_neg (by omega), if_neg (by omega), if_neg (by omega), if_pos (by omega)]
    omega
theorem kd_KBo : cw_kd (164) = 14 ∧ cw_kx (164) = 0 := by
  exact ⟨rfl, rfl⟩
theorem kd_KB {i : Nat} (hi : i < 10) : cw_kd (165 + 1 * i) = 15 ∧ cw_kx (165 + 1 * i) = i := by
  refine ⟨?_, ?_⟩
  · unfold cw_kd
    rw [if_neg (by omega), if_neg (by omega), if_neg (by omega), if_neg (by omega), if_neg (by omega), if_pos (by omega)]
    omega
  · unfold cw_kx
    rw [if_neg (by omega), if_neg (by omega), if_neg (by omega), if_neg (by omega), if_neg (by omega), if_pos (by omega)]
    omega
theorem kd_KC : cw_kd (175) = 16 ∧ cw_kx (175) = 0 := by
  exact ⟨rfl, rfl⟩
theorem kd_Walk : cw_kd (176) = 17 ∧ cw_kx (176) = 0 := by
  exact ⟨rfl, rfl⟩
theorem kd_FrArr : cw_kd (177) = 18 ∧ cw_kx (177) = 0 := by
  exact ⟨rfl, rfl⟩
theorem kd_Counts : cw_kd (178) = 19 ∧ cw_kx (178) = 0 := by
  exact ⟨rfl, rfl⟩
theorem kd_Frame {i : Nat} (hi : i < 10) : cw_kd (179 + 9 * i) = 20 ∧ cw_kx (179 + 9 * i) = i := by
  refine ⟨?_, ?_⟩
  · unfold cw_kd
    rw [if_neg (by omega), if_neg (by omega), if_neg (by omega), if_neg (by omega), if_neg (by omega), if_neg (by omega), if_neg (by omega)]
    omega
  · unfold cw_kx
    rw [if_neg (by omega), if_neg (by omega), if_neg (by omega), if_neg (by omega), if_neg (by omega), if_neg (by omega), if_neg (by omega)]
    omega
theorem kd_HSteps {i : Nat} (hi : i < 10) : cw_kd (180 + 9 * i) = 21 ∧ cw_kx (180 + 9 * i) = i := by
  refine ⟨?_, ?_⟩
  · unfold cw_kd
    rw [if_neg (by omega), if_neg (by omega), if_neg (by omega), if_neg (by omega), if_neg (by omega), if_neg (by omega), if_neg (by omega)]
    omega
  · unfold cw_kx
    rw [if_neg (by omega), if_neg (by omega), if_neg (by omega), if_neg (by omega), if_neg (by omega), if_neg (by omega), if_neg (by omega)]
    omega
theorem kd_HHeights {i : Nat} (hi : i < 10) : cw_kd (181 + 9 * i) = 22 ∧ cw_kx (181 + 9 * i) = i := by
  refine ⟨?_, ?_⟩
  · unfold cw_kd
    rw [if_neg (by omega), if_neg (by omega), if_neg (by omega), if_neg (by omega), if_neg (by omega), if_neg (by omega), if_neg (by omega)]
    omega
  · unfold cw_kx
    rw [if_neg (by omega), if_neg (by omega), if_neg (by omega), if_neg (by omega), if_neg (by omega), if_neg (by omega), if_neg (by omega)]
    omega
theorem kd_Pile {i : Nat} (hi : i < 10) : cw_kd (182 + 9 * i) = 23 ∧ cw_kx (182 + 9 * i) = i := by
  refine ⟨?_, ?_⟩
  · unfold cw_kd
    rw [if_neg (by omega), if_neg (by omega), if_neg (by omega), if_neg (by omega), if_neg (by omega), if_neg (by omega), if_neg (by omega)]
    omega
  · unfold cw_kx
    rw [if_neg (by omega), if_neg (by omega), if_neg (by omega), if_neg (by omega), if_neg (by omega), if_neg (by omega), if_neg (by omega)]
    omega
theorem kd_PKinds {i : Nat} (hi : i < 10) : cw_kd (183 + 9 * i) = 24 ∧ cw_kx (183 + 9 * i) = i := by
  refine ⟨?_, ?_⟩
  · unfold cw_kd
    rw [if_neg (by omega), if_neg (by omega), if_neg (by omega), if_neg (by omega), if_neg (by omega), if_neg (by omega), if_neg (by omega)]
    omega
  · unfold cw_kx
    rw [if_neg (by omega), if_neg (by omega), if_neg (by omega), if_neg (by omega), if_neg (by omega), if_neg (by omega), if_neg (by omega)]
    omega
theorem kd_PNums {i : Nat} (hi : i < 10) : cw_kd (184 + 9 * i) = 25 ∧ cw_kx (184 + 9 * i) = i := by
  refine ⟨?_, ?_⟩
  · unfold cw_kd
    rw [if_neg (by omega), if_neg (by omega), if_neg (by omega), if_neg (by omega), if_neg (by omega), if_neg (by omega), if_neg (by omega)]
    omega
  · unfold cw_kx
    rw [if_neg (by omega), if_neg (by omega), if_neg (by omega), if_neg (by omega), if_neg (by omega), if_neg (by omega), if_neg (by omega)]
    omega
theorem kd_Rows {i : Nat} (hi : i < 10) : cw_kd (185 + 9 * i) = 26 ∧ cw_kx (185 + 9 * i) = i := by
  refine ⟨?_, ?_⟩
  · unfold cw_kd
    rw [if_neg (by omega), if_neg (by omega), if_neg (by omega), if_neg (by omega), if_neg (by omega), if_neg (by omega), if_neg (by omega)]
    omega
  · unfold cw_kx
    rw [if_neg (by omega), if_neg (by omega), if_neg (by omega), if_neg (by omega), if_neg (by omega), if_neg (by omega), if_neg (by omega)]
    omega
theorem kd_Elems {i : Nat} (hi : i < 10) : cw_kd (186 + 9 * i) = 27 ∧ cw_kx (186 + 9 * i) = i := by
  refine ⟨?_, ?_⟩
  · unfold cw_kd
    rw [if_neg (by omega), if_neg (by omega), if_neg (by omega), if_neg (by omega), if_neg (by omega), if_neg (by omega), if_neg (by omega)]
    omega
  · unfold cw_kx
    rw [if_neg (by omega), if_neg (by omega), if_neg (by omega), if_neg (by omega), if_neg (by omega), if_neg (by omega), if_neg (by omega)]
    omega
theorem kd_Lens {i : Nat} (hi : i < 10) : cw_kd (187 + 9 * i) = 28 ∧ cw_kx (187 + 9 * i) = i := by
  refine ⟨?_, ?_⟩
  · unfold cw_kd
    rw [if_neg (by omega), if_neg (by omega), if_neg (by omega), if_neg (by omega), if_neg (by omega), if_neg (by omega), if_neg (by omega)]
    omega
  · unfold cw_kx
    rw [if_neg (by omega), if_neg (by omega), if_neg (by omega), if_neg (by omega), if_neg (by omega), if_neg (by omega), if_neg (by omega)]
    omega
def cwk (ad : Nat → Nat) (cA : Nat → ClassId) (st : CwS) (n i : Nat) : va_E := match n with
  | 0 => .inr (7, [.ref (ad (1)), .ref (ad (148)), .ref (ad (176))])
  | 1 => .inr (1, [.ref (ad (2)), .ref (ad (3))])
  | 2 => .inl (cA 3, 48, .inr (.inr (.inr (.inr (fun j => some (ad (4 + 3 * j)))))))
  | 3 => .inl (cA 2, 8, .inl (gI st 3 i))
  | 4 => .inr (0, [.ref (ad (5 + 3 * i)), .ref (ad (6 + 3 * i)), .int (gI st 2 i 0)])
  | 5 => .inl (cA 0, 24, .inl (gI st 0 i))
  | 6 => .inl (cA 0, 24, .inl (gI st 1 i))
  | 7 => .inr (3, [.ref (ad (149)), .ref (ad (150)), .ref (ad (151)), .ref (ad (152)), .int (gI st 5 i 0), .ref (ad (153)), .ref (ad (164)), .ref (ad (175))])
  | 8 => .inl (cA 1, 64, .inr (.inl (gL st 0 i)))
  | 9 => .inl (cA 1, 8, .inr (.inl (gL st 1 i)))
  | 10 => .inl (cA 0, 40, .inl (gI st 4 i))
  | 11 => .inl (cA 1, 40, .inr (.inl (gL st 2 i)))
  | 12 => .inl (cA 5, 10, .inr (.inr (.inr (.inr (fun j => some (ad (154 + 1 * j)))))))
  | 13 => .inl (cA 1, 64, .inr (.inl (gL st 3 i)))
  | 14 => .inl (cA 5, 10, .inr (.inr (.inr (.inr (fun j => some (ad (165 + 1 * j)))))))
  | 15 => .inl (cA 1, 8, .inr (.inl (gL st 4 i)))
  | 16 => .inl (cA 0, 10, .inl (gI st 6 i))
  | 17 => .inr (6, [.ref (ad (1)), .ref (ad (148)), .ref (ad (177)), .ref (ad (178)), .int (gI st 8 i 0), .int (gI st 9 i 0), .long (gL st 5 i 0)])
  | 18 => .inl (cA 4, 10, .inr (.inr (.inr (.inr (fun j => some (ad (179 + 9 * j)))))))
  | 19 => .inl (cA 0, 5, .inl (gI st 7 i))
  | 20 => .inr (2, [.ref (ad (182 + 9 * i)), .ref (ad (185 + 9 * i)), .ref (ad (180 + 9 * i)), .ref (ad (181 + 9 * i)), .int (gI st 12 i 0), .ref (ad (4 + 3 * gR st 0 i)), .int (gI st 13 i 0), .int (gI st 14 i 0), .int (gI st 15 i 0), .int (gI st 16 i 0)])
  | 21 => .inl (cA 0, 4, .inl (gI st 10 i))
  | 22 => .inl (cA 0, 4, .inl (gI st 11 i))
  | 23 => .inr (4, [.ref (ad (183 + 9 * i)), .ref (ad (184 + 9 * i)), .int (gI st 18 i 0), .int (gI st 19 i 0)])
  | 24 => .inl (cA 0, 12, .inl (gI st 17 i))
  | 25 => .inl (cA 1, 12, .inr (.inl (gL st 6 i)))
  | 26 => .inr (5, [.ref (ad (182 + 9 * i)), .ref (ad (186 + 9 * i)), .ref (ad (187 + 9 * i))])
  | 27 => .inl (cA 1, 192, .inr (.inl (gL st 7 i)))
  | 28 => .inl (cA 0, 12, .inl (gI st 20 i))
  | _ => .inr (0, [])
def cwc (ad : Nat → Nat) (cA : Nat → ClassId) (st : CwS) (k : Nat) : va_E := cwk ad cA st (cw_kd k) (cw_kx k)
def ownI (c : Nat) : Nat := match c with
  | 0 => 5
  | 1 => 6
  | 2 => 4
  | 3 => 3
  | 4 => 10
  | 5 => 7
  | 6 => 16
  | 7 => 19
  | 8 => 17
  | 9 => 17
  | 10 => 21
  | 11 => 22
  | 12 => 20
  | 13 => 20
  | 14 => 20
  | 15 => 20
  | 16 => 20
  | 17 => 24
  | 18 => 23
  | 19 => 23
  | 20 => 28
  | _ => 1000
def ownL (c : Nat) : Nat := match c with
  | 0 => 8
  | 1 => 9
  | 2 => 11
  | 3 => 13
  | 4 => 15
  | 5 => 17
  | 6 => 25
  | 7 => 27
  | _ => 1000
def ownR (c : Nat) : Nat := match c with
  | 0 => 20
  | _ => 1000
theorem cwk_congr {ad : Nat → Nat} {cA : Nat → ClassId} {st st2 : CwS} (n j : Nat) (hI : ∀ c q, ownI c = n → gI st2 c j q = gI st c j q) (hL : ∀ c q, ownL c = n → gL st2 c j q = gL st c j q) (hR : ∀ c, ownR c = n → gR st2 c j = gR st c j) : cwk ad cA st2 n j = cwk ad cA st n j := by
  match n, hI, hL, hR with
  | 0, _, _, _ => exact rfl
  | 1, _, _, _ => exact rfl
  | 2, _, _, _ => exact rfl
  | 3, hI, _, _ => exact by simp only [cwk, show gI st2 3 j = gI st 3 j from funext fun q => hI 3 q rfl]
  | 4, hI, _, _ => exact by simp only [cwk, hI 2 0 rfl]
  | 5, hI, _, _ => exact by simp only [cwk, show gI st2 0 j = gI st 0 j from funext fun q => hI 0 q rfl]
  | 6, hI, _, _ => exact by simp only [cwk, show gI st2 1 j = gI st 1 j from funext fun q => hI 1 q rfl]
  | 7, hI, _, _ => exact by simp only [cwk, hI 5 0 rfl]
  | 8, _, hL, _ => exact by simp only [cwk, show gL st2 0 j = gL st 0 j from funext fun q => hL 0 q rfl]
  | 9, _, hL, _ => exact by simp only [cwk, show gL st2 1 j = gL st 1 j from funext fun q => hL 1 q rfl]
  | 10, hI, _, _ => exact by simp only [cwk, show gI st2 4 j = gI st 4 j from funext fun q => hI 4 q rfl]
  | 11, _, hL, _ => exact by simp only [cwk, show gL st2 2 j = gL st 2 j from funext fun q => hL 2 q rfl]
  | 12, _, _, _ => exact rfl
  | 13, _, hL, _ => exact by simp only [cwk, show gL st2 3 j = gL st 3 j from funext fun q => hL 3 q rfl]
  | 14, _, _, _ => exact rfl
  | 15, _, hL, _ => exact by simp only [cwk, show gL st2 4 j = gL st 4 j from funext fun q => hL 4 q rfl]
  | 16, hI, _, _ => exact by simp only [cwk, show gI st2 6 j = gI st 6 j from funext fun q => hI 6 q rfl]
  | 17, hI, hL, _ => exact by simp only [cwk, hI 8 0 rfl, hI 9 0 rfl, hL 5 0 rfl]
  | 18, _, _, _ => exact rfl
  | 19, hI, _, _ => exact by simp only [cwk, show gI st2 7 j = gI st 7 j from funext fun q => hI 7 q rfl]
  | 20, hI, _, hR => exact by simp only [cwk, hI 12 0 rfl, hR 0 rfl, hI 13 0 rfl, hI 14 0 rfl, hI 15 0 rfl, hI 16 0 rfl]
  | 21, hI, _, _ => exact by simp only [cwk, show gI st2 10 j = gI st 10 j from funext fun q => hI 10 q rfl]
  | 22, hI, _, _ => exact by simp only [cwk, show gI st2 11 j = gI st 11 j from funext fun q => hI 11 q rfl]
  | 23, hI, _, _ => exact by simp only [cwk, hI 18 0 rfl, hI 19 0 rfl]
  | 24, hI, _, _ => exact by simp only [cwk, show gI st2 17 j = gI st 17 j from funext fun q => hI 17 q rfl]
  | 25, _, hL, _ => exact by simp only [cwk, show gL st2 6 j = gL st 6 j from funext fun q => hL 6 q rfl]
  | 26, _, _, _ => exact rfl
  | 27, _, hL, _ => exact by simp only [cwk, show gL st2 7 j = gL st 7 j from funext fun q => hL 7 q rfl]
  | 28, hI, _, _ => exact by simp only [cwk, show gI st2 20 j = gI st 20 j from funext fun q => hI 20 q rfl]
  | n + 29, _, _, _ => exact rfl
theorem cwc_sI {ad : Nat → Nat} {cA : Nat → ClassId} {st : CwS} {k c i p : Nat} {v : Int32} (hk : k < 269) (hne : k ≠ cw_of (ownI c) i) : cwc ad cA (sI st c i p v) k = cwc ad cA st k := by
  refine cwk_congr _ _ (fun c' q hc => ?_) (fun _ _ _ => rfl) (fun _ _ => rfl)
  rw [gI_sI, if_neg]
  rintro ⟨rfl, e, -⟩
  exact hne (by rw [hc, ← e, cw_of_kd hk])
theorem cwc_sL {ad : Nat → Nat} {cA : Nat → ClassId} {st : CwS} {k c i p : Nat} {v : Int64} (hk : k < 269) (hne : k ≠ cw_of (ownL c) i) : cwc ad cA (sL st c i p v) k = cwc ad cA st k := by
  refine cwk_congr _ _ (fun _ _ _ => rfl) (fun c' q hc => ?_) (fun _ _ => rfl)
  rw [gL_sL, if_neg]
  rintro ⟨rfl, e, -⟩
  exact hne (by rw [hc, ← e, cw_of_kd hk])
theorem cwc_cL {ad : Nat → Nat} {cA : Nat → ClassId} {st : CwS} {k c i p c2 i2 p2 n : Nat} (hk : k < 269) (hne : k ≠ cw_of (ownL c2) i2) : cwc ad cA (cL st c i p c2 i2 p2 n) k = cwc ad cA st k := by
  refine cwk_congr _ _ (fun _ _ _ => rfl) (fun c' q hc => ?_) (fun _ _ => rfl)
  rw [gL_cL, if_neg]
  rintro ⟨rfl, e, -⟩
  exact hne (by rw [hc, ← e, cw_of_kd hk])
theorem cwc_sR {ad : Nat → Nat} {cA : Nat → ClassId} {st : CwS} {k c i v : Nat} (hk : k < 269) (hne : k ≠ cw_of (ownR c) i) : cwc ad cA (sR st c i v) k = cwc ad cA st k := by
  refine cwk_congr _ _ (fun _ _ _ => rfl) (fun _ _ _ => rfl) (fun c' hc => ?_)
  rw [gR_sR, if_neg]
  rintro ⟨rfl, e⟩
  exact hne (by rw [hc, ← e, cw_of_kd hk])
theorem cw_put {ad : Nat → Nat} {cA : Nat → ClassId} {st st2 : CwS} {k : Nat} {e : va_E} (hk : k < 269) (he : cwc ad cA st2 k = e) (hne : ∀ j, j < 269 → j ≠ k → cwc ad cA st2 j = cwc ad cA st j) : (wd ad 269 (cwc ad cA st)).set k (ad k, e) = wd ad 269 (cwc ad cA st2) := by
  subst he
  exact wd_set hk hne
theorem cw_updI {st : CwS} {c i p : Nat} {v : Int32} : gI (sI st c i p v) c i = upd (gI st c i) p v := by
  funext j
  by_cases h : j = p <;> simp [gI_sI, upd, h]
theorem cw_updL {st : CwS} {c i p : Nat} {v : Int64} : gL (sL st c i p v) c i = vp_updL (gL st c i) p v := by
  funext j
  by_cases h : j = p <;> simp [gL_sL, vp_updL, h]
theorem cw_cpyL {st : CwS} {c i p c2 i2 p2 n : Nat} : gL (cL st c i p c2 i2 p2 n) c2 i2 = va_cpy (gL st c i) (gL st c2 i2) p p2 n := by
  funext j
  simp [gL, cL]
theorem cc_CW {ad : Nat → Nat} {cA : Nat → ClassId} {st : CwS} : cwc ad cA st (0) = .inr (7, [.ref (ad (1)), .ref (ad (148)), .ref (ad (176))]) := by
  unfold cwc
  rw [(kd_CW).1, (kd_CW).2]
  rfl
theorem cc_Book {ad : Nat → Nat} {cA : Nat → ClassId} {st : CwS} : cwc ad cA st (1) = .inr (1, [.ref (ad (2)), .ref (ad (3))]) := by
  unfold cwc
  rw [(kd_Book).1, (kd_Book).2]
  rfl
theorem cc_BehArr {ad : Nat → Nat} {cA : Nat → ClassId} {st : CwS} : cwc ad cA st (2) = .inl (cA 3, 48, .inr (.inr (.inr (.inr (fun j => some (ad (4 + 3 * j))))))) := by
  unfold cwc
  rw [(kd_BehArr).1, (kd_BehArr).2]
  rfl
theorem cc_Guard {ad : Nat → Nat} {cA : Nat → ClassId} {st : CwS} : cwc ad cA st (3) = .inl (cA 2, 8, .inl (gI st 3 0)) := by
  unfold cwc
  rw [(kd_Guard).1, (kd_Guard).2]
  rfl
theorem cc_Beh {ad : Nat → Nat} {cA : Nat → ClassId} {st : CwS} {i : Nat} (hi : i < 48) : cwc ad cA st (4 + 3 * i) = .inr (0, [.ref (ad (5 + 3 * i)), .ref (ad (6 + 3 * i)), .int (gI st 2 i 0)]) := by
  unfold cwc
  rw [(kd_Beh hi).1, (kd_Beh hi).2]
  rfl
theorem cc_Codes {ad : Nat → Nat} {cA : Nat → ClassId} {st : CwS} {i : Nat} (hi : i < 48) : cwc ad cA st (5 + 3 * i) = .inl (cA 0, 24, .inl (gI st 0 i)) := by
  unfold cwc
  rw [(kd_Codes hi).1, (kd_Codes hi).2]
  rfl
theorem cc_Nums {ad : Nat → Nat} {cA : Nat → ClassId} {st : CwS} {i : Nat} (hi : i < 48) : cwc ad cA st (6 + 3 * i) = .inl (cA 0, 24, .inl (gI st 1 i)) := by
  unfold cwc
  rw [(kd_Nums hi).1, (kd_Nums hi).2]
  rfl
theorem cc_Ledger {ad : Nat → Nat} {cA : Nat → ClassId} {st : CwS} : cwc ad cA st (148) = .inr (3, [.ref (ad (149)), .ref (ad (150)), .ref (ad (151)), .ref (ad (152)), .int (gI st 5 0 0), .ref (ad (153)), .ref (ad (164)), .ref (ad (175))]) := by
  unfold cwc
  rw [(kd_Ledger).1, (kd_Ledger).2]
  rfl
theorem cc_Leaves {ad : Nat → Nat} {cA : Nat → ClassId} {st : CwS} : cwc ad cA st (149) = .inl (cA 1, 64, .inr (.inl (gL st 0 0))) := by
  unfold cwc
  rw [(kd_Leaves).1, (kd_Leaves).2]
  rfl
theorem cc_Bals {ad : Nat → Nat} {cA : Nat → ClassId} {st : CwS} : cwc ad cA st (150) = .inl (cA 1, 8, .inr (.inl (gL st 1 0))) := by
  unfold cwc
  rw [(kd_Bals).1, (kd_Bals).2]
  rfl
theorem cc_EvC {ad : Nat → Nat} {cA : Nat → ClassId} {st : CwS} : cwc ad cA st (151) = .inl (cA 0, 40, .inl (gI st 4 0)) := by
  unfold cwc
  rw [(kd_EvC).1, (kd_EvC).2]
  rfl
theorem cc_EvN {ad : Nat → Nat} {cA : Nat → ClassId} {st : CwS} : cwc ad cA st (152) = .inl (cA 1, 40, .inr (.inl (gL st 2 0))) := by
  unfold cwc
  rw [(kd_EvN).1, (kd_EvN).2]
  rfl
theorem cc_KLo {ad : Nat → Nat} {cA : Nat → ClassId} {st : CwS} : cwc ad cA st (153) = .inl (cA 5, 10, .inr (.inr (.inr (.inr (fun j => some (ad (154 + 1 * j))))))) := by
  unfold cwc
  rw [(kd_KLo).1, (kd_KLo).2]
  rfl
theorem cc_KL {ad : Nat → Nat} {cA : Nat → ClassId} {st : CwS} {i : Nat} (hi : i < 10) : cwc ad cA st (154 + 1 * i) = .inl (cA 1, 64, .inr (.inl (gL st 3 i))) := by
  unfold cwc
  rw [(kd_KL hi).1, (kd_KL hi).2]
  rfl
theorem cc_KBo {ad : Nat → Nat} {cA : Nat → ClassId} {st : CwS} : cwc ad cA st (164) = .inl (cA 5, 10, .inr (.inr (.inr (.inr (fun j => some (ad (165 + 1 * j))))))) := by
  unfold cwc
  rw [(kd_KBo).1, (kd_KBo).2]
  rfl
theorem cc_KB {ad : Nat → Nat} {cA : Nat → ClassId} {st : CwS} {i : Nat} (hi : i < 10) : cwc ad cA st (165 + 1 * i) = .inl (cA 1, 8, .inr (.inl (gL st 4 i))) := by
  unfold cwc
  rw [(kd_KB hi).1, (kd_KB hi).2]
  rfl
theorem cc_KC {ad : Nat → Nat} {cA : Nat → ClassId} {st : CwS} : cwc ad cA st (175) = .inl (cA 0, 10, .inl (gI st 6 0)) := by
  unfold cwc
  rw [(kd_KC).1, (kd_KC).2]
  rfl
theorem cc_Walk {ad : Nat → Nat} {cA : Nat → ClassId} {st : CwS} : cwc ad cA st (176) = .inr (6, [.ref (ad (1)), .ref (ad (148)), .ref (ad (177)), .ref (ad (178)), .int (gI st 8 0 0), .int (gI st 9 0 0), .long (gL st 5 0 0)]) := by
  unfold cwc
  rw [(kd_Walk).1, (kd_Walk).2]
  rfl
theorem cc_FrArr {ad : Nat → Nat} {cA : Nat → ClassId} {st : CwS} : cwc ad cA st (177) = .inl (cA 4, 10, .inr (.inr (.inr (.inr (fun j => some (ad (179 + 9 * j))))))) := by
  unfold cwc
  rw [(kd_FrArr).1, (kd_FrArr).2]
  rfl
theorem cc_Counts {ad : Nat → Nat} {cA : Nat → ClassId} {st : CwS} : cwc ad cA st (178) = .inl (cA 0, 5, .inl (gI st 7 0)) := by
  unfold cwc
  rw [(kd_Counts).1, (kd_Counts).2]
  rfl
theorem cc_Frame {ad : Nat → Nat} {cA : Nat → ClassId} {st : CwS} {i : Nat} (hi : i < 10) : cwc ad cA st (179 + 9 * i) = .inr (2, [.ref (ad (182 + 9 * i)), .ref (ad (185 + 9 * i)), .ref (ad (180 + 9 * i)), .ref (ad (181 + 9 * i)), .int (gI st 12 i 0), .ref (ad (4 + 3 * gR st 0 i)), .int (gI st 13 i 0), .int (gI st 14 i 0), .int (gI st 15 i 0), .int (gI st 16 i 0)]) := by
  unfold cwc
  rw [(kd_Frame hi).1, (kd_Frame hi).2]
  rfl
theorem cc_HSteps {ad : Nat → Nat} {cA : Nat → ClassId} {st : CwS} {i : Nat} (hi : i < 10) : cwc ad cA st (180 + 9 * i) = .inl (cA 0, 4, .inl (gI st 10 i)) := by
  unfold cwc
  rw [(kd_HSteps hi).1, (kd_HSteps hi).2]
  rfl
theorem cc_HHeights {ad : Nat → Nat} {cA : Nat → ClassId} {st : CwS} {i : Nat} (hi : i < 10) : cwc ad cA st (181 + 9 * i) = .inl (cA 0, 4, .inl (gI st 11 i)) := by
  unfold cwc
  rw [(kd_HHeights hi).1, (kd_HHeights hi).2]
  rfl
theorem cc_Pile {ad : Nat → Nat} {cA : Nat → ClassId} {st : CwS} {i : Nat} (hi : i < 10) : cwc ad cA st (182 + 9 * i) = .inr (4, [.ref (ad (183 + 9 * i)), .ref (ad (184 + 9 * i)), .int (gI st 18 i 0), .int (gI st 19 i 0)]) := by
  unfold cwc
  rw [(kd_Pile hi).1, (kd_Pile hi).2]
  rfl
theorem cc_PKinds {ad : Nat → Nat} {cA : Nat → ClassId} {st : CwS} {i : Nat} (hi : i < 10) : cwc ad cA st (183 + 9 * i) = .inl (cA 0, 12, .inl (gI st 17 i)) := by
  unfold cwc
  rw [(kd_PKinds hi).1, (kd_PKinds hi).2]
  rfl
theorem cc_PNums {ad : Nat → Nat} {cA : Nat → ClassId} {st : CwS} {i : Nat} (hi : i < 10) : cwc ad cA st (184 + 9 * i) = .inl (cA 1, 12, .inr (.inl (gL st 6 i))) := by
  unfold cwc
  rw [(kd_PNums hi).1, (kd_PNums hi).2]
  rfl
theorem cc_Rows {ad : Nat → Nat} {cA : Nat → ClassId} {st : CwS} {i : Nat} (hi : i < 10) : cwc ad cA st (185 + 9 * i) = .inr (5, [.ref (ad (182 + 9 * i)), .ref (ad (186 + 9 * i)), .ref (ad (187 + 9 * i))]) := by
  unfold cwc
  rw [(kd_Rows hi).1, (kd_Rows hi).2]
  rfl
theorem cc_Elems {ad : Nat → Nat} {cA : Nat → ClassId} {st : CwS} {i : Nat} (hi : i < 10) : cwc ad cA st (186 + 9 * i) = .inl (cA 1, 192, .inr (.inl (gL st 7 i))) := by
  unfold cwc
  rw [(kd_Elems hi).1, (kd_Elems hi).2]
  rfl
theorem cc_Lens {ad : Nat → Nat} {cA : Nat → ClassId} {st : CwS} {i : Nat} (hi : i < 10) : cwc ad cA st (187 + 9 * i) = .inl (cA 0, 12, .inl (gI st 20 i)) := by
  unfold cwc
  rw [(kd_Lens hi).1, (kd_Lens hi).2]
  rfl
def tkTl : List Int32 := [0, 0, 1, 1, 1, 2, 2, 2, 2, 2, 2, 2, 2, 0, 1, 1, 1, 2, 2, 3, 3, 1, 0, 5, 0, 0, 0, 1, 1, 3, 0, 0]
def tkMl : List Int32 := [1, 1, 0, 2, 0, 2, 1, 1, 1, 1, 1, 1, 1, 0, 0, 1, 1, 1, 1, 0, 0, 1, 1, 0, 0, 0, 0, 0, 0, 1, 1, 1]
def tkT (j : Nat) : Int32 := tkTl.getD j 0
def tkM (j : Nat) : Int32 := tkMl.getD j 0
def cwTy (cA : Nat → ClassId) : List (ClassId × FieldType) := [(cA 0, .int), (cA 1, .long), (cA 2, .boolean), (cA 3, .object "CallWalker$Behaviour"), (cA 4, .object "CallWalker$Frame"), (cA 5, .array .long)]
def cwT (A : Nat → Prop) (tb0 tb1 : Nat) (U : State) (H : Heap) : Prop := va_Z "CallWalker" "TAKES" "[I" (.ref tb0) A U H ∧ va_T .int tb0 32 (fun j => .int (tkT j)) A U H ∧ va_Z "CallWalker" "MAKES" "[I" (.ref tb1) A U H ∧ va_T .int tb1 32 (fun j => .int (tkM j)) A U H
/-- the links between nest mates -/
def cwN (U : State) : Prop := va_Nw (.methodLinkNest RX6 224 yX7_isLeaf "CallWalker") U ∧ va_Nw (.methodLinkNest RX6 240 yX7_sumFits "CallWalker") U ∧ va_Nw (.methodLinkNest RX6 244 yX7_differenceFits "CallWalker") U ∧ va_Nw (.methodLinkNest RX6 247 yX7_productFits "CallWalker") U ∧ va_Nw (.methodLinkNest RX6 275 yX7_isBehaviour "CallWalker") U ∧ va_Nw (.fieldLinkNest RX6 134 "CallWalker" "TAKES" "[I" "CallWalker") U ∧ va_Nw (.fieldLinkNest RX6 137 "CallWalker" "MAKES" "[I" "CallWalker") U
theorem cwN.warm {s U : State} (h : cwN s) (hW : s.WarmedH U.vm) : cwN U := ⟨va_Nw.warmM hW h.1, va_Nw.warmM hW h.2.1, va_Nw.warmM hW h.2.2.1, va_Nw.warmM hW h.2.2.2.1, va_Nw.warmM hW h.2.2.2.2.1, va_Nw.warmF hW h.2.2.2.2.2.1, va_Nw.warmF hW h.2.2.2.2.2.2⟩
theorem cwN.same {s U : State} (h : cwN s) (hv : s.vm = U.vm) : cwN U := ⟨va_Nw.same rfl hv h.1, va_Nw.same rfl hv h.2.1, va_Nw.same rfl hv h.2.2.1, va_Nw.same rfl hv h.2.2.2.1, va_Nw.same rfl hv h.2.2.2.2.1, va_Nw.same rfl hv h.2.2.2.2.2.1, va_Nw.same rfl hv h.2.2.2.2.2.2⟩
def cwK (D : va_G) (A : Nat → Prop) (ad : Nat → Nat) (cA : Nat → ClassId) (tb0 tb1 : Nat) (U : State) : Prop := va_K D vwCl (cwTy cA) U ∧ wd_D A ad 269 ∧ cwT A tb0 tb1 U U.heap ∧ cwN U
def cwO (D : va_G) (A : Nat → Prop) (ad : Nat → Nat) (cA : Nat → ClassId) (s : State) (st : CwS) (H : Heap) (locs : List Loc) : Prop := va_P D vwCl (wd ad 269 (cwc ad cA st)) H ∧ va_S A s.heap H locs
def cwU (D : va_G) (A : Nat → Prop) (ad : Nat → Nat) (cA : Nat → ClassId) (tb0 tb1 : Nat) (st : CwS) (U : State) : Prop := va_P D vwCl (wd ad 269 (cwc ad cA st)) U.heap ∧ cwK D A ad cA tb0 tb1 U
theorem cwT.moved {A : Nat → Prop} {tb0 tb1 : Nat} {u U : State} {H H1 : Heap} (h : cwT A tb0 tb1 u H) (hvm : u.vm.Alike U.vm) (hq : ∀ a : Nat, a < H.size → ¬ A a → H1[a]? = H[a]?) : cwT A tb0 tb1 U H1 :=
  ⟨(h.1.kept hq).moved hvm, (h.2.1.kept hq).moved hvm, (h.2.2.1.kept hq).moved hvm, (h.2.2.2.kept hq).moved hvm⟩
theorem cwK.at {D : va_G} {A : Nat → Prop} {ad : Nat → Nat} {cA : Nat → ClassId} {tb0 tb1 : Nat} {s U : State} {H : Heap} {locs : List Loc} (h : cwK D A ad cA tb0 tb1 s) (hS : va_S A s.heap H locs) (hU : U.heap = H) (hW : s.WarmedH U.vm) : cwK D A ad cA tb0 tb1 U :=
  ⟨va_K.moved hW.alike h.1, h.2.1, h.2.2.1.moved hW.alike (fun a h1 h2 => by rw [hU]; exact hS.2.1 a h1 h2), h.2.2.2.warm hW⟩
theorem cwU_blind {D : va_G} {A : Nat → Prop} {ad : Nat → Nat} {cA : Nat → ClassId} {tb0 tb1 : Nat} {st : CwS} {av : List Value} : FrameBlind (va_Pc av (cwU D A ad cA tb0 tb1 st)) := fun a U g mk q => ⟨q.1, q.2.1, va_K.moved (u := U) (U := U.calling g mk a) (Vm.Alike.refl U.vm) q.2.2.1, q.2.2.2.1, q.2.2.2.2.1.moved (u := U) (U := U.calling g mk a) (Vm.Alike.refl U.vm) (fun _ _ _ => rfl), q.2.2.2.2.2.same (U := U.calling g mk a) rfl⟩
theorem cw_preS {D : va_G} {A : Nat → Prop} {ad : Nat → Nat} {cA : Nat → ClassId} {tb0 tb1 : Nat} {st : CwS} {s : State} {H : Heap} {locs : List Loc} {As : List Value} (hK : cwK D A ad cA tb0 tb1 s) (hO : cwO D A ad cA s st H locs) : PreS s H (va_Pc As (cwU D A ad cA tb0 tb1 st)) As :=
  ⟨cwU_blind, fun U hU hW => ⟨rfl, by rw [hU]; exact hO.1, hK.at hO.2 hU hW⟩⟩
theorem cw_preV {D : va_G} {A : Nat → Prop} {ad : Nat → Nat} {cA : Nat → ClassId} {tb0 tb1 : Nat} {st : CwS} {s : State} {H : Heap} {locs : List Loc} {As : List Value} {k ci : Nat} {q : vw_C} {fs : List Value} (hK : cwK D A ad cA tb0 tb1 s) (hO : cwO D A ad cA s st H locs) (hc : vwCl[ci]? = some q) (hk : k < 269) (he : cwc ad cA st k = .inr (ci, fs)) : PreV s H q.1 (ad k) (va_Pc (.ref (ad k) :: As) (cwU D A ad cA tb0 tb1 st)) As :=
  ⟨cwU_blind, va_recv hK.1 hO.1 hc (wd_get hk he), fun U hU hW => ⟨rfl, by rw [hU]; exact hO.1, hK.at hO.2 hU hW⟩⟩
abbrev cwQi (D : va_G) (A : Nat → Prop) (ad : Nat → Nat) (cA : Nat → ClassId) (tb0 tb1 : Nat) (r : Int32) (st2 : CwS) := va_Qi (fun (x : Int32) (_ : Unit) => x = r) (fun _ t => va_P D vwCl (wd ad 269 (cwc ad cA st2)) t.heap) A
abbrev cwQl (D : va_G) (A : Nat → Prop) (ad : Nat → Nat) (cA : Nat → ClassId) (tb0 tb1 : Nat) (r : Int64) (st2 : CwS) := va_Ql (fun (x : Int64) (_ : Unit) => x = r) (fun _ t => va_P D vwCl (wd ad 269 (cwc ad cA st2)) t.heap) A
abbrev cwQv (D : va_G) (A : Nat → Prop) (ad : Nat → Nat) (cA : Nat → ClassId) (tb0 tb1 : Nat) (st2 : CwS) := va_Qv (fun (_ : Unit) => True) (fun _ t => va_P D vwCl (wd ad 269 (cwc ad cA st2)) t.heap) A
abbrev cwQr (D : va_G) (A : Nat → Prop) (ad : Nat → Nat) (cA : Nat → ClassId) (tb0 tb1 : Nat) (k : Nat) (st2 : CwS) := va_Qr (fun (_ : Unit) => True) (fun _ x t => x = ad k ∧ va_P D vwCl (wd ad 269 (cwc ad cA st2)) t.heap) A
def cpk (sp dp n : Int32) (n0 n1 : Nat) : Bool := decide (0 ≤ sp.toInt ∧ 0 ≤ dp.toInt ∧ 0 ≤ n.toInt ∧ sp.toInt + n.toInt ≤ n0 ∧ dp.toInt + n.toInt ≤ n1)
theorem cpk_nn {x : Int32} (h : 0 ≤ x.toInt) : ¬ x < 0 := by
  intro q
  have q1 := Int32.lt_iff_toInt_lt.mp q
  have q2 : (0 : Int32).toInt = 0 := rfl
  omega
theorem cpk_all {sp dp n : Int32} {n0 n1 : Nat} (h : cpk sp dp n n0 n1 = true) : ¬ sp < 0 ∧ ¬ dp < 0 ∧ ¬ n < 0 ∧ sp.toNatClampNeg + n.toNatClampNeg ≤ n0 ∧ dp.toNatClampNeg + n.toNatClampNeg ≤ n1 := by
  have h := of_decide_eq_true h
  have q1 : sp.toNatClampNeg = sp.toInt.toNat := rfl
  have q2 : dp.toNatClampNeg = dp.toInt.toNat := rfl
  have q3 : n.toNatClampNeg = n.toInt.toNat := rfl
  exact ⟨cpk_nn h.1, cpk_nn h.2.1, cpk_nn h.2.2.1, by omega, by omega⟩
section CWR
variable {p : Program} {l : Launch} {e : Env} {R : Room} {s : State} {m : MethodId} {args : Array Value} {below : List Frame} {meth : Method} {c : Code} {H : Heap} {locs : List Loc} {cells slots : Nat} {Q : State → Prop}
variable {cc : ByteArray} {pc : Nat} {ls : Array Slot} {rest st0 : List Value} {D : va_G} {A : Nat → Prop} {ad : Nat → Nat} {cA : Nat → ClassId} {tb0 tb1 : Nat} {st st2 : CwS} {a : Array Value}
theorem cw_calli {r : Int32} (hr : va_Run p l e R s m args below meth c H locs cells slots 0 0 (F0 m pc ls st0) rest (cwQi D A ad cA tb0 tb1 r st2 a) A) (hO : cwO D A ad cA s st H locs) (kk : ∀ (H1 : Heap) (locs1 : List Loc), cwO D A ad cA s st2 H1 locs1 → W p l e R s m args below meth c H1 locs1 cells slots Q (F0 m (pc + 3) ls (.int r :: rest))) : W p l e R s m args below meth c H locs cells slots Q (F0 m pc ls st0) :=
  va_calli hr hO.2 (fun _ _ h => h) (fun _ h => h) (fun r' u t H1 locs1 ht hvm hp hB _ _ hS => by subst hp; exact kk H1 locs1 ⟨by rw [← ht]; exact hB, hS⟩)
theorem cw_calll {r : Int64} (hr : va_Run p l e R s m args below meth c H locs cells slots 0 0 (F0 m pc ls st0) rest (cwQl D A ad cA tb0 tb1 r st2 a) A) (hO : cwO D A ad cA s st H locs) (kk : ∀ (H1 : Heap) (locs1 : List Loc), cwO D A ad cA s st2 H1 locs1 → W p l e R s m args below meth c H1 locs1 cells slots Q (F0 m (pc + 3) ls (.long r :: rest))) : W p l e R s m args below meth c H locs cells slots Q (F0 m pc ls st0) :=
  va_calll hr hO.2 (fun _ _ h => h) (fun _ h => h) (fun r' u t H1 locs1 ht hvm hp hB _ _ hS => by subst hp; exact kk H1 locs1 ⟨by rw [← ht]; exact hB, hS⟩)
theorem cw_callv (hr : va_Run p l e R s m args below meth c H locs cells slots 0 0 (F0 m pc ls st0) rest (cwQv D A ad cA tb0 tb1 st2 a) A) (hO : cwO D A ad cA s st H locs) (kk : ∀ (H1 : Heap) (locs1 : List Loc), cwO D A ad cA s st2 H1 locs1 → W p l e R s m args below meth c H1 locs1 cells slots Q (F0 m (pc + 3) ls (rest))) : W p l e R s m args below meth c H locs cells slots Q (F0 m pc ls st0) :=
  va_callv hr hO.2 (fun _ _ h => h) (fun _ h => h) (fun u t H1 locs1 ht hvm hp hB _ _ hS => kk H1 locs1 ⟨by rw [← ht]; exact hB, hS⟩)
theorem cw_callr {k : Nat} (hr : va_Run p l e R s m args below meth c H locs cells slots 0 0 (F0 m pc ls st0) rest (cwQr D A ad cA tb0 tb1 k st2 a) A) (hO : cwO D A ad cA s st H locs) (kk : ∀ (H1 : Heap) (locs1 : List Loc), cwO D A ad cA s st2 H1 locs1 → W p l e R s m args below meth c H1 locs1 cells slots Q (F0 m (pc + 3) ls (.ref (ad k) :: rest))) : W p l e R s m args below meth c H locs cells slots Q (F0 m pc ls st0) :=
  va_callr hr hO.2 (fun _ _ h => h) (fun _ h => h) (fun u ra t H1 locs1 ht hvm hp hB _ _ hS => by obtain ⟨rfl, hB⟩ := hB; exact kk H1 locs1 ⟨by rw [← ht]; exact hB, hS⟩)
theorem cw_iret {r : Int32} (hx : p.tables.exec = Jvm.exec) (hb : c.code = cc) (hr : meth.sig.returnType = some .int) (hlocks : meth.locks = false) (hO : cwO D A ad cA s st H locs) (hdg : decode cc pc = .ok (.ireturn, 1)) : W p l e R s m args below meth c H locs cells slots (MQ below (cwQi D A ad cA tb0 tb1 r st) args s cells slots A) (F0 m pc ls [.int r]) :=
  W.iret hx hb hr (fun t ht hW => ⟨⟨r, (), rfl, rfl, by subst ht; exact hO.1⟩, hO.2.F ht⟩) hO.2.2.2 hdg hlocks
theorem cw_zret {r : Int32} (hx : p.tables.exec = Jvm.exec) (hb : c.code = cc) (hr : meth.sig.returnType = some .boolean) (hlocks : meth.locks = false) (hO : cwO D A ad cA s st H locs) (hn : narrow .boolean (.int r) = .int r) (hdg : decode cc pc = .ok (.ireturn, 1)) : W p l e R s m args below meth c H locs cells slots (MQ below (cwQi D A ad cA tb0 tb1 r st) args s cells slots A) (F0 m pc ls [.int r]) :=
  W.zret hx hb hr hn (fun t ht hW => ⟨⟨r, (), rfl, rfl, by subst ht; exact hO.1⟩, hO.2.F ht⟩) hO.2.2.2 hdg hlocks
theorem cw_lret {r : Int64} (hx : p.tables.exec = Jvm.exec) (hb : c.code = cc) (hr : meth.sig.returnType = some .long) (hlocks : meth.locks = false) (hO : cwO D A ad cA s st H locs) (hdg : decode cc pc = .ok (.lreturn, 1)) : W p l e R s m args below meth c H locs cells slots (MQ below (cwQl D A ad cA tb0 tb1 r st) args s cells slots A) (F0 m pc ls [.long r]) :=
  W.lret hx hb hr (fun t ht hW => ⟨⟨r, (), rfl, rfl, by subst ht; exact hO.1⟩, hO.2.F ht⟩) hO.2.2.2 hdg hlocks
theorem cw_vret (hx : p.tables.exec = Jvm.exec) (hb : c.code = cc) (hr : meth.sig.returnType = none) (hlocks : meth.locks = false) (hO : cwO D A ad cA s st H locs) (hdg : decode cc pc = .ok (.return_, 1)) : W p l e R s m args below meth c H locs cells slots (MQ below (cwQv D A ad cA tb0 tb1 st) args s cells slots A) (F0 m pc ls []) :=
  W.vret hx hb hr (fun t ht hW => ⟨⟨(), rfl, trivial, by subst ht; exact hO.1⟩, hO.2.F ht⟩) hO.2.2.2 hdg hlocks
theorem cw_aret {k : Nat} {rt : FieldType} (hx : p.tables.exec = Jvm.exec) (hb : c.code = cc) (hr : meth.sig.returnType = some rt) (hrt : ∃ n, rt = .object n) (hlocks : meth.locks = false) (hO : cwO D A ad cA s st H locs) (hdg : decode cc pc = .ok (.areturn, 1)) : W p l e R s m args below meth c H locs cells slots (MQ below (cwQr D A ad cA tb0 tb1 k st) args s cells slots A) (F0 m pc ls [.ref (ad k)]) :=
  W.aret hx hb hr (Or.inl hrt) (Or.inr ⟨_, rfl⟩) (fun t ht hW => ⟨⟨(), ad k, rfl, trivial, rfl, by subst ht; exact hO.1⟩, hO.2.F ht⟩) hO.2.2.2 hdg hlocks
theorem cw_tableD (hexec : p.tables.exec = Jvm.exec) (hb : c.code = cc) {dflt lo hi : Int} {offs : Array Int} {len : Nat} {x : Int32} {tgt : Nat} (hdg : decode cc pc = .ok (.tableswitch dflt lo hi offs, len)) (h : x.toInt < lo ∨ hi < x.toInt ∨ offs[(x.toInt - lo).toNat]? = some dflt) (ht : (pc : Int) + dflt = (tgt : Int)) (k : W p l e R s m args below meth c H locs cells slots Q (F0 m tgt ls rest)) : W p l e R s m args below meth c H locs cells slots Q (F0 m pc ls (.int x :: rest)) := by
  by_cases h1 : x.toInt < lo
  · exact lv_tableOut hexec hb hdg (Or.inl h1) ht k
  by_cases h2 : hi < x.toInt
  · exact lv_tableOut hexec hb hdg (Or.inr h2) ht k
  rcases h with h | h | h
  · exact absurd h h1
  · exact absurd h h2
  · exact lv_tableIn hexec hb hdg h1 h2 h ht k
end CWR
end
section
section CWF
variable {p : Program} {l : Launch} {e : Env} {R : Room} {s : State} {m : MethodId} {args : Array Value} {below : List Frame} {meth : Method} {c : Code} {H : Heap} {locs : List Loc} {cells slots : Nat} {Q : State → Prop}
variable {cc : ByteArray} {pc : Nat} {ls : Array Slot} {rest st0 : List Value} {D : va_G} {A : Nat → Prop} {ad : Nat → Nat} {cA : Nat → ClassId} {tb0 tb1 : Nat} {st st2 : CwS} {a : Array Value}
theorem gf_CW_book (hx : p.tables.exec = Jvm.exec) (hb : c.code = cc) {own : String} {index : Nat} {Ts : List Cond} (hts : ∀ w ∈ Ts, w.before args s = true) (hin : ∀ w ∈ u_ws RX7 TX7 3, w ∈ Ts) (hown : s.vm.findClass own = some m.cls) (hK : cwK D A ad cA tb0 tb1 s) (hO : cwO D A ad cA s st H locs) (hlink : (Cond.fieldLink own index "CallWalker" "book" "LCallWalker$Book;").before args s = true) (hdg : decode cc pc = .ok (.getfield index, 3)) (kk : W p l e R s m args below meth c H locs cells slots Q (F0 m (pc + 3) ls (.ref (ad (1)) :: rest))) : W p l e R s m args below meth c H locs cells slots Q (F0 m pc ls (.ref (ad (0)) :: rest)) :=
  va_get (D := D) (ci := 7) (C := RX7) (T := TX7) (N := 3) hx hb hts hin hown hK.1 hO.1 (0) (wd_get (by omega) (cc_CW)) rfl 0 (by decide) hlink (fun _ h => h) rfl hdg kk
theorem gf_CW_ledger (hx : p.tables.exec = Jvm.exec) (hb : c.code = cc) {own : String} {index : Nat} {Ts : List Cond} (hts : ∀ w ∈ Ts, w.before args s = true) (hin : ∀ w ∈ u_ws RX7 TX7 3, w ∈ Ts) (hown : s.vm.findClass own = some m.cls) (hK : cwK D A ad cA tb0 tb1 s) (hO : cwO D A ad cA s st H locs) (hlink : (Cond.fieldLink own index "CallWalker" "ledger" "LCallWalker$Ledger;").before args s = true) (hdg : decode cc pc = .ok (.getfield index, 3)) (kk : W p l e R s m args below meth c H locs cells slots Q (F0 m (pc + 3) ls (.ref (ad (148)) :: rest))) : W p l e R s m args below meth c H locs cells slots Q (F0 m pc ls (.ref (ad (0)) :: rest)) :=
  va_get (D := D) (ci := 7) (C := RX7) (T := TX7) (N := 3) hx hb hts hin hown hK.1 hO.1 (0) (wd_get (by omega) (cc_CW)) rfl 1 (by decide) hlink (fun _ h => h) rfl hdg kk
theorem gf_CW_walk (hx : p.tables.exec = Jvm.exec) (hb : c.code = cc) {own : String} {index : Nat} {Ts : List Cond} (hts : ∀ w ∈ Ts, w.before args s = true) (hin : ∀ w ∈ u_ws RX7 TX7 3, w ∈ Ts) (hown : s.vm.findClass own = some m.cls) (hK : cwK D A ad cA tb0 tb1 s) (hO : cwO D A ad cA s st H locs) (hlink : (Cond.fieldLink own index "CallWalker" "walk" "LCallWalker$Walk;").before args s = true) (hdg : decode cc pc = .ok (.getfield index, 3)) (kk : W p l e R s m args below meth c H locs cells slots Q (F0 m (pc + 3) ls (.ref (ad (176)) :: rest))) : W p l e R s m args below meth c H locs cells slots Q (F0 m pc ls (.ref (ad (0)) :: rest)) :=
  va_get (D := D) (ci := 7) (C := RX7) (T := TX7) (N := 3) hx hb hts hin hown hK.1 hO.1 (0) (wd_get (by omega) (cc_CW)) rfl 2 (by decide) hlink (fun _ h => h) rfl hdg kk
theorem gf_Book_behaviours (hx : p.tables.exec = Jvm.exec) (hb : c.code = cc) {own : String} {index : Nat} {Ts : List Cond} (hts : ∀ w ∈ Ts, w.before args s = true) (hin : ∀ w ∈ u_ws RX1 TX1 2, w ∈ Ts) (hown : s.vm.findClass own = some m.cls) (hK : cwK D A ad cA tb0 tb1 s) (hO : cwO D A ad cA s st H locs) (hlink : (Cond.fieldLink own index "CallWalker$Book" "behaviours" "[LCallWalker$Behaviour;").before args s = true) (hdg : decode cc pc = .ok (.getfield index, 3)) (kk : W p l e R s m args below meth c H locs cells slots Q (F0 m (pc + 3) ls (.ref (ad (2)) :: rest))) : W p l e R s m args below meth c H locs cells slots Q (F0 m pc ls (.ref (ad (1)) :: rest)) :=
  va_get (D := D) (ci := 1) (C := RX1) (T := TX1) (N := 2) hx hb hts hin hown hK.1 hO.1 (1) (wd_get (by omega) (cc_Book)) rfl 0 (by decide) hlink (fun _ h => h) rfl hdg kk
theorem gf_Book_guarded (hx : p.tables.exec = Jvm.exec) (hb : c.code = cc) {own : String} {index : Nat} {Ts : List Cond} (hts : ∀ w ∈ Ts, w.before args s = true) (hin : ∀ w ∈ u_ws RX1 TX1 2, w ∈ Ts) (hown : s.vm.findClass own = some m.cls) (hK : cwK D A ad cA tb0 tb1 s) (hO : cwO D A ad cA s st H locs) (hlink : (Cond.fieldLink own index "CallWalker$Book" "guarded" "[Z").before args s = true) (hdg : decode cc pc = .ok (.getfield index, 3)) (kk : W p l e R s m args below meth c H locs cells slots Q (F0 m (pc + 3) ls (.ref (ad (3)) :: rest))) : W p l e R s m args below meth c H locs cells slots Q (F0 m pc ls (.ref (ad (1)) :: rest)) :=
  va_get (D := D) (ci := 1) (C := RX1) (T := TX1) (N := 2) hx hb hts hin hown hK.1 hO.1 (1) (wd_get (by omega) (cc_Book)) rfl 1 (by decide) hlink (fun _ h => h) rfl hdg kk
theorem gf_Beh_codes (hx : p.tables.exec = Jvm.exec) (hb : c.code = cc) {own : String} {index : Nat} {Ts : List Cond} (hts : ∀ w ∈ Ts, w.before args s = true) (hin : ∀ w ∈ u_ws RX0 TX0 3, w ∈ Ts) (hown : s.vm.findClass own = some m.cls) (hK : cwK D A ad cA tb0 tb1 s) (hO : cwO D A ad cA s st H locs) {i : Nat} (hi : i < 48) (hlink : (Cond.fieldLink own index "CallWalker$Behaviour" "codes" "[I").before args s = true) (hdg : decode cc pc = .ok (.getfield index, 3)) (kk : W p l e R s m args below meth c H locs cells slots Q (F0 m (pc + 3) ls (.ref (ad (5 + 3 * i)) :: rest))) : W p l e R s m args below meth c H locs cells slots Q (F0 m pc ls (.ref (ad (4 + 3 * i)) :: rest)) :=
  va_get (D := D) (ci := 0) (C := RX0) (T := TX0) (N := 3) hx hb hts hin hown hK.1 hO.1 (4 + 3 * i) (wd_get (by omega) (cc_Beh hi)) rfl 0 (by decide) hlink (fun _ h => h) rfl hdg kk
theorem gf_Beh_numbers (hx : p.tables.exec = Jvm.exec) (hb : c.code = cc) {own : String} {index : Nat} {Ts : List Cond} (hts : ∀ w ∈ Ts, w.before args s = true) (hin : ∀ w ∈ u_ws RX0 TX0 3, w ∈ Ts) (hown : s.vm.findClass own = some m.cls) (hK : cwK D A ad cA tb0 tb1 s) (hO : cwO D A ad cA s st H locs) {i : Nat} (hi : i < 48) (hlink : (Cond.fieldLink own index "CallWalker$Behaviour" "numbers" "[I").before args s = true) (hdg : decode cc pc = .ok (.getfield index, 3)) (kk : W p l e R s m args below meth c H locs cells slots Q (F0 m (pc + 3) ls (.ref (ad (6 + 3 * i)) :: rest))) : W p l e R s m args below meth c H locs cells slots Q (F0 m pc ls (.ref (ad (4 + 3 * i)) :: rest)) :=
  va_get (D := D) (ci := 0) (C := RX0) (T := TX0) (N := 3) hx hb hts hin hown hK.1 hO.1 (4 + 3 * i) (wd_get (by omega) (cc_Beh hi)) rfl 1 (by decide) hlink (fun _ h => h) rfl hdg kk
theorem gf_Beh_count (hx : p.tables.exec = Jvm.exec) (hb : c.code = cc) {own : String} {index : Nat} {Ts : List Cond} (hts : ∀ w ∈ Ts, w.before args s = true) (hin : ∀ w ∈ u_ws RX0 TX0 3, w ∈ Ts) (hown : s.vm.findClass own = some m.cls) (hK : cwK D A ad cA tb0 tb1 s) (hO : cwO D A ad cA s st H locs) {i : Nat} (hi : i < 48) (hlink : (Cond.fieldLink own index "CallWalker$Behaviour" "count" "I").before args s = true) (hdg : decode cc pc = .ok (.getfield index, 3)) (kk : W p l e R s m args below meth c H locs cells slots Q (F0 m (pc + 3) ls (.int (gI st 2 i 0) :: rest))) : W p l e R s m args below meth c H locs cells slots Q (F0 m pc ls (.ref (ad (4 + 3 * i)) :: rest)) :=
  va_get (D := D) (ci := 0) (C := RX0) (T := TX0) (N := 3) hx hb hts hin hown hK.1 hO.1 (4 + 3 * i) (wd_get (by omega) (cc_Beh hi)) rfl 2 (by decide) hlink (fun _ h => h) rfl hdg kk
theorem pf_Beh_count (hx : p.tables.exec = Jvm.exec) (hb : c.code = cc) {own : String} {index : Nat} {Ts : List Cond} (hts : ∀ w ∈ Ts, w.before args s = true) (hin : ∀ w ∈ u_ws RX0 TX0 3, w ∈ Ts) (hown : s.vm.findClass own = some m.cls) (hK : cwK D A ad cA tb0 tb1 s) (hO : cwO D A ad cA s st H locs) {i : Nat} (hi : i < 48) {v : Int32} (hlink : (Cond.fieldLink own index "CallWalker$Behaviour" "count" "I").before args s = true) (hdg : decode cc pc = .ok (.putfield index, 3)) (kk : ∀ (H1 : Heap) (locs1 : List Loc), cwO D A ad cA s (sI st 2 i 0 v) H1 locs1 → W p l e R s m args below meth c H1 locs1 cells slots Q (F0 m (pc + 3) ls rest)) : W p l e R s m args below meth c H locs cells slots Q (F0 m pc ls (.int v :: .ref (ad (4 + 3 * i)) :: rest)) := by
  refine va_put (D := D) (ci := 0) (v := .int v) (ty := .int) (C := RX0) (T := TX0) (N := 3) hx hb hts hin tyX0 tyX0_ok nmX0 hown hK.1 hO.1 (hK.2.1.D _) hO.2 (4 + 3 * i) (wd_get (by omega) (cc_Beh hi)) rfl 2 (by decide) hlink (fun _ h => h) rfl (by decide +kernel) rfl rfl (Nat.le_of_ble_eq_true rfl) hdg (fun H1 locs1 hP _ hS => kk H1 locs1 ⟨?_, hS⟩)
  rw [cw_put (st2 := sI st 2 i 0 v) (by omega) ((cc_Beh hi).trans (by simp [gI_sI, gL_sL, gR_sR, gI_sL, gI_sR, gL_sI, gL_sR, gR_sI, gR_sL])) (fun j hj hne => cwc_sI hj (by rw [show cw_of _ _ = 4 + 3 * i from by simp [cw_of, ownI, ownL, ownR]]; exact hne))] at hP
  exact hP
theorem gf_Ledger_leaves (hx : p.tables.exec = Jvm.exec) (hb : c.code = cc) {own : String} {index : Nat} {Ts : List Cond} (hts : ∀ w ∈ Ts, w.before args s = true) (hin : ∀ w ∈ u_ws RX3 TX3 8, w ∈ Ts) (hown : s.vm.findClass own = some m.cls) (hK : cwK D A ad cA tb0 tb1 s) (hO : cwO D A ad cA s st H locs) (hlink : (Cond.fieldLink own index "CallWalker$Ledger" "leaves" "[J").before args s = true) (hdg : decode cc pc = .ok (.getfield index, 3)) (kk : W p l e R s m args below meth c H locs cells slots Q (F0 m (pc + 3) ls (.ref (ad (149)) :: rest))) : W p l e R s m args below meth c H locs cells slots Q (F0 m pc ls (.ref (ad (148)) :: rest)) :=
  va_get (D := D) (ci := 3) (C := RX3) (T := TX3) (N := 8) hx hb hts hin hown hK.1 hO.1 (148) (wd_get (by omega) (cc_Ledger)) rfl 0 (by decide) hlink (fun _ h => h) rfl hdg kk
theorem gf_Ledger_balances (hx : p.tables.exec = Jvm.exec) (hb : c.code = cc) {own : String} {index : Nat} {Ts : List Cond} (hts : ∀ w ∈ Ts, w.before args s = true) (hin : ∀ w ∈ u_ws RX3 TX3 8, w ∈ Ts) (hown : s.vm.findClass own = some m.cls) (hK : cwK D A ad cA tb0 tb1 s) (hO : cwO D A ad cA s st H locs) (hlink : (Cond.fieldLink own index "CallWalker$Ledger" "balances" "[J").before args s = true) (hdg : decode cc pc = .ok (.getfield index, 3)) (kk : W p l e R s m args below meth c H locs cells slots Q (F0 m (pc + 3) ls (.ref (ad (150)) :: rest))) : W p l e R s m args below meth c H locs cells slots Q (F0 m pc ls (.ref (ad (148)) :: rest)) :=
  va_get (D := D) (ci := 3) (C := RX3) (T := TX3) (N := 8) hx hb hts hin hown hK.1 hO.1 (148) (wd_get (by omega) (cc_Ledger)) rfl 1 (by decide) hlink (fun _ h => h) rfl hdg kk
theorem gf_Ledger_eventContracts (hx : p.tables.exec = Jvm.exec) (hb : c.code = cc) {own : String} {index : Nat} {Ts : List Cond} (hts : ∀ w ∈ Ts, w.before args s = true) (hin : ∀ w ∈ u_ws RX3 TX3 8, w ∈ Ts) (hown : s.vm.findClass own = some m.cls) (hK : cwK D A ad cA tb0 tb1 s) (hO : cwO D A ad cA s st H locs) (hlink : (Cond.fieldLink own index "CallWalker$Ledger" "eventContracts" "[I").before args s = true) (hdg : decode cc pc = .ok (.getfield index, 3)) (kk : W p l e R s m args below meth c H locs cells slots Q (F0 m (pc + 3) ls (.ref (ad (151)) :: rest))) : W p l e R s m args below meth c H locs cells slots Q (F0 m pc ls (.ref (ad (148)) :: rest)) :=
  va_get (D := D) (ci := 3) (C := RX3) (T := TX3) (N := 8) hx hb hts hin hown hK.1 hO.1 (148) (wd_get (by omega) (cc_Ledger)) rfl 2 (by decide) hlink (fun _ h => h) rfl hdg kk
theorem gf_Ledger_eventNumbers (hx : p.tables.exec = Jvm.exec) (hb : c.code = cc) {own : String} {index : Nat} {Ts : List Cond} (hts : ∀ w ∈ Ts, w.before args s = true) (hin : ∀ w ∈ u_ws RX3 TX3 8, w ∈ Ts) (hown : s.vm.findClass own = some m.cls) (hK : cwK D A ad cA tb0 tb1 s) (hO : cwO D A ad cA s st H locs) (hlink : (Cond.fieldLink own index "CallWalker$Ledger" "eventNumbers" "[J").before args s = true) (hdg : decode cc pc = .ok (.getfield index, 3)) (kk : W p l e R s m args below meth c H locs cells slots Q (F0 m (pc + 3) ls (.ref (ad (152)) :: rest))) : W p l e R s m args below meth c H locs cells slots Q (F0 m pc ls (.ref (ad (148)) :: rest)) :=
  va_get (D := D) (ci := 3) (C := RX3) (T := TX3) (N := 8) hx hb hts hin hown hK.1 hO.1 (148) (wd_get (by omega) (cc_Ledger)) rfl 3 (by decide) hlink (fun _ h => h) rfl hdg kk
theorem gf_Ledger_eventCount (hx : p.tables.exec = Jvm.exec) (hb : c.code = cc) {own : String} {index : Nat} {Ts : List Cond} (hts : ∀ w ∈ Ts, w.before args s = true) (hin : ∀ w ∈ u_ws RX3 TX3 8, w ∈ Ts) (hown : s.vm.findClass own = some m.cls) (hK : cwK D A ad cA tb0 tb1 s) (hO : cwO D A ad cA s st H locs) (hlink : (Cond.fieldLink own index "CallWalker$Ledger" "eventCount" "I").before args s = true) (hdg : decode cc pc = .ok (.getfield index, 3)) (kk : W p l e R s m args below meth c H locs cells slots Q (F0 m (pc + 3) ls (.int (gI st 5 0 0) :: rest))) : W p l e R s m args below meth c H locs cells slots Q (F0 m pc ls (.ref (ad (148)) :: rest)) :=
  va_get (D := D) (ci := 3) (C := RX3) (T := TX3) (N := 8) hx hb hts hin hown hK.1 hO.1 (148) (wd_get (by omega) (cc_Ledger)) rfl 4 (by decide) hlink (fun _ h => h) rfl hdg kk
theorem pf_Ledger_eventCount (hx : p.tables.exec = Jvm.exec) (hb : c.code = cc) {own : String} {index : Nat} {Ts : List Cond} (hts : ∀ w ∈ Ts, w.before args s = true) (hin : ∀ w ∈ u_ws RX3 TX3 8, w ∈ Ts) (hown : s.vm.findClass own = some m.cls) (hK : cwK D A ad cA tb0 tb1 s) (hO : cwO D A ad cA s st H locs) {v : Int32} (hlink : (Cond.fieldLink own index "CallWalker$Ledger" "eventCount" "I").before args s = true) (hdg : decode cc pc = .ok (.putfield index, 3)) (kk : ∀ (H1 : Heap) (locs1 : List Loc), cwO D A ad cA s (sI st 5 0 0 v) H1 locs1 → W p l e R s m args below meth c H1 locs1 cells slots Q (F0 m (pc + 3) ls rest)) : W p l e R s m args below meth c H locs cells slots Q (F0 m pc ls (.int v :: .ref (ad (148)) :: rest)) := by
  refine va_put (D := D) (ci := 3) (v := .int v) (ty := .int) (C := RX3) (T := TX3) (N := 8) hx hb hts hin tyX3 tyX3_ok nmX3 hown hK.1 hO.1 (hK.2.1.D _) hO.2 (148) (wd_get (by omega) (cc_Ledger)) rfl 4 (by decide) hlink (fun _ h => h) rfl (by decide +kernel) rfl rfl (Nat.le_of_ble_eq_true rfl) hdg (fun H1 locs1 hP _ hS => kk H1 locs1 ⟨?_, hS⟩)
  rw [cw_put (st2 := sI st 5 0 0 v) (by omega) ((cc_Ledger).trans (by simp [gI_sI, gL_sL, gR_sR, gI_sL, gI_sR, gL_sI, gL_sR, gR_sI, gR_sL])) (fun j hj hne => cwc_sI hj (by rw [show cw_of _ _ = 148 from by simp [cw_of, ownI, ownL, ownR]]; exact hne))] at hP
  exact hP
theorem gf_Ledger_keptLeaves (hx : p.tables.exec = Jvm.exec) (hb : c.code = cc) {own : String} {index : Nat} {Ts : List Cond} (hts : ∀ w ∈ Ts, w.before args s = true) (hin : ∀ w ∈ u_ws RX3 TX3 8, w ∈ Ts) (hown : s.vm.findClass own = some m.cls) (hK : cwK D A ad cA tb0 tb1 s) (hO : cwO D A ad cA s st H locs) (hlink : (Cond.fieldLink own index "CallWalker$Ledger" "keptLeaves" "[[J").before args s = true) (hdg : decode cc pc = .ok (.getfield index, 3)) (kk : W p l e R s m args below meth c H locs cells slots Q (F0 m (pc + 3) ls (.ref (ad (153)) :: rest))) : W p l e R s m args below meth c H locs cells slots Q (F0 m pc ls (.ref (ad (148)) :: rest)) :=
  va_get (D := D) (ci := 3) (C := RX3) (T := TX3) (N := 8) hx hb hts hin hown hK.1 hO.1 (148) (wd_get (by omega) (cc_Ledger)) rfl 5 (by decide) hlink (fun _ h => h) rfl hdg kk
theorem gf_Ledger_keptBalances (hx : p.tables.exec = Jvm.exec) (hb : c.code = cc) {own : String} {index : Nat} {Ts : List Cond} (hts : ∀ w ∈ Ts, w.before args s = true) (hin : ∀ w ∈ u_ws RX3 TX3 8, w ∈ Ts) (hown : s.vm.findClass own = some m.cls) (hK : cwK D A ad cA tb0 tb1 s) (hO : cwO D A ad cA s st H locs) (hlink : (Cond.fieldLink own index "CallWalker$Ledger" "keptBalances" "[[J").before args s = true) (hdg : decode cc pc = .ok (.getfield index, 3)) (kk : W p l e R s m args below meth c H locs cells slots Q (F0 m (pc + 3) ls (.ref (ad (164)) :: rest))) : W p l e R s m args below meth c H locs cells slots Q (F0 m pc ls (.ref (ad (148)) :: rest)) :=
  va_get (D := D) (ci := 3) (C := RX3) (T := TX3) (N := 8) hx hb hts hin hown hK.1 hO.1 (148) (wd_get (by omega) (cc_Ledger)) rfl 6 (by decide) hlink (fun _ h => h) rfl hdg kk
theorem gf_Ledger_keptCounts (hx : p.tables.exec = Jvm.exec) (hb : c.code = cc) {own : String} {index : Nat} {Ts : List Cond} (hts : ∀ w ∈ Ts, w.before args s = true) (hin : ∀ w ∈ u_ws RX3 TX3 8, w ∈ Ts) (hown : s.vm.findClass own = some m.cls) (hK : cwK D A ad cA tb0 tb1 s) (hO : cwO D A ad cA s st H locs) (hlink : (Cond.fieldLink own index "CallWalker$Ledger" "keptCounts" "[I").before args s = true) (hdg : decode cc pc = .ok (.getfield index, 3)) (kk : W p l e R s m args below meth c H locs cells slots Q (F0 m (pc + 3) ls (.ref (ad (175)) :: rest))) : W p l e R s m args below meth c H locs cells slots Q (F0 m pc ls (.ref (ad (148)) :: rest)) :=
  va_get (D := D) (ci := 3) (C := RX3) (T := TX3) (N := 8) hx hb hts hin hown hK.1 hO.1 (148) (wd_get (by omega) (cc_Ledger)) rfl 7 (by decide) hlink (fun _ h => h) rfl hdg kk
theorem gf_Walk_book (hx : p.tables.exec = Jvm.exec) (hb : c.code = cc) {own : String} {index : Nat} {Ts : List Cond} (hts : ∀ w ∈ Ts, w.before args s = true) (hin : ∀ w ∈ u_ws RX6 TX6 7, w ∈ Ts) (hown : s.vm.findClass own = some m.cls) (hK : cwK D A ad cA tb0 tb1 s) (hO : cwO D A ad cA s st H locs) (hlink : (Cond.fieldLink own index "CallWalker$Walk" "book" "LCallWalker$Book;").before args s = true) (hdg : decode cc pc = .ok (.getfield index, 3)) (kk : W p l e R s m args below meth c H locs cells slots Q (F0 m (pc + 3) ls (.ref (ad (1)) :: rest))) : W p l e R s m args below meth c H locs cells slots Q (F0 m pc ls (.ref (ad (176)) :: rest)) :=
  va_get (D := D) (ci := 6) (C := RX6) (T := TX6) (N := 7) hx hb hts hin hown hK.1 hO.1 (176) (wd_get (by omega) (cc_Walk)) rfl 0 (by decide) hlink (fun _ h => h) rfl hdg kk
theorem gf_Walk_ledger (hx : p.tables.exec = Jvm.exec) (hb : c.code = cc) {own : String} {index : Nat} {Ts : List Cond} (hts : ∀ w ∈ Ts, w.before args s = true) (hin : ∀ w ∈ u_ws RX6 TX6 7, w ∈ Ts) (hown : s.vm.findClass own = some m.cls) (hK : cwK D A ad cA tb0 tb1 s) (hO : cwO D A ad cA s st H locs) (hlink : (Cond.fieldLink own index "CallWalker$Walk" "ledger" "LCallWalker$Ledger;").before args s = true) (hdg : decode cc pc = .ok (.getfield index, 3)) (kk : W p l e R s m args below meth c H locs cells slots Q (F0 m (pc + 3) ls (.ref (ad (148)) :: rest))) : W p l e R s m args below meth c H locs cells slots Q (F0 m pc ls (.ref (ad (176)) :: rest)) :=
  va_get (D := D) (ci := 6) (C := RX6) (T := TX6) (N := 7) hx hb hts hin hown hK.1 hO.1 (176) (wd_get (by omega) (cc_Walk)) rfl 1 (by decide) hlink (fun _ h => h) rfl hdg kk
theorem gf_Walk_frames (hx : p.tables.exec = Jvm.exec) (hb : c.code = cc) {own : String} {index : Nat} {Ts : List Cond} (hts : ∀ w ∈ Ts, w.before args s = true) (hin : ∀ w ∈ u_ws RX6 TX6 7, w ∈ Ts) (hown : s.vm.findClass own = some m.cls) (hK : cwK D A ad cA tb0 tb1 s) (hO : cwO D A ad cA s st H locs) (hlink : (Cond.fieldLink own index "CallWalker$Walk" "frames" "[LCallWalker$Frame;").before args s = true) (hdg : decode cc pc = .ok (.getfield index, 3)) (kk : W p l e R s m args below meth c H locs cells slots Q (F0 m (pc + 3) ls (.ref (ad (177)) :: rest))) : W p l e R s m args below meth c H locs cells slots Q (F0 m pc ls (.ref (ad (176)) :: rest)) :=
  va_get (D := D) (ci := 6) (C := RX6) (T := TX6) (N := 7) hx hb hts hin hown hK.1 hO.1 (176) (wd_get (by omega) (cc_Walk)) rfl 2 (by decide) hlink (fun _ h => h) rfl hdg kk
theorem gf_Walk_counts (hx : p.tables.exec = Jvm.exec) (hb : c.code = cc) {own : String} {index : Nat} {Ts : List Cond} (hts : ∀ w ∈ Ts, w.before args s = true) (hin : ∀ w ∈ u_ws RX6 TX6 7, w ∈ Ts) (hown : s.vm.findClass own = some m.cls) (hK : cwK D A ad cA tb0 tb1 s) (hO : cwO D A ad cA s st H locs) (hlink : (Cond.fieldLink own index "CallWalker$Walk" "counts" "[I").before args s = true) (hdg : decode cc pc = .ok (.getfield index, 3)) (kk : W p l e R s m args below meth c H locs cells slots Q (F0 m (pc + 3) ls (.ref (ad (178)) :: rest))) : W p l e R s m args below meth c H locs cells slots Q (F0 m pc ls (.ref (ad (176)) :: rest)) :=
  va_get (D := D) (ci := 6) (C := RX6) (T := TX6) (N := 7) hx hb hts hin hown hK.1 hO.1 (176) (wd_get (by omega) (cc_Walk)) rfl 3 (by decide) hlink (fun _ h => h) rfl hdg kk
theorem gf_Walk_depth (hx : p.tables.exec = Jvm.exec) (hb : c.code = cc) {own : String} {index : Nat} {Ts : List Cond} (hts : ∀ w ∈ Ts, w.before args s = true) (hin : ∀ w ∈ u_ws RX6 TX6 7, w ∈ Ts) (hown : s.vm.findClass own = some m.cls) (hK : cwK D A ad cA tb0 tb1 s) (hO : cwO D A ad cA s st H locs) (hlink : (Cond.fieldLink own index "CallWalker$Walk" "depth" "I").before args s = true) (hdg : decode cc pc = .ok (.getfield index, 3)) (kk : W p l e R s m args below meth c H locs cells slots Q (F0 m (pc + 3) ls (.int (gI st 8 0 0) :: rest))) : W p l e R s m args below meth c H locs cells slots Q (F0 m pc ls (.ref (ad (176)) :: rest)) :=
  va_get (D := D) (ci := 6) (C := RX6) (T := TX6) (N := 7) hx hb hts hin hown hK.1 hO.1 (176) (wd_get (by omega) (cc_Walk)) rfl 4 (by decide) hlink (fun _ h => h) rfl hdg kk
theorem pf_Walk_depth (hx : p.tables.exec = Jvm.exec) (hb : c.code = cc) {own : String} {index : Nat} {Ts : List Cond} (hts : ∀ w ∈ Ts, w.before args s = true) (hin : ∀ w ∈ u_ws RX6 TX6 7, w ∈ Ts) (hown : s.vm.findClass own = some m.cls) (hK : cwK D A ad cA tb0 tb1 s) (hO : cwO D A ad cA s st H locs) {v : Int32} (hlink : (Cond.fieldLink own index "CallWalker$Walk" "depth" "I").before args s = true) (hdg : decode cc pc = .ok (.putfield index, 3)) (kk : ∀ (H1 : Heap) (locs1 : List Loc), cwO D A ad cA s (sI st 8 0 0 v) H1 locs1 → W p l e R s m args below meth c H1 locs1 cells slots Q (F0 m (pc + 3) ls rest)) : W p l e R s m args below meth c H locs cells slots Q (F0 m pc ls (.int v :: .ref (ad (176)) :: rest)) := by
  refine va_put (D := D) (ci := 6) (v := .int v) (ty := .int) (C := RX6) (T := TX6) (N := 7) hx hb hts hin tyX6 tyX6_ok nmX6 hown hK.1 hO.1 (hK.2.1.D _) hO.2 (176) (wd_get (by omega) (cc_Walk)) rfl 4 (by decide) hlink (fun _ h => h) rfl (by decide +kernel) rfl rfl (Nat.le_of_ble_eq_true rfl) hdg (fun H1 locs1 hP _ hS => kk H1 locs1 ⟨?_, hS⟩)
  rw [cw_put (st2 := sI st 8 0 0 v) (by omega) ((cc_Walk).trans (by simp [gI_sI, gL_sL, gR_sR, gI_sL, gI_sR, gL_sI, gL_sR, gR_sI, gR_sL])) (fun j hj hne => cwc_sI hj (by rw [show cw_of _ _ = 176 from by simp [cw_of, ownI, ownL, ownR]]; exact hne))] at hP
  exact hP
theorem gf_Walk_answer (hx : p.tables.exec = Jvm.exec) (hb : c.code = cc) {own : String} {index : Nat} {Ts : List Cond} (hts : ∀ w ∈ Ts, w.before args s = true) (hin : ∀ w ∈ u_ws RX6 TX6 7, w ∈ Ts) (hown : s.vm.findClass own = some m.cls) (hK : cwK D A ad cA tb0 tb1 s) (hO : cwO D A ad cA s st H locs) (hlink : (Cond.fieldLink own index "CallWalker$Walk" "answer" "I").before args s = true) (hdg : decode cc pc = .ok (.getfield index, 3)) (kk : W p l e R s m args below meth c H locs cells slots Q (F0 m (pc + 3) ls (.int (gI st 9 0 0) :: rest))) : W p l e R s m args below meth c H locs cells slots Q (F0 m pc ls (.ref (ad (176)) :: rest)) :=
  va_get (D := D) (ci := 6) (C := RX6) (T := TX6) (N := 7) hx hb hts hin hown hK.1 hO.1 (176) (wd_get (by omega) (cc_Walk)) rfl 5 (by decide) hlink (fun _ h => h) rfl hdg kk
theorem pf_Walk_answer (hx : p.tables.exec = Jvm.exec) (hb : c.code = cc) {own : String} {index : Nat} {Ts : List Cond} (hts : ∀ w ∈ Ts, w.before args s = true) (hin : ∀ w ∈ u_ws RX6 TX6 7, w ∈ Ts) (hown : s.vm.findClass own = some m.cls) (hK : cwK D A ad cA tb0 tb1 s) (hO : cwO D A ad cA s st H locs) {v : Int32} (hlink : (Cond.fieldLink own index "CallWalker$Walk" "answer" "I").before args s = true) (hdg : decode cc pc = .ok (.putfield index, 3)) (kk : ∀ (H1 : Heap) (locs1 : List Loc), cwO D A ad cA s (sI st 9 0 0 v) H1 locs1 → W p l e R s m args below meth c H1 locs1 cells slots Q (F0 m (pc + 3) ls rest)) : W p l e R s m args below meth c H locs cells slots Q (F0 m pc ls (.int v :: .ref (ad (176)) :: rest)) := by
  refine va_put (D := D) (ci := 6) (v := .int v) (ty := .int) (C := RX6) (T := TX6) (N := 7) hx hb hts hin tyX6 tyX6_ok nmX6 hown hK.1 hO.1 (hK.2.1.D _) hO.2 (176) (wd_get (by omega) (cc_Walk)) rfl 5 (by decide) hlink (fun _ h => h) rfl (by decide +kernel) rfl rfl (Nat.le_of_ble_eq_true rfl) hdg (fun H1 locs1 hP _ hS => kk H1 locs1 ⟨?_, hS⟩)
  rw [cw_put (st2 := sI st 9 0 0 v) (by omega) ((cc_Walk).trans (by simp [gI_sI, gL_sL, gR_sR, gI_sL, gI_sR, gL_sI, gL_sR, gR_sI, gR_sL])) (fun j hj hne => cwc_sI hj (by rw [show cw_of _ _ = 176 from by simp [cw_of, ownI, ownL, ownR]]; exact hne))] at hP
  exact hP
theorem gf_Walk_result (hx : p.tables.exec = Jvm.exec) (hb : c.code = cc) {own : String} {index : Nat} {Ts : List Cond} (hts : ∀ w ∈ Ts, w.before args s = true) (hin : ∀ w ∈ u_ws RX6 TX6 7, w ∈ Ts) (hown : s.vm.findClass own = some m.cls) (hK : cwK D A ad cA tb0 tb1 s) (hO : cwO D A ad cA s st H locs) (hlink : (Cond.fieldLink own index "CallWalker$Walk" "result" "J").before args s = true) (hdg : decode cc pc = .ok (.getfield index, 3)) (kk : W p l e R s m args below meth c H locs cells slots Q (F0 m (pc + 3) ls (.long (gL st 5 0 0) :: rest))) : W p l e R s m args below meth c H locs cells slots Q (F0 m pc ls (.ref (ad (176)) :: rest)) :=
  va_get (D := D) (ci := 6) (C := RX6) (T := TX6) (N := 7) hx hb hts hin hown hK.1 hO.1 (176) (wd_get (by omega) (cc_Walk)) rfl 6 (by decide) hlink (fun _ h => h) rfl hdg kk
theorem pf_Walk_result (hx : p.tables.exec = Jvm.exec) (hb : c.code = cc) {own : String} {index : Nat} {Ts : List Cond} (hts : ∀ w ∈ Ts, w.before args s = true) (hin : ∀ w ∈ u_ws RX6 TX6 7, w ∈ Ts) (hown : s.vm.findClass own = some m.cls) (hK : cwK D A ad cA tb0 tb1 s) (hO : cwO D A ad cA s st H locs) {v : Int64} (hlink : (Cond.fieldLink own index "CallWalker$Walk" "result" "J").before args s = true) (hdg : decode cc pc = .ok (.putfield index, 3)) (kk : ∀ (H1 : Heap) (locs1 : List Loc), cwO D A ad cA s (sL st 5 0 0 v) H1 locs1 → W p l e R s m args below meth c H1 locs1 cells slots Q (F0 m (pc + 3) ls rest)) : W p l e R s m args below meth c H locs cells slots Q (F0 m pc ls (.long v :: .ref (ad (176)) :: rest)) := by
  refine va_put (D := D) (ci := 6) (v := .long v) (ty := .long) (C := RX6) (T := TX6) (N := 7) hx hb hts hin tyX6 tyX6_ok nmX6 hown hK.1 hO.1 (hK.2.1.D _) hO.2 (176) (wd_get (by omega) (cc_Walk)) rfl 6 (by decide) hlink (fun _ h => h) rfl (by decide +kernel) rfl rfl (Nat.le_of_ble_eq_true rfl) hdg (fun H1 locs1 hP _ hS => kk H1 locs1 ⟨?_, hS⟩)
  rw [cw_put (st2 := sL st 5 0 0 v) (by omega) ((cc_Walk).trans (by simp [gI_sI, gL_sL, gR_sR, gI_sL, gI_sR, gL_sI, gL_sR, gR_sI, gR_sL])) (fun j hj hne => cwc_sL hj (by rw [show cw_of _ _ = 176 from by simp [cw_of, ownI, ownL, ownR]]; exact hne))] at hP
  exact hP
theorem gf_Frame_pile (hx : p.tables.exec = Jvm.exec) (hb : c.code = cc) {own : String} {index : Nat} {Ts : List Cond} (hts : ∀ w ∈ Ts, w.before args s = true) (hin : ∀ w ∈ u_ws RX2 TX2 10, w ∈ Ts) (hown : s.vm.findClass own = some m.cls) (hK : cwK D A ad cA tb0 tb1 s) (hO : cwO D A ad cA s st H locs) {i : Nat} (hi : i < 10) (hlink : (Cond.fieldLink own index "CallWalker$Frame" "pile" "LCallWalker$Pile;").before args s = true) (hdg : decode cc pc = .ok (.getfield index, 3)) (kk : W p l e R s m args below meth c H locs cells slots Q (F0 m (pc + 3) ls (.ref (ad (182 + 9 * i)) :: rest))) : W p l e R s m args below meth c H locs cells slots Q (F0 m pc ls (.ref (ad (179 + 9 * i)) :: rest)) :=
  va_get (D := D) (ci := 2) (C := RX2) (T := TX2) (N := 10) hx hb hts hin hown hK.1 hO.1 (179 + 9 * i) (wd_get (by omega) (cc_Frame hi)) rfl 0 (by decide) hlink (fun _ h => h) rfl hdg kk
theorem gf_Frame_rows (hx : p.tables.exec = Jvm.exec) (hb : c.code = cc) {own : String} {index : Nat} {Ts : List Cond} (hts : ∀ w ∈ Ts, w.before args s = true) (hin : ∀ w ∈ u_ws RX2 TX2 10, w ∈ Ts) (hown : s.vm.findClass own = some m.cls) (hK : cwK D A ad cA tb0 tb1 s) (hO : cwO D A ad cA s st H locs) {i : Nat} (hi : i < 10) (hlink : (Cond.fieldLink own index "CallWalker$Frame" "rows" "LCallWalker$Rows;").before args s = true) (hdg : decode cc pc = .ok (.getfield index, 3)) (kk : W p l e R s m args below meth c H locs cells slots Q (F0 m (pc + 3) ls (.ref (ad (185 + 9 * i)) :: rest))) : W p l e R s m args below meth c H locs cells slots Q (F0 m pc ls (.ref (ad (179 + 9 * i)) :: rest)) :=
  va_get (D := D) (ci := 2) (C := RX2) (T := TX2) (N := 10) hx hb hts hin hown hK.1 hO.1 (179 + 9 * i) (wd_get (by omega) (cc_Frame hi)) rfl 1 (by decide) hlink (fun _ h => h) rfl hdg kk
theorem gf_Frame_handlerSteps (hx : p.tables.exec = Jvm.exec) (hb : c.code = cc) {own : String} {index : Nat} {Ts : List Cond} (hts : ∀ w ∈ Ts, w.before args s = true) (hin : ∀ w ∈ u_ws RX2 TX2 10, w ∈ Ts) (hown : s.vm.findClass own = some m.cls) (hK : cwK D A ad cA tb0 tb1 s) (hO : cwO D A ad cA s st H locs) {i : Nat} (hi : i < 10) (hlink : (Cond.fieldLink own index "CallWalker$Frame" "handlerSteps" "[I").before args s = true) (hdg : decode cc pc = .ok (.getfield index, 3)) (kk : W p l e R s m args below meth c H locs cells slots Q (F0 m (pc + 3) ls (.ref (ad (180 + 9 * i)) :: rest))) : W p l e R s m args below meth c H locs cells slots Q (F0 m pc ls (.ref (ad (179 + 9 * i)) :: rest)) :=
  va_get (D := D) (ci := 2) (C := RX2) (T := TX2) (N := 10) hx hb hts hin hown hK.1 hO.1 (179 + 9 * i) (wd_get (by omega) (cc_Frame hi)) rfl 2 (by decide) hlink (fun _ h => h) rfl hdg kk
theorem gf_Frame_handlerHeights (hx : p.tables.exec = Jvm.exec) (hb : c.code = cc) {own : String} {index : Nat} {Ts : List Cond} (hts : ∀ w ∈ Ts, w.before args s = true) (hin : ∀ w ∈ u_ws RX2 TX2 10, w ∈ Ts) (hown : s.vm.findClass own = some m.cls) (hK : cwK D A ad cA tb0 tb1 s) (hO : cwO D A ad cA s st H locs) {i : Nat} (hi : i < 10) (hlink : (Cond.fieldLink own index "CallWalker$Frame" "handlerHeights" "[I").before args s = true) (hdg : decode cc pc = .ok (.getfield index, 3)) (kk : W p l e R s m args below meth c H locs cells slots Q (F0 m (pc + 3) ls (.ref (ad (181 + 9 * i)) :: rest))) : W p l e R s m args below meth c H locs cells slots Q (F0 m pc ls (.ref (ad (179 + 9 * i)) :: rest)) :=
  va_get (D := D) (ci := 2) (C := RX2) (T := TX2) (N := 10) hx hb hts hin hown hK.1 hO.1 (179 + 9 * i) (wd_get (by omega) (cc_Frame hi)) rfl 3 (by decide) hlink (fun _ h => h) rfl hdg kk
theorem gf_Frame_handlers (hx : p.tables.exec = Jvm.exec) (hb : c.code = cc) {own : String} {index : Nat} {Ts : List Cond} (hts : ∀ w ∈ Ts, w.before args s = true) (hin : ∀ w ∈ u_ws RX2 TX2 10, w ∈ Ts) (hown : s.vm.findClass own = some m.cls) (hK : cwK D A ad cA tb0 tb1 s) (hO : cwO D A ad cA s st H locs) {i : Nat} (hi : i < 10) (hlink : (Cond.fieldLink own index "CallWalker$Frame" "handlers" "I").before args s = true) (hdg : decode cc pc = .ok (.getfield index, 3)) (kk : W p l e R s m args below meth c H locs cells slots Q (F0 m (pc + 3) ls (.int (gI st 12 i 0) :: rest))) : W p l e R s m args below meth c H locs cells slots Q (F0 m pc ls (.ref (ad (179 + 9 * i)) :: rest)) :=
  va_get (D := D) (ci := 2) (C := RX2) (T := TX2) (N := 10) hx hb hts hin hown hK.1 hO.1 (179 + 9 * i) (wd_get (by omega) (cc_Frame hi)) rfl 4 (by decide) hlink (fun _ h => h) rfl hdg kk
theorem pf_Frame_handlers (hx : p.tables.exec = Jvm.exec) (hb : c.code = cc) {own : String} {index : Nat} {Ts : List Cond} (hts : ∀ w ∈ Ts, w.before args s = true) (hin : ∀ w ∈ u_ws RX2 TX2 10, w ∈ Ts) (hown : s.vm.findClass own = some m.cls) (hK : cwK D A ad cA tb0 tb1 s) (hO : cwO D A ad cA s st H locs) {i : Nat} (hi : i < 10) {v : Int32} (hlink : (Cond.fieldLink own index "CallWalker$Frame" "handlers" "I").before args s = true) (hdg : decode cc pc = .ok (.putfield index, 3)) (kk : ∀ (H1 : Heap) (locs1 : List Loc), cwO D A ad cA s (sI st 12 i 0 v) H1 locs1 → W p l e R s m args below meth c H1 locs1 cells slots Q (F0 m (pc + 3) ls rest)) : W p l e R s m args below meth c H locs cells slots Q (F0 m pc ls (.int v :: .ref (ad (179 + 9 * i)) :: rest)) := by
  refine va_put (D := D) (ci := 2) (v := .int v) (ty := .int) (C := RX2) (T := TX2) (N := 10) hx hb hts hin tyX2 tyX2_ok nmX2 hown hK.1 hO.1 (hK.2.1.D _) hO.2 (179 + 9 * i) (wd_get (by omega) (cc_Frame hi)) rfl 4 (by decide) hlink (fun _ h => h) rfl (by decide +kernel) rfl rfl (Nat.le_of_ble_eq_true rfl) hdg (fun H1 locs1 hP _ hS => kk H1 locs1 ⟨?_, hS⟩)
  rw [cw_put (st2 := sI st 12 i 0 v) (by omega) ((cc_Frame hi).trans (by simp [gI_sI, gL_sL, gR_sR, gI_sL, gI_sR, gL_sI, gL_sR, gR_sI, gR_sL])) (fun j hj hne => cwc_sI hj (by rw [show cw_of _ _ = 179 + 9 * i from by simp [cw_of, ownI, ownL, ownR]]; exact hne))] at hP
  exact hP
theorem gf_Frame_behaviour (hx : p.tables.exec = Jvm.exec) (hb : c.code = cc) {own : String} {index : Nat} {Ts : List Cond} (hts : ∀ w ∈ Ts, w.before args s = true) (hin : ∀ w ∈ u_ws RX2 TX2 10, w ∈ Ts) (hown : s.vm.findClass own = some m.cls) (hK : cwK D A ad cA tb0 tb1 s) (hO : cwO D A ad cA s st H locs) {i : Nat} (hi : i < 10) (hlink : (Cond.fieldLink own index "CallWalker$Frame" "behaviour" "LCallWalker$Behaviour;").before args s = true) (hdg : decode cc pc = .ok (.getfield index, 3)) (kk : W p l e R s m args below meth c H locs cells slots Q (F0 m (pc + 3) ls (.ref (ad (4 + 3 * gR st 0 i)) :: rest))) : W p l e R s m args below meth c H locs cells slots Q (F0 m pc ls (.ref (ad (179 + 9 * i)) :: rest)) :=
  va_get (D := D) (ci := 2) (C := RX2) (T := TX2) (N := 10) hx hb hts hin hown hK.1 hO.1 (179 + 9 * i) (wd_get (by omega) (cc_Frame hi)) rfl 5 (by decide) hlink (fun _ h => h) rfl hdg kk
theorem pf_Frame_behaviour (hx : p.tables.exec = Jvm.exec) (hb : c.code = cc) {own : String} {index : Nat} {Ts : List Cond} (hts : ∀ w ∈ Ts, w.before args s = true) (hin : ∀ w ∈ u_ws RX2 TX2 10, w ∈ Ts) (hown : s.vm.findClass own = some m.cls) (hK : cwK D A ad cA tb0 tb1 s) (hO : cwO D A ad cA s st H locs) {i : Nat} (hi : i < 10) {v : Nat} (_hv : v < 48) (hlink : (Cond.fieldLink own index "CallWalker$Frame" "behaviour" "LCallWalker$Behaviour;").before args s = true) (hdg : decode cc pc = .ok (.putfield index, 3)) (kk : ∀ (H1 : Heap) (locs1 : List Loc), cwO D A ad cA s (sR st 0 i v) H1 locs1 → W p l e R s m args below meth c H1 locs1 cells slots Q (F0 m (pc + 3) ls rest)) : W p l e R s m args below meth c H locs cells slots Q (F0 m pc ls (.ref (ad (4 + 3 * v)) :: .ref (ad (179 + 9 * i)) :: rest)) := by
  refine va_put (D := D) (ci := 2) (v := .ref (ad (4 + 3 * v))) (ty := .object "CallWalker$Behaviour") (C := RX2) (T := TX2) (N := 10) hx hb hts hin tyX2 tyX2_ok nmX2 hown hK.1 hO.1 (hK.2.1.D _) hO.2 (179 + 9 * i) (wd_get (by omega) (cc_Frame hi)) rfl 5 (by decide) hlink (fun _ h => h) rfl (by decide +kernel) rfl rfl (Nat.le_of_ble_eq_true rfl) hdg (fun H1 locs1 hP _ hS => kk H1 locs1 ⟨?_, hS⟩)
  rw [cw_put (st2 := sR st 0 i v) (by omega) ((cc_Frame hi).trans (by simp [gI_sI, gL_sL, gR_sR, gI_sL, gI_sR, gL_sI, gL_sR, gR_sI, gR_sL])) (fun j hj hne => cwc_sR hj (by rw [show cw_of _ _ = 179 + 9 * i from by simp [cw_of, ownI, ownL, ownR]]; exact hne))] at hP
  exact hP
theorem gf_Frame_contract (hx : p.tables.exec = Jvm.exec) (hb : c.code = cc) {own : String} {index : Nat} {Ts : List Cond} (hts : ∀ w ∈ Ts, w.before args s = true) (hin : ∀ w ∈ u_ws RX2 TX2 10, w ∈ Ts) (hown : s.vm.findClass own = some m.cls) (hK : cwK D A ad cA tb0 tb1 s) (hO : cwO D A ad cA s st H locs) {i : Nat} (hi : i < 10) (hlink : (Cond.fieldLink own index "CallWalker$Frame" "contract" "I").before args s = true) (hdg : decode cc pc = .ok (.getfield index, 3)) (kk : W p l e R s m args below meth c H locs cells slots Q (F0 m (pc + 3) ls (.int (gI st 13 i 0) :: rest))) : W p l e R s m args below meth c H locs cells slots Q (F0 m pc ls (.ref (ad (179 + 9 * i)) :: rest)) :=
  va_get (D := D) (ci := 2) (C := RX2) (T := TX2) (N := 10) hx hb hts hin hown hK.1 hO.1 (179 + 9 * i) (wd_get (by omega) (cc_Frame hi)) rfl 6 (by decide) hlink (fun _ h => h) rfl hdg kk
theorem pf_Frame_contract (hx : p.tables.exec = Jvm.exec) (hb : c.code = cc) {own : String} {index : Nat} {Ts : List Cond} (hts : ∀ w ∈ Ts, w.before args s = true) (hin : ∀ w ∈ u_ws RX2 TX2 10, w ∈ Ts) (hown : s.vm.findClass own = some m.cls) (hK : cwK D A ad cA tb0 tb1 s) (hO : cwO D A ad cA s st H locs) {i : Nat} (hi : i < 10) {v : Int32} (hlink : (Cond.fieldLink own index "CallWalker$Frame" "contract" "I").before args s = true) (hdg : decode cc pc = .ok (.putfield index, 3)) (kk : ∀ (H1 : Heap) (locs1 : List Loc), cwO D A ad cA s (sI st 13 i 0 v) H1 locs1 → W p l e R s m args below meth c H1 locs1 cells slots Q (F0 m (pc + 3) ls rest)) : W p l e R s m args below meth c H locs cells slots Q (F0 m pc ls (.int v :: .ref (ad (179 + 9 * i)) :: rest)) := by
  refine va_put (D := D) (ci := 2) (v := .int v) (ty := .int) (C := RX2) (T := TX2) (N := 10) hx hb hts hin tyX2 tyX2_ok nmX2 hown hK.1 hO.1 (hK.2.1.D _) hO.2 (179 + 9 * i) (wd_get (by omega) (cc_Frame hi)) rfl 6 (by decide) hlink (fun _ h => h) rfl (by decide +kernel) rfl rfl (Nat.le_of_ble_eq_true rfl) hdg (fun H1 locs1 hP _ hS => kk H1 locs1 ⟨?_, hS⟩)
  rw [cw_put (st2 := sI st 13 i 0 v) (by omega) ((cc_Frame hi).trans (by simp [gI_sI, gL_sL, gR_sR, gI_sL, gI_sR, gL_sI, gL_sR, gR_sI, gR_sL])) (fun j hj hne => cwc_sI hj (by rw [show cw_of _ _ = 179 + 9 * i from by simp [cw_of, ownI, ownL, ownR]]; exact hne))] at hP
  exact hP
theorem gf_Frame_caller (hx : p.tables.exec = Jvm.exec) (hb : c.code = cc) {own : String} {index : Nat} {Ts : List Cond} (hts : ∀ w ∈ Ts, w.before args s = true) (hin : ∀ w ∈ u_ws RX2 TX2 10, w ∈ Ts) (hown : s.vm.findClass own = some m.cls) (hK : cwK D A ad cA tb0 tb1 s) (hO : cwO D A ad cA s st H locs) {i : Nat} (hi : i < 10) (hlink : (Cond.fieldLink own index "CallWalker$Frame" "caller" "I").before args s = true) (hdg : decode cc pc = .ok (.getfield index, 3)) (kk : W p l e R s m args below meth c H locs cells slots Q (F0 m (pc + 3) ls (.int (gI st 14 i 0) :: rest))) : W p l e R s m args below meth c H locs cells slots Q (F0 m pc ls (.ref (ad (179 + 9 * i)) :: rest)) :=
  va_get (D := D) (ci := 2) (C := RX2) (T := TX2) (N := 10) hx hb hts hin hown hK.1 hO.1 (179 + 9 * i) (wd_get (by omega) (cc_Frame hi)) rfl 7 (by decide) hlink (fun _ h => h) rfl hdg kk
theorem pf_Frame_caller (hx : p.tables.exec = Jvm.exec) (hb : c.code = cc) {own : String} {index : Nat} {Ts : List Cond} (hts : ∀ w ∈ Ts, w.before args s = true) (hin : ∀ w ∈ u_ws RX2 TX2 10, w ∈ Ts) (hown : s.vm.findClass own = some m.cls) (hK : cwK D A ad cA tb0 tb1 s) (hO : cwO D A ad cA s st H locs) {i : Nat} (hi : i < 10) {v : Int32} (hlink : (Cond.fieldLink own index "CallWalker$Frame" "caller" "I").before args s = true) (hdg : decode cc pc = .ok (.putfield index, 3)) (kk : ∀ (H1 : Heap) (locs1 : List Loc), cwO D A ad cA s (sI st 14 i 0 v) H1 locs1 → W p l e R s m args below meth c H1 locs1 cells slots Q (F0 m (pc + 3) ls rest)) : W p l e R s m args below meth c H locs cells slots Q (F0 m pc ls (.int v :: .ref (ad (179 + 9 * i)) :: rest)) := by
  refine va_put (D := D) (ci := 2) (v := .int v) (ty := .int) (C := RX2) (T := TX2) (N := 10) hx hb hts hin tyX2 tyX2_ok nmX2 hown hK.1 hO.1 (hK.2.1.D _) hO.2 (179 + 9 * i) (wd_get (by omega) (cc_Frame hi)) rfl 7 (by decide) hlink (fun _ h => h) rfl (by decide +kernel) rfl rfl (Nat.le_of_ble_eq_true rfl) hdg (fun H1 locs1 hP _ hS => kk H1 locs1 ⟨?_, hS⟩)
  rw [cw_put (st2 := sI st 14 i 0 v) (by omega) ((cc_Frame hi).trans (by simp [gI_sI, gL_sL, gR_sR, gI_sL, gI_sR, gL_sI, gL_sR, gR_sI, gR_sL])) (fun j hj hne => cwc_sI hj (by rw [show cw_of _ _ = 179 + 9 * i from by simp [cw_of, ownI, ownL, ownR]]; exact hne))] at hP
  exact hP
theorem gf_Frame_next (hx : p.tables.exec = Jvm.exec) (hb : c.code = cc) {own : String} {index : Nat} {Ts : List Cond} (hts : ∀ w ∈ Ts, w.before args s = true) (hin : ∀ w ∈ u_ws RX2 TX2 10, w ∈ Ts) (hown : s.vm.findClass own = some m.cls) (hK : cwK D A ad cA tb0 tb1 s) (hO : cwO D A ad cA s st H locs) {i : Nat} (hi : i < 10) (hlink : (Cond.fieldLink own index "CallWalker$Frame" "next" "I").before args s = true) (hdg : decode cc pc = .ok (.getfield index, 3)) (kk : W p l e R s m args below meth c H locs cells slots Q (F0 m (pc + 3) ls (.int (gI st 15 i 0) :: rest))) : W p l e R s m args below meth c H locs cells slots Q (F0 m pc ls (.ref (ad (179 + 9 * i)) :: rest)) :=
  va_get (D := D) (ci := 2) (C := RX2) (T := TX2) (N := 10) hx hb hts hin hown hK.1 hO.1 (179 + 9 * i) (wd_get (by omega) (cc_Frame hi)) rfl 8 (by decide) hlink (fun _ h => h) rfl hdg kk
theorem pf_Frame_next (hx : p.tables.exec = Jvm.exec) (hb : c.code = cc) {own : String} {index : Nat} {Ts : List Cond} (hts : ∀ w ∈ Ts, w.before args s = true) (hin : ∀ w ∈ u_ws RX2 TX2 10, w ∈ Ts) (hown : s.vm.findClass own = some m.cls) (hK : cwK D A ad cA tb0 tb1 s) (hO : cwO D A ad cA s st H locs) {i : Nat} (hi : i < 10) {v : Int32} (hlink : (Cond.fieldLink own index "CallWalker$Frame" "next" "I").before args s = true) (hdg : decode cc pc = .ok (.putfield index, 3)) (kk : ∀ (H1 : Heap) (locs1 : List Loc), cwO D A ad cA s (sI st 15 i 0 v) H1 locs1 → W p l e R s m args below meth c H1 locs1 cells slots Q (F0 m (pc + 3) ls rest)) : W p l e R s m args below meth c H locs cells slots Q (F0 m pc ls (.int v :: .ref (ad (179 + 9 * i)) :: rest)) := by
  refine va_put (D := D) (ci := 2) (v := .int v) (ty := .int) (C := RX2) (T := TX2) (N := 10) hx hb hts hin tyX2 tyX2_ok nmX2 hown hK.1 hO.1 (hK.2.1.D _) hO.2 (179 + 9 * i) (wd_get (by omega) (cc_Frame hi)) rfl 8 (by decide) hlink (fun _ h => h) rfl (by decide +kernel) rfl rfl (Nat.le_of_ble_eq_true rfl) hdg (fun H1 locs1 hP _ hS => kk H1 locs1 ⟨?_, hS⟩)
  rw [cw_put (st2 := sI st 15 i 0 v) (by omega) ((cc_Frame hi).trans (by simp [gI_sI, gL_sL, gR_sR, gI_sL, gI_sR, gL_sI, gL_sR, gR_sI, gR_sL])) (fun j hj hne => cwc_sI hj (by rw [show cw_of _ _ = 179 + 9 * i from by simp [cw_of, ownI, ownL, ownR]]; exact hne))] at hP
  exact hP
theorem gf_Frame_stop (hx : p.tables.exec = Jvm.exec) (hb : c.code = cc) {own : String} {index : Nat} {Ts : List Cond} (hts : ∀ w ∈ Ts, w.before args s = true) (hin : ∀ w ∈ u_ws RX2 TX2 10, w ∈ Ts) (hown : s.vm.findClass own = some m.cls) (hK : cwK D A ad cA tb0 tb1 s) (hO : cwO D A ad cA s st H locs) {i : Nat} (hi : i < 10) (hlink : (Cond.fieldLink own index "CallWalker$Frame" "stop" "I").before args s = true) (hdg : decode cc pc = .ok (.getfield index, 3)) (kk : W p l e R s m args below meth c H locs cells slots Q (F0 m (pc + 3) ls (.int (gI st 16 i 0) :: rest))) : W p l e R s m args below meth c H locs cells slots Q (F0 m pc ls (.ref (ad (179 + 9 * i)) :: rest)) :=
  va_get (D := D) (ci := 2) (C := RX2) (T := TX2) (N := 10) hx hb hts hin hown hK.1 hO.1 (179 + 9 * i) (wd_get (by omega) (cc_Frame hi)) rfl 9 (by decide) hlink (fun _ h => h) rfl hdg kk
theorem pf_Frame_stop (hx : p.tables.exec = Jvm.exec) (hb : c.code = cc) {own : String} {index : Nat} {Ts : List Cond} (hts : ∀ w ∈ Ts, w.before args s = true) (hin : ∀ w ∈ u_ws RX2 TX2 10, w ∈ Ts) (hown : s.vm.findClass own = some m.cls) (hK : cwK D A ad cA tb0 tb1 s) (hO : cwO D A ad cA s st H locs) {i : Nat} (hi : i < 10) {v : Int32} (hlink : (Cond.fieldLink own index "CallWalker$Frame" "stop" "I").before args s = true) (hdg : decode cc pc = .ok (.putfield index, 3)) (kk : ∀ (H1 : Heap) (locs1 : List Loc), cwO D A ad cA s (sI st 16 i 0 v) H1 locs1 → W p l e R s m args below meth c H1 locs1 cells slots Q (F0 m (pc + 3) ls rest)) : W p l e R s m args below meth c H locs cells slots Q (F0 m pc ls (.int v :: .ref (ad (179 + 9 * i)) :: rest)) := by
  refine va_put (D := D) (ci := 2) (v := .int v) (ty := .int) (C := RX2) (T := TX2) (N := 10) hx hb hts hin tyX2 tyX2_ok nmX2 hown hK.1 hO.1 (hK.2.1.D _) hO.2 (179 + 9 * i) (wd_get (by omega) (cc_Frame hi)) rfl 9 (by decide) hlink (fun _ h => h) rfl (by decide +kernel) rfl rfl (Nat.le_of_ble_eq_true rfl) hdg (fun H1 locs1 hP _ hS => kk H1 locs1 ⟨?_, hS⟩)
  rw [cw_put (st2 := sI st 16 i 0 v) (by omega) ((cc_Frame hi).trans (by simp [gI_sI, gL_sL, gR_sR, gI_sL, gI_sR, gL_sI, gL_sR, gR_sI, gR_sL])) (fun j hj hne => cwc_sI hj (by rw [show cw_of _ _ = 179 + 9 * i from by simp [cw_of, ownI, ownL, ownR]]; exact hne))] at hP
  exact hP
theorem gf_Pile_kinds (hx : p.tables.exec = Jvm.exec) (hb : c.code = cc) {own : String} {index : Nat} {Ts : List Cond} (hts : ∀ w ∈ Ts, w.before args s = true) (hin : ∀ w ∈ u_ws RX4 TX4 4, w ∈ Ts) (hown : s.vm.findClass own = some m.cls) (hK : cwK D A ad cA tb0 tb1 s) (hO : cwO D A ad cA s st H locs) {i : Nat} (hi : i < 10) (hlink : (Cond.fieldLink own index "CallWalker$Pile" "kinds" "[I").before args s = true) (hdg : decode cc pc = .ok (.getfield index, 3)) (kk : W p l e R s m args below meth c H locs cells slots Q (F0 m (pc + 3) ls (.ref (ad (183 + 9 * i)) :: rest))) : W p l e R s m args below meth c H locs cells slots Q (F0 m pc ls (.ref (ad (182 + 9 * i)) :: rest)) :=
  va_get (D := D) (ci := 4) (C := RX4) (T := TX4) (N := 4) hx hb hts hin hown hK.1 hO.1 (182 + 9 * i) (wd_get (by omega) (cc_Pile hi)) rfl 0 (by decide) hlink (fun _ h => h) rfl hdg kk
theorem gf_Pile_numbers (hx : p.tables.exec = Jvm.exec) (hb : c.code = cc) {own : String} {index : Nat} {Ts : List Cond} (hts : ∀ w ∈ Ts, w.before args s = true) (hin : ∀ w ∈ u_ws RX4 TX4 4, w ∈ Ts) (hown : s.vm.findClass own = some m.cls) (hK : cwK D A ad cA tb0 tb1 s) (hO : cwO D A ad cA s st H locs) {i : Nat} (hi : i < 10) (hlink : (Cond.fieldLink own index "CallWalker$Pile" "numbers" "[J").before args s = true) (hdg : decode cc pc = .ok (.getfield index, 3)) (kk : W p l e R s m args below meth c H locs cells slots Q (F0 m (pc + 3) ls (.ref (ad (184 + 9 * i)) :: rest))) : W p l e R s m args below meth c H locs cells slots Q (F0 m pc ls (.ref (ad (182 + 9 * i)) :: rest)) :=
  va_get (D := D) (ci := 4) (C := RX4) (T := TX4) (N := 4) hx hb hts hin hown hK.1 hO.1 (182 + 9 * i) (wd_get (by omega) (cc_Pile hi)) rfl 1 (by decide) hlink (fun _ h => h) rfl hdg kk
theorem gf_Pile_height (hx : p.tables.exec = Jvm.exec) (hb : c.code = cc) {own : String} {index : Nat} {Ts : List Cond} (hts : ∀ w ∈ Ts, w.before args s = true) (hin : ∀ w ∈ u_ws RX4 TX4 4, w ∈ Ts) (hown : s.vm.findClass own = some m.cls) (hK : cwK D A ad cA tb0 tb1 s) (hO : cwO D A ad cA s st H locs) {i : Nat} (hi : i < 10) (hlink : (Cond.fieldLink own index "CallWalker$Pile" "height" "I").before args s = true) (hdg : decode cc pc = .ok (.getfield index, 3)) (kk : W p l e R s m args below meth c H locs cells slots Q (F0 m (pc + 3) ls (.int (gI st 18 i 0) :: rest))) : W p l e R s m args below meth c H locs cells slots Q (F0 m pc ls (.ref (ad (182 + 9 * i)) :: rest)) :=
  va_get (D := D) (ci := 4) (C := RX4) (T := TX4) (N := 4) hx hb hts hin hown hK.1 hO.1 (182 + 9 * i) (wd_get (by omega) (cc_Pile hi)) rfl 2 (by decide) hlink (fun _ h => h) rfl hdg kk
theorem pf_Pile_height (hx : p.tables.exec = Jvm.exec) (hb : c.code = cc) {own : String} {index : Nat} {Ts : List Cond} (hts : ∀ w ∈ Ts, w.before args s = true) (hin : ∀ w ∈ u_ws RX4 TX4 4, w ∈ Ts) (hown : s.vm.findClass own = some m.cls) (hK : cwK D A ad cA tb0 tb1 s) (hO : cwO D A ad cA s st H locs) {i : Nat} (hi : i < 10) {v : Int32} (hlink : (Cond.fieldLink own index "CallWalker$Pile" "height" "I").before args s = true) (hdg : decode cc pc = .ok (.putfield index, 3)) (kk : ∀ (H1 : Heap) (locs1 : List Loc), cwO D A ad cA s (sI st 18 i 0 v) H1 locs1 → W p l e R s m args below meth c H1 locs1 cells slots Q (F0 m (pc + 3) ls rest)) : W p l e R s m args below meth c H locs cells slots Q (F0 m pc ls (.int v :: .ref (ad (182 + 9 * i)) :: rest)) := by
  refine va_put (D := D) (ci := 4) (v := .int v) (ty := .int) (C := RX4) (T := TX4) (N := 4) hx hb hts hin tyX4 tyX4_ok nmX4 hown hK.1 hO.1 (hK.2.1.D _) hO.2 (182 + 9 * i) (wd_get (by omega) (cc_Pile hi)) rfl 2 (by decide) hlink (fun _ h => h) rfl (by decide +kernel) rfl rfl (Nat.le_of_ble_eq_true rfl) hdg (fun H1 locs1 hP _ hS => kk H1 locs1 ⟨?_, hS⟩)
  rw [cw_put (st2 := sI st 18 i 0 v) (by omega) ((cc_Pile hi).trans (by simp [gI_sI, gL_sL, gR_sR, gI_sL, gI_sR, gL_sI, gL_sR, gR_sI, gR_sL])) (fun j hj hne => cwc_sI hj (by rw [show cw_of _ _ = 182 + 9 * i from by simp [cw_of, ownI, ownL, ownR]]; exact hne))] at hP
  exact hP
theorem gf_Pile_heightBefore (hx : p.tables.exec = Jvm.exec) (hb : c.code = cc) {own : String} {index : Nat} {Ts : List Cond} (hts : ∀ w ∈ Ts, w.before args s = true) (hin : ∀ w ∈ u_ws RX4 TX4 4, w ∈ Ts) (hown : s.vm.findClass own = some m.cls) (hK : cwK D A ad cA tb0 tb1 s) (hO : cwO D A ad cA s st H locs) {i : Nat} (hi : i < 10) (hlink : (Cond.fieldLink own index "CallWalker$Pile" "heightBefore" "I").before args s = true) (hdg : decode cc pc = .ok (.getfield index, 3)) (kk : W p l e R s m args below meth c H locs cells slots Q (F0 m (pc + 3) ls (.int (gI st 19 i 0) :: rest))) : W p l e R s m args below meth c H locs cells slots Q (F0 m pc ls (.ref (ad (182 + 9 * i)) :: rest)) :=
  va_get (D := D) (ci := 4) (C := RX4) (T := TX4) (N := 4) hx hb hts hin hown hK.1 hO.1 (182 + 9 * i) (wd_get (by omega) (cc_Pile hi)) rfl 3 (by decide) hlink (fun _ h => h) rfl hdg kk
theorem pf_Pile_heightBefore (hx : p.tables.exec = Jvm.exec) (hb : c.code = cc) {own : String} {index : Nat} {Ts : List Cond} (hts : ∀ w ∈ Ts, w.before args s = true) (hin : ∀ w ∈ u_ws RX4 TX4 4, w ∈ Ts) (hown : s.vm.findClass own = some m.cls) (hK : cwK D A ad cA tb0 tb1 s) (hO : cwO D A ad cA s st H locs) {i : Nat} (hi : i < 10) {v : Int32} (hlink : (Cond.fieldLink own index "CallWalker$Pile" "heightBefore" "I").before args s = true) (hdg : decode cc pc = .ok (.putfield index, 3)) (kk : ∀ (H1 : Heap) (locs1 : List Loc), cwO D A ad cA s (sI st 19 i 0 v) H1 locs1 → W p l e R s m args below meth c H1 locs1 cells slots Q (F0 m (pc + 3) ls rest)) : W p l e R s m args below meth c H locs cells slots Q (F0 m pc ls (.int v :: .ref (ad (182 + 9 * i)) :: rest)) := by
  refine va_put (D := D) (ci := 4) (v := .int v) (ty := .int) (C := RX4) (T := TX4) (N := 4) hx hb hts hin tyX4 tyX4_ok nmX4 hown hK.1 hO.1 (hK.2.1.D _) hO.2 (182 + 9 * i) (wd_get (by omega) (cc_Pile hi)) rfl 3 (by decide) hlink (fun _ h => h) rfl (by decide +kernel) rfl rfl (Nat.le_of_ble_eq_true rfl) hdg (fun H1 locs1 hP _ hS => kk H1 locs1 ⟨?_, hS⟩)
  rw [cw_put (st2 := sI st 19 i 0 v) (by omega) ((cc_Pile hi).trans (by simp [gI_sI, gL_sL, gR_sR, gI_sL, gI_sR, gL_sI, gL_sR, gR_sI, gR_sL])) (fun j hj hne => cwc_sI hj (by rw [show cw_of _ _ = 182 + 9 * i from by simp [cw_of, ownI, ownL, ownR]]; exact hne))] at hP
  exact hP
theorem gf_Rows_pile (hx : p.tables.exec = Jvm.exec) (hb : c.code = cc) {own : String} {index : Nat} {Ts : List Cond} (hts : ∀ w ∈ Ts, w.before args s = true) (hin : ∀ w ∈ u_ws RX5 TX5 3, w ∈ Ts) (hown : s.vm.findClass own = some m.cls) (hK : cwK D A ad cA tb0 tb1 s) (hO : cwO D A ad cA s st H locs) {i : Nat} (hi : i < 10) (hlink : (Cond.fieldLink own index "CallWalker$Rows" "pile" "LCallWalker$Pile;").before args s = true) (hdg : decode cc pc = .ok (.getfield index, 3)) (kk : W p l e R s m args below meth c H locs cells slots Q (F0 m (pc + 3) ls (.ref (ad (182 + 9 * i)) :: rest))) : W p l e R s m args below meth c H locs cells slots Q (F0 m pc ls (.ref (ad (185 + 9 * i)) :: rest)) :=
  va_get (D := D) (ci := 5) (C := RX5) (T := TX5) (N := 3) hx hb hts hin hown hK.1 hO.1 (185 + 9 * i) (wd_get (by omega) (cc_Rows hi)) rfl 0 (by decide) hlink (fun _ h => h) rfl hdg kk
theorem gf_Rows_elements (hx : p.tables.exec = Jvm.exec) (hb : c.code = cc) {own : String} {index : Nat} {Ts : List Cond} (hts : ∀ w ∈ Ts, w.before args s = true) (hin : ∀ w ∈ u_ws RX5 TX5 3, w ∈ Ts) (hown : s.vm.findClass own = some m.cls) (hK : cwK D A ad cA tb0 tb1 s) (hO : cwO D A ad cA s st H locs) {i : Nat} (hi : i < 10) (hlink : (Cond.fieldLink own index "CallWalker$Rows" "elements" "[J").before args s = true) (hdg : decode cc pc = .ok (.getfield index, 3)) (kk : W p l e R s m args below meth c H locs cells slots Q (F0 m (pc + 3) ls (.ref (ad (186 + 9 * i)) :: rest))) : W p l e R s m args below meth c H locs cells slots Q (F0 m pc ls (.ref (ad (185 + 9 * i)) :: rest)) :=
  va_get (D := D) (ci := 5) (C := RX5) (T := TX5) (N := 3) hx hb hts hin hown hK.1 hO.1 (185 + 9 * i) (wd_get (by omega) (cc_Rows hi)) rfl 1 (by decide) hlink (fun _ h => h) rfl hdg kk
theorem gf_Rows_lengths (hx : p.tables.exec = Jvm.exec) (hb : c.code = cc) {own : String} {index : Nat} {Ts : List Cond} (hts : ∀ w ∈ Ts, w.before args s = true) (hin : ∀ w ∈ u_ws RX5 TX5 3, w ∈ Ts) (hown : s.vm.findClass own = some m.cls) (hK : cwK D A ad cA tb0 tb1 s) (hO : cwO D A ad cA s st H locs) {i : Nat} (hi : i < 10) (hlink : (Cond.fieldLink own index "CallWalker$Rows" "lengths" "[I").before args s = true) (hdg : decode cc pc = .ok (.getfield index, 3)) (kk : W p l e R s m args below meth c H locs cells slots Q (F0 m (pc + 3) ls (.ref (ad (187 + 9 * i)) :: rest))) : W p l e R s m args below meth c H locs cells slots Q (F0 m pc ls (.ref (ad (185 + 9 * i)) :: rest)) :=
  va_get (D := D) (ci := 5) (C := RX5) (T := TX5) (N := 3) hx hb hts hin hown hK.1 hO.1 (185 + 9 * i) (wd_get (by omega) (cc_Rows hi)) rfl 2 (by decide) hlink (fun _ h => h) rfl hdg kk
theorem al_BehArr (hx : p.tables.exec = Jvm.exec) (hb : c.code = cc) (hK : cwK D A ad cA tb0 tb1 s) (hO : cwO D A ad cA s st H locs) {x : Int32} (hin : ix x 48 = true) (hdg : decode cc pc = .ok (.aaload, 1)) (kk : W p l e R s m args below meth c H locs cells slots Q (F0 m (pc + 1) ls (.ref (ad (4 + 3 * x.toNatClampNeg)) :: rest))) : W p l e R s m args below meth c H locs cells slots Q (F0 m pc ls (.int x :: .ref (ad (2)) :: rest)) :=
  va_aldq hx hb hK.1 hO.1 (2) 3 (wd_get (by omega) (cc_BehArr)) rfl (ix_in hin) hdg kk
theorem al_Guard (hx : p.tables.exec = Jvm.exec) (hb : c.code = cc) (hK : cwK D A ad cA tb0 tb1 s) (hO : cwO D A ad cA s st H locs) {x : Int32} (hin : ix x 8 = true) (hdg : decode cc pc = .ok (.baload, 1)) (kk : W p l e R s m args below meth c H locs cells slots Q (F0 m (pc + 1) ls (.int (gI st 3 0 (x.toNatClampNeg)) :: rest))) : W p l e R s m args below meth c H locs cells slots Q (F0 m pc ls (.int x :: .ref (ad (3)) :: rest)) :=
  va_zald hx hb hK.1 hO.1 (3) 2 (wd_get (by omega) (cc_Guard)) rfl (ix_in hin) hdg kk
theorem as_Guard (hx : p.tables.exec = Jvm.exec) (hb : c.code = cc) (hK : cwK D A ad cA tb0 tb1 s) (hO : cwO D A ad cA s st H locs) {x : Int32} {v : Int32} (hin : ix x 8 = true) (hdg : decode cc pc = .ok (.bastore, 1)) (kk : ∀ (H1 : Heap) (locs1 : List Loc), cwO D A ad cA s (sI st 3 0 (x.toNatClampNeg) (vp_nar .boolean v)) H1 locs1 → W p l e R s m args below meth c H1 locs1 cells slots Q (F0 m (pc + 1) ls rest)) : W p l e R s m args below meth c H locs cells slots Q (F0 m pc ls (.int v :: .int x :: .ref (ad (3)) :: rest)) := by
  refine va_zast hx hb hK.1 hO.1 (hK.2.1.D _) hO.2 (3) 2 (wd_get (by omega) (cc_Guard)) rfl (ix_in hin) hdg (fun H1 locs1 hP _ hS => kk H1 locs1 ⟨?_, hS⟩)
  rw [cw_put (st2 := sI st 3 0 (x.toNatClampNeg) (vp_nar .boolean v)) (by omega) ((cc_Guard).trans (by rw [cw_updI])) (fun j hj hne => cwc_sI hj (by rw [show cw_of _ _ = 3 from by simp [cw_of, ownI, ownL, ownR]]; exact hne))] at hP
  exact hP
theorem al_Codes (hx : p.tables.exec = Jvm.exec) (hb : c.code = cc) (hK : cwK D A ad cA tb0 tb1 s) (hO : cwO D A ad cA s st H locs) {i : Nat} (hi : i < 48) {x : Int32} (hin : ix x 24 = true) (hdg : decode cc pc = .ok (.iaload, 1)) (kk : W p l e R s m args below meth c H locs cells slots Q (F0 m (pc + 1) ls (.int (gI st 0 i (x.toNatClampNeg)) :: rest))) : W p l e R s m args below meth c H locs cells slots Q (F0 m pc ls (.int x :: .ref (ad (5 + 3 * i)) :: rest)) :=
  va_iald hx hb hK.1 hO.1 (5 + 3 * i) 0 (wd_get (by omega) (cc_Codes hi)) rfl (ix_in hin) hdg kk
theorem as_Codes (hx : p.tables.exec = Jvm.exec) (hb : c.code = cc) (hK : cwK D A ad cA tb0 tb1 s) (hO : cwO D A ad cA s st H locs) {i : Nat} (hi : i < 48) {x : Int32} {v : Int32} (hin : ix x 24 = true) (hdg : decode cc pc = .ok (.iastore, 1)) (kk : ∀ (H1 : Heap) (locs1 : List Loc), cwO D A ad cA s (sI st 0 i (x.toNatClampNeg) v) H1 locs1 → W p l e R s m args below meth c H1 locs1 cells slots Q (F0 m (pc + 1) ls rest)) : W p l e R s m args below meth c H locs cells slots Q (F0 m pc ls (.int v :: .int x :: .ref (ad (5 + 3 * i)) :: rest)) := by
  refine va_iast hx hb hK.1 hO.1 (hK.2.1.D _) hO.2 (5 + 3 * i) 0 (wd_get (by omega) (cc_Codes hi)) rfl (ix_in hin) hdg (fun H1 locs1 hP _ hS => kk H1 locs1 ⟨?_, hS⟩)
  rw [cw_put (st2 := sI st 0 i (x.toNatClampNeg) v) (by omega) ((cc_Codes hi).trans (by rw [cw_updI])) (fun j hj hne => cwc_sI hj (by rw [show cw_of _ _ = 5 + 3 * i from by simp [cw_of, ownI, ownL, ownR]]; exact hne))] at hP
  exact hP
theorem al_Nums (hx : p.tables.exec = Jvm.exec) (hb : c.code = cc) (hK : cwK D A ad cA tb0 tb1 s) (hO : cwO D A ad cA s st H locs) {i : Nat} (hi : i < 48) {x : Int32} (hin : ix x 24 = true) (hdg : decode cc pc = .ok (.iaload, 1)) (kk : W p l e R s m args below meth c H locs cells slots Q (F0 m (pc + 1) ls (.int (gI st 1 i (x.toNatClampNeg)) :: rest))) : W p l e R s m args below meth c H locs cells slots Q (F0 m pc ls (.int x :: .ref (ad (6 + 3 * i)) :: rest)) :=
  va_iald hx hb hK.1 hO.1 (6 + 3 * i) 0 (wd_get (by omega) (cc_Nums hi)) rfl (ix_in hin) hdg kk
theorem as_Nums (hx : p.tables.exec = Jvm.exec) (hb : c.code = cc) (hK : cwK D A ad cA tb0 tb1 s) (hO : cwO D A ad cA s st H locs) {i : Nat} (hi : i < 48) {x : Int32} {v : Int32} (hin : ix x 24 = true) (hdg : decode cc pc = .ok (.iastore, 1)) (kk : ∀ (H1 : Heap) (locs1 : List Loc), cwO D A ad cA s (sI st 1 i (x.toNatClampNeg) v) H1 locs1 → W p l e R s m args below meth c H1 locs1 cells slots Q (F0 m (pc + 1) ls rest)) : W p l e R s m args below meth c H locs cells slots Q (F0 m pc ls (.int v :: .int x :: .ref (ad (6 + 3 * i)) :: rest)) := by
  refine va_iast hx hb hK.1 hO.1 (hK.2.1.D _) hO.2 (6 + 3 * i) 0 (wd_get (by omega) (cc_Nums hi)) rfl (ix_in hin) hdg (fun H1 locs1 hP _ hS => kk H1 locs1 ⟨?_, hS⟩)
  rw [cw_put (st2 := sI st 1 i (x.toNatClampNeg) v) (by omega) ((cc_Nums hi).trans (by rw [cw_updI])) (fun j hj hne => cwc_sI hj (by rw [show cw_of _ _ = 6 + 3 * i from by simp [cw_of, ownI, ownL, ownR]]; exact hne))] at hP
  exact hP
theorem al_Leaves (hx : p.tables.exec = Jvm.exec) (hb : c.code = cc) (hK : cwK D A ad cA tb0 tb1 s) (hO : cwO D A ad cA s st H locs) {x : Int32} (hin : ix x 64 = true) (hdg : decode cc pc = .ok (.laload, 1)) (kk : W p l e R s m args below meth c H locs cells slots Q (F0 m (pc + 1) ls (.long (gL st 0 0 (x.toNatClampNeg)) :: rest))) : W p l e R s m args below meth c H locs cells slots Q (F0 m pc ls (.int x :: .ref (ad (149)) :: rest)) :=
  va_lald hx hb hK.1 hO.1 (149) 1 (wd_get (by omega) (cc_Leaves)) rfl (ix_in hin) hdg kk
theorem as_Leaves (hx : p.tables.exec = Jvm.exec) (hb : c.code = cc) (hK : cwK D A ad cA tb0 tb1 s) (hO : cwO D A ad cA s st H locs) {x : Int32} {v : Int64} (hin : ix x 64 = true) (hdg : decode cc pc = .ok (.lastore, 1)) (kk : ∀ (H1 : Heap) (locs1 : List Loc), cwO D A ad cA s (sL st 0 0 (x.toNatClampNeg) v) H1 locs1 → W p l e R s m args below meth c H1 locs1 cells slots Q (F0 m (pc + 1) ls rest)) : W p l e R s m args below meth c H locs cells slots Q (F0 m pc ls (.long v :: .int x :: .ref (ad (149)) :: rest)) := by
  refine va_last hx hb hK.1 hO.1 (hK.2.1.D _) hO.2 (149) 1 (wd_get (by omega) (cc_Leaves)) rfl (ix_in hin) hdg (fun H1 locs1 hP _ hS => kk H1 locs1 ⟨?_, hS⟩)
  rw [cw_put (st2 := sL st 0 0 (x.toNatClampNeg) v) (by omega) ((cc_Leaves).trans (by rw [cw_updL])) (fun j hj hne => cwc_sL hj (by rw [show cw_of _ _ = 149 from by simp [cw_of, ownI, ownL, ownR]]; exact hne))] at hP
  exact hP
theorem al_Bals (hx : p.tables.exec = Jvm.exec) (hb : c.code = cc) (hK : cwK D A ad cA tb0 tb1 s) (hO : cwO D A ad cA s st H locs) {x : Int32} (hin : ix x 8 = true) (hdg : decode cc pc = .ok (.laload, 1)) (kk : W p l e R s m args below meth c H locs cells slots Q (F0 m (pc + 1) ls (.long (gL st 1 0 (x.toNatClampNeg)) :: rest))) : W p l e R s m args below meth c H locs cells slots Q (F0 m pc ls (.int x :: .ref (ad (150)) :: rest)) :=
  va_lald hx hb hK.1 hO.1 (150) 1 (wd_get (by omega) (cc_Bals)) rfl (ix_in hin) hdg kk
theorem as_Bals (hx : p.tables.exec = Jvm.exec) (hb : c.code = cc) (hK : cwK D A ad cA tb0 tb1 s) (hO : cwO D A ad cA s st H locs) {x : Int32} {v : Int64} (hin : ix x 8 = true) (hdg : decode cc pc = .ok (.lastore, 1)) (kk : ∀ (H1 : Heap) (locs1 : List Loc), cwO D A ad cA s (sL st 1 0 (x.toNatClampNeg) v) H1 locs1 → W p l e R s m args below meth c H1 locs1 cells slots Q (F0 m (pc + 1) ls rest)) : W p l e R s m args below meth c H locs cells slots Q (F0 m pc ls (.long v :: .int x :: .ref (ad (150)) :: rest)) := by
  refine va_last hx hb hK.1 hO.1 (hK.2.1.D _) hO.2 (150) 1 (wd_get (by omega) (cc_Bals)) rfl (ix_in hin) hdg (fun H1 locs1 hP _ hS => kk H1 locs1 ⟨?_, hS⟩)
  rw [cw_put (st2 := sL st 1 0 (x.toNatClampNeg) v) (by omega) ((cc_Bals).trans (by rw [cw_updL])) (fun j hj hne => cwc_sL hj (by rw [show cw_of _ _ = 150 from by simp [cw_of, ownI, ownL, ownR]]; exact hne))] at hP
  exact hP
theorem al_EvC (hx : p.tables.exec = Jvm.exec) (hb : c.code = cc) (hK : cwK D A ad cA tb0 tb1 s) (hO : cwO D A ad cA s st H locs) {x : Int32} (hin : ix x 40 = true) (hdg : decode cc pc = .ok (.iaload, 1)) (kk : W p l e R s m args below meth c H locs cells slots Q (F0 m (pc + 1) ls (.int (gI st 4 0 (x.toNatClampNeg)) :: rest))) : W p l e R s m args below meth c H locs cells slots Q (F0 m pc ls (.int x :: .ref (ad (151)) :: rest)) :=
  va_iald hx hb hK.1 hO.1 (151) 0 (wd_get (by omega) (cc_EvC)) rfl (ix_in hin) hdg kk
theorem as_EvC (hx : p.tables.exec = Jvm.exec) (hb : c.code = cc) (hK : cwK D A ad cA tb0 tb1 s) (hO : cwO D A ad cA s st H locs) {x : Int32} {v : Int32} (hin : ix x 40 = true) (hdg : decode cc pc = .ok (.iastore, 1)) (kk : ∀ (H1 : Heap) (locs1 : List Loc), cwO D A ad cA s (sI st 4 0 (x.toNatClampNeg) v) H1 locs1 → W p l e R s m args below meth c H1 locs1 cells slots Q (F0 m (pc + 1) ls rest)) : W p l e R s m args below meth c H locs cells slots Q (F0 m pc ls (.int v :: .int x :: .ref (ad (151)) :: rest)) := by
  refine va_iast hx hb hK.1 hO.1 (hK.2.1.D _) hO.2 (151) 0 (wd_get (by omega) (cc_EvC)) rfl (ix_in hin) hdg (fun H1 locs1 hP _ hS => kk H1 locs1 ⟨?_, hS⟩)
  rw [cw_put (st2 := sI st 4 0 (x.toNatClampNeg) v) (by omega) ((cc_EvC).trans (by rw [cw_updI])) (fun j hj hne => cwc_sI hj (by rw [show cw_of _ _ = 151 from by simp [cw_of, ownI, ownL, ownR]]; exact hne))] at hP
  exact hP
theorem al_EvN (hx : p.tables.exec = Jvm.exec) (hb : c.code = cc) (hK : cwK D A ad cA tb0 tb1 s) (hO : cwO D A ad cA s st H locs) {x : Int32} (hin : ix x 40 = true) (hdg : decode cc pc = .ok (.laload, 1)) (kk : W p l e R s m args below meth c H locs cells slots Q (F0 m (pc + 1) ls (.long (gL st 2 0 (x.toNatClampNeg)) :: rest))) : W p l e R s m args below meth c H locs cells slots Q (F0 m pc ls (.int x :: .ref (ad (152)) :: rest)) :=
  va_lald hx hb hK.1 hO.1 (152) 1 (wd_get (by omega) (cc_EvN)) rfl (ix_in hin) hdg kk
theorem as_EvN (hx : p.tables.exec = Jvm.exec) (hb : c.code = cc) (hK : cwK D A ad cA tb0 tb1 s) (hO : cwO D A ad cA s st H locs) {x : Int32} {v : Int64} (hin : ix x 40 = true) (hdg : decode cc pc = .ok (.lastore, 1)) (kk : ∀ (H1 : Heap) (locs1 : List Loc), cwO D A ad cA s (sL st 2 0 (x.toNatClampNeg) v) H1 locs1 → W p l e R s m args below meth c H1 locs1 cells slots Q (F0 m (pc + 1) ls rest)) : W p l e R s m args below meth c H locs cells slots Q (F0 m pc ls (.long v :: .int x :: .ref (ad (152)) :: rest)) := by
  refine va_last hx hb hK.1 hO.1 (hK.2.1.D _) hO.2 (152) 1 (wd_get (by omega) (cc_EvN)) rfl (ix_in hin) hdg (fun H1 locs1 hP _ hS => kk H1 locs1 ⟨?_, hS⟩)
  rw [cw_put (st2 := sL st 2 0 (x.toNatClampNeg) v) (by omega) ((cc_EvN).trans (by rw [cw_updL])) (fun j hj hne => cwc_sL hj (by rw [show cw_of _ _ = 152 from by simp [cw_of, ownI, ownL, ownR]]; exact hne))] at hP
  exact hP
theorem al_KLo (hx : p.tables.exec = Jvm.exec) (hb : c.code = cc) (hK : cwK D A ad cA tb0 tb1 s) (hO : cwO D A ad cA s st H locs) {x : Int32} (hin : ix x 10 = true) (hdg : decode cc pc = .ok (.aaload, 1)) (kk : W p l e R s m args below meth c H locs cells slots Q (F0 m (pc + 1) ls (.ref (ad (154 + 1 * x.toNatClampNeg)) :: rest))) : W p l e R s m args below meth c H locs cells slots Q (F0 m pc ls (.int x :: .ref (ad (153)) :: rest)) :=
  W.aald (v := va_rf (some (ad (154 + 1 * x.toNatClampNeg)))) (ty := .array .long) hx hb (hO.1 (153) _ (wd_get (by omega) (cc_KLo))) ((hK.1.2 5 _ rfl).1 10 (fun j => va_rf (some (ad (154 + 1 * j))))) rfl (fun q => by cases q) (by show ¬ (x < 0 ∨ (arrV _ _ _).slots.size ≤ _); rw [arrV_size]; exact ix_in hin) (by show (arrV _ _ _).slots[_]? = _; rw [arrV_read _ _ (ix_lt hin)]) rfl rfl hdg kk
theorem al_KL (hx : p.tables.exec = Jvm.exec) (hb : c.code = cc) (hK : cwK D A ad cA tb0 tb1 s) (hO : cwO D A ad cA s st H locs) {i : Nat} (hi : i < 10) {x : Int32} (hin : ix x 64 = true) (hdg : decode cc pc = .ok (.laload, 1)) (kk : W p l e R s m args below meth c H locs cells slots Q (F0 m (pc + 1) ls (.long (gL st 3 i (x.toNatClampNeg)) :: rest))) : W p l e R s m args below meth c H locs cells slots Q (F0 m pc ls (.int x :: .ref (ad (154 + 1 * i)) :: rest)) :=
  va_lald hx hb hK.1 hO.1 (154 + 1 * i) 1 (wd_get (by omega) (cc_KL hi)) rfl (ix_in hin) hdg kk
theorem as_KL (hx : p.tables.exec = Jvm.exec) (hb : c.code = cc) (hK : cwK D A ad cA tb0 tb1 s) (hO : cwO D A ad cA s st H locs) {i : Nat} (hi : i < 10) {x : Int32} {v : Int64} (hin : ix x 64 = true) (hdg : decode cc pc = .ok (.lastore, 1)) (kk : ∀ (H1 : Heap) (locs1 : List Loc), cwO D A ad cA s (sL st 3 i (x.toNatClampNeg) v) H1 locs1 → W p l e R s m args below meth c H1 locs1 cells slots Q (F0 m (pc + 1) ls rest)) : W p l e R s m args below meth c H locs cells slots Q (F0 m pc ls (.long v :: .int x :: .ref (ad (154 + 1 * i)) :: rest)) := by
  refine va_last hx hb hK.1 hO.1 (hK.2.1.D _) hO.2 (154 + 1 * i) 1 (wd_get (by omega) (cc_KL hi)) rfl (ix_in hin) hdg (fun H1 locs1 hP _ hS => kk H1 locs1 ⟨?_, hS⟩)
  rw [cw_put (st2 := sL st 3 i (x.toNatClampNeg) v) (by omega) ((cc_KL hi).trans (by rw [cw_updL])) (fun j hj hne => cwc_sL hj (by rw [show cw_of _ _ = 154 + 1 * i from by simp [cw_of, ownI, ownL, ownR]]; exact hne))] at hP
  exact hP
theorem al_KBo (hx : p.tables.exec = Jvm.exec) (hb : c.code = cc) (hK : cwK D A ad cA tb0 tb1 s) (hO : cwO D A ad cA s st H locs) {x : Int32} (hin : ix x 10 = true) (hdg : decode cc pc = .ok (.aaload, 1)) (kk : W p l e R s m args below meth c H locs cells slots Q (F0 m (pc + 1) ls (.ref (ad (165 + 1 * x.toNatClampNeg)) :: rest))) : W p l e R s m args below meth c H locs cells slots Q (F0 m pc ls (.int x :: .ref (ad (164)) :: rest)) :=
  W.aald (v := va_rf (some (ad (165 + 1 * x.toNatClampNeg)))) (ty := .array .long) hx hb (hO.1 (164) _ (wd_get (by omega) (cc_KBo))) ((hK.1.2 5 _ rfl).1 10 (fun j => va_rf (some (ad (165 + 1 * j))))) rfl (fun q => by cases q) (by show ¬ (x < 0 ∨ (arrV _ _ _).slots.size ≤ _); rw [arrV_size]; exact ix_in hin) (by show (arrV _ _ _).slots[_]? = _; rw [arrV_read _ _ (ix_lt hin)]) rfl rfl hdg kk
theorem al_KB (hx : p.tables.exec = Jvm.exec) (hb : c.code = cc) (hK : cwK D A ad cA tb0 tb1 s) (hO : cwO D A ad cA s st H locs) {i : Nat} (hi : i < 10) {x : Int32} (hin : ix x 8 = true) (hdg : decode cc pc = .ok (.laload, 1)) (kk : W p l e R s m args below meth c H locs cells slots Q (F0 m (pc + 1) ls (.long (gL st 4 i (x.toNatClampNeg)) :: rest))) : W p l e R s m args below meth c H locs cells slots Q (F0 m pc ls (.int x :: .ref (ad (165 + 1 * i)) :: rest)) :=
  va_lald hx hb hK.1 hO.1 (165 + 1 * i) 1 (wd_get (by omega) (cc_KB hi)) rfl (ix_in hin) hdg kk
theorem as_KB (hx : p.tables.exec = Jvm.exec) (hb : c.code = cc) (hK : cwK D A ad cA tb0 tb1 s) (hO : cwO D A ad cA s st H locs) {i : Nat} (hi : i < 10) {x : Int32} {v : Int64} (hin : ix x 8 = true) (hdg : decode cc pc = .ok (.lastore, 1)) (kk : ∀ (H1 : Heap) (locs1 : List Loc), cwO D A ad cA s (sL st 4 i (x.toNatClampNeg) v) H1 locs1 → W p l e R s m args below meth c H1 locs1 cells slots Q (F0 m (pc + 1) ls rest)) : W p l e R s m args below meth c H locs cells slots Q (F0 m pc ls (.long v :: .int x :: .ref (ad (165 + 1 * i)) :: rest)) := by
  refine va_last hx hb hK.1 hO.1 (hK.2.1.D _) hO.2 (165 + 1 * i) 1 (wd_get (by omega) (cc_KB hi)) rfl (ix_in hin) hdg (fun H1 locs1 hP _ hS => kk H1 locs1 ⟨?_, hS⟩)
  rw [cw_put (st2 := sL st 4 i (x.toNatClampNeg) v) (by omega) ((cc_KB hi).trans (by rw [cw_updL])) (fun j hj hne => cwc_sL hj (by rw [show cw_of _ _ = 165 + 1 * i from by simp [cw_of, ownI, ownL, ownR]]; exact hne))] at hP
  exact hP
theorem al_KC (hx : p.tables.exec = Jvm.exec) (hb : c.code = cc) (hK : cwK D A ad cA tb0 tb1 s) (hO : cwO D A ad cA s st H locs) {x : Int32} (hin : ix x 10 = true) (hdg : decode cc pc = .ok (.iaload, 1)) (kk : W p l e R s m args below meth c H locs cells slots Q (F0 m (pc + 1) ls (.int (gI st 6 0 (x.toNatClampNeg)) :: rest))) : W p l e R s m args below meth c H locs cells slots Q (F0 m pc ls (.int x :: .ref (ad (175)) :: rest)) :=
  va_iald hx hb hK.1 hO.1 (175) 0 (wd_get (by omega) (cc_KC)) rfl (ix_in hin) hdg kk
theorem as_KC (hx : p.tables.exec = Jvm.exec) (hb : c.code = cc) (hK : cwK D A ad cA tb0 tb1 s) (hO : cwO D A ad cA s st H locs) {x : Int32} {v : Int32} (hin : ix x 10 = true) (hdg : decode cc pc = .ok (.iastore, 1)) (kk : ∀ (H1 : Heap) (locs1 : List Loc), cwO D A ad cA s (sI st 6 0 (x.toNatClampNeg) v) H1 locs1 → W p l e R s m args below meth c H1 locs1 cells slots Q (F0 m (pc + 1) ls rest)) : W p l e R s m args below meth c H locs cells slots Q (F0 m pc ls (.int v :: .int x :: .ref (ad (175)) :: rest)) := by
  refine va_iast hx hb hK.1 hO.1 (hK.2.1.D _) hO.2 (175) 0 (wd_get (by omega) (cc_KC)) rfl (ix_in hin) hdg (fun H1 locs1 hP _ hS => kk H1 locs1 ⟨?_, hS⟩)
  rw [cw_put (st2 := sI st 6 0 (x.toNatClampNeg) v) (by omega) ((cc_KC).trans (by rw [cw_updI])) (fun j hj hne => cwc_sI hj (by rw [show cw_of _ _ = 175 from by simp [cw_of, ownI, ownL, ownR]]; exact hne))] at hP
  exact hP
theorem al_FrArr (hx : p.tables.exec = Jvm.exec) (hb : c.code = cc) (hK : cwK D A ad cA tb0 tb1 s) (hO : cwO D A ad cA s st H locs) {x : Int32} (hin : ix x 10 = true) (hdg : decode cc pc = .ok (.aaload, 1)) (kk : W p l e R s m args below meth c H locs cells slots Q (F0 m (pc + 1) ls (.ref (ad (179 + 9 * x.toNatClampNeg)) :: rest))) : W p l e R s m args below meth c H locs cells slots Q (F0 m pc ls (.int x :: .ref (ad (177)) :: rest)) :=
  va_aldq hx hb hK.1 hO.1 (177) 4 (wd_get (by omega) (cc_FrArr)) rfl (ix_in hin) hdg kk
theorem al_Counts (hx : p.tables.exec = Jvm.exec) (hb : c.code = cc) (hK : cwK D A ad cA tb0 tb1 s) (hO : cwO D A ad cA s st H locs) {x : Int32} (hin : ix x 5 = true) (hdg : decode cc pc = .ok (.iaload, 1)) (kk : W p l e R s m args below meth c H locs cells slots Q (F0 m (pc + 1) ls (.int (gI st 7 0 (x.toNatClampNeg)) :: rest))) : W p l e R s m args below meth c H locs cells slots Q (F0 m pc ls (.int x :: .ref (ad (178)) :: rest)) :=
  va_iald hx hb hK.1 hO.1 (178) 0 (wd_get (by omega) (cc_Counts)) rfl (ix_in hin) hdg kk
theorem as_Counts (hx : p.tables.exec = Jvm.exec) (hb : c.code = cc) (hK : cwK D A ad cA tb0 tb1 s) (hO : cwO D A ad cA s st H locs) {x : Int32} {v : Int32} (hin : ix x 5 = true) (hdg : decode cc pc = .ok (.iastore, 1)) (kk : ∀ (H1 : Heap) (locs1 : List Loc), cwO D A ad cA s (sI st 7 0 (x.toNatClampNeg) v) H1 locs1 → W p l e R s m args below meth c H1 locs1 cells slots Q (F0 m (pc + 1) ls rest)) : W p l e R s m args below meth c H locs cells slots Q (F0 m pc ls (.int v :: .int x :: .ref (ad (178)) :: rest)) := by
  refine va_iast hx hb hK.1 hO.1 (hK.2.1.D _) hO.2 (178) 0 (wd_get (by omega) (cc_Counts)) rfl (ix_in hin) hdg (fun H1 locs1 hP _ hS => kk H1 locs1 ⟨?_, hS⟩)
  rw [cw_put (st2 := sI st 7 0 (x.toNatClampNeg) v) (by omega) ((cc_Counts).trans (by rw [cw_updI])) (fun j hj hne => cwc_sI hj (by rw [show cw_of _ _ = 178 from by simp [cw_of, ownI, ownL, ownR]]; exact hne))] at hP
  exact hP
theorem al_HSteps (hx : p.tables.exec = Jvm.exec) (hb : c.code = cc) (hK : cwK D A ad cA tb0 tb1 s) (hO : cwO D A ad cA s st H locs) {i : Nat} (hi : i < 10) {x : Int32} (hin : ix x 4 = true) (hdg : decode cc pc = .ok (.iaload, 1)) (kk : W p l e R s m args below meth c H locs cells slots Q (F0 m (pc + 1) ls (.int (gI st 10 i (x.toNatClampNeg)) :: rest))) : W p l e R s m args below meth c H locs cells slots Q (F0 m pc ls (.int x :: .ref (ad (180 + 9 * i)) :: rest)) :=
  va_iald hx hb hK.1 hO.1 (180 + 9 * i) 0 (wd_get (by omega) (cc_HSteps hi)) rfl (ix_in hin) hdg kk
theorem as_HSteps (hx : p.tables.exec = Jvm.exec) (hb : c.code = cc) (hK : cwK D A ad cA tb0 tb1 s) (hO : cwO D A ad cA s st H locs) {i : Nat} (hi : i < 10) {x : Int32} {v : Int32} (hin : ix x 4 = true) (hdg : decode cc pc = .ok (.iastore, 1)) (kk : ∀ (H1 : Heap) (locs1 : List Loc), cwO D A ad cA s (sI st 10 i (x.toNatClampNeg) v) H1 locs1 → W p l e R s m args below meth c H1 locs1 cells slots Q (F0 m (pc + 1) ls rest)) : W p l e R s m args below meth c H locs cells slots Q (F0 m pc ls (.int v :: .int x :: .ref (ad (180 + 9 * i)) :: rest)) := by
  refine va_iast hx hb hK.1 hO.1 (hK.2.1.D _) hO.2 (180 + 9 * i) 0 (wd_get (by omega) (cc_HSteps hi)) rfl (ix_in hin) hdg (fun H1 locs1 hP _ hS => kk H1 locs1 ⟨?_, hS⟩)
  rw [cw_put (st2 := sI st 10 i (x.toNatClampNeg) v) (by omega) ((cc_HSteps hi).trans (by rw [cw_updI])) (fun j hj hne => cwc_sI hj (by rw [show cw_of _ _ = 180 + 9 * i from by simp [cw_of, ownI, ownL, ownR]]; exact hne))] at hP
  exact hP
theorem al_HHeights (hx : p.tables.exec = Jvm.exec) (hb : c.code = cc) (hK : cwK D A ad cA tb0 tb1 s) (hO : cwO D A ad cA s st H locs) {i : Nat} (hi : i < 10) {x : Int32} (hin : ix x 4 = true) (hdg : decode cc pc = .ok (.iaload, 1)) (kk : W p l e R s m args below meth c H locs cells slots Q (F0 m (pc + 1) ls (.int (gI st 11 i (x.toNatClampNeg)) :: rest))) : W p l e R s m args below meth c H locs cells slots Q (F0 m pc ls (.int x :: .ref (ad (181 + 9 * i)) :: rest)) :=
  va_iald hx hb hK.1 hO.1 (181 + 9 * i) 0 (wd_get (by omega) (cc_HHeights hi)) rfl (ix_in hin) hdg kk
theorem as_HHeights (hx : p.tables.exec = Jvm.exec) (hb : c.code = cc) (hK : cwK D A ad cA tb0 tb1 s) (hO : cwO D A ad cA s st H locs) {i : Nat} (hi : i < 10) {x : Int32} {v : Int32} (hin : ix x 4 = true) (hdg : decode cc pc = .ok (.iastore, 1)) (kk : ∀ (H1 : Heap) (locs1 : List Loc), cwO D A ad cA s (sI st 11 i (x.toNatClampNeg) v) H1 locs1 → W p l e R s m args below meth c H1 locs1 cells slots Q (F0 m (pc + 1) ls rest)) : W p l e R s m args below meth c H locs cells slots Q (F0 m pc ls (.int v :: .int x :: .ref (ad (181 + 9 * i)) :: rest)) := by
  refine va_iast hx hb hK.1 hO.1 (hK.2.1.D _) hO.2 (181 + 9 * i) 0 (wd_get (by omega) (cc_HHeights hi)) rfl (ix_in hin) hdg (fun H1 locs1 hP _ hS => kk H1 locs1 ⟨?_, hS⟩)
  rw [cw_put (st2 := sI st 11 i (x.toNatClampNeg) v) (by omega) ((cc_HHeights hi).trans (by rw [cw_updI])) (fun j hj hne => cwc_sI hj (by rw [show cw_of _ _ = 181 + 9 * i from by simp [cw_of, ownI, ownL, ownR]]; exact hne))] at hP
  exact hP
theorem al_PKinds (hx : p.tables.exec = Jvm.exec) (hb : c.code = cc) (hK : cwK D A ad cA tb0 tb1 s) (hO : cwO D A ad cA s st H locs) {i : Nat} (hi : i < 10) {x : Int32} (hin : ix x 12 = true) (hdg : decode cc pc = .ok (.iaload, 1)) (kk : W p l e R s m args below meth c H locs cells slots Q (F0 m (pc + 1) ls (.int (gI st 17 i (x.toNatClampNeg)) :: rest))) : W p l e R s m args below meth c H locs cells slots Q (F0 m pc ls (.int x :: .ref (ad (183 + 9 * i)) :: rest)) :=
  va_iald hx hb hK.1 hO.1 (183 + 9 * i) 0 (wd_get (by omega) (cc_PKinds hi)) rfl (ix_in hin) hdg kk
theorem as_PKinds (hx : p.tables.exec = Jvm.exec) (hb : c.code = cc) (hK : cwK D A ad cA tb0 tb1 s) (hO : cwO D A ad cA s st H locs) {i : Nat} (hi : i < 10) {x : Int32} {v : Int32} (hin : ix x 12 = true) (hdg : decode cc pc = .ok (.iastore, 1)) (kk : ∀ (H1 : Heap) (locs1 : List Loc), cwO D A ad cA s (sI st 17 i (x.toNatClampNeg) v) H1 locs1 → W p l e R s m args below meth c H1 locs1 cells slots Q (F0 m (pc + 1) ls rest)) : W p l e R s m args below meth c H locs cells slots Q (F0 m pc ls (.int v :: .int x :: .ref (ad (183 + 9 * i)) :: rest)) := by
  refine va_iast hx hb hK.1 hO.1 (hK.2.1.D _) hO.2 (183 + 9 * i) 0 (wd_get (by omega) (cc_PKinds hi)) rfl (ix_in hin) hdg (fun H1 locs1 hP _ hS => kk H1 locs1 ⟨?_, hS⟩)
  rw [cw_put (st2 := sI st 17 i (x.toNatClampNeg) v) (by omega) ((cc_PKinds hi).trans (by rw [cw_updI])) (fun j hj hne => cwc_sI hj (by rw [show cw_of _ _ = 183 + 9 * i from by simp [cw_of, ownI, ownL, ownR]]; exact hne))] at hP
  exact hP
theorem al_PNums (hx : p.tables.exec = Jvm.exec) (hb : c.code = cc) (hK : cwK D A ad cA tb0 tb1 s) (hO : cwO D A ad cA s st H locs) {i : Nat} (hi : i < 10) {x : Int32} (hin : ix x 12 = true) (hdg : decode cc pc = .ok (.laload, 1)) (kk : W p l e R s m args below meth c H locs cells slots Q (F0 m (pc + 1) ls (.long (gL st 6 i (x.toNatClampNeg)) :: rest))) : W p l e R s m args below meth c H locs cells slots Q (F0 m pc ls (.int x :: .ref (ad (184 + 9 * i)) :: rest)) :=
  va_lald hx hb hK.1 hO.1 (184 + 9 * i) 1 (wd_get (by omega) (cc_PNums hi)) rfl (ix_in hin) hdg kk
theorem as_PNums (hx : p.tables.exec = Jvm.exec) (hb : c.code = cc) (hK : cwK D A ad cA tb0 tb1 s) (hO : cwO D A ad cA s st H locs) {i : Nat} (hi : i < 10) {x : Int32} {v : Int64} (hin : ix x 12 = true) (hdg : decode cc pc = .ok (.lastore, 1)) (kk : ∀ (H1 : Heap) (locs1 : List Loc), cwO D A ad cA s (sL st 6 i (x.toNatClampNeg) v) H1 locs1 → W p l e R s m args below meth c H1 locs1 cells slots Q (F0 m (pc + 1) ls rest)) : W p l e R s m args below meth c H locs cells slots Q (F0 m pc ls (.long v :: .int x :: .ref (ad (184 + 9 * i)) :: rest)) := by
  refine va_last hx hb hK.1 hO.1 (hK.2.1.D _) hO.2 (184 + 9 * i) 1 (wd_get (by omega) (cc_PNums hi)) rfl (ix_in hin) hdg (fun H1 locs1 hP _ hS => kk H1 locs1 ⟨?_, hS⟩)
  rw [cw_put (st2 := sL st 6 i (x.toNatClampNeg) v) (by omega) ((cc_PNums hi).trans (by rw [cw_updL])) (fun j hj hne => cwc_sL hj (by rw [show cw_of _ _ = 184 + 9 * i from by simp [cw_of, ownI, ownL, ownR]]; exact hne))] at hP
  exact hP
theorem al_Elems (hx : p.tables.exec = Jvm.exec) (hb : c.code = cc) (hK : cwK D A ad cA tb0 tb1 s) (hO : cwO D A ad cA s st H locs) {i : Nat} (hi : i < 10) {x : Int32} (hin : ix x 192 = true) (hdg : decode cc pc = .ok (.laload, 1)) (kk : W p l e R s m args below meth c H locs cells slots Q (F0 m (pc + 1) ls (.long (gL st 7 i (x.toNatClampNeg)) :: rest))) : W p l e R s m args below meth c H locs cells slots Q (F0 m pc ls (.int x :: .ref (ad (186 + 9 * i)) :: rest)) :=
  va_lald hx hb hK.1 hO.1 (186 + 9 * i) 1 (wd_get (by omega) (cc_Elems hi)) rfl (ix_in hin) hdg kk
theorem as_Elems (hx : p.tables.exec = Jvm.exec) (hb : c.code = cc) (hK : cwK D A ad cA tb0 tb1 s) (hO : cwO D A ad cA s st H locs) {i : Nat} (hi : i < 10) {x : Int32} {v : Int64} (hin : ix x 192 = true) (hdg : decode cc pc = .ok (.lastore, 1)) (kk : ∀ (H1 : Heap) (locs1 : List Loc), cwO D A ad cA s (sL st 7 i (x.toNatClampNeg) v) H1 locs1 → W p l e R s m args below meth c H1 locs1 cells slots Q (F0 m (pc + 1) ls rest)) : W p l e R s m args below meth c H locs cells slots Q (F0 m pc ls (.long v :: .int x :: .ref (ad (186 + 9 * i)) :: rest)) := by
  refine va_last hx hb hK.1 hO.1 (hK.2.1.D _) hO.2 (186 + 9 * i) 1 (wd_get (by omega) (cc_Elems hi)) rfl (ix_in hin) hdg (fun H1 locs1 hP _ hS => kk H1 locs1 ⟨?_, hS⟩)
  rw [cw_put (st2 := sL st 7 i (x.toNatClampNeg) v) (by omega) ((cc_Elems hi).trans (by rw [cw_updL])) (fun j hj hne => cwc_sL hj (by rw [show cw_of _ _ = 186 + 9 * i from by simp [cw_of, ownI, ownL, ownR]]; exact hne))] at hP
  exact hP
theorem al_Lens (hx : p.tables.exec = Jvm.exec) (hb : c.code = cc) (hK : cwK D A ad cA tb0 tb1 s) (hO : cwO D A ad cA s st H locs) {i : Nat} (hi : i < 10) {x : Int32} (hin : ix x 12 = true) (hdg : decode cc pc = .ok (.iaload, 1)) (kk : W p l e R s m args below meth c H locs cells slots Q (F0 m (pc + 1) ls (.int (gI st 20 i (x.toNatClampNeg)) :: rest))) : W p l e R s m args below meth c H locs cells slots Q (F0 m pc ls (.int x :: .ref (ad (187 + 9 * i)) :: rest)) :=
  va_iald hx hb hK.1 hO.1 (187 + 9 * i) 0 (wd_get (by omega) (cc_Lens hi)) rfl (ix_in hin) hdg kk
theorem as_Lens (hx : p.tables.exec = Jvm.exec) (hb : c.code = cc) (hK : cwK D A ad cA tb0 tb1 s) (hO : cwO D A ad cA s st H locs) {i : Nat} (hi : i < 10) {x : Int32} {v : Int32} (hin : ix x 12 = true) (hdg : decode cc pc = .ok (.iastore, 1)) (kk : ∀ (H1 : Heap) (locs1 : List Loc), cwO D A ad cA s (sI st 20 i (x.toNatClampNeg) v) H1 locs1 → W p l e R s m args below meth c H1 locs1 cells slots Q (F0 m (pc + 1) ls rest)) : W p l e R s m args below meth c H locs cells slots Q (F0 m pc ls (.int v :: .int x :: .ref (ad (187 + 9 * i)) :: rest)) := by
  refine va_iast hx hb hK.1 hO.1 (hK.2.1.D _) hO.2 (187 + 9 * i) 0 (wd_get (by omega) (cc_Lens hi)) rfl (ix_in hin) hdg (fun H1 locs1 hP _ hS => kk H1 locs1 ⟨?_, hS⟩)
  rw [cw_put (st2 := sI st 20 i (x.toNatClampNeg) v) (by omega) ((cc_Lens hi).trans (by rw [cw_updI])) (fun j hj hne => cwc_sI hj (by rw [show cw_of _ _ = 187 + 9 * i from by simp [cw_of, ownI, ownL, ownR]]; exact hne))] at hP
  exact hP
theorem gs_TK0 (hx : p.tables.exec = Jvm.exec) (hb : c.code = cc) (hown : s.vm.findClass RX6 = some m.cls) (hK : cwK D A ad cA tb0 tb1 s) (hO : cwO D A ad cA s st H locs) (hdg : decode cc pc = .ok (.getstatic 134, 3)) (kk : W p l e R s m args below meth c H locs cells slots Q (F0 m (pc + 3) ls (.ref tb0 :: rest))) : W p l e R s m args below meth c H locs cells slots Q (F0 m pc ls rest) :=
  va_getsN hx hb hK.2.2.1.1 hO.2 hown (va_Nw.use rfl hK.2.2.2.2.2.2.2.2.1) (fun _ h => h) hdg kk
theorem al_TK0 (hx : p.tables.exec = Jvm.exec) (hb : c.code = cc) (hK : cwK D A ad cA tb0 tb1 s) (hO : cwO D A ad cA s st H locs) {x : Int32} (hin : ix x 32 = true) (hdg : decode cc pc = .ok (.iaload, 1)) (kk : W p l e R s m args below meth c H locs cells slots Q (F0 m (pc + 1) ls (.int (tkT (x.toNatClampNeg)) :: rest))) : W p l e R s m args below meth c H locs cells slots Q (F0 m pc ls (.int x :: .ref tb0 :: rest)) :=
  va_ti hx hb hK.2.2.1.2.1 hO.2 (ix_in hin) rfl hdg kk
theorem an_TK0 (hx : p.tables.exec = Jvm.exec) (hb : c.code = cc) (hK : cwK D A ad cA tb0 tb1 s) (hO : cwO D A ad cA s st H locs) (hdg : decode cc pc = .ok (.arraylength, 1)) (kk : W p l e R s m args below meth c H locs cells slots Q (F0 m (pc + 1) ls (.int 32 :: rest))) : W p l e R s m args below meth c H locs cells slots Q (F0 m pc ls (.ref tb0 :: rest)) :=
  va_tlen hx hb hK.2.2.1.2.1 hO.2 rfl hdg kk
theorem gs_TK1 (hx : p.tables.exec = Jvm.exec) (hb : c.code = cc) (hown : s.vm.findClass RX6 = some m.cls) (hK : cwK D A ad cA tb0 tb1 s) (hO : cwO D A ad cA s st H locs) (hdg : decode cc pc = .ok (.getstatic 137, 3)) (kk : W p l e R s m args below meth c H locs cells slots Q (F0 m (pc + 3) ls (.ref tb1 :: rest))) : W p l e R s m args below meth c H locs cells slots Q (F0 m pc ls rest) :=
  va_getsN hx hb hK.2.2.1.2.2.1 hO.2 hown (va_Nw.use rfl hK.2.2.2.2.2.2.2.2.2) (fun _ h => h) hdg kk
theorem al_TK1 (hx : p.tables.exec = Jvm.exec) (hb : c.code = cc) (hK : cwK D A ad cA tb0 tb1 s) (hO : cwO D A ad cA s st H locs) {x : Int32} (hin : ix x 32 = true) (hdg : decode cc pc = .ok (.iaload, 1)) (kk : W p l e R s m args below meth c H locs cells slots Q (F0 m (pc + 1) ls (.int (tkM (x.toNatClampNeg)) :: rest))) : W p l e R s m args below meth c H locs cells slots Q (F0 m pc ls (.int x :: .ref tb1 :: rest)) :=
  va_ti hx hb hK.2.2.1.2.2.2 hO.2 (ix_in hin) rfl hdg kk
theorem an_TK1 (hx : p.tables.exec = Jvm.exec) (hb : c.code = cc) (hK : cwK D A ad cA tb0 tb1 s) (hO : cwO D A ad cA s st H locs) (hdg : decode cc pc = .ok (.arraylength, 1)) (kk : W p l e R s m args below meth c H locs cells slots Q (F0 m (pc + 1) ls (.int 32 :: rest))) : W p l e R s m args below meth c H locs cells slots Q (F0 m pc ls (.ref tb1 :: rest)) :=
  va_tlen hx hb hK.2.2.1.2.2.2 hO.2 rfl hdg kk
theorem ac_Leaves_KL (hx : p.tables.exec = Jvm.exec) (hb : c.code = cc) (hml : c.maxLocals = ls.size) {own : String} {index : Nat} (hown : s.vm.findClass own = some m.cls) (hlink : (Cond.methodLink own index arraycopyName).before args s = true) (hnat : (Cond.native arraycopyName).before args s = true) (hstat : (Cond.static arraycopyName).before args s = true) (hini : (Cond.initialized "java/lang/System").before args s = true) (hK : cwK D A ad cA tb0 tb1 s) (hO : cwO D A ad cA s st H locs) {j : Nat} (hj : j < 10) {sp dp n : Int32} (hck : cpk sp dp n 64 64 = true) (hframes : 1 ≤ R.frames) (hlocals : (rest.map fun v => v.category).sum + (nativeFrameWords "java/lang/System" "arraycopy" 5 + 11) ≤ R.locals) (hdg : decode cc pc = .ok (.invokestatic index, 3)) (kk : ∀ (H1 : Heap) (locs1 : List Loc), cwO D A ad cA s (cL st 0 0 (sp.toNatClampNeg) 3 j (dp.toNatClampNeg) (n.toNatClampNeg)) H1 locs1 → W p l e R s m args below meth c H1 locs1 cells slots Q (F0 m (pc + 3) ls rest)) : W p l e R s m args below meth c H locs cells slots Q (F0 m pc ls (.int n :: .int dp :: .ref (ad (154 + 1 * j)) :: .int sp :: .ref (ad (149)) :: rest)) := by
  obtain ⟨h1, h2, h3, h4, h5⟩ := cpk_all hck
  refine va_copyl hx hb hml hown hlink hnat hstat hini hK.1 hO.1 (hK.2.1.D _) hO.2 (149) (154 + 1 * j) 1 1 (ty := .long) (wd_get (by omega) (cc_Leaves)) (wd_get (by omega) (cc_KL hj)) rfl rfl rfl h1 h2 h3 h4 h5 (fun _ _ => rfl) hframes hlocals hdg (fun H1 locs1 hP _ hS => kk H1 locs1 ⟨?_, hS⟩)
  rw [cw_put (st2 := cL st 0 0 (sp.toNatClampNeg) 3 j (dp.toNatClampNeg) (n.toNatClampNeg)) (by omega) ((cc_KL hj).trans (by rw [cw_cpyL])) (fun z hz hne => cwc_cL hz (by rw [show cw_of _ _ = 154 + 1 * j from by simp [cw_of, ownI, ownL, ownR]]; exact hne))] at hP
  exact hP
theorem ac_Bals_KB (hx : p.tables.exec = Jvm.exec) (hb : c.code = cc) (hml : c.maxLocals = ls.size) {own : String} {index : Nat} (hown : s.vm.findClass own = some m.cls) (hlink : (Cond.methodLink own index arraycopyName).before args s = true) (hnat : (Cond.native arraycopyName).before args s = true) (hstat : (Cond.static arraycopyName).before args s = true) (hini : (Cond.initialized "java/lang/System").before args s = true) (hK : cwK D A ad cA tb0 tb1 s) (hO : cwO D A ad cA s st H locs) {j : Nat} (hj : j < 10) {sp dp n : Int32} (hck : cpk sp dp n 8 8 = true) (hframes : 1 ≤ R.frames) (hlocals : (rest.map fun v => v.category).sum + (nativeFrameWords "java/lang/System" "arraycopy" 5 + 11) ≤ R.locals) (hdg : decode cc pc = .ok (.invokestatic index, 3)) (kk : ∀ (H1 : Heap) (locs1 : List Loc), cwO D A ad cA s (cL st 1 0 (sp.toNatClampNeg) 4 j (dp.toNatClampNeg) (n.toNatClampNeg)) H1 locs1 → W p l e R s m args below meth c H1 locs1 cells slots Q (F0 m (pc + 3) ls rest)) : W p l e R s m args below meth c H locs cells slots Q (F0 m pc ls (.int n :: .int dp :: .ref (ad (165 + 1 * j)) :: .int sp :: .ref (ad (150)) :: rest)) := by
  obtain ⟨h1, h2, h3, h4, h5⟩ := cpk_all hck
  refine va_copyl hx hb hml hown hlink hnat hstat hini hK.1 hO.1 (hK.2.1.D _) hO.2 (150) (165 + 1 * j) 1 1 (ty := .long) (wd_get (by omega) (cc_Bals)) (wd_get (by omega) (cc_KB hj)) rfl rfl rfl h1 h2 h3 h4 h5 (fun _ _ => rfl) hframes hlocals hdg (fun H1 locs1 hP _ hS => kk H1 locs1 ⟨?_, hS⟩)
  rw [cw_put (st2 := cL st 1 0 (sp.toNatClampNeg) 4 j (dp.toNatClampNeg) (n.toNatClampNeg)) (by omega) ((cc_KB hj).trans (by rw [cw_cpyL])) (fun z hz hne => cwc_cL hz (by rw [show cw_of _ _ = 165 + 1 * j from by simp [cw_of, ownI, ownL, ownR]]; exact hne))] at hP
  exact hP
theorem ac_KL_Leaves (hx : p.tables.exec = Jvm.exec) (hb : c.code = cc) (hml : c.maxLocals = ls.size) {own : String} {index : Nat} (hown : s.vm.findClass own = some m.cls) (hlink : (Cond.methodLink own index arraycopyName).before args s = true) (hnat : (Cond.native arraycopyName).before args s = true) (hstat : (Cond.static arraycopyName).before args s = true) (hini : (Cond.initialized "java/lang/System").before args s = true) (hK : cwK D A ad cA tb0 tb1 s) (hO : cwO D A ad cA s st H locs) {i : Nat} (hi : i < 10) {sp dp n : Int32} (hck : cpk sp dp n 64 64 = true) (hframes : 1 ≤ R.frames) (hlocals : (rest.map fun v => v.category).sum + (nativeFrameWords "java/lang/System" "arraycopy" 5 + 11) ≤ R.locals) (hdg : decode cc pc = .ok (.invokestatic index, 3)) (kk : ∀ (H1 : Heap) (locs1 : List Loc), cwO D A ad cA s (cL st 3 i (sp.toNatClampNeg) 0 0 (dp.toNatClampNeg) (n.toNatClampNeg)) H1 locs1 → W p l e R s m args below meth c H1 locs1 cells slots Q (F0 m (pc + 3) ls rest)) : W p l e R s m args below meth c H locs cells slots Q (F0 m pc ls (.int n :: .int dp :: .ref (ad (149)) :: .int sp :: .ref (ad (154 + 1 * i)) :: rest)) := by
  obtain ⟨h1, h2, h3, h4, h5⟩ := cpk_all hck
  refine va_copyl hx hb hml hown hlink hnat hstat hini hK.1 hO.1 (hK.2.1.D _) hO.2 (154 + 1 * i) (149) 1 1 (ty := .long) (wd_get (by omega) (cc_KL hi)) (wd_get (by omega) (cc_Leaves)) rfl rfl rfl h1 h2 h3 h4 h5 (fun _ _ => rfl) hframes hlocals hdg (fun H1 locs1 hP _ hS => kk H1 locs1 ⟨?_, hS⟩)
  rw [cw_put (st2 := cL st 3 i (sp.toNatClampNeg) 0 0 (dp.toNatClampNeg) (n.toNatClampNeg)) (by omega) ((cc_Leaves).trans (by rw [cw_cpyL])) (fun z hz hne => cwc_cL hz (by rw [show cw_of _ _ = 149 from by simp [cw_of, ownI, ownL, ownR]]; exact hne))] at hP
  exact hP
theorem ac_KB_Bals (hx : p.tables.exec = Jvm.exec) (hb : c.code = cc) (hml : c.maxLocals = ls.size) {own : String} {index : Nat} (hown : s.vm.findClass own = some m.cls) (hlink : (Cond.methodLink own index arraycopyName).before args s = true) (hnat : (Cond.native arraycopyName).before args s = true) (hstat : (Cond.static arraycopyName).before args s = true) (hini : (Cond.initialized "java/lang/System").before args s = true) (hK : cwK D A ad cA tb0 tb1 s) (hO : cwO D A ad cA s st H locs) {i : Nat} (hi : i < 10) {sp dp n : Int32} (hck : cpk sp dp n 8 8 = true) (hframes : 1 ≤ R.frames) (hlocals : (rest.map fun v => v.category).sum + (nativeFrameWords "java/lang/System" "arraycopy" 5 + 11) ≤ R.locals) (hdg : decode cc pc = .ok (.invokestatic index, 3)) (kk : ∀ (H1 : Heap) (locs1 : List Loc), cwO D A ad cA s (cL st 4 i (sp.toNatClampNeg) 1 0 (dp.toNatClampNeg) (n.toNatClampNeg)) H1 locs1 → W p l e R s m args below meth c H1 locs1 cells slots Q (F0 m (pc + 3) ls rest)) : W p l e R s m args below meth c H locs cells slots Q (F0 m pc ls (.int n :: .int dp :: .ref (ad (150)) :: .int sp :: .ref (ad (165 + 1 * i)) :: rest)) := by
  obtain ⟨h1, h2, h3, h4, h5⟩ := cpk_all hck
  refine va_copyl hx hb hml hown hlink hnat hstat hini hK.1 hO.1 (hK.2.1.D _) hO.2 (165 + 1 * i) (150) 1 1 (ty := .long) (wd_get (by omega) (cc_KB hi)) (wd_get (by omega) (cc_Bals)) rfl rfl rfl h1 h2 h3 h4 h5 (fun _ _ => rfl) hframes hlocals hdg (fun H1 locs1 hP _ hS => kk H1 locs1 ⟨?_, hS⟩)
  rw [cw_put (st2 := cL st 4 i (sp.toNatClampNeg) 1 0 (dp.toNatClampNeg) (n.toNatClampNeg)) (by omega) ((cc_Bals).trans (by rw [cw_cpyL])) (fun z hz hne => cwc_cL hz (by rw [show cw_of _ _ = 150 from by simp [cw_of, ownI, ownL, ownR]]; exact hne))] at hP
  exact hP
theorem ac_Elems_Elems (hx : p.tables.exec = Jvm.exec) (hb : c.code = cc) (hml : c.maxLocals = ls.size) {own : String} {index : Nat} (hown : s.vm.findClass own = some m.cls) (hlink : (Cond.methodLink own index arraycopyName).before args s = true) (hnat : (Cond.native arraycopyName).before args s = true) (hstat : (Cond.static arraycopyName).before args s = true) (hini : (Cond.initialized "java/lang/System").before args s = true) (hK : cwK D A ad cA tb0 tb1 s) (hO : cwO D A ad cA s st H locs) {i : Nat} (hi : i < 10) {j : Nat} (hj : j < 10) {sp dp n : Int32} (hck : cpk sp dp n 192 192 = true) (hframes : 1 ≤ R.frames) (hlocals : (rest.map fun v => v.category).sum + (nativeFrameWords "java/lang/System" "arraycopy" 5 + 11) ≤ R.locals) (hdg : decode cc pc = .ok (.invokestatic index, 3)) (kk : ∀ (H1 : Heap) (locs1 : List Loc), cwO D A ad cA s (cL st 7 i (sp.toNatClampNeg) 7 j (dp.toNatClampNeg) (n.toNatClampNeg)) H1 locs1 → W p l e R s m args below meth c H1 locs1 cells slots Q (F0 m (pc + 3) ls rest)) : W p l e R s m args below meth c H locs cells slots Q (F0 m pc ls (.int n :: .int dp :: .ref (ad (186 + 9 * j)) :: .int sp :: .ref (ad (186 + 9 * i)) :: rest)) := by
  obtain ⟨h1, h2, h3, h4, h5⟩ := cpk_all hck
  refine va_copyl hx hb hml hown hlink hnat hstat hini hK.1 hO.1 (hK.2.1.D _) hO.2 (186 + 9 * i) (186 + 9 * j) 1 1 (ty := .long) (wd_get (by omega) (cc_Elems hi)) (wd_get (by omega) (cc_Elems hj)) rfl rfl rfl h1 h2 h3 h4 h5 (fun _ _ => rfl) hframes hlocals hdg (fun H1 locs1 hP _ hS => kk H1 locs1 ⟨?_, hS⟩)
  rw [cw_put (st2 := cL st 7 i (sp.toNatClampNeg) 7 j (dp.toNatClampNeg) (n.toNatClampNeg)) (by omega) ((cc_Elems hj).trans (by rw [cw_cpyL])) (fun z hz hne => cwc_cL hz (by rw [show cw_of _ _ = 186 + 9 * j from by simp [cw_of, ownI, ownL, ownR]]; exact hne))] at hP
  exact hP
end CWF
end
section
-- Beh append
def j_Beh_append (a0 : Nat) (a1 : Int32) (a2 : Int32) (st : CwS) : Option (Int32 × CwS) :=
  if (gI st 2 a0 0) < ((24 : Int32)) then
    ck (ix (gI st 2 a0 0) 24) <|
    ck (ix (gI (sI st 0 a0 ((gI st 2 a0 0).toNatClampNeg) a1) 2 a0 0) 24) <|
    some ((1 : Int32), sI (sI (sI st 0 a0 ((gI st 2 a0 0).toNatClampNeg) a1) 1 a0 ((gI (sI st 0 a0 ((gI st 2 a0 0).toNatClampNeg) a1) 2 a0 0).toNatClampNeg) a2) 2 a0 0 ((gI (sI (sI st 0 a0 ((gI st 2 a0 0).toNatClampNeg) a1) 1 a0 ((gI (sI st 0 a0 ((gI st 2 a0 0).toNatClampNeg) a1) 2 a0 0).toNatClampNeg) a2) 2 a0 0) + ((1 : Int32))))
  else
    some ((0 : Int32), st)
set_option maxHeartbeats 4000000 in
set_option maxRecDepth 100000 in
theorem c_Beh_append (l : Launch) (D : va_G) (A : Nat → Prop) (ad : Nat → Nat) (cA : Nat → ClassId) (tb0 tb1 : Nat) (a0 : Nat) (ha0 : a0 < 48) (a1 : Int32) (a2 : Int32) (st : CwS) (r : Int32) (st' : CwS) (h : j_Beh_append a0 a1 a2 st = some (r, st')) : Met l yX0_append (wv yX0_append cX0_append 3 (some .boolean)) ({ frames := 0, cells := 0, slots := 0, locals := 0 }) (va_Pc [.ref (ad (4 + 3 * a0)), .int a1, .int a2] (cwU D A ad cA tb0 tb1 st)) (cwQi D A ad cA tb0 tb1 r st') 0 0 A := by
  refine Met.ofW (cc := cX0_append) (maxL := 3) (ret := some .boolean) (by decide) rfl ?_
  intro p e s m args below meth c s₁ B hml hv
  obtain ⟨rfl, hP, hK⟩ := hv
  have hx := B.exec
  have hb := B.bytes
  have hr := B.returns
  have hts := atoms_spec (ws := wv yX0_append cX0_append 3 (some .boolean)) B.pre
  have hown : s.vm.findClass RX0 = some m.cls := findClass_of_methodNamed B.named
  have hlocks := B.notSynchronized
  have hO : cwO D A ad cA s st s.heap [] := ⟨hP, va_S.rf⟩
  have hl := lv_entry ([.ref (ad (4 + 3 * a0)), .int a1, .int a2]) (n := 3) (Nat.le_of_ble_eq_true rfl)
  rw [lg_entry_eq]
  generalize (lg_sl ([.ref (ad (4 + 3 * a0)), .int a1, .int a2]) ++ List.replicate (3 - (lg_sl ([.ref (ad (4 + 3 * a0)), .int a1, .int a2])).length) Slot.unset).toArray = ls at hl ⊢
  have hl : lv_has ls 3 [(0, .ref (ad (4 + 3 * a0))), (1, .int a1), (2, .int a2)] := hl
  have _h0 := hO
  have hgw := fun (w : Cond) (h : w ∈ gwW) => hts w (List.mem_cons_of_mem _ h)
  have k9 := hgw _ w_92e4e692
  have k15 := hgw _ w_3596c244
  have k18 := hgw _ w_ac02c5f5
  unfold j_Beh_append at h
  refine lv_aload_n hx hb dX0_append_0 rfl (lv_at hl 0 rfl) ?_
  refine gf_Beh_count hx hb hgw iwBeh hown hK hO ha0 k18 dX0_append_1 ?_
  refine lv_bipush (v := 24) hx hb dX0_append_4 (by decide) ?_
  refine lv_icmp_lt (tgt := 11) hx hb dX0_append_6 (by decide) (fun c1 => ?_) (fun c1 => ?_)
  · have h := ite_t c1 h
    refine lv_aload_n hx hb dX0_append_11 rfl (lv_at hl 0 rfl) ?_
    refine gf_Beh_codes hx hb hgw iwBeh hown hK hO ha0 k9 dX0_append_12 ?_
    refine lv_aload_n hx hb dX0_append_15 rfl (lv_at hl 0 rfl) ?_
    refine gf_Beh_count hx hb hgw iwBeh hown hK hO ha0 k18 dX0_append_16 ?_
    refine lv_iload_n hx hb dX0_append_19 rfl (lv_at hl 1 rfl) ?_
    obtain ⟨hc2, h⟩ := ck_some h
    refine as_Codes hx hb hK hO ha0 hc2 dX0_append_20 (fun H locs hO => ?_)
    refine lv_aload_n hx hb dX0_append_21 rfl (lv_at hl 0 rfl) ?_
    refine gf_Beh_numbers hx hb hgw iwBeh hown hK hO ha0 k15 dX0_append_22 ?_
    refine lv_aload_n hx hb dX0_append_25 rfl (lv_at hl 0 rfl) ?_
    refine gf_Beh_count hx hb hgw iwBeh hown hK hO ha0 k18 dX0_append_26 ?_
    refine lv_iload_n hx hb dX0_append_29 rfl (lv_at hl 2 rfl) ?_
    obtain ⟨hc3, h⟩ := ck_some h
    refine as_Nums hx hb hK hO ha0 hc3 dX0_append_30 (fun H locs hO => ?_)
    refine lv_aload_n hx hb dX0_append_31 rfl (lv_at hl 0 rfl) ?_
    refine lv_dup hx hb dX0_append_32 rfl ?_
    refine gf_Beh_count hx hb hgw iwBeh hown hK hO ha0 k18 dX0_append_33 ?_
    refine lv_iconst (v := 1) hx hb dX0_append_36 (by decide) ?_
    refine lv_iadd hx hb dX0_append_37 ?_
    refine pf_Beh_count hx hb hgw iwBeh hown hK hO ha0 k18 dX0_append_38 (fun H locs hO => ?_)
    refine lv_iconst (v := 1) hx hb dX0_append_41 (by decide) ?_
    obtain ⟨rfl, rfl⟩ := ret2 h; exact cw_zret hx hb hr hlocks hO rfl dX0_append_42
  · have h := ite_f c1 h
    refine lv_iconst (v := 0) hx hb dX0_append_9 (by decide) ?_
    obtain ⟨rfl, rfl⟩ := ret2 h; exact cw_zret hx hb hr hlocks hO rfl dX0_append_10
-- Beh hasPlace
def j_Beh_hasPlace (a0 : Nat) (a1 : Int32) (st : CwS) : Option (Int32 × CwS) :=
  if a1 < ((0 : Int32)) then
    some ((0 : Int32), st)
  else
    if (gI st 2 a0 0) < a1 then
      some ((0 : Int32), st)
    else
      some ((1 : Int32), st)
set_option maxHeartbeats 4000000 in
set_option maxRecDepth 100000 in
theorem c_Beh_hasPlace (l : Launch) (D : va_G) (A : Nat → Prop) (ad : Nat → Nat) (cA : Nat → ClassId) (tb0 tb1 : Nat) (a0 : Nat) (ha0 : a0 < 48) (a1 : Int32) (st : CwS) (r : Int32) (st' : CwS) (h : j_Beh_hasPlace a0 a1 st = some (r, st')) : Met l yX0_hasPlace (wv yX0_hasPlace cX0_hasPlace 2 (some .boolean)) ({ frames := 0, cells := 0, slots := 0, locals := 0 }) (va_Pc [.ref (ad (4 + 3 * a0)), .int a1] (cwU D A ad cA tb0 tb1 st)) (cwQi D A ad cA tb0 tb1 r st') 0 0 A := by
  refine Met.ofW (cc := cX0_hasPlace) (maxL := 2) (ret := some .boolean) (by decide) rfl ?_
  intro p e s m args below meth c s₁ B hml hv
  obtain ⟨rfl, hP, hK⟩ := hv
  have hx := B.exec
  have hb := B.bytes
  have hr := B.returns
  have hts := atoms_spec (ws := wv yX0_hasPlace cX0_hasPlace 2 (some .boolean)) B.pre
  have hown : s.vm.findClass RX0 = some m.cls := findClass_of_methodNamed B.named
  have hlocks := B.notSynchronized
  have hO : cwO D A ad cA s st s.heap [] := ⟨hP, va_S.rf⟩
  have hl := lv_entry ([.ref (ad (4 + 3 * a0)), .int a1]) (n := 2) (Nat.le_of_ble_eq_true rfl)
  rw [lg_entry_eq]
  generalize (lg_sl ([.ref (ad (4 + 3 * a0)), .int a1]) ++ List.replicate (2 - (lg_sl ([.ref (ad (4 + 3 * a0)), .int a1])).length) Slot.unset).toArray = ls at hl ⊢
  have hl : lv_has ls 2 [(0, .ref (ad (4 + 3 * a0))), (1, .int a1)] := hl
  have _h0 := hO
  have hgw := fun (w : Cond) (h : w ∈ gwW) => hts w (List.mem_cons_of_mem _ h)
  have k18 := hgw _ w_ac02c5f5
  unfold j_Beh_hasPlace at h
  refine lv_iload_n hx hb dX0_hasPlace_0 rfl (lv_at hl 1 rfl) ?_
  refine lv_if_lt (tgt := 16) hx hb dX0_hasPlace_1 (by decide) (fun c1 => ?_) (fun c1 => ?_)
  · have h := ite_t c1 h
    refine lv_iconst (v := 0) hx hb dX0_hasPlace_16 (by decide) ?_
    obtain ⟨rfl, rfl⟩ := ret2 h; exact cw_zret hx hb hr hlocks hO rfl dX0_hasPlace_17
  · have h := ite_f c1 h
    refine lv_iload_n hx hb dX0_hasPlace_4 rfl (lv_at hl 1 rfl) ?_
    refine lv_aload_n hx hb dX0_hasPlace_5 rfl (lv_at hl 0 rfl) ?_
    refine gf_Beh_count hx hb hgw iwBeh hown hK hO ha0 k18 dX0_hasPlace_6 ?_
    refine lv_icmp_gt (tgt := 16) hx hb dX0_hasPlace_9 (by decide) (fun c2 => ?_) (fun c2 => ?_)
    · have h := ite_t c2 h
      refine lv_iconst (v := 0) hx hb dX0_hasPlace_16 (by decide) ?_
      obtain ⟨rfl, rfl⟩ := ret2 h; exact cw_zret hx hb hr hlocks hO rfl dX0_hasPlace_17
    · have h := ite_f c2 h
      refine lv_iconst (v := 1) hx hb dX0_hasPlace_12 (by decide) ?_
      refine lv_goto (tgt := 17) hx hb dX0_hasPlace_13 (by decide) ?_
      obtain ⟨rfl, rfl⟩ := ret2 h; exact cw_zret hx hb hr hlocks hO rfl dX0_hasPlace_17
-- Book find
def j_Book_find (a1 : Int32) (a2 : Int32) (st : CwS) : Option (Nat × CwS) :=
  ck (ix ((a1 * ((6 : Int32))) + a2) 48) <|
  some (((a1 * ((6 : Int32))) + a2).toNatClampNeg, st)
set_option maxHeartbeats 4000000 in
set_option maxRecDepth 100000 in
theorem c_Book_find (l : Launch) (D : va_G) (A : Nat → Prop) (ad : Nat → Nat) (cA : Nat → ClassId) (tb0 tb1 : Nat) (a1 : Int32) (a2 : Int32) (st : CwS) (r : Nat) (st' : CwS) (h : j_Book_find a1 a2 st = some (r, st')) : Met l yX1_find (wv yX1_find cX1_find 3 (some (.object "CallWalker$Behaviour"))) ({ frames := 0, cells := 0, slots := 0, locals := 0 }) (va_Pc [.ref (ad 1), .int a1, .int a2] (cwU D A ad cA tb0 tb1 st)) (cwQr D A ad cA tb0 tb1 (4 + 3 * r) st') 0 0 A := by
  refine Met.ofW (cc := cX1_find) (maxL := 3) (ret := some (.object "CallWalker$Behaviour")) (by decide) rfl ?_
  intro p e s m args below meth c s₁ B hml hv
  obtain ⟨rfl, hP, hK⟩ := hv
  have hx := B.exec
  have hb := B.bytes
  have hr := B.returns
  have hts := atoms_spec (ws := wv yX1_find cX1_find 3 (some (.object "CallWalker$Behaviour"))) B.pre
  have hown : s.vm.findClass RX1 = some m.cls := findClass_of_methodNamed B.named
  have hlocks := B.notSynchronized
  have hO : cwO D A ad cA s st s.heap [] := ⟨hP, va_S.rf⟩
  have hl := lv_entry ([.ref (ad 1), .int a1, .int a2]) (n := 3) (Nat.le_of_ble_eq_true rfl)
  rw [lg_entry_eq]
  generalize (lg_sl ([.ref (ad 1), .int a1, .int a2]) ++ List.replicate (3 - (lg_sl ([.ref (ad 1), .int a1, .int a2])).length) Slot.unset).toArray = ls at hl ⊢
  have hl : lv_has ls 3 [(0, .ref (ad 1)), (1, .int a1), (2, .int a2)] := hl
  have _h0 := hO
  have hgw := fun (w : Cond) (h : w ∈ gwW) => hts w (List.mem_cons_of_mem _ h)
  have k11 := hgw _ w_cc2d62dd
  unfold j_Book_find at h
  refine lv_aload_n hx hb dX1_find_0 rfl (lv_at hl 0 rfl) ?_
  refine gf_Book_behaviours hx hb hgw iwBook hown hK hO k11 dX1_find_1 ?_
  refine lv_iload_n hx hb dX1_find_4 rfl (lv_at hl 1 rfl) ?_
  refine lv_bipush (v := 6) hx hb dX1_find_5 (by decide) ?_
  refine lv_imul hx hb dX1_find_7 ?_
  refine lv_iload_n hx hb dX1_find_8 rfl (lv_at hl 2 rfl) ?_
  refine lv_iadd hx hb dX1_find_9 ?_
  obtain ⟨hc1, h⟩ := ck_some h
  refine al_BehArr hx hb hK hO hc1 dX1_find_10 ?_
  obtain ⟨rfl, rfl⟩ := ret2 h; exact cw_aret hx hb hr ⟨_, rfl⟩ hlocks hO dX1_find_11
-- Ledger hasEvent
def j_Ledger_hasEvent (a1 : Int32) (st : CwS) : Option (Int32 × CwS) :=
  if a1 < ((0 : Int32)) then
    some ((0 : Int32), st)
  else
    if (gI st 5 0 0) ≤ a1 then
      some ((0 : Int32), st)
    else
      some ((1 : Int32), st)
set_option maxHeartbeats 4000000 in
set_option maxRecDepth 100000 in
theorem c_Ledger_hasEvent (l : Launch) (D : va_G) (A : Nat → Prop) (ad : Nat → Nat) (cA : Nat → ClassId) (tb0 tb1 : Nat) (a1 : Int32) (st : CwS) (r : Int32) (st' : CwS) (h : j_Ledger_hasEvent a1 st = some (r, st')) : Met l yX3_hasEvent (wv yX3_hasEvent cX3_hasEvent 2 (some .boolean)) ({ frames := 0, cells := 0, slots := 0, locals := 0 }) (va_Pc [.ref (ad 148), .int a1] (cwU D A ad cA tb0 tb1 st)) (cwQi D A ad cA tb0 tb1 r st') 0 0 A := by
  refine Met.ofW (cc := cX3_hasEvent) (maxL := 2) (ret := some .boolean) (by decide) rfl ?_
  intro p e s m args below meth c s₁ B hml hv
  obtain ⟨rfl, hP, hK⟩ := hv
  have hx := B.exec
  have hb := B.bytes
  have hr := B.returns
  have hts := atoms_spec (ws := wv yX3_hasEvent cX3_hasEvent 2 (some .boolean)) B.pre
  have hown : s.vm.findClass RX3 = some m.cls := findClass_of_methodNamed B.named
  have hlocks := B.notSynchronized
  have hO : cwO D A ad cA s st s.heap [] := ⟨hP, va_S.rf⟩
  have hl := lv_entry ([.ref (ad 148), .int a1]) (n := 2) (Nat.le_of_ble_eq_true rfl)
  rw [lg_entry_eq]
  generalize (lg_sl ([.ref (ad 148), .int a1]) ++ List.replicate (2 - (lg_sl ([.ref (ad 148), .int a1])).length) Slot.unset).toArray = ls at hl ⊢
  have hl : lv_has ls 2 [(0, .ref (ad 148)), (1, .int a1)] := hl
  have _h0 := hO
  have hgw := fun (w : Cond) (h : w ∈ gwW) => hts w (List.mem_cons_of_mem _ h)
  have k25 := hgw _ w_0675cc0a
  unfold j_Ledger_hasEvent at h
  refine lv_iload_n hx hb dX3_hasEvent_0 rfl (lv_at hl 1 rfl) ?_
  refine lv_if_lt (tgt := 16) hx hb dX3_hasEvent_1 (by decide) (fun c1 => ?_) (fun c1 => ?_)
  · have h := ite_t c1 h
    refine lv_iconst (v := 0) hx hb dX3_hasEvent_16 (by decide) ?_
    obtain ⟨rfl, rfl⟩ := ret2 h; exact cw_zret hx hb hr hlocks hO rfl dX3_hasEvent_17
  · have h := ite_f c1 h
    refine lv_iload_n hx hb dX3_hasEvent_4 rfl (lv_at hl 1 rfl) ?_
    refine lv_aload_n hx hb dX3_hasEvent_5 rfl (lv_at hl 0 rfl) ?_
    refine gf_Ledger_eventCount hx hb hgw iwLedger hown hK hO k25 dX3_hasEvent_6 ?_
    refine lv_icmp_ge (tgt := 16) hx hb dX3_hasEvent_9 (by decide) (fun c2 => ?_) (fun c2 => ?_)
    · have h := ite_t c2 h
      refine lv_iconst (v := 0) hx hb dX3_hasEvent_16 (by decide) ?_
      obtain ⟨rfl, rfl⟩ := ret2 h; exact cw_zret hx hb hr hlocks hO rfl dX3_hasEvent_17
    · have h := ite_f c2 h
      refine lv_iconst (v := 1) hx hb dX3_hasEvent_12 (by decide) ?_
      refine lv_goto (tgt := 17) hx hb dX3_hasEvent_13 (by decide) ?_
      obtain ⟨rfl, rfl⟩ := ret2 h; exact cw_zret hx hb hr hlocks hO rfl dX3_hasEvent_17
-- Ledger addEvent
def j_Ledger_addEvent (a1 : Int32) (a2 : Int64) (st : CwS) : Option (Int32 × CwS) :=
  if (gI st 5 0 0) < ((40 : Int32)) then
    ck (ix (gI st 5 0 0) 40) <|
    ck (ix (gI (sI st 4 0 ((gI st 5 0 0).toNatClampNeg) a1) 5 0 0) 40) <|
    some ((1 : Int32), sI (sL (sI st 4 0 ((gI st 5 0 0).toNatClampNeg) a1) 2 0 ((gI (sI st 4 0 ((gI st 5 0 0).toNatClampNeg) a1) 5 0 0).toNatClampNeg) a2) 5 0 0 ((gI (sL (sI st 4 0 ((gI st 5 0 0).toNatClampNeg) a1) 2 0 ((gI (sI st 4 0 ((gI st 5 0 0).toNatClampNeg) a1) 5 0 0).toNatClampNeg) a2) 5 0 0) + ((1 : Int32))))
  else
    some ((0 : Int32), st)
set_option maxHeartbeats 4000000 in
set_option maxRecDepth 100000 in
theorem c_Ledger_addEvent (l : Launch) (D : va_G) (A : Nat → Prop) (ad : Nat → Nat) (cA : Nat → ClassId) (tb0 tb1 : Nat) (a1 : Int32) (a2 : Int64) (st : CwS) (r : Int32) (st' : CwS) (h : j_Ledger_addEvent a1 a2 st = some (r, st')) : Met l yX3_addEvent (wv yX3_addEvent cX3_addEvent 4 (some .boolean)) ({ frames := 0, cells := 0, slots := 0, locals := 0 }) (va_Pc [.ref (ad 148), .int a1, .long a2] (cwU D A ad cA tb0 tb1 st)) (cwQi D A ad cA tb0 tb1 r st') 0 0 A := by
  refine Met.ofW (cc := cX3_addEvent) (maxL := 4) (ret := some .boolean) (by decide) rfl ?_
  intro p e s m args below meth c s₁ B hml hv
  obtain ⟨rfl, hP, hK⟩ := hv
  have hx := B.exec
  have hb := B.bytes
  have hr := B.returns
  have hts := atoms_spec (ws := wv yX3_addEvent cX3_addEvent 4 (some .boolean)) B.pre
  have hown : s.vm.findClass RX3 = some m.cls := findClass_of_methodNamed B.named
  have hlocks := B.notSynchronized
  have hO : cwO D A ad cA s st s.heap [] := ⟨hP, va_S.rf⟩
  have hl := lv_entry ([.ref (ad 148), .int a1, .long a2]) (n := 4) (Nat.le_of_ble_eq_true rfl)
  rw [lg_entry_eq]
  generalize (lg_sl ([.ref (ad 148), .int a1, .long a2]) ++ List.replicate (4 - (lg_sl ([.ref (ad 148), .int a1, .long a2])).length) Slot.unset).toArray = ls at hl ⊢
  have hl : lv_has ls 4 [(0, .ref (ad 148)), (1, .int a1), (2, .long a2)] := hl
  have _h0 := hO
  have hgw := fun (w : Cond) (h : w ∈ gwW) => hts w (List.mem_cons_of_mem _ h)
  have k18 := hgw _ w_ba44a13a
  have k22 := hgw _ w_2b6c9491
  have k25 := hgw _ w_0675cc0a
  unfold j_Ledger_addEvent at h
  refine lv_aload_n hx hb dX3_addEvent_0 rfl (lv_at hl 0 rfl) ?_
  refine gf_Ledger_eventCount hx hb hgw iwLedger hown hK hO k25 dX3_addEvent_1 ?_
  refine lv_bipush (v := 40) hx hb dX3_addEvent_4 (by decide) ?_
  refine lv_icmp_lt (tgt := 11) hx hb dX3_addEvent_6 (by decide) (fun c1 => ?_) (fun c1 => ?_)
  · have h := ite_t c1 h
    refine lv_aload_n hx hb dX3_addEvent_11 rfl (lv_at hl 0 rfl) ?_
    refine gf_Ledger_eventContracts hx hb hgw iwLedger hown hK hO k18 dX3_addEvent_12 ?_
    refine lv_aload_n hx hb dX3_addEvent_15 rfl (lv_at hl 0 rfl) ?_
    refine gf_Ledger_eventCount hx hb hgw iwLedger hown hK hO k25 dX3_addEvent_16 ?_
    refine lv_iload_n hx hb dX3_addEvent_19 rfl (lv_at hl 1 rfl) ?_
    obtain ⟨hc2, h⟩ := ck_some h
    refine as_EvC hx hb hK hO hc2 dX3_addEvent_20 (fun H locs hO => ?_)
    refine lv_aload_n hx hb dX3_addEvent_21 rfl (lv_at hl 0 rfl) ?_
    refine gf_Ledger_eventNumbers hx hb hgw iwLedger hown hK hO k22 dX3_addEvent_22 ?_
    refine lv_aload_n hx hb dX3_addEvent_25 rfl (lv_at hl 0 rfl) ?_
    refine gf_Ledger_eventCount hx hb hgw iwLedger hown hK hO k25 dX3_addEvent_26 ?_
    refine lv_lload_n hx hb dX3_addEvent_29 rfl (lv_at hl 2 rfl) ?_
    obtain ⟨hc3, h⟩ := ck_some h
    refine as_EvN hx hb hK hO hc3 dX3_addEvent_30 (fun H locs hO => ?_)
    refine lv_aload_n hx hb dX3_addEvent_31 rfl (lv_at hl 0 rfl) ?_
    refine lv_dup hx hb dX3_addEvent_32 rfl ?_
    refine gf_Ledger_eventCount hx hb hgw iwLedger hown hK hO k25 dX3_addEvent_33 ?_
    refine lv_iconst (v := 1) hx hb dX3_addEvent_36 (by decide) ?_
    refine lv_iadd hx hb dX3_addEvent_37 ?_
    refine pf_Ledger_eventCount hx hb hgw iwLedger hown hK hO k25 dX3_addEvent_38 (fun H locs hO => ?_)
    refine lv_iconst (v := 1) hx hb dX3_addEvent_41 (by decide) ?_
    obtain ⟨rfl, rfl⟩ := ret2 h; exact cw_zret hx hb hr hlocks hO rfl dX3_addEvent_42
  · have h := ite_f c1 h
    refine lv_iconst (v := 0) hx hb dX3_addEvent_9 (by decide) ?_
    obtain ⟨rfl, rfl⟩ := ret2 h; exact cw_zret hx hb hr hlocks hO rfl dX3_addEvent_10
-- Ledger canMove
def j_Ledger_canMove (a1 : Int32) (a2 : Int32) (a3 : Int64) (st : CwS) : Option (Int32 × CwS) :=
  if a1 = a2 then
    some ((1 : Int32), st)
  else
    ck (ix a2 8) <|
    if ((0 : Int32)) < (lg_cmp (gL st 1 0 a2.toNatClampNeg) (((9223372036854775807 : Int64)) - a3)) then
      some ((0 : Int32), st)
    else
      some ((1 : Int32), st)
set_option maxHeartbeats 4000000 in
set_option maxRecDepth 100000 in
theorem c_Ledger_canMove (l : Launch) (D : va_G) (A : Nat → Prop) (ad : Nat → Nat) (cA : Nat → ClassId) (tb0 tb1 : Nat) (a1 : Int32) (a2 : Int32) (a3 : Int64) (st : CwS) (r : Int32) (st' : CwS) (h : j_Ledger_canMove a1 a2 a3 st = some (r, st')) : Met l yX3_canMove (wv yX3_canMove cX3_canMove 5 (some .boolean)) ({ frames := 0, cells := 0, slots := 0, locals := 0 }) (va_Pc [.ref (ad 148), .int a1, .int a2, .long a3] (cwU D A ad cA tb0 tb1 st)) (cwQi D A ad cA tb0 tb1 r st') 0 0 A := by
  refine Met.ofW (cc := cX3_canMove) (maxL := 5) (ret := some .boolean) (by decide) rfl ?_
  intro p e s m args below meth c s₁ B hml hv
  obtain ⟨rfl, hP, hK⟩ := hv
  have hx := B.exec
  have hb := B.bytes
  have hr := B.returns
  have hts := atoms_spec (ws := wv yX3_canMove cX3_canMove 5 (some .boolean)) B.pre
  have hown : s.vm.findClass RX3 = some m.cls := findClass_of_methodNamed B.named
  have hlocks := B.notSynchronized
  have hO : cwO D A ad cA s st s.heap [] := ⟨hP, va_S.rf⟩
  have hl := lv_entry ([.ref (ad 148), .int a1, .int a2, .long a3]) (n := 5) (Nat.le_of_ble_eq_true rfl)
  rw [lg_entry_eq]
  generalize (lg_sl ([.ref (ad 148), .int a1, .int a2, .long a3]) ++ List.replicate (5 - (lg_sl ([.ref (ad 148), .int a1, .int a2, .long a3])).length) Slot.unset).toArray = ls at hl ⊢
  have hl : lv_has ls 5 [(0, .ref (ad 148)), (1, .int a1), (2, .int a2), (3, .long a3)] := hl
  have _h0 := hO
  have hgw := fun (w : Cond) (h : w ∈ gwW) => hts w (List.mem_cons_of_mem _ h)
  have k15 := hgw _ w_93fec1d4
  have k42 := hgw _ w_7e4a3a45
  unfold j_Ledger_canMove at h
  refine lv_iload_n hx hb dX3_canMove_0 rfl (lv_at hl 1 rfl) ?_
  refine lv_iload_n hx hb dX3_canMove_1 rfl (lv_at hl 2 rfl) ?_
  refine lv_icmp_eq (tgt := 20) hx hb dX3_canMove_2 (by decide) (fun c1 => ?_) (fun c1 => ?_)
  · have h := ite_t c1 h
    refine lv_iconst (v := 1) hx hb dX3_canMove_20 (by decide) ?_
    refine lv_goto (tgt := 25) hx hb dX3_canMove_21 (by decide) ?_
    obtain ⟨rfl, rfl⟩ := ret2 h; exact cw_zret hx hb hr hlocks hO rfl dX3_canMove_25
  · have h := ite_f c1 h
    refine lv_aload_n hx hb dX3_canMove_5 rfl (lv_at hl 0 rfl) ?_
    refine gf_Ledger_balances hx hb hgw iwLedger hown hK hO k15 dX3_canMove_6 ?_
    refine lv_iload_n hx hb dX3_canMove_9 rfl (lv_at hl 2 rfl) ?_
    obtain ⟨hc2, h⟩ := ck_some h
    refine al_Bals hx hb hK hO hc2 dX3_canMove_10 ?_
    refine lv_ldc2 hx hb hown k42 dX3_canMove_11 ?_
    refine lv_lload_n hx hb dX3_canMove_14 rfl (lv_at hl 3 rfl) ?_
    refine lv_lsub hx hb dX3_canMove_15 ?_
    refine W.lcmp hx hb dX3_canMove_16 ?_
    refine lv_if_gt (tgt := 24) hx hb dX3_canMove_17 (by decide) (fun c3 => ?_) (fun c3 => ?_)
    · have h := ite_t c3 h
      refine lv_iconst (v := 0) hx hb dX3_canMove_24 (by decide) ?_
      obtain ⟨rfl, rfl⟩ := ret2 h; exact cw_zret hx hb hr hlocks hO rfl dX3_canMove_25
    · have h := ite_f c3 h
      refine lv_iconst (v := 1) hx hb dX3_canMove_20 (by decide) ?_
      refine lv_goto (tgt := 25) hx hb dX3_canMove_21 (by decide) ?_
      obtain ⟨rfl, rfl⟩ := ret2 h; exact cw_zret hx hb hr hlocks hO rfl dX3_canMove_25
-- Ledger move
def j_Ledger_move (a1 : Int32) (a2 : Int32) (a3 : Int64) (st : CwS) : Option CwS :=
  ck (ix a1 8) <|
  ck (ix a1 8) <|
  ck (ix a2 8) <|
  ck (ix a2 8) <|
  some (sL (sL st 1 0 a1.toNatClampNeg ((gL st 1 0 a1.toNatClampNeg) - a3)) 1 0 a2.toNatClampNeg ((gL (sL st 1 0 a1.toNatClampNeg ((gL st 1 0 a1.toNatClampNeg) - a3)) 1 0 a2.toNatClampNeg) + a3))
set_option maxHeartbeats 4000000 in
set_option maxRecDepth 100000 in
theorem c_Ledger_move (l : Launch) (D : va_G) (A : Nat → Prop) (ad : Nat → Nat) (cA : Nat → ClassId) (tb0 tb1 : Nat) (a1 : Int32) (a2 : Int32) (a3 : Int64) (st : CwS) (st' : CwS) (h : j_Ledger_move a1 a2 a3 st = some st') : Met l yX3_move (wv yX3_move cX3_move 5 (none)) ({ frames := 0, cells := 0, slots := 0, locals := 0 }) (va_Pc [.ref (ad 148), .int a1, .int a2, .long a3] (cwU D A ad cA tb0 tb1 st)) (cwQv D A ad cA tb0 tb1 st') 0 0 A := by
  refine Met.ofW (cc := cX3_move) (maxL := 5) (ret := none) (by decide) rfl ?_
  intro p e s m args below meth c s₁ B hml hv
  obtain ⟨rfl, hP, hK⟩ := hv
  have hx := B.exec
  have hb := B.bytes
  have hr := B.returns
  have hts := atoms_spec (ws := wv yX3_move cX3_move 5 (none)) B.pre
  have hown : s.vm.findClass RX3 = some m.cls := findClass_of_methodNamed B.named
  have hlocks := B.notSynchronized
  have hO : cwO D A ad cA s st s.heap [] := ⟨hP, va_S.rf⟩
  have hl := lv_entry ([.ref (ad 148), .int a1, .int a2, .long a3]) (n := 5) (Nat.le_of_ble_eq_true rfl)
  rw [lg_entry_eq]
  generalize (lg_sl ([.ref (ad 148), .int a1, .int a2, .long a3]) ++ List.replicate (5 - (lg_sl ([.ref (ad 148), .int a1, .int a2, .long a3])).length) Slot.unset).toArray = ls at hl ⊢
  have hl : lv_has ls 5 [(0, .ref (ad 148)), (1, .int a1), (2, .int a2), (3, .long a3)] := hl
  have _h0 := hO
  have hgw := fun (w : Cond) (h : w ∈ gwW) => hts w (List.mem_cons_of_mem _ h)
  have k15 := hgw _ w_93fec1d4
  unfold j_Ledger_move at h
  refine lv_aload_n hx hb dX3_move_0 rfl (lv_at hl 0 rfl) ?_
  refine gf_Ledger_balances hx hb hgw iwLedger hown hK hO k15 dX3_move_1 ?_
  refine lv_iload_n hx hb dX3_move_4 rfl (lv_at hl 1 rfl) ?_
  refine lv_dup2_11 hx hb dX3_move_5 rfl rfl ?_
  obtain ⟨hc1, h⟩ := ck_some h
  refine al_Bals hx hb hK hO hc1 dX3_move_6 ?_
  refine lv_lload_n hx hb dX3_move_7 rfl (lv_at hl 3 rfl) ?_
  refine lv_lsub hx hb dX3_move_8 ?_
  obtain ⟨hc2, h⟩ := ck_some h
  refine as_Bals hx hb hK hO hc2 dX3_move_9 (fun H locs hO => ?_)
  refine lv_aload_n hx hb dX3_move_10 rfl (lv_at hl 0 rfl) ?_
  refine gf_Ledger_balances hx hb hgw iwLedger hown hK hO k15 dX3_move_11 ?_
  refine lv_iload_n hx hb dX3_move_14 rfl (lv_at hl 2 rfl) ?_
  refine lv_dup2_11 hx hb dX3_move_15 rfl rfl ?_
  obtain ⟨hc3, h⟩ := ck_some h
  refine al_Bals hx hb hK hO hc3 dX3_move_16 ?_
  refine lv_lload_n hx hb dX3_move_17 rfl (lv_at hl 3 rfl) ?_
  refine lv_ladd hx hb dX3_move_18 ?_
  obtain ⟨hc4, h⟩ := ck_some h
  refine as_Bals hx hb hK hO hc4 dX3_move_19 (fun H locs hO => ?_)
  cases h; exact cw_vret hx hb hr hlocks hO dX3_move_20
-- Ledger keep
def j_Ledger_keep (a1 : Int32) (st : CwS) : Option CwS :=
  ck (ix a1 10) <|
  ck (cpk ((0 : Int32)) ((0 : Int32)) ((64 : Int32)) 64 64) <|
  ck (ix a1 10) <|
  ck (cpk ((0 : Int32)) ((0 : Int32)) ((8 : Int32)) 8 8) <|
  ck (ix a1 10) <|
  some (sI (cL (cL st 0 0 (((0 : Int32)).toNatClampNeg) 3 a1.toNatClampNeg (((0 : Int32)).toNatClampNeg) (((64 : Int32)).toNatClampNeg)) 1 0 (((0 : Int32)).toNatClampNeg) 4 a1.toNatClampNeg (((0 : Int32)).toNatClampNeg) (((8 : Int32)).toNatClampNeg)) 6 0 a1.toNatClampNeg (gI (cL (cL st 0 0 (((0 : Int32)).toNatClampNeg) 3 a1.toNatClampNeg (((0 : Int32)).toNatClampNeg) (((64 : Int32)).toNatClampNeg)) 1 0 (((0 : Int32)).toNatClampNeg) 4 a1.toNatClampNeg (((0 : Int32)).toNatClampNeg) (((8 : Int32)).toNatClampNeg)) 5 0 0))
set_option maxHeartbeats 4000000 in
set_option maxRecDepth 100000 in
theorem c_Ledger_keep (l : Launch) (D : va_G) (A : Nat → Prop) (ad : Nat → Nat) (cA : Nat → ClassId) (tb0 tb1 : Nat) (a1 : Int32) (st : CwS) (st' : CwS) (h : j_Ledger_keep a1 st = some st') : Met l yX3_keep (wv yX3_keep cX3_keep 2 (none)) ({ frames := 1, cells := 0, slots := 0, locals := 40 }) (va_Pc [.ref (ad 148), .int a1] (cwU D A ad cA tb0 tb1 st)) (cwQv D A ad cA tb0 tb1 st') 0 0 A := by
  refine Met.ofW (cc := cX3_keep) (maxL := 2) (ret := none) (by decide) rfl ?_
  intro p e s m args below meth c s₁ B hml hv
  obtain ⟨rfl, hP, hK⟩ := hv
  have hx := B.exec
  have hb := B.bytes
  have hr := B.returns
  have hts := atoms_spec (ws := wv yX3_keep cX3_keep 2 (none)) B.pre
  have hown : s.vm.findClass RX3 = some m.cls := findClass_of_methodNamed B.named
  have hlocks := B.notSynchronized
  have hO : cwO D A ad cA s st s.heap [] := ⟨hP, va_S.rf⟩
  have hl := lv_entry ([.ref (ad 148), .int a1]) (n := 2) (Nat.le_of_ble_eq_true rfl)
  rw [lg_entry_eq]
  generalize (lg_sl ([.ref (ad 148), .int a1]) ++ List.replicate (2 - (lg_sl ([.ref (ad 148), .int a1])).length) Slot.unset).toArray = ls at hl ⊢
  have hl : lv_has ls 2 [(0, .ref (ad 148)), (1, .int a1)] := hl
  have _h0 := hO
  have hgw := fun (w : Cond) (h : w ∈ gwW) => hts w (List.mem_cons_of_mem _ h)
  have k9 := hgw _ w_23a053dd
  have k15 := hgw _ w_93fec1d4
  have k25 := hgw _ w_0675cc0a
  have k31 := hgw _ w_f0b03c9d
  have k34 := hgw _ w_ded8991e
  have k37 := hgw _ w_81616191
  have k44 := hgw _ w_e7d42001
  unfold j_Ledger_keep at h
  refine lv_aload_n hx hb dX3_keep_0 rfl (lv_at hl 0 rfl) ?_
  refine gf_Ledger_leaves hx hb hgw iwLedger hown hK hO k9 dX3_keep_1 ?_
  refine lv_iconst (v := 0) hx hb dX3_keep_4 (by decide) ?_
  refine lv_aload_n hx hb dX3_keep_5 rfl (lv_at hl 0 rfl) ?_
  refine gf_Ledger_keptLeaves hx hb hgw iwLedger hown hK hO k31 dX3_keep_6 ?_
  refine lv_iload_n hx hb dX3_keep_9 rfl (lv_at hl 1 rfl) ?_
  obtain ⟨hc1, h⟩ := ck_some h
  refine al_KLo hx hb hK hO hc1 dX3_keep_10 ?_
  refine lv_iconst (v := 0) hx hb dX3_keep_11 (by decide) ?_
  refine lv_bipush (v := 64) hx hb dX3_keep_12 (by decide) ?_
  obtain ⟨hc2, h⟩ := ck_some h
  refine ac_Leaves_KL hx hb (by rw [hml]; exact hl.1.symm) hown k44 (hgw _ w_a648c8f7) (hgw _ w_410d49e2) (hgw _ w_4260ffab) hK hO (ix_lt hc1) hc2 (Nat.le_of_ble_eq_true rfl) (Nat.le_of_ble_eq_true rfl) dX3_keep_14 (fun H locs hO => ?_)
  refine lv_aload_n hx hb dX3_keep_17 rfl (lv_at hl 0 rfl) ?_
  refine gf_Ledger_balances hx hb hgw iwLedger hown hK hO k15 dX3_keep_18 ?_
  refine lv_iconst (v := 0) hx hb dX3_keep_21 (by decide) ?_
  refine lv_aload_n hx hb dX3_keep_22 rfl (lv_at hl 0 rfl) ?_
  refine gf_Ledger_keptBalances hx hb hgw iwLedger hown hK hO k34 dX3_keep_23 ?_
  refine lv_iload_n hx hb dX3_keep_26 rfl (lv_at hl 1 rfl) ?_
  obtain ⟨hc3, h⟩ := ck_some h
  refine al_KBo hx hb hK hO hc3 dX3_keep_27 ?_
  refine lv_iconst (v := 0) hx hb dX3_keep_28 (by decide) ?_
  refine lv_bipush (v := 8) hx hb dX3_keep_29 (by decide) ?_
  obtain ⟨hc4, h⟩ := ck_some h
  refine ac_Bals_KB hx hb (by rw [hml]; exact hl.1.symm) hown k44 (hgw _ w_a648c8f7) (hgw _ w_410d49e2) (hgw _ w_4260ffab) hK hO (ix_lt hc3) hc4 (Nat.le_of_ble_eq_true rfl) (Nat.le_of_ble_eq_true rfl) dX3_keep_31 (fun H locs hO => ?_)
  refine lv_aload_n hx hb dX3_keep_34 rfl (lv_at hl 0 rfl) ?_
  refine gf_Ledger_keptCounts hx hb hgw iwLedger hown hK hO k37 dX3_keep_35 ?_
  refine lv_iload_n hx hb dX3_keep_38 rfl (lv_at hl 1 rfl) ?_
  refine lv_aload_n hx hb dX3_keep_39 rfl (lv_at hl 0 rfl) ?_
  refine gf_Ledger_eventCount hx hb hgw iwLedger hown hK hO k25 dX3_keep_40 ?_
  obtain ⟨hc5, h⟩ := ck_some h
  refine as_KC hx hb hK hO hc5 dX3_keep_43 (fun H locs hO => ?_)
  cases h; exact cw_vret hx hb hr hlocks hO dX3_keep_44
-- Ledger restore
def j_Ledger_restore (a1 : Int32) (st : CwS) : Option CwS :=
  ck (ix a1 10) <|
  ck (cpk ((0 : Int32)) ((0 : Int32)) ((64 : Int32)) 64 64) <|
  ck (ix a1 10) <|
  ck (cpk ((0 : Int32)) ((0 : Int32)) ((8 : Int32)) 8 8) <|
  ck (ix a1 10) <|
  some (sI (cL (cL st 3 a1.toNatClampNeg (((0 : Int32)).toNatClampNeg) 0 0 (((0 : Int32)).toNatClampNeg) (((64 : Int32)).toNatClampNeg)) 4 a1.toNatClampNeg (((0 : Int32)).toNatClampNeg) 1 0 (((0 : Int32)).toNatClampNeg) (((8 : Int32)).toNatClampNeg)) 5 0 0 (gI (cL (cL st 3 a1.toNatClampNeg (((0 : Int32)).toNatClampNeg) 0 0 (((0 : Int32)).toNatClampNeg) (((64 : Int32)).toNatClampNeg)) 4 a1.toNatClampNeg (((0 : Int32)).toNatClampNeg) 1 0 (((0 : Int32)).toNatClampNeg) (((8 : Int32)).toNatClampNeg)) 6 0 a1.toNatClampNeg))
set_option maxHeartbeats 4000000 in
set_option maxRecDepth 100000 in
theorem c_Ledger_restore (l : Launch) (D : va_G) (A : Nat → Prop) (ad : Nat → Nat) (cA : Nat → ClassId) (tb0 tb1 : Nat) (a1 : Int32) (st : CwS) (st' : CwS) (h : j_Ledger_restore a1 st = some st') : Met l yX3_restore (wv yX3_restore cX3_restore 2 (none)) ({ frames := 1, cells := 0, slots := 0, locals := 40 }) (va_Pc [.ref (ad 148), .int a1] (cwU D A ad cA tb0 tb1 st)) (cwQv D A ad cA tb0 tb1 st') 0 0 A := by
  refine Met.ofW (cc := cX3_restore) (maxL := 2) (ret := none) (by decide) rfl ?_
  intro p e s m args below meth c s₁ B hml hv
  obtain ⟨rfl, hP, hK⟩ := hv
  have hx := B.exec
  have hb := B.bytes
  have hr := B.returns
  have hts := atoms_spec (ws := wv yX3_restore cX3_restore 2 (none)) B.pre
  have hown : s.vm.findClass RX3 = some m.cls := findClass_of_methodNamed B.named
  have hlocks := B.notSynchronized
  have hO : cwO D A ad cA s st s.heap [] := ⟨hP, va_S.rf⟩
  have hl := lv_entry ([.ref (ad 148), .int a1]) (n := 2) (Nat.le_of_ble_eq_true rfl)
  rw [lg_entry_eq]
  generalize (lg_sl ([.ref (ad 148), .int a1]) ++ List.replicate (2 - (lg_sl ([.ref (ad 148), .int a1])).length) Slot.unset).toArray = ls at hl ⊢
  have hl : lv_has ls 2 [(0, .ref (ad 148)), (1, .int a1)] := hl
  have _h0 := hO
  have hgw := fun (w : Cond) (h : w ∈ gwW) => hts w (List.mem_cons_of_mem _ h)
  have k9 := hgw _ w_23a053dd
  have k15 := hgw _ w_93fec1d4
  have k25 := hgw _ w_0675cc0a
  have k31 := hgw _ w_f0b03c9d
  have k34 := hgw _ w_ded8991e
  have k37 := hgw _ w_81616191
  have k44 := hgw _ w_e7d42001
  unfold j_Ledger_restore at h
  refine lv_aload_n hx hb dX3_restore_0 rfl (lv_at hl 0 rfl) ?_
  refine gf_Ledger_keptLeaves hx hb hgw iwLedger hown hK hO k31 dX3_restore_1 ?_
  refine lv_iload_n hx hb dX3_restore_4 rfl (lv_at hl 1 rfl) ?_
  obtain ⟨hc1, h⟩ := ck_some h
  refine al_KLo hx hb hK hO hc1 dX3_restore_5 ?_
  refine lv_iconst (v := 0) hx hb dX3_restore_6 (by decide) ?_
  refine lv_aload_n hx hb dX3_restore_7 rfl (lv_at hl 0 rfl) ?_
  refine gf_Ledger_leaves hx hb hgw iwLedger hown hK hO k9 dX3_restore_8 ?_
  refine lv_iconst (v := 0) hx hb dX3_restore_11 (by decide) ?_
  refine lv_bipush (v := 64) hx hb dX3_restore_12 (by decide) ?_
  obtain ⟨hc2, h⟩ := ck_some h
  refine ac_KL_Leaves hx hb (by rw [hml]; exact hl.1.symm) hown k44 (hgw _ w_a648c8f7) (hgw _ w_410d49e2) (hgw _ w_4260ffab) hK hO (ix_lt hc1) hc2 (Nat.le_of_ble_eq_true rfl) (Nat.le_of_ble_eq_true rfl) dX3_restore_14 (fun H locs hO => ?_)
  refine lv_aload_n hx hb dX3_restore_17 rfl (lv_at hl 0 rfl) ?_
  refine gf_Ledger_keptBalances hx hb hgw iwLedger hown hK hO k34 dX3_restore_18 ?_
  refine lv_iload_n hx hb dX3_restore_21 rfl (lv_at hl 1 rfl) ?_
  obtain ⟨hc3, h⟩ := ck_some h
  refine al_KBo hx hb hK hO hc3 dX3_restore_22 ?_
  refine lv_iconst (v := 0) hx hb dX3_restore_23 (by decide) ?_
  refine lv_aload_n hx hb dX3_restore_24 rfl (lv_at hl 0 rfl) ?_
  refine gf_Ledger_balances hx hb hgw iwLedger hown hK hO k15 dX3_restore_25 ?_
  refine lv_iconst (v := 0) hx hb dX3_restore_28 (by decide) ?_
  refine lv_bipush (v := 8) hx hb dX3_restore_29 (by decide) ?_
  obtain ⟨hc4, h⟩ := ck_some h
  refine ac_KB_Bals hx hb (by rw [hml]; exact hl.1.symm) hown k44 (hgw _ w_a648c8f7) (hgw _ w_410d49e2) (hgw _ w_4260ffab) hK hO (ix_lt hc3) hc4 (Nat.le_of_ble_eq_true rfl) (Nat.le_of_ble_eq_true rfl) dX3_restore_31 (fun H locs hO => ?_)
  refine lv_aload_n hx hb dX3_restore_34 rfl (lv_at hl 0 rfl) ?_
  refine lv_aload_n hx hb dX3_restore_35 rfl (lv_at hl 0 rfl) ?_
  refine gf_Ledger_keptCounts hx hb hgw iwLedger hown hK hO k37 dX3_restore_36 ?_
  refine lv_iload_n hx hb dX3_restore_39 rfl (lv_at hl 1 rfl) ?_
  obtain ⟨hc5, h⟩ := ck_some h
  refine al_KC hx hb hK hO hc5 dX3_restore_40 ?_
  refine pf_Ledger_eventCount hx hb hgw iwLedger hown hK hO k25 dX3_restore_41 (fun H locs hO => ?_)
  cases h; exact cw_vret hx hb hr hlocks hO dX3_restore_44
end
section
-- Pile allows
def j_Pile_allows (a0 : Nat) (a1 : Int32) (a2 : Int32) (st : CwS) : Option (Int32 × CwS) :=
  if (gI st 18 a0 0) < a1 then
    some ((0 : Int32), st)
  else
    if ((12 : Int32)) < (((gI st 18 a0 0) - a1) + a2) then
      some ((0 : Int32), st)
    else
      some ((1 : Int32), st)
set_option maxHeartbeats 4000000 in
set_option maxRecDepth 100000 in
theorem c_Pile_allows (l : Launch) (D : va_G) (A : Nat → Prop) (ad : Nat → Nat) (cA : Nat → ClassId) (tb0 tb1 : Nat) (a0 : Nat) (ha0 : a0 < 10) (a1 : Int32) (a2 : Int32) (st : CwS) (r : Int32) (st' : CwS) (h : j_Pile_allows a0 a1 a2 st = some (r, st')) : Met l yX4_allows (wv yX4_allows cX4_allows 3 (some .boolean)) ({ frames := 0, cells := 0, slots := 0, locals := 0 }) (va_Pc [.ref (ad (182 + 9 * a0)), .int a1, .int a2] (cwU D A ad cA tb0 tb1 st)) (cwQi D A ad cA tb0 tb1 r st') 0 0 A := by
  refine Met.ofW (cc := cX4_allows) (maxL := 3) (ret := some .boolean) (by decide) rfl ?_
  intro p e s m args below meth c s₁ B hml hv
  obtain ⟨rfl, hP, hK⟩ := hv
  have hx := B.exec
  have hb := B.bytes
  have hr := B.returns
  have hts := atoms_spec (ws := wv yX4_allows cX4_allows 3 (some .boolean)) B.pre
  have hown : s.vm.findClass RX4 = some m.cls := findClass_of_methodNamed B.named
  have hlocks := B.notSynchronized
  have hO : cwO D A ad cA s st s.heap [] := ⟨hP, va_S.rf⟩
  have hl := lv_entry ([.ref (ad (182 + 9 * a0)), .int a1, .int a2]) (n := 3) (Nat.le_of_ble_eq_true rfl)
  rw [lg_entry_eq]
  generalize (lg_sl ([.ref (ad (182 + 9 * a0)), .int a1, .int a2]) ++ List.replicate (3 - (lg_sl ([.ref (ad (182 + 9 * a0)), .int a1, .int a2])).length) Slot.unset).toArray = ls at hl ⊢
  have hl : lv_has ls 3 [(0, .ref (ad (182 + 9 * a0))), (1, .int a1), (2, .int a2)] := hl
  have _h0 := hO
  have hgw := fun (w : Cond) (h : w ∈ gwW) => hts w (List.mem_cons_of_mem _ h)
  have k19 := hgw _ w_311ac5d4
  unfold j_Pile_allows at h
  refine lv_aload_n hx hb dX4_allows_0 rfl (lv_at hl 0 rfl) ?_
  refine gf_Pile_height hx hb hgw iwPile hown hK hO ha0 k19 dX4_allows_1 ?_
  refine lv_iload_n hx hb dX4_allows_4 rfl (lv_at hl 1 rfl) ?_
  refine lv_icmp_lt (tgt := 25) hx hb dX4_allows_5 (by decide) (fun c1 => ?_) (fun c1 => ?_)
  · have h := ite_t c1 h
    refine lv_iconst (v := 0) hx hb dX4_allows_25 (by decide) ?_
    obtain ⟨rfl, rfl⟩ := ret2 h; exact cw_zret hx hb hr hlocks hO rfl dX4_allows_26
  · have h := ite_f c1 h
    refine lv_aload_n hx hb dX4_allows_8 rfl (lv_at hl 0 rfl) ?_
    refine gf_Pile_height hx hb hgw iwPile hown hK hO ha0 k19 dX4_allows_9 ?_
    refine lv_iload_n hx hb dX4_allows_12 rfl (lv_at hl 1 rfl) ?_
    refine lv_isub hx hb dX4_allows_13 ?_
    refine lv_iload_n hx hb dX4_allows_14 rfl (lv_at hl 2 rfl) ?_
    refine lv_iadd hx hb dX4_allows_15 ?_
    refine lv_bipush (v := 12) hx hb dX4_allows_16 (by decide) ?_
    refine lv_icmp_gt (tgt := 25) hx hb dX4_allows_18 (by decide) (fun c2 => ?_) (fun c2 => ?_)
    · have h := ite_t c2 h
      refine lv_iconst (v := 0) hx hb dX4_allows_25 (by decide) ?_
      obtain ⟨rfl, rfl⟩ := ret2 h; exact cw_zret hx hb hr hlocks hO rfl dX4_allows_26
    · have h := ite_f c2 h
      refine lv_iconst (v := 1) hx hb dX4_allows_21 (by decide) ?_
      refine lv_goto (tgt := 26) hx hb dX4_allows_22 (by decide) ?_
      obtain ⟨rfl, rfl⟩ := ret2 h; exact cw_zret hx hb hr hlocks hO rfl dX4_allows_26
-- Pile take
def j_Pile_take (a0 : Nat) (a1 : Int32) (st : CwS) : Option CwS :=
  some (sI (sI st 19 a0 0 (gI st 18 a0 0)) 18 a0 0 (if ((0 : Int32)) < ((gI (sI st 19 a0 0 (gI st 18 a0 0)) 18 a0 0) - a1) then ((gI (sI st 19 a0 0 (gI st 18 a0 0)) 18 a0 0) - a1) else ((0 : Int32))))
set_option maxHeartbeats 4000000 in
set_option maxRecDepth 100000 in
theorem c_Pile_take (l : Launch) (D : va_G) (A : Nat → Prop) (ad : Nat → Nat) (cA : Nat → ClassId) (tb0 tb1 : Nat) (a0 : Nat) (ha0 : a0 < 10) (a1 : Int32) (st : CwS) (st' : CwS) (h : j_Pile_take a0 a1 st = some st') : Met l yX4_take (wv yX4_take cX4_take 2 (none)) ({ frames := 1, cells := 0, slots := 0, locals := 40 }) (va_Pc [.ref (ad (182 + 9 * a0)), .int a1] (cwU D A ad cA tb0 tb1 st)) (cwQv D A ad cA tb0 tb1 st') 0 0 A := by
  refine Met.ofW (cc := cX4_take) (maxL := 2) (ret := none) (by decide) rfl ?_
  intro p e s m args below meth c s₁ B hml hv
  obtain ⟨rfl, hP, hK⟩ := hv
  have hx := B.exec
  have hb := B.bytes
  have hr := B.returns
  have hts := atoms_spec (ws := wv yX4_take cX4_take 2 (none)) B.pre
  have hown : s.vm.findClass RX4 = some m.cls := findClass_of_methodNamed B.named
  have hlocks := B.notSynchronized
  have hO : cwO D A ad cA s st s.heap [] := ⟨hP, va_S.rf⟩
  have hl := lv_entry ([.ref (ad (182 + 9 * a0)), .int a1]) (n := 2) (Nat.le_of_ble_eq_true rfl)
  rw [lg_entry_eq]
  generalize (lg_sl ([.ref (ad (182 + 9 * a0)), .int a1]) ++ List.replicate (2 - (lg_sl ([.ref (ad (182 + 9 * a0)), .int a1])).length) Slot.unset).toArray = ls at hl ⊢
  have hl : lv_has ls 2 [(0, .ref (ad (182 + 9 * a0))), (1, .int a1)] := hl
  have _h0 := hO
  have hgw := fun (w : Cond) (h : w ∈ gwW) => hts w (List.mem_cons_of_mem _ h)
  have k19 := hgw _ w_311ac5d4
  have k23 := hgw _ w_c51cb73e
  have k26 := hgw _ w_f225a1c0
  unfold j_Pile_take at h
  refine lv_aload_n hx hb dX4_take_0 rfl (lv_at hl 0 rfl) ?_
  refine lv_aload_n hx hb dX4_take_1 rfl (lv_at hl 0 rfl) ?_
  refine gf_Pile_height hx hb hgw iwPile hown hK hO ha0 k19 dX4_take_2 ?_
  refine pf_Pile_heightBefore hx hb hgw iwPile hown hK hO ha0 k23 dX4_take_5 (fun H locs hO => ?_)
  refine lv_aload_n hx hb dX4_take_8 rfl (lv_at hl 0 rfl) ?_
  refine lv_iconst (v := 0) hx hb dX4_take_9 (by decide) ?_
  refine lv_aload_n hx hb dX4_take_10 rfl (lv_at hl 0 rfl) ?_
  refine gf_Pile_height hx hb hgw iwPile hown hK hO ha0 k19 dX4_take_11 ?_
  refine lv_iload_n hx hb dX4_take_14 rfl (lv_at hl 1 rfl) ?_
  refine lv_isub hx hb dX4_take_15 ?_
  refine va_mmax hx hb (by rw [hml]; exact hl.1.symm) hown k26 (hgw _ w_80a2ec50) (hgw _ w_868a9286) (hgw _ w_b6349a14) (Nat.le_of_ble_eq_true rfl) (Nat.le_of_ble_eq_true rfl) (Nat.zero_le _) (Nat.zero_le _) dX4_take_16 ?_
  refine pf_Pile_height hx hb hgw iwPile hown hK hO ha0 k19 dX4_take_19 (fun H locs hO => ?_)
  cases h; exact cw_vret hx hb hr hlocks hO dX4_take_22
-- Pile tookKind
def j_Pile_tookKind (a0 : Nat) (a1 : Int32) (st : CwS) : Option (Int32 × CwS) :=
  if (((gI st 19 a0 0) - ((1 : Int32))) - a1) < ((0 : Int32)) then
    some ((3 : Int32), st)
  else
    if ((12 : Int32)) ≤ (((gI st 19 a0 0) - ((1 : Int32))) - a1) then
      some ((3 : Int32), st)
    else
      ck (ix (((gI st 19 a0 0) - ((1 : Int32))) - a1) 12) <|
      some (gI st 17 a0 ((((gI st 19 a0 0) - ((1 : Int32))) - a1).toNatClampNeg), st)
set_option maxHeartbeats 4000000 in
set_option maxRecDepth 100000 in
theorem c_Pile_tookKind (l : Launch) (D : va_G) (A : Nat → Prop) (ad : Nat → Nat) (cA : Nat → ClassId) (tb0 tb1 : Nat) (a0 : Nat) (ha0 : a0 < 10) (a1 : Int32) (st : CwS) (r : Int32) (st' : CwS) (h : j_Pile_tookKind a0 a1 st = some (r, st')) : Met l yX4_tookKind (wv yX4_tookKind cX4_tookKind 3 (some .int)) ({ frames := 0, cells := 0, slots := 0, locals := 0 }) (va_Pc [.ref (ad (182 + 9 * a0)), .int a1] (cwU D A ad cA tb0 tb1 st)) (cwQi D A ad cA tb0 tb1 r st') 0 0 A := by
  refine Met.ofW (cc := cX4_tookKind) (maxL := 3) (ret := some .int) (by decide) rfl ?_
  intro p e s m args below meth c s₁ B hml hv
  obtain ⟨rfl, hP, hK⟩ := hv
  have hx := B.exec
  have hb := B.bytes
  have hr := B.returns
  have hts := atoms_spec (ws := wv yX4_tookKind cX4_tookKind 3 (some .int)) B.pre
  have hown : s.vm.findClass RX4 = some m.cls := findClass_of_methodNamed B.named
  have hlocks := B.notSynchronized
  have hO : cwO D A ad cA s st s.heap [] := ⟨hP, va_S.rf⟩
  have hl := lv_entry ([.ref (ad (182 + 9 * a0)), .int a1]) (n := 3) (Nat.le_of_ble_eq_true rfl)
  rw [lg_entry_eq]
  generalize (lg_sl ([.ref (ad (182 + 9 * a0)), .int a1]) ++ List.replicate (3 - (lg_sl ([.ref (ad (182 + 9 * a0)), .int a1])).length) Slot.unset).toArray = ls at hl ⊢
  have hl : lv_has ls 3 [(0, .ref (ad (182 + 9 * a0))), (1, .int a1)] := hl
  have _h0 := hO
  have hgw := fun (w : Cond) (h : w ∈ gwW) => hts w (List.mem_cons_of_mem _ h)
  have k9 := hgw _ w_89a9db98
  have k23 := hgw _ w_c51cb73e
  unfold j_Pile_tookKind at h
  refine lv_aload_n hx hb dX4_tookKind_0 rfl (lv_at hl 0 rfl) ?_
  refine gf_Pile_heightBefore hx hb hgw iwPile hown hK hO ha0 k23 dX4_tookKind_1 ?_
  refine lv_iconst (v := 1) hx hb dX4_tookKind_4 (by decide) ?_
  refine lv_isub hx hb dX4_tookKind_5 ?_
  refine lv_iload_n hx hb dX4_tookKind_6 rfl (lv_at hl 1 rfl) ?_
  refine lv_isub hx hb dX4_tookKind_7 ?_
  refine lv_istore_n (lv' := [(2, .int (((gI st 19 a0 0) - ((1 : Int32))) - a1)), (0, .ref (ad (182 + 9 * a0))), (1, .int a1)]) hx hb dX4_tookKind_8 rfl hl (by decide) rfl (fun ls hl => ?_)
  refine lv_iload_n hx hb dX4_tookKind_9 rfl (lv_at hl 0 rfl) ?_
  refine lv_if_lt (tgt := 28) hx hb dX4_tookKind_10 (by decide) (fun c1 => ?_) (fun c1 => ?_)
  · have h := ite_t c1 h
    refine lv_iconst (v := 3) hx hb dX4_tookKind_28 (by decide) ?_
    obtain ⟨rfl, rfl⟩ := ret2 h; exact cw_iret hx hb hr hlocks hO dX4_tookKind_29
  · have h := ite_f c1 h
    refine lv_iload_n hx hb dX4_tookKind_13 rfl (lv_at hl 0 rfl) ?_
    refine lv_bipush (v := 12) hx hb dX4_tookKind_14 (by decide) ?_
    refine lv_icmp_ge (tgt := 28) hx hb dX4_tookKind_16 (by decide) (fun c2 => ?_) (fun c2 => ?_)
    · have h := ite_t c2 h
      refine lv_iconst (v := 3) hx hb dX4_tookKind_28 (by decide) ?_
      obtain ⟨rfl, rfl⟩ := ret2 h; exact cw_iret hx hb hr hlocks hO dX4_tookKind_29
    · have h := ite_f c2 h
      refine lv_aload_n hx hb dX4_tookKind_19 rfl (lv_at hl 1 rfl) ?_
      refine gf_Pile_kinds hx hb hgw iwPile hown hK hO ha0 k9 dX4_tookKind_20 ?_
      refine lv_iload_n hx hb dX4_tookKind_23 rfl (lv_at hl 0 rfl) ?_
      obtain ⟨hc3, h⟩ := ck_some h
      refine al_PKinds hx hb hK hO ha0 hc3 dX4_tookKind_24 ?_
      refine lv_goto (tgt := 29) hx hb dX4_tookKind_25 (by decide) ?_
      obtain ⟨rfl, rfl⟩ := ret2 h; exact cw_iret hx hb hr hlocks hO dX4_tookKind_29
-- Pile took
def j_Pile_took (a0 : Nat) (a1 : Int32) (st : CwS) : Option (Int64 × CwS) :=
  if (((gI st 19 a0 0) - ((1 : Int32))) - a1) < ((0 : Int32)) then
    some ((0 : Int64), st)
  else
    if ((12 : Int32)) ≤ (((gI st 19 a0 0) - ((1 : Int32))) - a1) then
      some ((0 : Int64), st)
    else
      ck (ix (((gI st 19 a0 0) - ((1 : Int32))) - a1) 12) <|
      some (gL st 6 a0 ((((gI st 19 a0 0) - ((1 : Int32))) - a1).toNatClampNeg), st)
set_option maxHeartbeats 4000000 in
set_option maxRecDepth 100000 in
theorem c_Pile_took (l : Launch) (D : va_G) (A : Nat → Prop) (ad : Nat → Nat) (cA : Nat → ClassId) (tb0 tb1 : Nat) (a0 : Nat) (ha0 : a0 < 10) (a1 : Int32) (st : CwS) (r : Int64) (st' : CwS) (h : j_Pile_took a0 a1 st = some (r, st')) : Met l yX4_took (wv yX4_took cX4_took 3 (some .long)) ({ frames := 0, cells := 0, slots := 0, locals := 0 }) (va_Pc [.ref (ad (182 + 9 * a0)), .int a1] (cwU D A ad cA tb0 tb1 st)) (cwQl D A ad cA tb0 tb1 r st') 0 0 A := by
  refine Met.ofW (cc := cX4_took) (maxL := 3) (ret := some .long) (by decide) rfl ?_
  intro p e s m args below meth c s₁ B hml hv
  obtain ⟨rfl, hP, hK⟩ := hv
  have hx := B.exec
  have hb := B.bytes
  have hr := B.returns
  have hts := atoms_spec (ws := wv yX4_took cX4_took 3 (some .long)) B.pre
  have hown : s.vm.findClass RX4 = some m.cls := findClass_of_methodNamed B.named
  have hlocks := B.notSynchronized
  have hO : cwO D A ad cA s st s.heap [] := ⟨hP, va_S.rf⟩
  have hl := lv_entry ([.ref (ad (182 + 9 * a0)), .int a1]) (n := 3) (Nat.le_of_ble_eq_true rfl)
  rw [lg_entry_eq]
  generalize (lg_sl ([.ref (ad (182 + 9 * a0)), .int a1]) ++ List.replicate (3 - (lg_sl ([.ref (ad (182 + 9 * a0)), .int a1])).length) Slot.unset).toArray = ls at hl ⊢
  have hl : lv_has ls 3 [(0, .ref (ad (182 + 9 * a0))), (1, .int a1)] := hl
  have _h0 := hO
  have hgw := fun (w : Cond) (h : w ∈ gwW) => hts w (List.mem_cons_of_mem _ h)
  have k15 := hgw _ w_c5b43c70
  have k23 := hgw _ w_c51cb73e
  unfold j_Pile_took at h
  refine lv_aload_n hx hb dX4_took_0 rfl (lv_at hl 0 rfl) ?_
  refine gf_Pile_heightBefore hx hb hgw iwPile hown hK hO ha0 k23 dX4_took_1 ?_
  refine lv_iconst (v := 1) hx hb dX4_took_4 (by decide) ?_
  refine lv_isub hx hb dX4_took_5 ?_
  refine lv_iload_n hx hb dX4_took_6 rfl (lv_at hl 1 rfl) ?_
  refine lv_isub hx hb dX4_took_7 ?_
  refine lv_istore_n (lv' := [(2, .int (((gI st 19 a0 0) - ((1 : Int32))) - a1)), (0, .ref (ad (182 + 9 * a0))), (1, .int a1)]) hx hb dX4_took_8 rfl hl (by decide) rfl (fun ls hl => ?_)
  refine lv_iload_n hx hb dX4_took_9 rfl (lv_at hl 0 rfl) ?_
  refine lv_if_lt (tgt := 28) hx hb dX4_took_10 (by decide) (fun c1 => ?_) (fun c1 => ?_)
  · have h := ite_t c1 h
    refine lv_lconst (v := 0) hx hb dX4_took_28 (by decide) ?_
    obtain ⟨rfl, rfl⟩ := ret2 h; exact cw_lret hx hb hr hlocks hO dX4_took_29
  · have h := ite_f c1 h
    refine lv_iload_n hx hb dX4_took_13 rfl (lv_at hl 0 rfl) ?_
    refine lv_bipush (v := 12) hx hb dX4_took_14 (by decide) ?_
    refine lv_icmp_ge (tgt := 28) hx hb dX4_took_16 (by decide) (fun c2 => ?_) (fun c2 => ?_)
    · have h := ite_t c2 h
      refine lv_lconst (v := 0) hx hb dX4_took_28 (by decide) ?_
      obtain ⟨rfl, rfl⟩ := ret2 h; exact cw_lret hx hb hr hlocks hO dX4_took_29
    · have h := ite_f c2 h
      refine lv_aload_n hx hb dX4_took_19 rfl (lv_at hl 1 rfl) ?_
      refine gf_Pile_numbers hx hb hgw iwPile hown hK hO ha0 k15 dX4_took_20 ?_
      refine lv_iload_n hx hb dX4_took_23 rfl (lv_at hl 0 rfl) ?_
      obtain ⟨hc3, h⟩ := ck_some h
      refine al_PNums hx hb hK hO ha0 hc3 dX4_took_24 ?_
      refine lv_goto (tgt := 29) hx hb dX4_took_25 (by decide) ?_
      obtain ⟨rfl, rfl⟩ := ret2 h; exact cw_lret hx hb hr hlocks hO dX4_took_29
-- Pile tookNumber
def j_Pile_tookNumber (a0 : Nat) (a1 : Int32) (st : CwS) : Option (Int32 × CwS) :=
  bR (j_Pile_tookKind a0 a1 st) fun r1 st2 =>
  if r1 = ((0 : Int32)) then
    some ((1 : Int32), st2)
  else
    some ((0 : Int32), st2)
set_option maxHeartbeats 4000000 in
set_option maxRecDepth 100000 in
theorem c_Pile_tookNumber (l : Launch) (D : va_G) (A : Nat → Prop) (ad : Nat → Nat) (cA : Nat → ClassId) (tb0 tb1 : Nat) (a0 : Nat) (ha0 : a0 < 10) (a1 : Int32) (st : CwS) (r : Int32) (st' : CwS) (h : j_Pile_tookNumber a0 a1 st = some (r, st')) : Met l yX4_tookNumber (wv yX4_tookNumber cX4_tookNumber 2 (some .boolean)) ({ frames := 1, cells := 0, slots := 0, locals := 22 }) (va_Pc [.ref (ad (182 + 9 * a0)), .int a1] (cwU D A ad cA tb0 tb1 st)) (cwQi D A ad cA tb0 tb1 r st') 0 0 A := by
  refine Met.ofW (cc := cX4_tookNumber) (maxL := 2) (ret := some .boolean) (by decide) rfl ?_
  intro p e s m args below meth c s₁ B hml hv
  obtain ⟨rfl, hP, hK⟩ := hv
  have hx := B.exec
  have hb := B.bytes
  have hr := B.returns
  have hts := atoms_spec (ws := wv yX4_tookNumber cX4_tookNumber 2 (some .boolean)) B.pre
  have hown : s.vm.findClass RX4 = some m.cls := findClass_of_methodNamed B.named
  have hlocks := B.notSynchronized
  have hO : cwO D A ad cA s st s.heap [] := ⟨hP, va_S.rf⟩
  have hl := lv_entry ([.ref (ad (182 + 9 * a0)), .int a1]) (n := 2) (Nat.le_of_ble_eq_true rfl)
  rw [lg_entry_eq]
  generalize (lg_sl ([.ref (ad (182 + 9 * a0)), .int a1]) ++ List.replicate (2 - (lg_sl ([.ref (ad (182 + 9 * a0)), .int a1])).length) Slot.unset).toArray = ls at hl ⊢
  have hl : lv_has ls 2 [(0, .ref (ad (182 + 9 * a0))), (1, .int a1)] := hl
  have _h0 := hO
  have hgw := fun (w : Cond) (h : w ∈ gwW) => hts w (List.mem_cons_of_mem _ h)
  unfold j_Pile_tookNumber at h
  refine lv_aload_n hx hb dX4_tookNumber_0 rfl (lv_at hl 0 rfl) ?_
  refine lv_iload_n hx hb dX4_tookNumber_1 rfl (lv_at hl 1 rfl) ?_
  obtain ⟨r1, st2, h3, h⟩ := bR_some h
  refine cw_calli (va_runV (As := [.int a1]) (rest := []) ⟨hx, hb, hml, hown, hts⟩ (c_Pile_tookKind l D A ad cA tb0 tb1 a0 ha0 a1 st r1 st2 h3) (cwV 1 hts (gw_V w_548e850c w_5c9fe01c w_ceab1f00 w_76c797a4 w_72af167e) rfl rfl rfl (by decide +kernel) ⟨Nat.le_of_ble_eq_true rfl, Nat.le_of_ble_eq_true rfl⟩) (cw_preV (k := 182 + 9 * a0) (ci := 4) hK hO rfl (by have := ha0; omega) (cc_Pile ha0)) rfl rfl hl.1 rfl (lv_room (Nat.le_of_ble_eq_true rfl)) dX4_tookNumber_2 ⟨Nat.zero_le _, Nat.zero_le _⟩) hO (fun H locs hO => ?_)
  refine lv_if_ne (tgt := 12) hx hb dX4_tookNumber_5 (by decide) (fun c4 => ?_) (fun c4 => ?_)
  · have h := ite_f c4 h
    refine lv_iconst (v := 0) hx hb dX4_tookNumber_12 (by decide) ?_
    obtain ⟨rfl, rfl⟩ := ret2 h; exact cw_zret hx hb hr hlocks hO rfl dX4_tookNumber_13
  · have h := ite_t c4 h
    refine lv_iconst (v := 1) hx hb dX4_tookNumber_8 (by decide) ?_
    refine lv_goto (tgt := 13) hx hb dX4_tookNumber_9 (by decide) ?_
    obtain ⟨rfl, rfl⟩ := ret2 h; exact cw_zret hx hb hr hlocks hO rfl dX4_tookNumber_13
-- Pile put
def j_Pile_put (a0 : Nat) (a1 : Int32) (a2 : Int64) (st : CwS) : Option (Int32 × CwS) :=
  if (gI st 18 a0 0) < ((0 : Int32)) then
    some ((11 : Int32), st)
  else
    if (gI st 18 a0 0) < ((12 : Int32)) then
      ck (ix (gI st 18 a0 0) 12) <|
      ck (ix (gI (sI st 17 a0 ((gI st 18 a0 0).toNatClampNeg) a1) 18 a0 0) 12) <|
      some ((0 : Int32), sI (sL (sI st 17 a0 ((gI st 18 a0 0).toNatClampNeg) a1) 6 a0 ((gI (sI st 17 a0 ((gI st 18 a0 0).toNatClampNeg) a1) 18 a0 0).toNatClampNeg) a2) 18 a0 0 ((gI (sL (sI st 17 a0 ((gI st 18 a0 0).toNatClampNeg) a1) 6 a0 ((gI (sI st 17 a0 ((gI st 18 a0 0).toNatClampNeg) a1) 18 a0 0).toNatClampNeg) a2) 18 a0 0) + ((1 : Int32))))
    else
      some ((11 : Int32), st)
set_option maxHeartbeats 4000000 in
set_option maxRecDepth 100000 in
theorem c_Pile_put (l : Launch) (D : va_G) (A : Nat → Prop) (ad : Nat → Nat) (cA : Nat → ClassId) (tb0 tb1 : Nat) (a0 : Nat) (ha0 : a0 < 10) (a1 : Int32) (a2 : Int64) (st : CwS) (r : Int32) (st' : CwS) (h : j_Pile_put a0 a1 a2 st = some (r, st')) : Met l yX4_put (wv yX4_put cX4_put 4 (some .int)) ({ frames := 0, cells := 0, slots := 0, locals := 0 }) (va_Pc [.ref (ad (182 + 9 * a0)), .int a1, .long a2] (cwU D A ad cA tb0 tb1 st)) (cwQi D A ad cA tb0 tb1 r st') 0 0 A := by
  refine Met.ofW (cc := cX4_put) (maxL := 4) (ret := some .int) (by decide) rfl ?_
  intro p e s m args below meth c s₁ B hml hv
  obtain ⟨rfl, hP, hK⟩ := hv
  have hx := B.exec
  have hb := B.bytes
  have hr := B.returns
  have hts := atoms_spec (ws := wv yX4_put cX4_put 4 (some .int)) B.pre
  have hown : s.vm.findClass RX4 = some m.cls := findClass_of_methodNamed B.named
  have hlocks := B.notSynchronized
  have hO : cwO D A ad cA s st s.heap [] := ⟨hP, va_S.rf⟩
  have hl := lv_entry ([.ref (ad (182 + 9 * a0)), .int a1, .long a2]) (n := 4) (Nat.le_of_ble_eq_true rfl)
  rw [lg_entry_eq]
  generalize (lg_sl ([.ref (ad (182 + 9 * a0)), .int a1, .long a2]) ++ List.replicate (4 - (lg_sl ([.ref (ad (182 + 9 * a0)), .int a1, .long a2])).length) Slot.unset).toArray = ls at hl ⊢
  have hl : lv_has ls 4 [(0, .ref (ad (182 + 9 * a0))), (1, .int a1), (2, .long a2)] := hl
  have _h0 := hO
  have hgw := fun (w : Cond) (h : w ∈ gwW) => hts w (List.mem_cons_of_mem _ h)
  have k9 := hgw _ w_89a9db98
  have k15 := hgw _ w_c5b43c70
  have k19 := hgw _ w_311ac5d4
  unfold j_Pile_put at h
  refine lv_aload_n hx hb dX4_put_0 rfl (lv_at hl 0 rfl) ?_
  refine gf_Pile_height hx hb hgw iwPile hown hK hO ha0 k19 dX4_put_1 ?_
  refine lv_if_lt (tgt := 16) hx hb dX4_put_4 (by decide) (fun c1 => ?_) (fun c1 => ?_)
  · have h := ite_t c1 h
    refine lv_bipush (v := 11) hx hb dX4_put_16 (by decide) ?_
    obtain ⟨rfl, rfl⟩ := ret2 h; exact cw_iret hx hb hr hlocks hO dX4_put_18
  · have h := ite_f c1 h
    refine lv_aload_n hx hb dX4_put_7 rfl (lv_at hl 0 rfl) ?_
    refine gf_Pile_height hx hb hgw iwPile hown hK hO ha0 k19 dX4_put_8 ?_
    refine lv_bipush (v := 12) hx hb dX4_put_11 (by decide) ?_
    refine lv_icmp_lt (tgt := 19) hx hb dX4_put_13 (by decide) (fun c2 => ?_) (fun c2 => ?_)
    · have h := ite_t c2 h
      refine lv_aload_n hx hb dX4_put_19 rfl (lv_at hl 0 rfl) ?_
      refine gf_Pile_kinds hx hb hgw iwPile hown hK hO ha0 k9 dX4_put_20 ?_
      refine lv_aload_n hx hb dX4_put_23 rfl (lv_at hl 0 rfl) ?_
      refine gf_Pile_height hx hb hgw iwPile hown hK hO ha0 k19 dX4_put_24 ?_
      refine lv_iload_n hx hb dX4_put_27 rfl (lv_at hl 1 rfl) ?_
      obtain ⟨hc3, h⟩ := ck_some h
      refine as_PKinds hx hb hK hO ha0 hc3 dX4_put_28 (fun H locs hO => ?_)
      refine lv_aload_n hx hb dX4_put_29 rfl (lv_at hl 0 rfl) ?_
      refine gf_Pile_numbers hx hb hgw iwPile hown hK hO ha0 k15 dX4_put_30 ?_
      refine lv_aload_n hx hb dX4_put_33 rfl (lv_at hl 0 rfl) ?_
      refine gf_Pile_height hx hb hgw iwPile hown hK hO ha0 k19 dX4_put_34 ?_
      refine lv_lload_n hx hb dX4_put_37 rfl (lv_at hl 2 rfl) ?_
      obtain ⟨hc4, h⟩ := ck_some h
      refine as_PNums hx hb hK hO ha0 hc4 dX4_put_38 (fun H locs hO => ?_)
      refine lv_aload_n hx hb dX4_put_39 rfl (lv_at hl 0 rfl) ?_
      refine lv_dup hx hb dX4_put_40 rfl ?_
      refine gf_Pile_height hx hb hgw iwPile hown hK hO ha0 k19 dX4_put_41 ?_
      refine lv_iconst (v := 1) hx hb dX4_put_44 (by decide) ?_
      refine lv_iadd hx hb dX4_put_45 ?_
      refine pf_Pile_height hx hb hgw iwPile hown hK hO ha0 k19 dX4_put_46 (fun H locs hO => ?_)
      refine lv_iconst (v := 0) hx hb dX4_put_49 (by decide) ?_
      obtain ⟨rfl, rfl⟩ := ret2 h; exact cw_iret hx hb hr hlocks hO dX4_put_50
    · have h := ite_f c2 h
      refine lv_bipush (v := 11) hx hb dX4_put_16 (by decide) ?_
      obtain ⟨rfl, rfl⟩ := ret2 h; exact cw_iret hx hb hr hlocks hO dX4_put_18
-- Pile putNumber
def j_Pile_putNumber (a0 : Nat) (a1 : Int64) (st : CwS) : Option (Int32 × CwS) :=
  bR (j_Pile_put a0 ((0 : Int32)) a1 st) fun r1 st2 =>
  some (r1, st2)
set_option maxHeartbeats 4000000 in
set_option maxRecDepth 100000 in
theorem c_Pile_putNumber (l : Launch) (D : va_G) (A : Nat → Prop) (ad : Nat → Nat) (cA : Nat → ClassId) (tb0 tb1 : Nat) (a0 : Nat) (ha0 : a0 < 10) (a1 : Int64) (st : CwS) (r : Int32) (st' : CwS) (h : j_Pile_putNumber a0 a1 st = some (r, st')) : Met l yX4_putNumber (wv yX4_putNumber cX4_putNumber 3 (some .int)) ({ frames := 1, cells := 0, slots := 0, locals := 23 }) (va_Pc [.ref (ad (182 + 9 * a0)), .long a1] (cwU D A ad cA tb0 tb1 st)) (cwQi D A ad cA tb0 tb1 r st') 0 0 A := by
  refine Met.ofW (cc := cX4_putNumber) (maxL := 3) (ret := some .int) (by decide) rfl ?_
  intro p e s m args below meth c s₁ B hml hv
  obtain ⟨rfl, hP, hK⟩ := hv
  have hx := B.exec
  have hb := B.bytes
  have hr := B.returns
  have hts := atoms_spec (ws := wv yX4_putNumber cX4_putNumber 3 (some .int)) B.pre
  have hown : s.vm.findClass RX4 = some m.cls := findClass_of_methodNamed B.named
  have hlocks := B.notSynchronized
  have hO : cwO D A ad cA s st s.heap [] := ⟨hP, va_S.rf⟩
  have hl := lv_entry ([.ref (ad (182 + 9 * a0)), .long a1]) (n := 3) (Nat.le_of_ble_eq_true rfl)
  rw [lg_entry_eq]
  generalize (lg_sl ([.ref (ad (182 + 9 * a0)), .long a1]) ++ List.replicate (3 - (lg_sl ([.ref (ad (182 + 9 * a0)), .long a1])).length) Slot.unset).toArray = ls at hl ⊢
  have hl : lv_has ls 3 [(0, .ref (ad (182 + 9 * a0))), (1, .long a1)] := hl
  have _h0 := hO
  have hgw := fun (w : Cond) (h : w ∈ gwW) => hts w (List.mem_cons_of_mem _ h)
  unfold j_Pile_putNumber at h
  refine lv_aload_n hx hb dX4_putNumber_0 rfl (lv_at hl 0 rfl) ?_
  refine lv_iconst (v := 0) hx hb dX4_putNumber_1 (by decide) ?_
  refine lv_lload_n hx hb dX4_putNumber_2 rfl (lv_at hl 1 rfl) ?_
  obtain ⟨r1, st2, h3, h⟩ := bR_some h
  refine cw_calli (va_runV (As := [.int ((0 : Int32)), .long a1]) (rest := []) ⟨hx, hb, hml, hown, hts⟩ (c_Pile_put l D A ad cA tb0 tb1 a0 ha0 ((0 : Int32)) a1 st r1 st2 h3) (cwV 2 hts (gw_V w_5c3461e8 w_d8d501aa w_46b57ea6 w_76c797a4 w_54242bcb) rfl rfl rfl (by decide +kernel) ⟨Nat.le_of_ble_eq_true rfl, Nat.le_of_ble_eq_true rfl⟩) (cw_preV (k := 182 + 9 * a0) (ci := 4) hK hO rfl (by have := ha0; omega) (cc_Pile ha0)) rfl rfl hl.1 rfl (lv_room (Nat.le_of_ble_eq_true rfl)) dX4_putNumber_3 ⟨Nat.zero_le _, Nat.zero_le _⟩) hO (fun H locs hO => ?_)
  obtain ⟨rfl, rfl⟩ := ret2 h; exact cw_iret hx hb hr hlocks hO dX4_putNumber_6
-- Pile freeRow
def j_Pile_freeRow_L58 : Nat → Nat → Int32 → Int32 → CwS → Option (Int32 × CwS)
  | 0, _, _, _, _ => none
  | n + 1, x0, x1, x2, st =>
    if ((12 : Int32)) ≤ x2 then
      some ((-1 : Int32), st)
    else
      if ((x1 >>> (x2 &&& 31)) &&& ((1 : Int32))) = ((0 : Int32)) then
        some (x2, st)
      else
        j_Pile_freeRow_L58 n x0 x1 (x2 + (1 : Int32)) st
def j_Pile_freeRow_L4 : Nat → Nat → Int32 → Int32 → CwS → Option (Int32 × CwS)
  | 0, _, _, _, _ => none
  | n + 1, x0, x1, x2, st =>
    if (gI st 18 x0 0) ≤ x2 then
      j_Pile_freeRow_L58 13 x0 x1 ((0 : Int32)) st
    else
      if ((12 : Int32)) ≤ x2 then
        j_Pile_freeRow_L58 13 x0 x1 ((0 : Int32)) st
      else
        ck (ix x2 12) <|
        if (gI st 17 x0 x2.toNatClampNeg) = ((1 : Int32)) then
          ck (ix x2 12) <|
          j_Pile_freeRow_L4 n x0 (x1 ||| (((1 : Int32)) <<< (((gL st 6 x0 x2.toNatClampNeg).toInt32) &&& 31))) (x2 + (1 : Int32)) st
        else
          ck (ix x2 12) <|
          if (gI st 17 x0 x2.toNatClampNeg) = ((2 : Int32)) then
            ck (ix x2 12) <|
            j_Pile_freeRow_L4 n x0 (x1 ||| (((1 : Int32)) <<< (((gL st 6 x0 x2.toNatClampNeg).toInt32) &&& 31))) (x2 + (1 : Int32)) st
          else
            j_Pile_freeRow_L4 n x0 x1 (x2 + (1 : Int32)) st
def j_Pile_freeRow (a0 : Nat) (st : CwS) : Option (Int32 × CwS) :=
  j_Pile_freeRow_L4 13 a0 ((0 : Int32)) ((0 : Int32)) st
set_option maxHeartbeats 4000000 in
set_option maxRecDepth 100000 in
theorem c_Pile_freeRow_L58 {l : Launch} {D : va_G} {A : Nat → Prop} {ad : Nat → Nat} {cA : Nat → ClassId} {tb0 tb1 : Nat} {p : Program} {e : Env} {s : State} {m : MethodId} {args : Array Value} {below : List Frame} {meth : Method} {c : Code} (S : CallFix p m c cX4_freeRow 3 s args (wv yX4_freeRow cX4_freeRow 3 (some .int)) RX4) (hr : meth.sig.returnType = some .int) (hlocks : meth.locks = false) (hK : cwK D A ad cA tb0 tb1 s) (r : Int32) (st' : CwS) : ∀ (n : Nat) (x0 : Nat) (hx0 : x0 < 10) (x1 : Int32) (x2 : Int32) (st : CwS) (H : Heap) (locs : List Loc) (ls : Array Slot), j_Pile_freeRow_L58 n x0 x1 x2 st = some (r, st') → cwO D A ad cA s st H locs → lv_has ls 3 [(0, .ref (ad (182 + 9 * x0))), (1, .int x1), (2, .int x2)] → W p l e ({ frames := 0, cells := 0, slots := 0, locals := 0 }) s m args below meth c H locs 0 0 (MQ below (cwQi D A ad cA tb0 tb1 r st') args s 0 0 A) (F0 m 58 ls []) := by
  obtain ⟨hx, hb, hml, hown, hts⟩ := S
  have hgw := fun (w : Cond) (h : w ∈ gwW) => hts w (List.mem_cons_of_mem _ h)
  have k9 := hgw _ w_89a9db98
  have k15 := hgw _ w_c5b43c70
  have k19 := hgw _ w_311ac5d4
  intro n
  induction n with
  | zero =>
    intro x0 hx0 x1 x2 st H locs ls h hO hl
    cases h
  | succ n ih =>
    intro x0 hx0 x1 x2 st H locs ls h hO hl
    unfold j_Pile_freeRow_L58 at h
    refine lv_iload_n hx hb dX4_freeRow_58 rfl (lv_at hl 2 rfl) ?_
    refine lv_bipush (v := 12) hx hb dX4_freeRow_59 (by decide) ?_
    refine lv_icmp_ge (tgt := 80) hx hb dX4_freeRow_61 (by decide) (fun c2 => ?_) (fun c2 => ?_)
    · have h := ite_t c2 h
      refine lv_iconst (v := -1) hx hb dX4_freeRow_80 (by decide) ?_
      obtain ⟨rfl, rfl⟩ := ret2 h; exact cw_iret hx hb hr hlocks hO dX4_freeRow_81
    · have h := ite_f c2 h
      refine lv_iload_n hx hb dX4_freeRow_64 rfl (lv_at hl 1 rfl) ?_
      refine lv_iload_n hx hb dX4_freeRow_65 rfl (lv_at hl 2 rfl) ?_
      refine lv_ishr hx hb dX4_freeRow_66 ?_
      refine lv_iconst (v := 1) hx hb dX4_freeRow_67 (by decide) ?_
      refine lv_iand hx hb dX4_freeRow_68 ?_
      refine lv_if_ne (tgt := 74) hx hb dX4_freeRow_69 (by decide) (fun c3 => ?_) (fun c3 => ?_)
      · have h := ite_f c3 h
        refine lv_iinc (v := x2 + (1 : Int32)) (lv' := [(2, .int (x2 + (1 : Int32))), (0, .ref (ad (182 + 9 * x0))), (1, .int x1)]) hx hb dX4_freeRow_74 hl (k := 2) rfl rfl (by decide) rfl (fun ls hl => ?_)
        refine lv_goto (tgt := 58) hx hb dX4_freeRow_77 (by decide) ?_
        exact ih x0 hx0 x1 (x2 + (1 : Int32)) _ _ _ _ h hO (lv_sub hl [1, 2, 0] rfl)
      · have h := ite_t c3 h
        refine lv_iload_n hx hb dX4_freeRow_72 rfl (lv_at hl 2 rfl) ?_
        obtain ⟨rfl, rfl⟩ := ret2 h; exact cw_iret hx hb hr hlocks hO dX4_freeRow_73
set_option maxHeartbeats 4000000 in
set_option maxRecDepth 100000 in
theorem c_Pile_freeRow_L4 {l : Launch} {D : va_G} {A : Nat → Prop} {ad : Nat → Nat} {cA : Nat → ClassId} {tb0 tb1 : Nat} {p : Program} {e : Env} {s : State} {m : MethodId} {args : Array Value} {below : List Frame} {meth : Method} {c : Code} (S : CallFix p m c cX4_freeRow 3 s args (wv yX4_freeRow cX4_freeRow 3 (some .int)) RX4) (hr : meth.sig.returnType = some .int) (hlocks : meth.locks = false) (hK : cwK D A ad cA tb0 tb1 s) (r : Int32) (st' : CwS) : ∀ (n : Nat) (x0 : Nat) (hx0 : x0 < 10) (x1 : Int32) (x2 : Int32) (st : CwS) (H : Heap) (locs : List Loc) (ls : Array Slot), j_Pile_freeRow_L4 n x0 x1 x2 st = some (r, st') → cwO D A ad cA s st H locs → lv_has ls 3 [(0, .ref (ad (182 + 9 * x0))), (1, .int x1), (2, .int x2)] → W p l e ({ frames := 0, cells := 0, slots := 0, locals := 0 }) s m args below meth c H locs 0 0 (MQ below (cwQi D A ad cA tb0 tb1 r st') args s 0 0 A) (F0 m 4 ls []) := by
  obtain ⟨hx, hb, hml, hown, hts⟩ := S
  have hgw := fun (w : Cond) (h : w ∈ gwW) => hts w (List.mem_cons_of_mem _ h)
  have k9 := hgw _ w_89a9db98
  have k15 := hgw _ w_c5b43c70
  have k19 := hgw _ w_311ac5d4
  intro n
  induction n with
  | zero =>
    intro x0 hx0 x1 x2 st H locs ls h hO hl
    cases h
  | succ n ih =>
    intro x0 hx0 x1 x2 st H locs ls h hO hl
    unfold j_Pile_freeRow_L4 at h
    refine lv_iload_n hx hb dX4_freeRow_4 rfl (lv_at hl 2 rfl) ?_
    refine lv_aload_n hx hb dX4_freeRow_5 rfl (lv_at hl 0 rfl) ?_
    refine gf_Pile_height hx hb hgw iwPile hown hK hO hx0 k19 dX4_freeRow_6 ?_
    refine lv_icmp_ge (tgt := 56) hx hb dX4_freeRow_9 (by decide) (fun c1 => ?_) (fun c1 => ?_)
    · have h := ite_t c1 h
      refine lv_iconst (v := 0) hx hb dX4_freeRow_56 (by decide) ?_
      refine lv_istore_n (lv' := [(2, .int ((0 : Int32))), (0, .ref (ad (182 + 9 * x0))), (1, .int x1)]) hx hb dX4_freeRow_57 rfl hl (by decide) rfl (fun ls hl => ?_)
      exact c_Pile_freeRow_L58 ⟨hx, hb, hml, hown, hts⟩ hr hlocks hK r st' 13 x0 hx0 x1 ((0 : Int32)) _ _ _ _ h hO (lv_sub hl [1, 2, 0] rfl)
    · have h := ite_f c1 h
      refine lv_iload_n hx hb dX4_freeRow_12 rfl (lv_at hl 2 rfl) ?_
      refine lv_bipush (v := 12) hx hb dX4_freeRow_13 (by decide) ?_
      refine lv_icmp_ge (tgt := 56) hx hb dX4_freeRow_15 (by decide) (fun c4 => ?_) (fun c4 => ?_)
      · have h := ite_t c4 h
        refine lv_iconst (v := 0) hx hb dX4_freeRow_56 (by decide) ?_
        refine lv_istore_n (lv' := [(2, .int ((0 : Int32))), (0, .ref (ad (182 + 9 * x0))), (1, .int x1)]) hx hb dX4_freeRow_57 rfl hl (by decide) rfl (fun ls hl => ?_)
        exact c_Pile_freeRow_L58 ⟨hx, hb, hml, hown, hts⟩ hr hlocks hK r st' 13 x0 hx0 x1 ((0 : Int32)) _ _ _ _ h hO (lv_sub hl [1, 2, 0] rfl)
      · have h := ite_f c4 h
        refine lv_aload_n hx hb dX4_freeRow_18 rfl (lv_at hl 0 rfl) ?_
        refine gf_Pile_kinds hx hb hgw iwPile hown hK hO hx0 k9 dX4_freeRow_19 ?_
        refine lv_iload_n hx hb dX4_freeRow_22 rfl (lv_at hl 2 rfl) ?_
        obtain ⟨hc5, h⟩ := ck_some h
        refine al_PKinds hx hb hK hO hx0 hc5 dX4_freeRow_23 ?_
        refine lv_iconst (v := 1) hx hb dX4_freeRow_24 (by decide) ?_
        refine lv_icmp_eq (tgt := 38) hx hb dX4_freeRow_25 (by decide) (fun c6 => ?_) (fun c6 => ?_)
        · have h := ite_t c6 h
          refine lv_iload_n hx hb dX4_freeRow_38 rfl (lv_at hl 1 rfl) ?_
          refine lv_iconst (v := 1) hx hb dX4_freeRow_39 (by decide) ?_
          refine lv_aload_n hx hb dX4_freeRow_40 rfl (lv_at hl 0 rfl) ?_
          refine gf_Pile_numbers hx hb hgw iwPile hown hK hO hx0 k15 dX4_freeRow_41 ?_
          refine lv_iload_n hx hb dX4_freeRow_44 rfl (lv_at hl 2 rfl) ?_
          obtain ⟨hc7, h⟩ := ck_some h
          refine al_PNums hx hb hK hO hx0 hc7 dX4_freeRow_45 ?_
          refine lv_l2i hx hb dX4_freeRow_46 rfl ?_
          refine lv_ishl hx hb dX4_freeRow_47 ?_
          refine lv_ior hx hb dX4_freeRow_48 ?_
          refine lv_istore_n (lv' := [(1, .int (x1 ||| (((1 : Int32)) <<< (((gL st 6 x0 x2.toNatClampNeg).toInt32) &&& 31)))), (0, .ref (ad (182 + 9 * x0))), (2, .int x2)]) hx hb dX4_freeRow_49 rfl hl (by decide) rfl (fun ls hl => ?_)
          refine lv_iinc (v := x2 + (1 : Int32)) (lv' := [(2, .int (x2 + (1 : Int32))), (1, .int (x1 ||| (((1 : Int32)) <<< (((gL st 6 x0 x2.toNatClampNeg).toInt32) &&& 31)))), (0, .ref (ad (182 + 9 * x0)))]) hx hb dX4_freeRow_50 hl (k := 2) rfl rfl (by decide) rfl (fun ls hl => ?_)
          refine lv_goto (tgt := 4) hx hb dX4_freeRow_53 (by decide) ?_
          exact ih x0 hx0 (x1 ||| (((1 : Int32)) <<< (((gL st 6 x0 x2.toNatClampNeg).toInt32) &&& 31))) (x2 + (1 : Int32)) _ _ _ _ h hO (lv_sub hl [2, 1, 0] rfl)
        · have h := ite_f c6 h
          refine lv_aload_n hx hb dX4_freeRow_28 rfl (lv_at hl 0 rfl) ?_
          refine gf_Pile_kinds hx hb hgw iwPile hown hK hO hx0 k9 dX4_freeRow_29 ?_
          refine lv_iload_n hx hb dX4_freeRow_32 rfl (lv_at hl 2 rfl) ?_
          obtain ⟨hc8, h⟩ := ck_some h
          refine al_PKinds hx hb hK hO hx0 hc8 dX4_freeRow_33 ?_
          refine lv_iconst (v := 2) hx hb dX4_freeRow_34 (by decide) ?_
          refine lv_icmp_ne (tgt := 50) hx hb dX4_freeRow_35 (by decide) (fun c9 => ?_) (fun c9 => ?_)
          · have h := ite_f c9 h
            refine lv_iinc (v := x2 + (1 : Int32)) (lv' := [(2, .int (x2 + (1 : Int32))), (0, .ref (ad (182 + 9 * x0))), (1, .int x1)]) hx hb dX4_freeRow_50 hl (k := 2) rfl rfl (by decide) rfl (fun ls hl => ?_)
            refine lv_goto (tgt := 4) hx hb dX4_freeRow_53 (by decide) ?_
            exact ih x0 hx0 x1 (x2 + (1 : Int32)) _ _ _ _ h hO (lv_sub hl [1, 2, 0] rfl)
          · have h := ite_t c9 h
            refine lv_iload_n hx hb dX4_freeRow_38 rfl (lv_at hl 1 rfl) ?_
            refine lv_iconst (v := 1) hx hb dX4_freeRow_39 (by decide) ?_
            refine lv_aload_n hx hb dX4_freeRow_40 rfl (lv_at hl 0 rfl) ?_
            refine gf_Pile_numbers hx hb hgw iwPile hown hK hO hx0 k15 dX4_freeRow_41 ?_
            refine lv_iload_n hx hb dX4_freeRow_44 rfl (lv_at hl 2 rfl) ?_
            obtain ⟨hc10, h⟩ := ck_some h
            refine al_PNums hx hb hK hO hx0 hc10 dX4_freeRow_45 ?_
            refine lv_l2i hx hb dX4_freeRow_46 rfl ?_
            refine lv_ishl hx hb dX4_freeRow_47 ?_
            refine lv_ior hx hb dX4_freeRow_48 ?_
            refine lv_istore_n (lv' := [(1, .int (x1 ||| (((1 : Int32)) <<< (((gL st 6 x0 x2.toNatClampNeg).toInt32) &&& 31)))), (0, .ref (ad (182 + 9 * x0))), (2, .int x2)]) hx hb dX4_freeRow_49 rfl hl (by decide) rfl (fun ls hl => ?_)
            refine lv_iinc (v := x2 + (1 : Int32)) (lv' := [(2, .int (x2 + (1 : Int32))), (1, .int (x1 ||| (((1 : Int32)) <<< (((gL st 6 x0 x2.toNatClampNeg).toInt32) &&& 31)))), (0, .ref (ad (182 + 9 * x0)))]) hx hb dX4_freeRow_50 hl (k := 2) rfl rfl (by decide) rfl (fun ls hl => ?_)
            refine lv_goto (tgt := 4) hx hb dX4_freeRow_53 (by decide) ?_
            exact ih x0 hx0 (x1 ||| (((1 : Int32)) <<< (((gL st 6 x0 x2.toNatClampNeg).toInt32) &&& 31))) (x2 + (1 : Int32)) _ _ _ _ h hO (lv_sub hl [2, 1, 0] rfl)
set_option maxHeartbeats 4000000 in
set_option maxRecDepth 100000 in
theorem c_Pile_freeRow (l : Launch) (D : va_G) (A : Nat → Prop) (ad : Nat → Nat) (cA : Nat → ClassId) (tb0 tb1 : Nat) (a0 : Nat) (ha0 : a0 < 10) (st : CwS) (r : Int32) (st' : CwS) (h : j_Pile_freeRow a0 st = some (r, st')) : Met l yX4_freeRow (wv yX4_freeRow cX4_freeRow 3 (some .int)) ({ frames := 0, cells := 0, slots := 0, locals := 0 }) (va_Pc [.ref (ad (182 + 9 * a0))] (cwU D A ad cA tb0 tb1 st)) (cwQi D A ad cA tb0 tb1 r st') 0 0 A := by
  refine Met.ofW (cc := cX4_freeRow) (maxL := 3) (ret := some .int) (by decide) rfl ?_
  intro p e s m args below meth c s₁ B hml hv
  obtain ⟨rfl, hP, hK⟩ := hv
  have hx := B.exec
  have hb := B.bytes
  have hr := B.returns
  have hts := atoms_spec (ws := wv yX4_freeRow cX4_freeRow 3 (some .int)) B.pre
  have hown : s.vm.findClass RX4 = some m.cls := findClass_of_methodNamed B.named
  have hlocks := B.notSynchronized
  have hO : cwO D A ad cA s st s.heap [] := ⟨hP, va_S.rf⟩
  have hl := lv_entry ([.ref (ad (182 + 9 * a0))]) (n := 3) (Nat.le_of_ble_eq_true rfl)
  rw [lg_entry_eq]
  generalize (lg_sl ([.ref (ad (182 + 9 * a0))]) ++ List.replicate (3 - (lg_sl ([.ref (ad (182 + 9 * a0))])).length) Slot.unset).toArray = ls at hl ⊢
  have hl : lv_has ls 3 [(0, .ref (ad (182 + 9 * a0)))] := hl
  have _h0 := hO
  have hgw := fun (w : Cond) (h : w ∈ gwW) => hts w (List.mem_cons_of_mem _ h)
  have k9 := hgw _ w_89a9db98
  have k15 := hgw _ w_c5b43c70
  have k19 := hgw _ w_311ac5d4
  unfold j_Pile_freeRow at h
  refine lv_iconst (v := 0) hx hb dX4_freeRow_0 (by decide) ?_
  refine lv_istore_n (lv' := [(1, .int ((0 : Int32))), (0, .ref (ad (182 + 9 * a0)))]) hx hb dX4_freeRow_1 rfl hl (by decide) rfl (fun ls hl => ?_)
  refine lv_iconst (v := 0) hx hb dX4_freeRow_2 (by decide) ?_
  refine lv_istore_n (lv' := [(2, .int ((0 : Int32))), (1, .int ((0 : Int32))), (0, .ref (ad (182 + 9 * a0)))]) hx hb dX4_freeRow_3 rfl hl (by decide) rfl (fun ls hl => ?_)
  exact c_Pile_freeRow_L4 ⟨hx, hb, hml, hown, hts⟩ hr hlocks hK r st' 13 a0 ha0 ((0 : Int32)) ((0 : Int32)) _ _ _ _ h hO (lv_sub hl [2, 1, 0] rfl)
end
section
-- Frame begin
def j_Frame_begin (a0 : Nat) (a1 : Nat) (a2 : Int32) (a3 : Int32) (a4 : Int32) (st : CwS) : Option CwS :=
  some (sI (sI (sI (sI (sI (sI (sR st 0 a0 a1) 13 a0 0 a2) 14 a0 0 a3) 16 a0 0 a4) 15 a0 0 ((0 : Int32))) 12 a0 0 ((0 : Int32))) 18 a0 0 ((0 : Int32)))
set_option maxHeartbeats 4000000 in
set_option maxRecDepth 100000 in
theorem c_Frame_begin (l : Launch) (D : va_G) (A : Nat → Prop) (ad : Nat → Nat) (cA : Nat → ClassId) (tb0 tb1 : Nat) (a0 : Nat) (ha0 : a0 < 10) (a1 : Nat) (ha1 : a1 < 48) (a2 : Int32) (a3 : Int32) (a4 : Int32) (st : CwS) (st' : CwS) (h : j_Frame_begin a0 a1 a2 a3 a4 st = some st') : Met l yX2_begin (wv yX2_begin cX2_begin 5 (none)) ({ frames := 0, cells := 0, slots := 0, locals := 0 }) (va_Pc [.ref (ad (179 + 9 * a0)), .ref (ad (4 + 3 * a1)), .int a2, .int a3, .int a4] (cwU D A ad cA tb0 tb1 st)) (cwQv D A ad cA tb0 tb1 st') 0 0 A := by
  refine Met.ofW (cc := cX2_begin) (maxL := 5) (ret := none) (by decide) rfl ?_
  intro p e s m args below meth c s₁ B hml hv
  obtain ⟨rfl, hP, hK⟩ := hv
  have hx := B.exec
  have hb := B.bytes
  have hr := B.returns
  have hts := atoms_spec (ws := wv yX2_begin cX2_begin 5 (none)) B.pre
  have hown : s.vm.findClass RX2 = some m.cls := findClass_of_methodNamed B.named
  have hlocks := B.notSynchronized
  have hO : cwO D A ad cA s st s.heap [] := ⟨hP, va_S.rf⟩
  have hl := lv_entry ([.ref (ad (179 + 9 * a0)), .ref (ad (4 + 3 * a1)), .int a2, .int a3, .int a4]) (n := 5) (Nat.le_of_ble_eq_true rfl)
  rw [lg_entry_eq]
  generalize (lg_sl ([.ref (ad (179 + 9 * a0)), .ref (ad (4 + 3 * a1)), .int a2, .int a3, .int a4]) ++ List.replicate (5 - (lg_sl ([.ref (ad (179 + 9 * a0)), .ref (ad (4 + 3 * a1)), .int a2, .int a3, .int a4])).length) Slot.unset).toArray = ls at hl ⊢
  have hl : lv_has ls 5 [(0, .ref (ad (179 + 9 * a0))), (1, .ref (ad (4 + 3 * a1))), (2, .int a2), (3, .int a3), (4, .int a4)] := hl
  have _h0 := hO
  have hgw := fun (w : Cond) (h : w ∈ gwW) => hts w (List.mem_cons_of_mem _ h)
  have k18 := hgw _ w_f66d2fea
  have k22 := hgw _ w_69511b5c
  have k25 := hgw _ w_e3b0c746
  have k28 := hgw _ w_85cdfb7b
  have k31 := hgw _ w_b790a6d0
  have k34 := hgw _ w_99489c43
  have k41 := hgw _ w_bb005698
  have k54 := hgw _ w_ac97c914
  unfold j_Frame_begin at h
  refine lv_aload_n hx hb dX2_begin_0 rfl (lv_at hl 0 rfl) ?_
  refine lv_aload_n hx hb dX2_begin_1 rfl (lv_at hl 1 rfl) ?_
  refine pf_Frame_behaviour hx hb hgw iwFrame hown hK hO ha0 ha1 k34 dX2_begin_2 (fun H locs hO => ?_)
  refine lv_aload_n hx hb dX2_begin_5 rfl (lv_at hl 0 rfl) ?_
  refine lv_iload_n hx hb dX2_begin_6 rfl (lv_at hl 2 rfl) ?_
  refine pf_Frame_contract hx hb hgw iwFrame hown hK hO ha0 k22 dX2_begin_7 (fun H locs hO => ?_)
  refine lv_aload_n hx hb dX2_begin_10 rfl (lv_at hl 0 rfl) ?_
  refine lv_iload_n hx hb dX2_begin_11 rfl (lv_at hl 3 rfl) ?_
  refine pf_Frame_caller hx hb hgw iwFrame hown hK hO ha0 k25 dX2_begin_12 (fun H locs hO => ?_)
  refine lv_aload_n hx hb dX2_begin_15 rfl (lv_at hl 0 rfl) ?_
  refine lv_iload hx hb dX2_begin_16 (lv_at hl 4 rfl) ?_
  refine pf_Frame_stop hx hb hgw iwFrame hown hK hO ha0 k31 dX2_begin_18 (fun H locs hO => ?_)
  refine lv_aload_n hx hb dX2_begin_21 rfl (lv_at hl 0 rfl) ?_
  refine lv_iconst (v := 0) hx hb dX2_begin_22 (by decide) ?_
  refine pf_Frame_next hx hb hgw iwFrame hown hK hO ha0 k28 dX2_begin_23 (fun H locs hO => ?_)
  refine lv_aload_n hx hb dX2_begin_26 rfl (lv_at hl 0 rfl) ?_
  refine lv_iconst (v := 0) hx hb dX2_begin_27 (by decide) ?_
  refine pf_Frame_handlers hx hb hgw iwFrame hown hK hO ha0 k18 dX2_begin_28 (fun H locs hO => ?_)
  refine lv_aload_n hx hb dX2_begin_31 rfl (lv_at hl 0 rfl) ?_
  refine gf_Frame_pile hx hb hgw iwFrame hown hK hO ha0 k41 dX2_begin_32 ?_
  refine lv_iconst (v := 0) hx hb dX2_begin_35 (by decide) ?_
  refine pf_Pile_height hx hb hgw iwPile hown hK hO ha0 k54 dX2_begin_36 (fun H locs hO => ?_)
  cases h; exact cw_vret hx hb hr hlocks hO dX2_begin_39
-- Frame isAtEnd
def j_Frame_isAtEnd (a0 : Nat) (st : CwS) : Option (Int32 × CwS) :=
  if (gI st 15 a0 0) < ((0 : Int32)) then
    some ((1 : Int32), st)
  else
    ck (decide ((gR st 0 a0) < 48)) <|
    if (gI st 15 a0 0) < (gI st 2 (gR st 0 a0) 0) then
      some ((0 : Int32), st)
    else
      some ((1 : Int32), st)
set_option maxHeartbeats 4000000 in
set_option maxRecDepth 100000 in
theorem c_Frame_isAtEnd (l : Launch) (D : va_G) (A : Nat → Prop) (ad : Nat → Nat) (cA : Nat → ClassId) (tb0 tb1 : Nat) (a0 : Nat) (ha0 : a0 < 10) (st : CwS) (r : Int32) (st' : CwS) (h : j_Frame_isAtEnd a0 st = some (r, st')) : Met l yX2_isAtEnd (wv yX2_isAtEnd cX2_isAtEnd 1 (some .boolean)) ({ frames := 0, cells := 0, slots := 0, locals := 0 }) (va_Pc [.ref (ad (179 + 9 * a0))] (cwU D A ad cA tb0 tb1 st)) (cwQi D A ad cA tb0 tb1 r st') 0 0 A := by
  refine Met.ofW (cc := cX2_isAtEnd) (maxL := 1) (ret := some .boolean) (by decide) rfl ?_
  intro p e s m args below meth c s₁ B hml hv
  obtain ⟨rfl, hP, hK⟩ := hv
  have hx := B.exec
  have hb := B.bytes
  have hr := B.returns
  have hts := atoms_spec (ws := wv yX2_isAtEnd cX2_isAtEnd 1 (some .boolean)) B.pre
  have hown : s.vm.findClass RX2 = some m.cls := findClass_of_methodNamed B.named
  have hlocks := B.notSynchronized
  have hO : cwO D A ad cA s st s.heap [] := ⟨hP, va_S.rf⟩
  have hl := lv_entry ([.ref (ad (179 + 9 * a0))]) (n := 1) (Nat.le_of_ble_eq_true rfl)
  rw [lg_entry_eq]
  generalize (lg_sl ([.ref (ad (179 + 9 * a0))]) ++ List.replicate (1 - (lg_sl ([.ref (ad (179 + 9 * a0))])).length) Slot.unset).toArray = ls at hl ⊢
  have hl : lv_has ls 1 [(0, .ref (ad (179 + 9 * a0)))] := hl
  have _h0 := hO
  have hgw := fun (w : Cond) (h : w ∈ gwW) => hts w (List.mem_cons_of_mem _ h)
  have k28 := hgw _ w_85cdfb7b
  have k34 := hgw _ w_99489c43
  have k57 := hgw _ w_464bf442
  unfold j_Frame_isAtEnd at h
  refine lv_aload_n hx hb dX2_isAtEnd_0 rfl (lv_at hl 0 rfl) ?_
  refine gf_Frame_next hx hb hgw iwFrame hown hK hO ha0 k28 dX2_isAtEnd_1 ?_
  refine lv_if_lt (tgt := 21) hx hb dX2_isAtEnd_4 (by decide) (fun c1 => ?_) (fun c1 => ?_)
  · have h := ite_t c1 h
    refine lv_iconst (v := 1) hx hb dX2_isAtEnd_21 (by decide) ?_
    refine lv_goto (tgt := 26) hx hb dX2_isAtEnd_22 (by decide) ?_
    obtain ⟨rfl, rfl⟩ := ret2 h; exact cw_zret hx hb hr hlocks hO rfl dX2_isAtEnd_26
  · have h := ite_f c1 h
    refine lv_aload_n hx hb dX2_isAtEnd_7 rfl (lv_at hl 0 rfl) ?_
    refine gf_Frame_next hx hb hgw iwFrame hown hK hO ha0 k28 dX2_isAtEnd_8 ?_
    refine lv_aload_n hx hb dX2_isAtEnd_11 rfl (lv_at hl 0 rfl) ?_
    obtain ⟨hc2, h⟩ := ck_some h
    refine gf_Frame_behaviour hx hb hgw iwFrame hown hK hO ha0 k34 dX2_isAtEnd_12 ?_
    refine gf_Beh_count hx hb hgw iwBeh hown hK hO (ck_lt hc2) k57 dX2_isAtEnd_15 ?_
    refine lv_icmp_lt (tgt := 25) hx hb dX2_isAtEnd_18 (by decide) (fun c3 => ?_) (fun c3 => ?_)
    · have h := ite_t c3 h
      refine lv_iconst (v := 0) hx hb dX2_isAtEnd_25 (by decide) ?_
      obtain ⟨rfl, rfl⟩ := ret2 h; exact cw_zret hx hb hr hlocks hO rfl dX2_isAtEnd_26
    · have h := ite_f c3 h
      refine lv_iconst (v := 1) hx hb dX2_isAtEnd_21 (by decide) ?_
      refine lv_goto (tgt := 26) hx hb dX2_isAtEnd_22 (by decide) ?_
      obtain ⟨rfl, rfl⟩ := ret2 h; exact cw_zret hx hb hr hlocks hO rfl dX2_isAtEnd_26
-- Frame jump
def j_Frame_jump (a0 : Nat) (a1 : Int32) (st : CwS) : Option (Int32 × CwS) :=
  ck (decide ((gR st 0 a0) < 48)) <|
  bR (j_Beh_hasPlace ((gR st 0 a0)) a1 st) fun r2 st3 =>
  if r2 = ((0 : Int32)) then
    some ((12 : Int32), st3)
  else
    some ((0 : Int32), sI st3 15 a0 0 a1)
set_option maxHeartbeats 4000000 in
set_option maxRecDepth 100000 in
theorem c_Frame_jump (l : Launch) (D : va_G) (A : Nat → Prop) (ad : Nat → Nat) (cA : Nat → ClassId) (tb0 tb1 : Nat) (a0 : Nat) (ha0 : a0 < 10) (a1 : Int32) (st : CwS) (r : Int32) (st' : CwS) (h : j_Frame_jump a0 a1 st = some (r, st')) : Met l yX2_jump (wv yX2_jump cX2_jump 2 (some .int)) ({ frames := 1, cells := 0, slots := 0, locals := 21 }) (va_Pc [.ref (ad (179 + 9 * a0)), .int a1] (cwU D A ad cA tb0 tb1 st)) (cwQi D A ad cA tb0 tb1 r st') 0 0 A := by
  refine Met.ofW (cc := cX2_jump) (maxL := 2) (ret := some .int) (by decide) rfl ?_
  intro p e s m args below meth c s₁ B hml hv
  obtain ⟨rfl, hP, hK⟩ := hv
  have hx := B.exec
  have hb := B.bytes
  have hr := B.returns
  have hts := atoms_spec (ws := wv yX2_jump cX2_jump 2 (some .int)) B.pre
  have hown : s.vm.findClass RX2 = some m.cls := findClass_of_methodNamed B.named
  have hlocks := B.notSynchronized
  have hO : cwO D A ad cA s st s.heap [] := ⟨hP, va_S.rf⟩
  have hl := lv_entry ([.ref (ad (179 + 9 * a0)), .int a1]) (n := 2) (Nat.le_of_ble_eq_true rfl)
  rw [lg_entry_eq]
  generalize (lg_sl ([.ref (ad (179 + 9 * a0)), .int a1]) ++ List.replicate (2 - (lg_sl ([.ref (ad (179 + 9 * a0)), .int a1])).length) Slot.unset).toArray = ls at hl ⊢
  have hl : lv_has ls 2 [(0, .ref (ad (179 + 9 * a0))), (1, .int a1)] := hl
  have _h0 := hO
  have hgw := fun (w : Cond) (h : w ∈ gwW) => hts w (List.mem_cons_of_mem _ h)
  have k28 := hgw _ w_85cdfb7b
  have k34 := hgw _ w_99489c43
  unfold j_Frame_jump at h
  refine lv_aload_n hx hb dX2_jump_0 rfl (lv_at hl 0 rfl) ?_
  obtain ⟨hc1, h⟩ := ck_some h
  refine gf_Frame_behaviour hx hb hgw iwFrame hown hK hO ha0 k34 dX2_jump_1 ?_
  refine lv_iload_n hx hb dX2_jump_4 rfl (lv_at hl 1 rfl) ?_
  obtain ⟨r2, st3, h4, h⟩ := bR_some h
  refine cw_calli (va_runV (As := [.int a1]) (rest := []) ⟨hx, hb, hml, hown, hts⟩ (c_Beh_hasPlace l D A ad cA tb0 tb1 ((gR st 0 a0)) (ck_lt hc1) a1 st r2 st3 h4) (cwV 1 hts (gw_V w_73fb2ffd w_5a85a84b w_16f77c3b w_644e7304 w_185b0c4c) rfl rfl rfl (by decide +kernel) ⟨Nat.le_of_ble_eq_true rfl, Nat.le_of_ble_eq_true rfl⟩) (cw_preV (k := 4 + 3 * (gR st 0 a0)) (ci := 0) hK hO rfl (by have := (ck_lt hc1); omega) (cc_Beh (ck_lt hc1))) rfl rfl hl.1 rfl (lv_room (Nat.le_of_ble_eq_true rfl)) dX2_jump_5 ⟨Nat.zero_le _, Nat.zero_le _⟩) hO (fun H locs hO => ?_)
  refine lv_if_ne (tgt := 14) hx hb dX2_jump_8 (by decide) (fun c5 => ?_) (fun c5 => ?_)
  · have h := ite_f c5 h
    refine lv_aload_n hx hb dX2_jump_14 rfl (lv_at hl 0 rfl) ?_
    refine lv_iload_n hx hb dX2_jump_15 rfl (lv_at hl 1 rfl) ?_
    refine pf_Frame_next hx hb hgw iwFrame hown hK hO ha0 k28 dX2_jump_16 (fun H locs hO => ?_)
    refine lv_iconst (v := 0) hx hb dX2_jump_19 (by decide) ?_
    obtain ⟨rfl, rfl⟩ := ret2 h; exact cw_iret hx hb hr hlocks hO dX2_jump_20
  · have h := ite_t c5 h
    refine lv_bipush (v := 12) hx hb dX2_jump_11 (by decide) ?_
    obtain ⟨rfl, rfl⟩ := ret2 h; exact cw_iret hx hb hr hlocks hO dX2_jump_13
-- Frame addHandler
def j_Frame_addHandler (a0 : Nat) (a1 : Int32) (st : CwS) : Option (Int32 × CwS) :=
  ck (decide ((gR st 0 a0) < 48)) <|
  bR (j_Beh_hasPlace ((gR st 0 a0)) a1 st) fun r2 st3 =>
  if r2 = ((0 : Int32)) then
    some ((12 : Int32), st3)
  else
    if ((4 : Int32)) ≤ (gI st3 12 a0 0) then
      some ((11 : Int32), st3)
    else
      if (gI st3 18 a0 0) < ((12 : Int32)) then
        ck (ix (gI st3 12 a0 0) 4) <|
        ck (ix (gI (sI st3 10 a0 ((gI st3 12 a0 0).toNatClampNeg) a1) 12 a0 0) 4) <|
        some ((0 : Int32), sI (sI (sI st3 10 a0 ((gI st3 12 a0 0).toNatClampNeg) a1) 11 a0 ((gI (sI st3 10 a0 ((gI st3 12 a0 0).toNatClampNeg) a1) 12 a0 0).toNatClampNeg) (gI (sI st3 10 a0 ((gI st3 12 a0 0).toNatClampNeg) a1) 18 a0 0)) 12 a0 0 ((gI (sI (sI st3 10 a0 ((gI st3 12 a0 0).toNatClampNeg) a1) 11 a0 ((gI (sI st3 10 a0 ((gI st3 12 a0 0).toNatClampNeg) a1) 12 a0 0).toNatClampNeg) (gI (sI st3 10 a0 ((gI st3 12 a0 0).toNatClampNeg) a1) 18 a0 0)) 12 a0 0) + ((1 : Int32))))
      else
        some ((11 : Int32), st3)
set_option maxHeartbeats 4000000 in
set_option maxRecDepth 100000 in
theorem c_Frame_addHandler (l : Launch) (D : va_G) (A : Nat → Prop) (ad : Nat → Nat) (cA : Nat → ClassId) (tb0 tb1 : Nat) (a0 : Nat) (ha0 : a0 < 10) (a1 : Int32) (st : CwS) (r : Int32) (st' : CwS) (h : j_Frame_addHandler a0 a1 st = some (r, st')) : Met l yX2_addHandler (wv yX2_addHandler cX2_addHandler 2 (some .int)) ({ frames := 1, cells := 0, slots := 0, locals := 21 }) (va_Pc [.ref (ad (179 + 9 * a0)), .int a1] (cwU D A ad cA tb0 tb1 st)) (cwQi D A ad cA tb0 tb1 r st') 0 0 A := by
  refine Met.ofW (cc := cX2_addHandler) (maxL := 2) (ret := some .int) (by decide) rfl ?_
  intro p e s m args below meth c s₁ B hml hv
  obtain ⟨rfl, hP, hK⟩ := hv
  have hx := B.exec
  have hb := B.bytes
  have hr := B.returns
  have hts := atoms_spec (ws := wv yX2_addHandler cX2_addHandler 2 (some .int)) B.pre
  have hown : s.vm.findClass RX2 = some m.cls := findClass_of_methodNamed B.named
  have hlocks := B.notSynchronized
  have hO : cwO D A ad cA s st s.heap [] := ⟨hP, va_S.rf⟩
  have hl := lv_entry ([.ref (ad (179 + 9 * a0)), .int a1]) (n := 2) (Nat.le_of_ble_eq_true rfl)
  rw [lg_entry_eq]
  generalize (lg_sl ([.ref (ad (179 + 9 * a0)), .int a1]) ++ List.replicate (2 - (lg_sl ([.ref (ad (179 + 9 * a0)), .int a1])).length) Slot.unset).toArray = ls at hl ⊢
  have hl : lv_has ls 2 [(0, .ref (ad (179 + 9 * a0))), (1, .int a1)] := hl
  have _h0 := hO
  have hgw := fun (w : Cond) (h : w ∈ gwW) => hts w (List.mem_cons_of_mem _ h)
  have k9 := hgw _ w_a926dd89
  have k15 := hgw _ w_26449b3e
  have k18 := hgw _ w_f66d2fea
  have k34 := hgw _ w_99489c43
  have k41 := hgw _ w_bb005698
  have k54 := hgw _ w_ac97c914
  unfold j_Frame_addHandler at h
  refine lv_aload_n hx hb dX2_addHandler_0 rfl (lv_at hl 0 rfl) ?_
  obtain ⟨hc1, h⟩ := ck_some h
  refine gf_Frame_behaviour hx hb hgw iwFrame hown hK hO ha0 k34 dX2_addHandler_1 ?_
  refine lv_iload_n hx hb dX2_addHandler_4 rfl (lv_at hl 1 rfl) ?_
  obtain ⟨r2, st3, h4, h⟩ := bR_some h
  refine cw_calli (va_runV (As := [.int a1]) (rest := []) ⟨hx, hb, hml, hown, hts⟩ (c_Beh_hasPlace l D A ad cA tb0 tb1 ((gR st 0 a0)) (ck_lt hc1) a1 st r2 st3 h4) (cwV 1 hts (gw_V w_73fb2ffd w_5a85a84b w_16f77c3b w_644e7304 w_185b0c4c) rfl rfl rfl (by decide +kernel) ⟨Nat.le_of_ble_eq_true rfl, Nat.le_of_ble_eq_true rfl⟩) (cw_preV (k := 4 + 3 * (gR st 0 a0)) (ci := 0) hK hO rfl (by have := (ck_lt hc1); omega) (cc_Beh (ck_lt hc1))) rfl rfl hl.1 rfl (lv_room (Nat.le_of_ble_eq_true rfl)) dX2_addHandler_5 ⟨Nat.zero_le _, Nat.zero_le _⟩) hO (fun H locs hO => ?_)
  refine lv_if_ne (tgt := 14) hx hb dX2_addHandler_8 (by decide) (fun c5 => ?_) (fun c5 => ?_)
  · have h := ite_f c5 h
    refine lv_aload_n hx hb dX2_addHandler_14 rfl (lv_at hl 0 rfl) ?_
    refine gf_Frame_handlers hx hb hgw iwFrame hown hK hO ha0 k18 dX2_addHandler_15 ?_
    refine lv_iconst (v := 4) hx hb dX2_addHandler_18 (by decide) ?_
    refine lv_icmp_ge (tgt := 34) hx hb dX2_addHandler_19 (by decide) (fun c6 => ?_) (fun c6 => ?_)
    · have h := ite_t c6 h
      refine lv_bipush (v := 11) hx hb dX2_addHandler_34 (by decide) ?_
      obtain ⟨rfl, rfl⟩ := ret2 h; exact cw_iret hx hb hr hlocks hO dX2_addHandler_36
    · have h := ite_f c6 h
      refine lv_aload_n hx hb dX2_addHandler_22 rfl (lv_at hl 0 rfl) ?_
      refine gf_Frame_pile hx hb hgw iwFrame hown hK hO ha0 k41 dX2_addHandler_23 ?_
      refine gf_Pile_height hx hb hgw iwPile hown hK hO ha0 k54 dX2_addHandler_26 ?_
      refine lv_bipush (v := 12) hx hb dX2_addHandler_29 (by decide) ?_
      refine lv_icmp_lt (tgt := 37) hx hb dX2_addHandler_31 (by decide) (fun c7 => ?_) (fun c7 => ?_)
      · have h := ite_t c7 h
        refine lv_aload_n hx hb dX2_addHandler_37 rfl (lv_at hl 0 rfl) ?_
        refine gf_Frame_handlerSteps hx hb hgw iwFrame hown hK hO ha0 k9 dX2_addHandler_38 ?_
        refine lv_aload_n hx hb dX2_addHandler_41 rfl (lv_at hl 0 rfl) ?_
        refine gf_Frame_handlers hx hb hgw iwFrame hown hK hO ha0 k18 dX2_addHandler_42 ?_
        refine lv_iload_n hx hb dX2_addHandler_45 rfl (lv_at hl 1 rfl) ?_
        obtain ⟨hc8, h⟩ := ck_some h
        refine as_HSteps hx hb hK hO ha0 hc8 dX2_addHandler_46 (fun H locs hO => ?_)
        refine lv_aload_n hx hb dX2_addHandler_47 rfl (lv_at hl 0 rfl) ?_
        refine gf_Frame_handlerHeights hx hb hgw iwFrame hown hK hO ha0 k15 dX2_addHandler_48 ?_
        refine lv_aload_n hx hb dX2_addHandler_51 rfl (lv_at hl 0 rfl) ?_
        refine gf_Frame_handlers hx hb hgw iwFrame hown hK hO ha0 k18 dX2_addHandler_52 ?_
        refine lv_aload_n hx hb dX2_addHandler_55 rfl (lv_at hl 0 rfl) ?_
        refine gf_Frame_pile hx hb hgw iwFrame hown hK hO ha0 k41 dX2_addHandler_56 ?_
        refine gf_Pile_height hx hb hgw iwPile hown hK hO ha0 k54 dX2_addHandler_59 ?_
        obtain ⟨hc9, h⟩ := ck_some h
        refine as_HHeights hx hb hK hO ha0 hc9 dX2_addHandler_62 (fun H locs hO => ?_)
        refine lv_aload_n hx hb dX2_addHandler_63 rfl (lv_at hl 0 rfl) ?_
        refine lv_dup hx hb dX2_addHandler_64 rfl ?_
        refine gf_Frame_handlers hx hb hgw iwFrame hown hK hO ha0 k18 dX2_addHandler_65 ?_
        refine lv_iconst (v := 1) hx hb dX2_addHandler_68 (by decide) ?_
        refine lv_iadd hx hb dX2_addHandler_69 ?_
        refine pf_Frame_handlers hx hb hgw iwFrame hown hK hO ha0 k18 dX2_addHandler_70 (fun H locs hO => ?_)
        refine lv_iconst (v := 0) hx hb dX2_addHandler_73 (by decide) ?_
        obtain ⟨rfl, rfl⟩ := ret2 h; exact cw_iret hx hb hr hlocks hO dX2_addHandler_74
      · have h := ite_f c7 h
        refine lv_bipush (v := 11) hx hb dX2_addHandler_34 (by decide) ?_
        obtain ⟨rfl, rfl⟩ := ret2 h; exact cw_iret hx hb hr hlocks hO dX2_addHandler_36
  · have h := ite_t c5 h
    refine lv_bipush (v := 12) hx hb dX2_addHandler_11 (by decide) ?_
    obtain ⟨rfl, rfl⟩ := ret2 h; exact cw_iret hx hb hr hlocks hO dX2_addHandler_13
-- Frame dropHandler
def j_Frame_dropHandler (a0 : Nat) (st : CwS) : Option (Int32 × CwS) :=
  if ((0 : Int32)) < (gI st 12 a0 0) then
    some ((0 : Int32), sI st 12 a0 0 ((gI st 12 a0 0) - ((1 : Int32))))
  else
    some ((11 : Int32), st)
set_option maxHeartbeats 4000000 in
set_option maxRecDepth 100000 in
theorem c_Frame_dropHandler (l : Launch) (D : va_G) (A : Nat → Prop) (ad : Nat → Nat) (cA : Nat → ClassId) (tb0 tb1 : Nat) (a0 : Nat) (ha0 : a0 < 10) (st : CwS) (r : Int32) (st' : CwS) (h : j_Frame_dropHandler a0 st = some (r, st')) : Met l yX2_dropHandler (wv yX2_dropHandler cX2_dropHandler 1 (some .int)) ({ frames := 0, cells := 0, slots := 0, locals := 0 }) (va_Pc [.ref (ad (179 + 9 * a0))] (cwU D A ad cA tb0 tb1 st)) (cwQi D A ad cA tb0 tb1 r st') 0 0 A := by
  refine Met.ofW (cc := cX2_dropHandler) (maxL := 1) (ret := some .int) (by decide) rfl ?_
  intro p e s m args below meth c s₁ B hml hv
  obtain ⟨rfl, hP, hK⟩ := hv
  have hx := B.exec
  have hb := B.bytes
  have hr := B.returns
  have hts := atoms_spec (ws := wv yX2_dropHandler cX2_dropHandler 1 (some .int)) B.pre
  have hown : s.vm.findClass RX2 = some m.cls := findClass_of_methodNamed B.named
  have hlocks := B.notSynchronized
  have hO : cwO D A ad cA s st s.heap [] := ⟨hP, va_S.rf⟩
  have hl := lv_entry ([.ref (ad (179 + 9 * a0))]) (n := 1) (Nat.le_of_ble_eq_true rfl)
  rw [lg_entry_eq]
  generalize (lg_sl ([.ref (ad (179 + 9 * a0))]) ++ List.replicate (1 - (lg_sl ([.ref (ad (179 + 9 * a0))])).length) Slot.unset).toArray = ls at hl ⊢
  have hl : lv_has ls 1 [(0, .ref (ad (179 + 9 * a0)))] := hl
  have _h0 := hO
  have hgw := fun (w : Cond) (h : w ∈ gwW) => hts w (List.mem_cons_of_mem _ h)
  have k18 := hgw _ w_f66d2fea
  unfold j_Frame_dropHandler at h
  refine lv_aload_n hx hb dX2_dropHandler_0 rfl (lv_at hl 0 rfl) ?_
  refine gf_Frame_handlers hx hb hgw iwFrame hown hK hO ha0 k18 dX2_dropHandler_1 ?_
  refine lv_if_gt (tgt := 10) hx hb dX2_dropHandler_4 (by decide) (fun c1 => ?_) (fun c1 => ?_)
  · have h := ite_t c1 h
    refine lv_aload_n hx hb dX2_dropHandler_10 rfl (lv_at hl 0 rfl) ?_
    refine lv_dup hx hb dX2_dropHandler_11 rfl ?_
    refine gf_Frame_handlers hx hb hgw iwFrame hown hK hO ha0 k18 dX2_dropHandler_12 ?_
    refine lv_iconst (v := 1) hx hb dX2_dropHandler_15 (by decide) ?_
    refine lv_isub hx hb dX2_dropHandler_16 ?_
    refine pf_Frame_handlers hx hb hgw iwFrame hown hK hO ha0 k18 dX2_dropHandler_17 (fun H locs hO => ?_)
    refine lv_iconst (v := 0) hx hb dX2_dropHandler_20 (by decide) ?_
    obtain ⟨rfl, rfl⟩ := ret2 h; exact cw_iret hx hb hr hlocks hO dX2_dropHandler_21
  · have h := ite_f c1 h
    refine lv_bipush (v := 11) hx hb dX2_dropHandler_7 (by decide) ?_
    obtain ⟨rfl, rfl⟩ := ret2 h; exact cw_iret hx hb hr hlocks hO dX2_dropHandler_9
-- Frame handle
def j_Frame_handle (a0 : Nat) (a1 : Int32) (st : CwS) : Option (Int32 × CwS) :=
  if ((0 : Int32)) < (gI st 12 a0 0) then
    ck (ix (gI (sI st 12 a0 0 ((gI st 12 a0 0) - ((1 : Int32)))) 12 a0 0) 4) <|
    bR (j_Pile_putNumber a0 a1.toInt64 (sI (sI st 12 a0 0 ((gI st 12 a0 0) - ((1 : Int32)))) 18 a0 0 (if (gI (sI st 12 a0 0 ((gI st 12 a0 0) - ((1 : Int32)))) 11 a0 ((gI (sI st 12 a0 0 ((gI st 12 a0 0) - ((1 : Int32)))) 12 a0 0).toNatClampNeg)) < (gI (sI st 12 a0 0 ((gI st 12 a0 0) - ((1 : Int32)))) 18 a0 0) then (gI (sI st 12 a0 0 ((gI st 12 a0 0) - ((1 : Int32)))) 11 a0 ((gI (sI st 12 a0 0 ((gI st 12 a0 0) - ((1 : Int32)))) 12 a0 0).toNatClampNeg)) else (gI (sI st 12 a0 0 ((gI st 12 a0 0) - ((1 : Int32)))) 18 a0 0)))) fun r3 st4 =>
    ck (ix (gI st4 12 a0 0) 4) <|
    some ((1 : Int32), sI st4 15 a0 0 (gI st4 10 a0 ((gI st4 12 a0 0).toNatClampNeg)))
  else
    some ((0 : Int32), st)
set_option maxHeartbeats 4000000 in
set_option maxRecDepth 100000 in
theorem c_Frame_handle (l : Launch) (D : va_G) (A : Nat → Prop) (ad : Nat → Nat) (cA : Nat → ClassId) (tb0 tb1 : Nat) (a0 : Nat) (ha0 : a0 < 10) (a1 : Int32) (st : CwS) (r : Int32) (st' : CwS) (h : j_Frame_handle a0 a1 st = some (r, st')) : Met l yX2_handle (wv yX2_handle cX2_handle 2 (some .boolean)) ({ frames := 2, cells := 0, slots := 0, locals := 45 }) (va_Pc [.ref (ad (179 + 9 * a0)), .int a1] (cwU D A ad cA tb0 tb1 st)) (cwQi D A ad cA tb0 tb1 r st') 0 0 A := by
  refine Met.ofW (cc := cX2_handle) (maxL := 2) (ret := some .boolean) (by decide) rfl ?_
  intro p e s m args below meth c s₁ B hml hv
  obtain ⟨rfl, hP, hK⟩ := hv
  have hx := B.exec
  have hb := B.bytes
  have hr := B.returns
  have hts := atoms_spec (ws := wv yX2_handle cX2_handle 2 (some .boolean)) B.pre
  have hown : s.vm.findClass RX2 = some m.cls := findClass_of_methodNamed B.named
  have hlocks := B.notSynchronized
  have hO : cwO D A ad cA s st s.heap [] := ⟨hP, va_S.rf⟩
  have hl := lv_entry ([.ref (ad (179 + 9 * a0)), .int a1]) (n := 2) (Nat.le_of_ble_eq_true rfl)
  rw [lg_entry_eq]
  generalize (lg_sl ([.ref (ad (179 + 9 * a0)), .int a1]) ++ List.replicate (2 - (lg_sl ([.ref (ad (179 + 9 * a0)), .int a1])).length) Slot.unset).toArray = ls at hl ⊢
  have hl : lv_has ls 2 [(0, .ref (ad (179 + 9 * a0))), (1, .int a1)] := hl
  have _h0 := hO
  have hgw := fun (w : Cond) (h : w ∈ gwW) => hts w (List.mem_cons_of_mem _ h)
  have k9 := hgw _ w_a926dd89
  have k15 := hgw _ w_26449b3e
  have k18 := hgw _ w_f66d2fea
  have k28 := hgw _ w_85cdfb7b
  have k41 := hgw _ w_bb005698
  have k54 := hgw _ w_ac97c914
  have k66 := hgw _ w_dbdba080
  unfold j_Frame_handle at h
  refine lv_aload_n hx hb dX2_handle_0 rfl (lv_at hl 0 rfl) ?_
  refine gf_Frame_handlers hx hb hgw iwFrame hown hK hO ha0 k18 dX2_handle_1 ?_
  refine lv_if_gt (tgt := 9) hx hb dX2_handle_4 (by decide) (fun c1 => ?_) (fun c1 => ?_)
  · have h := ite_t c1 h
    refine lv_aload_n hx hb dX2_handle_9 rfl (lv_at hl 0 rfl) ?_
    refine lv_dup hx hb dX2_handle_10 rfl ?_
    refine gf_Frame_handlers hx hb hgw iwFrame hown hK hO ha0 k18 dX2_handle_11 ?_
    refine lv_iconst (v := 1) hx hb dX2_handle_14 (by decide) ?_
    refine lv_isub hx hb dX2_handle_15 ?_
    refine pf_Frame_handlers hx hb hgw iwFrame hown hK hO ha0 k18 dX2_handle_16 (fun H locs hO => ?_)
    refine lv_aload_n hx hb dX2_handle_19 rfl (lv_at hl 0 rfl) ?_
    refine gf_Frame_pile hx hb hgw iwFrame hown hK hO ha0 k41 dX2_handle_20 ?_
    refine lv_aload_n hx hb dX2_handle_23 rfl (lv_at hl 0 rfl) ?_
    refine gf_Frame_pile hx hb hgw iwFrame hown hK hO ha0 k41 dX2_handle_24 ?_
    refine gf_Pile_height hx hb hgw iwPile hown hK hO ha0 k54 dX2_handle_27 ?_
    refine lv_aload_n hx hb dX2_handle_30 rfl (lv_at hl 0 rfl) ?_
    refine gf_Frame_handlerHeights hx hb hgw iwFrame hown hK hO ha0 k15 dX2_handle_31 ?_
    refine lv_aload_n hx hb dX2_handle_34 rfl (lv_at hl 0 rfl) ?_
    refine gf_Frame_handlers hx hb hgw iwFrame hown hK hO ha0 k18 dX2_handle_35 ?_
    obtain ⟨hc2, h⟩ := ck_some h
    refine al_HHeights hx hb hK hO ha0 hc2 dX2_handle_38 ?_
    refine va_mmin hx hb (by rw [hml]; exact hl.1.symm) hown k66 (hgw _ w_79b26afc) (hgw _ w_868a9286) (hgw _ w_0fd793e2) (Nat.le_of_ble_eq_true rfl) (Nat.le_of_ble_eq_true rfl) (Nat.zero_le _) (Nat.zero_le _) dX2_handle_39 ?_
    refine pf_Pile_height hx hb hgw iwPile hown hK hO ha0 k54 dX2_handle_42 (fun H locs hO => ?_)
    refine lv_aload_n hx hb dX2_handle_45 rfl (lv_at hl 0 rfl) ?_
    refine gf_Frame_pile hx hb hgw iwFrame hown hK hO ha0 k41 dX2_handle_46 ?_
    refine lv_iload_n hx hb dX2_handle_49 rfl (lv_at hl 1 rfl) ?_
    refine lv_i2l hx hb dX2_handle_50 rfl ?_
    obtain ⟨r3, st4, h5, h⟩ := bR_some h
    refine cw_calli (va_runV (As := [.long a1.toInt64]) (rest := []) ⟨hx, hb, hml, hown, hts⟩ (c_Pile_putNumber l D A ad cA tb0 tb1 a0 ha0 a1.toInt64 (sI (sI st 12 a0 0 ((gI st 12 a0 0) - ((1 : Int32)))) 18 a0 0 (if (gI (sI st 12 a0 0 ((gI st 12 a0 0) - ((1 : Int32)))) 11 a0 ((gI (sI st 12 a0 0 ((gI st 12 a0 0) - ((1 : Int32)))) 12 a0 0).toNatClampNeg)) < (gI (sI st 12 a0 0 ((gI st 12 a0 0) - ((1 : Int32)))) 18 a0 0) then (gI (sI st 12 a0 0 ((gI st 12 a0 0) - ((1 : Int32)))) 11 a0 ((gI (sI st 12 a0 0 ((gI st 12 a0 0) - ((1 : Int32)))) 12 a0 0).toNatClampNeg)) else (gI (sI st 12 a0 0 ((gI st 12 a0 0) - ((1 : Int32)))) 18 a0 0))) r3 st4 h5) (cwV 1 hts (gw_V w_35bd17b4 w_34c9ad22 w_9e5e849e w_76c797a4 w_03086df0) rfl rfl rfl (by decide +kernel) ⟨Nat.le_of_ble_eq_true rfl, Nat.le_of_ble_eq_true rfl⟩) (cw_preV (k := 182 + 9 * a0) (ci := 4) hK hO rfl (by have := ha0; omega) (cc_Pile ha0)) rfl rfl hl.1 rfl (lv_room (Nat.le_of_ble_eq_true rfl)) dX2_handle_51 ⟨Nat.zero_le _, Nat.zero_le _⟩) hO (fun H locs hO => ?_)
    refine lv_pop hx hb dX2_handle_54 rfl ?_
    refine lv_aload_n hx hb dX2_handle_55 rfl (lv_at hl 0 rfl) ?_
    refine lv_aload_n hx hb dX2_handle_56 rfl (lv_at hl 0 rfl) ?_
    refine gf_Frame_handlerSteps hx hb hgw iwFrame hown hK hO ha0 k9 dX2_handle_57 ?_
    refine lv_aload_n hx hb dX2_handle_60 rfl (lv_at hl 0 rfl) ?_
    refine gf_Frame_handlers hx hb hgw iwFrame hown hK hO ha0 k18 dX2_handle_61 ?_
    obtain ⟨hc6, h⟩ := ck_some h
    refine al_HSteps hx hb hK hO ha0 hc6 dX2_handle_64 ?_
    refine pf_Frame_next hx hb hgw iwFrame hown hK hO ha0 k28 dX2_handle_65 (fun H locs hO => ?_)
    refine lv_iconst (v := 1) hx hb dX2_handle_68 (by decide) ?_
    obtain ⟨rfl, rfl⟩ := ret2 h; exact cw_zret hx hb hr hlocks hO rfl dX2_handle_69
  · have h := ite_f c1 h
    refine lv_iconst (v := 0) hx hb dX2_handle_7 (by decide) ?_
    obtain ⟨rfl, rfl⟩ := ret2 h; exact cw_zret hx hb hr hlocks hO rfl dX2_handle_8
end
section
-- Rows lengthOf
def j_Rows_lengthOf (a0 : Nat) (a1 : Int64) (st : CwS) : Option (Int32 × CwS) :=
  if (lg_cmp a1 ((0 : Int64))) < ((0 : Int32)) then
    some ((0 : Int32), st)
  else
    if ((0 : Int32)) ≤ (lg_cmp a1 ((12 : Int64))) then
      some ((0 : Int32), st)
    else
      ck (ix a1.toInt32 12) <|
      some (gI st 20 a0 a1.toInt32.toNatClampNeg, st)
set_option maxHeartbeats 4000000 in
set_option maxRecDepth 100000 in
theorem c_Rows_lengthOf (l : Launch) (D : va_G) (A : Nat → Prop) (ad : Nat → Nat) (cA : Nat → ClassId) (tb0 tb1 : Nat) (a0 : Nat) (ha0 : a0 < 10) (a1 : Int64) (st : CwS) (r : Int32) (st' : CwS) (h : j_Rows_lengthOf a0 a1 st = some (r, st')) : Met l yX5_lengthOf (wv yX5_lengthOf cX5_lengthOf 3 (some .int)) ({ frames := 0, cells := 0, slots := 0, locals := 0 }) (va_Pc [.ref (ad (185 + 9 * a0)), .long a1] (cwU D A ad cA tb0 tb1 st)) (cwQi D A ad cA tb0 tb1 r st') 0 0 A := by
  refine Met.ofW (cc := cX5_lengthOf) (maxL := 3) (ret := some .int) (by decide) rfl ?_
  intro p e s m args below meth c s₁ B hml hv
  obtain ⟨rfl, hP, hK⟩ := hv
  have hx := B.exec
  have hb := B.bytes
  have hr := B.returns
  have hts := atoms_spec (ws := wv yX5_lengthOf cX5_lengthOf 3 (some .int)) B.pre
  have hown : s.vm.findClass RX5 = some m.cls := findClass_of_methodNamed B.named
  have hlocks := B.notSynchronized
  have hO : cwO D A ad cA s st s.heap [] := ⟨hP, va_S.rf⟩
  have hl := lv_entry ([.ref (ad (185 + 9 * a0)), .long a1]) (n := 3) (Nat.le_of_ble_eq_true rfl)
  rw [lg_entry_eq]
  generalize (lg_sl ([.ref (ad (185 + 9 * a0)), .long a1]) ++ List.replicate (3 - (lg_sl ([.ref (ad (185 + 9 * a0)), .long a1])).length) Slot.unset).toArray = ls at hl ⊢
  have hl : lv_has ls 3 [(0, .ref (ad (185 + 9 * a0))), (1, .long a1)] := hl
  have _h0 := hO
  have hgw := fun (w : Cond) (h : w ∈ gwW) => hts w (List.mem_cons_of_mem _ h)
  have k15 := hgw _ w_642cd4aa
  have k72 := hgw _ w_8acbe09c
  unfold j_Rows_lengthOf at h
  refine lv_lload_n hx hb dX5_lengthOf_0 rfl (lv_at hl 1 rfl) ?_
  refine lv_lconst (v := 0) hx hb dX5_lengthOf_1 (by decide) ?_
  refine W.lcmp hx hb dX5_lengthOf_2 ?_
  refine lv_if_lt (tgt := 24) hx hb dX5_lengthOf_3 (by decide) (fun c1 => ?_) (fun c1 => ?_)
  · have h := ite_t c1 h
    refine lv_iconst (v := 0) hx hb dX5_lengthOf_24 (by decide) ?_
    obtain ⟨rfl, rfl⟩ := ret2 h; exact cw_iret hx hb hr hlocks hO dX5_lengthOf_25
  · have h := ite_f c1 h
    refine lv_lload_n hx hb dX5_lengthOf_6 rfl (lv_at hl 1 rfl) ?_
    refine lv_ldc2 hx hb hown k72 dX5_lengthOf_7 ?_
    refine W.lcmp hx hb dX5_lengthOf_10 ?_
    refine lv_if_ge (tgt := 24) hx hb dX5_lengthOf_11 (by decide) (fun c2 => ?_) (fun c2 => ?_)
    · have h := ite_t c2 h
      refine lv_iconst (v := 0) hx hb dX5_lengthOf_24 (by decide) ?_
      obtain ⟨rfl, rfl⟩ := ret2 h; exact cw_iret hx hb hr hlocks hO dX5_lengthOf_25
    · have h := ite_f c2 h
      refine lv_aload_n hx hb dX5_lengthOf_14 rfl (lv_at hl 0 rfl) ?_
      refine gf_Rows_lengths hx hb hgw iwRows hown hK hO ha0 k15 dX5_lengthOf_15 ?_
      refine lv_lload_n hx hb dX5_lengthOf_18 rfl (lv_at hl 1 rfl) ?_
      refine lv_l2i hx hb dX5_lengthOf_19 rfl ?_
      obtain ⟨hc3, h⟩ := ck_some h
      refine al_Lens hx hb hK hO ha0 hc3 dX5_lengthOf_20 ?_
      refine lv_goto (tgt := 25) hx hb dX5_lengthOf_21 (by decide) ?_
      obtain ⟨rfl, rfl⟩ := ret2 h; exact cw_iret hx hb hr hlocks hO dX5_lengthOf_25
-- Rows placeOf
def j_Rows_placeOf (a0 : Nat) (a1 : Int64) (a3 : Int64) (st : CwS) : Option (Int32 × CwS) :=
  some ((a1.toInt32 * ((16 : Int32))) + a3.toInt32, st)
set_option maxHeartbeats 4000000 in
set_option maxRecDepth 100000 in
theorem c_Rows_placeOf (l : Launch) (D : va_G) (A : Nat → Prop) (ad : Nat → Nat) (cA : Nat → ClassId) (tb0 tb1 : Nat) (a0 : Nat) (ha0 : a0 < 10) (a1 : Int64) (a3 : Int64) (st : CwS) (r : Int32) (st' : CwS) (h : j_Rows_placeOf a0 a1 a3 st = some (r, st')) : Met l yX5_placeOf (wv yX5_placeOf cX5_placeOf 5 (some .int)) ({ frames := 0, cells := 0, slots := 0, locals := 0 }) (va_Pc [.ref (ad (185 + 9 * a0)), .long a1, .long a3] (cwU D A ad cA tb0 tb1 st)) (cwQi D A ad cA tb0 tb1 r st') 0 0 A := by
  refine Met.ofW (cc := cX5_placeOf) (maxL := 5) (ret := some .int) (by decide) rfl ?_
  intro p e s m args below meth c s₁ B hml hv
  obtain ⟨rfl, hP, hK⟩ := hv
  have hx := B.exec
  have hb := B.bytes
  have hr := B.returns
  have hts := atoms_spec (ws := wv yX5_placeOf cX5_placeOf 5 (some .int)) B.pre
  have hown : s.vm.findClass RX5 = some m.cls := findClass_of_methodNamed B.named
  have hlocks := B.notSynchronized
  have hO : cwO D A ad cA s st s.heap [] := ⟨hP, va_S.rf⟩
  have hl := lv_entry ([.ref (ad (185 + 9 * a0)), .long a1, .long a3]) (n := 5) (Nat.le_of_ble_eq_true rfl)
  rw [lg_entry_eq]
  generalize (lg_sl ([.ref (ad (185 + 9 * a0)), .long a1, .long a3]) ++ List.replicate (5 - (lg_sl ([.ref (ad (185 + 9 * a0)), .long a1, .long a3])).length) Slot.unset).toArray = ls at hl ⊢
  have hl : lv_has ls 5 [(0, .ref (ad (185 + 9 * a0))), (1, .long a1), (3, .long a3)] := hl
  have _h0 := hO
  have hgw := fun (w : Cond) (h : w ∈ gwW) => hts w (List.mem_cons_of_mem _ h)
  unfold j_Rows_placeOf at h
  refine lv_lload_n hx hb dX5_placeOf_0 rfl (lv_at hl 1 rfl) ?_
  refine lv_l2i hx hb dX5_placeOf_1 rfl ?_
  refine lv_bipush (v := 16) hx hb dX5_placeOf_2 (by decide) ?_
  refine lv_imul hx hb dX5_placeOf_4 ?_
  refine lv_lload_n hx hb dX5_placeOf_5 rfl (lv_at hl 2 rfl) ?_
  refine lv_l2i hx hb dX5_placeOf_6 rfl ?_
  refine lv_iadd hx hb dX5_placeOf_7 ?_
  obtain ⟨rfl, rfl⟩ := ret2 h; exact cw_iret hx hb hr hlocks hO dX5_placeOf_8
-- Rows hasRange
def j_Rows_hasRange (a0 : Nat) (a1 : Int64) (a3 : Int64) (a5 : Int64) (st : CwS) : Option (Int32 × CwS) :=
  bR (j_Rows_lengthOf a0 a1 st) fun r1 st2 =>
  if (lg_cmp a5 ((0 : Int64))) < ((0 : Int32)) then
    some ((0 : Int32), st2)
  else
    if (lg_cmp a3 ((0 : Int64))) < ((0 : Int32)) then
      some ((0 : Int32), st2)
    else
      if ((0 : Int32)) < (lg_cmp a3 r1.toInt64) then
        some ((0 : Int32), st2)
      else
        if ((0 : Int32)) < (lg_cmp a5 (r1.toInt64 - a3)) then
          some ((0 : Int32), st2)
        else
          some ((1 : Int32), st2)
set_option maxHeartbeats 4000000 in
set_option maxRecDepth 100000 in
theorem c_Rows_hasRange (l : Launch) (D : va_G) (A : Nat → Prop) (ad : Nat → Nat) (cA : Nat → ClassId) (tb0 tb1 : Nat) (a0 : Nat) (ha0 : a0 < 10) (a1 : Int64) (a3 : Int64) (a5 : Int64) (st : CwS) (r : Int32) (st' : CwS) (h : j_Rows_hasRange a0 a1 a3 a5 st = some (r, st')) : Met l yX5_hasRange (wv yX5_hasRange cX5_hasRange 8 (some .boolean)) ({ frames := 1, cells := 0, slots := 0, locals := 22 }) (va_Pc [.ref (ad (185 + 9 * a0)), .long a1, .long a3, .long a5] (cwU D A ad cA tb0 tb1 st)) (cwQi D A ad cA tb0 tb1 r st') 0 0 A := by
  refine Met.ofW (cc := cX5_hasRange) (maxL := 8) (ret := some .boolean) (by decide) rfl ?_
  intro p e s m args below meth c s₁ B hml hv
  obtain ⟨rfl, hP, hK⟩ := hv
  have hx := B.exec
  have hb := B.bytes
  have hr := B.returns
  have hts := atoms_spec (ws := wv yX5_hasRange cX5_hasRange 8 (some .boolean)) B.pre
  have hown : s.vm.findClass RX5 = some m.cls := findClass_of_methodNamed B.named
  have hlocks := B.notSynchronized
  have hO : cwO D A ad cA s st s.heap [] := ⟨hP, va_S.rf⟩
  have hl := lv_entry ([.ref (ad (185 + 9 * a0)), .long a1, .long a3, .long a5]) (n := 8) (Nat.le_of_ble_eq_true rfl)
  rw [lg_entry_eq]
  generalize (lg_sl ([.ref (ad (185 + 9 * a0)), .long a1, .long a3, .long a5]) ++ List.replicate (8 - (lg_sl ([.ref (ad (185 + 9 * a0)), .long a1, .long a3, .long a5])).length) Slot.unset).toArray = ls at hl ⊢
  have hl : lv_has ls 8 [(0, .ref (ad (185 + 9 * a0))), (1, .long a1), (3, .long a3), (5, .long a5)] := hl
  have _h0 := hO
  have hgw := fun (w : Cond) (h : w ∈ gwW) => hts w (List.mem_cons_of_mem _ h)
  unfold j_Rows_hasRange at h
  refine lv_aload_n hx hb dX5_hasRange_0 rfl (lv_at hl 0 rfl) ?_
  refine lv_lload_n hx hb dX5_hasRange_1 rfl (lv_at hl 1 rfl) ?_
  obtain ⟨r1, st2, h3, h⟩ := bR_some h
  refine cw_calli (va_runV (As := [.long a1]) (rest := []) ⟨hx, hb, hml, hown, hts⟩ (c_Rows_lengthOf l D A ad cA tb0 tb1 a0 ha0 a1 st r1 st2 h3) (cwV 1 hts (gw_V w_eb771c37 w_47a11451 w_e6548b4e w_8bdbd0d2 w_69ff08de) rfl rfl rfl (by decide +kernel) ⟨Nat.le_of_ble_eq_true rfl, Nat.le_of_ble_eq_true rfl⟩) (cw_preV (k := 185 + 9 * a0) (ci := 5) hK hO rfl (by have := ha0; omega) (cc_Rows ha0)) rfl rfl hl.1 rfl (lv_room (Nat.le_of_ble_eq_true rfl)) dX5_hasRange_2 ⟨Nat.zero_le _, Nat.zero_le _⟩) hO (fun H locs hO => ?_)
  refine lv_istore (lv' := [(7, .int r1), (0, .ref (ad (185 + 9 * a0))), (1, .long a1), (3, .long a3), (5, .long a5)]) hx hb dX5_hasRange_5 hl (by decide) rfl (fun ls hl => ?_)
  refine lv_lload hx hb dX5_hasRange_7 (lv_at hl 4 rfl) ?_
  refine lv_lconst (v := 0) hx hb dX5_hasRange_9 (by decide) ?_
  refine W.lcmp hx hb dX5_hasRange_10 ?_
  refine lv_if_lt (tgt := 43) hx hb dX5_hasRange_11 (by decide) (fun c4 => ?_) (fun c4 => ?_)
  · have h := ite_t c4 h
    refine lv_iconst (v := 0) hx hb dX5_hasRange_43 (by decide) ?_
    obtain ⟨rfl, rfl⟩ := ret2 h; exact cw_zret hx hb hr hlocks hO rfl dX5_hasRange_44
  · have h := ite_f c4 h
    refine lv_lload_n hx hb dX5_hasRange_14 rfl (lv_at hl 3 rfl) ?_
    refine lv_lconst (v := 0) hx hb dX5_hasRange_15 (by decide) ?_
    refine W.lcmp hx hb dX5_hasRange_16 ?_
    refine lv_if_lt (tgt := 43) hx hb dX5_hasRange_17 (by decide) (fun c5 => ?_) (fun c5 => ?_)
    · have h := ite_t c5 h
      refine lv_iconst (v := 0) hx hb dX5_hasRange_43 (by decide) ?_
      obtain ⟨rfl, rfl⟩ := ret2 h; exact cw_zret hx hb hr hlocks hO rfl dX5_hasRange_44
    · have h := ite_f c5 h
      refine lv_lload_n hx hb dX5_hasRange_20 rfl (lv_at hl 3 rfl) ?_
      refine lv_iload hx hb dX5_hasRange_21 (lv_at hl 0 rfl) ?_
      refine lv_i2l hx hb dX5_hasRange_23 rfl ?_
      refine W.lcmp hx hb dX5_hasRange_24 ?_
      refine lv_if_gt (tgt := 43) hx hb dX5_hasRange_25 (by decide) (fun c6 => ?_) (fun c6 => ?_)
      · have h := ite_t c6 h
        refine lv_iconst (v := 0) hx hb dX5_hasRange_43 (by decide) ?_
        obtain ⟨rfl, rfl⟩ := ret2 h; exact cw_zret hx hb hr hlocks hO rfl dX5_hasRange_44
      · have h := ite_f c6 h
        refine lv_lload hx hb dX5_hasRange_28 (lv_at hl 4 rfl) ?_
        refine lv_iload hx hb dX5_hasRange_30 (lv_at hl 0 rfl) ?_
        refine lv_i2l hx hb dX5_hasRange_32 rfl ?_
        refine lv_lload_n hx hb dX5_hasRange_33 rfl (lv_at hl 3 rfl) ?_
        refine lv_lsub hx hb dX5_hasRange_34 ?_
        refine W.lcmp hx hb dX5_hasRange_35 ?_
        refine lv_if_gt (tgt := 43) hx hb dX5_hasRange_36 (by decide) (fun c7 => ?_) (fun c7 => ?_)
        · have h := ite_t c7 h
          refine lv_iconst (v := 0) hx hb dX5_hasRange_43 (by decide) ?_
          obtain ⟨rfl, rfl⟩ := ret2 h; exact cw_zret hx hb hr hlocks hO rfl dX5_hasRange_44
        · have h := ite_f c7 h
          refine lv_iconst (v := 1) hx hb dX5_hasRange_39 (by decide) ?_
          refine lv_goto (tgt := 44) hx hb dX5_hasRange_40 (by decide) ?_
          obtain ⟨rfl, rfl⟩ := ret2 h; exact cw_zret hx hb hr hlocks hO rfl dX5_hasRange_44
-- Rows elementFailure
def j_Rows_elementFailure (a0 : Nat) (a1 : Int32) (a2 : Int32) (a3 : Int64) (a5 : Int64) (st : CwS) : Option (Int32 × CwS) :=
  if a2 = ((3 : Int32)) then
    some ((2 : Int32), st)
  else
    if a2 = a1 then
      if (lg_cmp a5 ((0 : Int64))) < ((0 : Int32)) then
        some ((3 : Int32), st)
      else
        bR (j_Rows_lengthOf a0 a3 st) fun r4 st5 =>
        if ((0 : Int32)) ≤ (lg_cmp a5 r4.toInt64) then
          some ((3 : Int32), st5)
        else
          some ((0 : Int32), st5)
    else
      some ((4 : Int32), st)
set_option maxHeartbeats 4000000 in
set_option maxRecDepth 100000 in
theorem c_Rows_elementFailure (l : Launch) (D : va_G) (A : Nat → Prop) (ad : Nat → Nat) (cA : Nat → ClassId) (tb0 tb1 : Nat) (a0 : Nat) (ha0 : a0 < 10) (a1 : Int32) (a2 : Int32) (a3 : Int64) (a5 : Int64) (st : CwS) (r : Int32) (st' : CwS) (h : j_Rows_elementFailure a0 a1 a2 a3 a5 st = some (r, st')) : Met l yX5_elementFailure (wv yX5_elementFailure cX5_elementFailure 7 (some .int)) ({ frames := 1, cells := 0, slots := 0, locals := 22 }) (va_Pc [.ref (ad (185 + 9 * a0)), .int a1, .int a2, .long a3, .long a5] (cwU D A ad cA tb0 tb1 st)) (cwQi D A ad cA tb0 tb1 r st') 0 0 A := by
  refine Met.ofW (cc := cX5_elementFailure) (maxL := 7) (ret := some .int) (by decide) rfl ?_
  intro p e s m args below meth c s₁ B hml hv
  obtain ⟨rfl, hP, hK⟩ := hv
  have hx := B.exec
  have hb := B.bytes
  have hr := B.returns
  have hts := atoms_spec (ws := wv yX5_elementFailure cX5_elementFailure 7 (some .int)) B.pre
  have hown : s.vm.findClass RX5 = some m.cls := findClass_of_methodNamed B.named
  have hlocks := B.notSynchronized
  have hO : cwO D A ad cA s st s.heap [] := ⟨hP, va_S.rf⟩
  have hl := lv_entry ([.ref (ad (185 + 9 * a0)), .int a1, .int a2, .long a3, .long a5]) (n := 7) (Nat.le_of_ble_eq_true rfl)
  rw [lg_entry_eq]
  generalize (lg_sl ([.ref (ad (185 + 9 * a0)), .int a1, .int a2, .long a3, .long a5]) ++ List.replicate (7 - (lg_sl ([.ref (ad (185 + 9 * a0)), .int a1, .int a2, .long a3, .long a5])).length) Slot.unset).toArray = ls at hl ⊢
  have hl : lv_has ls 7 [(0, .ref (ad (185 + 9 * a0))), (1, .int a1), (2, .int a2), (3, .long a3), (5, .long a5)] := hl
  have _h0 := hO
  have hgw := fun (w : Cond) (h : w ∈ gwW) => hts w (List.mem_cons_of_mem _ h)
  unfold j_Rows_elementFailure at h
  refine lv_iload_n hx hb dX5_elementFailure_0 rfl (lv_at hl 2 rfl) ?_
  refine lv_iconst (v := 3) hx hb dX5_elementFailure_1 (by decide) ?_
  refine lv_icmp_ne (tgt := 7) hx hb dX5_elementFailure_2 (by decide) (fun c1 => ?_) (fun c1 => ?_)
  · have h := ite_f c1 h
    refine lv_iload_n hx hb dX5_elementFailure_7 rfl (lv_at hl 2 rfl) ?_
    refine lv_iload_n hx hb dX5_elementFailure_8 rfl (lv_at hl 1 rfl) ?_
    refine lv_icmp_eq (tgt := 14) hx hb dX5_elementFailure_9 (by decide) (fun c2 => ?_) (fun c2 => ?_)
    · have h := ite_t c2 h
      refine lv_lload hx hb dX5_elementFailure_14 (lv_at hl 4 rfl) ?_
      refine lv_lconst (v := 0) hx hb dX5_elementFailure_16 (by decide) ?_
      refine W.lcmp hx hb dX5_elementFailure_17 ?_
      refine lv_if_lt (tgt := 37) hx hb dX5_elementFailure_18 (by decide) (fun c3 => ?_) (fun c3 => ?_)
      · have h := ite_t c3 h
        refine lv_iconst (v := 3) hx hb dX5_elementFailure_37 (by decide) ?_
        obtain ⟨rfl, rfl⟩ := ret2 h; exact cw_iret hx hb hr hlocks hO dX5_elementFailure_38
      · have h := ite_f c3 h
        refine lv_lload hx hb dX5_elementFailure_21 (lv_at hl 4 rfl) ?_
        refine lv_aload_n hx hb dX5_elementFailure_23 rfl (lv_at hl 0 rfl) ?_
        refine lv_lload_n hx hb dX5_elementFailure_24 rfl (lv_at hl 3 rfl) ?_
        obtain ⟨r4, st5, h6, h⟩ := bR_some h
        refine cw_calli (va_runV (As := [.long a3]) (rest := [.long a5]) ⟨hx, hb, hml, hown, hts⟩ (c_Rows_lengthOf l D A ad cA tb0 tb1 a0 ha0 a3 st r4 st5 h6) (cwV 1 hts (gw_V w_eb771c37 w_47a11451 w_e6548b4e w_8bdbd0d2 w_69ff08de) rfl rfl rfl (by decide +kernel) ⟨Nat.le_of_ble_eq_true rfl, Nat.le_of_ble_eq_true rfl⟩) (cw_preV (k := 185 + 9 * a0) (ci := 5) hK hO rfl (by have := ha0; omega) (cc_Rows ha0)) rfl rfl hl.1 rfl (lv_room (Nat.le_of_ble_eq_true rfl)) dX5_elementFailure_25 ⟨Nat.zero_le _, Nat.zero_le _⟩) hO (fun H locs hO => ?_)
        refine lv_i2l hx hb dX5_elementFailure_28 rfl ?_
        refine W.lcmp hx hb dX5_elementFailure_29 ?_
        refine lv_if_ge (tgt := 37) hx hb dX5_elementFailure_30 (by decide) (fun c7 => ?_) (fun c7 => ?_)
        · have h := ite_t c7 h
          refine lv_iconst (v := 3) hx hb dX5_elementFailure_37 (by decide) ?_
          obtain ⟨rfl, rfl⟩ := ret2 h; exact cw_iret hx hb hr hlocks hO dX5_elementFailure_38
        · have h := ite_f c7 h
          refine lv_iconst (v := 0) hx hb dX5_elementFailure_33 (by decide) ?_
          refine lv_goto (tgt := 38) hx hb dX5_elementFailure_34 (by decide) ?_
          obtain ⟨rfl, rfl⟩ := ret2 h; exact cw_iret hx hb hr hlocks hO dX5_elementFailure_38
    · have h := ite_f c2 h
      refine lv_iconst (v := 4) hx hb dX5_elementFailure_12 (by decide) ?_
      obtain ⟨rfl, rfl⟩ := ret2 h; exact cw_iret hx hb hr hlocks hO dX5_elementFailure_13
  · have h := ite_t c1 h
    refine lv_iconst (v := 2) hx hb dX5_elementFailure_5 (by decide) ?_
    obtain ⟨rfl, rfl⟩ := ret2 h; exact cw_iret hx hb hr hlocks hO dX5_elementFailure_6
-- Rows putNew
def j_Rows_putNew_L70 : Nat → Nat → Int32 → Int64 → Int32 → Int32 → CwS → Option (Int32 × CwS)
  | 0, _, _, _, _, _, _ => none
  | n + 1, x0, x1, x2, x4, x5, st =>
    if ((0 : Int32)) ≤ (lg_cmp x5.toInt64 x2) then
      bR (j_Pile_put x0 x1 x4.toInt64 st) fun r16 st17 =>
      some (r16, st17)
    else
      ck (ix ((x4 * ((16 : Int32))) + x5) 192) <|
      j_Rows_putNew_L70 n x0 x1 x2 x4 (x5 + (1 : Int32)) (sL st 7 x0 (((x4 * ((16 : Int32))) + x5).toNatClampNeg) ((0 : Int64)))
def j_Rows_putNew (a0 : Nat) (a1 : Int32) (st : CwS) : Option (Int32 × CwS) :=
  bR (j_Pile_tookNumber a0 ((0 : Int32)) st) fun r1 st2 =>
  if r1 = ((0 : Int32)) then
    some ((4 : Int32), st2)
  else
    bR (j_Pile_took a0 ((0 : Int32)) st2) fun r5 st6 =>
    if ((0 : Int32)) ≤ (lg_cmp r5 ((0 : Int64))) then
      if (lg_cmp r5 ((16 : Int64))) ≤ ((0 : Int32)) then
        bR (j_Pile_freeRow a0 st6) fun r10 st11 =>
        if ((0 : Int32)) ≤ r10 then
          ck (ix r10 12) <|
          j_Rows_putNew_L70 17 a0 a1 r5 r10 ((0 : Int32)) (sI st11 20 a0 r10.toNatClampNeg r5.toInt32)
        else
          some ((11 : Int32), st11)
      else
        some ((6 : Int32), st6)
    else
      some ((5 : Int32), st6)
set_option maxHeartbeats 4000000 in
set_option maxRecDepth 100000 in
theorem c_Rows_putNew_L70 {l : Launch} {D : va_G} {A : Nat → Prop} {ad : Nat → Nat} {cA : Nat → ClassId} {tb0 tb1 : Nat} {p : Program} {e : Env} {s : State} {m : MethodId} {args : Array Value} {below : List Frame} {meth : Method} {c : Code} (S : CallFix p m c cX5_putNew 6 s args (wv yX5_putNew cX5_putNew 6 (some .int)) RX5) (hr : meth.sig.returnType = some .int) (hlocks : meth.locks = false) (hK : cwK D A ad cA tb0 tb1 s) (r : Int32) (st' : CwS) : ∀ (n : Nat) (x0 : Nat) (hx0 : x0 < 10) (x1 : Int32) (x2 : Int64) (x4 : Int32) (x5 : Int32) (st : CwS) (H : Heap) (locs : List Loc) (ls : Array Slot), j_Rows_putNew_L70 n x0 x1 x2 x4 x5 st = some (r, st') → cwO D A ad cA s st H locs → lv_has ls 6 [(0, .ref (ad (185 + 9 * x0))), (1, .int x1), (2, .long x2), (4, .int x4), (5, .int x5)] → W p l e ({ frames := 2, cells := 0, slots := 0, locals := 43 }) s m args below meth c H locs 0 0 (MQ below (cwQi D A ad cA tb0 tb1 r st') args s 0 0 A) (F0 m 70 ls []) := by
  obtain ⟨hx, hb, hml, hown, hts⟩ := S
  have hgw := fun (w : Cond) (h : w ∈ gwW) => hts w (List.mem_cons_of_mem _ h)
  have k9 := hgw _ w_44bf1df9
  have k15 := hgw _ w_642cd4aa
  have k19 := hgw _ w_b00e8dcd
  have k33 := hgw _ w_395c51ba
  intro n
  induction n with
  | zero =>
    intro x0 hx0 x1 x2 x4 x5 st H locs ls h hO hl
    cases h
  | succ n ih =>
    intro x0 hx0 x1 x2 x4 x5 st H locs ls h hO hl
    unfold j_Rows_putNew_L70 at h
    refine lv_iload hx hb dX5_putNew_70 (lv_at hl 4 rfl) ?_
    refine lv_i2l hx hb dX5_putNew_72 rfl ?_
    refine lv_lload_n hx hb dX5_putNew_73 rfl (lv_at hl 2 rfl) ?_
    refine W.lcmp hx hb dX5_putNew_74 ?_
    refine lv_if_ge (tgt := 98) hx hb dX5_putNew_75 (by decide) (fun c15 => ?_) (fun c15 => ?_)
    · have h := ite_t c15 h
      refine lv_aload_n hx hb dX5_putNew_98 rfl (lv_at hl 0 rfl) ?_
      refine gf_Rows_pile hx hb hgw iwRows hown hK hO hx0 k19 dX5_putNew_99 ?_
      refine lv_iload_n hx hb dX5_putNew_102 rfl (lv_at hl 1 rfl) ?_
      refine lv_iload hx hb dX5_putNew_103 (lv_at hl 3 rfl) ?_
      refine lv_i2l hx hb dX5_putNew_105 rfl ?_
      obtain ⟨r16, st17, h18, h⟩ := bR_some h
      refine cw_calli (va_runV (As := [.int x1, .long x4.toInt64]) (rest := []) ⟨hx, hb, hml, hown, hts⟩ (c_Pile_put l D A ad cA tb0 tb1 x0 hx0 x1 x4.toInt64 st r16 st17 h18) (cwV 2 hts (gw_V w_4dc44149 w_d8d501aa w_46b57ea6 w_76c797a4 w_54242bcb) rfl rfl rfl (by decide +kernel) ⟨Nat.le_of_ble_eq_true rfl, Nat.le_of_ble_eq_true rfl⟩) (cw_preV (k := 182 + 9 * x0) (ci := 4) hK hO rfl (by have := hx0; omega) (cc_Pile hx0)) rfl rfl hl.1 rfl (lv_room (Nat.le_of_ble_eq_true rfl)) dX5_putNew_106 ⟨Nat.zero_le _, Nat.zero_le _⟩) hO (fun H locs hO => ?_)
      obtain ⟨rfl, rfl⟩ := ret2 h; exact cw_iret hx hb hr hlocks hO dX5_putNew_109
    · have h := ite_f c15 h
      refine lv_aload_n hx hb dX5_putNew_78 rfl (lv_at hl 0 rfl) ?_
      refine gf_Rows_elements hx hb hgw iwRows hown hK hO hx0 k9 dX5_putNew_79 ?_
      refine lv_iload hx hb dX5_putNew_82 (lv_at hl 3 rfl) ?_
      refine lv_bipush (v := 16) hx hb dX5_putNew_84 (by decide) ?_
      refine lv_imul hx hb dX5_putNew_86 ?_
      refine lv_iload hx hb dX5_putNew_87 (lv_at hl 4 rfl) ?_
      refine lv_iadd hx hb dX5_putNew_89 ?_
      refine lv_lconst (v := 0) hx hb dX5_putNew_90 (by decide) ?_
      obtain ⟨hc19, h⟩ := ck_some h
      refine as_Elems hx hb hK hO hx0 hc19 dX5_putNew_91 (fun H locs hO => ?_)
      refine lv_iinc (v := x5 + (1 : Int32)) (lv' := [(5, .int (x5 + (1 : Int32))), (0, .ref (ad (185 + 9 * x0))), (1, .int x1), (2, .long x2), (4, .int x4)]) hx hb dX5_putNew_92 hl (k := 4) rfl rfl (by decide) rfl (fun ls hl => ?_)
      refine lv_goto (tgt := 70) hx hb dX5_putNew_95 (by decide) ?_
      exact ih x0 hx0 x1 x2 x4 (x5 + (1 : Int32)) _ _ _ _ h hO (lv_sub hl [1, 2, 3, 4, 0] rfl)
set_option maxHeartbeats 4000000 in
set_option maxRecDepth 100000 in
theorem c_Rows_putNew (l : Launch) (D : va_G) (A : Nat → Prop) (ad : Nat → Nat) (cA : Nat → ClassId) (tb0 tb1 : Nat) (a0 : Nat) (ha0 : a0 < 10) (a1 : Int32) (st : CwS) (r : Int32) (st' : CwS) (h : j_Rows_putNew a0 a1 st = some (r, st')) : Met l yX5_putNew (wv yX5_putNew cX5_putNew 6 (some .int)) ({ frames := 2, cells := 0, slots := 0, locals := 43 }) (va_Pc [.ref (ad (185 + 9 * a0)), .int a1] (cwU D A ad cA tb0 tb1 st)) (cwQi D A ad cA tb0 tb1 r st') 0 0 A := by
  refine Met.ofW (cc := cX5_putNew) (maxL := 6) (ret := some .int) (by decide) rfl ?_
  intro p e s m args below meth c s₁ B hml hv
  obtain ⟨rfl, hP, hK⟩ := hv
  have hx := B.exec
  have hb := B.bytes
  have hr := B.returns
  have hts := atoms_spec (ws := wv yX5_putNew cX5_putNew 6 (some .int)) B.pre
  have hown : s.vm.findClass RX5 = some m.cls := findClass_of_methodNamed B.named
  have hlocks := B.notSynchronized
  have hO : cwO D A ad cA s st s.heap [] := ⟨hP, va_S.rf⟩
  have hl := lv_entry ([.ref (ad (185 + 9 * a0)), .int a1]) (n := 6) (Nat.le_of_ble_eq_true rfl)
  rw [lg_entry_eq]
  generalize (lg_sl ([.ref (ad (185 + 9 * a0)), .int a1]) ++ List.replicate (6 - (lg_sl ([.ref (ad (185 + 9 * a0)), .int a1])).length) Slot.unset).toArray = ls at hl ⊢
  have hl : lv_has ls 6 [(0, .ref (ad (185 + 9 * a0))), (1, .int a1)] := hl
  have _h0 := hO
  have hgw := fun (w : Cond) (h : w ∈ gwW) => hts w (List.mem_cons_of_mem _ h)
  have k9 := hgw _ w_44bf1df9
  have k15 := hgw _ w_642cd4aa
  have k19 := hgw _ w_b00e8dcd
  have k33 := hgw _ w_395c51ba
  unfold j_Rows_putNew at h
  refine lv_aload_n hx hb dX5_putNew_0 rfl (lv_at hl 0 rfl) ?_
  refine gf_Rows_pile hx hb hgw iwRows hown hK hO ha0 k19 dX5_putNew_1 ?_
  refine lv_iconst (v := 0) hx hb dX5_putNew_4 (by decide) ?_
  obtain ⟨r1, st2, h3, h⟩ := bR_some h
  refine cw_calli (va_runV (As := [.int ((0 : Int32))]) (rest := []) ⟨hx, hb, hml, hown, hts⟩ (c_Pile_tookNumber l D A ad cA tb0 tb1 a0 ha0 ((0 : Int32)) st r1 st2 h3) (cwV 1 hts (gw_V w_3df059a5 w_710a0455 w_eea10879 w_76c797a4 w_f9f5f760) rfl rfl rfl (by decide +kernel) ⟨Nat.le_of_ble_eq_true rfl, Nat.le_of_ble_eq_true rfl⟩) (cw_preV (k := 182 + 9 * a0) (ci := 4) hK hO rfl (by have := ha0; omega) (cc_Pile ha0)) rfl rfl hl.1 rfl (lv_room (Nat.le_of_ble_eq_true rfl)) dX5_putNew_5 ⟨Nat.zero_le _, Nat.zero_le _⟩) hO (fun H locs hO => ?_)
  refine lv_if_ne (tgt := 13) hx hb dX5_putNew_8 (by decide) (fun c4 => ?_) (fun c4 => ?_)
  · have h := ite_f c4 h
    refine lv_aload_n hx hb dX5_putNew_13 rfl (lv_at hl 0 rfl) ?_
    refine gf_Rows_pile hx hb hgw iwRows hown hK hO ha0 k19 dX5_putNew_14 ?_
    refine lv_iconst (v := 0) hx hb dX5_putNew_17 (by decide) ?_
    obtain ⟨r5, st6, h7, h⟩ := bR_some h
    refine cw_calll (va_runV (As := [.int ((0 : Int32))]) (rest := []) ⟨hx, hb, hml, hown, hts⟩ (c_Pile_took l D A ad cA tb0 tb1 a0 ha0 ((0 : Int32)) st2 r5 st6 h7) (cwV 1 hts (gw_V w_6eb0be21 w_e50f7684 w_26b160a3 w_76c797a4 w_c905c078) rfl rfl rfl (by decide +kernel) ⟨Nat.le_of_ble_eq_true rfl, Nat.le_of_ble_eq_true rfl⟩) (cw_preV (k := 182 + 9 * a0) (ci := 4) hK hO rfl (by have := ha0; omega) (cc_Pile ha0)) rfl rfl hl.1 rfl (lv_room (Nat.le_of_ble_eq_true rfl)) dX5_putNew_18 ⟨Nat.zero_le _, Nat.zero_le _⟩) hO (fun H locs hO => ?_)
    refine lv_lstore_n (lv' := [(2, .long r5), (0, .ref (ad (185 + 9 * a0))), (1, .int a1)]) hx hb dX5_putNew_21 rfl hl (by decide) rfl (fun ls hl => ?_)
    refine lv_lload_n hx hb dX5_putNew_22 rfl (lv_at hl 0 rfl) ?_
    refine lv_lconst (v := 0) hx hb dX5_putNew_23 (by decide) ?_
    refine W.lcmp hx hb dX5_putNew_24 ?_
    refine lv_if_ge (tgt := 30) hx hb dX5_putNew_25 (by decide) (fun c8 => ?_) (fun c8 => ?_)
    · have h := ite_t c8 h
      refine lv_lload_n hx hb dX5_putNew_30 rfl (lv_at hl 0 rfl) ?_
      refine lv_ldc2 hx hb hown k33 dX5_putNew_31 ?_
      refine W.lcmp hx hb dX5_putNew_34 ?_
      refine lv_if_le (tgt := 41) hx hb dX5_putNew_35 (by decide) (fun c9 => ?_) (fun c9 => ?_)
      · have h := ite_t c9 h
        refine lv_aload_n hx hb dX5_putNew_41 rfl (lv_at hl 1 rfl) ?_
        refine gf_Rows_pile hx hb hgw iwRows hown hK hO ha0 k19 dX5_putNew_42 ?_
        obtain ⟨r10, st11, h12, h⟩ := bR_some h
        refine cw_calli (va_runV (As := []) (rest := []) ⟨hx, hb, hml, hown, hts⟩ (c_Pile_freeRow l D A ad cA tb0 tb1 a0 ha0 st6 r10 st11 h12) (cwV 0 hts (gw_V w_11bf5328 w_9d73c746 w_ac0097de w_76c797a4 w_fd454fa2) rfl rfl rfl (by decide +kernel) ⟨Nat.le_of_ble_eq_true rfl, Nat.le_of_ble_eq_true rfl⟩) (cw_preV (k := 182 + 9 * a0) (ci := 4) hK hO rfl (by have := ha0; omega) (cc_Pile ha0)) rfl rfl hl.1 rfl (lv_room (Nat.le_of_ble_eq_true rfl)) dX5_putNew_45 ⟨Nat.zero_le _, Nat.zero_le _⟩) hO (fun H locs hO => ?_)
        refine lv_istore (lv' := [(4, .int r10), (2, .long r5), (0, .ref (ad (185 + 9 * a0))), (1, .int a1)]) hx hb dX5_putNew_48 hl (by decide) rfl (fun ls hl => ?_)
        refine lv_iload hx hb dX5_putNew_50 (lv_at hl 0 rfl) ?_
        refine lv_if_ge (tgt := 58) hx hb dX5_putNew_52 (by decide) (fun c13 => ?_) (fun c13 => ?_)
        · have h := ite_t c13 h
          refine lv_aload_n hx hb dX5_putNew_58 rfl (lv_at hl 2 rfl) ?_
          refine gf_Rows_lengths hx hb hgw iwRows hown hK hO ha0 k15 dX5_putNew_59 ?_
          refine lv_iload hx hb dX5_putNew_62 (lv_at hl 0 rfl) ?_
          refine lv_lload_n hx hb dX5_putNew_64 rfl (lv_at hl 1 rfl) ?_
          refine lv_l2i hx hb dX5_putNew_65 rfl ?_
          obtain ⟨hc14, h⟩ := ck_some h
          refine as_Lens hx hb hK hO ha0 hc14 dX5_putNew_66 (fun H locs hO => ?_)
          refine lv_iconst (v := 0) hx hb dX5_putNew_67 (by decide) ?_
          refine lv_istore (lv' := [(5, .int ((0 : Int32))), (4, .int r10), (2, .long r5), (0, .ref (ad (185 + 9 * a0))), (1, .int a1)]) hx hb dX5_putNew_68 hl (by decide) rfl (fun ls hl => ?_)
          exact c_Rows_putNew_L70 ⟨hx, hb, hml, hown, hts⟩ hr hlocks hK r st' 17 a0 ha0 a1 r5 r10 ((0 : Int32)) _ _ _ _ h hO (lv_sub hl [3, 4, 2, 1, 0] rfl)
        · have h := ite_f c13 h
          refine lv_bipush (v := 11) hx hb dX5_putNew_55 (by decide) ?_
          obtain ⟨rfl, rfl⟩ := ret2 h; exact cw_iret hx hb hr hlocks hO dX5_putNew_57
      · have h := ite_f c9 h
        refine lv_bipush (v := 6) hx hb dX5_putNew_38 (by decide) ?_
        obtain ⟨rfl, rfl⟩ := ret2 h; exact cw_iret hx hb hr hlocks hO dX5_putNew_40
    · have h := ite_f c8 h
      refine lv_iconst (v := 5) hx hb dX5_putNew_28 (by decide) ?_
      obtain ⟨rfl, rfl⟩ := ret2 h; exact cw_iret hx hb hr hlocks hO dX5_putNew_29
  · have h := ite_t c4 h
    refine lv_iconst (v := 4) hx hb dX5_putNew_11 (by decide) ?_
    obtain ⟨rfl, rfl⟩ := ret2 h; exact cw_iret hx hb hr hlocks hO dX5_putNew_12
-- Rows putCopy
def j_Rows_putCopy (a0 : Nat) (a1 : Int32) (a2 : Nat) (a3 : Int64) (st : CwS) : Option (Int32 × CwS) :=
  bR (j_Pile_freeRow a0 st) fun r1 st2 =>
  if ((0 : Int32)) ≤ r1 then
    bR (j_Rows_lengthOf a2 a3 st2) fun r5 st6 =>
    ck (ix r1 12) <|
    ck (ix r1 12) <|
    if (gI (sI st6 20 a0 r1.toNatClampNeg r5) 20 a0 r1.toNatClampNeg) ≤ ((0 : Int32)) then
      bR (j_Pile_put a0 a1 r1.toInt64 (sI st6 20 a0 r1.toNatClampNeg r5)) fun r11 st12 =>
      some (r11, st12)
    else
      bR (j_Rows_placeOf a2 a3 ((0 : Int64)) (sI st6 20 a0 r1.toNatClampNeg r5)) fun r14 st15 =>
      bR (j_Rows_placeOf a0 r1.toInt64 ((0 : Int64)) st15) fun r17 st18 =>
      ck (ix r1 12) <|
      ck (cpk r14 r17 (gI st18 20 a0 r1.toNatClampNeg) 192 192) <|
      bR (j_Pile_put a0 a1 r1.toInt64 (cL st18 7 a2 r14.toNatClampNeg 7 a0 r17.toNatClampNeg ((gI st18 20 a0 r1.toNatClampNeg).toNatClampNeg))) fun r22 st23 =>
      some (r22, st23)
  else
    some ((11 : Int32), st2)
set_option maxHeartbeats 4000000 in
set_option maxRecDepth 100000 in
theorem c_Rows_putCopy (l : Launch) (D : va_G) (A : Nat → Prop) (ad : Nat → Nat) (cA : Nat → ClassId) (tb0 tb1 : Nat) (a0 : Nat) (ha0 : a0 < 10) (a1 : Int32) (a2 : Nat) (ha2 : a2 < 10) (a3 : Int64) (st : CwS) (r : Int32) (st' : CwS) (h : j_Rows_putCopy a0 a1 a2 a3 st = some (r, st')) : Met l yX5_putCopy (wv yX5_putCopy cX5_putCopy 7 (some .int)) ({ frames := 1, cells := 0, slots := 0, locals := 40 }) (va_Pc [.ref (ad (185 + 9 * a0)), .int a1, .ref (ad (185 + 9 * a2)), .long a3] (cwU D A ad cA tb0 tb1 st)) (cwQi D A ad cA tb0 tb1 r st') 0 0 A := by
  refine Met.ofW (cc := cX5_putCopy) (maxL := 7) (ret := some .int) (by decide) rfl ?_
  intro p e s m args below meth c s₁ B hml hv
  obtain ⟨rfl, hP, hK⟩ := hv
  have hx := B.exec
  have hb := B.bytes
  have hr := B.returns
  have hts := atoms_spec (ws := wv yX5_putCopy cX5_putCopy 7 (some .int)) B.pre
  have hown : s.vm.findClass RX5 = some m.cls := findClass_of_methodNamed B.named
  have hlocks := B.notSynchronized
  have hO : cwO D A ad cA s st s.heap [] := ⟨hP, va_S.rf⟩
  have hl := lv_entry ([.ref (ad (185 + 9 * a0)), .int a1, .ref (ad (185 + 9 * a2)), .long a3]) (n := 7) (Nat.le_of_ble_eq_true rfl)
  rw [lg_entry_eq]
  generalize (lg_sl ([.ref (ad (185 + 9 * a0)), .int a1, .ref (ad (185 + 9 * a2)), .long a3]) ++ List.replicate (7 - (lg_sl ([.ref (ad (185 + 9 * a0)), .int a1, .ref (ad (185 + 9 * a2)), .long a3])).length) Slot.unset).toArray = ls at hl ⊢
  have hl : lv_has ls 7 [(0, .ref (ad (185 + 9 * a0))), (1, .int a1), (2, .ref (ad (185 + 9 * a2))), (3, .long a3)] := hl
  have _h0 := hO
  have hgw := fun (w : Cond) (h : w ∈ gwW) => hts w (List.mem_cons_of_mem _ h)
  have k9 := hgw _ w_44bf1df9
  have k15 := hgw _ w_642cd4aa
  have k19 := hgw _ w_b00e8dcd
  have k51 := hgw _ w_2284ff03
  unfold j_Rows_putCopy at h
  refine lv_aload_n hx hb dX5_putCopy_0 rfl (lv_at hl 0 rfl) ?_
  refine gf_Rows_pile hx hb hgw iwRows hown hK hO ha0 k19 dX5_putCopy_1 ?_
  obtain ⟨r1, st2, h3, h⟩ := bR_some h
  refine cw_calli (va_runV (As := []) (rest := []) ⟨hx, hb, hml, hown, hts⟩ (c_Pile_freeRow l D A ad cA tb0 tb1 a0 ha0 st r1 st2 h3) (cwV 0 hts (gw_V w_11bf5328 w_9d73c746 w_ac0097de w_76c797a4 w_fd454fa2) rfl rfl rfl (by decide +kernel) ⟨Nat.le_of_ble_eq_true rfl, Nat.le_of_ble_eq_true rfl⟩) (cw_preV (k := 182 + 9 * a0) (ci := 4) hK hO rfl (by have := ha0; omega) (cc_Pile ha0)) rfl rfl hl.1 rfl (lv_room (Nat.le_of_ble_eq_true rfl)) dX5_putCopy_4 ⟨Nat.zero_le _, Nat.zero_le _⟩) hO (fun H locs hO => ?_)
  refine lv_istore (lv' := [(5, .int r1), (0, .ref (ad (185 + 9 * a0))), (1, .int a1), (2, .ref (ad (185 + 9 * a2))), (3, .long a3)]) hx hb dX5_putCopy_7 hl (by decide) rfl (fun ls hl => ?_)
  refine lv_iload hx hb dX5_putCopy_9 (lv_at hl 0 rfl) ?_
  refine lv_if_ge (tgt := 17) hx hb dX5_putCopy_11 (by decide) (fun c4 => ?_) (fun c4 => ?_)
  · have h := ite_t c4 h
    refine lv_aload_n hx hb dX5_putCopy_17 rfl (lv_at hl 1 rfl) ?_
    refine gf_Rows_lengths hx hb hgw iwRows hown hK hO ha0 k15 dX5_putCopy_18 ?_
    refine lv_iload hx hb dX5_putCopy_21 (lv_at hl 0 rfl) ?_
    refine lv_aload_n hx hb dX5_putCopy_23 rfl (lv_at hl 3 rfl) ?_
    refine lv_lload_n hx hb dX5_putCopy_24 rfl (lv_at hl 4 rfl) ?_
    obtain ⟨r5, st6, h7, h⟩ := bR_some h
    refine cw_calli (va_runV (As := [.long a3]) (rest := [.int r1, .ref (ad (187 + 9 * a0))]) ⟨hx, hb, hml, hown, hts⟩ (c_Rows_lengthOf l D A ad cA tb0 tb1 a2 ha2 a3 st2 r5 st6 h7) (cwV 1 hts (gw_V w_eb771c37 w_47a11451 w_e6548b4e w_8bdbd0d2 w_69ff08de) rfl rfl rfl (by decide +kernel) ⟨Nat.le_of_ble_eq_true rfl, Nat.le_of_ble_eq_true rfl⟩) (cw_preV (k := 185 + 9 * a2) (ci := 5) hK hO rfl (by have := ha2; omega) (cc_Rows ha2)) rfl rfl hl.1 rfl (lv_room (Nat.le_of_ble_eq_true rfl)) dX5_putCopy_25 ⟨Nat.zero_le _, Nat.zero_le _⟩) hO (fun H locs hO => ?_)
    obtain ⟨hc8, h⟩ := ck_some h
    refine as_Lens hx hb hK hO ha0 hc8 dX5_putCopy_28 (fun H locs hO => ?_)
    refine lv_aload_n hx hb dX5_putCopy_29 rfl (lv_at hl 1 rfl) ?_
    refine gf_Rows_lengths hx hb hgw iwRows hown hK hO ha0 k15 dX5_putCopy_30 ?_
    refine lv_iload hx hb dX5_putCopy_33 (lv_at hl 0 rfl) ?_
    obtain ⟨hc9, h⟩ := ck_some h
    refine al_Lens hx hb hK hO ha0 hc9 dX5_putCopy_35 ?_
    refine lv_if_le (tgt := 75) hx hb dX5_putCopy_36 (by decide) (fun c10 => ?_) (fun c10 => ?_)
    · have h := ite_t c10 h
      refine lv_aload_n hx hb dX5_putCopy_75 rfl (lv_at hl 1 rfl) ?_
      refine gf_Rows_pile hx hb hgw iwRows hown hK hO ha0 k19 dX5_putCopy_76 ?_
      refine lv_iload_n hx hb dX5_putCopy_79 rfl (lv_at hl 2 rfl) ?_
      refine lv_iload hx hb dX5_putCopy_80 (lv_at hl 0 rfl) ?_
      refine lv_i2l hx hb dX5_putCopy_82 rfl ?_
      obtain ⟨r11, st12, h13, h⟩ := bR_some h
      refine cw_calli (va_runV (As := [.int a1, .long r1.toInt64]) (rest := []) ⟨hx, hb, hml, hown, hts⟩ (c_Pile_put l D A ad cA tb0 tb1 a0 ha0 a1 r1.toInt64 (sI st6 20 a0 r1.toNatClampNeg r5) r11 st12 h13) (cwV 2 hts (gw_V w_4dc44149 w_d8d501aa w_46b57ea6 w_76c797a4 w_54242bcb) rfl rfl rfl (by decide +kernel) ⟨Nat.le_of_ble_eq_true rfl, Nat.le_of_ble_eq_true rfl⟩) (cw_preV (k := 182 + 9 * a0) (ci := 4) hK hO rfl (by have := ha0; omega) (cc_Pile ha0)) rfl rfl hl.1 rfl (lv_room (Nat.le_of_ble_eq_true rfl)) dX5_putCopy_83 ⟨Nat.zero_le _, Nat.zero_le _⟩) hO (fun H locs hO => ?_)
      obtain ⟨rfl, rfl⟩ := ret2 h; exact cw_iret hx hb hr hlocks hO dX5_putCopy_86
    · have h := ite_f c10 h
      refine lv_aload_n hx hb dX5_putCopy_39 rfl (lv_at hl 3 rfl) ?_
      refine lv_lload_n hx hb dX5_putCopy_40 rfl (lv_at hl 4 rfl) ?_
      refine lv_lconst (v := 0) hx hb dX5_putCopy_41 (by decide) ?_
      obtain ⟨r14, st15, h16, h⟩ := bR_some h
      refine cw_calli (va_runV (As := [.long a3, .long ((0 : Int64))]) (rest := []) ⟨hx, hb, hml, hown, hts⟩ (c_Rows_placeOf l D A ad cA tb0 tb1 a2 ha2 a3 ((0 : Int64)) (sI st6 20 a0 r1.toNatClampNeg r5) r14 st15 h16) (cwV 2 hts (gw_V w_ac50c630 w_512321e3 w_a4eb41e5 w_8bdbd0d2 w_5ae13e92) rfl rfl rfl (by decide +kernel) ⟨Nat.le_of_ble_eq_true rfl, Nat.le_of_ble_eq_true rfl⟩) (cw_preV (k := 185 + 9 * a2) (ci := 5) hK hO rfl (by have := ha2; omega) (cc_Rows ha2)) rfl rfl hl.1 rfl (lv_room (Nat.le_of_ble_eq_true rfl)) dX5_putCopy_42 ⟨Nat.zero_le _, Nat.zero_le _⟩) hO (fun H locs hO => ?_)
      refine lv_istore (lv' := [(6, .int r14), (5, .int r1), (0, .ref (ad (185 + 9 * a0))), (1, .int a1), (2, .ref (ad (185 + 9 * a2))), (3, .long a3)]) hx hb dX5_putCopy_45 hl (by decide) rfl (fun ls hl => ?_)
      refine lv_aload_n hx hb dX5_putCopy_47 rfl (lv_at hl 4 rfl) ?_
      refine gf_Rows_elements hx hb hgw iwRows hown hK hO ha2 k9 dX5_putCopy_48 ?_
      refine lv_iload hx hb dX5_putCopy_51 (lv_at hl 0 rfl) ?_
      refine lv_aload_n hx hb dX5_putCopy_53 rfl (lv_at hl 2 rfl) ?_
      refine gf_Rows_elements hx hb hgw iwRows hown hK hO ha0 k9 dX5_putCopy_54 ?_
      refine lv_aload_n hx hb dX5_putCopy_57 rfl (lv_at hl 2 rfl) ?_
      refine lv_iload hx hb dX5_putCopy_58 (lv_at hl 1 rfl) ?_
      refine lv_i2l hx hb dX5_putCopy_60 rfl ?_
      refine lv_lconst (v := 0) hx hb dX5_putCopy_61 (by decide) ?_
      obtain ⟨r17, st18, h19, h⟩ := bR_some h
      refine cw_calli (va_runV (As := [.long r1.toInt64, .long ((0 : Int64))]) (rest := [.ref (ad (186 + 9 * a0)), .int r14, .ref (ad (186 + 9 * a2))]) ⟨hx, hb, hml, hown, hts⟩ (c_Rows_placeOf l D A ad cA tb0 tb1 a0 ha0 r1.toInt64 ((0 : Int64)) st15 r17 st18 h19) (cwV 2 hts (gw_V w_ac50c630 w_512321e3 w_a4eb41e5 w_8bdbd0d2 w_5ae13e92) rfl rfl rfl (by decide +kernel) ⟨Nat.le_of_ble_eq_true rfl, Nat.le_of_ble_eq_true rfl⟩) (cw_preV (k := 185 + 9 * a0) (ci := 5) hK hO rfl (by have := ha0; omega) (cc_Rows ha0)) rfl rfl hl.1 rfl (lv_room (Nat.le_of_ble_eq_true rfl)) dX5_putCopy_62 ⟨Nat.zero_le _, Nat.zero_le _⟩) hO (fun H locs hO => ?_)
      refine lv_aload_n hx hb dX5_putCopy_65 rfl (lv_at hl 2 rfl) ?_
      refine gf_Rows_lengths hx hb hgw iwRows hown hK hO ha0 k15 dX5_putCopy_66 ?_
      refine lv_iload hx hb dX5_putCopy_69 (lv_at hl 1 rfl) ?_
      obtain ⟨hc20, h⟩ := ck_some h
      refine al_Lens hx hb hK hO ha0 hc20 dX5_putCopy_71 ?_
      obtain ⟨hc21, h⟩ := ck_some h
      refine ac_Elems_Elems hx hb (by rw [hml]; exact hl.1.symm) hown k51 (hgw _ w_a648c8f7) (hgw _ w_410d49e2) (hgw _ w_4260ffab) hK hO ha2 ha0 hc21 (Nat.le_of_ble_eq_true rfl) (Nat.le_of_ble_eq_true rfl) dX5_putCopy_72 (fun H locs hO => ?_)
      refine lv_aload_n hx hb dX5_putCopy_75 rfl (lv_at hl 2 rfl) ?_
      refine gf_Rows_pile hx hb hgw iwRows hown hK hO ha0 k19 dX5_putCopy_76 ?_
      refine lv_iload_n hx hb dX5_putCopy_79 rfl (lv_at hl 3 rfl) ?_
      refine lv_iload hx hb dX5_putCopy_80 (lv_at hl 1 rfl) ?_
      refine lv_i2l hx hb dX5_putCopy_82 rfl ?_
      obtain ⟨r22, st23, h24, h⟩ := bR_some h
      refine cw_calli (va_runV (As := [.int a1, .long r1.toInt64]) (rest := []) ⟨hx, hb, hml, hown, hts⟩ (c_Pile_put l D A ad cA tb0 tb1 a0 ha0 a1 r1.toInt64 (cL st18 7 a2 r14.toNatClampNeg 7 a0 r17.toNatClampNeg ((gI st18 20 a0 r1.toNatClampNeg).toNatClampNeg)) r22 st23 h24) (cwV 2 hts (gw_V w_4dc44149 w_d8d501aa w_46b57ea6 w_76c797a4 w_54242bcb) rfl rfl rfl (by decide +kernel) ⟨Nat.le_of_ble_eq_true rfl, Nat.le_of_ble_eq_true rfl⟩) (cw_preV (k := 182 + 9 * a0) (ci := 4) hK hO rfl (by have := ha0; omega) (cc_Pile ha0)) rfl rfl hl.1 rfl (lv_room (Nat.le_of_ble_eq_true rfl)) dX5_putCopy_83 ⟨Nat.zero_le _, Nat.zero_le _⟩) hO (fun H locs hO => ?_)
      obtain ⟨rfl, rfl⟩ := ret2 h; exact cw_iret hx hb hr hlocks hO dX5_putCopy_86
  · have h := ite_f c4 h
    refine lv_bipush (v := 11) hx hb dX5_putCopy_14 (by decide) ?_
    obtain ⟨rfl, rfl⟩ := ret2 h; exact cw_iret hx hb hr hlocks hO dX5_putCopy_16
-- Rows putElement
def j_Rows_putElement (a0 : Nat) (a1 : Int32) (st : CwS) : Option (Int32 × CwS) :=
  bR (j_Pile_tookNumber a0 ((0 : Int32)) st) fun r1 st2 =>
  if r1 = ((0 : Int32)) then
    some ((4 : Int32), st2)
  else
    bR (j_Pile_took a0 ((0 : Int32)) st2) fun r5 st6 =>
    bR (j_Pile_took a0 ((1 : Int32)) st6) fun r8 st9 =>
    bR (j_Pile_tookKind a0 ((1 : Int32)) st9) fun r11 st12 =>
    bR (j_Rows_elementFailure a0 a1 r11 r8 r5 st12) fun r14 st15 =>
    if r14 = ((0 : Int32)) then
      bR (j_Rows_placeOf a0 r8 r5 st15) fun r18 st19 =>
      ck (ix r18 192) <|
      bR (j_Pile_putNumber a0 (gL st19 7 a0 r18.toNatClampNeg) st19) fun r22 st23 =>
      some (r22, st23)
    else
      some (r14, st15)
set_option maxHeartbeats 4000000 in
set_option maxRecDepth 100000 in
theorem c_Rows_putElement (l : Launch) (D : va_G) (A : Nat → Prop) (ad : Nat → Nat) (cA : Nat → ClassId) (tb0 tb1 : Nat) (a0 : Nat) (ha0 : a0 < 10) (a1 : Int32) (st : CwS) (r : Int32) (st' : CwS) (h : j_Rows_putElement a0 a1 st = some (r, st')) : Met l yX5_putElement (wv yX5_putElement cX5_putElement 7 (some .int)) ({ frames := 2, cells := 0, slots := 0, locals := 48 }) (va_Pc [.ref (ad (185 + 9 * a0)), .int a1] (cwU D A ad cA tb0 tb1 st)) (cwQi D A ad cA tb0 tb1 r st') 0 0 A := by
  refine Met.ofW (cc := cX5_putElement) (maxL := 7) (ret := some .int) (by decide) rfl ?_
  intro p e s m args below meth c s₁ B hml hv
  obtain ⟨rfl, hP, hK⟩ := hv
  have hx := B.exec
  have hb := B.bytes
  have hr := B.returns
  have hts := atoms_spec (ws := wv yX5_putElement cX5_putElement 7 (some .int)) B.pre
  have hown : s.vm.findClass RX5 = some m.cls := findClass_of_methodNamed B.named
  have hlocks := B.notSynchronized
  have hO : cwO D A ad cA s st s.heap [] := ⟨hP, va_S.rf⟩
  have hl := lv_entry ([.ref (ad (185 + 9 * a0)), .int a1]) (n := 7) (Nat.le_of_ble_eq_true rfl)
  rw [lg_entry_eq]
  generalize (lg_sl ([.ref (ad (185 + 9 * a0)), .int a1]) ++ List.replicate (7 - (lg_sl ([.ref (ad (185 + 9 * a0)), .int a1])).length) Slot.unset).toArray = ls at hl ⊢
  have hl : lv_has ls 7 [(0, .ref (ad (185 + 9 * a0))), (1, .int a1)] := hl
  have _h0 := hO
  have hgw := fun (w : Cond) (h : w ∈ gwW) => hts w (List.mem_cons_of_mem _ h)
  have k9 := hgw _ w_44bf1df9
  have k19 := hgw _ w_b00e8dcd
  unfold j_Rows_putElement at h
  refine lv_aload_n hx hb dX5_putElement_0 rfl (lv_at hl 0 rfl) ?_
  refine gf_Rows_pile hx hb hgw iwRows hown hK hO ha0 k19 dX5_putElement_1 ?_
  refine lv_iconst (v := 0) hx hb dX5_putElement_4 (by decide) ?_
  obtain ⟨r1, st2, h3, h⟩ := bR_some h
  refine cw_calli (va_runV (As := [.int ((0 : Int32))]) (rest := []) ⟨hx, hb, hml, hown, hts⟩ (c_Pile_tookNumber l D A ad cA tb0 tb1 a0 ha0 ((0 : Int32)) st r1 st2 h3) (cwV 1 hts (gw_V w_3df059a5 w_710a0455 w_eea10879 w_76c797a4 w_f9f5f760) rfl rfl rfl (by decide +kernel) ⟨Nat.le_of_ble_eq_true rfl, Nat.le_of_ble_eq_true rfl⟩) (cw_preV (k := 182 + 9 * a0) (ci := 4) hK hO rfl (by have := ha0; omega) (cc_Pile ha0)) rfl rfl hl.1 rfl (lv_room (Nat.le_of_ble_eq_true rfl)) dX5_putElement_5 ⟨Nat.zero_le _, Nat.zero_le _⟩) hO (fun H locs hO => ?_)
  refine lv_if_ne (tgt := 13) hx hb dX5_putElement_8 (by decide) (fun c4 => ?_) (fun c4 => ?_)
  · have h := ite_f c4 h
    refine lv_aload_n hx hb dX5_putElement_13 rfl (lv_at hl 0 rfl) ?_
    refine gf_Rows_pile hx hb hgw iwRows hown hK hO ha0 k19 dX5_putElement_14 ?_
    refine lv_iconst (v := 0) hx hb dX5_putElement_17 (by decide) ?_
    obtain ⟨r5, st6, h7, h⟩ := bR_some h
    refine cw_calll (va_runV (As := [.int ((0 : Int32))]) (rest := []) ⟨hx, hb, hml, hown, hts⟩ (c_Pile_took l D A ad cA tb0 tb1 a0 ha0 ((0 : Int32)) st2 r5 st6 h7) (cwV 1 hts (gw_V w_6eb0be21 w_e50f7684 w_26b160a3 w_76c797a4 w_c905c078) rfl rfl rfl (by decide +kernel) ⟨Nat.le_of_ble_eq_true rfl, Nat.le_of_ble_eq_true rfl⟩) (cw_preV (k := 182 + 9 * a0) (ci := 4) hK hO rfl (by have := ha0; omega) (cc_Pile ha0)) rfl rfl hl.1 rfl (lv_room (Nat.le_of_ble_eq_true rfl)) dX5_putElement_18 ⟨Nat.zero_le _, Nat.zero_le _⟩) hO (fun H locs hO => ?_)
    refine lv_lstore_n (lv' := [(2, .long r5), (0, .ref (ad (185 + 9 * a0))), (1, .int a1)]) hx hb dX5_putElement_21 rfl hl (by decide) rfl (fun ls hl => ?_)
    refine lv_aload_n hx hb dX5_putElement_22 rfl (lv_at hl 1 rfl) ?_
    refine gf_Rows_pile hx hb hgw iwRows hown hK hO ha0 k19 dX5_putElement_23 ?_
    refine lv_iconst (v := 1) hx hb dX5_putElement_26 (by decide) ?_
    obtain ⟨r8, st9, h10, h⟩ := bR_some h
    refine cw_calll (va_runV (As := [.int ((1 : Int32))]) (rest := []) ⟨hx, hb, hml, hown, hts⟩ (c_Pile_took l D A ad cA tb0 tb1 a0 ha0 ((1 : Int32)) st6 r8 st9 h10) (cwV 1 hts (gw_V w_6eb0be21 w_e50f7684 w_26b160a3 w_76c797a4 w_c905c078) rfl rfl rfl (by decide +kernel) ⟨Nat.le_of_ble_eq_true rfl, Nat.le_of_ble_eq_true rfl⟩) (cw_preV (k := 182 + 9 * a0) (ci := 4) hK hO rfl (by have := ha0; omega) (cc_Pile ha0)) rfl rfl hl.1 rfl (lv_room (Nat.le_of_ble_eq_true rfl)) dX5_putElement_27 ⟨Nat.zero_le _, Nat.zero_le _⟩) hO (fun H locs hO => ?_)
    refine lv_lstore (lv' := [(4, .long r8), (2, .long r5), (0, .ref (ad (185 + 9 * a0))), (1, .int a1)]) hx hb dX5_putElement_30 hl (by decide) rfl (fun ls hl => ?_)
    refine lv_aload_n hx hb dX5_putElement_32 rfl (lv_at hl 2 rfl) ?_
    refine lv_iload_n hx hb dX5_putElement_33 rfl (lv_at hl 3 rfl) ?_
    refine lv_aload_n hx hb dX5_putElement_34 rfl (lv_at hl 2 rfl) ?_
    refine gf_Rows_pile hx hb hgw iwRows hown hK hO ha0 k19 dX5_putElement_35 ?_
    refine lv_iconst (v := 1) hx hb dX5_putElement_38 (by decide) ?_
    obtain ⟨r11, st12, h13, h⟩ := bR_some h
    refine cw_calli (va_runV (As := [.int ((1 : Int32))]) (rest := [.int a1, .ref (ad (185 + 9 * a0))]) ⟨hx, hb, hml, hown, hts⟩ (c_Pile_tookKind l D A ad cA tb0 tb1 a0 ha0 ((1 : Int32)) st9 r11 st12 h13) (cwV 1 hts (gw_V w_cdb175cb w_5c9fe01c w_ceab1f00 w_76c797a4 w_72af167e) rfl rfl rfl (by decide +kernel) ⟨Nat.le_of_ble_eq_true rfl, Nat.le_of_ble_eq_true rfl⟩) (cw_preV (k := 182 + 9 * a0) (ci := 4) hK hO rfl (by have := ha0; omega) (cc_Pile ha0)) rfl rfl hl.1 rfl (lv_room (Nat.le_of_ble_eq_true rfl)) dX5_putElement_39 ⟨Nat.zero_le _, Nat.zero_le _⟩) hO (fun H locs hO => ?_)
    refine lv_lload hx hb dX5_putElement_42 (lv_at hl 0 rfl) ?_
    refine lv_lload_n hx hb dX5_putElement_44 rfl (lv_at hl 1 rfl) ?_
    obtain ⟨r14, st15, h16, h⟩ := bR_some h
    refine cw_calli (va_runV (As := [.int a1, .int r11, .long r8, .long r5]) (rest := []) ⟨hx, hb, hml, hown, hts⟩ (c_Rows_elementFailure l D A ad cA tb0 tb1 a0 ha0 a1 r11 r8 r5 st12 r14 st15 h16) (cwV 4 hts (gw_V w_c19e7088 w_09edf06d w_5790b627 w_8bdbd0d2 w_cb51ae7a) rfl rfl rfl (by decide +kernel) ⟨Nat.le_of_ble_eq_true rfl, Nat.le_of_ble_eq_true rfl⟩) (cw_preV (k := 185 + 9 * a0) (ci := 5) hK hO rfl (by have := ha0; omega) (cc_Rows ha0)) rfl rfl hl.1 rfl (lv_room (Nat.le_of_ble_eq_true rfl)) dX5_putElement_45 ⟨Nat.zero_le _, Nat.zero_le _⟩) hO (fun H locs hO => ?_)
    refine lv_istore (lv' := [(6, .int r14), (4, .long r8), (2, .long r5), (0, .ref (ad (185 + 9 * a0))), (1, .int a1)]) hx hb dX5_putElement_48 hl (by decide) rfl (fun ls hl => ?_)
    refine lv_iload hx hb dX5_putElement_50 (lv_at hl 0 rfl) ?_
    refine lv_if_ne (tgt := 77) hx hb dX5_putElement_52 (by decide) (fun c17 => ?_) (fun c17 => ?_)
    · have h := ite_f c17 h
      refine lv_iload hx hb dX5_putElement_77 (lv_at hl 0 rfl) ?_
      obtain ⟨rfl, rfl⟩ := ret2 h; exact cw_iret hx hb hr hlocks hO dX5_putElement_79
    · have h := ite_t c17 h
      refine lv_aload_n hx hb dX5_putElement_55 rfl (lv_at hl 3 rfl) ?_
      refine gf_Rows_pile hx hb hgw iwRows hown hK hO ha0 k19 dX5_putElement_56 ?_
      refine lv_aload_n hx hb dX5_putElement_59 rfl (lv_at hl 3 rfl) ?_
      refine gf_Rows_elements hx hb hgw iwRows hown hK hO ha0 k9 dX5_putElement_60 ?_
      refine lv_aload_n hx hb dX5_putElement_63 rfl (lv_at hl 3 rfl) ?_
      refine lv_lload hx hb dX5_putElement_64 (lv_at hl 1 rfl) ?_
      refine lv_lload_n hx hb dX5_putElement_66 rfl (lv_at hl 2 rfl) ?_
      obtain ⟨r18, st19, h20, h⟩ := bR_some h
      refine cw_calli (va_runV (As := [.long r8, .long r5]) (rest := [.ref (ad (186 + 9 * a0)), .ref (ad (182 + 9 * a0))]) ⟨hx, hb, hml, hown, hts⟩ (c_Rows_placeOf l D A ad cA tb0 tb1 a0 ha0 r8 r5 st15 r18 st19 h20) (cwV 2 hts (gw_V w_ac50c630 w_512321e3 w_a4eb41e5 w_8bdbd0d2 w_5ae13e92) rfl rfl rfl (by decide +kernel) ⟨Nat.le_of_ble_eq_true rfl, Nat.le_of_ble_eq_true rfl⟩) (cw_preV (k := 185 + 9 * a0) (ci := 5) hK hO rfl (by have := ha0; omega) (cc_Rows ha0)) rfl rfl hl.1 rfl (lv_room (Nat.le_of_ble_eq_true rfl)) dX5_putElement_67 ⟨Nat.zero_le _, Nat.zero_le _⟩) hO (fun H locs hO => ?_)
      obtain ⟨hc21, h⟩ := ck_some h
      refine al_Elems hx hb hK hO ha0 hc21 dX5_putElement_70 ?_
      obtain ⟨r22, st23, h24, h⟩ := bR_some h
      refine cw_calli (va_runV (As := [.long (gL st19 7 a0 r18.toNatClampNeg)]) (rest := []) ⟨hx, hb, hml, hown, hts⟩ (c_Pile_putNumber l D A ad cA tb0 tb1 a0 ha0 (gL st19 7 a0 r18.toNatClampNeg) st19 r22 st23 h24) (cwV 1 hts (gw_V w_81d1523b w_34c9ad22 w_9e5e849e w_76c797a4 w_03086df0) rfl rfl rfl (by decide +kernel) ⟨Nat.le_of_ble_eq_true rfl, Nat.le_of_ble_eq_true rfl⟩) (cw_preV (k := 182 + 9 * a0) (ci := 4) hK hO rfl (by have := ha0; omega) (cc_Pile ha0)) rfl rfl hl.1 rfl (lv_room (Nat.le_of_ble_eq_true rfl)) dX5_putElement_71 ⟨Nat.zero_le _, Nat.zero_le _⟩) hO (fun H locs hO => ?_)
      refine lv_goto (tgt := 79) hx hb dX5_putElement_74 (by decide) ?_
      obtain ⟨rfl, rfl⟩ := ret2 h; exact cw_iret hx hb hr hlocks hO dX5_putElement_79
  · have h := ite_t c4 h
    refine lv_iconst (v := 4) hx hb dX5_putElement_11 (by decide) ?_
    obtain ⟨rfl, rfl⟩ := ret2 h; exact cw_iret hx hb hr hlocks hO dX5_putElement_12
-- Rows changeElement
def j_Rows_changeElement (a0 : Nat) (a1 : Int32) (st : CwS) : Option (Int32 × CwS) :=
  bR (j_Pile_tookNumber a0 ((0 : Int32)) st) fun r1 st2 =>
  if r1 = ((0 : Int32)) then
    some ((4 : Int32), st2)
  else
    bR (j_Pile_tookNumber a0 ((1 : Int32)) st2) fun r5 st6 =>
    if r5 = ((0 : Int32)) then
      some ((4 : Int32), st6)
    else
      bR (j_Pile_took a0 ((0 : Int32)) st6) fun r9 st10 =>
      bR (j_Pile_took a0 ((1 : Int32)) st10) fun r12 st13 =>
      bR (j_Pile_took a0 ((2 : Int32)) st13) fun r15 st16 =>
      bR (j_Pile_tookKind a0 ((2 : Int32)) st16) fun r18 st19 =>
      bR (j_Rows_elementFailure a0 a1 r18 r15 r12 st19) fun r21 st22 =>
      if r21 = ((0 : Int32)) then
        bR (j_Rows_placeOf a0 r15 r12 st22) fun r25 st26 =>
        if a1 = ((2 : Int32)) then
          ck (ix r25 192) <|
          some (r21, sL st26 7 a0 r25.toNatClampNeg r9.toInt32.toInt64)
        else
          ck (ix r25 192) <|
          some (r21, sL st26 7 a0 r25.toNatClampNeg r9)
      else
        some (r21, st22)
set_option maxHeartbeats 4000000 in
set_option maxRecDepth 100000 in
theorem c_Rows_changeElement (l : Launch) (D : va_G) (A : Nat → Prop) (ad : Nat → Nat) (cA : Nat → ClassId) (tb0 tb1 : Nat) (a0 : Nat) (ha0 : a0 < 10) (a1 : Int32) (st : CwS) (r : Int32) (st' : CwS) (h : j_Rows_changeElement a0 a1 st = some (r, st')) : Met l yX5_changeElement (wv yX5_changeElement cX5_changeElement 9 (some .int)) ({ frames := 2, cells := 0, slots := 0, locals := 48 }) (va_Pc [.ref (ad (185 + 9 * a0)), .int a1] (cwU D A ad cA tb0 tb1 st)) (cwQi D A ad cA tb0 tb1 r st') 0 0 A := by
  refine Met.ofW (cc := cX5_changeElement) (maxL := 9) (ret := some .int) (by decide) rfl ?_
  intro p e s m args below meth c s₁ B hml hv
  obtain ⟨rfl, hP, hK⟩ := hv
  have hx := B.exec
  have hb := B.bytes
  have hr := B.returns
  have hts := atoms_spec (ws := wv yX5_changeElement cX5_changeElement 9 (some .int)) B.pre
  have hown : s.vm.findClass RX5 = some m.cls := findClass_of_methodNamed B.named
  have hlocks := B.notSynchronized
  have hO : cwO D A ad cA s st s.heap [] := ⟨hP, va_S.rf⟩
  have hl := lv_entry ([.ref (ad (185 + 9 * a0)), .int a1]) (n := 9) (Nat.le_of_ble_eq_true rfl)
  rw [lg_entry_eq]
  generalize (lg_sl ([.ref (ad (185 + 9 * a0)), .int a1]) ++ List.replicate (9 - (lg_sl ([.ref (ad (185 + 9 * a0)), .int a1])).length) Slot.unset).toArray = ls at hl ⊢
  have hl : lv_has ls 9 [(0, .ref (ad (185 + 9 * a0))), (1, .int a1)] := hl
  have _h0 := hO
  have hgw := fun (w : Cond) (h : w ∈ gwW) => hts w (List.mem_cons_of_mem _ h)
  have k9 := hgw _ w_44bf1df9
  have k19 := hgw _ w_b00e8dcd
  unfold j_Rows_changeElement at h
  refine lv_aload_n hx hb dX5_changeElement_0 rfl (lv_at hl 0 rfl) ?_
  refine gf_Rows_pile hx hb hgw iwRows hown hK hO ha0 k19 dX5_changeElement_1 ?_
  refine lv_iconst (v := 0) hx hb dX5_changeElement_4 (by decide) ?_
  obtain ⟨r1, st2, h3, h⟩ := bR_some h
  refine cw_calli (va_runV (As := [.int ((0 : Int32))]) (rest := []) ⟨hx, hb, hml, hown, hts⟩ (c_Pile_tookNumber l D A ad cA tb0 tb1 a0 ha0 ((0 : Int32)) st r1 st2 h3) (cwV 1 hts (gw_V w_3df059a5 w_710a0455 w_eea10879 w_76c797a4 w_f9f5f760) rfl rfl rfl (by decide +kernel) ⟨Nat.le_of_ble_eq_true rfl, Nat.le_of_ble_eq_true rfl⟩) (cw_preV (k := 182 + 9 * a0) (ci := 4) hK hO rfl (by have := ha0; omega) (cc_Pile ha0)) rfl rfl hl.1 rfl (lv_room (Nat.le_of_ble_eq_true rfl)) dX5_changeElement_5 ⟨Nat.zero_le _, Nat.zero_le _⟩) hO (fun H locs hO => ?_)
  refine lv_if_eq (tgt := 22) hx hb dX5_changeElement_8 (by decide) (fun c4 => ?_) (fun c4 => ?_)
  · have h := ite_t c4 h
    refine lv_iconst (v := 4) hx hb dX5_changeElement_22 (by decide) ?_
    obtain ⟨rfl, rfl⟩ := ret2 h; exact cw_iret hx hb hr hlocks hO dX5_changeElement_23
  · have h := ite_f c4 h
    refine lv_aload_n hx hb dX5_changeElement_11 rfl (lv_at hl 0 rfl) ?_
    refine gf_Rows_pile hx hb hgw iwRows hown hK hO ha0 k19 dX5_changeElement_12 ?_
    refine lv_iconst (v := 1) hx hb dX5_changeElement_15 (by decide) ?_
    obtain ⟨r5, st6, h7, h⟩ := bR_some h
    refine cw_calli (va_runV (As := [.int ((1 : Int32))]) (rest := []) ⟨hx, hb, hml, hown, hts⟩ (c_Pile_tookNumber l D A ad cA tb0 tb1 a0 ha0 ((1 : Int32)) st2 r5 st6 h7) (cwV 1 hts (gw_V w_3df059a5 w_710a0455 w_eea10879 w_76c797a4 w_f9f5f760) rfl rfl rfl (by decide +kernel) ⟨Nat.le_of_ble_eq_true rfl, Nat.le_of_ble_eq_true rfl⟩) (cw_preV (k := 182 + 9 * a0) (ci := 4) hK hO rfl (by have := ha0; omega) (cc_Pile ha0)) rfl rfl hl.1 rfl (lv_room (Nat.le_of_ble_eq_true rfl)) dX5_changeElement_16 ⟨Nat.zero_le _, Nat.zero_le _⟩) hO (fun H locs hO => ?_)
    refine lv_if_ne (tgt := 24) hx hb dX5_changeElement_19 (by decide) (fun c8 => ?_) (fun c8 => ?_)
    · have h := ite_f c8 h
      refine lv_aload_n hx hb dX5_changeElement_24 rfl (lv_at hl 0 rfl) ?_
      refine gf_Rows_pile hx hb hgw iwRows hown hK hO ha0 k19 dX5_changeElement_25 ?_
      refine lv_iconst (v := 0) hx hb dX5_changeElement_28 (by decide) ?_
      obtain ⟨r9, st10, h11, h⟩ := bR_some h
      refine cw_calll (va_runV (As := [.int ((0 : Int32))]) (rest := []) ⟨hx, hb, hml, hown, hts⟩ (c_Pile_took l D A ad cA tb0 tb1 a0 ha0 ((0 : Int32)) st6 r9 st10 h11) (cwV 1 hts (gw_V w_6eb0be21 w_e50f7684 w_26b160a3 w_76c797a4 w_c905c078) rfl rfl rfl (by decide +kernel) ⟨Nat.le_of_ble_eq_true rfl, Nat.le_of_ble_eq_true rfl⟩) (cw_preV (k := 182 + 9 * a0) (ci := 4) hK hO rfl (by have := ha0; omega) (cc_Pile ha0)) rfl rfl hl.1 rfl (lv_room (Nat.le_of_ble_eq_true rfl)) dX5_changeElement_29 ⟨Nat.zero_le _, Nat.zero_le _⟩) hO (fun H locs hO => ?_)
      refine lv_lstore_n (lv' := [(2, .long r9), (0, .ref (ad (185 + 9 * a0))), (1, .int a1)]) hx hb dX5_changeElement_32 rfl hl (by decide) rfl (fun ls hl => ?_)
      refine lv_aload_n hx hb dX5_changeElement_33 rfl (lv_at hl 1 rfl) ?_
      refine gf_Rows_pile hx hb hgw iwRows hown hK hO ha0 k19 dX5_changeElement_34 ?_
      refine lv_iconst (v := 1) hx hb dX5_changeElement_37 (by decide) ?_
      obtain ⟨r12, st13, h14, h⟩ := bR_some h
      refine cw_calll (va_runV (As := [.int ((1 : Int32))]) (rest := []) ⟨hx, hb, hml, hown, hts⟩ (c_Pile_took l D A ad cA tb0 tb1 a0 ha0 ((1 : Int32)) st10 r12 st13 h14) (cwV 1 hts (gw_V w_6eb0be21 w_e50f7684 w_26b160a3 w_76c797a4 w_c905c078) rfl rfl rfl (by decide +kernel) ⟨Nat.le_of_ble_eq_true rfl, Nat.le_of_ble_eq_true rfl⟩) (cw_preV (k := 182 + 9 * a0) (ci := 4) hK hO rfl (by have := ha0; omega) (cc_Pile ha0)) rfl rfl hl.1 rfl (lv_room (Nat.le_of_ble_eq_true rfl)) dX5_changeElement_38 ⟨Nat.zero_le _, Nat.zero_le _⟩) hO (fun H locs hO => ?_)
      refine lv_lstore (lv' := [(4, .long r12), (2, .long r9), (0, .ref (ad (185 + 9 * a0))), (1, .int a1)]) hx hb dX5_changeElement_41 hl (by decide) rfl (fun ls hl => ?_)
      refine lv_aload_n hx hb dX5_changeElement_43 rfl (lv_at hl 2 rfl) ?_
      refine gf_Rows_pile hx hb hgw iwRows hown hK hO ha0 k19 dX5_changeElement_44 ?_
      refine lv_iconst (v := 2) hx hb dX5_changeElement_47 (by decide) ?_
      obtain ⟨r15, st16, h17, h⟩ := bR_some h
      refine cw_calll (va_runV (As := [.int ((2 : Int32))]) (rest := []) ⟨hx, hb, hml, hown, hts⟩ (c_Pile_took l D A ad cA tb0 tb1 a0 ha0 ((2 : Int32)) st13 r15 st16 h17) (cwV 1 hts (gw_V w_6eb0be21 w_e50f7684 w_26b160a3 w_76c797a4 w_c905c078) rfl rfl rfl (by decide +kernel) ⟨Nat.le_of_ble_eq_true rfl, Nat.le_of_ble_eq_true rfl⟩) (cw_preV (k := 182 + 9 * a0) (ci := 4) hK hO rfl (by have := ha0; omega) (cc_Pile ha0)) rfl rfl hl.1 rfl (lv_room (Nat.le_of_ble_eq_true rfl)) dX5_changeElement_48 ⟨Nat.zero_le _, Nat.zero_le _⟩) hO (fun H locs hO => ?_)
      refine lv_lstore (lv' := [(6, .long r15), (4, .long r12), (2, .long r9), (0, .ref (ad (185 + 9 * a0))), (1, .int a1)]) hx hb dX5_changeElement_51 hl (by decide) rfl (fun ls hl => ?_)
      refine lv_aload_n hx hb dX5_changeElement_53 rfl (lv_at hl 3 rfl) ?_
      refine lv_iload_n hx hb dX5_changeElement_54 rfl (lv_at hl 4 rfl) ?_
      refine lv_aload_n hx hb dX5_changeElement_55 rfl (lv_at hl 3 rfl) ?_
      refine gf_Rows_pile hx hb hgw iwRows hown hK hO ha0 k19 dX5_changeElement_56 ?_
      refine lv_iconst (v := 2) hx hb dX5_changeElement_59 (by decide) ?_
      obtain ⟨r18, st19, h20, h⟩ := bR_some h
      refine cw_calli (va_runV (As := [.int ((2 : Int32))]) (rest := [.int a1, .ref (ad (185 + 9 * a0))]) ⟨hx, hb, hml, hown, hts⟩ (c_Pile_tookKind l D A ad cA tb0 tb1 a0 ha0 ((2 : Int32)) st16 r18 st19 h20) (cwV 1 hts (gw_V w_cdb175cb w_5c9fe01c w_ceab1f00 w_76c797a4 w_72af167e) rfl rfl rfl (by decide +kernel) ⟨Nat.le_of_ble_eq_true rfl, Nat.le_of_ble_eq_true rfl⟩) (cw_preV (k := 182 + 9 * a0) (ci := 4) hK hO rfl (by have := ha0; omega) (cc_Pile ha0)) rfl rfl hl.1 rfl (lv_room (Nat.le_of_ble_eq_true rfl)) dX5_changeElement_60 ⟨Nat.zero_le _, Nat.zero_le _⟩) hO (fun H locs hO => ?_)
      refine lv_lload hx hb dX5_changeElement_63 (lv_at hl 0 rfl) ?_
      refine lv_lload hx hb dX5_changeElement_65 (lv_at hl 1 rfl) ?_
      obtain ⟨r21, st22, h23, h⟩ := bR_some h
      refine cw_calli (va_runV (As := [.int a1, .int r18, .long r15, .long r12]) (rest := []) ⟨hx, hb, hml, hown, hts⟩ (c_Rows_elementFailure l D A ad cA tb0 tb1 a0 ha0 a1 r18 r15 r12 st19 r21 st22 h23) (cwV 4 hts (gw_V w_c19e7088 w_09edf06d w_5790b627 w_8bdbd0d2 w_cb51ae7a) rfl rfl rfl (by decide +kernel) ⟨Nat.le_of_ble_eq_true rfl, Nat.le_of_ble_eq_true rfl⟩) (cw_preV (k := 185 + 9 * a0) (ci := 5) hK hO rfl (by have := ha0; omega) (cc_Rows ha0)) rfl rfl hl.1 rfl (lv_room (Nat.le_of_ble_eq_true rfl)) dX5_changeElement_67 ⟨Nat.zero_le _, Nat.zero_le _⟩) hO (fun H locs hO => ?_)
      refine lv_istore (lv' := [(8, .int r21), (6, .long r15), (4, .long r12), (2, .long r9), (0, .ref (ad (185 + 9 * a0))), (1, .int a1)]) hx hb dX5_changeElement_70 hl (by decide) rfl (fun ls hl => ?_)
      refine lv_iload hx hb dX5_changeElement_72 (lv_at hl 0 rfl) ?_
      refine lv_if_ne (tgt := 102) hx hb dX5_changeElement_74 (by decide) (fun c24 => ?_) (fun c24 => ?_)
      · have h := ite_f c24 h
        refine lv_iload hx hb dX5_changeElement_102 (lv_at hl 0 rfl) ?_
        obtain ⟨rfl, rfl⟩ := ret2 h; exact cw_iret hx hb hr hlocks hO dX5_changeElement_104
      · have h := ite_t c24 h
        refine lv_aload_n hx hb dX5_changeElement_77 rfl (lv_at hl 4 rfl) ?_
        refine gf_Rows_elements hx hb hgw iwRows hown hK hO ha0 k9 dX5_changeElement_78 ?_
        refine lv_aload_n hx hb dX5_changeElement_81 rfl (lv_at hl 4 rfl) ?_
        refine lv_lload hx hb dX5_changeElement_82 (lv_at hl 1 rfl) ?_
        refine lv_lload hx hb dX5_changeElement_84 (lv_at hl 2 rfl) ?_
        obtain ⟨r25, st26, h27, h⟩ := bR_some h
        refine cw_calli (va_runV (As := [.long r15, .long r12]) (rest := [.ref (ad (186 + 9 * a0))]) ⟨hx, hb, hml, hown, hts⟩ (c_Rows_placeOf l D A ad cA tb0 tb1 a0 ha0 r15 r12 st22 r25 st26 h27) (cwV 2 hts (gw_V w_ac50c630 w_512321e3 w_a4eb41e5 w_8bdbd0d2 w_5ae13e92) rfl rfl rfl (by decide +kernel) ⟨Nat.le_of_ble_eq_true rfl, Nat.le_of_ble_eq_true rfl⟩) (cw_preV (k := 185 + 9 * a0) (ci := 5) hK hO rfl (by have := ha0; omega) (cc_Rows ha0)) rfl rfl hl.1 rfl (lv_room (Nat.le_of_ble_eq_true rfl)) dX5_changeElement_86 ⟨Nat.zero_le _, Nat.zero_le _⟩) hO (fun H locs hO => ?_)
        refine lv_iload_n hx hb dX5_changeElement_89 rfl (lv_at hl 5 rfl) ?_
        refine lv_iconst (v := 2) hx hb dX5_changeElement_90 (by decide) ?_
        refine lv_icmp_ne (tgt := 100) hx hb dX5_changeElement_91 (by decide) (fun c28 => ?_) (fun c28 => ?_)
        · have h := ite_f c28 h
          refine lv_lload_n hx hb dX5_changeElement_100 rfl (lv_at hl 3 rfl) ?_
          obtain ⟨hc29, h⟩ := ck_some h
          refine as_Elems hx hb hK hO ha0 hc29 dX5_changeElement_101 (fun H locs hO => ?_)
          refine lv_iload hx hb dX5_changeElement_102 (lv_at hl 0 rfl) ?_
          obtain ⟨rfl, rfl⟩ := ret2 h; exact cw_iret hx hb hr hlocks hO dX5_changeElement_104
        · have h := ite_t c28 h
          refine lv_lload_n hx hb dX5_changeElement_94 rfl (lv_at hl 3 rfl) ?_
          refine lv_l2i hx hb dX5_changeElement_95 rfl ?_
          refine lv_i2l hx hb dX5_changeElement_96 rfl ?_
          refine lv_goto (tgt := 101) hx hb dX5_changeElement_97 (by decide) ?_
          obtain ⟨hc30, h⟩ := ck_some h
          refine as_Elems hx hb hK hO ha0 hc30 dX5_changeElement_101 (fun H locs hO => ?_)
          refine lv_iload hx hb dX5_changeElement_102 (lv_at hl 0 rfl) ?_
          obtain ⟨rfl, rfl⟩ := ret2 h; exact cw_iret hx hb hr hlocks hO dX5_changeElement_104
    · have h := ite_t c8 h
      refine lv_iconst (v := 4) hx hb dX5_changeElement_22 (by decide) ?_
      obtain ⟨rfl, rfl⟩ := ret2 h; exact cw_iret hx hb hr hlocks hO dX5_changeElement_23
-- Rows putLength
def j_Rows_putLength (a0 : Nat) (st : CwS) : Option (Int32 × CwS) :=
  bR (j_Pile_tookKind a0 ((0 : Int32)) st) fun r1 st2 =>
  if r1 = ((3 : Int32)) then
    some ((2 : Int32), st2)
  else
    bR (j_Pile_tookNumber a0 ((0 : Int32)) st2) fun r5 st6 =>
    if r5 = ((0 : Int32)) then
      bR (j_Pile_took a0 ((0 : Int32)) st6) fun r9 st10 =>
      bR (j_Rows_lengthOf a0 r9 st10) fun r12 st13 =>
      bR (j_Pile_putNumber a0 r12.toInt64 st13) fun r15 st16 =>
      some (r15, st16)
    else
      some ((4 : Int32), st6)
set_option maxHeartbeats 4000000 in
set_option maxRecDepth 100000 in
theorem c_Rows_putLength (l : Launch) (D : va_G) (A : Nat → Prop) (ad : Nat → Nat) (cA : Nat → ClassId) (tb0 tb1 : Nat) (a0 : Nat) (ha0 : a0 < 10) (st : CwS) (r : Int32) (st' : CwS) (h : j_Rows_putLength a0 st = some (r, st')) : Met l yX5_putLength (wv yX5_putLength cX5_putLength 1 (some .int)) ({ frames := 2, cells := 0, slots := 0, locals := 45 }) (va_Pc [.ref (ad (185 + 9 * a0))] (cwU D A ad cA tb0 tb1 st)) (cwQi D A ad cA tb0 tb1 r st') 0 0 A := by
  refine Met.ofW (cc := cX5_putLength) (maxL := 1) (ret := some .int) (by decide) rfl ?_
  intro p e s m args below meth c s₁ B hml hv
  obtain ⟨rfl, hP, hK⟩ := hv
  have hx := B.exec
  have hb := B.bytes
  have hr := B.returns
  have hts := atoms_spec (ws := wv yX5_putLength cX5_putLength 1 (some .int)) B.pre
  have hown : s.vm.findClass RX5 = some m.cls := findClass_of_methodNamed B.named
  have hlocks := B.notSynchronized
  have hO : cwO D A ad cA s st s.heap [] := ⟨hP, va_S.rf⟩
  have hl := lv_entry ([.ref (ad (185 + 9 * a0))]) (n := 1) (Nat.le_of_ble_eq_true rfl)
  rw [lg_entry_eq]
  generalize (lg_sl ([.ref (ad (185 + 9 * a0))]) ++ List.replicate (1 - (lg_sl ([.ref (ad (185 + 9 * a0))])).length) Slot.unset).toArray = ls at hl ⊢
  have hl : lv_has ls 1 [(0, .ref (ad (185 + 9 * a0)))] := hl
  have _h0 := hO
  have hgw := fun (w : Cond) (h : w ∈ gwW) => hts w (List.mem_cons_of_mem _ h)
  have k19 := hgw _ w_b00e8dcd
  unfold j_Rows_putLength at h
  refine lv_aload_n hx hb dX5_putLength_0 rfl (lv_at hl 0 rfl) ?_
  refine gf_Rows_pile hx hb hgw iwRows hown hK hO ha0 k19 dX5_putLength_1 ?_
  refine lv_iconst (v := 0) hx hb dX5_putLength_4 (by decide) ?_
  obtain ⟨r1, st2, h3, h⟩ := bR_some h
  refine cw_calli (va_runV (As := [.int ((0 : Int32))]) (rest := []) ⟨hx, hb, hml, hown, hts⟩ (c_Pile_tookKind l D A ad cA tb0 tb1 a0 ha0 ((0 : Int32)) st r1 st2 h3) (cwV 1 hts (gw_V w_cdb175cb w_5c9fe01c w_ceab1f00 w_76c797a4 w_72af167e) rfl rfl rfl (by decide +kernel) ⟨Nat.le_of_ble_eq_true rfl, Nat.le_of_ble_eq_true rfl⟩) (cw_preV (k := 182 + 9 * a0) (ci := 4) hK hO rfl (by have := ha0; omega) (cc_Pile ha0)) rfl rfl hl.1 rfl (lv_room (Nat.le_of_ble_eq_true rfl)) dX5_putLength_5 ⟨Nat.zero_le _, Nat.zero_le _⟩) hO (fun H locs hO => ?_)
  refine lv_iconst (v := 3) hx hb dX5_putLength_8 (by decide) ?_
  refine lv_icmp_ne (tgt := 14) hx hb dX5_putLength_9 (by decide) (fun c4 => ?_) (fun c4 => ?_)
  · have h := ite_f c4 h
    refine lv_aload_n hx hb dX5_putLength_14 rfl (lv_at hl 0 rfl) ?_
    refine gf_Rows_pile hx hb hgw iwRows hown hK hO ha0 k19 dX5_putLength_15 ?_
    refine lv_iconst (v := 0) hx hb dX5_putLength_18 (by decide) ?_
    obtain ⟨r5, st6, h7, h⟩ := bR_some h
    refine cw_calli (va_runV (As := [.int ((0 : Int32))]) (rest := []) ⟨hx, hb, hml, hown, hts⟩ (c_Pile_tookNumber l D A ad cA tb0 tb1 a0 ha0 ((0 : Int32)) st2 r5 st6 h7) (cwV 1 hts (gw_V w_3df059a5 w_710a0455 w_eea10879 w_76c797a4 w_f9f5f760) rfl rfl rfl (by decide +kernel) ⟨Nat.le_of_ble_eq_true rfl, Nat.le_of_ble_eq_true rfl⟩) (cw_preV (k := 182 + 9 * a0) (ci := 4) hK hO rfl (by have := ha0; omega) (cc_Pile ha0)) rfl rfl hl.1 rfl (lv_room (Nat.le_of_ble_eq_true rfl)) dX5_putLength_19 ⟨Nat.zero_le _, Nat.zero_le _⟩) hO (fun H locs hO => ?_)
    refine lv_if_eq (tgt := 27) hx hb dX5_putLength_22 (by decide) (fun c8 => ?_) (fun c8 => ?_)
    · have h := ite_t c8 h
      refine lv_aload_n hx hb dX5_putLength_27 rfl (lv_at hl 0 rfl) ?_
      refine gf_Rows_pile hx hb hgw iwRows hown hK hO ha0 k19 dX5_putLength_28 ?_
      refine lv_aload_n hx hb dX5_putLength_31 rfl (lv_at hl 0 rfl) ?_
      refine lv_aload_n hx hb dX5_putLength_32 rfl (lv_at hl 0 rfl) ?_
      refine gf_Rows_pile hx hb hgw iwRows hown hK hO ha0 k19 dX5_putLength_33 ?_
      refine lv_iconst (v := 0) hx hb dX5_putLength_36 (by decide) ?_
      obtain ⟨r9, st10, h11, h⟩ := bR_some h
      refine cw_calll (va_runV (As := [.int ((0 : Int32))]) (rest := [.ref (ad (185 + 9 * a0)), .ref (ad (182 + 9 * a0))]) ⟨hx, hb, hml, hown, hts⟩ (c_Pile_took l D A ad cA tb0 tb1 a0 ha0 ((0 : Int32)) st6 r9 st10 h11) (cwV 1 hts (gw_V w_6eb0be21 w_e50f7684 w_26b160a3 w_76c797a4 w_c905c078) rfl rfl rfl (by decide +kernel) ⟨Nat.le_of_ble_eq_true rfl, Nat.le_of_ble_eq_true rfl⟩) (cw_preV (k := 182 + 9 * a0) (ci := 4) hK hO rfl (by have := ha0; omega) (cc_Pile ha0)) rfl rfl hl.1 rfl (lv_room (Nat.le_of_ble_eq_true rfl)) dX5_putLength_37 ⟨Nat.zero_le _, Nat.zero_le _⟩) hO (fun H locs hO => ?_)
      obtain ⟨r12, st13, h14, h⟩ := bR_some h
      refine cw_calli (va_runV (As := [.long r9]) (rest := [.ref (ad (182 + 9 * a0))]) ⟨hx, hb, hml, hown, hts⟩ (c_Rows_lengthOf l D A ad cA tb0 tb1 a0 ha0 r9 st10 r12 st13 h14) (cwV 1 hts (gw_V w_eb771c37 w_47a11451 w_e6548b4e w_8bdbd0d2 w_69ff08de) rfl rfl rfl (by decide +kernel) ⟨Nat.le_of_ble_eq_true rfl, Nat.le_of_ble_eq_true rfl⟩) (cw_preV (k := 185 + 9 * a0) (ci := 5) hK hO rfl (by have := ha0; omega) (cc_Rows ha0)) rfl rfl hl.1 rfl (lv_room (Nat.le_of_ble_eq_true rfl)) dX5_putLength_40 ⟨Nat.zero_le _, Nat.zero_le _⟩) hO (fun H locs hO => ?_)
      refine lv_i2l hx hb dX5_putLength_43 rfl ?_
      obtain ⟨r15, st16, h17, h⟩ := bR_some h
      refine cw_calli (va_runV (As := [.long r12.toInt64]) (rest := []) ⟨hx, hb, hml, hown, hts⟩ (c_Pile_putNumber l D A ad cA tb0 tb1 a0 ha0 r12.toInt64 st13 r15 st16 h17) (cwV 1 hts (gw_V w_81d1523b w_34c9ad22 w_9e5e849e w_76c797a4 w_03086df0) rfl rfl rfl (by decide +kernel) ⟨Nat.le_of_ble_eq_true rfl, Nat.le_of_ble_eq_true rfl⟩) (cw_preV (k := 182 + 9 * a0) (ci := 4) hK hO rfl (by have := ha0; omega) (cc_Pile ha0)) rfl rfl hl.1 rfl (lv_room (Nat.le_of_ble_eq_true rfl)) dX5_putLength_44 ⟨Nat.zero_le _, Nat.zero_le _⟩) hO (fun H locs hO => ?_)
      obtain ⟨rfl, rfl⟩ := ret2 h; exact cw_iret hx hb hr hlocks hO dX5_putLength_47
    · have h := ite_f c8 h
      refine lv_iconst (v := 4) hx hb dX5_putLength_25 (by decide) ?_
      obtain ⟨rfl, rfl⟩ := ret2 h; exact cw_iret hx hb hr hlocks hO dX5_putLength_26
  · have h := ite_t c4 h
    refine lv_iconst (v := 2) hx hb dX5_putLength_12 (by decide) ?_
    obtain ⟨rfl, rfl⟩ := ret2 h; exact cw_iret hx hb hr hlocks hO dX5_putLength_13
-- Rows copyElements
def j_Rows_copyElements (a0 : Nat) (st : CwS) : Option (Int32 × CwS) :=
  bR (j_Pile_tookNumber a0 ((0 : Int32)) st) fun r1 st2 =>
  if r1 = ((0 : Int32)) then
    some ((4 : Int32), st2)
  else
    bR (j_Pile_tookNumber a0 ((1 : Int32)) st2) fun r5 st6 =>
    if r5 = ((0 : Int32)) then
      some ((4 : Int32), st6)
    else
      bR (j_Pile_tookNumber a0 ((3 : Int32)) st6) fun r9 st10 =>
      if r9 = ((0 : Int32)) then
        some ((4 : Int32), st10)
      else
        bR (j_Pile_tookKind a0 ((2 : Int32)) st10) fun r13 st14 =>
        if r13 = ((3 : Int32)) then
          some ((2 : Int32), st14)
        else
          bR (j_Pile_tookKind a0 ((4 : Int32)) st14) fun r17 st18 =>
          if r17 = ((3 : Int32)) then
            some ((2 : Int32), st18)
          else
            bR (j_Pile_tookNumber a0 ((2 : Int32)) st18) fun r21 st22 =>
            if r21 = ((0 : Int32)) then
              bR (j_Pile_tookKind a0 ((2 : Int32)) st22) fun r25 st26 =>
              bR (j_Pile_tookKind a0 ((4 : Int32)) st26) fun r28 st29 =>
              if r25 = r28 then
                bR (j_Pile_took a0 ((0 : Int32)) st29) fun r32 st33 =>
                bR (j_Pile_took a0 ((1 : Int32)) st33) fun r35 st36 =>
                bR (j_Pile_took a0 ((2 : Int32)) st36) fun r38 st39 =>
                bR (j_Pile_took a0 ((3 : Int32)) st39) fun r41 st42 =>
                bR (j_Pile_took a0 ((4 : Int32)) st42) fun r44 st45 =>
                bR (j_Rows_hasRange a0 r44 r41 r32 st45) fun r47 st48 =>
                if r47 = ((0 : Int32)) then
                  some ((3 : Int32), st48)
                else
                  bR (j_Rows_hasRange a0 r38 r35 r32 st48) fun r51 st52 =>
                  if r51 = ((0 : Int32)) then
                    some ((3 : Int32), st52)
                  else
                    if (lg_cmp r32 ((0 : Int64))) ≤ ((0 : Int32)) then
                      some ((0 : Int32), st52)
                    else
                      bR (j_Rows_placeOf a0 r44 r41 st52) fun r56 st57 =>
                      bR (j_Rows_placeOf a0 r38 r35 st57) fun r59 st60 =>
                      ck (cpk r56 r59 r32.toInt32 192 192) <|
                      some ((0 : Int32), cL st60 7 a0 r56.toNatClampNeg 7 a0 r59.toNatClampNeg r32.toInt32.toNatClampNeg)
              else
                some ((4 : Int32), st29)
            else
              some ((4 : Int32), st22)
set_option maxHeartbeats 4000000 in
set_option maxRecDepth 100000 in
theorem c_Rows_copyElements (l : Launch) (D : va_G) (A : Nat → Prop) (ad : Nat → Nat) (cA : Nat → ClassId) (tb0 tb1 : Nat) (a0 : Nat) (ha0 : a0 < 10) (st : CwS) (r : Int32) (st' : CwS) (h : j_Rows_copyElements a0 st = some (r, st')) : Met l yX5_copyElements (wv yX5_copyElements cX5_copyElements 11 (some .int)) ({ frames := 2, cells := 0, slots := 0, locals := 49 }) (va_Pc [.ref (ad (185 + 9 * a0))] (cwU D A ad cA tb0 tb1 st)) (cwQi D A ad cA tb0 tb1 r st') 0 0 A := by
  refine Met.ofW (cc := cX5_copyElements) (maxL := 11) (ret := some .int) (by decide) rfl ?_
  intro p e s m args below meth c s₁ B hml hv
  obtain ⟨rfl, hP, hK⟩ := hv
  have hx := B.exec
  have hb := B.bytes
  have hr := B.returns
  have hts := atoms_spec (ws := wv yX5_copyElements cX5_copyElements 11 (some .int)) B.pre
  have hown : s.vm.findClass RX5 = some m.cls := findClass_of_methodNamed B.named
  have hlocks := B.notSynchronized
  have hO : cwO D A ad cA s st s.heap [] := ⟨hP, va_S.rf⟩
  have hl := lv_entry ([.ref (ad (185 + 9 * a0))]) (n := 11) (Nat.le_of_ble_eq_true rfl)
  rw [lg_entry_eq]
  generalize (lg_sl ([.ref (ad (185 + 9 * a0))]) ++ List.replicate (11 - (lg_sl ([.ref (ad (185 + 9 * a0))])).length) Slot.unset).toArray = ls at hl ⊢
  have hl : lv_has ls 11 [(0, .ref (ad (185 + 9 * a0)))] := hl
  have _h0 := hO
  have hgw := fun (w : Cond) (h : w ∈ gwW) => hts w (List.mem_cons_of_mem _ h)
  have k9 := hgw _ w_44bf1df9
  have k19 := hgw _ w_b00e8dcd
  have k51 := hgw _ w_2284ff03
  unfold j_Rows_copyElements at h
  refine lv_aload_n hx hb dX5_copyElements_0 rfl (lv_at hl 0 rfl) ?_
  refine gf_Rows_pile hx hb hgw iwRows hown hK hO ha0 k19 dX5_copyElements_1 ?_
  refine lv_iconst (v := 0) hx hb dX5_copyElements_4 (by decide) ?_
  obtain ⟨r1, st2, h3, h⟩ := bR_some h
  refine cw_calli (va_runV (As := [.int ((0 : Int32))]) (rest := []) ⟨hx, hb, hml, hown, hts⟩ (c_Pile_tookNumber l D A ad cA tb0 tb1 a0 ha0 ((0 : Int32)) st r1 st2 h3) (cwV 1 hts (gw_V w_3df059a5 w_710a0455 w_eea10879 w_76c797a4 w_f9f5f760) rfl rfl rfl (by decide +kernel) ⟨Nat.le_of_ble_eq_true rfl, Nat.le_of_ble_eq_true rfl⟩) (cw_preV (k := 182 + 9 * a0) (ci := 4) hK hO rfl (by have := ha0; omega) (cc_Pile ha0)) rfl rfl hl.1 rfl (lv_room (Nat.le_of_ble_eq_true rfl)) dX5_copyElements_5 ⟨Nat.zero_le _, Nat.zero_le _⟩) hO (fun H locs hO => ?_)
  refine lv_if_eq (tgt := 33) hx hb dX5_copyElements_8 (by decide) (fun c4 => ?_) (fun c4 => ?_)
  · have h := ite_t c4 h
    refine lv_iconst (v := 4) hx hb dX5_copyElements_33 (by decide) ?_
    obtain ⟨rfl, rfl⟩ := ret2 h; exact cw_iret hx hb hr hlocks hO dX5_copyElements_34
  · have h := ite_f c4 h
    refine lv_aload_n hx hb dX5_copyElements_11 rfl (lv_at hl 0 rfl) ?_
    refine gf_Rows_pile hx hb hgw iwRows hown hK hO ha0 k19 dX5_copyElements_12 ?_
    refine lv_iconst (v := 1) hx hb dX5_copyElements_15 (by decide) ?_
    obtain ⟨r5, st6, h7, h⟩ := bR_some h
    refine cw_calli (va_runV (As := [.int ((1 : Int32))]) (rest := []) ⟨hx, hb, hml, hown, hts⟩ (c_Pile_tookNumber l D A ad cA tb0 tb1 a0 ha0 ((1 : Int32)) st2 r5 st6 h7) (cwV 1 hts (gw_V w_3df059a5 w_710a0455 w_eea10879 w_76c797a4 w_f9f5f760) rfl rfl rfl (by decide +kernel) ⟨Nat.le_of_ble_eq_true rfl, Nat.le_of_ble_eq_true rfl⟩) (cw_preV (k := 182 + 9 * a0) (ci := 4) hK hO rfl (by have := ha0; omega) (cc_Pile ha0)) rfl rfl hl.1 rfl (lv_room (Nat.le_of_ble_eq_true rfl)) dX5_copyElements_16 ⟨Nat.zero_le _, Nat.zero_le _⟩) hO (fun H locs hO => ?_)
    refine lv_if_eq (tgt := 33) hx hb dX5_copyElements_19 (by decide) (fun c8 => ?_) (fun c8 => ?_)
    · have h := ite_t c8 h
      refine lv_iconst (v := 4) hx hb dX5_copyElements_33 (by decide) ?_
      obtain ⟨rfl, rfl⟩ := ret2 h; exact cw_iret hx hb hr hlocks hO dX5_copyElements_34
    · have h := ite_f c8 h
      refine lv_aload_n hx hb dX5_copyElements_22 rfl (lv_at hl 0 rfl) ?_
      refine gf_Rows_pile hx hb hgw iwRows hown hK hO ha0 k19 dX5_copyElements_23 ?_
      refine lv_iconst (v := 3) hx hb dX5_copyElements_26 (by decide) ?_
      obtain ⟨r9, st10, h11, h⟩ := bR_some h
      refine cw_calli (va_runV (As := [.int ((3 : Int32))]) (rest := []) ⟨hx, hb, hml, hown, hts⟩ (c_Pile_tookNumber l D A ad cA tb0 tb1 a0 ha0 ((3 : Int32)) st6 r9 st10 h11) (cwV 1 hts (gw_V w_3df059a5 w_710a0455 w_eea10879 w_76c797a4 w_f9f5f760) rfl rfl rfl (by decide +kernel) ⟨Nat.le_of_ble_eq_true rfl, Nat.le_of_ble_eq_true rfl⟩) (cw_preV (k := 182 + 9 * a0) (ci := 4) hK hO rfl (by have := ha0; omega) (cc_Pile ha0)) rfl rfl hl.1 rfl (lv_room (Nat.le_of_ble_eq_true rfl)) dX5_copyElements_27 ⟨Nat.zero_le _, Nat.zero_le _⟩) hO (fun H locs hO => ?_)
      refine lv_if_ne (tgt := 35) hx hb dX5_copyElements_30 (by decide) (fun c12 => ?_) (fun c12 => ?_)
      · have h := ite_f c12 h
        refine lv_aload_n hx hb dX5_copyElements_35 rfl (lv_at hl 0 rfl) ?_
        refine gf_Rows_pile hx hb hgw iwRows hown hK hO ha0 k19 dX5_copyElements_36 ?_
        refine lv_iconst (v := 2) hx hb dX5_copyElements_39 (by decide) ?_
        obtain ⟨r13, st14, h15, h⟩ := bR_some h
        refine cw_calli (va_runV (As := [.int ((2 : Int32))]) (rest := []) ⟨hx, hb, hml, hown, hts⟩ (c_Pile_tookKind l D A ad cA tb0 tb1 a0 ha0 ((2 : Int32)) st10 r13 st14 h15) (cwV 1 hts (gw_V w_cdb175cb w_5c9fe01c w_ceab1f00 w_76c797a4 w_72af167e) rfl rfl rfl (by decide +kernel) ⟨Nat.le_of_ble_eq_true rfl, Nat.le_of_ble_eq_true rfl⟩) (cw_preV (k := 182 + 9 * a0) (ci := 4) hK hO rfl (by have := ha0; omega) (cc_Pile ha0)) rfl rfl hl.1 rfl (lv_room (Nat.le_of_ble_eq_true rfl)) dX5_copyElements_40 ⟨Nat.zero_le _, Nat.zero_le _⟩) hO (fun H locs hO => ?_)
        refine lv_iconst (v := 3) hx hb dX5_copyElements_43 (by decide) ?_
        refine lv_icmp_eq (tgt := 59) hx hb dX5_copyElements_44 (by decide) (fun c16 => ?_) (fun c16 => ?_)
        · have h := ite_t c16 h
          refine lv_iconst (v := 2) hx hb dX5_copyElements_59 (by decide) ?_
          obtain ⟨rfl, rfl⟩ := ret2 h; exact cw_iret hx hb hr hlocks hO dX5_copyElements_60
        · have h := ite_f c16 h
          refine lv_aload_n hx hb dX5_copyElements_47 rfl (lv_at hl 0 rfl) ?_
          refine gf_Rows_pile hx hb hgw iwRows hown hK hO ha0 k19 dX5_copyElements_48 ?_
          refine lv_iconst (v := 4) hx hb dX5_copyElements_51 (by decide) ?_
          obtain ⟨r17, st18, h19, h⟩ := bR_some h
          refine cw_calli (va_runV (As := [.int ((4 : Int32))]) (rest := []) ⟨hx, hb, hml, hown, hts⟩ (c_Pile_tookKind l D A ad cA tb0 tb1 a0 ha0 ((4 : Int32)) st14 r17 st18 h19) (cwV 1 hts (gw_V w_cdb175cb w_5c9fe01c w_ceab1f00 w_76c797a4 w_72af167e) rfl rfl rfl (by decide +kernel) ⟨Nat.le_of_ble_eq_true rfl, Nat.le_of_ble_eq_true rfl⟩) (cw_preV (k := 182 + 9 * a0) (ci := 4) hK hO rfl (by have := ha0; omega) (cc_Pile ha0)) rfl rfl hl.1 rfl (lv_room (Nat.le_of_ble_eq_true rfl)) dX5_copyElements_52 ⟨Nat.zero_le _, Nat.zero_le _⟩) hO (fun H locs hO => ?_)
          refine lv_iconst (v := 3) hx hb dX5_copyElements_55 (by decide) ?_
          refine lv_icmp_ne (tgt := 61) hx hb dX5_copyElements_56 (by decide) (fun c20 => ?_) (fun c20 => ?_)
          · have h := ite_f c20 h
            refine lv_aload_n hx hb dX5_copyElements_61 rfl (lv_at hl 0 rfl) ?_
            refine gf_Rows_pile hx hb hgw iwRows hown hK hO ha0 k19 dX5_copyElements_62 ?_
            refine lv_iconst (v := 2) hx hb dX5_copyElements_65 (by decide) ?_
            obtain ⟨r21, st22, h23, h⟩ := bR_some h
            refine cw_calli (va_runV (As := [.int ((2 : Int32))]) (rest := []) ⟨hx, hb, hml, hown, hts⟩ (c_Pile_tookNumber l D A ad cA tb0 tb1 a0 ha0 ((2 : Int32)) st18 r21 st22 h23) (cwV 1 hts (gw_V w_3df059a5 w_710a0455 w_eea10879 w_76c797a4 w_f9f5f760) rfl rfl rfl (by decide +kernel) ⟨Nat.le_of_ble_eq_true rfl, Nat.le_of_ble_eq_true rfl⟩) (cw_preV (k := 182 + 9 * a0) (ci := 4) hK hO rfl (by have := ha0; omega) (cc_Pile ha0)) rfl rfl hl.1 rfl (lv_room (Nat.le_of_ble_eq_true rfl)) dX5_copyElements_66 ⟨Nat.zero_le _, Nat.zero_le _⟩) hO (fun H locs hO => ?_)
            refine lv_if_ne (tgt := 91) hx hb dX5_copyElements_69 (by decide) (fun c24 => ?_) (fun c24 => ?_)
            · have h := ite_f c24 h
              refine lv_iconst (v := 4) hx hb dX5_copyElements_91 (by decide) ?_
              obtain ⟨rfl, rfl⟩ := ret2 h; exact cw_iret hx hb hr hlocks hO dX5_copyElements_92
            · have h := ite_t c24 h
              refine lv_aload_n hx hb dX5_copyElements_72 rfl (lv_at hl 0 rfl) ?_
              refine gf_Rows_pile hx hb hgw iwRows hown hK hO ha0 k19 dX5_copyElements_73 ?_
              refine lv_iconst (v := 2) hx hb dX5_copyElements_76 (by decide) ?_
              obtain ⟨r25, st26, h27, h⟩ := bR_some h
              refine cw_calli (va_runV (As := [.int ((2 : Int32))]) (rest := []) ⟨hx, hb, hml, hown, hts⟩ (c_Pile_tookKind l D A ad cA tb0 tb1 a0 ha0 ((2 : Int32)) st22 r25 st26 h27) (cwV 1 hts (gw_V w_cdb175cb w_5c9fe01c w_ceab1f00 w_76c797a4 w_72af167e) rfl rfl rfl (by decide +kernel) ⟨Nat.le_of_ble_eq_true rfl, Nat.le_of_ble_eq_true rfl⟩) (cw_preV (k := 182 + 9 * a0) (ci := 4) hK hO rfl (by have := ha0; omega) (cc_Pile ha0)) rfl rfl hl.1 rfl (lv_room (Nat.le_of_ble_eq_true rfl)) dX5_copyElements_77 ⟨Nat.zero_le _, Nat.zero_le _⟩) hO (fun H locs hO => ?_)
              refine lv_aload_n hx hb dX5_copyElements_80 rfl (lv_at hl 0 rfl) ?_
              refine gf_Rows_pile hx hb hgw iwRows hown hK hO ha0 k19 dX5_copyElements_81 ?_
              refine lv_iconst (v := 4) hx hb dX5_copyElements_84 (by decide) ?_
              obtain ⟨r28, st29, h30, h⟩ := bR_some h
              refine cw_calli (va_runV (As := [.int ((4 : Int32))]) (rest := [.int r25]) ⟨hx, hb, hml, hown, hts⟩ (c_Pile_tookKind l D A ad cA tb0 tb1 a0 ha0 ((4 : Int32)) st26 r28 st29 h30) (cwV 1 hts (gw_V w_cdb175cb w_5c9fe01c w_ceab1f00 w_76c797a4 w_72af167e) rfl rfl rfl (by decide +kernel) ⟨Nat.le_of_ble_eq_true rfl, Nat.le_of_ble_eq_true rfl⟩) (cw_preV (k := 182 + 9 * a0) (ci := 4) hK hO rfl (by have := ha0; omega) (cc_Pile ha0)) rfl rfl hl.1 rfl (lv_room (Nat.le_of_ble_eq_true rfl)) dX5_copyElements_85 ⟨Nat.zero_le _, Nat.zero_le _⟩) hO (fun H locs hO => ?_)
              refine lv_icmp_eq (tgt := 93) hx hb dX5_copyElements_88 (by decide) (fun c31 => ?_) (fun c31 => ?_)
              · have h := ite_t c31 h
                refine lv_aload_n hx hb dX5_copyElements_93 rfl (lv_at hl 0 rfl) ?_
                refine gf_Rows_pile hx hb hgw iwRows hown hK hO ha0 k19 dX5_copyElements_94 ?_
                refine lv_iconst (v := 0) hx hb dX5_copyElements_97 (by decide) ?_
                obtain ⟨r32, st33, h34, h⟩ := bR_some h
                refine cw_calll (va_runV (As := [.int ((0 : Int32))]) (rest := []) ⟨hx, hb, hml, hown, hts⟩ (c_Pile_took l D A ad cA tb0 tb1 a0 ha0 ((0 : Int32)) st29 r32 st33 h34) (cwV 1 hts (gw_V w_6eb0be21 w_e50f7684 w_26b160a3 w_76c797a4 w_c905c078) rfl rfl rfl (by decide +kernel) ⟨Nat.le_of_ble_eq_true rfl, Nat.le_of_ble_eq_true rfl⟩) (cw_preV (k := 182 + 9 * a0) (ci := 4) hK hO rfl (by have := ha0; omega) (cc_Pile ha0)) rfl rfl hl.1 rfl (lv_room (Nat.le_of_ble_eq_true rfl)) dX5_copyElements_98 ⟨Nat.zero_le _, Nat.zero_le _⟩) hO (fun H locs hO => ?_)
                refine lv_lstore_n (lv' := [(1, .long r32), (0, .ref (ad (185 + 9 * a0)))]) hx hb dX5_copyElements_101 rfl hl (by decide) rfl (fun ls hl => ?_)
                refine lv_aload_n hx hb dX5_copyElements_102 rfl (lv_at hl 1 rfl) ?_
                refine gf_Rows_pile hx hb hgw iwRows hown hK hO ha0 k19 dX5_copyElements_103 ?_
                refine lv_iconst (v := 1) hx hb dX5_copyElements_106 (by decide) ?_
                obtain ⟨r35, st36, h37, h⟩ := bR_some h
                refine cw_calll (va_runV (As := [.int ((1 : Int32))]) (rest := []) ⟨hx, hb, hml, hown, hts⟩ (c_Pile_took l D A ad cA tb0 tb1 a0 ha0 ((1 : Int32)) st33 r35 st36 h37) (cwV 1 hts (gw_V w_6eb0be21 w_e50f7684 w_26b160a3 w_76c797a4 w_c905c078) rfl rfl rfl (by decide +kernel) ⟨Nat.le_of_ble_eq_true rfl, Nat.le_of_ble_eq_true rfl⟩) (cw_preV (k := 182 + 9 * a0) (ci := 4) hK hO rfl (by have := ha0; omega) (cc_Pile ha0)) rfl rfl hl.1 rfl (lv_room (Nat.le_of_ble_eq_true rfl)) dX5_copyElements_107 ⟨Nat.zero_le _, Nat.zero_le _⟩) hO (fun H locs hO => ?_)
                refine lv_lstore_n (lv' := [(3, .long r35), (1, .long r32), (0, .ref (ad (185 + 9 * a0)))]) hx hb dX5_copyElements_110 rfl hl (by decide) rfl (fun ls hl => ?_)
                refine lv_aload_n hx hb dX5_copyElements_111 rfl (lv_at hl 2 rfl) ?_
                refine gf_Rows_pile hx hb hgw iwRows hown hK hO ha0 k19 dX5_copyElements_112 ?_
                refine lv_iconst (v := 2) hx hb dX5_copyElements_115 (by decide) ?_
                obtain ⟨r38, st39, h40, h⟩ := bR_some h
                refine cw_calll (va_runV (As := [.int ((2 : Int32))]) (rest := []) ⟨hx, hb, hml, hown, hts⟩ (c_Pile_took l D A ad cA tb0 tb1 a0 ha0 ((2 : Int32)) st36 r38 st39 h40) (cwV 1 hts (gw_V w_6eb0be21 w_e50f7684 w_26b160a3 w_76c797a4 w_c905c078) rfl rfl rfl (by decide +kernel) ⟨Nat.le_of_ble_eq_true rfl, Nat.le_of_ble_eq_true rfl⟩) (cw_preV (k := 182 + 9 * a0) (ci := 4) hK hO rfl (by have := ha0; omega) (cc_Pile ha0)) rfl rfl hl.1 rfl (lv_room (Nat.le_of_ble_eq_true rfl)) dX5_copyElements_116 ⟨Nat.zero_le _, Nat.zero_le _⟩) hO (fun H locs hO => ?_)
                refine lv_lstore (lv' := [(5, .long r38), (3, .long r35), (1, .long r32), (0, .ref (ad (185 + 9 * a0)))]) hx hb dX5_copyElements_119 hl (by decide) rfl (fun ls hl => ?_)
                refine lv_aload_n hx hb dX5_copyElements_121 rfl (lv_at hl 3 rfl) ?_
                refine gf_Rows_pile hx hb hgw iwRows hown hK hO ha0 k19 dX5_copyElements_122 ?_
                refine lv_iconst (v := 3) hx hb dX5_copyElements_125 (by decide) ?_
                obtain ⟨r41, st42, h43, h⟩ := bR_some h
                refine cw_calll (va_runV (As := [.int ((3 : Int32))]) (rest := []) ⟨hx, hb, hml, hown, hts⟩ (c_Pile_took l D A ad cA tb0 tb1 a0 ha0 ((3 : Int32)) st39 r41 st42 h43) (cwV 1 hts (gw_V w_6eb0be21 w_e50f7684 w_26b160a3 w_76c797a4 w_c905c078) rfl rfl rfl (by decide +kernel) ⟨Nat.le_of_ble_eq_true rfl, Nat.le_of_ble_eq_true rfl⟩) (cw_preV (k := 182 + 9 * a0) (ci := 4) hK hO rfl (by have := ha0; omega) (cc_Pile ha0)) rfl rfl hl.1 rfl (lv_room (Nat.le_of_ble_eq_true rfl)) dX5_copyElements_126 ⟨Nat.zero_le _, Nat.zero_le _⟩) hO (fun H locs hO => ?_)
                refine lv_lstore (lv' := [(7, .long r41), (5, .long r38), (3, .long r35), (1, .long r32), (0, .ref (ad (185 + 9 * a0)))]) hx hb dX5_copyElements_129 hl (by decide) rfl (fun ls hl => ?_)
                refine lv_aload_n hx hb dX5_copyElements_131 rfl (lv_at hl 4 rfl) ?_
                refine gf_Rows_pile hx hb hgw iwRows hown hK hO ha0 k19 dX5_copyElements_132 ?_
                refine lv_iconst (v := 4) hx hb dX5_copyElements_135 (by decide) ?_
                obtain ⟨r44, st45, h46, h⟩ := bR_some h
                refine cw_calll (va_runV (As := [.int ((4 : Int32))]) (rest := []) ⟨hx, hb, hml, hown, hts⟩ (c_Pile_took l D A ad cA tb0 tb1 a0 ha0 ((4 : Int32)) st42 r44 st45 h46) (cwV 1 hts (gw_V w_6eb0be21 w_e50f7684 w_26b160a3 w_76c797a4 w_c905c078) rfl rfl rfl (by decide +kernel) ⟨Nat.le_of_ble_eq_true rfl, Nat.le_of_ble_eq_true rfl⟩) (cw_preV (k := 182 + 9 * a0) (ci := 4) hK hO rfl (by have := ha0; omega) (cc_Pile ha0)) rfl rfl hl.1 rfl (lv_room (Nat.le_of_ble_eq_true rfl)) dX5_copyElements_136 ⟨Nat.zero_le _, Nat.zero_le _⟩) hO (fun H locs hO => ?_)
                refine lv_lstore (lv' := [(9, .long r44), (7, .long r41), (5, .long r38), (3, .long r35), (1, .long r32), (0, .ref (ad (185 + 9 * a0)))]) hx hb dX5_copyElements_139 hl (by decide) rfl (fun ls hl => ?_)
                refine lv_aload_n hx hb dX5_copyElements_141 rfl (lv_at hl 5 rfl) ?_
                refine lv_lload hx hb dX5_copyElements_142 (lv_at hl 0 rfl) ?_
                refine lv_lload hx hb dX5_copyElements_144 (lv_at hl 1 rfl) ?_
                refine lv_lload_n hx hb dX5_copyElements_146 rfl (lv_at hl 4 rfl) ?_
                obtain ⟨r47, st48, h49, h⟩ := bR_some h
                refine cw_calli (va_runV (As := [.long r44, .long r41, .long r32]) (rest := []) ⟨hx, hb, hml, hown, hts⟩ (c_Rows_hasRange l D A ad cA tb0 tb1 a0 ha0 r44 r41 r32 st45 r47 st48 h49) (cwV 3 hts (gw_V w_4a2bada4 w_0b3e77d4 w_86ede6f9 w_8bdbd0d2 w_0e5f6c57) rfl rfl rfl (by decide +kernel) ⟨Nat.le_of_ble_eq_true rfl, Nat.le_of_ble_eq_true rfl⟩) (cw_preV (k := 185 + 9 * a0) (ci := 5) hK hO rfl (by have := ha0; omega) (cc_Rows ha0)) rfl rfl hl.1 rfl (lv_room (Nat.le_of_ble_eq_true rfl)) dX5_copyElements_147 ⟨Nat.zero_le _, Nat.zero_le _⟩) hO (fun H locs hO => ?_)
                refine lv_if_eq (tgt := 164) hx hb dX5_copyElements_150 (by decide) (fun c50 => ?_) (fun c50 => ?_)
                · have h := ite_t c50 h
                  refine lv_iconst (v := 3) hx hb dX5_copyElements_164 (by decide) ?_
                  obtain ⟨rfl, rfl⟩ := ret2 h; exact cw_iret hx hb hr hlocks hO dX5_copyElements_165
                · have h := ite_f c50 h
                  refine lv_aload_n hx hb dX5_copyElements_153 rfl (lv_at hl 5 rfl) ?_
                  refine lv_lload hx hb dX5_copyElements_154 (lv_at hl 2 rfl) ?_
                  refine lv_lload_n hx hb dX5_copyElements_156 rfl (lv_at hl 3 rfl) ?_
                  refine lv_lload_n hx hb dX5_copyElements_157 rfl (lv_at hl 4 rfl) ?_
                  obtain ⟨r51, st52, h53, h⟩ := bR_some h
                  refine cw_calli (va_runV (As := [.long r38, .long r35, .long r32]) (rest := []) ⟨hx, hb, hml, hown, hts⟩ (c_Rows_hasRange l D A ad cA tb0 tb1 a0 ha0 r38 r35 r32 st48 r51 st52 h53) (cwV 3 hts (gw_V w_4a2bada4 w_0b3e77d4 w_86ede6f9 w_8bdbd0d2 w_0e5f6c57) rfl rfl rfl (by decide +kernel) ⟨Nat.le_of_ble_eq_true rfl, Nat.le_of_ble_eq_true rfl⟩) (cw_preV (k := 185 + 9 * a0) (ci := 5) hK hO rfl (by have := ha0; omega) (cc_Rows ha0)) rfl rfl hl.1 rfl (lv_room (Nat.le_of_ble_eq_true rfl)) dX5_copyElements_158 ⟨Nat.zero_le _, Nat.zero_le _⟩) hO (fun H locs hO => ?_)
                  refine lv_if_ne (tgt := 166) hx hb dX5_copyElements_161 (by decide) (fun c54 => ?_) (fun c54 => ?_)
                  · have h := ite_f c54 h
                    refine lv_lload_n hx hb dX5_copyElements_166 rfl (lv_at hl 4 rfl) ?_
                    refine lv_lconst (v := 0) hx hb dX5_copyElements_167 (by decide) ?_
                    refine W.lcmp hx hb dX5_copyElements_168 ?_
                    refine lv_if_le (tgt := 200) hx hb dX5_copyElements_169 (by decide) (fun c55 => ?_) (fun c55 => ?_)
                    · have h := ite_t c55 h
                      refine lv_iconst (v := 0) hx hb dX5_copyElements_200 (by decide) ?_
                      obtain ⟨rfl, rfl⟩ := ret2 h; exact cw_iret hx hb hr hlocks hO dX5_copyElements_201
                    · have h := ite_f c55 h
                      refine lv_aload_n hx hb dX5_copyElements_172 rfl (lv_at hl 5 rfl) ?_
                      refine gf_Rows_elements hx hb hgw iwRows hown hK hO ha0 k9 dX5_copyElements_173 ?_
                      refine lv_aload_n hx hb dX5_copyElements_176 rfl (lv_at hl 5 rfl) ?_
                      refine lv_lload hx hb dX5_copyElements_177 (lv_at hl 0 rfl) ?_
                      refine lv_lload hx hb dX5_copyElements_179 (lv_at hl 1 rfl) ?_
                      obtain ⟨r56, st57, h58, h⟩ := bR_some h
                      refine cw_calli (va_runV (As := [.long r44, .long r41]) (rest := [.ref (ad (186 + 9 * a0))]) ⟨hx, hb, hml, hown, hts⟩ (c_Rows_placeOf l D A ad cA tb0 tb1 a0 ha0 r44 r41 st52 r56 st57 h58) (cwV 2 hts (gw_V w_ac50c630 w_512321e3 w_a4eb41e5 w_8bdbd0d2 w_5ae13e92) rfl rfl rfl (by decide +kernel) ⟨Nat.le_of_ble_eq_true rfl, Nat.le_of_ble_eq_true rfl⟩) (cw_preV (k := 185 + 9 * a0) (ci := 5) hK hO rfl (by have := ha0; omega) (cc_Rows ha0)) rfl rfl hl.1 rfl (lv_room (Nat.le_of_ble_eq_true rfl)) dX5_copyElements_181 ⟨Nat.zero_le _, Nat.zero_le _⟩) hO (fun H locs hO => ?_)
                      refine lv_aload_n hx hb dX5_copyElements_184 rfl (lv_at hl 5 rfl) ?_
                      refine gf_Rows_elements hx hb hgw iwRows hown hK hO ha0 k9 dX5_copyElements_185 ?_
                      refine lv_aload_n hx hb dX5_copyElements_188 rfl (lv_at hl 5 rfl) ?_
                      refine lv_lload hx hb dX5_copyElements_189 (lv_at hl 2 rfl) ?_
                      refine lv_lload_n hx hb dX5_copyElements_191 rfl (lv_at hl 3 rfl) ?_
                      obtain ⟨r59, st60, h61, h⟩ := bR_some h
                      refine cw_calli (va_runV (As := [.long r38, .long r35]) (rest := [.ref (ad (186 + 9 * a0)), .int r56, .ref (ad (186 + 9 * a0))]) ⟨hx, hb, hml, hown, hts⟩ (c_Rows_placeOf l D A ad cA tb0 tb1 a0 ha0 r38 r35 st57 r59 st60 h61) (cwV 2 hts (gw_V w_ac50c630 w_512321e3 w_a4eb41e5 w_8bdbd0d2 w_5ae13e92) rfl rfl rfl (by decide +kernel) ⟨Nat.le_of_ble_eq_true rfl, Nat.le_of_ble_eq_true rfl⟩) (cw_preV (k := 185 + 9 * a0) (ci := 5) hK hO rfl (by have := ha0; omega) (cc_Rows ha0)) rfl rfl hl.1 rfl (lv_room (Nat.le_of_ble_eq_true rfl)) dX5_copyElements_192 ⟨Nat.zero_le _, Nat.zero_le _⟩) hO (fun H locs hO => ?_)
                      refine lv_lload_n hx hb dX5_copyElements_195 rfl (lv_at hl 4 rfl) ?_
                      refine lv_l2i hx hb dX5_copyElements_196 rfl ?_
                      obtain ⟨hc62, h⟩ := ck_some h
                      refine ac_Elems_Elems hx hb (by rw [hml]; exact hl.1.symm) hown k51 (hgw _ w_a648c8f7) (hgw _ w_410d49e2) (hgw _ w_4260ffab) hK hO ha0 ha0 hc62 (Nat.le_of_ble_eq_true rfl) (Nat.le_of_ble_eq_true rfl) dX5_copyElements_197 (fun H locs hO => ?_)
                      refine lv_iconst (v := 0) hx hb dX5_copyElements_200 (by decide) ?_
                      obtain ⟨rfl, rfl⟩ := ret2 h; exact cw_iret hx hb hr hlocks hO dX5_copyElements_201
                  · have h := ite_t c54 h
                    refine lv_iconst (v := 3) hx hb dX5_copyElements_164 (by decide) ?_
                    obtain ⟨rfl, rfl⟩ := ret2 h; exact cw_iret hx hb hr hlocks hO dX5_copyElements_165
              · have h := ite_f c31 h
                refine lv_iconst (v := 4) hx hb dX5_copyElements_91 (by decide) ?_
                obtain ⟨rfl, rfl⟩ := ret2 h; exact cw_iret hx hb hr hlocks hO dX5_copyElements_92
          · have h := ite_t c20 h
            refine lv_iconst (v := 2) hx hb dX5_copyElements_59 (by decide) ?_
            obtain ⟨rfl, rfl⟩ := ret2 h; exact cw_iret hx hb hr hlocks hO dX5_copyElements_60
      · have h := ite_t c12 h
        refine lv_iconst (v := 4) hx hb dX5_copyElements_33 (by decide) ?_
        obtain ⟨rfl, rfl⟩ := ret2 h; exact cw_iret hx hb hr hlocks hO dX5_copyElements_34
end
section
-- CW isContract
def j_CW_isContract (a0 : Int32) (st : CwS) : Option (Int32 × CwS) :=
  if a0 < ((0 : Int32)) then
    some ((0 : Int32), st)
  else
    if ((8 : Int32)) ≤ a0 then
      some ((0 : Int32), st)
    else
      some ((1 : Int32), st)
set_option maxHeartbeats 4000000 in
set_option maxRecDepth 100000 in
theorem c_CW_isContract (l : Launch) (D : va_G) (A : Nat → Prop) (ad : Nat → Nat) (cA : Nat → ClassId) (tb0 tb1 : Nat) (a0 : Int32) (st : CwS) (r : Int32) (st' : CwS) (h : j_CW_isContract a0 st = some (r, st')) : Met l yX7_isContract (wv yX7_isContract cX7_isContract 1 (some .boolean)) ({ frames := 0, cells := 0, slots := 0, locals := 0 }) (va_Pc [.int a0] (cwU D A ad cA tb0 tb1 st)) (cwQi D A ad cA tb0 tb1 r st') 0 0 A := by
  refine Met.ofW (cc := cX7_isContract) (maxL := 1) (ret := some .boolean) (by decide) rfl ?_
  intro p e s m args below meth c s₁ B hml hv
  obtain ⟨rfl, hP, hK⟩ := hv
  have hx := B.exec
  have hb := B.bytes
  have hr := B.returns
  have hts := atoms_spec (ws := wv yX7_isContract cX7_isContract 1 (some .boolean)) B.pre
  have hown : s.vm.findClass RX7 = some m.cls := findClass_of_methodNamed B.named
  have hlocks := B.notSynchronized
  have hO : cwO D A ad cA s st s.heap [] := ⟨hP, va_S.rf⟩
  have hl := lv_entry ([.int a0]) (n := 1) (Nat.le_of_ble_eq_true rfl)
  rw [lg_entry_eq]
  generalize (lg_sl ([.int a0]) ++ List.replicate (1 - (lg_sl ([.int a0])).length) Slot.unset).toArray = ls at hl ⊢
  have hl : lv_has ls 1 [(0, .int a0)] := hl
  have _h0 := hO
  have hgw := fun (w : Cond) (h : w ∈ gwW) => hts w (List.mem_cons_of_mem _ h)
  unfold j_CW_isContract at h
  refine lv_iload_n hx hb dX7_isContract_0 rfl (lv_at hl 0 rfl) ?_
  refine lv_if_lt (tgt := 14) hx hb dX7_isContract_1 (by decide) (fun c1 => ?_) (fun c1 => ?_)
  · have h := ite_t c1 h
    refine lv_iconst (v := 0) hx hb dX7_isContract_14 (by decide) ?_
    obtain ⟨rfl, rfl⟩ := ret2 h; exact cw_zret hx hb hr hlocks hO rfl dX7_isContract_15
  · have h := ite_f c1 h
    refine lv_iload_n hx hb dX7_isContract_4 rfl (lv_at hl 0 rfl) ?_
    refine lv_bipush (v := 8) hx hb dX7_isContract_5 (by decide) ?_
    refine lv_icmp_ge (tgt := 14) hx hb dX7_isContract_7 (by decide) (fun c2 => ?_) (fun c2 => ?_)
    · have h := ite_t c2 h
      refine lv_iconst (v := 0) hx hb dX7_isContract_14 (by decide) ?_
      obtain ⟨rfl, rfl⟩ := ret2 h; exact cw_zret hx hb hr hlocks hO rfl dX7_isContract_15
    · have h := ite_f c2 h
      refine lv_iconst (v := 1) hx hb dX7_isContract_10 (by decide) ?_
      refine lv_goto (tgt := 15) hx hb dX7_isContract_11 (by decide) ?_
      obtain ⟨rfl, rfl⟩ := ret2 h; exact cw_zret hx hb hr hlocks hO rfl dX7_isContract_15
-- CW isBehaviour
def j_CW_isBehaviour (a0 : Int32) (a1 : Int32) (st : CwS) : Option (Int32 × CwS) :=
  bR (j_CW_isContract a0 st) fun r1 st2 =>
  if r1 = ((0 : Int32)) then
    some ((0 : Int32), st2)
  else
    if a1 < ((0 : Int32)) then
      some ((0 : Int32), st2)
    else
      if ((6 : Int32)) ≤ a1 then
        some ((0 : Int32), st2)
      else
        some ((1 : Int32), st2)
set_option maxHeartbeats 4000000 in
set_option maxRecDepth 100000 in
theorem c_CW_isBehaviour (l : Launch) (D : va_G) (A : Nat → Prop) (ad : Nat → Nat) (cA : Nat → ClassId) (tb0 tb1 : Nat) (a0 : Int32) (a1 : Int32) (st : CwS) (r : Int32) (st' : CwS) (h : j_CW_isBehaviour a0 a1 st = some (r, st')) : Met l yX7_isBehaviour (wv yX7_isBehaviour cX7_isBehaviour 2 (some .boolean)) ({ frames := 1, cells := 0, slots := 0, locals := 20 }) (va_Pc [.int a0, .int a1] (cwU D A ad cA tb0 tb1 st)) (cwQi D A ad cA tb0 tb1 r st') 0 0 A := by
  refine Met.ofW (cc := cX7_isBehaviour) (maxL := 2) (ret := some .boolean) (by decide) rfl ?_
  intro p e s m args below meth c s₁ B hml hv
  obtain ⟨rfl, hP, hK⟩ := hv
  have hx := B.exec
  have hb := B.bytes
  have hr := B.returns
  have hts := atoms_spec (ws := wv yX7_isBehaviour cX7_isBehaviour 2 (some .boolean)) B.pre
  have hown : s.vm.findClass RX7 = some m.cls := findClass_of_methodNamed B.named
  have hlocks := B.notSynchronized
  have hO : cwO D A ad cA s st s.heap [] := ⟨hP, va_S.rf⟩
  have hl := lv_entry ([.int a0, .int a1]) (n := 2) (Nat.le_of_ble_eq_true rfl)
  rw [lg_entry_eq]
  generalize (lg_sl ([.int a0, .int a1]) ++ List.replicate (2 - (lg_sl ([.int a0, .int a1])).length) Slot.unset).toArray = ls at hl ⊢
  have hl : lv_has ls 2 [(0, .int a0), (1, .int a1)] := hl
  have _h0 := hO
  have hgw := fun (w : Cond) (h : w ∈ gwW) => hts w (List.mem_cons_of_mem _ h)
  unfold j_CW_isBehaviour at h
  refine lv_iload_n hx hb dX7_isBehaviour_0 rfl (lv_at hl 0 rfl) ?_
  obtain ⟨r1, st2, h3, h⟩ := bR_some h
  refine cw_calli (va_runS (As := [.int a0]) (rest := []) ⟨hx, hb, hml, hown, hts⟩ (c_CW_isContract l D A ad cA tb0 tb1 a0 st r1 st2 h3) (va_cwS 1 hts (gw_S w_375a58ab w_6f490791 w_0fc29077 w_9bb5fda8) rfl rfl rfl (by decide +kernel) ⟨Nat.le_of_ble_eq_true rfl, Nat.le_of_ble_eq_true rfl⟩) (cw_preS hK hO) rfl rfl hl.1 rfl (lv_room (Nat.le_of_ble_eq_true rfl)) dX7_isBehaviour_1 ⟨Nat.zero_le _, Nat.zero_le _⟩) hO (fun H locs hO => ?_)
  refine lv_if_eq (tgt := 21) hx hb dX7_isBehaviour_4 (by decide) (fun c4 => ?_) (fun c4 => ?_)
  · have h := ite_t c4 h
    refine lv_iconst (v := 0) hx hb dX7_isBehaviour_21 (by decide) ?_
    obtain ⟨rfl, rfl⟩ := ret2 h; exact cw_zret hx hb hr hlocks hO rfl dX7_isBehaviour_22
  · have h := ite_f c4 h
    refine lv_iload_n hx hb dX7_isBehaviour_7 rfl (lv_at hl 1 rfl) ?_
    refine lv_if_lt (tgt := 21) hx hb dX7_isBehaviour_8 (by decide) (fun c5 => ?_) (fun c5 => ?_)
    · have h := ite_t c5 h
      refine lv_iconst (v := 0) hx hb dX7_isBehaviour_21 (by decide) ?_
      obtain ⟨rfl, rfl⟩ := ret2 h; exact cw_zret hx hb hr hlocks hO rfl dX7_isBehaviour_22
    · have h := ite_f c5 h
      refine lv_iload_n hx hb dX7_isBehaviour_11 rfl (lv_at hl 1 rfl) ?_
      refine lv_bipush (v := 6) hx hb dX7_isBehaviour_12 (by decide) ?_
      refine lv_icmp_ge (tgt := 21) hx hb dX7_isBehaviour_14 (by decide) (fun c6 => ?_) (fun c6 => ?_)
      · have h := ite_t c6 h
        refine lv_iconst (v := 0) hx hb dX7_isBehaviour_21 (by decide) ?_
        obtain ⟨rfl, rfl⟩ := ret2 h; exact cw_zret hx hb hr hlocks hO rfl dX7_isBehaviour_22
      · have h := ite_f c6 h
        refine lv_iconst (v := 1) hx hb dX7_isBehaviour_17 (by decide) ?_
        refine lv_goto (tgt := 22) hx hb dX7_isBehaviour_18 (by decide) ?_
        obtain ⟨rfl, rfl⟩ := ret2 h; exact cw_zret hx hb hr hlocks hO rfl dX7_isBehaviour_22
-- CW isLeaf
def j_CW_isLeaf (a0 : Int32) (st : CwS) : Option (Int32 × CwS) :=
  if a0 < ((0 : Int32)) then
    some ((0 : Int32), st)
  else
    if ((8 : Int32)) ≤ a0 then
      some ((0 : Int32), st)
    else
      some ((1 : Int32), st)
set_option maxHeartbeats 4000000 in
set_option maxRecDepth 100000 in
theorem c_CW_isLeaf (l : Launch) (D : va_G) (A : Nat → Prop) (ad : Nat → Nat) (cA : Nat → ClassId) (tb0 tb1 : Nat) (a0 : Int32) (st : CwS) (r : Int32) (st' : CwS) (h : j_CW_isLeaf a0 st = some (r, st')) : Met l yX7_isLeaf (wv yX7_isLeaf cX7_isLeaf 1 (some .boolean)) ({ frames := 0, cells := 0, slots := 0, locals := 0 }) (va_Pc [.int a0] (cwU D A ad cA tb0 tb1 st)) (cwQi D A ad cA tb0 tb1 r st') 0 0 A := by
  refine Met.ofW (cc := cX7_isLeaf) (maxL := 1) (ret := some .boolean) (by decide) rfl ?_
  intro p e s m args below meth c s₁ B hml hv
  obtain ⟨rfl, hP, hK⟩ := hv
  have hx := B.exec
  have hb := B.bytes
  have hr := B.returns
  have hts := atoms_spec (ws := wv yX7_isLeaf cX7_isLeaf 1 (some .boolean)) B.pre
  have hown : s.vm.findClass RX7 = some m.cls := findClass_of_methodNamed B.named
  have hlocks := B.notSynchronized
  have hO : cwO D A ad cA s st s.heap [] := ⟨hP, va_S.rf⟩
  have hl := lv_entry ([.int a0]) (n := 1) (Nat.le_of_ble_eq_true rfl)
  rw [lg_entry_eq]
  generalize (lg_sl ([.int a0]) ++ List.replicate (1 - (lg_sl ([.int a0])).length) Slot.unset).toArray = ls at hl ⊢
  have hl : lv_has ls 1 [(0, .int a0)] := hl
  have _h0 := hO
  have hgw := fun (w : Cond) (h : w ∈ gwW) => hts w (List.mem_cons_of_mem _ h)
  unfold j_CW_isLeaf at h
  refine lv_iload_n hx hb dX7_isLeaf_0 rfl (lv_at hl 0 rfl) ?_
  refine lv_if_lt (tgt := 14) hx hb dX7_isLeaf_1 (by decide) (fun c1 => ?_) (fun c1 => ?_)
  · have h := ite_t c1 h
    refine lv_iconst (v := 0) hx hb dX7_isLeaf_14 (by decide) ?_
    obtain ⟨rfl, rfl⟩ := ret2 h; exact cw_zret hx hb hr hlocks hO rfl dX7_isLeaf_15
  · have h := ite_f c1 h
    refine lv_iload_n hx hb dX7_isLeaf_4 rfl (lv_at hl 0 rfl) ?_
    refine lv_bipush (v := 8) hx hb dX7_isLeaf_5 (by decide) ?_
    refine lv_icmp_ge (tgt := 14) hx hb dX7_isLeaf_7 (by decide) (fun c2 => ?_) (fun c2 => ?_)
    · have h := ite_t c2 h
      refine lv_iconst (v := 0) hx hb dX7_isLeaf_14 (by decide) ?_
      obtain ⟨rfl, rfl⟩ := ret2 h; exact cw_zret hx hb hr hlocks hO rfl dX7_isLeaf_15
    · have h := ite_f c2 h
      refine lv_iconst (v := 1) hx hb dX7_isLeaf_10 (by decide) ?_
      refine lv_goto (tgt := 15) hx hb dX7_isLeaf_11 (by decide) ?_
      obtain ⟨rfl, rfl⟩ := ret2 h; exact cw_zret hx hb hr hlocks hO rfl dX7_isLeaf_15
-- CW sumFits
def j_CW_sumFits (a0 : Int64) (a2 : Int64) (st : CwS) : Option (Int32 × CwS) :=
  if (lg_cmp ((a0 ^^^ (a0 + a2)) &&& (a2 ^^^ (a0 + a2))) ((0 : Int64))) < ((0 : Int32)) then
    some ((0 : Int32), st)
  else
    some ((1 : Int32), st)
set_option maxHeartbeats 4000000 in
set_option maxRecDepth 100000 in
theorem c_CW_sumFits (l : Launch) (D : va_G) (A : Nat → Prop) (ad : Nat → Nat) (cA : Nat → ClassId) (tb0 tb1 : Nat) (a0 : Int64) (a2 : Int64) (st : CwS) (r : Int32) (st' : CwS) (h : j_CW_sumFits a0 a2 st = some (r, st')) : Met l yX7_sumFits (wv yX7_sumFits cX7_sumFits 6 (some .boolean)) ({ frames := 0, cells := 0, slots := 0, locals := 0 }) (va_Pc [.long a0, .long a2] (cwU D A ad cA tb0 tb1 st)) (cwQi D A ad cA tb0 tb1 r st') 0 0 A := by
  refine Met.ofW (cc := cX7_sumFits) (maxL := 6) (ret := some .boolean) (by decide) rfl ?_
  intro p e s m args below meth c s₁ B hml hv
  obtain ⟨rfl, hP, hK⟩ := hv
  have hx := B.exec
  have hb := B.bytes
  have hr := B.returns
  have hts := atoms_spec (ws := wv yX7_sumFits cX7_sumFits 6 (some .boolean)) B.pre
  have hown : s.vm.findClass RX7 = some m.cls := findClass_of_methodNamed B.named
  have hlocks := B.notSynchronized
  have hO : cwO D A ad cA s st s.heap [] := ⟨hP, va_S.rf⟩
  have hl := lv_entry ([.long a0, .long a2]) (n := 6) (Nat.le_of_ble_eq_true rfl)
  rw [lg_entry_eq]
  generalize (lg_sl ([.long a0, .long a2]) ++ List.replicate (6 - (lg_sl ([.long a0, .long a2])).length) Slot.unset).toArray = ls at hl ⊢
  have hl : lv_has ls 6 [(0, .long a0), (2, .long a2)] := hl
  have _h0 := hO
  have hgw := fun (w : Cond) (h : w ∈ gwW) => hts w (List.mem_cons_of_mem _ h)
  unfold j_CW_sumFits at h
  refine lv_lload_n hx hb dX7_sumFits_0 rfl (lv_at hl 0 rfl) ?_
  refine lv_lload_n hx hb dX7_sumFits_1 rfl (lv_at hl 1 rfl) ?_
  refine lv_ladd hx hb dX7_sumFits_2 ?_
  refine lv_lstore (lv' := [(4, .long (a0 + a2)), (0, .long a0), (2, .long a2)]) hx hb dX7_sumFits_3 hl (by decide) rfl (fun ls hl => ?_)
  refine lv_lload_n hx hb dX7_sumFits_5 rfl (lv_at hl 1 rfl) ?_
  refine lv_lload hx hb dX7_sumFits_6 (lv_at hl 0 rfl) ?_
  refine lv_lxor hx hb dX7_sumFits_8 ?_
  refine lv_lload_n hx hb dX7_sumFits_9 rfl (lv_at hl 2 rfl) ?_
  refine lv_lload hx hb dX7_sumFits_10 (lv_at hl 0 rfl) ?_
  refine lv_lxor hx hb dX7_sumFits_12 ?_
  refine lv_land hx hb dX7_sumFits_13 ?_
  refine lv_lconst (v := 0) hx hb dX7_sumFits_14 (by decide) ?_
  refine W.lcmp hx hb dX7_sumFits_15 ?_
  refine lv_if_lt (tgt := 23) hx hb dX7_sumFits_16 (by decide) (fun c1 => ?_) (fun c1 => ?_)
  · have h := ite_t c1 h
    refine lv_iconst (v := 0) hx hb dX7_sumFits_23 (by decide) ?_
    obtain ⟨rfl, rfl⟩ := ret2 h; exact cw_zret hx hb hr hlocks hO rfl dX7_sumFits_24
  · have h := ite_f c1 h
    refine lv_iconst (v := 1) hx hb dX7_sumFits_19 (by decide) ?_
    refine lv_goto (tgt := 24) hx hb dX7_sumFits_20 (by decide) ?_
    obtain ⟨rfl, rfl⟩ := ret2 h; exact cw_zret hx hb hr hlocks hO rfl dX7_sumFits_24
-- CW differenceFits
def j_CW_differenceFits (a0 : Int64) (a2 : Int64) (st : CwS) : Option (Int32 × CwS) :=
  if (lg_cmp ((a0 ^^^ a2) &&& (a0 ^^^ (a0 - a2))) ((0 : Int64))) < ((0 : Int32)) then
    some ((0 : Int32), st)
  else
    some ((1 : Int32), st)
set_option maxHeartbeats 4000000 in
set_option maxRecDepth 100000 in
theorem c_CW_differenceFits (l : Launch) (D : va_G) (A : Nat → Prop) (ad : Nat → Nat) (cA : Nat → ClassId) (tb0 tb1 : Nat) (a0 : Int64) (a2 : Int64) (st : CwS) (r : Int32) (st' : CwS) (h : j_CW_differenceFits a0 a2 st = some (r, st')) : Met l yX7_differenceFits (wv yX7_differenceFits cX7_differenceFits 6 (some .boolean)) ({ frames := 0, cells := 0, slots := 0, locals := 0 }) (va_Pc [.long a0, .long a2] (cwU D A ad cA tb0 tb1 st)) (cwQi D A ad cA tb0 tb1 r st') 0 0 A := by
  refine Met.ofW (cc := cX7_differenceFits) (maxL := 6) (ret := some .boolean) (by decide) rfl ?_
  intro p e s m args below meth c s₁ B hml hv
  obtain ⟨rfl, hP, hK⟩ := hv
  have hx := B.exec
  have hb := B.bytes
  have hr := B.returns
  have hts := atoms_spec (ws := wv yX7_differenceFits cX7_differenceFits 6 (some .boolean)) B.pre
  have hown : s.vm.findClass RX7 = some m.cls := findClass_of_methodNamed B.named
  have hlocks := B.notSynchronized
  have hO : cwO D A ad cA s st s.heap [] := ⟨hP, va_S.rf⟩
  have hl := lv_entry ([.long a0, .long a2]) (n := 6) (Nat.le_of_ble_eq_true rfl)
  rw [lg_entry_eq]
  generalize (lg_sl ([.long a0, .long a2]) ++ List.replicate (6 - (lg_sl ([.long a0, .long a2])).length) Slot.unset).toArray = ls at hl ⊢
  have hl : lv_has ls 6 [(0, .long a0), (2, .long a2)] := hl
  have _h0 := hO
  have hgw := fun (w : Cond) (h : w ∈ gwW) => hts w (List.mem_cons_of_mem _ h)
  unfold j_CW_differenceFits at h
  refine lv_lload_n hx hb dX7_differenceFits_0 rfl (lv_at hl 0 rfl) ?_
  refine lv_lload_n hx hb dX7_differenceFits_1 rfl (lv_at hl 1 rfl) ?_
  refine lv_lsub hx hb dX7_differenceFits_2 ?_
  refine lv_lstore (lv' := [(4, .long (a0 - a2)), (0, .long a0), (2, .long a2)]) hx hb dX7_differenceFits_3 hl (by decide) rfl (fun ls hl => ?_)
  refine lv_lload_n hx hb dX7_differenceFits_5 rfl (lv_at hl 1 rfl) ?_
  refine lv_lload_n hx hb dX7_differenceFits_6 rfl (lv_at hl 2 rfl) ?_
  refine lv_lxor hx hb dX7_differenceFits_7 ?_
  refine lv_lload_n hx hb dX7_differenceFits_8 rfl (lv_at hl 1 rfl) ?_
  refine lv_lload hx hb dX7_differenceFits_9 (lv_at hl 0 rfl) ?_
  refine lv_lxor hx hb dX7_differenceFits_11 ?_
  refine lv_land hx hb dX7_differenceFits_12 ?_
  refine lv_lconst (v := 0) hx hb dX7_differenceFits_13 (by decide) ?_
  refine W.lcmp hx hb dX7_differenceFits_14 ?_
  refine lv_if_lt (tgt := 22) hx hb dX7_differenceFits_15 (by decide) (fun c1 => ?_) (fun c1 => ?_)
  · have h := ite_t c1 h
    refine lv_iconst (v := 0) hx hb dX7_differenceFits_22 (by decide) ?_
    obtain ⟨rfl, rfl⟩ := ret2 h; exact cw_zret hx hb hr hlocks hO rfl dX7_differenceFits_23
  · have h := ite_f c1 h
    refine lv_iconst (v := 1) hx hb dX7_differenceFits_18 (by decide) ?_
    refine lv_goto (tgt := 23) hx hb dX7_differenceFits_19 (by decide) ?_
    obtain ⟨rfl, rfl⟩ := ret2 h; exact cw_zret hx hb hr hlocks hO rfl dX7_differenceFits_23
-- CW productFits
def j_CW_productFits (a0 : Int64) (a2 : Int64) (st : CwS) : Option (Int32 × CwS) :=
  if (lg_cmp a0 ((0 : Int64))) = ((0 : Int32)) then
    some ((1 : Int32), st)
  else
    if (lg_cmp a0 ((-1 : Int64))) = ((0 : Int32)) then
      if (lg_cmp a2 ((-9223372036854775808 : Int64))) = ((0 : Int32)) then
        some ((0 : Int32), st)
      else
        some ((1 : Int32), st)
    else
      ck (!(decide (a0 = 0))) <|
      if (lg_cmp ((a0 * a2) / a0) a2) = ((0 : Int32)) then
        some ((1 : Int32), st)
      else
        some ((0 : Int32), st)
set_option maxHeartbeats 4000000 in
set_option maxRecDepth 100000 in
theorem c_CW_productFits (l : Launch) (D : va_G) (A : Nat → Prop) (ad : Nat → Nat) (cA : Nat → ClassId) (tb0 tb1 : Nat) (a0 : Int64) (a2 : Int64) (st : CwS) (r : Int32) (st' : CwS) (h : j_CW_productFits a0 a2 st = some (r, st')) : Met l yX7_productFits (wv yX7_productFits cX7_productFits 4 (some .boolean)) ({ frames := 0, cells := 0, slots := 0, locals := 0 }) (va_Pc [.long a0, .long a2] (cwU D A ad cA tb0 tb1 st)) (cwQi D A ad cA tb0 tb1 r st') 0 0 A := by
  refine Met.ofW (cc := cX7_productFits) (maxL := 4) (ret := some .boolean) (by decide) rfl ?_
  intro p e s m args below meth c s₁ B hml hv
  obtain ⟨rfl, hP, hK⟩ := hv
  have hx := B.exec
  have hb := B.bytes
  have hr := B.returns
  have hts := atoms_spec (ws := wv yX7_productFits cX7_productFits 4 (some .boolean)) B.pre
  have hown : s.vm.findClass RX7 = some m.cls := findClass_of_methodNamed B.named
  have hlocks := B.notSynchronized
  have hO : cwO D A ad cA s st s.heap [] := ⟨hP, va_S.rf⟩
  have hl := lv_entry ([.long a0, .long a2]) (n := 4) (Nat.le_of_ble_eq_true rfl)
  rw [lg_entry_eq]
  generalize (lg_sl ([.long a0, .long a2]) ++ List.replicate (4 - (lg_sl ([.long a0, .long a2])).length) Slot.unset).toArray = ls at hl ⊢
  have hl : lv_has ls 4 [(0, .long a0), (2, .long a2)] := hl
  have _h0 := hO
  have hgw := fun (w : Cond) (h : w ∈ gwW) => hts w (List.mem_cons_of_mem _ h)
  have k98 := hgw _ w_b5052a64
  have k102 := hgw _ w_1cc8c3fa
  unfold j_CW_productFits at h
  refine lv_lload_n hx hb dX7_productFits_0 rfl (lv_at hl 0 rfl) ?_
  refine lv_lconst (v := 0) hx hb dX7_productFits_1 (by decide) ?_
  refine W.lcmp hx hb dX7_productFits_2 ?_
  refine lv_if_ne (tgt := 8) hx hb dX7_productFits_3 (by decide) (fun c1 => ?_) (fun c1 => ?_)
  · have h := ite_f c1 h
    refine lv_lload_n hx hb dX7_productFits_8 rfl (lv_at hl 0 rfl) ?_
    refine lv_ldc2 hx hb hown k98 dX7_productFits_9 ?_
    refine W.lcmp hx hb dX7_productFits_12 ?_
    refine lv_if_ne (tgt := 30) hx hb dX7_productFits_13 (by decide) (fun c2 => ?_) (fun c2 => ?_)
    · have h := ite_f c2 h
      refine lv_lload_n hx hb dX7_productFits_30 rfl (lv_at hl 0 rfl) ?_
      refine lv_lload_n hx hb dX7_productFits_31 rfl (lv_at hl 1 rfl) ?_
      refine lv_lmul hx hb dX7_productFits_32 ?_
      refine lv_lload_n hx hb dX7_productFits_33 rfl (lv_at hl 0 rfl) ?_
      obtain ⟨hc3, h⟩ := ck_some h
      refine lv_ldiv hx hb dX7_productFits_34 (ck_ne hc3) ?_
      refine lv_lload_n hx hb dX7_productFits_35 rfl (lv_at hl 1 rfl) ?_
      refine W.lcmp hx hb dX7_productFits_36 ?_
      refine lv_if_ne (tgt := 44) hx hb dX7_productFits_37 (by decide) (fun c4 => ?_) (fun c4 => ?_)
      · have h := ite_f c4 h
        refine lv_iconst (v := 0) hx hb dX7_productFits_44 (by decide) ?_
        obtain ⟨rfl, rfl⟩ := ret2 h; exact cw_zret hx hb hr hlocks hO rfl dX7_productFits_45
      · have h := ite_t c4 h
        refine lv_iconst (v := 1) hx hb dX7_productFits_40 (by decide) ?_
        refine lv_goto (tgt := 45) hx hb dX7_productFits_41 (by decide) ?_
        obtain ⟨rfl, rfl⟩ := ret2 h; exact cw_zret hx hb hr hlocks hO rfl dX7_productFits_45
    · have h := ite_t c2 h
      refine lv_lload_n hx hb dX7_productFits_16 rfl (lv_at hl 1 rfl) ?_
      refine lv_ldc2 hx hb hown k102 dX7_productFits_17 ?_
      refine W.lcmp hx hb dX7_productFits_20 ?_
      refine lv_if_eq (tgt := 28) hx hb dX7_productFits_21 (by decide) (fun c5 => ?_) (fun c5 => ?_)
      · have h := ite_t c5 h
        refine lv_iconst (v := 0) hx hb dX7_productFits_28 (by decide) ?_
        obtain ⟨rfl, rfl⟩ := ret2 h; exact cw_zret hx hb hr hlocks hO rfl dX7_productFits_29
      · have h := ite_f c5 h
        refine lv_iconst (v := 1) hx hb dX7_productFits_24 (by decide) ?_
        refine lv_goto (tgt := 29) hx hb dX7_productFits_25 (by decide) ?_
        obtain ⟨rfl, rfl⟩ := ret2 h; exact cw_zret hx hb hr hlocks hO rfl dX7_productFits_29
  · have h := ite_t c1 h
    refine lv_iconst (v := 1) hx hb dX7_productFits_6 (by decide) ?_
    obtain ⟨rfl, rfl⟩ := ret2 h; exact cw_zret hx hb hr hlocks hO rfl dX7_productFits_7
end
section
-- Walk op-en
def j_Walk_open (a1 : Nat) (a2 : Int32) (a3 : Int32) (a4 : Int32) (st : CwS) : Option (Nat × CwS) :=
  bV (j_Ledger_keep (gI st 8 0 0) st) fun st2 =>
  ck (ix (gI st2 8 0 0) 10) <|
  ck (ix ((0 : Int32)) 5) <|
  bV (j_Frame_begin ((gI st2 8 0 0).toNatClampNeg) a1 a2 a3 ((gI st2 7 0 (((0 : Int32)).toNatClampNeg)) + a4) st2) fun st7 =>
  ck (ix ((2 : Int32)) 5) <|
  ck (ix ((2 : Int32)) 5) <|
  some ((gI st2 8 0 0).toNatClampNeg, sI (sI st7 8 0 0 ((gI st7 8 0 0) + ((1 : Int32)))) 7 0 (((2 : Int32)).toNatClampNeg) (if (gI (sI st7 8 0 0 ((gI st7 8 0 0) + ((1 : Int32)))) 7 0 (((2 : Int32)).toNatClampNeg)) < (gI (sI st7 8 0 0 ((gI st7 8 0 0) + ((1 : Int32)))) 8 0 0) then (gI (sI st7 8 0 0 ((gI st7 8 0 0) + ((1 : Int32)))) 8 0 0) else (gI (sI st7 8 0 0 ((gI st7 8 0 0) + ((1 : Int32)))) 7 0 (((2 : Int32)).toNatClampNeg))))
set_option maxHeartbeats 4000000 in
set_option maxRecDepth 100000 in
theorem c_Walk_open (l : Launch) (D : va_G) (A : Nat → Prop) (ad : Nat → Nat) (cA : Nat → ClassId) (tb0 tb1 : Nat) (a1 : Nat) (ha1 : a1 < 48) (a2 : Int32) (a3 : Int32) (a4 : Int32) (st : CwS) (r : Nat) (st' : CwS) (h : j_Walk_open a1 a2 a3 a4 st = some (r, st')) : Met l yX6_open (wv yX6_open cX6_open 6 (some (.object "CallWalker$Frame"))) ({ frames := 2, cells := 0, slots := 0, locals := 61 }) (va_Pc [.ref (ad 176), .ref (ad (4 + 3 * a1)), .int a2, .int a3, .int a4] (cwU D A ad cA tb0 tb1 st)) (cwQr D A ad cA tb0 tb1 (179 + 9 * r) st') 0 0 A := by
  refine Met.ofW (cc := cX6_open) (maxL := 6) (ret := some (.object "CallWalker$Frame")) (by decide) rfl ?_
  intro p e s m args below meth c s₁ B hml hv
  obtain ⟨rfl, hP, hK⟩ := hv
  have hx := B.exec
  have hb := B.bytes
  have hr := B.returns
  have hts := atoms_spec (ws := wv yX6_open cX6_open 6 (some (.object "CallWalker$Frame"))) B.pre
  have hown : s.vm.findClass RX6 = some m.cls := findClass_of_methodNamed B.named
  have hlocks := B.notSynchronized
  have hO : cwO D A ad cA s st s.heap [] := ⟨hP, va_S.rf⟩
  have hl := lv_entry ([.ref (ad 176), .ref (ad (4 + 3 * a1)), .int a2, .int a3, .int a4]) (n := 6) (Nat.le_of_ble_eq_true rfl)
  rw [lg_entry_eq]
  generalize (lg_sl ([.ref (ad 176), .ref (ad (4 + 3 * a1)), .int a2, .int a3, .int a4]) ++ List.replicate (6 - (lg_sl ([.ref (ad 176), .ref (ad (4 + 3 * a1)), .int a2, .int a3, .int a4])).length) Slot.unset).toArray = ls at hl ⊢
  have hl : lv_has ls 6 [(0, .ref (ad 176)), (1, .ref (ad (4 + 3 * a1))), (2, .int a2), (3, .int a3), (4, .int a4)] := hl
  have _h0 := hO
  have hgw := fun (w : Cond) (h : w ∈ gwW) => hts w (List.mem_cons_of_mem _ h)
  have k11 := hgw _ w_4a27d2bd
  have k17 := hgw _ w_b50feff6
  have k21 := hgw _ w_b62a6067
  have k36 := hgw _ w_4f54f888
  have k85 := hgw _ w_adbda9fd
  unfold j_Walk_open at h
  refine lv_aload_n hx hb dX6_open_0 rfl (lv_at hl 0 rfl) ?_
  refine gf_Walk_ledger hx hb hgw iwWalk hown hK hO k36 dX6_open_1 ?_
  refine lv_aload_n hx hb dX6_open_4 rfl (lv_at hl 0 rfl) ?_
  refine gf_Walk_depth hx hb hgw iwWalk hown hK hO k21 dX6_open_5 ?_
  obtain ⟨st2, h3, h⟩ := bV_some h
  refine cw_callv (va_runV (As := [.int (gI st 8 0 0)]) (rest := []) ⟨hx, hb, hml, hown, hts⟩ (c_Ledger_keep l D A ad cA tb0 tb1 (gI st 8 0 0) st st2 h3) (cwV 1 hts (gw_V w_794f36c5 w_0811af9b w_cac76b74 w_7f12e8e2 w_9f2ad499) rfl rfl rfl (by decide +kernel) ⟨Nat.le_of_ble_eq_true rfl, Nat.le_of_ble_eq_true rfl⟩) (cw_preV (k := 148) (ci := 3) hK hO rfl (by decide) (cc_Ledger)) rfl rfl hl.1 rfl (lv_room (Nat.le_of_ble_eq_true rfl)) dX6_open_8 ⟨Nat.zero_le _, Nat.zero_le _⟩) hO (fun H locs hO => ?_)
  refine lv_aload_n hx hb dX6_open_11 rfl (lv_at hl 0 rfl) ?_
  refine gf_Walk_frames hx hb hgw iwWalk hown hK hO k11 dX6_open_12 ?_
  refine lv_aload_n hx hb dX6_open_15 rfl (lv_at hl 0 rfl) ?_
  refine gf_Walk_depth hx hb hgw iwWalk hown hK hO k21 dX6_open_16 ?_
  obtain ⟨hc4, h⟩ := ck_some h
  refine al_FrArr hx hb hK hO hc4 dX6_open_19 ?_
  refine lv_astore (lv' := [(5, .ref (ad (179 + 9 * (gI st2 8 0 0).toNatClampNeg))), (0, .ref (ad 176)), (1, .ref (ad (4 + 3 * a1))), (2, .int a2), (3, .int a3), (4, .int a4)]) hx hb dX6_open_20 hl (by decide) rfl (fun ls hl => ?_)
  refine lv_aload hx hb dX6_open_22 (lv_at hl 0 rfl) ?_
  refine lv_aload_n hx hb dX6_open_24 rfl (lv_at hl 2 rfl) ?_
  refine lv_iload_n hx hb dX6_open_25 rfl (lv_at hl 3 rfl) ?_
  refine lv_iload_n hx hb dX6_open_26 rfl (lv_at hl 4 rfl) ?_
  refine lv_aload_n hx hb dX6_open_27 rfl (lv_at hl 1 rfl) ?_
  refine gf_Walk_counts hx hb hgw iwWalk hown hK hO k17 dX6_open_28 ?_
  refine lv_iconst (v := 0) hx hb dX6_open_31 (by decide) ?_
  obtain ⟨hc5, h⟩ := ck_some h
  refine al_Counts hx hb hK hO hc5 dX6_open_32 ?_
  refine lv_iload hx hb dX6_open_33 (lv_at hl 5 rfl) ?_
  refine lv_iadd hx hb dX6_open_35 ?_
  obtain ⟨st7, h8, h⟩ := bV_some h
  refine cw_callv (va_runV (As := [.ref (ad (4 + 3 * a1)), .int a2, .int a3, .int ((gI st2 7 0 (((0 : Int32)).toNatClampNeg)) + a4)]) (rest := []) ⟨hx, hb, hml, hown, hts⟩ (c_Frame_begin l D A ad cA tb0 tb1 ((gI st2 8 0 0).toNatClampNeg) (ix_lt hc4) a1 ha1 a2 a3 ((gI st2 7 0 (((0 : Int32)).toNatClampNeg)) + a4) st2 st7 h8) (cwV 4 hts (gw_V w_73c44b14 w_05f823c4 w_0b708e23 w_aeeb22ff w_8869f1ce) rfl rfl rfl (by decide +kernel) ⟨Nat.le_of_ble_eq_true rfl, Nat.le_of_ble_eq_true rfl⟩) (cw_preV (k := 179 + 9 * (gI st2 8 0 0).toNatClampNeg) (ci := 2) hK hO rfl (by have := (ix_lt hc4); omega) (cc_Frame (ix_lt hc4))) rfl rfl hl.1 rfl (lv_room (Nat.le_of_ble_eq_true rfl)) dX6_open_36 ⟨Nat.zero_le _, Nat.zero_le _⟩) hO (fun H locs hO => ?_)
  refine lv_aload_n hx hb dX6_open_39 rfl (lv_at hl 1 rfl) ?_
  refine lv_dup hx hb dX6_open_40 rfl ?_
  refine gf_Walk_depth hx hb hgw iwWalk hown hK hO k21 dX6_open_41 ?_
  refine lv_iconst (v := 1) hx hb dX6_open_44 (by decide) ?_
  refine lv_iadd hx hb dX6_open_45 ?_
  refine pf_Walk_depth hx hb hgw iwWalk hown hK hO k21 dX6_open_46 (fun H locs hO => ?_)
  refine lv_aload_n hx hb dX6_open_49 rfl (lv_at hl 1 rfl) ?_
  refine gf_Walk_counts hx hb hgw iwWalk hown hK hO k17 dX6_open_50 ?_
  refine lv_iconst (v := 2) hx hb dX6_open_53 (by decide) ?_
  refine lv_aload_n hx hb dX6_open_54 rfl (lv_at hl 1 rfl) ?_
  refine gf_Walk_counts hx hb hgw iwWalk hown hK hO k17 dX6_open_55 ?_
  refine lv_iconst (v := 2) hx hb dX6_open_58 (by decide) ?_
  obtain ⟨hc9, h⟩ := ck_some h
  refine al_Counts hx hb hK hO hc9 dX6_open_59 ?_
  refine lv_aload_n hx hb dX6_open_60 rfl (lv_at hl 1 rfl) ?_
  refine gf_Walk_depth hx hb hgw iwWalk hown hK hO k21 dX6_open_61 ?_
  refine va_mmax hx hb (by rw [hml]; exact hl.1.symm) hown k85 (hgw _ w_80a2ec50) (hgw _ w_868a9286) (hgw _ w_b6349a14) (Nat.le_of_ble_eq_true rfl) (Nat.le_of_ble_eq_true rfl) (Nat.zero_le _) (Nat.zero_le _) dX6_open_64 ?_
  obtain ⟨hc10, h⟩ := ck_some h
  refine as_Counts hx hb hK hO hc10 dX6_open_67 (fun H locs hO => ?_)
  refine lv_aload hx hb dX6_open_68 (lv_at hl 0 rfl) ?_
  obtain ⟨rfl, rfl⟩ := ret2 h; exact cw_aret hx hb hr ⟨_, rfl⟩ hlocks hO dX6_open_70
-- Walk endWell
def j_Walk_endWell (a1 : Int64) (st : CwS) : Option CwS :=
  ck (ix ((3 : Int32)) 5) <|
  ck (ix ((3 : Int32)) 5) <|
  if (gI (sI (sI st 7 0 (((3 : Int32)).toNatClampNeg) ((gI st 7 0 (((3 : Int32)).toNatClampNeg)) + ((1 : Int32)))) 8 0 0 ((gI (sI st 7 0 (((3 : Int32)).toNatClampNeg) ((gI st 7 0 (((3 : Int32)).toNatClampNeg)) + ((1 : Int32)))) 8 0 0) - ((1 : Int32)))) 8 0 0) ≤ ((0 : Int32)) then
    some (sL (sI (sI st 7 0 (((3 : Int32)).toNatClampNeg) ((gI st 7 0 (((3 : Int32)).toNatClampNeg)) + ((1 : Int32)))) 8 0 0 ((gI (sI st 7 0 (((3 : Int32)).toNatClampNeg) ((gI st 7 0 (((3 : Int32)).toNatClampNeg)) + ((1 : Int32)))) 8 0 0) - ((1 : Int32)))) 5 0 0 a1)
  else
    ck (ix ((gI (sI (sI st 7 0 (((3 : Int32)).toNatClampNeg) ((gI st 7 0 (((3 : Int32)).toNatClampNeg)) + ((1 : Int32)))) 8 0 0 ((gI (sI st 7 0 (((3 : Int32)).toNatClampNeg) ((gI st 7 0 (((3 : Int32)).toNatClampNeg)) + ((1 : Int32)))) 8 0 0) - ((1 : Int32)))) 8 0 0) - ((1 : Int32))) 10) <|
    bR (j_Pile_putNumber (((gI (sI (sI st 7 0 (((3 : Int32)).toNatClampNeg) ((gI st 7 0 (((3 : Int32)).toNatClampNeg)) + ((1 : Int32)))) 8 0 0 ((gI (sI st 7 0 (((3 : Int32)).toNatClampNeg) ((gI st 7 0 (((3 : Int32)).toNatClampNeg)) + ((1 : Int32)))) 8 0 0) - ((1 : Int32)))) 8 0 0) - ((1 : Int32))).toNatClampNeg) a1 (sI (sI st 7 0 (((3 : Int32)).toNatClampNeg) ((gI st 7 0 (((3 : Int32)).toNatClampNeg)) + ((1 : Int32)))) 8 0 0 ((gI (sI st 7 0 (((3 : Int32)).toNatClampNeg) ((gI st 7 0 (((3 : Int32)).toNatClampNeg)) + ((1 : Int32)))) 8 0 0) - ((1 : Int32))))) fun r5 st6 =>
    some st6
set_option maxHeartbeats 4000000 in
set_option maxRecDepth 100000 in
theorem c_Walk_endWell (l : Launch) (D : va_G) (A : Nat → Prop) (ad : Nat → Nat) (cA : Nat → ClassId) (tb0 tb1 : Nat) (a1 : Int64) (st : CwS) (st' : CwS) (h : j_Walk_endWell a1 st = some st') : Met l yX6_endWell (wv yX6_endWell cX6_endWell 3 (none)) ({ frames := 2, cells := 0, slots := 0, locals := 45 }) (va_Pc [.ref (ad 176), .long a1] (cwU D A ad cA tb0 tb1 st)) (cwQv D A ad cA tb0 tb1 st') 0 0 A := by
  refine Met.ofW (cc := cX6_endWell) (maxL := 3) (ret := none) (by decide) rfl ?_
  intro p e s m args below meth c s₁ B hml hv
  obtain ⟨rfl, hP, hK⟩ := hv
  have hx := B.exec
  have hb := B.bytes
  have hr := B.returns
  have hts := atoms_spec (ws := wv yX6_endWell cX6_endWell 3 (none)) B.pre
  have hown : s.vm.findClass RX6 = some m.cls := findClass_of_methodNamed B.named
  have hlocks := B.notSynchronized
  have hO : cwO D A ad cA s st s.heap [] := ⟨hP, va_S.rf⟩
  have hl := lv_entry ([.ref (ad 176), .long a1]) (n := 3) (Nat.le_of_ble_eq_true rfl)
  rw [lg_entry_eq]
  generalize (lg_sl ([.ref (ad 176), .long a1]) ++ List.replicate (3 - (lg_sl ([.ref (ad 176), .long a1])).length) Slot.unset).toArray = ls at hl ⊢
  have hl : lv_has ls 3 [(0, .ref (ad 176)), (1, .long a1)] := hl
  have _h0 := hO
  have hgw := fun (w : Cond) (h : w ∈ gwW) => hts w (List.mem_cons_of_mem _ h)
  have k11 := hgw _ w_4a27d2bd
  have k17 := hgw _ w_b50feff6
  have k21 := hgw _ w_b62a6067
  have k28 := hgw _ w_0e7c3207
  have k62 := hgw _ w_115d9ac3
  unfold j_Walk_endWell at h
  refine lv_aload_n hx hb dX6_endWell_0 rfl (lv_at hl 0 rfl) ?_
  refine gf_Walk_counts hx hb hgw iwWalk hown hK hO k17 dX6_endWell_1 ?_
  refine lv_iconst (v := 3) hx hb dX6_endWell_4 (by decide) ?_
  refine lv_dup2_11 hx hb dX6_endWell_5 rfl rfl ?_
  obtain ⟨hc1, h⟩ := ck_some h
  refine al_Counts hx hb hK hO hc1 dX6_endWell_6 ?_
  refine lv_iconst (v := 1) hx hb dX6_endWell_7 (by decide) ?_
  refine lv_iadd hx hb dX6_endWell_8 ?_
  obtain ⟨hc2, h⟩ := ck_some h
  refine as_Counts hx hb hK hO hc2 dX6_endWell_9 (fun H locs hO => ?_)
  refine lv_aload_n hx hb dX6_endWell_10 rfl (lv_at hl 0 rfl) ?_
  refine lv_dup hx hb dX6_endWell_11 rfl ?_
  refine gf_Walk_depth hx hb hgw iwWalk hown hK hO k21 dX6_endWell_12 ?_
  refine lv_iconst (v := 1) hx hb dX6_endWell_15 (by decide) ?_
  refine lv_isub hx hb dX6_endWell_16 ?_
  refine pf_Walk_depth hx hb hgw iwWalk hown hK hO k21 dX6_endWell_17 (fun H locs hO => ?_)
  refine lv_aload_n hx hb dX6_endWell_20 rfl (lv_at hl 0 rfl) ?_
  refine gf_Walk_depth hx hb hgw iwWalk hown hK hO k21 dX6_endWell_21 ?_
  refine lv_if_le (tgt := 49) hx hb dX6_endWell_24 (by decide) (fun c3 => ?_) (fun c3 => ?_)
  · have h := ite_t c3 h
    refine lv_aload_n hx hb dX6_endWell_49 rfl (lv_at hl 0 rfl) ?_
    refine lv_lload_n hx hb dX6_endWell_50 rfl (lv_at hl 1 rfl) ?_
    refine pf_Walk_result hx hb hgw iwWalk hown hK hO k28 dX6_endWell_51 (fun H locs hO => ?_)
    cases h; exact cw_vret hx hb hr hlocks hO dX6_endWell_54
  · have h := ite_f c3 h
    refine lv_aload_n hx hb dX6_endWell_27 rfl (lv_at hl 0 rfl) ?_
    refine gf_Walk_frames hx hb hgw iwWalk hown hK hO k11 dX6_endWell_28 ?_
    refine lv_aload_n hx hb dX6_endWell_31 rfl (lv_at hl 0 rfl) ?_
    refine gf_Walk_depth hx hb hgw iwWalk hown hK hO k21 dX6_endWell_32 ?_
    refine lv_iconst (v := 1) hx hb dX6_endWell_35 (by decide) ?_
    refine lv_isub hx hb dX6_endWell_36 ?_
    obtain ⟨hc4, h⟩ := ck_some h
    refine al_FrArr hx hb hK hO hc4 dX6_endWell_37 ?_
    refine gf_Frame_pile hx hb hgw iwFrame hown hK hO (ix_lt hc4) k62 dX6_endWell_38 ?_
    refine lv_lload_n hx hb dX6_endWell_41 rfl (lv_at hl 1 rfl) ?_
    obtain ⟨r5, st6, h7, h⟩ := bR_some h
    refine cw_calli (va_runV (As := [.long a1]) (rest := []) ⟨hx, hb, hml, hown, hts⟩ (c_Pile_putNumber l D A ad cA tb0 tb1 (((gI (sI (sI st 7 0 (((3 : Int32)).toNatClampNeg) ((gI st 7 0 (((3 : Int32)).toNatClampNeg)) + ((1 : Int32)))) 8 0 0 ((gI (sI st 7 0 (((3 : Int32)).toNatClampNeg) ((gI st 7 0 (((3 : Int32)).toNatClampNeg)) + ((1 : Int32)))) 8 0 0) - ((1 : Int32)))) 8 0 0) - ((1 : Int32))).toNatClampNeg) (ix_lt hc4) a1 (sI (sI st 7 0 (((3 : Int32)).toNatClampNeg) ((gI st 7 0 (((3 : Int32)).toNatClampNeg)) + ((1 : Int32)))) 8 0 0 ((gI (sI st 7 0 (((3 : Int32)).toNatClampNeg) ((gI st 7 0 (((3 : Int32)).toNatClampNeg)) + ((1 : Int32)))) 8 0 0) - ((1 : Int32)))) r5 st6 h7) (cwV 1 hts (gw_V w_8fddbe94 w_34c9ad22 w_9e5e849e w_76c797a4 w_03086df0) rfl rfl rfl (by decide +kernel) ⟨Nat.le_of_ble_eq_true rfl, Nat.le_of_ble_eq_true rfl⟩) (cw_preV (k := 182 + 9 * ((gI (sI (sI st 7 0 (((3 : Int32)).toNatClampNeg) ((gI st 7 0 (((3 : Int32)).toNatClampNeg)) + ((1 : Int32)))) 8 0 0 ((gI (sI st 7 0 (((3 : Int32)).toNatClampNeg) ((gI st 7 0 (((3 : Int32)).toNatClampNeg)) + ((1 : Int32)))) 8 0 0) - ((1 : Int32)))) 8 0 0) - ((1 : Int32))).toNatClampNeg) (ci := 4) hK hO rfl (by have := (ix_lt hc4); omega) (cc_Pile (ix_lt hc4))) rfl rfl hl.1 rfl (lv_room (Nat.le_of_ble_eq_true rfl)) dX6_endWell_42 ⟨Nat.zero_le _, Nat.zero_le _⟩) hO (fun H locs hO => ?_)
    refine lv_pop hx hb dX6_endWell_45 rfl ?_
    refine lv_goto (tgt := 54) hx hb dX6_endWell_46 (by decide) ?_
    cases h; exact cw_vret hx hb hr hlocks hO dX6_endWell_54
-- Walk undoTo
def j_Walk_undoTo (a1 : Int32) (st : CwS) : Option CwS :=
  ck (ix ((4 : Int32)) 5) <|
  ck (ix ((4 : Int32)) 5) <|
  bV (j_Ledger_restore a1 (sI st 7 0 (((4 : Int32)).toNatClampNeg) ((gI st 7 0 (((4 : Int32)).toNatClampNeg)) + ((gI st 8 0 0) - a1)))) fun st4 =>
  some (sI st4 8 0 0 a1)
set_option maxHeartbeats 4000000 in
set_option maxRecDepth 100000 in
theorem c_Walk_undoTo (l : Launch) (D : va_G) (A : Nat → Prop) (ad : Nat → Nat) (cA : Nat → ClassId) (tb0 tb1 : Nat) (a1 : Int32) (st : CwS) (st' : CwS) (h : j_Walk_undoTo a1 st = some st') : Met l yX6_undoTo (wv yX6_undoTo cX6_undoTo 2 (none)) ({ frames := 2, cells := 0, slots := 0, locals := 61 }) (va_Pc [.ref (ad 176), .int a1] (cwU D A ad cA tb0 tb1 st)) (cwQv D A ad cA tb0 tb1 st') 0 0 A := by
  refine Met.ofW (cc := cX6_undoTo) (maxL := 2) (ret := none) (by decide) rfl ?_
  intro p e s m args below meth c s₁ B hml hv
  obtain ⟨rfl, hP, hK⟩ := hv
  have hx := B.exec
  have hb := B.bytes
  have hr := B.returns
  have hts := atoms_spec (ws := wv yX6_undoTo cX6_undoTo 2 (none)) B.pre
  have hown : s.vm.findClass RX6 = some m.cls := findClass_of_methodNamed B.named
  have hlocks := B.notSynchronized
  have hO : cwO D A ad cA s st s.heap [] := ⟨hP, va_S.rf⟩
  have hl := lv_entry ([.ref (ad 176), .int a1]) (n := 2) (Nat.le_of_ble_eq_true rfl)
  rw [lg_entry_eq]
  generalize (lg_sl ([.ref (ad 176), .int a1]) ++ List.replicate (2 - (lg_sl ([.ref (ad 176), .int a1])).length) Slot.unset).toArray = ls at hl ⊢
  have hl : lv_has ls 2 [(0, .ref (ad 176)), (1, .int a1)] := hl
  have _h0 := hO
  have hgw := fun (w : Cond) (h : w ∈ gwW) => hts w (List.mem_cons_of_mem _ h)
  have k17 := hgw _ w_b50feff6
  have k21 := hgw _ w_b62a6067
  have k36 := hgw _ w_4f54f888
  unfold j_Walk_undoTo at h
  refine lv_aload_n hx hb dX6_undoTo_0 rfl (lv_at hl 0 rfl) ?_
  refine gf_Walk_counts hx hb hgw iwWalk hown hK hO k17 dX6_undoTo_1 ?_
  refine lv_iconst (v := 4) hx hb dX6_undoTo_4 (by decide) ?_
  refine lv_dup2_11 hx hb dX6_undoTo_5 rfl rfl ?_
  obtain ⟨hc1, h⟩ := ck_some h
  refine al_Counts hx hb hK hO hc1 dX6_undoTo_6 ?_
  refine lv_aload_n hx hb dX6_undoTo_7 rfl (lv_at hl 0 rfl) ?_
  refine gf_Walk_depth hx hb hgw iwWalk hown hK hO k21 dX6_undoTo_8 ?_
  refine lv_iload_n hx hb dX6_undoTo_11 rfl (lv_at hl 1 rfl) ?_
  refine lv_isub hx hb dX6_undoTo_12 ?_
  refine lv_iadd hx hb dX6_undoTo_13 ?_
  obtain ⟨hc2, h⟩ := ck_some h
  refine as_Counts hx hb hK hO hc2 dX6_undoTo_14 (fun H locs hO => ?_)
  refine lv_aload_n hx hb dX6_undoTo_15 rfl (lv_at hl 0 rfl) ?_
  refine gf_Walk_ledger hx hb hgw iwWalk hown hK hO k36 dX6_undoTo_16 ?_
  refine lv_iload_n hx hb dX6_undoTo_19 rfl (lv_at hl 1 rfl) ?_
  obtain ⟨st4, h5, h⟩ := bV_some h
  refine cw_callv (va_runV (As := [.int a1]) (rest := []) ⟨hx, hb, hml, hown, hts⟩ (c_Ledger_restore l D A ad cA tb0 tb1 a1 (sI st 7 0 (((4 : Int32)).toNatClampNeg) ((gI st 7 0 (((4 : Int32)).toNatClampNeg)) + ((gI st 8 0 0) - a1))) st4 h5) (cwV 1 hts (gw_V w_fabbcafd w_f7b23bc1 w_84252a1b w_7f12e8e2 w_d374c02e) rfl rfl rfl (by decide +kernel) ⟨Nat.le_of_ble_eq_true rfl, Nat.le_of_ble_eq_true rfl⟩) (cw_preV (k := 148) (ci := 3) hK hO rfl (by decide) (cc_Ledger)) rfl rfl hl.1 rfl (lv_room (Nat.le_of_ble_eq_true rfl)) dX6_undoTo_20 ⟨Nat.zero_le _, Nat.zero_le _⟩) hO (fun H locs hO => ?_)
  refine lv_aload_n hx hb dX6_undoTo_23 rfl (lv_at hl 0 rfl) ?_
  refine lv_iload_n hx hb dX6_undoTo_24 rfl (lv_at hl 1 rfl) ?_
  refine pf_Walk_depth hx hb hgw iwWalk hown hK hO k21 dX6_undoTo_25 (fun H locs hO => ?_)
  cases h; exact cw_vret hx hb hr hlocks hO dX6_undoTo_28
-- Walk fail
def j_Walk_fail_L38 : Nat → Int32 → Int32 → CwS → Option CwS
  | 0, _, _, _ => none
  | n + 1, x1, x2, st =>
    if x2 ≤ ((0 : Int32)) then
      some (sI st 9 0 0 x1)
    else
      ck (ix (x2 - ((1 : Int32))) 10) <|
      bR (j_Frame_handle ((x2 - ((1 : Int32))).toNatClampNeg) x1 st) fun r7 st8 =>
      if r7 = ((0 : Int32)) then
        bV (j_Walk_undoTo (x2 - ((1 : Int32))) st8) fun st12 =>
        j_Walk_fail_L38 n x1 (x2 + (-1 : Int32)) st12
      else
        some st8
def j_Walk_fail (a1 : Int32) (st : CwS) : Option CwS :=
  ck (ix ((1 : Int32)) 5) <|
  if (gI st 7 0 (((1 : Int32)).toNatClampNeg)) < ((10 : Int32)) then
    ck (ix ((1 : Int32)) 5) <|
    ck (ix ((1 : Int32)) 5) <|
    j_Walk_fail_L38 11 a1 (gI (sI st 7 0 (((1 : Int32)).toNatClampNeg) ((gI st 7 0 (((1 : Int32)).toNatClampNeg)) + ((1 : Int32)))) 8 0 0) (sI st 7 0 (((1 : Int32)).toNatClampNeg) ((gI st 7 0 (((1 : Int32)).toNatClampNeg)) + ((1 : Int32))))
  else
    bV (j_Walk_undoTo ((0 : Int32)) st) fun st15 =>
    some (sI st15 9 0 0 ((-3 : Int32)))
set_option maxHeartbeats 4000000 in
set_option maxRecDepth 100000 in
theorem c_Walk_fail_L38 {l : Launch} {D : va_G} {A : Nat → Prop} {ad : Nat → Nat} {cA : Nat → ClassId} {tb0 tb1 : Nat} {p : Program} {e : Env} {s : State} {m : MethodId} {args : Array Value} {below : List Frame} {meth : Method} {c : Code} (S : CallFix p m c cX6_fail 3 s args (wv yX6_fail cX6_fail 3 (none)) RX6) (hr : meth.sig.returnType = none) (hlocks : meth.locks = false) (hK : cwK D A ad cA tb0 tb1 s) (st' : CwS) : ∀ (n : Nat) (x1 : Int32) (x2 : Int32) (st : CwS) (H : Heap) (locs : List Loc) (ls : Array Slot), j_Walk_fail_L38 n x1 x2 st = some st' → cwO D A ad cA s st H locs → lv_has ls 3 [(0, .ref (ad 176)), (1, .int x1), (2, .int x2)] → W p l e ({ frames := 3, cells := 0, slots := 0, locals := 82 }) s m args below meth c H locs 0 0 (MQ below (cwQv D A ad cA tb0 tb1 st') args s 0 0 A) (F0 m 38 ls []) := by
  obtain ⟨hx, hb, hml, hown, hts⟩ := S
  have hgw := fun (w : Cond) (h : w ∈ gwW) => hts w (List.mem_cons_of_mem _ h)
  have k11 := hgw _ w_4a27d2bd
  have k17 := hgw _ w_b50feff6
  have k21 := hgw _ w_b62a6067
  have k25 := hgw _ w_166650d6
  intro n
  induction n with
  | zero =>
    intro x1 x2 st H locs ls h hO hl
    cases h
  | succ n ih =>
    intro x1 x2 st H locs ls h hO hl
    unfold j_Walk_fail_L38 at h
    refine lv_iload_n hx hb dX6_fail_38 rfl (lv_at hl 2 rfl) ?_
    refine lv_if_le (tgt := 71) hx hb dX6_fail_39 (by decide) (fun c5 => ?_) (fun c5 => ?_)
    · have h := ite_t c5 h
      refine lv_aload_n hx hb dX6_fail_71 rfl (lv_at hl 0 rfl) ?_
      refine lv_iload_n hx hb dX6_fail_72 rfl (lv_at hl 1 rfl) ?_
      refine pf_Walk_answer hx hb hgw iwWalk hown hK hO k25 dX6_fail_73 (fun H locs hO => ?_)
      cases h; exact cw_vret hx hb hr hlocks hO dX6_fail_76
    · have h := ite_f c5 h
      refine lv_aload_n hx hb dX6_fail_42 rfl (lv_at hl 0 rfl) ?_
      refine gf_Walk_frames hx hb hgw iwWalk hown hK hO k11 dX6_fail_43 ?_
      refine lv_iload_n hx hb dX6_fail_46 rfl (lv_at hl 2 rfl) ?_
      refine lv_iconst (v := 1) hx hb dX6_fail_47 (by decide) ?_
      refine lv_isub hx hb dX6_fail_48 ?_
      obtain ⟨hc6, h⟩ := ck_some h
      refine al_FrArr hx hb hK hO hc6 dX6_fail_49 ?_
      refine lv_iload_n hx hb dX6_fail_50 rfl (lv_at hl 1 rfl) ?_
      obtain ⟨r7, st8, h9, h⟩ := bR_some h
      refine cw_calli (va_runV (As := [.int x1]) (rest := []) ⟨hx, hb, hml, hown, hts⟩ (c_Frame_handle l D A ad cA tb0 tb1 ((x2 - ((1 : Int32))).toNatClampNeg) (ix_lt hc6) x1 st r7 st8 h9) (cwV 1 hts (gw_V w_79ee79a2 w_c19dedaa w_8f92d28b w_aeeb22ff w_65b55aab) rfl rfl rfl (by decide +kernel) ⟨Nat.le_of_ble_eq_true rfl, Nat.le_of_ble_eq_true rfl⟩) (cw_preV (k := 179 + 9 * (x2 - ((1 : Int32))).toNatClampNeg) (ci := 2) hK hO rfl (by have := (ix_lt hc6); omega) (cc_Frame (ix_lt hc6))) rfl rfl hl.1 rfl (lv_room (Nat.le_of_ble_eq_true rfl)) dX6_fail_51 ⟨Nat.zero_le _, Nat.zero_le _⟩) hO (fun H locs hO => ?_)
      refine lv_if_eq (tgt := 58) hx hb dX6_fail_54 (by decide) (fun c10 => ?_) (fun c10 => ?_)
      · have h := ite_t c10 h
        refine lv_aload_n hx hb dX6_fail_58 rfl (lv_at hl 0 rfl) ?_
        refine lv_iload_n hx hb dX6_fail_59 rfl (lv_at hl 2 rfl) ?_
        refine lv_iconst (v := 1) hx hb dX6_fail_60 (by decide) ?_
        refine lv_isub hx hb dX6_fail_61 ?_
        obtain ⟨st12, h13, h⟩ := bV_some h
        refine cw_callv (va_runV (As := [.int (x2 - ((1 : Int32)))]) (rest := []) ⟨hx, hb, hml, hown, hts⟩ (c_Walk_undoTo l D A ad cA tb0 tb1 (x2 - ((1 : Int32))) st8 st12 h13) (cwV 1 hts (gw_V w_6a1a8a51 w_e6ecb092 w_513f21f0 w_f8f5642f w_7c6d5d6e) rfl rfl rfl (by decide +kernel) ⟨Nat.le_of_ble_eq_true rfl, Nat.le_of_ble_eq_true rfl⟩) (cw_preV (k := 176) (ci := 6) hK hO rfl (by decide) (cc_Walk)) rfl rfl hl.1 rfl (lv_room (Nat.le_of_ble_eq_true rfl)) dX6_fail_62 ⟨Nat.zero_le _, Nat.zero_le _⟩) hO (fun H locs hO => ?_)
        refine lv_iinc (v := x2 + (-1 : Int32)) (lv' := [(2, .int (x2 + (-1 : Int32))), (0, .ref (ad 176)), (1, .int x1)]) hx hb dX6_fail_65 hl (k := 2) rfl rfl (by decide) rfl (fun ls hl => ?_)
        refine lv_goto (tgt := 38) hx hb dX6_fail_68 (by decide) ?_
        exact ih x1 (x2 + (-1 : Int32)) _ _ _ _ h hO (lv_sub hl [1, 2, 0] rfl)
      · have h := ite_f c10 h
        cases h; exact cw_vret hx hb hr hlocks hO dX6_fail_57
set_option maxHeartbeats 4000000 in
set_option maxRecDepth 100000 in
theorem c_Walk_fail (l : Launch) (D : va_G) (A : Nat → Prop) (ad : Nat → Nat) (cA : Nat → ClassId) (tb0 tb1 : Nat) (a1 : Int32) (st : CwS) (st' : CwS) (h : j_Walk_fail a1 st = some st') : Met l yX6_fail (wv yX6_fail cX6_fail 3 (none)) ({ frames := 3, cells := 0, slots := 0, locals := 82 }) (va_Pc [.ref (ad 176), .int a1] (cwU D A ad cA tb0 tb1 st)) (cwQv D A ad cA tb0 tb1 st') 0 0 A := by
  refine Met.ofW (cc := cX6_fail) (maxL := 3) (ret := none) (by decide) rfl ?_
  intro p e s m args below meth c s₁ B hml hv
  obtain ⟨rfl, hP, hK⟩ := hv
  have hx := B.exec
  have hb := B.bytes
  have hr := B.returns
  have hts := atoms_spec (ws := wv yX6_fail cX6_fail 3 (none)) B.pre
  have hown : s.vm.findClass RX6 = some m.cls := findClass_of_methodNamed B.named
  have hlocks := B.notSynchronized
  have hO : cwO D A ad cA s st s.heap [] := ⟨hP, va_S.rf⟩
  have hl := lv_entry ([.ref (ad 176), .int a1]) (n := 3) (Nat.le_of_ble_eq_true rfl)
  rw [lg_entry_eq]
  generalize (lg_sl ([.ref (ad 176), .int a1]) ++ List.replicate (3 - (lg_sl ([.ref (ad 176), .int a1])).length) Slot.unset).toArray = ls at hl ⊢
  have hl : lv_has ls 3 [(0, .ref (ad 176)), (1, .int a1)] := hl
  have _h0 := hO
  have hgw := fun (w : Cond) (h : w ∈ gwW) => hts w (List.mem_cons_of_mem _ h)
  have k11 := hgw _ w_4a27d2bd
  have k17 := hgw _ w_b50feff6
  have k21 := hgw _ w_b62a6067
  have k25 := hgw _ w_166650d6
  unfold j_Walk_fail at h
  refine lv_aload_n hx hb dX6_fail_0 rfl (lv_at hl 0 rfl) ?_
  refine gf_Walk_counts hx hb hgw iwWalk hown hK hO k17 dX6_fail_1 ?_
  refine lv_iconst (v := 1) hx hb dX6_fail_4 (by decide) ?_
  obtain ⟨hc1, h⟩ := ck_some h
  refine al_Counts hx hb hK hO hc1 dX6_fail_5 ?_
  refine lv_bipush (v := 10) hx hb dX6_fail_6 (by decide) ?_
  refine lv_icmp_lt (tgt := 23) hx hb dX6_fail_8 (by decide) (fun c2 => ?_) (fun c2 => ?_)
  · have h := ite_t c2 h
    refine lv_aload_n hx hb dX6_fail_23 rfl (lv_at hl 0 rfl) ?_
    refine gf_Walk_counts hx hb hgw iwWalk hown hK hO k17 dX6_fail_24 ?_
    refine lv_iconst (v := 1) hx hb dX6_fail_27 (by decide) ?_
    refine lv_dup2_11 hx hb dX6_fail_28 rfl rfl ?_
    obtain ⟨hc3, h⟩ := ck_some h
    refine al_Counts hx hb hK hO hc3 dX6_fail_29 ?_
    refine lv_iconst (v := 1) hx hb dX6_fail_30 (by decide) ?_
    refine lv_iadd hx hb dX6_fail_31 ?_
    obtain ⟨hc4, h⟩ := ck_some h
    refine as_Counts hx hb hK hO hc4 dX6_fail_32 (fun H locs hO => ?_)
    refine lv_aload_n hx hb dX6_fail_33 rfl (lv_at hl 0 rfl) ?_
    refine gf_Walk_depth hx hb hgw iwWalk hown hK hO k21 dX6_fail_34 ?_
    refine lv_istore_n (lv' := [(2, .int (gI (sI st 7 0 (((1 : Int32)).toNatClampNeg) ((gI st 7 0 (((1 : Int32)).toNatClampNeg)) + ((1 : Int32)))) 8 0 0)), (0, .ref (ad 176)), (1, .int a1)]) hx hb dX6_fail_37 rfl hl (by decide) rfl (fun ls hl => ?_)
    exact c_Walk_fail_L38 ⟨hx, hb, hml, hown, hts⟩ hr hlocks hK st' 11 a1 (gI (sI st 7 0 (((1 : Int32)).toNatClampNeg) ((gI st 7 0 (((1 : Int32)).toNatClampNeg)) + ((1 : Int32)))) 8 0 0) _ _ _ _ h hO (lv_sub hl [1, 2, 0] rfl)
  · have h := ite_f c2 h
    refine lv_aload_n hx hb dX6_fail_11 rfl (lv_at hl 0 rfl) ?_
    refine lv_iconst (v := 0) hx hb dX6_fail_12 (by decide) ?_
    obtain ⟨st15, h16, h⟩ := bV_some h
    refine cw_callv (va_runV (As := [.int ((0 : Int32))]) (rest := []) ⟨hx, hb, hml, hown, hts⟩ (c_Walk_undoTo l D A ad cA tb0 tb1 ((0 : Int32)) st st15 h16) (cwV 1 hts (gw_V w_6a1a8a51 w_e6ecb092 w_513f21f0 w_f8f5642f w_7c6d5d6e) rfl rfl rfl (by decide +kernel) ⟨Nat.le_of_ble_eq_true rfl, Nat.le_of_ble_eq_true rfl⟩) (cw_preV (k := 176) (ci := 6) hK hO rfl (by decide) (cc_Walk)) rfl rfl hl.1 rfl (lv_room (Nat.le_of_ble_eq_true rfl)) dX6_fail_13 ⟨Nat.zero_le _, Nat.zero_le _⟩) hO (fun H locs hO => ?_)
    refine lv_aload_n hx hb dX6_fail_16 rfl (lv_at hl 0 rfl) ?_
    refine lv_bipush (v := -3) hx hb dX6_fail_17 (by decide) ?_
    refine pf_Walk_answer hx hb hgw iwWalk hown hK hO k25 dX6_fail_19 (fun H locs hO => ?_)
    cases h; exact cw_vret hx hb hr hlocks hO dX6_fail_22
-- Walk isUnderWay
def j_Walk_isUnderWay_L2 : Nat → Int32 → Int32 → CwS → Option (Int32 × CwS)
  | 0, _, _, _ => none
  | n + 1, x1, x2, st =>
    if (gI st 8 0 0) ≤ x2 then
      some ((0 : Int32), st)
    else
      if ((10 : Int32)) ≤ x2 then
        some ((0 : Int32), st)
      else
        ck (ix x2 10) <|
        if (gI st 13 x2.toNatClampNeg 0) = x1 then
          some ((1 : Int32), st)
        else
          j_Walk_isUnderWay_L2 n x1 (x2 + (1 : Int32)) st
def j_Walk_isUnderWay (a1 : Int32) (st : CwS) : Option (Int32 × CwS) :=
  j_Walk_isUnderWay_L2 11 a1 ((0 : Int32)) st
set_option maxHeartbeats 4000000 in
set_option maxRecDepth 100000 in
theorem c_Walk_isUnderWay_L2 {l : Launch} {D : va_G} {A : Nat → Prop} {ad : Nat → Nat} {cA : Nat → ClassId} {tb0 tb1 : Nat} {p : Program} {e : Env} {s : State} {m : MethodId} {args : Array Value} {below : List Frame} {meth : Method} {c : Code} (S : CallFix p m c cX6_isUnderWay 3 s args (wv yX6_isUnderWay cX6_isUnderWay 3 (some .boolean)) RX6) (hr : meth.sig.returnType = some .boolean) (hlocks : meth.locks = false) (hK : cwK D A ad cA tb0 tb1 s) (r : Int32) (st' : CwS) : ∀ (n : Nat) (x1 : Int32) (x2 : Int32) (st : CwS) (H : Heap) (locs : List Loc) (ls : Array Slot), j_Walk_isUnderWay_L2 n x1 x2 st = some (r, st') → cwO D A ad cA s st H locs → lv_has ls 3 [(0, .ref (ad 176)), (1, .int x1), (2, .int x2)] → W p l e ({ frames := 0, cells := 0, slots := 0, locals := 0 }) s m args below meth c H locs 0 0 (MQ below (cwQi D A ad cA tb0 tb1 r st') args s 0 0 A) (F0 m 2 ls []) := by
  obtain ⟨hx, hb, hml, hown, hts⟩ := S
  have hgw := fun (w : Cond) (h : w ∈ gwW) => hts w (List.mem_cons_of_mem _ h)
  have k11 := hgw _ w_4a27d2bd
  have k21 := hgw _ w_b62a6067
  have k214 := hgw _ w_3799d173
  intro n
  induction n with
  | zero =>
    intro x1 x2 st H locs ls h hO hl
    cases h
  | succ n ih =>
    intro x1 x2 st H locs ls h hO hl
    unfold j_Walk_isUnderWay_L2 at h
    refine lv_iload_n hx hb dX6_isUnderWay_2 rfl (lv_at hl 2 rfl) ?_
    refine lv_aload_n hx hb dX6_isUnderWay_3 rfl (lv_at hl 0 rfl) ?_
    refine gf_Walk_depth hx hb hgw iwWalk hown hK hO k21 dX6_isUnderWay_4 ?_
    refine lv_icmp_ge (tgt := 37) hx hb dX6_isUnderWay_7 (by decide) (fun c1 => ?_) (fun c1 => ?_)
    · have h := ite_t c1 h
      refine lv_iconst (v := 0) hx hb dX6_isUnderWay_37 (by decide) ?_
      obtain ⟨rfl, rfl⟩ := ret2 h; exact cw_zret hx hb hr hlocks hO rfl dX6_isUnderWay_38
    · have h := ite_f c1 h
      refine lv_iload_n hx hb dX6_isUnderWay_10 rfl (lv_at hl 2 rfl) ?_
      refine lv_bipush (v := 10) hx hb dX6_isUnderWay_11 (by decide) ?_
      refine lv_icmp_ge (tgt := 37) hx hb dX6_isUnderWay_13 (by decide) (fun c2 => ?_) (fun c2 => ?_)
      · have h := ite_t c2 h
        refine lv_iconst (v := 0) hx hb dX6_isUnderWay_37 (by decide) ?_
        obtain ⟨rfl, rfl⟩ := ret2 h; exact cw_zret hx hb hr hlocks hO rfl dX6_isUnderWay_38
      · have h := ite_f c2 h
        refine lv_aload_n hx hb dX6_isUnderWay_16 rfl (lv_at hl 0 rfl) ?_
        refine gf_Walk_frames hx hb hgw iwWalk hown hK hO k11 dX6_isUnderWay_17 ?_
        refine lv_iload_n hx hb dX6_isUnderWay_20 rfl (lv_at hl 2 rfl) ?_
        obtain ⟨hc3, h⟩ := ck_some h
        refine al_FrArr hx hb hK hO hc3 dX6_isUnderWay_21 ?_
        refine gf_Frame_contract hx hb hgw iwFrame hown hK hO (ix_lt hc3) k214 dX6_isUnderWay_22 ?_
        refine lv_iload_n hx hb dX6_isUnderWay_25 rfl (lv_at hl 1 rfl) ?_
        refine lv_icmp_ne (tgt := 31) hx hb dX6_isUnderWay_26 (by decide) (fun c4 => ?_) (fun c4 => ?_)
        · have h := ite_f c4 h
          refine lv_iinc (v := x2 + (1 : Int32)) (lv' := [(2, .int (x2 + (1 : Int32))), (0, .ref (ad 176)), (1, .int x1)]) hx hb dX6_isUnderWay_31 hl (k := 2) rfl rfl (by decide) rfl (fun ls hl => ?_)
          refine lv_goto (tgt := 2) hx hb dX6_isUnderWay_34 (by decide) ?_
          exact ih x1 (x2 + (1 : Int32)) _ _ _ _ h hO (lv_sub hl [1, 2, 0] rfl)
        · have h := ite_t c4 h
          refine lv_iconst (v := 1) hx hb dX6_isUnderWay_29 (by decide) ?_
          obtain ⟨rfl, rfl⟩ := ret2 h; exact cw_zret hx hb hr hlocks hO rfl dX6_isUnderWay_30
set_option maxHeartbeats 4000000 in
set_option maxRecDepth 100000 in
theorem c_Walk_isUnderWay (l : Launch) (D : va_G) (A : Nat → Prop) (ad : Nat → Nat) (cA : Nat → ClassId) (tb0 tb1 : Nat) (a1 : Int32) (st : CwS) (r : Int32) (st' : CwS) (h : j_Walk_isUnderWay a1 st = some (r, st')) : Met l yX6_isUnderWay (wv yX6_isUnderWay cX6_isUnderWay 3 (some .boolean)) ({ frames := 0, cells := 0, slots := 0, locals := 0 }) (va_Pc [.ref (ad 176), .int a1] (cwU D A ad cA tb0 tb1 st)) (cwQi D A ad cA tb0 tb1 r st') 0 0 A := by
  refine Met.ofW (cc := cX6_isUnderWay) (maxL := 3) (ret := some .boolean) (by decide) rfl ?_
  intro p e s m args below meth c s₁ B hml hv
  obtain ⟨rfl, hP, hK⟩ := hv
  have hx := B.exec
  have hb := B.bytes
  have hr := B.returns
  have hts := atoms_spec (ws := wv yX6_isUnderWay cX6_isUnderWay 3 (some .boolean)) B.pre
  have hown : s.vm.findClass RX6 = some m.cls := findClass_of_methodNamed B.named
  have hlocks := B.notSynchronized
  have hO : cwO D A ad cA s st s.heap [] := ⟨hP, va_S.rf⟩
  have hl := lv_entry ([.ref (ad 176), .int a1]) (n := 3) (Nat.le_of_ble_eq_true rfl)
  rw [lg_entry_eq]
  generalize (lg_sl ([.ref (ad 176), .int a1]) ++ List.replicate (3 - (lg_sl ([.ref (ad 176), .int a1])).length) Slot.unset).toArray = ls at hl ⊢
  have hl : lv_has ls 3 [(0, .ref (ad 176)), (1, .int a1)] := hl
  have _h0 := hO
  have hgw := fun (w : Cond) (h : w ∈ gwW) => hts w (List.mem_cons_of_mem _ h)
  have k11 := hgw _ w_4a27d2bd
  have k21 := hgw _ w_b62a6067
  have k214 := hgw _ w_3799d173
  unfold j_Walk_isUnderWay at h
  refine lv_iconst (v := 0) hx hb dX6_isUnderWay_0 (by decide) ?_
  refine lv_istore_n (lv' := [(2, .int ((0 : Int32))), (0, .ref (ad 176)), (1, .int a1)]) hx hb dX6_isUnderWay_1 rfl hl (by decide) rfl (fun ls hl => ?_)
  exact c_Walk_isUnderWay_L2 ⟨hx, hb, hml, hown, hts⟩ hr hlocks hK r st' 11 a1 ((0 : Int32)) _ _ _ _ h hO (lv_sub hl [1, 2, 0] rfl)
-- Walk callFailure
def j_Walk_callFailure (a1 : Int32) (a2 : Int64) (a4 : Int32) (st : CwS) : Option (Int32 × CwS) :=
  if (lg_cmp a2 ((0 : Int64))) < ((0 : Int32)) then
    some ((9 : Int32), st)
  else
    ck (ix a1 8) <|
    if (lg_cmp a2 (gL st 1 0 a1.toNatClampNeg)) ≤ ((0 : Int32)) then
      if a4 < ((0 : Int32)) then
        some ((12 : Int32), st)
      else
        bR (j_CW_isBehaviour (a4 / ((8 : Int32))) (a4 - a4 / ((8 : Int32)) * ((8 : Int32))) st) fun r5 st6 =>
        if r5 = ((0 : Int32)) then
          some ((12 : Int32), st6)
        else
          ck (ix (a4 / ((8 : Int32))) 8) <|
          if (gI st6 3 0 ((a4 / ((8 : Int32))).toNatClampNeg)) = ((0 : Int32)) then
            if (gI st6 8 0 0) < ((10 : Int32)) then
              bR (j_Ledger_canMove a1 (a4 / ((8 : Int32))) a2 st6) fun r12 st13 =>
              if r12 = ((0 : Int32)) then
                some ((6 : Int32), st13)
              else
                some ((0 : Int32), st13)
            else
              some ((10 : Int32), st6)
          else
            bR (j_Walk_isUnderWay (a4 / ((8 : Int32))) st6) fun r16 st17 =>
            if r16 = ((0 : Int32)) then
              if (gI st17 8 0 0) < ((10 : Int32)) then
                bR (j_Ledger_canMove a1 (a4 / ((8 : Int32))) a2 st17) fun r21 st22 =>
                if r21 = ((0 : Int32)) then
                  some ((6 : Int32), st22)
                else
                  some ((0 : Int32), st22)
              else
                some ((10 : Int32), st17)
            else
              some ((8 : Int32), st17)
    else
      some ((9 : Int32), st)
set_option maxHeartbeats 4000000 in
set_option maxRecDepth 100000 in
theorem c_Walk_callFailure (l : Launch) (D : va_G) (A : Nat → Prop) (ad : Nat → Nat) (cA : Nat → ClassId) (tb0 tb1 : Nat) (a1 : Int32) (a2 : Int64) (a4 : Int32) (st : CwS) (r : Int32) (st' : CwS) (h : j_Walk_callFailure a1 a2 a4 st = some (r, st')) : Met l yX6_callFailure (wv yX6_callFailure cX6_callFailure 5 (some .int)) ({ frames := 2, cells := 0, slots := 0, locals := 41 }) (va_Pc [.ref (ad 176), .int a1, .long a2, .int a4] (cwU D A ad cA tb0 tb1 st)) (cwQi D A ad cA tb0 tb1 r st') 0 0 A := by
  refine Met.ofW (cc := cX6_callFailure) (maxL := 5) (ret := some .int) (by decide) rfl ?_
  intro p e s m args below meth c s₁ B hml hv
  obtain ⟨rfl, hP, hK⟩ := hv
  have hx := B.exec
  have hb := B.bytes
  have hr := B.returns
  have hts := atoms_spec (ws := wv yX6_callFailure cX6_callFailure 5 (some .int)) B.pre
  have hown : s.vm.findClass RX6 = some m.cls := findClass_of_methodNamed B.named
  have hlocks := B.notSynchronized
  have hO : cwO D A ad cA s st s.heap [] := ⟨hP, va_S.rf⟩
  have hl := lv_entry ([.ref (ad 176), .int a1, .long a2, .int a4]) (n := 5) (Nat.le_of_ble_eq_true rfl)
  rw [lg_entry_eq]
  generalize (lg_sl ([.ref (ad 176), .int a1, .long a2, .int a4]) ++ List.replicate (5 - (lg_sl ([.ref (ad 176), .int a1, .long a2, .int a4])).length) Slot.unset).toArray = ls at hl ⊢
  have hl : lv_has ls 5 [(0, .ref (ad 176)), (1, .int a1), (2, .long a2), (4, .int a4)] := hl
  have _h0 := hO
  have hgw := fun (w : Cond) (h : w ∈ gwW) => hts w (List.mem_cons_of_mem _ h)
  have k21 := hgw _ w_b62a6067
  have k32 := hgw _ w_6dd6e69a
  have k36 := hgw _ w_4f54f888
  have k210 := hgw _ w_112bdd1c
  have k278 := hgw _ w_93e070e1
  unfold j_Walk_callFailure at h
  refine lv_lload_n hx hb dX6_callFailure_0 rfl (lv_at hl 2 rfl) ?_
  refine lv_lconst (v := 0) hx hb dX6_callFailure_1 (by decide) ?_
  refine W.lcmp hx hb dX6_callFailure_2 ?_
  refine lv_if_lt (tgt := 20) hx hb dX6_callFailure_3 (by decide) (fun c1 => ?_) (fun c1 => ?_)
  · have h := ite_t c1 h
    refine lv_bipush (v := 9) hx hb dX6_callFailure_20 (by decide) ?_
    obtain ⟨rfl, rfl⟩ := ret2 h; exact cw_iret hx hb hr hlocks hO dX6_callFailure_22
  · have h := ite_f c1 h
    refine lv_lload_n hx hb dX6_callFailure_6 rfl (lv_at hl 2 rfl) ?_
    refine lv_aload_n hx hb dX6_callFailure_7 rfl (lv_at hl 0 rfl) ?_
    refine gf_Walk_ledger hx hb hgw iwWalk hown hK hO k36 dX6_callFailure_8 ?_
    refine gf_Ledger_balances hx hb hgw iwLedger hown hK hO k210 dX6_callFailure_11 ?_
    refine lv_iload_n hx hb dX6_callFailure_14 rfl (lv_at hl 1 rfl) ?_
    obtain ⟨hc2, h⟩ := ck_some h
    refine al_Bals hx hb hK hO hc2 dX6_callFailure_15 ?_
    refine W.lcmp hx hb dX6_callFailure_16 ?_
    refine lv_if_le (tgt := 23) hx hb dX6_callFailure_17 (by decide) (fun c3 => ?_) (fun c3 => ?_)
    · have h := ite_t c3 h
      refine lv_iload hx hb dX6_callFailure_23 (lv_at hl 3 rfl) ?_
      refine lv_if_lt (tgt := 44) hx hb dX6_callFailure_25 (by decide) (fun c4 => ?_) (fun c4 => ?_)
      · have h := ite_t c4 h
        refine lv_bipush (v := 12) hx hb dX6_callFailure_44 (by decide) ?_
        obtain ⟨rfl, rfl⟩ := ret2 h; exact cw_iret hx hb hr hlocks hO dX6_callFailure_46
      · have h := ite_f c4 h
        refine lv_iload hx hb dX6_callFailure_28 (lv_at hl 3 rfl) ?_
        refine lv_bipush (v := 8) hx hb dX6_callFailure_30 (by decide) ?_
        refine lv_idiv hx hb dX6_callFailure_32 (by decide) ?_
        refine lv_iload hx hb dX6_callFailure_33 (lv_at hl 3 rfl) ?_
        refine lv_bipush (v := 8) hx hb dX6_callFailure_35 (by decide) ?_
        refine lv_irem hx hb dX6_callFailure_37 (by decide) ?_
        obtain ⟨r5, st6, h7, h⟩ := bR_some h
        refine cw_calli (va_runSN (As := [.int (a4 / ((8 : Int32))), .int (a4 - a4 / ((8 : Int32)) * ((8 : Int32)))]) (rest := []) ⟨hx, hb, hml, hown, hts⟩ (c_CW_isBehaviour l D A ad cA tb0 tb1 (a4 / ((8 : Int32))) (a4 - a4 / ((8 : Int32)) * ((8 : Int32))) st r5 st6 h7) ⟨va_cnB 2 hts (gw_N w_f9d22def) rfl rfl rfl hK.2.2.2.2.2.2.2.1 (hgw _ w_0fc29077) (by decide +kernel) ⟨Nat.le_of_ble_eq_true rfl, Nat.le_of_ble_eq_true rfl⟩, hgw _ w_03540a48, trivial⟩ (cw_preS hK hO) rfl rfl hl.1 rfl (lv_room (Nat.le_of_ble_eq_true rfl)) dX6_callFailure_38 ⟨Nat.zero_le _, Nat.zero_le _⟩) hO (fun H locs hO => ?_)
        refine lv_if_ne (tgt := 47) hx hb dX6_callFailure_41 (by decide) (fun c8 => ?_) (fun c8 => ?_)
        · have h := ite_f c8 h
          refine lv_aload_n hx hb dX6_callFailure_47 rfl (lv_at hl 0 rfl) ?_
          refine gf_Walk_book hx hb hgw iwWalk hown hK hO k32 dX6_callFailure_48 ?_
          refine gf_Book_guarded hx hb hgw iwBook hown hK hO k278 dX6_callFailure_51 ?_
          refine lv_iload hx hb dX6_callFailure_54 (lv_at hl 3 rfl) ?_
          refine lv_bipush (v := 8) hx hb dX6_callFailure_56 (by decide) ?_
          refine lv_idiv hx hb dX6_callFailure_58 (by decide) ?_
          obtain ⟨hc9, h⟩ := ck_some h
          refine al_Guard hx hb hK hO hc9 dX6_callFailure_59 ?_
          refine lv_if_eq (tgt := 78) hx hb dX6_callFailure_60 (by decide) (fun c10 => ?_) (fun c10 => ?_)
          · have h := ite_t c10 h
            refine lv_aload_n hx hb dX6_callFailure_78 rfl (lv_at hl 0 rfl) ?_
            refine gf_Walk_depth hx hb hgw iwWalk hown hK hO k21 dX6_callFailure_79 ?_
            refine lv_bipush (v := 10) hx hb dX6_callFailure_82 (by decide) ?_
            refine lv_icmp_lt (tgt := 90) hx hb dX6_callFailure_84 (by decide) (fun c11 => ?_) (fun c11 => ?_)
            · have h := ite_t c11 h
              refine lv_aload_n hx hb dX6_callFailure_90 rfl (lv_at hl 0 rfl) ?_
              refine gf_Walk_ledger hx hb hgw iwWalk hown hK hO k36 dX6_callFailure_91 ?_
              refine lv_iload_n hx hb dX6_callFailure_94 rfl (lv_at hl 1 rfl) ?_
              refine lv_iload hx hb dX6_callFailure_95 (lv_at hl 3 rfl) ?_
              refine lv_bipush (v := 8) hx hb dX6_callFailure_97 (by decide) ?_
              refine lv_idiv hx hb dX6_callFailure_99 (by decide) ?_
              refine lv_lload_n hx hb dX6_callFailure_100 rfl (lv_at hl 2 rfl) ?_
              obtain ⟨r12, st13, h14, h⟩ := bR_some h
              refine cw_calli (va_runV (As := [.int a1, .int (a4 / ((8 : Int32))), .long a2]) (rest := []) ⟨hx, hb, hml, hown, hts⟩ (c_Ledger_canMove l D A ad cA tb0 tb1 a1 (a4 / ((8 : Int32))) a2 st6 r12 st13 h14) (cwV 3 hts (gw_V w_30ec52e4 w_a386f5ee w_816675ed w_7f12e8e2 w_1585a2cb) rfl rfl rfl (by decide +kernel) ⟨Nat.le_of_ble_eq_true rfl, Nat.le_of_ble_eq_true rfl⟩) (cw_preV (k := 148) (ci := 3) hK hO rfl (by decide) (cc_Ledger)) rfl rfl hl.1 rfl (lv_room (Nat.le_of_ble_eq_true rfl)) dX6_callFailure_101 ⟨Nat.zero_le _, Nat.zero_le _⟩) hO (fun H locs hO => ?_)
              refine lv_if_eq (tgt := 111) hx hb dX6_callFailure_104 (by decide) (fun c15 => ?_) (fun c15 => ?_)
              · have h := ite_t c15 h
                refine lv_bipush (v := 6) hx hb dX6_callFailure_111 (by decide) ?_
                obtain ⟨rfl, rfl⟩ := ret2 h; exact cw_iret hx hb hr hlocks hO dX6_callFailure_113
              · have h := ite_f c15 h
                refine lv_iconst (v := 0) hx hb dX6_callFailure_107 (by decide) ?_
                refine lv_goto (tgt := 113) hx hb dX6_callFailure_108 (by decide) ?_
                obtain ⟨rfl, rfl⟩ := ret2 h; exact cw_iret hx hb hr hlocks hO dX6_callFailure_113
            · have h := ite_f c11 h
              refine lv_bipush (v := 10) hx hb dX6_callFailure_87 (by decide) ?_
              obtain ⟨rfl, rfl⟩ := ret2 h; exact cw_iret hx hb hr hlocks hO dX6_callFailure_89
          · have h := ite_f c10 h
            refine lv_aload_n hx hb dX6_callFailure_63 rfl (lv_at hl 0 rfl) ?_
            refine lv_iload hx hb dX6_callFailure_64 (lv_at hl 3 rfl) ?_
            refine lv_bipush (v := 8) hx hb dX6_callFailure_66 (by decide) ?_
            refine lv_idiv hx hb dX6_callFailure_68 (by decide) ?_
            obtain ⟨r16, st17, h18, h⟩ := bR_some h
            refine cw_calli (va_runV (As := [.int (a4 / ((8 : Int32)))]) (rest := []) ⟨hx, hb, hml, hown, hts⟩ (c_Walk_isUnderWay l D A ad cA tb0 tb1 (a4 / ((8 : Int32))) st6 r16 st17 h18) (cwV 1 hts (gw_V w_a45c4b15 w_1b280cd3 w_e5ab82b5 w_f8f5642f w_a9aa258d) rfl rfl rfl (by decide +kernel) ⟨Nat.le_of_ble_eq_true rfl, Nat.le_of_ble_eq_true rfl⟩) (cw_preV (k := 176) (ci := 6) hK hO rfl (by decide) (cc_Walk)) rfl rfl hl.1 rfl (lv_room (Nat.le_of_ble_eq_true rfl)) dX6_callFailure_69 ⟨Nat.zero_le _, Nat.zero_le _⟩) hO (fun H locs hO => ?_)
            refine lv_if_eq (tgt := 78) hx hb dX6_callFailure_72 (by decide) (fun c19 => ?_) (fun c19 => ?_)
            · have h := ite_t c19 h
              refine lv_aload_n hx hb dX6_callFailure_78 rfl (lv_at hl 0 rfl) ?_
              refine gf_Walk_depth hx hb hgw iwWalk hown hK hO k21 dX6_callFailure_79 ?_
              refine lv_bipush (v := 10) hx hb dX6_callFailure_82 (by decide) ?_
              refine lv_icmp_lt (tgt := 90) hx hb dX6_callFailure_84 (by decide) (fun c20 => ?_) (fun c20 => ?_)
              · have h := ite_t c20 h
                refine lv_aload_n hx hb dX6_callFailure_90 rfl (lv_at hl 0 rfl) ?_
                refine gf_Walk_ledger hx hb hgw iwWalk hown hK hO k36 dX6_callFailure_91 ?_
                refine lv_iload_n hx hb dX6_callFailure_94 rfl (lv_at hl 1 rfl) ?_
                refine lv_iload hx hb dX6_callFailure_95 (lv_at hl 3 rfl) ?_
                refine lv_bipush (v := 8) hx hb dX6_callFailure_97 (by decide) ?_
                refine lv_idiv hx hb dX6_callFailure_99 (by decide) ?_
                refine lv_lload_n hx hb dX6_callFailure_100 rfl (lv_at hl 2 rfl) ?_
                obtain ⟨r21, st22, h23, h⟩ := bR_some h
                refine cw_calli (va_runV (As := [.int a1, .int (a4 / ((8 : Int32))), .long a2]) (rest := []) ⟨hx, hb, hml, hown, hts⟩ (c_Ledger_canMove l D A ad cA tb0 tb1 a1 (a4 / ((8 : Int32))) a2 st17 r21 st22 h23) (cwV 3 hts (gw_V w_30ec52e4 w_a386f5ee w_816675ed w_7f12e8e2 w_1585a2cb) rfl rfl rfl (by decide +kernel) ⟨Nat.le_of_ble_eq_true rfl, Nat.le_of_ble_eq_true rfl⟩) (cw_preV (k := 148) (ci := 3) hK hO rfl (by decide) (cc_Ledger)) rfl rfl hl.1 rfl (lv_room (Nat.le_of_ble_eq_true rfl)) dX6_callFailure_101 ⟨Nat.zero_le _, Nat.zero_le _⟩) hO (fun H locs hO => ?_)
                refine lv_if_eq (tgt := 111) hx hb dX6_callFailure_104 (by decide) (fun c24 => ?_) (fun c24 => ?_)
                · have h := ite_t c24 h
                  refine lv_bipush (v := 6) hx hb dX6_callFailure_111 (by decide) ?_
                  obtain ⟨rfl, rfl⟩ := ret2 h; exact cw_iret hx hb hr hlocks hO dX6_callFailure_113
                · have h := ite_f c24 h
                  refine lv_iconst (v := 0) hx hb dX6_callFailure_107 (by decide) ?_
                  refine lv_goto (tgt := 113) hx hb dX6_callFailure_108 (by decide) ?_
                  obtain ⟨rfl, rfl⟩ := ret2 h; exact cw_iret hx hb hr hlocks hO dX6_callFailure_113
              · have h := ite_f c20 h
                refine lv_bipush (v := 10) hx hb dX6_callFailure_87 (by decide) ?_
                obtain ⟨rfl, rfl⟩ := ret2 h; exact cw_iret hx hb hr hlocks hO dX6_callFailure_89
            · have h := ite_f c19 h
              refine lv_bipush (v := 8) hx hb dX6_callFailure_75 (by decide) ?_
              obtain ⟨rfl, rfl⟩ := ret2 h; exact cw_iret hx hb hr hlocks hO dX6_callFailure_77
        · have h := ite_t c8 h
          refine lv_bipush (v := 12) hx hb dX6_callFailure_44 (by decide) ?_
          obtain ⟨rfl, rfl⟩ := ret2 h; exact cw_iret hx hb hr hlocks hO dX6_callFailure_46
    · have h := ite_f c3 h
      refine lv_bipush (v := 9) hx hb dX6_callFailure_20 (by decide) ?_
      obtain ⟨rfl, rfl⟩ := ret2 h; exact cw_iret hx hb hr hlocks hO dX6_callFailure_22
-- Walk putLeaf
def j_Walk_putLeaf (a1 : Nat) (a2 : Int32) (st : CwS) : Option (Int32 × CwS) :=
  bR (j_CW_isLeaf a2 st) fun r1 st2 =>
  if r1 = ((0 : Int32)) then
    some ((12 : Int32), st2)
  else
    ck (ix (((gI st2 13 a1 0) * ((8 : Int32))) + a2) 64) <|
    bR (j_Pile_putNumber a1 (gL st2 0 0 ((((gI st2 13 a1 0) * ((8 : Int32))) + a2).toNatClampNeg)) st2) fun r6 st7 =>
    some (r6, st7)
set_option maxHeartbeats 4000000 in
set_option maxRecDepth 100000 in
theorem c_Walk_putLeaf (l : Launch) (D : va_G) (A : Nat → Prop) (ad : Nat → Nat) (cA : Nat → ClassId) (tb0 tb1 : Nat) (a1 : Nat) (ha1 : a1 < 10) (a2 : Int32) (st : CwS) (r : Int32) (st' : CwS) (h : j_Walk_putLeaf a1 a2 st = some (r, st')) : Met l yX6_putLeaf (wv yX6_putLeaf cX6_putLeaf 3 (some .int)) ({ frames := 2, cells := 0, slots := 0, locals := 45 }) (va_Pc [.ref (ad 176), .ref (ad (179 + 9 * a1)), .int a2] (cwU D A ad cA tb0 tb1 st)) (cwQi D A ad cA tb0 tb1 r st') 0 0 A := by
  refine Met.ofW (cc := cX6_putLeaf) (maxL := 3) (ret := some .int) (by decide) rfl ?_
  intro p e s m args below meth c s₁ B hml hv
  obtain ⟨rfl, hP, hK⟩ := hv
  have hx := B.exec
  have hb := B.bytes
  have hr := B.returns
  have hts := atoms_spec (ws := wv yX6_putLeaf cX6_putLeaf 3 (some .int)) B.pre
  have hown : s.vm.findClass RX6 = some m.cls := findClass_of_methodNamed B.named
  have hlocks := B.notSynchronized
  have hO : cwO D A ad cA s st s.heap [] := ⟨hP, va_S.rf⟩
  have hl := lv_entry ([.ref (ad 176), .ref (ad (179 + 9 * a1)), .int a2]) (n := 3) (Nat.le_of_ble_eq_true rfl)
  rw [lg_entry_eq]
  generalize (lg_sl ([.ref (ad 176), .ref (ad (179 + 9 * a1)), .int a2]) ++ List.replicate (3 - (lg_sl ([.ref (ad 176), .ref (ad (179 + 9 * a1)), .int a2])).length) Slot.unset).toArray = ls at hl ⊢
  have hl : lv_has ls 3 [(0, .ref (ad 176)), (1, .ref (ad (179 + 9 * a1))), (2, .int a2)] := hl
  have _h0 := hO
  have hgw := fun (w : Cond) (h : w ∈ gwW) => hts w (List.mem_cons_of_mem _ h)
  have k36 := hgw _ w_4f54f888
  have k62 := hgw _ w_115d9ac3
  have k214 := hgw _ w_3799d173
  have k227 := hgw _ w_d39a3034
  unfold j_Walk_putLeaf at h
  refine lv_iload_n hx hb dX6_putLeaf_0 rfl (lv_at hl 2 rfl) ?_
  obtain ⟨r1, st2, h3, h⟩ := bR_some h
  refine cw_calli (va_runSN (As := [.int a2]) (rest := []) ⟨hx, hb, hml, hown, hts⟩ (c_CW_isLeaf l D A ad cA tb0 tb1 a2 st r1 st2 h3) ⟨va_cnB 1 hts (gw_N w_778875df) rfl rfl rfl hK.2.2.2.1 (hgw _ w_0fc29077) (by decide +kernel) ⟨Nat.le_of_ble_eq_true rfl, Nat.le_of_ble_eq_true rfl⟩, hgw _ w_45a6a7ae, trivial⟩ (cw_preS hK hO) rfl rfl hl.1 rfl (lv_room (Nat.le_of_ble_eq_true rfl)) dX6_putLeaf_1 ⟨Nat.zero_le _, Nat.zero_le _⟩) hO (fun H locs hO => ?_)
  refine lv_if_ne (tgt := 10) hx hb dX6_putLeaf_4 (by decide) (fun c4 => ?_) (fun c4 => ?_)
  · have h := ite_f c4 h
    refine lv_aload_n hx hb dX6_putLeaf_10 rfl (lv_at hl 1 rfl) ?_
    refine gf_Frame_pile hx hb hgw iwFrame hown hK hO ha1 k62 dX6_putLeaf_11 ?_
    refine lv_aload_n hx hb dX6_putLeaf_14 rfl (lv_at hl 0 rfl) ?_
    refine gf_Walk_ledger hx hb hgw iwWalk hown hK hO k36 dX6_putLeaf_15 ?_
    refine gf_Ledger_leaves hx hb hgw iwLedger hown hK hO k227 dX6_putLeaf_18 ?_
    refine lv_aload_n hx hb dX6_putLeaf_21 rfl (lv_at hl 1 rfl) ?_
    refine gf_Frame_contract hx hb hgw iwFrame hown hK hO ha1 k214 dX6_putLeaf_22 ?_
    refine lv_bipush (v := 8) hx hb dX6_putLeaf_25 (by decide) ?_
    refine lv_imul hx hb dX6_putLeaf_27 ?_
    refine lv_iload_n hx hb dX6_putLeaf_28 rfl (lv_at hl 2 rfl) ?_
    refine lv_iadd hx hb dX6_putLeaf_29 ?_
    obtain ⟨hc5, h⟩ := ck_some h
    refine al_Leaves hx hb hK hO hc5 dX6_putLeaf_30 ?_
    obtain ⟨r6, st7, h8, h⟩ := bR_some h
    refine cw_calli (va_runV (As := [.long (gL st2 0 0 ((((gI st2 13 a1 0) * ((8 : Int32))) + a2).toNatClampNeg))]) (rest := []) ⟨hx, hb, hml, hown, hts⟩ (c_Pile_putNumber l D A ad cA tb0 tb1 a1 ha1 (gL st2 0 0 ((((gI st2 13 a1 0) * ((8 : Int32))) + a2).toNatClampNeg)) st2 r6 st7 h8) (cwV 1 hts (gw_V w_8fddbe94 w_34c9ad22 w_9e5e849e w_76c797a4 w_03086df0) rfl rfl rfl (by decide +kernel) ⟨Nat.le_of_ble_eq_true rfl, Nat.le_of_ble_eq_true rfl⟩) (cw_preV (k := 182 + 9 * a1) (ci := 4) hK hO rfl (by have := ha1; omega) (cc_Pile ha1)) rfl rfl hl.1 rfl (lv_room (Nat.le_of_ble_eq_true rfl)) dX6_putLeaf_31 ⟨Nat.zero_le _, Nat.zero_le _⟩) hO (fun H locs hO => ?_)
    obtain ⟨rfl, rfl⟩ := ret2 h; exact cw_iret hx hb hr hlocks hO dX6_putLeaf_34
  · have h := ite_t c4 h
    refine lv_bipush (v := 12) hx hb dX6_putLeaf_7 (by decide) ?_
    obtain ⟨rfl, rfl⟩ := ret2 h; exact cw_iret hx hb hr hlocks hO dX6_putLeaf_9
-- Walk changeLeaf
def j_Walk_changeLeaf (a1 : Nat) (a2 : Int32) (st : CwS) : Option (Int32 × CwS) :=
  bR (j_CW_isLeaf a2 st) fun r1 st2 =>
  if r1 = ((0 : Int32)) then
    some ((12 : Int32), st2)
  else
    bR (j_Pile_tookNumber a1 ((0 : Int32)) st2) fun r5 st6 =>
    if r5 = ((0 : Int32)) then
      some ((4 : Int32), st6)
    else
      bR (j_Pile_took a1 ((0 : Int32)) st6) fun r9 st10 =>
      ck (ix (((gI st6 13 a1 0) * ((8 : Int32))) + a2) 64) <|
      some ((0 : Int32), sL st10 0 0 ((((gI st6 13 a1 0) * ((8 : Int32))) + a2).toNatClampNeg) r9)
set_option maxHeartbeats 4000000 in
set_option maxRecDepth 100000 in
theorem c_Walk_changeLeaf (l : Launch) (D : va_G) (A : Nat → Prop) (ad : Nat → Nat) (cA : Nat → ClassId) (tb0 tb1 : Nat) (a1 : Nat) (ha1 : a1 < 10) (a2 : Int32) (st : CwS) (r : Int32) (st' : CwS) (h : j_Walk_changeLeaf a1 a2 st = some (r, st')) : Met l yX6_changeLeaf (wv yX6_changeLeaf cX6_changeLeaf 3 (some .int)) ({ frames := 2, cells := 0, slots := 0, locals := 43 }) (va_Pc [.ref (ad 176), .ref (ad (179 + 9 * a1)), .int a2] (cwU D A ad cA tb0 tb1 st)) (cwQi D A ad cA tb0 tb1 r st') 0 0 A := by
  refine Met.ofW (cc := cX6_changeLeaf) (maxL := 3) (ret := some .int) (by decide) rfl ?_
  intro p e s m args below meth c s₁ B hml hv
  obtain ⟨rfl, hP, hK⟩ := hv
  have hx := B.exec
  have hb := B.bytes
  have hr := B.returns
  have hts := atoms_spec (ws := wv yX6_changeLeaf cX6_changeLeaf 3 (some .int)) B.pre
  have hown : s.vm.findClass RX6 = some m.cls := findClass_of_methodNamed B.named
  have hlocks := B.notSynchronized
  have hO : cwO D A ad cA s st s.heap [] := ⟨hP, va_S.rf⟩
  have hl := lv_entry ([.ref (ad 176), .ref (ad (179 + 9 * a1)), .int a2]) (n := 3) (Nat.le_of_ble_eq_true rfl)
  rw [lg_entry_eq]
  generalize (lg_sl ([.ref (ad 176), .ref (ad (179 + 9 * a1)), .int a2]) ++ List.replicate (3 - (lg_sl ([.ref (ad 176), .ref (ad (179 + 9 * a1)), .int a2])).length) Slot.unset).toArray = ls at hl ⊢
  have hl : lv_has ls 3 [(0, .ref (ad 176)), (1, .ref (ad (179 + 9 * a1))), (2, .int a2)] := hl
  have _h0 := hO
  have hgw := fun (w : Cond) (h : w ∈ gwW) => hts w (List.mem_cons_of_mem _ h)
  have k36 := hgw _ w_4f54f888
  have k62 := hgw _ w_115d9ac3
  have k214 := hgw _ w_3799d173
  have k227 := hgw _ w_d39a3034
  unfold j_Walk_changeLeaf at h
  refine lv_iload_n hx hb dX6_changeLeaf_0 rfl (lv_at hl 2 rfl) ?_
  obtain ⟨r1, st2, h3, h⟩ := bR_some h
  refine cw_calli (va_runSN (As := [.int a2]) (rest := []) ⟨hx, hb, hml, hown, hts⟩ (c_CW_isLeaf l D A ad cA tb0 tb1 a2 st r1 st2 h3) ⟨va_cnB 1 hts (gw_N w_778875df) rfl rfl rfl hK.2.2.2.1 (hgw _ w_0fc29077) (by decide +kernel) ⟨Nat.le_of_ble_eq_true rfl, Nat.le_of_ble_eq_true rfl⟩, hgw _ w_45a6a7ae, trivial⟩ (cw_preS hK hO) rfl rfl hl.1 rfl (lv_room (Nat.le_of_ble_eq_true rfl)) dX6_changeLeaf_1 ⟨Nat.zero_le _, Nat.zero_le _⟩) hO (fun H locs hO => ?_)
  refine lv_if_ne (tgt := 10) hx hb dX6_changeLeaf_4 (by decide) (fun c4 => ?_) (fun c4 => ?_)
  · have h := ite_f c4 h
    refine lv_aload_n hx hb dX6_changeLeaf_10 rfl (lv_at hl 1 rfl) ?_
    refine gf_Frame_pile hx hb hgw iwFrame hown hK hO ha1 k62 dX6_changeLeaf_11 ?_
    refine lv_iconst (v := 0) hx hb dX6_changeLeaf_14 (by decide) ?_
    obtain ⟨r5, st6, h7, h⟩ := bR_some h
    refine cw_calli (va_runV (As := [.int ((0 : Int32))]) (rest := []) ⟨hx, hb, hml, hown, hts⟩ (c_Pile_tookNumber l D A ad cA tb0 tb1 a1 ha1 ((0 : Int32)) st2 r5 st6 h7) (cwV 1 hts (gw_V w_1588eb10 w_710a0455 w_eea10879 w_76c797a4 w_f9f5f760) rfl rfl rfl (by decide +kernel) ⟨Nat.le_of_ble_eq_true rfl, Nat.le_of_ble_eq_true rfl⟩) (cw_preV (k := 182 + 9 * a1) (ci := 4) hK hO rfl (by have := ha1; omega) (cc_Pile ha1)) rfl rfl hl.1 rfl (lv_room (Nat.le_of_ble_eq_true rfl)) dX6_changeLeaf_15 ⟨Nat.zero_le _, Nat.zero_le _⟩) hO (fun H locs hO => ?_)
    refine lv_if_ne (tgt := 23) hx hb dX6_changeLeaf_18 (by decide) (fun c8 => ?_) (fun c8 => ?_)
    · have h := ite_f c8 h
      refine lv_aload_n hx hb dX6_changeLeaf_23 rfl (lv_at hl 0 rfl) ?_
      refine gf_Walk_ledger hx hb hgw iwWalk hown hK hO k36 dX6_changeLeaf_24 ?_
      refine gf_Ledger_leaves hx hb hgw iwLedger hown hK hO k227 dX6_changeLeaf_27 ?_
      refine lv_aload_n hx hb dX6_changeLeaf_30 rfl (lv_at hl 1 rfl) ?_
      refine gf_Frame_contract hx hb hgw iwFrame hown hK hO ha1 k214 dX6_changeLeaf_31 ?_
      refine lv_bipush (v := 8) hx hb dX6_changeLeaf_34 (by decide) ?_
      refine lv_imul hx hb dX6_changeLeaf_36 ?_
      refine lv_iload_n hx hb dX6_changeLeaf_37 rfl (lv_at hl 2 rfl) ?_
      refine lv_iadd hx hb dX6_changeLeaf_38 ?_
      refine lv_aload_n hx hb dX6_changeLeaf_39 rfl (lv_at hl 1 rfl) ?_
      refine gf_Frame_pile hx hb hgw iwFrame hown hK hO ha1 k62 dX6_changeLeaf_40 ?_
      refine lv_iconst (v := 0) hx hb dX6_changeLeaf_43 (by decide) ?_
      obtain ⟨r9, st10, h11, h⟩ := bR_some h
      refine cw_calll (va_runV (As := [.int ((0 : Int32))]) (rest := [.int (((gI st6 13 a1 0) * ((8 : Int32))) + a2), .ref (ad 149)]) ⟨hx, hb, hml, hown, hts⟩ (c_Pile_took l D A ad cA tb0 tb1 a1 ha1 ((0 : Int32)) st6 r9 st10 h11) (cwV 1 hts (gw_V w_93fed6db w_e50f7684 w_26b160a3 w_76c797a4 w_c905c078) rfl rfl rfl (by decide +kernel) ⟨Nat.le_of_ble_eq_true rfl, Nat.le_of_ble_eq_true rfl⟩) (cw_preV (k := 182 + 9 * a1) (ci := 4) hK hO rfl (by have := ha1; omega) (cc_Pile ha1)) rfl rfl hl.1 rfl (lv_room (Nat.le_of_ble_eq_true rfl)) dX6_changeLeaf_44 ⟨Nat.zero_le _, Nat.zero_le _⟩) hO (fun H locs hO => ?_)
      obtain ⟨hc12, h⟩ := ck_some h
      refine as_Leaves hx hb hK hO hc12 dX6_changeLeaf_47 (fun H locs hO => ?_)
      refine lv_iconst (v := 0) hx hb dX6_changeLeaf_48 (by decide) ?_
      obtain ⟨rfl, rfl⟩ := ret2 h; exact cw_iret hx hb hr hlocks hO dX6_changeLeaf_49
    · have h := ite_t c8 h
      refine lv_iconst (v := 4) hx hb dX6_changeLeaf_21 (by decide) ?_
      obtain ⟨rfl, rfl⟩ := ret2 h; exact cw_iret hx hb hr hlocks hO dX6_changeLeaf_22
  · have h := ite_t c4 h
    refine lv_bipush (v := 12) hx hb dX6_changeLeaf_7 (by decide) ?_
    obtain ⟨rfl, rfl⟩ := ret2 h; exact cw_iret hx hb hr hlocks hO dX6_changeLeaf_9
-- Walk putTwice
def j_Walk_putTwice (a0 : Nat) (st : CwS) : Option (Int32 × CwS) :=
  bR (j_Pile_tookKind a0 ((0 : Int32)) st) fun r1 st2 =>
  bR (j_Pile_took a0 ((0 : Int32)) st2) fun r4 st5 =>
  bR (j_Pile_put a0 r1 r4 st5) fun r7 st8 =>
  bR (j_Pile_put a0 r1 r4 st8) fun r10 st11 =>
  some (r10, st11)
set_option maxHeartbeats 4000000 in
set_option maxRecDepth 100000 in
theorem c_Walk_putTwice (l : Launch) (D : va_G) (A : Nat → Prop) (ad : Nat → Nat) (cA : Nat → ClassId) (tb0 tb1 : Nat) (a0 : Nat) (ha0 : a0 < 10) (st : CwS) (r : Int32) (st' : CwS) (h : j_Walk_putTwice a0 st = some (r, st')) : Met l yX6_putTwice (wv yX6_putTwice cX6_putTwice 4 (some .int)) ({ frames := 1, cells := 0, slots := 0, locals := 23 }) (va_Pc [.ref (ad (182 + 9 * a0))] (cwU D A ad cA tb0 tb1 st)) (cwQi D A ad cA tb0 tb1 r st') 0 0 A := by
  refine Met.ofW (cc := cX6_putTwice) (maxL := 4) (ret := some .int) (by decide) rfl ?_
  intro p e s m args below meth c s₁ B hml hv
  obtain ⟨rfl, hP, hK⟩ := hv
  have hx := B.exec
  have hb := B.bytes
  have hr := B.returns
  have hts := atoms_spec (ws := wv yX6_putTwice cX6_putTwice 4 (some .int)) B.pre
  have hown : s.vm.findClass RX6 = some m.cls := findClass_of_methodNamed B.named
  have hlocks := B.notSynchronized
  have hO : cwO D A ad cA s st s.heap [] := ⟨hP, va_S.rf⟩
  have hl := lv_entry ([.ref (ad (182 + 9 * a0))]) (n := 4) (Nat.le_of_ble_eq_true rfl)
  rw [lg_entry_eq]
  generalize (lg_sl ([.ref (ad (182 + 9 * a0))]) ++ List.replicate (4 - (lg_sl ([.ref (ad (182 + 9 * a0))])).length) Slot.unset).toArray = ls at hl ⊢
  have hl : lv_has ls 4 [(0, .ref (ad (182 + 9 * a0)))] := hl
  have _h0 := hO
  have hgw := fun (w : Cond) (h : w ∈ gwW) => hts w (List.mem_cons_of_mem _ h)
  unfold j_Walk_putTwice at h
  refine lv_aload_n hx hb dX6_putTwice_0 rfl (lv_at hl 0 rfl) ?_
  refine lv_iconst (v := 0) hx hb dX6_putTwice_1 (by decide) ?_
  obtain ⟨r1, st2, h3, h⟩ := bR_some h
  refine cw_calli (va_runV (As := [.int ((0 : Int32))]) (rest := []) ⟨hx, hb, hml, hown, hts⟩ (c_Pile_tookKind l D A ad cA tb0 tb1 a0 ha0 ((0 : Int32)) st r1 st2 h3) (cwV 1 hts (gw_V w_46dcffd2 w_5c9fe01c w_ceab1f00 w_76c797a4 w_72af167e) rfl rfl rfl (by decide +kernel) ⟨Nat.le_of_ble_eq_true rfl, Nat.le_of_ble_eq_true rfl⟩) (cw_preV (k := 182 + 9 * a0) (ci := 4) hK hO rfl (by have := ha0; omega) (cc_Pile ha0)) rfl rfl hl.1 rfl (lv_room (Nat.le_of_ble_eq_true rfl)) dX6_putTwice_2 ⟨Nat.zero_le _, Nat.zero_le _⟩) hO (fun H locs hO => ?_)
  refine lv_istore_n (lv' := [(1, .int r1), (0, .ref (ad (182 + 9 * a0)))]) hx hb dX6_putTwice_5 rfl hl (by decide) rfl (fun ls hl => ?_)
  refine lv_aload_n hx hb dX6_putTwice_6 rfl (lv_at hl 1 rfl) ?_
  refine lv_iconst (v := 0) hx hb dX6_putTwice_7 (by decide) ?_
  obtain ⟨r4, st5, h6, h⟩ := bR_some h
  refine cw_calll (va_runV (As := [.int ((0 : Int32))]) (rest := []) ⟨hx, hb, hml, hown, hts⟩ (c_Pile_took l D A ad cA tb0 tb1 a0 ha0 ((0 : Int32)) st2 r4 st5 h6) (cwV 1 hts (gw_V w_93fed6db w_e50f7684 w_26b160a3 w_76c797a4 w_c905c078) rfl rfl rfl (by decide +kernel) ⟨Nat.le_of_ble_eq_true rfl, Nat.le_of_ble_eq_true rfl⟩) (cw_preV (k := 182 + 9 * a0) (ci := 4) hK hO rfl (by have := ha0; omega) (cc_Pile ha0)) rfl rfl hl.1 rfl (lv_room (Nat.le_of_ble_eq_true rfl)) dX6_putTwice_8 ⟨Nat.zero_le _, Nat.zero_le _⟩) hO (fun H locs hO => ?_)
  refine lv_lstore_n (lv' := [(2, .long r4), (1, .int r1), (0, .ref (ad (182 + 9 * a0)))]) hx hb dX6_putTwice_11 rfl hl (by decide) rfl (fun ls hl => ?_)
  refine lv_aload_n hx hb dX6_putTwice_12 rfl (lv_at hl 2 rfl) ?_
  refine lv_iload_n hx hb dX6_putTwice_13 rfl (lv_at hl 1 rfl) ?_
  refine lv_lload_n hx hb dX6_putTwice_14 rfl (lv_at hl 0 rfl) ?_
  obtain ⟨r7, st8, h9, h⟩ := bR_some h
  refine cw_calli (va_runV (As := [.int r1, .long r4]) (rest := []) ⟨hx, hb, hml, hown, hts⟩ (c_Pile_put l D A ad cA tb0 tb1 a0 ha0 r1 r4 st5 r7 st8 h9) (cwV 2 hts (gw_V w_085b0eb2 w_d8d501aa w_46b57ea6 w_76c797a4 w_54242bcb) rfl rfl rfl (by decide +kernel) ⟨Nat.le_of_ble_eq_true rfl, Nat.le_of_ble_eq_true rfl⟩) (cw_preV (k := 182 + 9 * a0) (ci := 4) hK hO rfl (by have := ha0; omega) (cc_Pile ha0)) rfl rfl hl.1 rfl (lv_room (Nat.le_of_ble_eq_true rfl)) dX6_putTwice_15 ⟨Nat.zero_le _, Nat.zero_le _⟩) hO (fun H locs hO => ?_)
  refine lv_pop hx hb dX6_putTwice_18 rfl ?_
  refine lv_aload_n hx hb dX6_putTwice_19 rfl (lv_at hl 2 rfl) ?_
  refine lv_iload_n hx hb dX6_putTwice_20 rfl (lv_at hl 1 rfl) ?_
  refine lv_lload_n hx hb dX6_putTwice_21 rfl (lv_at hl 0 rfl) ?_
  obtain ⟨r10, st11, h12, h⟩ := bR_some h
  refine cw_calli (va_runV (As := [.int r1, .long r4]) (rest := []) ⟨hx, hb, hml, hown, hts⟩ (c_Pile_put l D A ad cA tb0 tb1 a0 ha0 r1 r4 st8 r10 st11 h12) (cwV 2 hts (gw_V w_085b0eb2 w_d8d501aa w_46b57ea6 w_76c797a4 w_54242bcb) rfl rfl rfl (by decide +kernel) ⟨Nat.le_of_ble_eq_true rfl, Nat.le_of_ble_eq_true rfl⟩) (cw_preV (k := 182 + 9 * a0) (ci := 4) hK hO rfl (by have := ha0; omega) (cc_Pile ha0)) rfl rfl hl.1 rfl (lv_room (Nat.le_of_ble_eq_true rfl)) dX6_putTwice_22 ⟨Nat.zero_le _, Nat.zero_le _⟩) hO (fun H locs hO => ?_)
  obtain ⟨rfl, rfl⟩ := ret2 h; exact cw_iret hx hb hr hlocks hO dX6_putTwice_25
-- Walk putSwapped
def j_Walk_putSwapped (a0 : Nat) (st : CwS) : Option (Int32 × CwS) :=
  bR (j_Pile_tookKind a0 ((0 : Int32)) st) fun r1 st2 =>
  bR (j_Pile_took a0 ((0 : Int32)) st2) fun r4 st5 =>
  bR (j_Pile_tookKind a0 ((1 : Int32)) st5) fun r7 st8 =>
  bR (j_Pile_took a0 ((1 : Int32)) st8) fun r10 st11 =>
  bR (j_Pile_put a0 r1 r4 st11) fun r13 st14 =>
  bR (j_Pile_put a0 r7 r10 st14) fun r16 st17 =>
  some (r16, st17)
set_option maxHeartbeats 4000000 in
set_option maxRecDepth 100000 in
theorem c_Walk_putSwapped (l : Launch) (D : va_G) (A : Nat → Prop) (ad : Nat → Nat) (cA : Nat → ClassId) (tb0 tb1 : Nat) (a0 : Nat) (ha0 : a0 < 10) (st : CwS) (r : Int32) (st' : CwS) (h : j_Walk_putSwapped a0 st = some (r, st')) : Met l yX6_putSwapped (wv yX6_putSwapped cX6_putSwapped 7 (some .int)) ({ frames := 1, cells := 0, slots := 0, locals := 23 }) (va_Pc [.ref (ad (182 + 9 * a0))] (cwU D A ad cA tb0 tb1 st)) (cwQi D A ad cA tb0 tb1 r st') 0 0 A := by
  refine Met.ofW (cc := cX6_putSwapped) (maxL := 7) (ret := some .int) (by decide) rfl ?_
  intro p e s m args below meth c s₁ B hml hv
  obtain ⟨rfl, hP, hK⟩ := hv
  have hx := B.exec
  have hb := B.bytes
  have hr := B.returns
  have hts := atoms_spec (ws := wv yX6_putSwapped cX6_putSwapped 7 (some .int)) B.pre
  have hown : s.vm.findClass RX6 = some m.cls := findClass_of_methodNamed B.named
  have hlocks := B.notSynchronized
  have hO : cwO D A ad cA s st s.heap [] := ⟨hP, va_S.rf⟩
  have hl := lv_entry ([.ref (ad (182 + 9 * a0))]) (n := 7) (Nat.le_of_ble_eq_true rfl)
  rw [lg_entry_eq]
  generalize (lg_sl ([.ref (ad (182 + 9 * a0))]) ++ List.replicate (7 - (lg_sl ([.ref (ad (182 + 9 * a0))])).length) Slot.unset).toArray = ls at hl ⊢
  have hl : lv_has ls 7 [(0, .ref (ad (182 + 9 * a0)))] := hl
  have _h0 := hO
  have hgw := fun (w : Cond) (h : w ∈ gwW) => hts w (List.mem_cons_of_mem _ h)
  unfold j_Walk_putSwapped at h
  refine lv_aload_n hx hb dX6_putSwapped_0 rfl (lv_at hl 0 rfl) ?_
  refine lv_iconst (v := 0) hx hb dX6_putSwapped_1 (by decide) ?_
  obtain ⟨r1, st2, h3, h⟩ := bR_some h
  refine cw_calli (va_runV (As := [.int ((0 : Int32))]) (rest := []) ⟨hx, hb, hml, hown, hts⟩ (c_Pile_tookKind l D A ad cA tb0 tb1 a0 ha0 ((0 : Int32)) st r1 st2 h3) (cwV 1 hts (gw_V w_46dcffd2 w_5c9fe01c w_ceab1f00 w_76c797a4 w_72af167e) rfl rfl rfl (by decide +kernel) ⟨Nat.le_of_ble_eq_true rfl, Nat.le_of_ble_eq_true rfl⟩) (cw_preV (k := 182 + 9 * a0) (ci := 4) hK hO rfl (by have := ha0; omega) (cc_Pile ha0)) rfl rfl hl.1 rfl (lv_room (Nat.le_of_ble_eq_true rfl)) dX6_putSwapped_2 ⟨Nat.zero_le _, Nat.zero_le _⟩) hO (fun H locs hO => ?_)
  refine lv_istore_n (lv' := [(1, .int r1), (0, .ref (ad (182 + 9 * a0)))]) hx hb dX6_putSwapped_5 rfl hl (by decide) rfl (fun ls hl => ?_)
  refine lv_aload_n hx hb dX6_putSwapped_6 rfl (lv_at hl 1 rfl) ?_
  refine lv_iconst (v := 0) hx hb dX6_putSwapped_7 (by decide) ?_
  obtain ⟨r4, st5, h6, h⟩ := bR_some h
  refine cw_calll (va_runV (As := [.int ((0 : Int32))]) (rest := []) ⟨hx, hb, hml, hown, hts⟩ (c_Pile_took l D A ad cA tb0 tb1 a0 ha0 ((0 : Int32)) st2 r4 st5 h6) (cwV 1 hts (gw_V w_93fed6db w_e50f7684 w_26b160a3 w_76c797a4 w_c905c078) rfl rfl rfl (by decide +kernel) ⟨Nat.le_of_ble_eq_true rfl, Nat.le_of_ble_eq_true rfl⟩) (cw_preV (k := 182 + 9 * a0) (ci := 4) hK hO rfl (by have := ha0; omega) (cc_Pile ha0)) rfl rfl hl.1 rfl (lv_room (Nat.le_of_ble_eq_true rfl)) dX6_putSwapped_8 ⟨Nat.zero_le _, Nat.zero_le _⟩) hO (fun H locs hO => ?_)
  refine lv_lstore_n (lv' := [(2, .long r4), (1, .int r1), (0, .ref (ad (182 + 9 * a0)))]) hx hb dX6_putSwapped_11 rfl hl (by decide) rfl (fun ls hl => ?_)
  refine lv_aload_n hx hb dX6_putSwapped_12 rfl (lv_at hl 2 rfl) ?_
  refine lv_iconst (v := 1) hx hb dX6_putSwapped_13 (by decide) ?_
  obtain ⟨r7, st8, h9, h⟩ := bR_some h
  refine cw_calli (va_runV (As := [.int ((1 : Int32))]) (rest := []) ⟨hx, hb, hml, hown, hts⟩ (c_Pile_tookKind l D A ad cA tb0 tb1 a0 ha0 ((1 : Int32)) st5 r7 st8 h9) (cwV 1 hts (gw_V w_46dcffd2 w_5c9fe01c w_ceab1f00 w_76c797a4 w_72af167e) rfl rfl rfl (by decide +kernel) ⟨Nat.le_of_ble_eq_true rfl, Nat.le_of_ble_eq_true rfl⟩) (cw_preV (k := 182 + 9 * a0) (ci := 4) hK hO rfl (by have := ha0; omega) (cc_Pile ha0)) rfl rfl hl.1 rfl (lv_room (Nat.le_of_ble_eq_true rfl)) dX6_putSwapped_14 ⟨Nat.zero_le _, Nat.zero_le _⟩) hO (fun H locs hO => ?_)
  refine lv_istore (lv' := [(4, .int r7), (2, .long r4), (1, .int r1), (0, .ref (ad (182 + 9 * a0)))]) hx hb dX6_putSwapped_17 hl (by decide) rfl (fun ls hl => ?_)
  refine lv_aload_n hx hb dX6_putSwapped_19 rfl (lv_at hl 3 rfl) ?_
  refine lv_iconst (v := 1) hx hb dX6_putSwapped_20 (by decide) ?_
  obtain ⟨r10, st11, h12, h⟩ := bR_some h
  refine cw_calll (va_runV (As := [.int ((1 : Int32))]) (rest := []) ⟨hx, hb, hml, hown, hts⟩ (c_Pile_took l D A ad cA tb0 tb1 a0 ha0 ((1 : Int32)) st8 r10 st11 h12) (cwV 1 hts (gw_V w_93fed6db w_e50f7684 w_26b160a3 w_76c797a4 w_c905c078) rfl rfl rfl (by decide +kernel) ⟨Nat.le_of_ble_eq_true rfl, Nat.le_of_ble_eq_true rfl⟩) (cw_preV (k := 182 + 9 * a0) (ci := 4) hK hO rfl (by have := ha0; omega) (cc_Pile ha0)) rfl rfl hl.1 rfl (lv_room (Nat.le_of_ble_eq_true rfl)) dX6_putSwapped_21 ⟨Nat.zero_le _, Nat.zero_le _⟩) hO (fun H locs hO => ?_)
  refine lv_lstore (lv' := [(5, .long r10), (4, .int r7), (2, .long r4), (1, .int r1), (0, .ref (ad (182 + 9 * a0)))]) hx hb dX6_putSwapped_24 hl (by decide) rfl (fun ls hl => ?_)
  refine lv_aload_n hx hb dX6_putSwapped_26 rfl (lv_at hl 4 rfl) ?_
  refine lv_iload_n hx hb dX6_putSwapped_27 rfl (lv_at hl 3 rfl) ?_
  refine lv_lload_n hx hb dX6_putSwapped_28 rfl (lv_at hl 2 rfl) ?_
  obtain ⟨r13, st14, h15, h⟩ := bR_some h
  refine cw_calli (va_runV (As := [.int r1, .long r4]) (rest := []) ⟨hx, hb, hml, hown, hts⟩ (c_Pile_put l D A ad cA tb0 tb1 a0 ha0 r1 r4 st11 r13 st14 h15) (cwV 2 hts (gw_V w_085b0eb2 w_d8d501aa w_46b57ea6 w_76c797a4 w_54242bcb) rfl rfl rfl (by decide +kernel) ⟨Nat.le_of_ble_eq_true rfl, Nat.le_of_ble_eq_true rfl⟩) (cw_preV (k := 182 + 9 * a0) (ci := 4) hK hO rfl (by have := ha0; omega) (cc_Pile ha0)) rfl rfl hl.1 rfl (lv_room (Nat.le_of_ble_eq_true rfl)) dX6_putSwapped_29 ⟨Nat.zero_le _, Nat.zero_le _⟩) hO (fun H locs hO => ?_)
  refine lv_pop hx hb dX6_putSwapped_32 rfl ?_
  refine lv_aload_n hx hb dX6_putSwapped_33 rfl (lv_at hl 4 rfl) ?_
  refine lv_iload hx hb dX6_putSwapped_34 (lv_at hl 1 rfl) ?_
  refine lv_lload hx hb dX6_putSwapped_36 (lv_at hl 0 rfl) ?_
  obtain ⟨r16, st17, h18, h⟩ := bR_some h
  refine cw_calli (va_runV (As := [.int r7, .long r10]) (rest := []) ⟨hx, hb, hml, hown, hts⟩ (c_Pile_put l D A ad cA tb0 tb1 a0 ha0 r7 r10 st14 r16 st17 h18) (cwV 2 hts (gw_V w_085b0eb2 w_d8d501aa w_46b57ea6 w_76c797a4 w_54242bcb) rfl rfl rfl (by decide +kernel) ⟨Nat.le_of_ble_eq_true rfl, Nat.le_of_ble_eq_true rfl⟩) (cw_preV (k := 182 + 9 * a0) (ci := 4) hK hO rfl (by have := ha0; omega) (cc_Pile ha0)) rfl rfl hl.1 rfl (lv_room (Nat.le_of_ble_eq_true rfl)) dX6_putSwapped_38 ⟨Nat.zero_le _, Nat.zero_le _⟩) hO (fun H locs hO => ?_)
  obtain ⟨rfl, rfl⟩ := ret2 h; exact cw_iret hx hb hr hlocks hO dX6_putSwapped_41
-- Walk calculate
def j_Walk_calculate (a0 : Nat) (a1 : Int32) (st : CwS) : Option (Int32 × CwS) :=
  bR (j_Pile_tookNumber a0 ((0 : Int32)) st) fun r1 st2 =>
  if r1 = ((0 : Int32)) then
    some ((4 : Int32), st2)
  else
    bR (j_Pile_tookNumber a0 ((1 : Int32)) st2) fun r5 st6 =>
    if r5 = ((0 : Int32)) then
      some ((4 : Int32), st6)
    else
      bR (j_Pile_took a0 ((0 : Int32)) st6) fun r9 st10 =>
      bR (j_Pile_took a0 ((1 : Int32)) st10) fun r12 st13 =>
      if a1 = (6 : Int32) then
        bR (j_CW_sumFits r12 r9 st13) fun r15 st16 =>
        if r15 = ((0 : Int32)) then
          some ((6 : Int32), st16)
        else
          bR (j_Pile_putNumber a0 (r12 + r9) st16) fun r19 st20 =>
          some (r19, st20)
      else
      if a1 = (7 : Int32) then
        bR (j_CW_differenceFits r12 r9 st13) fun r22 st23 =>
        if r22 = ((0 : Int32)) then
          some ((6 : Int32), st23)
        else
          bR (j_Pile_putNumber a0 (r12 - r9) st23) fun r26 st27 =>
          some (r26, st27)
      else
      if a1 = (8 : Int32) then
        bR (j_CW_productFits r12 r9 st13) fun r29 st30 =>
        if r29 = ((0 : Int32)) then
          some ((6 : Int32), st30)
        else
          bR (j_Pile_putNumber a0 (r12 * r9) st30) fun r33 st34 =>
          some (r33, st34)
      else
      if a1 = (9 : Int32) then
        if (lg_cmp r9 ((0 : Int64))) = ((0 : Int32)) then
          some ((1 : Int32), st13)
        else
          ck (!(decide (r9 = 0))) <|
          bR (j_Pile_putNumber a0 (r12 / r9) st13) fun r38 st39 =>
          some (r38, st39)
      else
      if a1 = (10 : Int32) then
        if (lg_cmp r9 ((0 : Int64))) = ((0 : Int32)) then
          some ((1 : Int32), st13)
        else
          ck (!(decide (r9 = 0))) <|
          bR (j_Pile_putNumber a0 (r12 - r12 / r9 * r9) st13) fun r43 st44 =>
          some (r43, st44)
      else
      if a1 = (11 : Int32) then
        if ((0 : Int32)) ≤ (lg_cmp r12 r9) then
          bR (j_Pile_putNumber a0 ((0 : Int64)) st13) fun r47 st48 =>
          some (r47, st48)
        else
          bR (j_Pile_putNumber a0 ((1 : Int64)) st13) fun r50 st51 =>
          some (r50, st51)
      else
      if a1 = (12 : Int32) then
        if (lg_cmp r12 r9) = ((0 : Int32)) then
          bR (j_Pile_putNumber a0 ((1 : Int64)) st13) fun r57 st58 =>
          some (r57, st58)
        else
          bR (j_Pile_putNumber a0 ((0 : Int64)) st13) fun r54 st55 =>
          some (r54, st55)
      else
        some ((12 : Int32), st13)
set_option maxHeartbeats 4000000 in
set_option maxRecDepth 100000 in
theorem c_Walk_calculate (l : Launch) (D : va_G) (A : Nat → Prop) (ad : Nat → Nat) (cA : Nat → ClassId) (tb0 tb1 : Nat) (a0 : Nat) (ha0 : a0 < 10) (a1 : Int32) (st : CwS) (r : Int32) (st' : CwS) (h : j_Walk_calculate a0 a1 st = some (r, st')) : Met l yX6_calculate (wv yX6_calculate cX6_calculate 6 (some .int)) ({ frames := 2, cells := 0, slots := 0, locals := 45 }) (va_Pc [.ref (ad (182 + 9 * a0)), .int a1] (cwU D A ad cA tb0 tb1 st)) (cwQi D A ad cA tb0 tb1 r st') 0 0 A := by
  refine Met.ofW (cc := cX6_calculate) (maxL := 6) (ret := some .int) (by decide) rfl ?_
  intro p e s m args below meth c s₁ B hml hv
  obtain ⟨rfl, hP, hK⟩ := hv
  have hx := B.exec
  have hb := B.bytes
  have hr := B.returns
  have hts := atoms_spec (ws := wv yX6_calculate cX6_calculate 6 (some .int)) B.pre
  have hown : s.vm.findClass RX6 = some m.cls := findClass_of_methodNamed B.named
  have hlocks := B.notSynchronized
  have hO : cwO D A ad cA s st s.heap [] := ⟨hP, va_S.rf⟩
  have hl := lv_entry ([.ref (ad (182 + 9 * a0)), .int a1]) (n := 6) (Nat.le_of_ble_eq_true rfl)
  rw [lg_entry_eq]
  generalize (lg_sl ([.ref (ad (182 + 9 * a0)), .int a1]) ++ List.replicate (6 - (lg_sl ([.ref (ad (182 + 9 * a0)), .int a1])).length) Slot.unset).toArray = ls at hl ⊢
  have hl : lv_has ls 6 [(0, .ref (ad (182 + 9 * a0))), (1, .int a1)] := hl
  have _h0 := hO
  have hgw := fun (w : Cond) (h : w ∈ gwW) => hts w (List.mem_cons_of_mem _ h)
  unfold j_Walk_calculate at h
  refine lv_aload_n hx hb dX6_calculate_0 rfl (lv_at hl 0 rfl) ?_
  refine lv_iconst (v := 0) hx hb dX6_calculate_1 (by decide) ?_
  obtain ⟨r1, st2, h3, h⟩ := bR_some h
  refine cw_calli (va_runV (As := [.int ((0 : Int32))]) (rest := []) ⟨hx, hb, hml, hown, hts⟩ (c_Pile_tookNumber l D A ad cA tb0 tb1 a0 ha0 ((0 : Int32)) st r1 st2 h3) (cwV 1 hts (gw_V w_1588eb10 w_710a0455 w_eea10879 w_76c797a4 w_f9f5f760) rfl rfl rfl (by decide +kernel) ⟨Nat.le_of_ble_eq_true rfl, Nat.le_of_ble_eq_true rfl⟩) (cw_preV (k := 182 + 9 * a0) (ci := 4) hK hO rfl (by have := ha0; omega) (cc_Pile ha0)) rfl rfl hl.1 rfl (lv_room (Nat.le_of_ble_eq_true rfl)) dX6_calculate_2 ⟨Nat.zero_le _, Nat.zero_le _⟩) hO (fun H locs hO => ?_)
  refine lv_if_eq (tgt := 16) hx hb dX6_calculate_5 (by decide) (fun c4 => ?_) (fun c4 => ?_)
  · have h := ite_t c4 h
    refine lv_iconst (v := 4) hx hb dX6_calculate_16 (by decide) ?_
    obtain ⟨rfl, rfl⟩ := ret2 h; exact cw_iret hx hb hr hlocks hO dX6_calculate_17
  · have h := ite_f c4 h
    refine lv_aload_n hx hb dX6_calculate_8 rfl (lv_at hl 0 rfl) ?_
    refine lv_iconst (v := 1) hx hb dX6_calculate_9 (by decide) ?_
    obtain ⟨r5, st6, h7, h⟩ := bR_some h
    refine cw_calli (va_runV (As := [.int ((1 : Int32))]) (rest := []) ⟨hx, hb, hml, hown, hts⟩ (c_Pile_tookNumber l D A ad cA tb0 tb1 a0 ha0 ((1 : Int32)) st2 r5 st6 h7) (cwV 1 hts (gw_V w_1588eb10 w_710a0455 w_eea10879 w_76c797a4 w_f9f5f760) rfl rfl rfl (by decide +kernel) ⟨Nat.le_of_ble_eq_true rfl, Nat.le_of_ble_eq_true rfl⟩) (cw_preV (k := 182 + 9 * a0) (ci := 4) hK hO rfl (by have := ha0; omega) (cc_Pile ha0)) rfl rfl hl.1 rfl (lv_room (Nat.le_of_ble_eq_true rfl)) dX6_calculate_10 ⟨Nat.zero_le _, Nat.zero_le _⟩) hO (fun H locs hO => ?_)
    refine lv_if_ne (tgt := 18) hx hb dX6_calculate_13 (by decide) (fun c8 => ?_) (fun c8 => ?_)
    · have h := ite_f c8 h
      refine lv_aload_n hx hb dX6_calculate_18 rfl (lv_at hl 0 rfl) ?_
      refine lv_iconst (v := 0) hx hb dX6_calculate_19 (by decide) ?_
      obtain ⟨r9, st10, h11, h⟩ := bR_some h
      refine cw_calll (va_runV (As := [.int ((0 : Int32))]) (rest := []) ⟨hx, hb, hml, hown, hts⟩ (c_Pile_took l D A ad cA tb0 tb1 a0 ha0 ((0 : Int32)) st6 r9 st10 h11) (cwV 1 hts (gw_V w_93fed6db w_e50f7684 w_26b160a3 w_76c797a4 w_c905c078) rfl rfl rfl (by decide +kernel) ⟨Nat.le_of_ble_eq_true rfl, Nat.le_of_ble_eq_true rfl⟩) (cw_preV (k := 182 + 9 * a0) (ci := 4) hK hO rfl (by have := ha0; omega) (cc_Pile ha0)) rfl rfl hl.1 rfl (lv_room (Nat.le_of_ble_eq_true rfl)) dX6_calculate_20 ⟨Nat.zero_le _, Nat.zero_le _⟩) hO (fun H locs hO => ?_)
      refine lv_lstore_n (lv' := [(2, .long r9), (0, .ref (ad (182 + 9 * a0))), (1, .int a1)]) hx hb dX6_calculate_23 rfl hl (by decide) rfl (fun ls hl => ?_)
      refine lv_aload_n hx hb dX6_calculate_24 rfl (lv_at hl 1 rfl) ?_
      refine lv_iconst (v := 1) hx hb dX6_calculate_25 (by decide) ?_
      obtain ⟨r12, st13, h14, h⟩ := bR_some h
      refine cw_calll (va_runV (As := [.int ((1 : Int32))]) (rest := []) ⟨hx, hb, hml, hown, hts⟩ (c_Pile_took l D A ad cA tb0 tb1 a0 ha0 ((1 : Int32)) st10 r12 st13 h14) (cwV 1 hts (gw_V w_93fed6db w_e50f7684 w_26b160a3 w_76c797a4 w_c905c078) rfl rfl rfl (by decide +kernel) ⟨Nat.le_of_ble_eq_true rfl, Nat.le_of_ble_eq_true rfl⟩) (cw_preV (k := 182 + 9 * a0) (ci := 4) hK hO rfl (by have := ha0; omega) (cc_Pile ha0)) rfl rfl hl.1 rfl (lv_room (Nat.le_of_ble_eq_true rfl)) dX6_calculate_26 ⟨Nat.zero_le _, Nat.zero_le _⟩) hO (fun H locs hO => ?_)
      refine lv_lstore (lv' := [(4, .long r12), (2, .long r9), (0, .ref (ad (182 + 9 * a0))), (1, .int a1)]) hx hb dX6_calculate_29 hl (by decide) rfl (fun ls hl => ?_)
      refine lv_iload_n hx hb dX6_calculate_31 rfl (lv_at hl 3 rfl) ?_
      by_cases c60 : a1 = (6 : Int32)
      · have h := ite_t c60 h
        refine lv_tableIn (tgt := 76) hx hb dX6_calculate_32 (by rw [c60]; decide) (by rw [c60]; decide) (by rw [c60]; rfl) (by decide) ?_
        refine lv_lload hx hb dX6_calculate_76 (lv_at hl 0 rfl) ?_
        refine lv_lload_n hx hb dX6_calculate_78 rfl (lv_at hl 1 rfl) ?_
        obtain ⟨r15, st16, h17, h⟩ := bR_some h
        refine cw_calli (va_runSN (As := [.long r12, .long r9]) (rest := []) ⟨hx, hb, hml, hown, hts⟩ (c_CW_sumFits l D A ad cA tb0 tb1 r12 r9 st13 r15 st16 h17) ⟨va_cnB 2 hts (gw_N w_4da7ad3a) rfl rfl rfl hK.2.2.2.2.1 (hgw _ w_0fc29077) (by decide +kernel) ⟨Nat.le_of_ble_eq_true rfl, Nat.le_of_ble_eq_true rfl⟩, hgw _ w_0bad5949, trivial⟩ (cw_preS hK hO) rfl rfl hl.1 rfl (lv_room (Nat.le_of_ble_eq_true rfl)) dX6_calculate_79 ⟨Nat.zero_le _, Nat.zero_le _⟩) hO (fun H locs hO => ?_)
        refine lv_if_eq (tgt := 96) hx hb dX6_calculate_82 (by decide) (fun c18 => ?_) (fun c18 => ?_)
        · have h := ite_t c18 h
          refine lv_bipush (v := 6) hx hb dX6_calculate_96 (by decide) ?_
          obtain ⟨rfl, rfl⟩ := ret2 h; exact cw_iret hx hb hr hlocks hO dX6_calculate_98
        · have h := ite_f c18 h
          refine lv_aload_n hx hb dX6_calculate_85 rfl (lv_at hl 2 rfl) ?_
          refine lv_lload hx hb dX6_calculate_86 (lv_at hl 0 rfl) ?_
          refine lv_lload_n hx hb dX6_calculate_88 rfl (lv_at hl 1 rfl) ?_
          refine lv_ladd hx hb dX6_calculate_89 ?_
          obtain ⟨r19, st20, h21, h⟩ := bR_some h
          refine cw_calli (va_runV (As := [.long (r12 + r9)]) (rest := []) ⟨hx, hb, hml, hown, hts⟩ (c_Pile_putNumber l D A ad cA tb0 tb1 a0 ha0 (r12 + r9) st16 r19 st20 h21) (cwV 1 hts (gw_V w_8fddbe94 w_34c9ad22 w_9e5e849e w_76c797a4 w_03086df0) rfl rfl rfl (by decide +kernel) ⟨Nat.le_of_ble_eq_true rfl, Nat.le_of_ble_eq_true rfl⟩) (cw_preV (k := 182 + 9 * a0) (ci := 4) hK hO rfl (by have := ha0; omega) (cc_Pile ha0)) rfl rfl hl.1 rfl (lv_room (Nat.le_of_ble_eq_true rfl)) dX6_calculate_90 ⟨Nat.zero_le _, Nat.zero_le _⟩) hO (fun H locs hO => ?_)
          refine lv_goto (tgt := 98) hx hb dX6_calculate_93 (by decide) ?_
          obtain ⟨rfl, rfl⟩ := ret2 h; exact cw_iret hx hb hr hlocks hO dX6_calculate_98
      have h := ite_f c60 h
      by_cases c61 : a1 = (7 : Int32)
      · have h := ite_t c61 h
        refine lv_tableIn (tgt := 99) hx hb dX6_calculate_32 (by rw [c61]; decide) (by rw [c61]; decide) (by rw [c61]; rfl) (by decide) ?_
        refine lv_lload hx hb dX6_calculate_99 (lv_at hl 0 rfl) ?_
        refine lv_lload_n hx hb dX6_calculate_101 rfl (lv_at hl 1 rfl) ?_
        obtain ⟨r22, st23, h24, h⟩ := bR_some h
        refine cw_calli (va_runSN (As := [.long r12, .long r9]) (rest := []) ⟨hx, hb, hml, hown, hts⟩ (c_CW_differenceFits l D A ad cA tb0 tb1 r12 r9 st13 r22 st23 h24) ⟨va_cnB 2 hts (gw_N w_ef9c150f) rfl rfl rfl hK.2.2.2.2.2.1 (hgw _ w_0fc29077) (by decide +kernel) ⟨Nat.le_of_ble_eq_true rfl, Nat.le_of_ble_eq_true rfl⟩, hgw _ w_21831aed, trivial⟩ (cw_preS hK hO) rfl rfl hl.1 rfl (lv_room (Nat.le_of_ble_eq_true rfl)) dX6_calculate_102 ⟨Nat.zero_le _, Nat.zero_le _⟩) hO (fun H locs hO => ?_)
        refine lv_if_eq (tgt := 119) hx hb dX6_calculate_105 (by decide) (fun c25 => ?_) (fun c25 => ?_)
        · have h := ite_t c25 h
          refine lv_bipush (v := 6) hx hb dX6_calculate_119 (by decide) ?_
          obtain ⟨rfl, rfl⟩ := ret2 h; exact cw_iret hx hb hr hlocks hO dX6_calculate_121
        · have h := ite_f c25 h
          refine lv_aload_n hx hb dX6_calculate_108 rfl (lv_at hl 2 rfl) ?_
          refine lv_lload hx hb dX6_calculate_109 (lv_at hl 0 rfl) ?_
          refine lv_lload_n hx hb dX6_calculate_111 rfl (lv_at hl 1 rfl) ?_
          refine lv_lsub hx hb dX6_calculate_112 ?_
          obtain ⟨r26, st27, h28, h⟩ := bR_some h
          refine cw_calli (va_runV (As := [.long (r12 - r9)]) (rest := []) ⟨hx, hb, hml, hown, hts⟩ (c_Pile_putNumber l D A ad cA tb0 tb1 a0 ha0 (r12 - r9) st23 r26 st27 h28) (cwV 1 hts (gw_V w_8fddbe94 w_34c9ad22 w_9e5e849e w_76c797a4 w_03086df0) rfl rfl rfl (by decide +kernel) ⟨Nat.le_of_ble_eq_true rfl, Nat.le_of_ble_eq_true rfl⟩) (cw_preV (k := 182 + 9 * a0) (ci := 4) hK hO rfl (by have := ha0; omega) (cc_Pile ha0)) rfl rfl hl.1 rfl (lv_room (Nat.le_of_ble_eq_true rfl)) dX6_calculate_113 ⟨Nat.zero_le _, Nat.zero_le _⟩) hO (fun H locs hO => ?_)
          refine lv_goto (tgt := 121) hx hb dX6_calculate_116 (by decide) ?_
          obtain ⟨rfl, rfl⟩ := ret2 h; exact cw_iret hx hb hr hlocks hO dX6_calculate_121
      have h := ite_f c61 h
      by_cases c62 : a1 = (8 : Int32)
      · have h := ite_t c62 h
        refine lv_tableIn (tgt := 122) hx hb dX6_calculate_32 (by rw [c62]; decide) (by rw [c62]; decide) (by rw [c62]; rfl) (by decide) ?_
        refine lv_lload hx hb dX6_calculate_122 (lv_at hl 0 rfl) ?_
        refine lv_lload_n hx hb dX6_calculate_124 rfl (lv_at hl 1 rfl) ?_
        obtain ⟨r29, st30, h31, h⟩ := bR_some h
        refine cw_calli (va_runSN (As := [.long r12, .long r9]) (rest := []) ⟨hx, hb, hml, hown, hts⟩ (c_CW_productFits l D A ad cA tb0 tb1 r12 r9 st13 r29 st30 h31) ⟨va_cnB 2 hts (gw_N w_d70717ca) rfl rfl rfl hK.2.2.2.2.2.2.1 (hgw _ w_0fc29077) (by decide +kernel) ⟨Nat.le_of_ble_eq_true rfl, Nat.le_of_ble_eq_true rfl⟩, hgw _ w_3fd43fcb, trivial⟩ (cw_preS hK hO) rfl rfl hl.1 rfl (lv_room (Nat.le_of_ble_eq_true rfl)) dX6_calculate_125 ⟨Nat.zero_le _, Nat.zero_le _⟩) hO (fun H locs hO => ?_)
        refine lv_if_eq (tgt := 142) hx hb dX6_calculate_128 (by decide) (fun c32 => ?_) (fun c32 => ?_)
        · have h := ite_t c32 h
          refine lv_bipush (v := 6) hx hb dX6_calculate_142 (by decide) ?_
          obtain ⟨rfl, rfl⟩ := ret2 h; exact cw_iret hx hb hr hlocks hO dX6_calculate_144
        · have h := ite_f c32 h
          refine lv_aload_n hx hb dX6_calculate_131 rfl (lv_at hl 2 rfl) ?_
          refine lv_lload hx hb dX6_calculate_132 (lv_at hl 0 rfl) ?_
          refine lv_lload_n hx hb dX6_calculate_134 rfl (lv_at hl 1 rfl) ?_
          refine lv_lmul hx hb dX6_calculate_135 ?_
          obtain ⟨r33, st34, h35, h⟩ := bR_some h
          refine cw_calli (va_runV (As := [.long (r12 * r9)]) (rest := []) ⟨hx, hb, hml, hown, hts⟩ (c_Pile_putNumber l D A ad cA tb0 tb1 a0 ha0 (r12 * r9) st30 r33 st34 h35) (cwV 1 hts (gw_V w_8fddbe94 w_34c9ad22 w_9e5e849e w_76c797a4 w_03086df0) rfl rfl rfl (by decide +kernel) ⟨Nat.le_of_ble_eq_true rfl, Nat.le_of_ble_eq_true rfl⟩) (cw_preV (k := 182 + 9 * a0) (ci := 4) hK hO rfl (by have := ha0; omega) (cc_Pile ha0)) rfl rfl hl.1 rfl (lv_room (Nat.le_of_ble_eq_true rfl)) dX6_calculate_136 ⟨Nat.zero_le _, Nat.zero_le _⟩) hO (fun H locs hO => ?_)
          refine lv_goto (tgt := 144) hx hb dX6_calculate_139 (by decide) ?_
          obtain ⟨rfl, rfl⟩ := ret2 h; exact cw_iret hx hb hr hlocks hO dX6_calculate_144
      have h := ite_f c62 h
      by_cases c63 : a1 = (9 : Int32)
      · have h := ite_t c63 h
        refine lv_tableIn (tgt := 145) hx hb dX6_calculate_32 (by rw [c63]; decide) (by rw [c63]; decide) (by rw [c63]; rfl) (by decide) ?_
        refine lv_lload_n hx hb dX6_calculate_145 rfl (lv_at hl 1 rfl) ?_
        refine lv_lconst (v := 0) hx hb dX6_calculate_146 (by decide) ?_
        refine W.lcmp hx hb dX6_calculate_147 ?_
        refine lv_if_eq (tgt := 162) hx hb dX6_calculate_148 (by decide) (fun c36 => ?_) (fun c36 => ?_)
        · have h := ite_t c36 h
          refine lv_iconst (v := 1) hx hb dX6_calculate_162 (by decide) ?_
          obtain ⟨rfl, rfl⟩ := ret2 h; exact cw_iret hx hb hr hlocks hO dX6_calculate_163
        · have h := ite_f c36 h
          refine lv_aload_n hx hb dX6_calculate_151 rfl (lv_at hl 2 rfl) ?_
          refine lv_lload hx hb dX6_calculate_152 (lv_at hl 0 rfl) ?_
          refine lv_lload_n hx hb dX6_calculate_154 rfl (lv_at hl 1 rfl) ?_
          obtain ⟨hc37, h⟩ := ck_some h
          refine lv_ldiv hx hb dX6_calculate_155 (ck_ne hc37) ?_
          obtain ⟨r38, st39, h40, h⟩ := bR_some h
          refine cw_calli (va_runV (As := [.long (r12 / r9)]) (rest := []) ⟨hx, hb, hml, hown, hts⟩ (c_Pile_putNumber l D A ad cA tb0 tb1 a0 ha0 (r12 / r9) st13 r38 st39 h40) (cwV 1 hts (gw_V w_8fddbe94 w_34c9ad22 w_9e5e849e w_76c797a4 w_03086df0) rfl rfl rfl (by decide +kernel) ⟨Nat.le_of_ble_eq_true rfl, Nat.le_of_ble_eq_true rfl⟩) (cw_preV (k := 182 + 9 * a0) (ci := 4) hK hO rfl (by have := ha0; omega) (cc_Pile ha0)) rfl rfl hl.1 rfl (lv_room (Nat.le_of_ble_eq_true rfl)) dX6_calculate_156 ⟨Nat.zero_le _, Nat.zero_le _⟩) hO (fun H locs hO => ?_)
          refine lv_goto (tgt := 163) hx hb dX6_calculate_159 (by decide) ?_
          obtain ⟨rfl, rfl⟩ := ret2 h; exact cw_iret hx hb hr hlocks hO dX6_calculate_163
      have h := ite_f c63 h
      by_cases c64 : a1 = (10 : Int32)
      · have h := ite_t c64 h
        refine lv_tableIn (tgt := 164) hx hb dX6_calculate_32 (by rw [c64]; decide) (by rw [c64]; decide) (by rw [c64]; rfl) (by decide) ?_
        refine lv_lload_n hx hb dX6_calculate_164 rfl (lv_at hl 1 rfl) ?_
        refine lv_lconst (v := 0) hx hb dX6_calculate_165 (by decide) ?_
        refine W.lcmp hx hb dX6_calculate_166 ?_
        refine lv_if_eq (tgt := 181) hx hb dX6_calculate_167 (by decide) (fun c41 => ?_) (fun c41 => ?_)
        · have h := ite_t c41 h
          refine lv_iconst (v := 1) hx hb dX6_calculate_181 (by decide) ?_
          obtain ⟨rfl, rfl⟩ := ret2 h; exact cw_iret hx hb hr hlocks hO dX6_calculate_182
        · have h := ite_f c41 h
          refine lv_aload_n hx hb dX6_calculate_170 rfl (lv_at hl 2 rfl) ?_
          refine lv_lload hx hb dX6_calculate_171 (lv_at hl 0 rfl) ?_
          refine lv_lload_n hx hb dX6_calculate_173 rfl (lv_at hl 1 rfl) ?_
          obtain ⟨hc42, h⟩ := ck_some h
          refine lv_lrem hx hb dX6_calculate_174 (ck_ne hc42) ?_
          obtain ⟨r43, st44, h45, h⟩ := bR_some h
          refine cw_calli (va_runV (As := [.long (r12 - r12 / r9 * r9)]) (rest := []) ⟨hx, hb, hml, hown, hts⟩ (c_Pile_putNumber l D A ad cA tb0 tb1 a0 ha0 (r12 - r12 / r9 * r9) st13 r43 st44 h45) (cwV 1 hts (gw_V w_8fddbe94 w_34c9ad22 w_9e5e849e w_76c797a4 w_03086df0) rfl rfl rfl (by decide +kernel) ⟨Nat.le_of_ble_eq_true rfl, Nat.le_of_ble_eq_true rfl⟩) (cw_preV (k := 182 + 9 * a0) (ci := 4) hK hO rfl (by have := ha0; omega) (cc_Pile ha0)) rfl rfl hl.1 rfl (lv_room (Nat.le_of_ble_eq_true rfl)) dX6_calculate_175 ⟨Nat.zero_le _, Nat.zero_le _⟩) hO (fun H locs hO => ?_)
          refine lv_goto (tgt := 182) hx hb dX6_calculate_178 (by decide) ?_
          obtain ⟨rfl, rfl⟩ := ret2 h; exact cw_iret hx hb hr hlocks hO dX6_calculate_182
      have h := ite_f c64 h
      by_cases c65 : a1 = (11 : Int32)
      · have h := ite_t c65 h
        refine lv_tableIn (tgt := 183) hx hb dX6_calculate_32 (by rw [c65]; decide) (by rw [c65]; decide) (by rw [c65]; rfl) (by decide) ?_
        refine lv_aload_n hx hb dX6_calculate_183 rfl (lv_at hl 2 rfl) ?_
        refine lv_lload hx hb dX6_calculate_184 (lv_at hl 0 rfl) ?_
        refine lv_lload_n hx hb dX6_calculate_186 rfl (lv_at hl 1 rfl) ?_
        refine W.lcmp hx hb dX6_calculate_187 ?_
        refine lv_if_ge (tgt := 195) hx hb dX6_calculate_188 (by decide) (fun c46 => ?_) (fun c46 => ?_)
        · have h := ite_t c46 h
          refine lv_lconst (v := 0) hx hb dX6_calculate_195 (by decide) ?_
          obtain ⟨r47, st48, h49, h⟩ := bR_some h
          refine cw_calli (va_runV (As := [.long ((0 : Int64))]) (rest := []) ⟨hx, hb, hml, hown, hts⟩ (c_Pile_putNumber l D A ad cA tb0 tb1 a0 ha0 ((0 : Int64)) st13 r47 st48 h49) (cwV 1 hts (gw_V w_8fddbe94 w_34c9ad22 w_9e5e849e w_76c797a4 w_03086df0) rfl rfl rfl (by decide +kernel) ⟨Nat.le_of_ble_eq_true rfl, Nat.le_of_ble_eq_true rfl⟩) (cw_preV (k := 182 + 9 * a0) (ci := 4) hK hO rfl (by have := ha0; omega) (cc_Pile ha0)) rfl rfl hl.1 rfl (lv_room (Nat.le_of_ble_eq_true rfl)) dX6_calculate_196 ⟨Nat.zero_le _, Nat.zero_le _⟩) hO (fun H locs hO => ?_)
          obtain ⟨rfl, rfl⟩ := ret2 h; exact cw_iret hx hb hr hlocks hO dX6_calculate_199
        · have h := ite_f c46 h
          refine lv_lconst (v := 1) hx hb dX6_calculate_191 (by decide) ?_
          refine lv_goto (tgt := 196) hx hb dX6_calculate_192 (by decide) ?_
          obtain ⟨r50, st51, h52, h⟩ := bR_some h
          refine cw_calli (va_runV (As := [.long ((1 : Int64))]) (rest := []) ⟨hx, hb, hml, hown, hts⟩ (c_Pile_putNumber l D A ad cA tb0 tb1 a0 ha0 ((1 : Int64)) st13 r50 st51 h52) (cwV 1 hts (gw_V w_8fddbe94 w_34c9ad22 w_9e5e849e w_76c797a4 w_03086df0) rfl rfl rfl (by decide +kernel) ⟨Nat.le_of_ble_eq_true rfl, Nat.le_of_ble_eq_true rfl⟩) (cw_preV (k := 182 + 9 * a0) (ci := 4) hK hO rfl (by have := ha0; omega) (cc_Pile ha0)) rfl rfl hl.1 rfl (lv_room (Nat.le_of_ble_eq_true rfl)) dX6_calculate_196 ⟨Nat.zero_le _, Nat.zero_le _⟩) hO (fun H locs hO => ?_)
          obtain ⟨rfl, rfl⟩ := ret2 h; exact cw_iret hx hb hr hlocks hO dX6_calculate_199
      have h := ite_f c65 h
      by_cases c66 : a1 = (12 : Int32)
      · have h := ite_t c66 h
        refine lv_tableIn (tgt := 200) hx hb dX6_calculate_32 (by rw [c66]; decide) (by rw [c66]; decide) (by rw [c66]; rfl) (by decide) ?_
        refine lv_aload_n hx hb dX6_calculate_200 rfl (lv_at hl 2 rfl) ?_
        refine lv_lload hx hb dX6_calculate_201 (lv_at hl 0 rfl) ?_
        refine lv_lload_n hx hb dX6_calculate_203 rfl (lv_at hl 1 rfl) ?_
        refine W.lcmp hx hb dX6_calculate_204 ?_
        refine lv_if_ne (tgt := 212) hx hb dX6_calculate_205 (by decide) (fun c53 => ?_) (fun c53 => ?_)
        · have h := ite_f c53 h
          refine lv_lconst (v := 0) hx hb dX6_calculate_212 (by decide) ?_
          obtain ⟨r54, st55, h56, h⟩ := bR_some h
          refine cw_calli (va_runV (As := [.long ((0 : Int64))]) (rest := []) ⟨hx, hb, hml, hown, hts⟩ (c_Pile_putNumber l D A ad cA tb0 tb1 a0 ha0 ((0 : Int64)) st13 r54 st55 h56) (cwV 1 hts (gw_V w_8fddbe94 w_34c9ad22 w_9e5e849e w_76c797a4 w_03086df0) rfl rfl rfl (by decide +kernel) ⟨Nat.le_of_ble_eq_true rfl, Nat.le_of_ble_eq_true rfl⟩) (cw_preV (k := 182 + 9 * a0) (ci := 4) hK hO rfl (by have := ha0; omega) (cc_Pile ha0)) rfl rfl hl.1 rfl (lv_room (Nat.le_of_ble_eq_true rfl)) dX6_calculate_213 ⟨Nat.zero_le _, Nat.zero_le _⟩) hO (fun H locs hO => ?_)
          obtain ⟨rfl, rfl⟩ := ret2 h; exact cw_iret hx hb hr hlocks hO dX6_calculate_216
        · have h := ite_t c53 h
          refine lv_lconst (v := 1) hx hb dX6_calculate_208 (by decide) ?_
          refine lv_goto (tgt := 213) hx hb dX6_calculate_209 (by decide) ?_
          obtain ⟨r57, st58, h59, h⟩ := bR_some h
          refine cw_calli (va_runV (As := [.long ((1 : Int64))]) (rest := []) ⟨hx, hb, hml, hown, hts⟩ (c_Pile_putNumber l D A ad cA tb0 tb1 a0 ha0 ((1 : Int64)) st13 r57 st58 h59) (cwV 1 hts (gw_V w_8fddbe94 w_34c9ad22 w_9e5e849e w_76c797a4 w_03086df0) rfl rfl rfl (by decide +kernel) ⟨Nat.le_of_ble_eq_true rfl, Nat.le_of_ble_eq_true rfl⟩) (cw_preV (k := 182 + 9 * a0) (ci := 4) hK hO rfl (by have := ha0; omega) (cc_Pile ha0)) rfl rfl hl.1 rfl (lv_room (Nat.le_of_ble_eq_true rfl)) dX6_calculate_213 ⟨Nat.zero_le _, Nat.zero_le _⟩) hO (fun H locs hO => ?_)
          obtain ⟨rfl, rfl⟩ := ret2 h; exact cw_iret hx hb hr hlocks hO dX6_calculate_216
      have h := ite_f c66 h
      refine cw_tableD (tgt := 217) hx hb dX6_calculate_32 (by
        have e0 := lv_neT (a := 6) c60 (by decide)
        have e1 := lv_neT (a := 7) c61 (by decide)
        have e2 := lv_neT (a := 8) c62 (by decide)
        have e3 := lv_neT (a := 9) c63 (by decide)
        have e4 := lv_neT (a := 10) c64 (by decide)
        have e5 := lv_neT (a := 11) c65 (by decide)
        have e6 := lv_neT (a := 12) c66 (by decide)
        by_cases q1 : a1.toInt < 6
        · exact Or.inl q1
        by_cases q2 : (12 : Int) < a1.toInt
        · exact Or.inr (Or.inl q2)
        omega) (by decide) ?_
      refine lv_bipush (v := 12) hx hb dX6_calculate_217 (by decide) ?_
      obtain ⟨rfl, rfl⟩ := ret2 h; exact cw_iret hx hb hr hlocks hO dX6_calculate_219
    · have h := ite_t c8 h
      refine lv_iconst (v := 4) hx hb dX6_calculate_16 (by decide) ?_
      obtain ⟨rfl, rfl⟩ := ret2 h; exact cw_iret hx hb hr hlocks hO dX6_calculate_17
-- Walk jumpIfZero
def j_Walk_jumpIfZero (a0 : Nat) (a1 : Int32) (st : CwS) : Option (Int32 × CwS) :=
  bR (j_Pile_tookNumber a0 ((0 : Int32)) st) fun r1 st2 =>
  if r1 = ((0 : Int32)) then
    some ((4 : Int32), st2)
  else
    ck (decide ((gR st2 0 a0) < 48)) <|
    bR (j_Beh_hasPlace ((gR st2 0 a0)) a1 st2) fun r6 st7 =>
    if r6 = ((0 : Int32)) then
      some ((12 : Int32), st7)
    else
      bR (j_Pile_took a0 ((0 : Int32)) st7) fun r10 st11 =>
      if (lg_cmp r10 ((0 : Int64))) = ((0 : Int32)) then
        bR (j_Frame_jump a0 a1 st11) fun r14 st15 =>
        some (r14, st15)
      else
        some ((0 : Int32), st11)
set_option maxHeartbeats 4000000 in
set_option maxRecDepth 100000 in
theorem c_Walk_jumpIfZero (l : Launch) (D : va_G) (A : Nat → Prop) (ad : Nat → Nat) (cA : Nat → ClassId) (tb0 tb1 : Nat) (a0 : Nat) (ha0 : a0 < 10) (a1 : Int32) (st : CwS) (r : Int32) (st' : CwS) (h : j_Walk_jumpIfZero a0 a1 st = some (r, st')) : Met l yX6_jumpIfZero (wv yX6_jumpIfZero cX6_jumpIfZero 2 (some .int)) ({ frames := 2, cells := 0, slots := 0, locals := 43 }) (va_Pc [.ref (ad (179 + 9 * a0)), .int a1] (cwU D A ad cA tb0 tb1 st)) (cwQi D A ad cA tb0 tb1 r st') 0 0 A := by
  refine Met.ofW (cc := cX6_jumpIfZero) (maxL := 2) (ret := some .int) (by decide) rfl ?_
  intro p e s m args below meth c s₁ B hml hv
  obtain ⟨rfl, hP, hK⟩ := hv
  have hx := B.exec
  have hb := B.bytes
  have hr := B.returns
  have hts := atoms_spec (ws := wv yX6_jumpIfZero cX6_jumpIfZero 2 (some .int)) B.pre
  have hown : s.vm.findClass RX6 = some m.cls := findClass_of_methodNamed B.named
  have hlocks := B.notSynchronized
  have hO : cwO D A ad cA s st s.heap [] := ⟨hP, va_S.rf⟩
  have hl := lv_entry ([.ref (ad (179 + 9 * a0)), .int a1]) (n := 2) (Nat.le_of_ble_eq_true rfl)
  rw [lg_entry_eq]
  generalize (lg_sl ([.ref (ad (179 + 9 * a0)), .int a1]) ++ List.replicate (2 - (lg_sl ([.ref (ad (179 + 9 * a0)), .int a1])).length) Slot.unset).toArray = ls at hl ⊢
  have hl : lv_has ls 2 [(0, .ref (ad (179 + 9 * a0))), (1, .int a1)] := hl
  have _h0 := hO
  have hgw := fun (w : Cond) (h : w ∈ gwW) => hts w (List.mem_cons_of_mem _ h)
  have k62 := hgw _ w_115d9ac3
  have k108 := hgw _ w_9f87e21a
  unfold j_Walk_jumpIfZero at h
  refine lv_aload_n hx hb dX6_jumpIfZero_0 rfl (lv_at hl 0 rfl) ?_
  refine gf_Frame_pile hx hb hgw iwFrame hown hK hO ha0 k62 dX6_jumpIfZero_1 ?_
  refine lv_iconst (v := 0) hx hb dX6_jumpIfZero_4 (by decide) ?_
  obtain ⟨r1, st2, h3, h⟩ := bR_some h
  refine cw_calli (va_runV (As := [.int ((0 : Int32))]) (rest := []) ⟨hx, hb, hml, hown, hts⟩ (c_Pile_tookNumber l D A ad cA tb0 tb1 a0 ha0 ((0 : Int32)) st r1 st2 h3) (cwV 1 hts (gw_V w_1588eb10 w_710a0455 w_eea10879 w_76c797a4 w_f9f5f760) rfl rfl rfl (by decide +kernel) ⟨Nat.le_of_ble_eq_true rfl, Nat.le_of_ble_eq_true rfl⟩) (cw_preV (k := 182 + 9 * a0) (ci := 4) hK hO rfl (by have := ha0; omega) (cc_Pile ha0)) rfl rfl hl.1 rfl (lv_room (Nat.le_of_ble_eq_true rfl)) dX6_jumpIfZero_5 ⟨Nat.zero_le _, Nat.zero_le _⟩) hO (fun H locs hO => ?_)
  refine lv_if_ne (tgt := 13) hx hb dX6_jumpIfZero_8 (by decide) (fun c4 => ?_) (fun c4 => ?_)
  · have h := ite_f c4 h
    refine lv_aload_n hx hb dX6_jumpIfZero_13 rfl (lv_at hl 0 rfl) ?_
    obtain ⟨hc5, h⟩ := ck_some h
    refine gf_Frame_behaviour hx hb hgw iwFrame hown hK hO ha0 k108 dX6_jumpIfZero_14 ?_
    refine lv_iload_n hx hb dX6_jumpIfZero_17 rfl (lv_at hl 1 rfl) ?_
    obtain ⟨r6, st7, h8, h⟩ := bR_some h
    refine cw_calli (va_runV (As := [.int a1]) (rest := []) ⟨hx, hb, hml, hown, hts⟩ (c_Beh_hasPlace l D A ad cA tb0 tb1 ((gR st2 0 a0)) (ck_lt hc5) a1 st2 r6 st7 h8) (cwV 1 hts (gw_V w_aec1e59d w_5a85a84b w_16f77c3b w_644e7304 w_185b0c4c) rfl rfl rfl (by decide +kernel) ⟨Nat.le_of_ble_eq_true rfl, Nat.le_of_ble_eq_true rfl⟩) (cw_preV (k := 4 + 3 * (gR st2 0 a0)) (ci := 0) hK hO rfl (by have := (ck_lt hc5); omega) (cc_Beh (ck_lt hc5))) rfl rfl hl.1 rfl (lv_room (Nat.le_of_ble_eq_true rfl)) dX6_jumpIfZero_18 ⟨Nat.zero_le _, Nat.zero_le _⟩) hO (fun H locs hO => ?_)
    refine lv_if_ne (tgt := 27) hx hb dX6_jumpIfZero_21 (by decide) (fun c9 => ?_) (fun c9 => ?_)
    · have h := ite_f c9 h
      refine lv_aload_n hx hb dX6_jumpIfZero_27 rfl (lv_at hl 0 rfl) ?_
      refine gf_Frame_pile hx hb hgw iwFrame hown hK hO ha0 k62 dX6_jumpIfZero_28 ?_
      refine lv_iconst (v := 0) hx hb dX6_jumpIfZero_31 (by decide) ?_
      obtain ⟨r10, st11, h12, h⟩ := bR_some h
      refine cw_calll (va_runV (As := [.int ((0 : Int32))]) (rest := []) ⟨hx, hb, hml, hown, hts⟩ (c_Pile_took l D A ad cA tb0 tb1 a0 ha0 ((0 : Int32)) st7 r10 st11 h12) (cwV 1 hts (gw_V w_93fed6db w_e50f7684 w_26b160a3 w_76c797a4 w_c905c078) rfl rfl rfl (by decide +kernel) ⟨Nat.le_of_ble_eq_true rfl, Nat.le_of_ble_eq_true rfl⟩) (cw_preV (k := 182 + 9 * a0) (ci := 4) hK hO rfl (by have := ha0; omega) (cc_Pile ha0)) rfl rfl hl.1 rfl (lv_room (Nat.le_of_ble_eq_true rfl)) dX6_jumpIfZero_32 ⟨Nat.zero_le _, Nat.zero_le _⟩) hO (fun H locs hO => ?_)
      refine lv_lconst (v := 0) hx hb dX6_jumpIfZero_35 (by decide) ?_
      refine W.lcmp hx hb dX6_jumpIfZero_36 ?_
      refine lv_if_ne (tgt := 48) hx hb dX6_jumpIfZero_37 (by decide) (fun c13 => ?_) (fun c13 => ?_)
      · have h := ite_f c13 h
        refine lv_iconst (v := 0) hx hb dX6_jumpIfZero_48 (by decide) ?_
        obtain ⟨rfl, rfl⟩ := ret2 h; exact cw_iret hx hb hr hlocks hO dX6_jumpIfZero_49
      · have h := ite_t c13 h
        refine lv_aload_n hx hb dX6_jumpIfZero_40 rfl (lv_at hl 0 rfl) ?_
        refine lv_iload_n hx hb dX6_jumpIfZero_41 rfl (lv_at hl 1 rfl) ?_
        obtain ⟨r14, st15, h16, h⟩ := bR_some h
        refine cw_calli (va_runV (As := [.int a1]) (rest := []) ⟨hx, hb, hml, hown, hts⟩ (c_Frame_jump l D A ad cA tb0 tb1 a0 ha0 a1 st11 r14 st15 h16) (cwV 1 hts (gw_V w_9d79fd68 w_a6d3ff5e w_b84d1b6c w_aeeb22ff w_a67431f2) rfl rfl rfl (by decide +kernel) ⟨Nat.le_of_ble_eq_true rfl, Nat.le_of_ble_eq_true rfl⟩) (cw_preV (k := 179 + 9 * a0) (ci := 2) hK hO rfl (by have := ha0; omega) (cc_Frame ha0)) rfl rfl hl.1 rfl (lv_room (Nat.le_of_ble_eq_true rfl)) dX6_jumpIfZero_42 ⟨Nat.zero_le _, Nat.zero_le _⟩) hO (fun H locs hO => ?_)
        refine lv_goto (tgt := 49) hx hb dX6_jumpIfZero_45 (by decide) ?_
        obtain ⟨rfl, rfl⟩ := ret2 h; exact cw_iret hx hb hr hlocks hO dX6_jumpIfZero_49
    · have h := ite_t c9 h
      refine lv_bipush (v := 12) hx hb dX6_jumpIfZero_24 (by decide) ?_
      obtain ⟨rfl, rfl⟩ := ret2 h; exact cw_iret hx hb hr hlocks hO dX6_jumpIfZero_26
  · have h := ite_t c4 h
    refine lv_iconst (v := 4) hx hb dX6_jumpIfZero_11 (by decide) ?_
    obtain ⟨rfl, rfl⟩ := ret2 h; exact cw_iret hx hb hr hlocks hO dX6_jumpIfZero_12
-- Walk giveBack
def j_Walk_giveBack (a1 : Nat) (st : CwS) : Option (Int32 × CwS) :=
  bR (j_Pile_tookNumber a1 ((0 : Int32)) st) fun r1 st2 =>
  if r1 = ((0 : Int32)) then
    some ((4 : Int32), st2)
  else
    bR (j_Pile_took a1 ((0 : Int32)) st2) fun r5 st6 =>
    bV (j_Walk_endWell r5 st6) fun st9 =>
    some ((0 : Int32), st9)
set_option maxHeartbeats 4000000 in
set_option maxRecDepth 100000 in
theorem c_Walk_giveBack (l : Launch) (D : va_G) (A : Nat → Prop) (ad : Nat → Nat) (cA : Nat → ClassId) (tb0 tb1 : Nat) (a1 : Nat) (ha1 : a1 < 10) (st : CwS) (r : Int32) (st' : CwS) (h : j_Walk_giveBack a1 st = some (r, st')) : Met l yX6_giveBack (wv yX6_giveBack cX6_giveBack 2 (some .int)) ({ frames := 3, cells := 0, slots := 0, locals := 67 }) (va_Pc [.ref (ad 176), .ref (ad (182 + 9 * a1))] (cwU D A ad cA tb0 tb1 st)) (cwQi D A ad cA tb0 tb1 r st') 0 0 A := by
  refine Met.ofW (cc := cX6_giveBack) (maxL := 2) (ret := some .int) (by decide) rfl ?_
  intro p e s m args below meth c s₁ B hml hv
  obtain ⟨rfl, hP, hK⟩ := hv
  have hx := B.exec
  have hb := B.bytes
  have hr := B.returns
  have hts := atoms_spec (ws := wv yX6_giveBack cX6_giveBack 2 (some .int)) B.pre
  have hown : s.vm.findClass RX6 = some m.cls := findClass_of_methodNamed B.named
  have hlocks := B.notSynchronized
  have hO : cwO D A ad cA s st s.heap [] := ⟨hP, va_S.rf⟩
  have hl := lv_entry ([.ref (ad 176), .ref (ad (182 + 9 * a1))]) (n := 2) (Nat.le_of_ble_eq_true rfl)
  rw [lg_entry_eq]
  generalize (lg_sl ([.ref (ad 176), .ref (ad (182 + 9 * a1))]) ++ List.replicate (2 - (lg_sl ([.ref (ad 176), .ref (ad (182 + 9 * a1))])).length) Slot.unset).toArray = ls at hl ⊢
  have hl : lv_has ls 2 [(0, .ref (ad 176)), (1, .ref (ad (182 + 9 * a1)))] := hl
  have _h0 := hO
  have hgw := fun (w : Cond) (h : w ∈ gwW) => hts w (List.mem_cons_of_mem _ h)
  unfold j_Walk_giveBack at h
  refine lv_aload_n hx hb dX6_giveBack_0 rfl (lv_at hl 1 rfl) ?_
  refine lv_iconst (v := 0) hx hb dX6_giveBack_1 (by decide) ?_
  obtain ⟨r1, st2, h3, h⟩ := bR_some h
  refine cw_calli (va_runV (As := [.int ((0 : Int32))]) (rest := []) ⟨hx, hb, hml, hown, hts⟩ (c_Pile_tookNumber l D A ad cA tb0 tb1 a1 ha1 ((0 : Int32)) st r1 st2 h3) (cwV 1 hts (gw_V w_1588eb10 w_710a0455 w_eea10879 w_76c797a4 w_f9f5f760) rfl rfl rfl (by decide +kernel) ⟨Nat.le_of_ble_eq_true rfl, Nat.le_of_ble_eq_true rfl⟩) (cw_preV (k := 182 + 9 * a1) (ci := 4) hK hO rfl (by have := ha1; omega) (cc_Pile ha1)) rfl rfl hl.1 rfl (lv_room (Nat.le_of_ble_eq_true rfl)) dX6_giveBack_2 ⟨Nat.zero_le _, Nat.zero_le _⟩) hO (fun H locs hO => ?_)
  refine lv_if_ne (tgt := 10) hx hb dX6_giveBack_5 (by decide) (fun c4 => ?_) (fun c4 => ?_)
  · have h := ite_f c4 h
    refine lv_aload_n hx hb dX6_giveBack_10 rfl (lv_at hl 0 rfl) ?_
    refine lv_aload_n hx hb dX6_giveBack_11 rfl (lv_at hl 1 rfl) ?_
    refine lv_iconst (v := 0) hx hb dX6_giveBack_12 (by decide) ?_
    obtain ⟨r5, st6, h7, h⟩ := bR_some h
    refine cw_calll (va_runV (As := [.int ((0 : Int32))]) (rest := [.ref (ad 176)]) ⟨hx, hb, hml, hown, hts⟩ (c_Pile_took l D A ad cA tb0 tb1 a1 ha1 ((0 : Int32)) st2 r5 st6 h7) (cwV 1 hts (gw_V w_93fed6db w_e50f7684 w_26b160a3 w_76c797a4 w_c905c078) rfl rfl rfl (by decide +kernel) ⟨Nat.le_of_ble_eq_true rfl, Nat.le_of_ble_eq_true rfl⟩) (cw_preV (k := 182 + 9 * a1) (ci := 4) hK hO rfl (by have := ha1; omega) (cc_Pile ha1)) rfl rfl hl.1 rfl (lv_room (Nat.le_of_ble_eq_true rfl)) dX6_giveBack_13 ⟨Nat.zero_le _, Nat.zero_le _⟩) hO (fun H locs hO => ?_)
    obtain ⟨st9, h10, h⟩ := bV_some h
    refine cw_callv (va_runV (As := [.long r5]) (rest := []) ⟨hx, hb, hml, hown, hts⟩ (c_Walk_endWell l D A ad cA tb0 tb1 r5 st6 st9 h10) (cwV 1 hts (gw_V w_38165e87 w_d970e0b9 w_f7c4a27b w_f8f5642f w_1b9bef71) rfl rfl rfl (by decide +kernel) ⟨Nat.le_of_ble_eq_true rfl, Nat.le_of_ble_eq_true rfl⟩) (cw_preV (k := 176) (ci := 6) hK hO rfl (by decide) (cc_Walk)) rfl rfl hl.1 rfl (lv_room (Nat.le_of_ble_eq_true rfl)) dX6_giveBack_16 ⟨Nat.zero_le _, Nat.zero_le _⟩) hO (fun H locs hO => ?_)
    refine lv_iconst (v := 0) hx hb dX6_giveBack_19 (by decide) ?_
    obtain ⟨rfl, rfl⟩ := ret2 h; exact cw_iret hx hb hr hlocks hO dX6_giveBack_20
  · have h := ite_t c4 h
    refine lv_iconst (v := 4) hx hb dX6_giveBack_8 (by decide) ?_
    obtain ⟨rfl, rfl⟩ := ret2 h; exact cw_iret hx hb hr hlocks hO dX6_giveBack_9
-- Walk tellEvent
def j_Walk_tellEvent (a1 : Nat) (st : CwS) : Option (Int32 × CwS) :=
  bR (j_Pile_tookNumber a1 ((0 : Int32)) st) fun r1 st2 =>
  if r1 = ((0 : Int32)) then
    some ((4 : Int32), st2)
  else
    bR (j_Pile_took a1 ((0 : Int32)) st2) fun r5 st6 =>
    bR (j_Ledger_addEvent (gI st2 13 a1 0) r5 st6) fun r8 st9 =>
    if r8 = ((0 : Int32)) then
      some ((11 : Int32), st9)
    else
      some ((0 : Int32), st9)
set_option maxHeartbeats 4000000 in
set_option maxRecDepth 100000 in
theorem c_Walk_tellEvent (l : Launch) (D : va_G) (A : Nat → Prop) (ad : Nat → Nat) (cA : Nat → ClassId) (tb0 tb1 : Nat) (a1 : Nat) (ha1 : a1 < 10) (st : CwS) (r : Int32) (st' : CwS) (h : j_Walk_tellEvent a1 st = some (r, st')) : Met l yX6_tellEvent (wv yX6_tellEvent cX6_tellEvent 2 (some .int)) ({ frames := 2, cells := 0, slots := 0, locals := 43 }) (va_Pc [.ref (ad 176), .ref (ad (179 + 9 * a1))] (cwU D A ad cA tb0 tb1 st)) (cwQi D A ad cA tb0 tb1 r st') 0 0 A := by
  refine Met.ofW (cc := cX6_tellEvent) (maxL := 2) (ret := some .int) (by decide) rfl ?_
  intro p e s m args below meth c s₁ B hml hv
  obtain ⟨rfl, hP, hK⟩ := hv
  have hx := B.exec
  have hb := B.bytes
  have hr := B.returns
  have hts := atoms_spec (ws := wv yX6_tellEvent cX6_tellEvent 2 (some .int)) B.pre
  have hown : s.vm.findClass RX6 = some m.cls := findClass_of_methodNamed B.named
  have hlocks := B.notSynchronized
  have hO : cwO D A ad cA s st s.heap [] := ⟨hP, va_S.rf⟩
  have hl := lv_entry ([.ref (ad 176), .ref (ad (179 + 9 * a1))]) (n := 2) (Nat.le_of_ble_eq_true rfl)
  rw [lg_entry_eq]
  generalize (lg_sl ([.ref (ad 176), .ref (ad (179 + 9 * a1))]) ++ List.replicate (2 - (lg_sl ([.ref (ad 176), .ref (ad (179 + 9 * a1))])).length) Slot.unset).toArray = ls at hl ⊢
  have hl : lv_has ls 2 [(0, .ref (ad 176)), (1, .ref (ad (179 + 9 * a1)))] := hl
  have _h0 := hO
  have hgw := fun (w : Cond) (h : w ∈ gwW) => hts w (List.mem_cons_of_mem _ h)
  have k36 := hgw _ w_4f54f888
  have k62 := hgw _ w_115d9ac3
  have k214 := hgw _ w_3799d173
  unfold j_Walk_tellEvent at h
  refine lv_aload_n hx hb dX6_tellEvent_0 rfl (lv_at hl 1 rfl) ?_
  refine gf_Frame_pile hx hb hgw iwFrame hown hK hO ha1 k62 dX6_tellEvent_1 ?_
  refine lv_iconst (v := 0) hx hb dX6_tellEvent_4 (by decide) ?_
  obtain ⟨r1, st2, h3, h⟩ := bR_some h
  refine cw_calli (va_runV (As := [.int ((0 : Int32))]) (rest := []) ⟨hx, hb, hml, hown, hts⟩ (c_Pile_tookNumber l D A ad cA tb0 tb1 a1 ha1 ((0 : Int32)) st r1 st2 h3) (cwV 1 hts (gw_V w_1588eb10 w_710a0455 w_eea10879 w_76c797a4 w_f9f5f760) rfl rfl rfl (by decide +kernel) ⟨Nat.le_of_ble_eq_true rfl, Nat.le_of_ble_eq_true rfl⟩) (cw_preV (k := 182 + 9 * a1) (ci := 4) hK hO rfl (by have := ha1; omega) (cc_Pile ha1)) rfl rfl hl.1 rfl (lv_room (Nat.le_of_ble_eq_true rfl)) dX6_tellEvent_5 ⟨Nat.zero_le _, Nat.zero_le _⟩) hO (fun H locs hO => ?_)
  refine lv_if_ne (tgt := 13) hx hb dX6_tellEvent_8 (by decide) (fun c4 => ?_) (fun c4 => ?_)
  · have h := ite_f c4 h
    refine lv_aload_n hx hb dX6_tellEvent_13 rfl (lv_at hl 0 rfl) ?_
    refine gf_Walk_ledger hx hb hgw iwWalk hown hK hO k36 dX6_tellEvent_14 ?_
    refine lv_aload_n hx hb dX6_tellEvent_17 rfl (lv_at hl 1 rfl) ?_
    refine gf_Frame_contract hx hb hgw iwFrame hown hK hO ha1 k214 dX6_tellEvent_18 ?_
    refine lv_aload_n hx hb dX6_tellEvent_21 rfl (lv_at hl 1 rfl) ?_
    refine gf_Frame_pile hx hb hgw iwFrame hown hK hO ha1 k62 dX6_tellEvent_22 ?_
    refine lv_iconst (v := 0) hx hb dX6_tellEvent_25 (by decide) ?_
    obtain ⟨r5, st6, h7, h⟩ := bR_some h
    refine cw_calll (va_runV (As := [.int ((0 : Int32))]) (rest := [.int (gI st2 13 a1 0), .ref (ad 148)]) ⟨hx, hb, hml, hown, hts⟩ (c_Pile_took l D A ad cA tb0 tb1 a1 ha1 ((0 : Int32)) st2 r5 st6 h7) (cwV 1 hts (gw_V w_93fed6db w_e50f7684 w_26b160a3 w_76c797a4 w_c905c078) rfl rfl rfl (by decide +kernel) ⟨Nat.le_of_ble_eq_true rfl, Nat.le_of_ble_eq_true rfl⟩) (cw_preV (k := 182 + 9 * a1) (ci := 4) hK hO rfl (by have := ha1; omega) (cc_Pile ha1)) rfl rfl hl.1 rfl (lv_room (Nat.le_of_ble_eq_true rfl)) dX6_tellEvent_26 ⟨Nat.zero_le _, Nat.zero_le _⟩) hO (fun H locs hO => ?_)
    obtain ⟨r8, st9, h10, h⟩ := bR_some h
    refine cw_calli (va_runV (As := [.int (gI st2 13 a1 0), .long r5]) (rest := []) ⟨hx, hb, hml, hown, hts⟩ (c_Ledger_addEvent l D A ad cA tb0 tb1 (gI st2 13 a1 0) r5 st6 r8 st9 h10) (cwV 2 hts (gw_V w_66c7743a w_c763f9a9 w_9539a923 w_7f12e8e2 w_3ffdc574) rfl rfl rfl (by decide +kernel) ⟨Nat.le_of_ble_eq_true rfl, Nat.le_of_ble_eq_true rfl⟩) (cw_preV (k := 148) (ci := 3) hK hO rfl (by decide) (cc_Ledger)) rfl rfl hl.1 rfl (lv_room (Nat.le_of_ble_eq_true rfl)) dX6_tellEvent_29 ⟨Nat.zero_le _, Nat.zero_le _⟩) hO (fun H locs hO => ?_)
    refine lv_if_eq (tgt := 39) hx hb dX6_tellEvent_32 (by decide) (fun c11 => ?_) (fun c11 => ?_)
    · have h := ite_t c11 h
      refine lv_bipush (v := 11) hx hb dX6_tellEvent_39 (by decide) ?_
      obtain ⟨rfl, rfl⟩ := ret2 h; exact cw_iret hx hb hr hlocks hO dX6_tellEvent_41
    · have h := ite_f c11 h
      refine lv_iconst (v := 0) hx hb dX6_tellEvent_35 (by decide) ?_
      refine lv_goto (tgt := 41) hx hb dX6_tellEvent_36 (by decide) ?_
      obtain ⟨rfl, rfl⟩ := ret2 h; exact cw_iret hx hb hr hlocks hO dX6_tellEvent_41
  · have h := ite_t c4 h
    refine lv_iconst (v := 4) hx hb dX6_tellEvent_11 (by decide) ?_
    obtain ⟨rfl, rfl⟩ := ret2 h; exact cw_iret hx hb hr hlocks hO dX6_tellEvent_12
end
section
-- Walk callOther
def j_Walk_callOther (a1 : Nat) (a2 : Int32) (st : CwS) : Option (Int32 × CwS) :=
  bR (j_Pile_tookNumber a1 ((1 : Int32)) st) fun r1 st2 =>
  if r1 = ((0 : Int32)) then
    some ((4 : Int32), st2)
  else
    bR (j_Pile_tookNumber a1 ((2 : Int32)) st2) fun r5 st6 =>
    if r5 = ((0 : Int32)) then
      some ((4 : Int32), st6)
    else
      bR (j_Pile_took a1 ((2 : Int32)) st6) fun r9 st10 =>
      bR (j_Walk_callFailure (gI st10 13 a1 0) r9 a2 st10) fun r12 st13 =>
      if r12 = ((0 : Int32)) then
        ck (ix ((0 : Int32)) 5) <|
        bR (j_Pile_took a1 ((1 : Int32)) st13) fun r17 st18 =>
        bR (j_Book_find (a2 / ((8 : Int32))) (a2 - a2 / ((8 : Int32)) * ((8 : Int32))) st18) fun r20 st21 =>
        ck (decide (r20 < 48)) <|
        bR (j_Walk_open r20 (a2 / ((8 : Int32))) (gI st21 13 a1 0) ((if (if (((gI st13 16 a1 0) - (gI st13 7 0 (((0 : Int32)).toNatClampNeg))).toInt64) < r17 then (((gI st13 16 a1 0) - (gI st13 7 0 (((0 : Int32)).toNatClampNeg))).toInt64) else r17) < ((0 : Int64)) then ((0 : Int64)) else (if (((gI st13 16 a1 0) - (gI st13 7 0 (((0 : Int32)).toNatClampNeg))).toInt64) < r17 then (((gI st13 16 a1 0) - (gI st13 7 0 (((0 : Int32)).toNatClampNeg))).toInt64) else r17)).toInt32) st21) fun r24 st25 =>
        ck (decide (r24 < 10)) <|
        bV (j_Ledger_move (gI st25 13 a1 0) (a2 / ((8 : Int32))) r9 st25) fun st29 =>
        bR (j_Pile_tookKind a1 ((0 : Int32)) st29) fun r31 st32 =>
        if r31 = ((1 : Int32)) then
          bR (j_Pile_took a1 ((0 : Int32)) st32) fun r35 st36 =>
          bR (j_Rows_putCopy r24 r31 a1 r35 st36) fun r38 st39 =>
          some (r38, st39)
        else
          if r31 = ((2 : Int32)) then
            bR (j_Pile_took a1 ((0 : Int32)) st32) fun r48 st49 =>
            bR (j_Rows_putCopy r24 r31 a1 r48 st49) fun r51 st52 =>
            some (r51, st52)
          else
            bR (j_Pile_took a1 ((0 : Int32)) st32) fun r42 st43 =>
            bR (j_Pile_put r24 r31 r42 st43) fun r45 st46 =>
            some (r45, st46)
      else
        some (r12, st13)
set_option maxHeartbeats 4000000 in
set_option maxRecDepth 100000 in
theorem c_Walk_callOther (l : Launch) (D : va_G) (A : Nat → Prop) (ad : Nat → Nat) (cA : Nat → ClassId) (tb0 tb1 : Nat) (a1 : Nat) (ha1 : a1 < 10) (a2 : Int32) (st : CwS) (r : Int32) (st' : CwS) (h : j_Walk_callOther a1 a2 st = some (r, st')) : Met l yX6_callOther (wv yX6_callOther cX6_callOther 13 (some .int)) ({ frames := 3, cells := 0, slots := 0, locals := 86 }) (va_Pc [.ref (ad 176), .ref (ad (179 + 9 * a1)), .int a2] (cwU D A ad cA tb0 tb1 st)) (cwQi D A ad cA tb0 tb1 r st') 0 0 A := by
  refine Met.ofW (cc := cX6_callOther) (maxL := 13) (ret := some .int) (by decide) rfl ?_
  intro p e s m args below meth c s₁ B hml hv
  obtain ⟨rfl, hP, hK⟩ := hv
  have hx := B.exec
  have hb := B.bytes
  have hr := B.returns
  have hts := atoms_spec (ws := wv yX6_callOther cX6_callOther 13 (some .int)) B.pre
  have hown : s.vm.findClass RX6 = some m.cls := findClass_of_methodNamed B.named
  have hlocks := B.notSynchronized
  have hO : cwO D A ad cA s st s.heap [] := ⟨hP, va_S.rf⟩
  have hl := lv_entry ([.ref (ad 176), .ref (ad (179 + 9 * a1)), .int a2]) (n := 13) (Nat.le_of_ble_eq_true rfl)
  rw [lg_entry_eq]
  generalize (lg_sl ([.ref (ad 176), .ref (ad (179 + 9 * a1)), .int a2]) ++ List.replicate (13 - (lg_sl ([.ref (ad 176), .ref (ad (179 + 9 * a1)), .int a2])).length) Slot.unset).toArray = ls at hl ⊢
  have hl : lv_has ls 13 [(0, .ref (ad 176)), (1, .ref (ad (179 + 9 * a1))), (2, .int a2)] := hl
  have _h0 := hO
  have hgw := fun (w : Cond) (h : w ∈ gwW) => hts w (List.mem_cons_of_mem _ h)
  have k17 := hgw _ w_b50feff6
  have k32 := hgw _ w_6dd6e69a
  have k36 := hgw _ w_4f54f888
  have k62 := hgw _ w_115d9ac3
  have k99 := hgw _ w_1602bc2a
  have k168 := hgw _ w_e788c032
  have k214 := hgw _ w_3799d173
  have k261 := hgw _ w_6fae0919
  have k265 := hgw _ w_d7508f55
  unfold j_Walk_callOther at h
  refine lv_aload_n hx hb dX6_callOther_0 rfl (lv_at hl 1 rfl) ?_
  refine gf_Frame_pile hx hb hgw iwFrame hown hK hO ha1 k62 dX6_callOther_1 ?_
  refine lv_astore_n (lv' := [(3, .ref (ad (182 + 9 * a1))), (0, .ref (ad 176)), (1, .ref (ad (179 + 9 * a1))), (2, .int a2)]) hx hb dX6_callOther_4 rfl hl (by decide) rfl (fun ls hl => ?_)
  refine lv_aload_n hx hb dX6_callOther_5 rfl (lv_at hl 0 rfl) ?_
  refine lv_iconst (v := 1) hx hb dX6_callOther_6 (by decide) ?_
  obtain ⟨r1, st2, h3, h⟩ := bR_some h
  refine cw_calli (va_runV (As := [.int ((1 : Int32))]) (rest := []) ⟨hx, hb, hml, hown, hts⟩ (c_Pile_tookNumber l D A ad cA tb0 tb1 a1 ha1 ((1 : Int32)) st r1 st2 h3) (cwV 1 hts (gw_V w_1588eb10 w_710a0455 w_eea10879 w_76c797a4 w_f9f5f760) rfl rfl rfl (by decide +kernel) ⟨Nat.le_of_ble_eq_true rfl, Nat.le_of_ble_eq_true rfl⟩) (cw_preV (k := 182 + 9 * a1) (ci := 4) hK hO rfl (by have := ha1; omega) (cc_Pile ha1)) rfl rfl hl.1 rfl (lv_room (Nat.le_of_ble_eq_true rfl)) dX6_callOther_7 ⟨Nat.zero_le _, Nat.zero_le _⟩) hO (fun H locs hO => ?_)
  refine lv_if_eq (tgt := 21) hx hb dX6_callOther_10 (by decide) (fun c4 => ?_) (fun c4 => ?_)
  · have h := ite_t c4 h
    refine lv_iconst (v := 4) hx hb dX6_callOther_21 (by decide) ?_
    obtain ⟨rfl, rfl⟩ := ret2 h; exact cw_iret hx hb hr hlocks hO dX6_callOther_22
  · have h := ite_f c4 h
    refine lv_aload_n hx hb dX6_callOther_13 rfl (lv_at hl 0 rfl) ?_
    refine lv_iconst (v := 2) hx hb dX6_callOther_14 (by decide) ?_
    obtain ⟨r5, st6, h7, h⟩ := bR_some h
    refine cw_calli (va_runV (As := [.int ((2 : Int32))]) (rest := []) ⟨hx, hb, hml, hown, hts⟩ (c_Pile_tookNumber l D A ad cA tb0 tb1 a1 ha1 ((2 : Int32)) st2 r5 st6 h7) (cwV 1 hts (gw_V w_1588eb10 w_710a0455 w_eea10879 w_76c797a4 w_f9f5f760) rfl rfl rfl (by decide +kernel) ⟨Nat.le_of_ble_eq_true rfl, Nat.le_of_ble_eq_true rfl⟩) (cw_preV (k := 182 + 9 * a1) (ci := 4) hK hO rfl (by have := ha1; omega) (cc_Pile ha1)) rfl rfl hl.1 rfl (lv_room (Nat.le_of_ble_eq_true rfl)) dX6_callOther_15 ⟨Nat.zero_le _, Nat.zero_le _⟩) hO (fun H locs hO => ?_)
    refine lv_if_ne (tgt := 23) hx hb dX6_callOther_18 (by decide) (fun c8 => ?_) (fun c8 => ?_)
    · have h := ite_f c8 h
      refine lv_aload_n hx hb dX6_callOther_23 rfl (lv_at hl 0 rfl) ?_
      refine lv_iconst (v := 2) hx hb dX6_callOther_24 (by decide) ?_
      obtain ⟨r9, st10, h11, h⟩ := bR_some h
      refine cw_calll (va_runV (As := [.int ((2 : Int32))]) (rest := []) ⟨hx, hb, hml, hown, hts⟩ (c_Pile_took l D A ad cA tb0 tb1 a1 ha1 ((2 : Int32)) st6 r9 st10 h11) (cwV 1 hts (gw_V w_93fed6db w_e50f7684 w_26b160a3 w_76c797a4 w_c905c078) rfl rfl rfl (by decide +kernel) ⟨Nat.le_of_ble_eq_true rfl, Nat.le_of_ble_eq_true rfl⟩) (cw_preV (k := 182 + 9 * a1) (ci := 4) hK hO rfl (by have := ha1; omega) (cc_Pile ha1)) rfl rfl hl.1 rfl (lv_room (Nat.le_of_ble_eq_true rfl)) dX6_callOther_25 ⟨Nat.zero_le _, Nat.zero_le _⟩) hO (fun H locs hO => ?_)
      refine lv_lstore (lv' := [(4, .long r9), (3, .ref (ad (182 + 9 * a1))), (0, .ref (ad 176)), (1, .ref (ad (179 + 9 * a1))), (2, .int a2)]) hx hb dX6_callOther_28 hl (by decide) rfl (fun ls hl => ?_)
      refine lv_aload_n hx hb dX6_callOther_30 rfl (lv_at hl 2 rfl) ?_
      refine lv_aload_n hx hb dX6_callOther_31 rfl (lv_at hl 3 rfl) ?_
      refine gf_Frame_contract hx hb hgw iwFrame hown hK hO ha1 k214 dX6_callOther_32 ?_
      refine lv_lload hx hb dX6_callOther_35 (lv_at hl 0 rfl) ?_
      refine lv_iload_n hx hb dX6_callOther_37 rfl (lv_at hl 4 rfl) ?_
      obtain ⟨r12, st13, h14, h⟩ := bR_some h
      refine cw_calli (va_runV (As := [.int (gI st10 13 a1 0), .long r9, .int a2]) (rest := []) ⟨hx, hb, hml, hown, hts⟩ (c_Walk_callFailure l D A ad cA tb0 tb1 (gI st10 13 a1 0) r9 a2 st10 r12 st13 h14) (cwV 3 hts (gw_V w_8005dff5 w_c3c6afd2 w_8912cd72 w_f8f5642f w_5bafc6ba) rfl rfl rfl (by decide +kernel) ⟨Nat.le_of_ble_eq_true rfl, Nat.le_of_ble_eq_true rfl⟩) (cw_preV (k := 176) (ci := 6) hK hO rfl (by decide) (cc_Walk)) rfl rfl hl.1 rfl (lv_room (Nat.le_of_ble_eq_true rfl)) dX6_callOther_38 ⟨Nat.zero_le _, Nat.zero_le _⟩) hO (fun H locs hO => ?_)
      refine lv_istore (lv' := [(6, .int r12), (4, .long r9), (3, .ref (ad (182 + 9 * a1))), (0, .ref (ad 176)), (1, .ref (ad (179 + 9 * a1))), (2, .int a2)]) hx hb dX6_callOther_41 hl (by decide) rfl (fun ls hl => ?_)
      refine lv_iload hx hb dX6_callOther_43 (lv_at hl 0 rfl) ?_
      refine lv_if_eq (tgt := 51) hx hb dX6_callOther_45 (by decide) (fun c15 => ?_) (fun c15 => ?_)
      · have h := ite_t c15 h
        refine lv_iload_n hx hb dX6_callOther_51 rfl (lv_at hl 5 rfl) ?_
        refine lv_bipush (v := 8) hx hb dX6_callOther_52 (by decide) ?_
        refine lv_idiv hx hb dX6_callOther_54 (by decide) ?_
        refine lv_istore (lv' := [(7, .int (a2 / ((8 : Int32)))), (6, .int r12), (4, .long r9), (3, .ref (ad (182 + 9 * a1))), (0, .ref (ad 176)), (1, .ref (ad (179 + 9 * a1))), (2, .int a2)]) hx hb dX6_callOther_55 hl (by decide) rfl (fun ls hl => ?_)
        refine lv_aload_n hx hb dX6_callOther_57 rfl (lv_at hl 5 rfl) ?_
        refine gf_Frame_stop hx hb hgw iwFrame hown hK hO ha1 k99 dX6_callOther_58 ?_
        refine lv_aload_n hx hb dX6_callOther_61 rfl (lv_at hl 4 rfl) ?_
        refine gf_Walk_counts hx hb hgw iwWalk hown hK hO k17 dX6_callOther_62 ?_
        refine lv_iconst (v := 0) hx hb dX6_callOther_65 (by decide) ?_
        obtain ⟨hc16, h⟩ := ck_some h
        refine al_Counts hx hb hK hO hc16 dX6_callOther_66 ?_
        refine lv_isub hx hb dX6_callOther_67 ?_
        refine lv_i2l hx hb dX6_callOther_68 rfl ?_
        refine lv_lstore (lv' := [(8, .long (((gI st13 16 a1 0) - (gI st13 7 0 (((0 : Int32)).toNatClampNeg))).toInt64)), (7, .int (a2 / ((8 : Int32)))), (6, .int r12), (4, .long r9), (3, .ref (ad (182 + 9 * a1))), (0, .ref (ad 176)), (1, .ref (ad (179 + 9 * a1))), (2, .int a2)]) hx hb dX6_callOther_69 hl (by decide) rfl (fun ls hl => ?_)
        refine lv_lconst (v := 0) hx hb dX6_callOther_71 (by decide) ?_
        refine lv_aload_n hx hb dX6_callOther_72 rfl (lv_at hl 4 rfl) ?_
        refine lv_iconst (v := 1) hx hb dX6_callOther_73 (by decide) ?_
        obtain ⟨r17, st18, h19, h⟩ := bR_some h
        refine cw_calll (va_runV (As := [.int ((1 : Int32))]) (rest := [.long ((0 : Int64))]) ⟨hx, hb, hml, hown, hts⟩ (c_Pile_took l D A ad cA tb0 tb1 a1 ha1 ((1 : Int32)) st13 r17 st18 h19) (cwV 1 hts (gw_V w_93fed6db w_e50f7684 w_26b160a3 w_76c797a4 w_c905c078) rfl rfl rfl (by decide +kernel) ⟨Nat.le_of_ble_eq_true rfl, Nat.le_of_ble_eq_true rfl⟩) (cw_preV (k := 182 + 9 * a1) (ci := 4) hK hO rfl (by have := ha1; omega) (cc_Pile ha1)) rfl rfl hl.1 rfl (lv_room (Nat.le_of_ble_eq_true rfl)) dX6_callOther_74 ⟨Nat.zero_le _, Nat.zero_le _⟩) hO (fun H locs hO => ?_)
        refine lv_lload hx hb dX6_callOther_77 (lv_at hl 0 rfl) ?_
        refine va_mmin_long hx hb (by rw [hml]; exact hl.1.symm) hown k261 (hgw _ w_07670a37) (hgw _ w_868a9286) (hgw _ w_c0acf8a6) (Nat.le_of_ble_eq_true rfl) (Nat.le_of_ble_eq_true rfl) (Nat.zero_le _) (Nat.zero_le _) dX6_callOther_79 ?_
        refine va_mmax_long hx hb (by rw [hml]; exact hl.1.symm) hown k265 (hgw _ w_8f24d854) (hgw _ w_868a9286) (hgw _ w_ada86a80) (Nat.le_of_ble_eq_true rfl) (Nat.le_of_ble_eq_true rfl) (Nat.zero_le _) (Nat.zero_le _) dX6_callOther_82 ?_
        refine lv_l2i hx hb dX6_callOther_85 rfl ?_
        refine lv_istore (lv' := [(10, .int ((if (if (((gI st13 16 a1 0) - (gI st13 7 0 (((0 : Int32)).toNatClampNeg))).toInt64) < r17 then (((gI st13 16 a1 0) - (gI st13 7 0 (((0 : Int32)).toNatClampNeg))).toInt64) else r17) < ((0 : Int64)) then ((0 : Int64)) else (if (((gI st13 16 a1 0) - (gI st13 7 0 (((0 : Int32)).toNatClampNeg))).toInt64) < r17 then (((gI st13 16 a1 0) - (gI st13 7 0 (((0 : Int32)).toNatClampNeg))).toInt64) else r17)).toInt32)), (8, .long (((gI st13 16 a1 0) - (gI st13 7 0 (((0 : Int32)).toNatClampNeg))).toInt64)), (7, .int (a2 / ((8 : Int32)))), (6, .int r12), (4, .long r9), (3, .ref (ad (182 + 9 * a1))), (0, .ref (ad 176)), (1, .ref (ad (179 + 9 * a1))), (2, .int a2)]) hx hb dX6_callOther_86 hl (by decide) rfl (fun ls hl => ?_)
        refine lv_aload_n hx hb dX6_callOther_88 rfl (lv_at hl 6 rfl) ?_
        refine lv_aload_n hx hb dX6_callOther_89 rfl (lv_at hl 6 rfl) ?_
        refine gf_Walk_book hx hb hgw iwWalk hown hK hO k32 dX6_callOther_90 ?_
        refine lv_iload hx hb dX6_callOther_93 (lv_at hl 2 rfl) ?_
        refine lv_iload_n hx hb dX6_callOther_95 rfl (lv_at hl 8 rfl) ?_
        refine lv_bipush (v := 8) hx hb dX6_callOther_96 (by decide) ?_
        refine lv_irem hx hb dX6_callOther_98 (by decide) ?_
        obtain ⟨r20, st21, h22, h⟩ := bR_some h
        obtain ⟨hc23, h⟩ := ck_some h
        refine cw_callr (va_runV (As := [.int (a2 / ((8 : Int32))), .int (a2 - a2 / ((8 : Int32)) * ((8 : Int32)))]) (rest := [.ref (ad 176)]) ⟨hx, hb, hml, hown, hts⟩ (c_Book_find l D A ad cA tb0 tb1 (a2 / ((8 : Int32))) (a2 - a2 / ((8 : Int32)) * ((8 : Int32))) st18 r20 st21 h22) (cwV 2 hts (gw_V w_f637e4e7 w_e1327d62 w_a3354a1d w_df4c496e w_9a4e77f1) rfl rfl rfl (by decide +kernel) ⟨Nat.le_of_ble_eq_true rfl, Nat.le_of_ble_eq_true rfl⟩) (cw_preV (k := 1) (ci := 1) hK hO rfl (by decide) (cc_Book)) rfl rfl hl.1 rfl (lv_room (Nat.le_of_ble_eq_true rfl)) dX6_callOther_99 ⟨Nat.zero_le _, Nat.zero_le _⟩) hO (fun H locs hO => ?_)
        refine lv_iload hx hb dX6_callOther_102 (lv_at hl 2 rfl) ?_
        refine lv_aload_n hx hb dX6_callOther_104 rfl (lv_at hl 7 rfl) ?_
        refine gf_Frame_contract hx hb hgw iwFrame hown hK hO ha1 k214 dX6_callOther_105 ?_
        refine lv_iload hx hb dX6_callOther_108 (lv_at hl 0 rfl) ?_
        obtain ⟨r24, st25, h26, h⟩ := bR_some h
        obtain ⟨hc27, h⟩ := ck_some h
        refine cw_callr (va_runV (As := [.ref (ad (4 + 3 * r20)), .int (a2 / ((8 : Int32))), .int (gI st21 13 a1 0), .int ((if (if (((gI st13 16 a1 0) - (gI st13 7 0 (((0 : Int32)).toNatClampNeg))).toInt64) < r17 then (((gI st13 16 a1 0) - (gI st13 7 0 (((0 : Int32)).toNatClampNeg))).toInt64) else r17) < ((0 : Int64)) then ((0 : Int64)) else (if (((gI st13 16 a1 0) - (gI st13 7 0 (((0 : Int32)).toNatClampNeg))).toInt64) < r17 then (((gI st13 16 a1 0) - (gI st13 7 0 (((0 : Int32)).toNatClampNeg))).toInt64) else r17)).toInt32)]) (rest := []) ⟨hx, hb, hml, hown, hts⟩ (c_Walk_open l D A ad cA tb0 tb1 r20 (ck_lt hc23) (a2 / ((8 : Int32))) (gI st21 13 a1 0) ((if (if (((gI st13 16 a1 0) - (gI st13 7 0 (((0 : Int32)).toNatClampNeg))).toInt64) < r17 then (((gI st13 16 a1 0) - (gI st13 7 0 (((0 : Int32)).toNatClampNeg))).toInt64) else r17) < ((0 : Int64)) then ((0 : Int64)) else (if (((gI st13 16 a1 0) - (gI st13 7 0 (((0 : Int32)).toNatClampNeg))).toInt64) < r17 then (((gI st13 16 a1 0) - (gI st13 7 0 (((0 : Int32)).toNatClampNeg))).toInt64) else r17)).toInt32) st21 r24 st25 h26) (cwV 4 hts (gw_V w_5cb88b1c w_50db3de5 w_c63fa8c6 w_f8f5642f w_18b9acd0) rfl rfl rfl (by decide +kernel) ⟨Nat.le_of_ble_eq_true rfl, Nat.le_of_ble_eq_true rfl⟩) (cw_preV (k := 176) (ci := 6) hK hO rfl (by decide) (cc_Walk)) rfl rfl hl.1 rfl (lv_room (Nat.le_of_ble_eq_true rfl)) dX6_callOther_110 ⟨Nat.zero_le _, Nat.zero_le _⟩) hO (fun H locs hO => ?_)
        refine lv_astore (lv' := [(11, .ref (ad (179 + 9 * r24))), (10, .int ((if (if (((gI st13 16 a1 0) - (gI st13 7 0 (((0 : Int32)).toNatClampNeg))).toInt64) < r17 then (((gI st13 16 a1 0) - (gI st13 7 0 (((0 : Int32)).toNatClampNeg))).toInt64) else r17) < ((0 : Int64)) then ((0 : Int64)) else (if (((gI st13 16 a1 0) - (gI st13 7 0 (((0 : Int32)).toNatClampNeg))).toInt64) < r17 then (((gI st13 16 a1 0) - (gI st13 7 0 (((0 : Int32)).toNatClampNeg))).toInt64) else r17)).toInt32)), (8, .long (((gI st13 16 a1 0) - (gI st13 7 0 (((0 : Int32)).toNatClampNeg))).toInt64)), (7, .int (a2 / ((8 : Int32)))), (6, .int r12), (4, .long r9), (3, .ref (ad (182 + 9 * a1))), (0, .ref (ad 176)), (1, .ref (ad (179 + 9 * a1))), (2, .int a2)]) hx hb dX6_callOther_113 hl (by decide) rfl (fun ls hl => ?_)
        refine lv_aload_n hx hb dX6_callOther_115 rfl (lv_at hl 7 rfl) ?_
        refine gf_Walk_ledger hx hb hgw iwWalk hown hK hO k36 dX6_callOther_116 ?_
        refine lv_aload_n hx hb dX6_callOther_119 rfl (lv_at hl 8 rfl) ?_
        refine gf_Frame_contract hx hb hgw iwFrame hown hK hO ha1 k214 dX6_callOther_120 ?_
        refine lv_iload hx hb dX6_callOther_123 (lv_at hl 3 rfl) ?_
        refine lv_lload hx hb dX6_callOther_125 (lv_at hl 5 rfl) ?_
        obtain ⟨st29, h30, h⟩ := bV_some h
        refine cw_callv (va_runV (As := [.int (gI st25 13 a1 0), .int (a2 / ((8 : Int32))), .long r9]) (rest := []) ⟨hx, hb, hml, hown, hts⟩ (c_Ledger_move l D A ad cA tb0 tb1 (gI st25 13 a1 0) (a2 / ((8 : Int32))) r9 st25 st29 h30) (cwV 3 hts (gw_V w_541fbdc4 w_8f3cd1e8 w_b9687fe1 w_7f12e8e2 w_2bb9baac) rfl rfl rfl (by decide +kernel) ⟨Nat.le_of_ble_eq_true rfl, Nat.le_of_ble_eq_true rfl⟩) (cw_preV (k := 148) (ci := 3) hK hO rfl (by decide) (cc_Ledger)) rfl rfl hl.1 rfl (lv_room (Nat.le_of_ble_eq_true rfl)) dX6_callOther_127 ⟨Nat.zero_le _, Nat.zero_le _⟩) hO (fun H locs hO => ?_)
        refine lv_aload_n hx hb dX6_callOther_130 rfl (lv_at hl 6 rfl) ?_
        refine lv_iconst (v := 0) hx hb dX6_callOther_131 (by decide) ?_
        obtain ⟨r31, st32, h33, h⟩ := bR_some h
        refine cw_calli (va_runV (As := [.int ((0 : Int32))]) (rest := []) ⟨hx, hb, hml, hown, hts⟩ (c_Pile_tookKind l D A ad cA tb0 tb1 a1 ha1 ((0 : Int32)) st29 r31 st32 h33) (cwV 1 hts (gw_V w_46dcffd2 w_5c9fe01c w_ceab1f00 w_76c797a4 w_72af167e) rfl rfl rfl (by decide +kernel) ⟨Nat.le_of_ble_eq_true rfl, Nat.le_of_ble_eq_true rfl⟩) (cw_preV (k := 182 + 9 * a1) (ci := 4) hK hO rfl (by have := ha1; omega) (cc_Pile ha1)) rfl rfl hl.1 rfl (lv_room (Nat.le_of_ble_eq_true rfl)) dX6_callOther_132 ⟨Nat.zero_le _, Nat.zero_le _⟩) hO (fun H locs hO => ?_)
        refine lv_istore (lv' := [(12, .int r31), (11, .ref (ad (179 + 9 * r24))), (10, .int ((if (if (((gI st13 16 a1 0) - (gI st13 7 0 (((0 : Int32)).toNatClampNeg))).toInt64) < r17 then (((gI st13 16 a1 0) - (gI st13 7 0 (((0 : Int32)).toNatClampNeg))).toInt64) else r17) < ((0 : Int64)) then ((0 : Int64)) else (if (((gI st13 16 a1 0) - (gI st13 7 0 (((0 : Int32)).toNatClampNeg))).toInt64) < r17 then (((gI st13 16 a1 0) - (gI st13 7 0 (((0 : Int32)).toNatClampNeg))).toInt64) else r17)).toInt32)), (8, .long (((gI st13 16 a1 0) - (gI st13 7 0 (((0 : Int32)).toNatClampNeg))).toInt64)), (7, .int (a2 / ((8 : Int32)))), (6, .int r12), (4, .long r9), (3, .ref (ad (182 + 9 * a1))), (0, .ref (ad 176)), (1, .ref (ad (179 + 9 * a1))), (2, .int a2)]) hx hb dX6_callOther_135 hl (by decide) rfl (fun ls hl => ?_)
        refine lv_iload hx hb dX6_callOther_137 (lv_at hl 0 rfl) ?_
        refine lv_iconst (v := 1) hx hb dX6_callOther_139 (by decide) ?_
        refine lv_icmp_eq (tgt := 149) hx hb dX6_callOther_140 (by decide) (fun c34 => ?_) (fun c34 => ?_)
        · have h := ite_t c34 h
          refine lv_aload hx hb dX6_callOther_149 (lv_at hl 1 rfl) ?_
          refine gf_Frame_rows hx hb hgw iwFrame hown hK hO (ck_lt hc27) k168 dX6_callOther_151 ?_
          refine lv_iload hx hb dX6_callOther_154 (lv_at hl 0 rfl) ?_
          refine lv_aload_n hx hb dX6_callOther_156 rfl (lv_at hl 9 rfl) ?_
          refine gf_Frame_rows hx hb hgw iwFrame hown hK hO ha1 k168 dX6_callOther_157 ?_
          refine lv_aload_n hx hb dX6_callOther_160 rfl (lv_at hl 7 rfl) ?_
          refine lv_iconst (v := 0) hx hb dX6_callOther_161 (by decide) ?_
          obtain ⟨r35, st36, h37, h⟩ := bR_some h
          refine cw_calll (va_runV (As := [.int ((0 : Int32))]) (rest := [.ref (ad (185 + 9 * a1)), .int r31, .ref (ad (185 + 9 * r24))]) ⟨hx, hb, hml, hown, hts⟩ (c_Pile_took l D A ad cA tb0 tb1 a1 ha1 ((0 : Int32)) st32 r35 st36 h37) (cwV 1 hts (gw_V w_93fed6db w_e50f7684 w_26b160a3 w_76c797a4 w_c905c078) rfl rfl rfl (by decide +kernel) ⟨Nat.le_of_ble_eq_true rfl, Nat.le_of_ble_eq_true rfl⟩) (cw_preV (k := 182 + 9 * a1) (ci := 4) hK hO rfl (by have := ha1; omega) (cc_Pile ha1)) rfl rfl hl.1 rfl (lv_room (Nat.le_of_ble_eq_true rfl)) dX6_callOther_162 ⟨Nat.zero_le _, Nat.zero_le _⟩) hO (fun H locs hO => ?_)
          obtain ⟨r38, st39, h40, h⟩ := bR_some h
          refine cw_calli (va_runV (As := [.int r31, .ref (ad (185 + 9 * a1)), .long r35]) (rest := []) ⟨hx, hb, hml, hown, hts⟩ (c_Rows_putCopy l D A ad cA tb0 tb1 r24 (ck_lt hc27) r31 a1 ha1 r35 st36 r38 st39 h40) (cwV 3 hts (gw_V w_6264dd0f w_db39b8ad w_341fb3ad w_8bdbd0d2 w_5629de93) rfl rfl rfl (by decide +kernel) ⟨Nat.le_of_ble_eq_true rfl, Nat.le_of_ble_eq_true rfl⟩) (cw_preV (k := 185 + 9 * r24) (ci := 5) hK hO rfl (by have := (ck_lt hc27); omega) (cc_Rows (ck_lt hc27))) rfl rfl hl.1 rfl (lv_room (Nat.le_of_ble_eq_true rfl)) dX6_callOther_165 ⟨Nat.zero_le _, Nat.zero_le _⟩) hO (fun H locs hO => ?_)
          obtain ⟨rfl, rfl⟩ := ret2 h; exact cw_iret hx hb hr hlocks hO dX6_callOther_168
        · have h := ite_f c34 h
          refine lv_iload hx hb dX6_callOther_143 (lv_at hl 0 rfl) ?_
          refine lv_iconst (v := 2) hx hb dX6_callOther_145 (by decide) ?_
          refine lv_icmp_ne (tgt := 169) hx hb dX6_callOther_146 (by decide) (fun c41 => ?_) (fun c41 => ?_)
          · have h := ite_f c41 h
            refine lv_aload hx hb dX6_callOther_169 (lv_at hl 1 rfl) ?_
            refine gf_Frame_pile hx hb hgw iwFrame hown hK hO (ck_lt hc27) k62 dX6_callOther_171 ?_
            refine lv_iload hx hb dX6_callOther_174 (lv_at hl 0 rfl) ?_
            refine lv_aload_n hx hb dX6_callOther_176 rfl (lv_at hl 7 rfl) ?_
            refine lv_iconst (v := 0) hx hb dX6_callOther_177 (by decide) ?_
            obtain ⟨r42, st43, h44, h⟩ := bR_some h
            refine cw_calll (va_runV (As := [.int ((0 : Int32))]) (rest := [.int r31, .ref (ad (182 + 9 * r24))]) ⟨hx, hb, hml, hown, hts⟩ (c_Pile_took l D A ad cA tb0 tb1 a1 ha1 ((0 : Int32)) st32 r42 st43 h44) (cwV 1 hts (gw_V w_93fed6db w_e50f7684 w_26b160a3 w_76c797a4 w_c905c078) rfl rfl rfl (by decide +kernel) ⟨Nat.le_of_ble_eq_true rfl, Nat.le_of_ble_eq_true rfl⟩) (cw_preV (k := 182 + 9 * a1) (ci := 4) hK hO rfl (by have := ha1; omega) (cc_Pile ha1)) rfl rfl hl.1 rfl (lv_room (Nat.le_of_ble_eq_true rfl)) dX6_callOther_178 ⟨Nat.zero_le _, Nat.zero_le _⟩) hO (fun H locs hO => ?_)
            obtain ⟨r45, st46, h47, h⟩ := bR_some h
            refine cw_calli (va_runV (As := [.int r31, .long r42]) (rest := []) ⟨hx, hb, hml, hown, hts⟩ (c_Pile_put l D A ad cA tb0 tb1 r24 (ck_lt hc27) r31 r42 st43 r45 st46 h47) (cwV 2 hts (gw_V w_085b0eb2 w_d8d501aa w_46b57ea6 w_76c797a4 w_54242bcb) rfl rfl rfl (by decide +kernel) ⟨Nat.le_of_ble_eq_true rfl, Nat.le_of_ble_eq_true rfl⟩) (cw_preV (k := 182 + 9 * r24) (ci := 4) hK hO rfl (by have := (ck_lt hc27); omega) (cc_Pile (ck_lt hc27))) rfl rfl hl.1 rfl (lv_room (Nat.le_of_ble_eq_true rfl)) dX6_callOther_181 ⟨Nat.zero_le _, Nat.zero_le _⟩) hO (fun H locs hO => ?_)
            obtain ⟨rfl, rfl⟩ := ret2 h; exact cw_iret hx hb hr hlocks hO dX6_callOther_184
          · have h := ite_t c41 h
            refine lv_aload hx hb dX6_callOther_149 (lv_at hl 1 rfl) ?_
            refine gf_Frame_rows hx hb hgw iwFrame hown hK hO (ck_lt hc27) k168 dX6_callOther_151 ?_
            refine lv_iload hx hb dX6_callOther_154 (lv_at hl 0 rfl) ?_
            refine lv_aload_n hx hb dX6_callOther_156 rfl (lv_at hl 9 rfl) ?_
            refine gf_Frame_rows hx hb hgw iwFrame hown hK hO ha1 k168 dX6_callOther_157 ?_
            refine lv_aload_n hx hb dX6_callOther_160 rfl (lv_at hl 7 rfl) ?_
            refine lv_iconst (v := 0) hx hb dX6_callOther_161 (by decide) ?_
            obtain ⟨r48, st49, h50, h⟩ := bR_some h
            refine cw_calll (va_runV (As := [.int ((0 : Int32))]) (rest := [.ref (ad (185 + 9 * a1)), .int r31, .ref (ad (185 + 9 * r24))]) ⟨hx, hb, hml, hown, hts⟩ (c_Pile_took l D A ad cA tb0 tb1 a1 ha1 ((0 : Int32)) st32 r48 st49 h50) (cwV 1 hts (gw_V w_93fed6db w_e50f7684 w_26b160a3 w_76c797a4 w_c905c078) rfl rfl rfl (by decide +kernel) ⟨Nat.le_of_ble_eq_true rfl, Nat.le_of_ble_eq_true rfl⟩) (cw_preV (k := 182 + 9 * a1) (ci := 4) hK hO rfl (by have := ha1; omega) (cc_Pile ha1)) rfl rfl hl.1 rfl (lv_room (Nat.le_of_ble_eq_true rfl)) dX6_callOther_162 ⟨Nat.zero_le _, Nat.zero_le _⟩) hO (fun H locs hO => ?_)
            obtain ⟨r51, st52, h53, h⟩ := bR_some h
            refine cw_calli (va_runV (As := [.int r31, .ref (ad (185 + 9 * a1)), .long r48]) (rest := []) ⟨hx, hb, hml, hown, hts⟩ (c_Rows_putCopy l D A ad cA tb0 tb1 r24 (ck_lt hc27) r31 a1 ha1 r48 st49 r51 st52 h53) (cwV 3 hts (gw_V w_6264dd0f w_db39b8ad w_341fb3ad w_8bdbd0d2 w_5629de93) rfl rfl rfl (by decide +kernel) ⟨Nat.le_of_ble_eq_true rfl, Nat.le_of_ble_eq_true rfl⟩) (cw_preV (k := 185 + 9 * r24) (ci := 5) hK hO rfl (by have := (ck_lt hc27); omega) (cc_Rows (ck_lt hc27))) rfl rfl hl.1 rfl (lv_room (Nat.le_of_ble_eq_true rfl)) dX6_callOther_165 ⟨Nat.zero_le _, Nat.zero_le _⟩) hO (fun H locs hO => ?_)
            obtain ⟨rfl, rfl⟩ := ret2 h; exact cw_iret hx hb hr hlocks hO dX6_callOther_168
      · have h := ite_f c15 h
        refine lv_iload hx hb dX6_callOther_48 (lv_at hl 0 rfl) ?_
        obtain ⟨rfl, rfl⟩ := ret2 h; exact cw_iret hx hb hr hlocks hO dX6_callOther_50
    · have h := ite_t c8 h
      refine lv_iconst (v := 4) hx hb dX6_callOther_21 (by decide) ?_
      obtain ⟨rfl, rfl⟩ := ret2 h; exact cw_iret hx hb hr hlocks hO dX6_callOther_22
-- Walk perform
def j_Walk_perform (a1 : Nat) (a2 : Int32) (a3 : Int32) (st : CwS) : Option (Int32 × CwS) :=
  if a2 < ((0 : Int32)) then
    some ((12 : Int32), st)
  else
    if ((32 : Int32)) ≤ a2 then
      some ((12 : Int32), st)
    else
      if a2 < ((32 : Int32)) then
        ck (ix a2 32) <|
        ck (ix a2 32) <|
        bR (j_Pile_allows a1 (tkT a2.toNatClampNeg) (tkM a2.toNatClampNeg) st) fun r6 st7 =>
        if r6 = ((0 : Int32)) then
          some ((11 : Int32), st7)
        else
          ck (ix a2 32) <|
          bV (j_Pile_take a1 (tkT a2.toNatClampNeg) st7) fun st12 =>
          if a2 = (0 : Int32) then
            bR (j_Pile_putNumber a1 a3.toInt64 st12) fun r14 st15 =>
            some (r14, st15)
          else
          if a2 = (1 : Int32) then
            bR (j_Walk_putLeaf a1 a3 st12) fun r17 st18 =>
            some (r17, st18)
          else
          if a2 = (2 : Int32) then
            bR (j_Walk_changeLeaf a1 a3 st12) fun r20 st21 =>
            some (r20, st21)
          else
          if a2 = (3 : Int32) then
            bR (j_Walk_putTwice a1 st12) fun r23 st24 =>
            some (r23, st24)
          else
          if a2 = (4 : Int32) then
            some ((0 : Int32), st12)
          else
          if a2 = (5 : Int32) then
            bR (j_Walk_putSwapped a1 st12) fun r26 st27 =>
            some (r26, st27)
          else
          if a2 = (13 : Int32) then
            bR (j_Frame_jump a1 a3 st12) fun r29 st30 =>
            some (r29, st30)
          else
          if a2 = (14 : Int32) then
            bR (j_Walk_jumpIfZero a1 a3 st12) fun r32 st33 =>
            some (r32, st33)
          else
          if a2 = (15 : Int32) then
            bR (j_Rows_putNew a1 ((1 : Int32)) st12) fun r35 st36 =>
            some (r35, st36)
          else
          if a2 = (16 : Int32) then
            bR (j_Rows_putNew a1 ((2 : Int32)) st12) fun r38 st39 =>
            some (r38, st39)
          else
          if a2 = (17 : Int32) then
            bR (j_Rows_putElement a1 ((1 : Int32)) st12) fun r41 st42 =>
            some (r41, st42)
          else
          if a2 = (18 : Int32) then
            bR (j_Rows_putElement a1 ((2 : Int32)) st12) fun r44 st45 =>
            some (r44, st45)
          else
          if a2 = (19 : Int32) then
            bR (j_Rows_changeElement a1 ((1 : Int32)) st12) fun r47 st48 =>
            some (r47, st48)
          else
          if a2 = (20 : Int32) then
            bR (j_Rows_changeElement a1 ((2 : Int32)) st12) fun r50 st51 =>
            some (r50, st51)
          else
          if a2 = (21 : Int32) then
            bR (j_Rows_putLength a1 st12) fun r53 st54 =>
            some (r53, st54)
          else
          if a2 = (22 : Int32) then
            bR (j_Pile_put a1 ((3 : Int32)) ((0 : Int64)) st12) fun r56 st57 =>
            some (r56, st57)
          else
          if a2 = (23 : Int32) then
            bR (j_Rows_copyElements a1 st12) fun r59 st60 =>
            some (r59, st60)
          else
          if a2 = (24 : Int32) then
            bR (j_Frame_addHandler a1 a3 st12) fun r62 st63 =>
            some (r62, st63)
          else
          if a2 = (25 : Int32) then
            bR (j_Frame_dropHandler a1 st12) fun r65 st66 =>
            some (r65, st66)
          else
          if a2 = (26 : Int32) then
            if a3 < ((0 : Int32)) then
              some ((12 : Int32), st12)
            else
              if ((7 : Int32)) < a3 then
                some ((12 : Int32), st12)
              else
                some (((13 : Int32)) + a3, st12)
          else
          if a2 = (27 : Int32) then
            bR (j_Walk_giveBack a1 st12) fun r70 st71 =>
            some (r70, st71)
          else
          if a2 = (28 : Int32) then
            bR (j_Walk_tellEvent a1 st12) fun r73 st74 =>
            some (r73, st74)
          else
          if a2 = (29 : Int32) then
            bR (j_Walk_callOther a1 a3 st12) fun r76 st77 =>
            some (r76, st77)
          else
          if a2 = (30 : Int32) then
            ck (ix (gI st12 13 a1 0) 8) <|
            bR (j_Pile_putNumber a1 (gL st12 1 0 ((gI st12 13 a1 0).toNatClampNeg)) st12) fun r80 st81 =>
            some (r80, st81)
          else
          if a2 = (31 : Int32) then
            bR (j_Pile_putNumber a1 ((gI st12 14 a1 0).toInt64) st12) fun r83 st84 =>
            some (r83, st84)
          else
            bR (j_Walk_calculate a1 a2 st12) fun r86 st87 =>
            some (r86, st87)
      else
        some ((12 : Int32), st)
set_option maxHeartbeats 4000000 in
set_option maxRecDepth 100000 in
theorem c_Walk_perform (l : Launch) (D : va_G) (A : Nat → Prop) (ad : Nat → Nat) (cA : Nat → ClassId) (tb0 tb1 : Nat) (a1 : Nat) (ha1 : a1 < 10) (a2 : Int32) (a3 : Int32) (st : CwS) (r : Int32) (st' : CwS) (h : j_Walk_perform a1 a2 a3 st = some (r, st')) : Met l yX6_perform (wv yX6_perform cX6_perform 5 (some .int)) ({ frames := 4, cells := 0, slots := 0, locals := 118 }) (va_Pc [.ref (ad 176), .ref (ad (179 + 9 * a1)), .int a2, .int a3] (cwU D A ad cA tb0 tb1 st)) (cwQi D A ad cA tb0 tb1 r st') 0 0 A := by
  refine Met.ofW (cc := cX6_perform) (maxL := 5) (ret := some .int) (by decide) rfl ?_
  intro p e s m args below meth c s₁ B hml hv
  obtain ⟨rfl, hP, hK⟩ := hv
  have hx := B.exec
  have hb := B.bytes
  have hr := B.returns
  have hts := atoms_spec (ws := wv yX6_perform cX6_perform 5 (some .int)) B.pre
  have hown : s.vm.findClass RX6 = some m.cls := findClass_of_methodNamed B.named
  have hlocks := B.notSynchronized
  have hO : cwO D A ad cA s st s.heap [] := ⟨hP, va_S.rf⟩
  have hl := lv_entry ([.ref (ad 176), .ref (ad (179 + 9 * a1)), .int a2, .int a3]) (n := 5) (Nat.le_of_ble_eq_true rfl)
  rw [lg_entry_eq]
  generalize (lg_sl ([.ref (ad 176), .ref (ad (179 + 9 * a1)), .int a2, .int a3]) ++ List.replicate (5 - (lg_sl ([.ref (ad 176), .ref (ad (179 + 9 * a1)), .int a2, .int a3])).length) Slot.unset).toArray = ls at hl ⊢
  have hl : lv_has ls 5 [(0, .ref (ad 176)), (1, .ref (ad (179 + 9 * a1))), (2, .int a2), (3, .int a3)] := hl
  have _h0 := hO
  have hgw := fun (w : Cond) (h : w ∈ gwW) => hts w (List.mem_cons_of_mem _ h)
  have k36 := hgw _ w_4f54f888
  have k62 := hgw _ w_115d9ac3
  have k168 := hgw _ w_e788c032
  have k210 := hgw _ w_112bdd1c
  have k214 := hgw _ w_3799d173
  have k217 := hgw _ w_90f648af
  unfold j_Walk_perform at h
  refine lv_iload_n hx hb dX6_perform_0 rfl (lv_at hl 2 rfl) ?_
  refine lv_if_lt (tgt := 20) hx hb dX6_perform_1 (by decide) (fun c1 => ?_) (fun c1 => ?_)
  · have h := ite_t c1 h
    refine lv_bipush (v := 12) hx hb dX6_perform_20 (by decide) ?_
    obtain ⟨rfl, rfl⟩ := ret2 h; exact cw_iret hx hb hr hlocks hO dX6_perform_22
  · have h := ite_f c1 h
    refine lv_iload_n hx hb dX6_perform_4 rfl (lv_at hl 2 rfl) ?_
    refine gs_TK0 hx hb hown hK hO dX6_perform_5 ?_
    refine an_TK0 hx hb hK hO dX6_perform_8 ?_
    refine lv_icmp_ge (tgt := 20) hx hb dX6_perform_9 (by decide) (fun c2 => ?_) (fun c2 => ?_)
    · have h := ite_t c2 h
      refine lv_bipush (v := 12) hx hb dX6_perform_20 (by decide) ?_
      obtain ⟨rfl, rfl⟩ := ret2 h; exact cw_iret hx hb hr hlocks hO dX6_perform_22
    · have h := ite_f c2 h
      refine lv_iload_n hx hb dX6_perform_12 rfl (lv_at hl 2 rfl) ?_
      refine gs_TK1 hx hb hown hK hO dX6_perform_13 ?_
      refine an_TK1 hx hb hK hO dX6_perform_16 ?_
      refine lv_icmp_lt (tgt := 23) hx hb dX6_perform_17 (by decide) (fun c3 => ?_) (fun c3 => ?_)
      · have h := ite_t c3 h
        refine lv_aload_n hx hb dX6_perform_23 rfl (lv_at hl 1 rfl) ?_
        refine gf_Frame_pile hx hb hgw iwFrame hown hK hO ha1 k62 dX6_perform_24 ?_
        refine lv_astore (lv' := [(4, .ref (ad (182 + 9 * a1))), (0, .ref (ad 176)), (1, .ref (ad (179 + 9 * a1))), (2, .int a2), (3, .int a3)]) hx hb dX6_perform_27 hl (by decide) rfl (fun ls hl => ?_)
        refine lv_aload hx hb dX6_perform_29 (lv_at hl 0 rfl) ?_
        refine gs_TK0 hx hb hown hK hO dX6_perform_31 ?_
        refine lv_iload_n hx hb dX6_perform_34 rfl (lv_at hl 3 rfl) ?_
        obtain ⟨hc4, h⟩ := ck_some h
        refine al_TK0 hx hb hK hO hc4 dX6_perform_35 ?_
        refine gs_TK1 hx hb hown hK hO dX6_perform_36 ?_
        refine lv_iload_n hx hb dX6_perform_39 rfl (lv_at hl 3 rfl) ?_
        obtain ⟨hc5, h⟩ := ck_some h
        refine al_TK1 hx hb hK hO hc5 dX6_perform_40 ?_
        obtain ⟨r6, st7, h8, h⟩ := bR_some h
        refine cw_calli (va_runV (As := [.int (tkT a2.toNatClampNeg), .int (tkM a2.toNatClampNeg)]) (rest := []) ⟨hx, hb, hml, hown, hts⟩ (c_Pile_allows l D A ad cA tb0 tb1 a1 ha1 (tkT a2.toNatClampNeg) (tkM a2.toNatClampNeg) st r6 st7 h8) (cwV 2 hts (gw_V w_708fd490 w_74cf187d w_b42b31d3 w_76c797a4 w_c208274f) rfl rfl rfl (by decide +kernel) ⟨Nat.le_of_ble_eq_true rfl, Nat.le_of_ble_eq_true rfl⟩) (cw_preV (k := 182 + 9 * a1) (ci := 4) hK hO rfl (by have := ha1; omega) (cc_Pile ha1)) rfl rfl hl.1 rfl (lv_room (Nat.le_of_ble_eq_true rfl)) dX6_perform_41 ⟨Nat.zero_le _, Nat.zero_le _⟩) hO (fun H locs hO => ?_)
        refine lv_if_ne (tgt := 50) hx hb dX6_perform_44 (by decide) (fun c9 => ?_) (fun c9 => ?_)
        · have h := ite_f c9 h
          refine lv_aload hx hb dX6_perform_50 (lv_at hl 0 rfl) ?_
          refine gs_TK0 hx hb hown hK hO dX6_perform_52 ?_
          refine lv_iload_n hx hb dX6_perform_55 rfl (lv_at hl 3 rfl) ?_
          obtain ⟨hc10, h⟩ := ck_some h
          refine al_TK0 hx hb hK hO hc10 dX6_perform_56 ?_
          obtain ⟨st12, h13, h⟩ := bV_some h
          refine cw_callv (va_runV (As := [.int (tkT a2.toNatClampNeg)]) (rest := []) ⟨hx, hb, hml, hown, hts⟩ (c_Pile_take l D A ad cA tb0 tb1 a1 ha1 (tkT a2.toNatClampNeg) st7 st12 h13) (cwV 1 hts (gw_V w_ad0f8c7c w_0caad721 w_9eaa4874 w_76c797a4 w_005c6265) rfl rfl rfl (by decide +kernel) ⟨Nat.le_of_ble_eq_true rfl, Nat.le_of_ble_eq_true rfl⟩) (cw_preV (k := 182 + 9 * a1) (ci := 4) hK hO rfl (by have := ha1; omega) (cc_Pile ha1)) rfl rfl hl.1 rfl (lv_room (Nat.le_of_ble_eq_true rfl)) dX6_perform_57 ⟨Nat.zero_le _, Nat.zero_le _⟩) hO (fun H locs hO => ?_)
          refine lv_iload_n hx hb dX6_perform_60 rfl (lv_at hl 3 rfl) ?_
          by_cases c89 : a2 = (0 : Int32)
          · have h := ite_t c89 h
            refine lv_tableIn (tgt := 204) hx hb dX6_perform_61 (by rw [c89]; decide) (by rw [c89]; decide) (by rw [c89]; rfl) (by decide) ?_
            refine lv_aload hx hb dX6_perform_204 (lv_at hl 0 rfl) ?_
            refine lv_iload_n hx hb dX6_perform_206 rfl (lv_at hl 4 rfl) ?_
            refine lv_i2l hx hb dX6_perform_207 rfl ?_
            obtain ⟨r14, st15, h16, h⟩ := bR_some h
            refine cw_calli (va_runV (As := [.long a3.toInt64]) (rest := []) ⟨hx, hb, hml, hown, hts⟩ (c_Pile_putNumber l D A ad cA tb0 tb1 a1 ha1 a3.toInt64 st12 r14 st15 h16) (cwV 1 hts (gw_V w_8fddbe94 w_34c9ad22 w_9e5e849e w_76c797a4 w_03086df0) rfl rfl rfl (by decide +kernel) ⟨Nat.le_of_ble_eq_true rfl, Nat.le_of_ble_eq_true rfl⟩) (cw_preV (k := 182 + 9 * a1) (ci := 4) hK hO rfl (by have := ha1; omega) (cc_Pile ha1)) rfl rfl hl.1 rfl (lv_room (Nat.le_of_ble_eq_true rfl)) dX6_perform_208 ⟨Nat.zero_le _, Nat.zero_le _⟩) hO (fun H locs hO => ?_)
            obtain ⟨rfl, rfl⟩ := ret2 h; exact cw_iret hx hb hr hlocks hO dX6_perform_211
          have h := ite_f c89 h
          by_cases c90 : a2 = (1 : Int32)
          · have h := ite_t c90 h
            refine lv_tableIn (tgt := 212) hx hb dX6_perform_61 (by rw [c90]; decide) (by rw [c90]; decide) (by rw [c90]; rfl) (by decide) ?_
            refine lv_aload_n hx hb dX6_perform_212 rfl (lv_at hl 1 rfl) ?_
            refine lv_aload_n hx hb dX6_perform_213 rfl (lv_at hl 2 rfl) ?_
            refine lv_iload_n hx hb dX6_perform_214 rfl (lv_at hl 4 rfl) ?_
            obtain ⟨r17, st18, h19, h⟩ := bR_some h
            refine cw_calli (va_runV (As := [.ref (ad (179 + 9 * a1)), .int a3]) (rest := []) ⟨hx, hb, hml, hown, hts⟩ (c_Walk_putLeaf l D A ad cA tb0 tb1 a1 ha1 a3 st12 r17 st18 h19) (cwV 2 hts (gw_V w_9fa06c02 w_9c3c8ed7 w_17da279c w_f8f5642f w_02b90b82) rfl rfl rfl (by decide +kernel) ⟨Nat.le_of_ble_eq_true rfl, Nat.le_of_ble_eq_true rfl⟩) (cw_preV (k := 176) (ci := 6) hK hO rfl (by decide) (cc_Walk)) rfl rfl hl.1 rfl (lv_room (Nat.le_of_ble_eq_true rfl)) dX6_perform_215 ⟨Nat.zero_le _, Nat.zero_le _⟩) hO (fun H locs hO => ?_)
            obtain ⟨rfl, rfl⟩ := ret2 h; exact cw_iret hx hb hr hlocks hO dX6_perform_218
          have h := ite_f c90 h
          by_cases c91 : a2 = (2 : Int32)
          · have h := ite_t c91 h
            refine lv_tableIn (tgt := 219) hx hb dX6_perform_61 (by rw [c91]; decide) (by rw [c91]; decide) (by rw [c91]; rfl) (by decide) ?_
            refine lv_aload_n hx hb dX6_perform_219 rfl (lv_at hl 1 rfl) ?_
            refine lv_aload_n hx hb dX6_perform_220 rfl (lv_at hl 2 rfl) ?_
            refine lv_iload_n hx hb dX6_perform_221 rfl (lv_at hl 4 rfl) ?_
            obtain ⟨r20, st21, h22, h⟩ := bR_some h
            refine cw_calli (va_runV (As := [.ref (ad (179 + 9 * a1)), .int a3]) (rest := []) ⟨hx, hb, hml, hown, hts⟩ (c_Walk_changeLeaf l D A ad cA tb0 tb1 a1 ha1 a3 st12 r20 st21 h22) (cwV 2 hts (gw_V w_be1a65f2 w_e7624642 w_f9604c87 w_f8f5642f w_3931b0d4) rfl rfl rfl (by decide +kernel) ⟨Nat.le_of_ble_eq_true rfl, Nat.le_of_ble_eq_true rfl⟩) (cw_preV (k := 176) (ci := 6) hK hO rfl (by decide) (cc_Walk)) rfl rfl hl.1 rfl (lv_room (Nat.le_of_ble_eq_true rfl)) dX6_perform_222 ⟨Nat.zero_le _, Nat.zero_le _⟩) hO (fun H locs hO => ?_)
            obtain ⟨rfl, rfl⟩ := ret2 h; exact cw_iret hx hb hr hlocks hO dX6_perform_225
          have h := ite_f c91 h
          by_cases c92 : a2 = (3 : Int32)
          · have h := ite_t c92 h
            refine lv_tableIn (tgt := 226) hx hb dX6_perform_61 (by rw [c92]; decide) (by rw [c92]; decide) (by rw [c92]; rfl) (by decide) ?_
            refine lv_aload hx hb dX6_perform_226 (lv_at hl 0 rfl) ?_
            obtain ⟨r23, st24, h25, h⟩ := bR_some h
            refine cw_calli (va_runS (As := [.ref (ad (182 + 9 * a1))]) (rest := []) ⟨hx, hb, hml, hown, hts⟩ (c_Walk_putTwice l D A ad cA tb0 tb1 a1 ha1 st12 r23 st24 h25) (va_cwS 1 hts (gw_S w_0c84cd35 w_bdfe83f6 w_f8f5642f w_f33bdb01) rfl rfl rfl (by decide +kernel) ⟨Nat.le_of_ble_eq_true rfl, Nat.le_of_ble_eq_true rfl⟩) (cw_preS hK hO) rfl rfl hl.1 rfl (lv_room (Nat.le_of_ble_eq_true rfl)) dX6_perform_228 ⟨Nat.zero_le _, Nat.zero_le _⟩) hO (fun H locs hO => ?_)
            obtain ⟨rfl, rfl⟩ := ret2 h; exact cw_iret hx hb hr hlocks hO dX6_perform_231
          have h := ite_f c92 h
          by_cases c93 : a2 = (4 : Int32)
          · have h := ite_t c93 h
            refine lv_tableIn (tgt := 232) hx hb dX6_perform_61 (by rw [c93]; decide) (by rw [c93]; decide) (by rw [c93]; rfl) (by decide) ?_
            refine lv_iconst (v := 0) hx hb dX6_perform_232 (by decide) ?_
            obtain ⟨rfl, rfl⟩ := ret2 h; exact cw_iret hx hb hr hlocks hO dX6_perform_233
          have h := ite_f c93 h
          by_cases c94 : a2 = (5 : Int32)
          · have h := ite_t c94 h
            refine lv_tableIn (tgt := 234) hx hb dX6_perform_61 (by rw [c94]; decide) (by rw [c94]; decide) (by rw [c94]; rfl) (by decide) ?_
            refine lv_aload hx hb dX6_perform_234 (lv_at hl 0 rfl) ?_
            obtain ⟨r26, st27, h28, h⟩ := bR_some h
            refine cw_calli (va_runS (As := [.ref (ad (182 + 9 * a1))]) (rest := []) ⟨hx, hb, hml, hown, hts⟩ (c_Walk_putSwapped l D A ad cA tb0 tb1 a1 ha1 st12 r26 st27 h28) (va_cwS 1 hts (gw_S w_8e01b512 w_9b4eed00 w_f8f5642f w_e53ca726) rfl rfl rfl (by decide +kernel) ⟨Nat.le_of_ble_eq_true rfl, Nat.le_of_ble_eq_true rfl⟩) (cw_preS hK hO) rfl rfl hl.1 rfl (lv_room (Nat.le_of_ble_eq_true rfl)) dX6_perform_236 ⟨Nat.zero_le _, Nat.zero_le _⟩) hO (fun H locs hO => ?_)
            obtain ⟨rfl, rfl⟩ := ret2 h; exact cw_iret hx hb hr hlocks hO dX6_perform_239
          have h := ite_f c94 h
          by_cases c95 : a2 = (13 : Int32)
          · have h := ite_t c95 h
            refine lv_tableIn (tgt := 240) hx hb dX6_perform_61 (by rw [c95]; decide) (by rw [c95]; decide) (by rw [c95]; rfl) (by decide) ?_
            refine lv_aload_n hx hb dX6_perform_240 rfl (lv_at hl 2 rfl) ?_
            refine lv_iload_n hx hb dX6_perform_241 rfl (lv_at hl 4 rfl) ?_
            obtain ⟨r29, st30, h31, h⟩ := bR_some h
            refine cw_calli (va_runV (As := [.int a3]) (rest := []) ⟨hx, hb, hml, hown, hts⟩ (c_Frame_jump l D A ad cA tb0 tb1 a1 ha1 a3 st12 r29 st30 h31) (cwV 1 hts (gw_V w_9d79fd68 w_a6d3ff5e w_b84d1b6c w_aeeb22ff w_a67431f2) rfl rfl rfl (by decide +kernel) ⟨Nat.le_of_ble_eq_true rfl, Nat.le_of_ble_eq_true rfl⟩) (cw_preV (k := 179 + 9 * a1) (ci := 2) hK hO rfl (by have := ha1; omega) (cc_Frame ha1)) rfl rfl hl.1 rfl (lv_room (Nat.le_of_ble_eq_true rfl)) dX6_perform_242 ⟨Nat.zero_le _, Nat.zero_le _⟩) hO (fun H locs hO => ?_)
            obtain ⟨rfl, rfl⟩ := ret2 h; exact cw_iret hx hb hr hlocks hO dX6_perform_245
          have h := ite_f c95 h
          by_cases c96 : a2 = (14 : Int32)
          · have h := ite_t c96 h
            refine lv_tableIn (tgt := 246) hx hb dX6_perform_61 (by rw [c96]; decide) (by rw [c96]; decide) (by rw [c96]; rfl) (by decide) ?_
            refine lv_aload_n hx hb dX6_perform_246 rfl (lv_at hl 2 rfl) ?_
            refine lv_iload_n hx hb dX6_perform_247 rfl (lv_at hl 4 rfl) ?_
            obtain ⟨r32, st33, h34, h⟩ := bR_some h
            refine cw_calli (va_runS (As := [.ref (ad (179 + 9 * a1)), .int a3]) (rest := []) ⟨hx, hb, hml, hown, hts⟩ (c_Walk_jumpIfZero l D A ad cA tb0 tb1 a1 ha1 a3 st12 r32 st33 h34) (va_cwS 2 hts (gw_S w_43ca34e5 w_e97167b8 w_f8f5642f w_e2619c40) rfl rfl rfl (by decide +kernel) ⟨Nat.le_of_ble_eq_true rfl, Nat.le_of_ble_eq_true rfl⟩) (cw_preS hK hO) rfl rfl hl.1 rfl (lv_room (Nat.le_of_ble_eq_true rfl)) dX6_perform_248 ⟨Nat.zero_le _, Nat.zero_le _⟩) hO (fun H locs hO => ?_)
            obtain ⟨rfl, rfl⟩ := ret2 h; exact cw_iret hx hb hr hlocks hO dX6_perform_251
          have h := ite_f c96 h
          by_cases c97 : a2 = (15 : Int32)
          · have h := ite_t c97 h
            refine lv_tableIn (tgt := 252) hx hb dX6_perform_61 (by rw [c97]; decide) (by rw [c97]; decide) (by rw [c97]; rfl) (by decide) ?_
            refine lv_aload_n hx hb dX6_perform_252 rfl (lv_at hl 2 rfl) ?_
            refine gf_Frame_rows hx hb hgw iwFrame hown hK hO ha1 k168 dX6_perform_253 ?_
            refine lv_iconst (v := 1) hx hb dX6_perform_256 (by decide) ?_
            obtain ⟨r35, st36, h37, h⟩ := bR_some h
            refine cw_calli (va_runV (As := [.int ((1 : Int32))]) (rest := []) ⟨hx, hb, hml, hown, hts⟩ (c_Rows_putNew l D A ad cA tb0 tb1 a1 ha1 ((1 : Int32)) st12 r35 st36 h37) (cwV 1 hts (gw_V w_24f300af w_a60ccbfb w_98905c69 w_8bdbd0d2 w_c738b028) rfl rfl rfl (by decide +kernel) ⟨Nat.le_of_ble_eq_true rfl, Nat.le_of_ble_eq_true rfl⟩) (cw_preV (k := 185 + 9 * a1) (ci := 5) hK hO rfl (by have := ha1; omega) (cc_Rows ha1)) rfl rfl hl.1 rfl (lv_room (Nat.le_of_ble_eq_true rfl)) dX6_perform_257 ⟨Nat.zero_le _, Nat.zero_le _⟩) hO (fun H locs hO => ?_)
            obtain ⟨rfl, rfl⟩ := ret2 h; exact cw_iret hx hb hr hlocks hO dX6_perform_260
          have h := ite_f c97 h
          by_cases c98 : a2 = (16 : Int32)
          · have h := ite_t c98 h
            refine lv_tableIn (tgt := 261) hx hb dX6_perform_61 (by rw [c98]; decide) (by rw [c98]; decide) (by rw [c98]; rfl) (by decide) ?_
            refine lv_aload_n hx hb dX6_perform_261 rfl (lv_at hl 2 rfl) ?_
            refine gf_Frame_rows hx hb hgw iwFrame hown hK hO ha1 k168 dX6_perform_262 ?_
            refine lv_iconst (v := 2) hx hb dX6_perform_265 (by decide) ?_
            obtain ⟨r38, st39, h40, h⟩ := bR_some h
            refine cw_calli (va_runV (As := [.int ((2 : Int32))]) (rest := []) ⟨hx, hb, hml, hown, hts⟩ (c_Rows_putNew l D A ad cA tb0 tb1 a1 ha1 ((2 : Int32)) st12 r38 st39 h40) (cwV 1 hts (gw_V w_24f300af w_a60ccbfb w_98905c69 w_8bdbd0d2 w_c738b028) rfl rfl rfl (by decide +kernel) ⟨Nat.le_of_ble_eq_true rfl, Nat.le_of_ble_eq_true rfl⟩) (cw_preV (k := 185 + 9 * a1) (ci := 5) hK hO rfl (by have := ha1; omega) (cc_Rows ha1)) rfl rfl hl.1 rfl (lv_room (Nat.le_of_ble_eq_true rfl)) dX6_perform_266 ⟨Nat.zero_le _, Nat.zero_le _⟩) hO (fun H locs hO => ?_)
            obtain ⟨rfl, rfl⟩ := ret2 h; exact cw_iret hx hb hr hlocks hO dX6_perform_269
          have h := ite_f c98 h
          by_cases c99 : a2 = (17 : Int32)
          · have h := ite_t c99 h
            refine lv_tableIn (tgt := 270) hx hb dX6_perform_61 (by rw [c99]; decide) (by rw [c99]; decide) (by rw [c99]; rfl) (by decide) ?_
            refine lv_aload_n hx hb dX6_perform_270 rfl (lv_at hl 2 rfl) ?_
            refine gf_Frame_rows hx hb hgw iwFrame hown hK hO ha1 k168 dX6_perform_271 ?_
            refine lv_iconst (v := 1) hx hb dX6_perform_274 (by decide) ?_
            obtain ⟨r41, st42, h43, h⟩ := bR_some h
            refine cw_calli (va_runV (As := [.int ((1 : Int32))]) (rest := []) ⟨hx, hb, hml, hown, hts⟩ (c_Rows_putElement l D A ad cA tb0 tb1 a1 ha1 ((1 : Int32)) st12 r41 st42 h43) (cwV 1 hts (gw_V w_dd8cd33b w_6b278a84 w_2e944d78 w_8bdbd0d2 w_4d7e5faf) rfl rfl rfl (by decide +kernel) ⟨Nat.le_of_ble_eq_true rfl, Nat.le_of_ble_eq_true rfl⟩) (cw_preV (k := 185 + 9 * a1) (ci := 5) hK hO rfl (by have := ha1; omega) (cc_Rows ha1)) rfl rfl hl.1 rfl (lv_room (Nat.le_of_ble_eq_true rfl)) dX6_perform_275 ⟨Nat.zero_le _, Nat.zero_le _⟩) hO (fun H locs hO => ?_)
            obtain ⟨rfl, rfl⟩ := ret2 h; exact cw_iret hx hb hr hlocks hO dX6_perform_278
          have h := ite_f c99 h
          by_cases c100 : a2 = (18 : Int32)
          · have h := ite_t c100 h
            refine lv_tableIn (tgt := 279) hx hb dX6_perform_61 (by rw [c100]; decide) (by rw [c100]; decide) (by rw [c100]; rfl) (by decide) ?_
            refine lv_aload_n hx hb dX6_perform_279 rfl (lv_at hl 2 rfl) ?_
            refine gf_Frame_rows hx hb hgw iwFrame hown hK hO ha1 k168 dX6_perform_280 ?_
            refine lv_iconst (v := 2) hx hb dX6_perform_283 (by decide) ?_
            obtain ⟨r44, st45, h46, h⟩ := bR_some h
            refine cw_calli (va_runV (As := [.int ((2 : Int32))]) (rest := []) ⟨hx, hb, hml, hown, hts⟩ (c_Rows_putElement l D A ad cA tb0 tb1 a1 ha1 ((2 : Int32)) st12 r44 st45 h46) (cwV 1 hts (gw_V w_dd8cd33b w_6b278a84 w_2e944d78 w_8bdbd0d2 w_4d7e5faf) rfl rfl rfl (by decide +kernel) ⟨Nat.le_of_ble_eq_true rfl, Nat.le_of_ble_eq_true rfl⟩) (cw_preV (k := 185 + 9 * a1) (ci := 5) hK hO rfl (by have := ha1; omega) (cc_Rows ha1)) rfl rfl hl.1 rfl (lv_room (Nat.le_of_ble_eq_true rfl)) dX6_perform_284 ⟨Nat.zero_le _, Nat.zero_le _⟩) hO (fun H locs hO => ?_)
            obtain ⟨rfl, rfl⟩ := ret2 h; exact cw_iret hx hb hr hlocks hO dX6_perform_287
          have h := ite_f c100 h
          by_cases c101 : a2 = (19 : Int32)
          · have h := ite_t c101 h
            refine lv_tableIn (tgt := 288) hx hb dX6_perform_61 (by rw [c101]; decide) (by rw [c101]; decide) (by rw [c101]; rfl) (by decide) ?_
            refine lv_aload_n hx hb dX6_perform_288 rfl (lv_at hl 2 rfl) ?_
            refine gf_Frame_rows hx hb hgw iwFrame hown hK hO ha1 k168 dX6_perform_289 ?_
            refine lv_iconst (v := 1) hx hb dX6_perform_292 (by decide) ?_
            obtain ⟨r47, st48, h49, h⟩ := bR_some h
            refine cw_calli (va_runV (As := [.int ((1 : Int32))]) (rest := []) ⟨hx, hb, hml, hown, hts⟩ (c_Rows_changeElement l D A ad cA tb0 tb1 a1 ha1 ((1 : Int32)) st12 r47 st48 h49) (cwV 1 hts (gw_V w_810b722e w_7fed198a w_e57cdd68 w_8bdbd0d2 w_c81fd045) rfl rfl rfl (by decide +kernel) ⟨Nat.le_of_ble_eq_true rfl, Nat.le_of_ble_eq_true rfl⟩) (cw_preV (k := 185 + 9 * a1) (ci := 5) hK hO rfl (by have := ha1; omega) (cc_Rows ha1)) rfl rfl hl.1 rfl (lv_room (Nat.le_of_ble_eq_true rfl)) dX6_perform_293 ⟨Nat.zero_le _, Nat.zero_le _⟩) hO (fun H locs hO => ?_)
            obtain ⟨rfl, rfl⟩ := ret2 h; exact cw_iret hx hb hr hlocks hO dX6_perform_296
          have h := ite_f c101 h
          by_cases c102 : a2 = (20 : Int32)
          · have h := ite_t c102 h
            refine lv_tableIn (tgt := 297) hx hb dX6_perform_61 (by rw [c102]; decide) (by rw [c102]; decide) (by rw [c102]; rfl) (by decide) ?_
            refine lv_aload_n hx hb dX6_perform_297 rfl (lv_at hl 2 rfl) ?_
            refine gf_Frame_rows hx hb hgw iwFrame hown hK hO ha1 k168 dX6_perform_298 ?_
            refine lv_iconst (v := 2) hx hb dX6_perform_301 (by decide) ?_
            obtain ⟨r50, st51, h52, h⟩ := bR_some h
            refine cw_calli (va_runV (As := [.int ((2 : Int32))]) (rest := []) ⟨hx, hb, hml, hown, hts⟩ (c_Rows_changeElement l D A ad cA tb0 tb1 a1 ha1 ((2 : Int32)) st12 r50 st51 h52) (cwV 1 hts (gw_V w_810b722e w_7fed198a w_e57cdd68 w_8bdbd0d2 w_c81fd045) rfl rfl rfl (by decide +kernel) ⟨Nat.le_of_ble_eq_true rfl, Nat.le_of_ble_eq_true rfl⟩) (cw_preV (k := 185 + 9 * a1) (ci := 5) hK hO rfl (by have := ha1; omega) (cc_Rows ha1)) rfl rfl hl.1 rfl (lv_room (Nat.le_of_ble_eq_true rfl)) dX6_perform_302 ⟨Nat.zero_le _, Nat.zero_le _⟩) hO (fun H locs hO => ?_)
            obtain ⟨rfl, rfl⟩ := ret2 h; exact cw_iret hx hb hr hlocks hO dX6_perform_305
          have h := ite_f c102 h
          by_cases c103 : a2 = (21 : Int32)
          · have h := ite_t c103 h
            refine lv_tableIn (tgt := 306) hx hb dX6_perform_61 (by rw [c103]; decide) (by rw [c103]; decide) (by rw [c103]; rfl) (by decide) ?_
            refine lv_aload_n hx hb dX6_perform_306 rfl (lv_at hl 2 rfl) ?_
            refine gf_Frame_rows hx hb hgw iwFrame hown hK hO ha1 k168 dX6_perform_307 ?_
            obtain ⟨r53, st54, h55, h⟩ := bR_some h
            refine cw_calli (va_runV (As := []) (rest := []) ⟨hx, hb, hml, hown, hts⟩ (c_Rows_putLength l D A ad cA tb0 tb1 a1 ha1 st12 r53 st54 h55) (cwV 0 hts (gw_V w_c261932e w_edbe232a w_43a81a0f w_8bdbd0d2 w_4a66d9a4) rfl rfl rfl (by decide +kernel) ⟨Nat.le_of_ble_eq_true rfl, Nat.le_of_ble_eq_true rfl⟩) (cw_preV (k := 185 + 9 * a1) (ci := 5) hK hO rfl (by have := ha1; omega) (cc_Rows ha1)) rfl rfl hl.1 rfl (lv_room (Nat.le_of_ble_eq_true rfl)) dX6_perform_310 ⟨Nat.zero_le _, Nat.zero_le _⟩) hO (fun H locs hO => ?_)
            obtain ⟨rfl, rfl⟩ := ret2 h; exact cw_iret hx hb hr hlocks hO dX6_perform_313
          have h := ite_f c103 h
          by_cases c104 : a2 = (22 : Int32)
          · have h := ite_t c104 h
            refine lv_tableIn (tgt := 314) hx hb dX6_perform_61 (by rw [c104]; decide) (by rw [c104]; decide) (by rw [c104]; rfl) (by decide) ?_
            refine lv_aload hx hb dX6_perform_314 (lv_at hl 0 rfl) ?_
            refine lv_iconst (v := 3) hx hb dX6_perform_316 (by decide) ?_
            refine lv_lconst (v := 0) hx hb dX6_perform_317 (by decide) ?_
            obtain ⟨r56, st57, h58, h⟩ := bR_some h
            refine cw_calli (va_runV (As := [.int ((3 : Int32)), .long ((0 : Int64))]) (rest := []) ⟨hx, hb, hml, hown, hts⟩ (c_Pile_put l D A ad cA tb0 tb1 a1 ha1 ((3 : Int32)) ((0 : Int64)) st12 r56 st57 h58) (cwV 2 hts (gw_V w_085b0eb2 w_d8d501aa w_46b57ea6 w_76c797a4 w_54242bcb) rfl rfl rfl (by decide +kernel) ⟨Nat.le_of_ble_eq_true rfl, Nat.le_of_ble_eq_true rfl⟩) (cw_preV (k := 182 + 9 * a1) (ci := 4) hK hO rfl (by have := ha1; omega) (cc_Pile ha1)) rfl rfl hl.1 rfl (lv_room (Nat.le_of_ble_eq_true rfl)) dX6_perform_318 ⟨Nat.zero_le _, Nat.zero_le _⟩) hO (fun H locs hO => ?_)
            obtain ⟨rfl, rfl⟩ := ret2 h; exact cw_iret hx hb hr hlocks hO dX6_perform_321
          have h := ite_f c104 h
          by_cases c105 : a2 = (23 : Int32)
          · have h := ite_t c105 h
            refine lv_tableIn (tgt := 322) hx hb dX6_perform_61 (by rw [c105]; decide) (by rw [c105]; decide) (by rw [c105]; rfl) (by decide) ?_
            refine lv_aload_n hx hb dX6_perform_322 rfl (lv_at hl 2 rfl) ?_
            refine gf_Frame_rows hx hb hgw iwFrame hown hK hO ha1 k168 dX6_perform_323 ?_
            obtain ⟨r59, st60, h61, h⟩ := bR_some h
            refine cw_calli (va_runV (As := []) (rest := []) ⟨hx, hb, hml, hown, hts⟩ (c_Rows_copyElements l D A ad cA tb0 tb1 a1 ha1 st12 r59 st60 h61) (cwV 0 hts (gw_V w_1687bed3 w_2ca43a6e w_e855bd6f w_8bdbd0d2 w_b269f87b) rfl rfl rfl (by decide +kernel) ⟨Nat.le_of_ble_eq_true rfl, Nat.le_of_ble_eq_true rfl⟩) (cw_preV (k := 185 + 9 * a1) (ci := 5) hK hO rfl (by have := ha1; omega) (cc_Rows ha1)) rfl rfl hl.1 rfl (lv_room (Nat.le_of_ble_eq_true rfl)) dX6_perform_326 ⟨Nat.zero_le _, Nat.zero_le _⟩) hO (fun H locs hO => ?_)
            obtain ⟨rfl, rfl⟩ := ret2 h; exact cw_iret hx hb hr hlocks hO dX6_perform_329
          have h := ite_f c105 h
          by_cases c106 : a2 = (24 : Int32)
          · have h := ite_t c106 h
            refine lv_tableIn (tgt := 330) hx hb dX6_perform_61 (by rw [c106]; decide) (by rw [c106]; decide) (by rw [c106]; rfl) (by decide) ?_
            refine lv_aload_n hx hb dX6_perform_330 rfl (lv_at hl 2 rfl) ?_
            refine lv_iload_n hx hb dX6_perform_331 rfl (lv_at hl 4 rfl) ?_
            obtain ⟨r62, st63, h64, h⟩ := bR_some h
            refine cw_calli (va_runV (As := [.int a3]) (rest := []) ⟨hx, hb, hml, hown, hts⟩ (c_Frame_addHandler l D A ad cA tb0 tb1 a1 ha1 a3 st12 r62 st63 h64) (cwV 1 hts (gw_V w_8c4e9d1d w_ca9fc9a0 w_36f2d12d w_aeeb22ff w_3a4480d8) rfl rfl rfl (by decide +kernel) ⟨Nat.le_of_ble_eq_true rfl, Nat.le_of_ble_eq_true rfl⟩) (cw_preV (k := 179 + 9 * a1) (ci := 2) hK hO rfl (by have := ha1; omega) (cc_Frame ha1)) rfl rfl hl.1 rfl (lv_room (Nat.le_of_ble_eq_true rfl)) dX6_perform_332 ⟨Nat.zero_le _, Nat.zero_le _⟩) hO (fun H locs hO => ?_)
            obtain ⟨rfl, rfl⟩ := ret2 h; exact cw_iret hx hb hr hlocks hO dX6_perform_335
          have h := ite_f c106 h
          by_cases c107 : a2 = (25 : Int32)
          · have h := ite_t c107 h
            refine lv_tableIn (tgt := 336) hx hb dX6_perform_61 (by rw [c107]; decide) (by rw [c107]; decide) (by rw [c107]; rfl) (by decide) ?_
            refine lv_aload_n hx hb dX6_perform_336 rfl (lv_at hl 2 rfl) ?_
            obtain ⟨r65, st66, h67, h⟩ := bR_some h
            refine cw_calli (va_runV (As := []) (rest := []) ⟨hx, hb, hml, hown, hts⟩ (c_Frame_dropHandler l D A ad cA tb0 tb1 a1 ha1 st12 r65 st66 h67) (cwV 0 hts (gw_V w_b14f5273 w_dbb05d45 w_6187071a w_aeeb22ff w_3cc04f3d) rfl rfl rfl (by decide +kernel) ⟨Nat.le_of_ble_eq_true rfl, Nat.le_of_ble_eq_true rfl⟩) (cw_preV (k := 179 + 9 * a1) (ci := 2) hK hO rfl (by have := ha1; omega) (cc_Frame ha1)) rfl rfl hl.1 rfl (lv_room (Nat.le_of_ble_eq_true rfl)) dX6_perform_337 ⟨Nat.zero_le _, Nat.zero_le _⟩) hO (fun H locs hO => ?_)
            obtain ⟨rfl, rfl⟩ := ret2 h; exact cw_iret hx hb hr hlocks hO dX6_perform_340
          have h := ite_f c107 h
          by_cases c108 : a2 = (26 : Int32)
          · have h := ite_t c108 h
            refine lv_tableIn (tgt := 341) hx hb dX6_perform_61 (by rw [c108]; decide) (by rw [c108]; decide) (by rw [c108]; rfl) (by decide) ?_
            refine lv_iload_n hx hb dX6_perform_341 rfl (lv_at hl 4 rfl) ?_
            refine lv_if_lt (tgt := 358) hx hb dX6_perform_342 (by decide) (fun c68 => ?_) (fun c68 => ?_)
            · have h := ite_t c68 h
              refine lv_bipush (v := 12) hx hb dX6_perform_358 (by decide) ?_
              obtain ⟨rfl, rfl⟩ := ret2 h; exact cw_iret hx hb hr hlocks hO dX6_perform_360
            · have h := ite_f c68 h
              refine lv_iload_n hx hb dX6_perform_345 rfl (lv_at hl 4 rfl) ?_
              refine lv_bipush (v := 7) hx hb dX6_perform_346 (by decide) ?_
              refine lv_icmp_gt (tgt := 358) hx hb dX6_perform_348 (by decide) (fun c69 => ?_) (fun c69 => ?_)
              · have h := ite_t c69 h
                refine lv_bipush (v := 12) hx hb dX6_perform_358 (by decide) ?_
                obtain ⟨rfl, rfl⟩ := ret2 h; exact cw_iret hx hb hr hlocks hO dX6_perform_360
              · have h := ite_f c69 h
                refine lv_bipush (v := 13) hx hb dX6_perform_351 (by decide) ?_
                refine lv_iload_n hx hb dX6_perform_353 rfl (lv_at hl 4 rfl) ?_
                refine lv_iadd hx hb dX6_perform_354 ?_
                refine lv_goto (tgt := 360) hx hb dX6_perform_355 (by decide) ?_
                obtain ⟨rfl, rfl⟩ := ret2 h; exact cw_iret hx hb hr hlocks hO dX6_perform_360
          have h := ite_f c108 h
          by_cases c109 : a2 = (27 : Int32)
          · have h := ite_t c109 h
            refine lv_tableIn (tgt := 361) hx hb dX6_perform_61 (by rw [c109]; decide) (by rw [c109]; decide) (by rw [c109]; rfl) (by decide) ?_
            refine lv_aload_n hx hb dX6_perform_361 rfl (lv_at hl 1 rfl) ?_
            refine lv_aload hx hb dX6_perform_362 (lv_at hl 0 rfl) ?_
            obtain ⟨r70, st71, h72, h⟩ := bR_some h
            refine cw_calli (va_runV (As := [.ref (ad (182 + 9 * a1))]) (rest := []) ⟨hx, hb, hml, hown, hts⟩ (c_Walk_giveBack l D A ad cA tb0 tb1 a1 ha1 st12 r70 st71 h72) (cwV 1 hts (gw_V w_1579db53 w_72c4a5a0 w_509e588c w_f8f5642f w_bffa048c) rfl rfl rfl (by decide +kernel) ⟨Nat.le_of_ble_eq_true rfl, Nat.le_of_ble_eq_true rfl⟩) (cw_preV (k := 176) (ci := 6) hK hO rfl (by decide) (cc_Walk)) rfl rfl hl.1 rfl (lv_room (Nat.le_of_ble_eq_true rfl)) dX6_perform_364 ⟨Nat.zero_le _, Nat.zero_le _⟩) hO (fun H locs hO => ?_)
            obtain ⟨rfl, rfl⟩ := ret2 h; exact cw_iret hx hb hr hlocks hO dX6_perform_367
          have h := ite_f c109 h
          by_cases c110 : a2 = (28 : Int32)
          · have h := ite_t c110 h
            refine lv_tableIn (tgt := 368) hx hb dX6_perform_61 (by rw [c110]; decide) (by rw [c110]; decide) (by rw [c110]; rfl) (by decide) ?_
            refine lv_aload_n hx hb dX6_perform_368 rfl (lv_at hl 1 rfl) ?_
            refine lv_aload_n hx hb dX6_perform_369 rfl (lv_at hl 2 rfl) ?_
            obtain ⟨r73, st74, h75, h⟩ := bR_some h
            refine cw_calli (va_runV (As := [.ref (ad (179 + 9 * a1))]) (rest := []) ⟨hx, hb, hml, hown, hts⟩ (c_Walk_tellEvent l D A ad cA tb0 tb1 a1 ha1 st12 r73 st74 h75) (cwV 1 hts (gw_V w_5b211d43 w_4b8ecf71 w_ac717402 w_f8f5642f w_03222456) rfl rfl rfl (by decide +kernel) ⟨Nat.le_of_ble_eq_true rfl, Nat.le_of_ble_eq_true rfl⟩) (cw_preV (k := 176) (ci := 6) hK hO rfl (by decide) (cc_Walk)) rfl rfl hl.1 rfl (lv_room (Nat.le_of_ble_eq_true rfl)) dX6_perform_370 ⟨Nat.zero_le _, Nat.zero_le _⟩) hO (fun H locs hO => ?_)
            obtain ⟨rfl, rfl⟩ := ret2 h; exact cw_iret hx hb hr hlocks hO dX6_perform_373
          have h := ite_f c110 h
          by_cases c111 : a2 = (29 : Int32)
          · have h := ite_t c111 h
            refine lv_tableIn (tgt := 374) hx hb dX6_perform_61 (by rw [c111]; decide) (by rw [c111]; decide) (by rw [c111]; rfl) (by decide) ?_
            refine lv_aload_n hx hb dX6_perform_374 rfl (lv_at hl 1 rfl) ?_
            refine lv_aload_n hx hb dX6_perform_375 rfl (lv_at hl 2 rfl) ?_
            refine lv_iload_n hx hb dX6_perform_376 rfl (lv_at hl 4 rfl) ?_
            obtain ⟨r76, st77, h78, h⟩ := bR_some h
            refine cw_calli (va_runV (As := [.ref (ad (179 + 9 * a1)), .int a3]) (rest := []) ⟨hx, hb, hml, hown, hts⟩ (c_Walk_callOther l D A ad cA tb0 tb1 a1 ha1 a3 st12 r76 st77 h78) (cwV 2 hts (gw_V w_59a569a3 w_baf9a321 w_6651d5c2 w_f8f5642f w_6b25aad2) rfl rfl rfl (by decide +kernel) ⟨Nat.le_of_ble_eq_true rfl, Nat.le_of_ble_eq_true rfl⟩) (cw_preV (k := 176) (ci := 6) hK hO rfl (by decide) (cc_Walk)) rfl rfl hl.1 rfl (lv_room (Nat.le_of_ble_eq_true rfl)) dX6_perform_377 ⟨Nat.zero_le _, Nat.zero_le _⟩) hO (fun H locs hO => ?_)
            obtain ⟨rfl, rfl⟩ := ret2 h; exact cw_iret hx hb hr hlocks hO dX6_perform_380
          have h := ite_f c111 h
          by_cases c112 : a2 = (30 : Int32)
          · have h := ite_t c112 h
            refine lv_tableIn (tgt := 381) hx hb dX6_perform_61 (by rw [c112]; decide) (by rw [c112]; decide) (by rw [c112]; rfl) (by decide) ?_
            refine lv_aload hx hb dX6_perform_381 (lv_at hl 0 rfl) ?_
            refine lv_aload_n hx hb dX6_perform_383 rfl (lv_at hl 1 rfl) ?_
            refine gf_Walk_ledger hx hb hgw iwWalk hown hK hO k36 dX6_perform_384 ?_
            refine gf_Ledger_balances hx hb hgw iwLedger hown hK hO k210 dX6_perform_387 ?_
            refine lv_aload_n hx hb dX6_perform_390 rfl (lv_at hl 2 rfl) ?_
            refine gf_Frame_contract hx hb hgw iwFrame hown hK hO ha1 k214 dX6_perform_391 ?_
            obtain ⟨hc79, h⟩ := ck_some h
            refine al_Bals hx hb hK hO hc79 dX6_perform_394 ?_
            obtain ⟨r80, st81, h82, h⟩ := bR_some h
            refine cw_calli (va_runV (As := [.long (gL st12 1 0 ((gI st12 13 a1 0).toNatClampNeg))]) (rest := []) ⟨hx, hb, hml, hown, hts⟩ (c_Pile_putNumber l D A ad cA tb0 tb1 a1 ha1 (gL st12 1 0 ((gI st12 13 a1 0).toNatClampNeg)) st12 r80 st81 h82) (cwV 1 hts (gw_V w_8fddbe94 w_34c9ad22 w_9e5e849e w_76c797a4 w_03086df0) rfl rfl rfl (by decide +kernel) ⟨Nat.le_of_ble_eq_true rfl, Nat.le_of_ble_eq_true rfl⟩) (cw_preV (k := 182 + 9 * a1) (ci := 4) hK hO rfl (by have := ha1; omega) (cc_Pile ha1)) rfl rfl hl.1 rfl (lv_room (Nat.le_of_ble_eq_true rfl)) dX6_perform_395 ⟨Nat.zero_le _, Nat.zero_le _⟩) hO (fun H locs hO => ?_)
            obtain ⟨rfl, rfl⟩ := ret2 h; exact cw_iret hx hb hr hlocks hO dX6_perform_398
          have h := ite_f c112 h
          by_cases c113 : a2 = (31 : Int32)
          · have h := ite_t c113 h
            refine lv_tableIn (tgt := 399) hx hb dX6_perform_61 (by rw [c113]; decide) (by rw [c113]; decide) (by rw [c113]; rfl) (by decide) ?_
            refine lv_aload hx hb dX6_perform_399 (lv_at hl 0 rfl) ?_
            refine lv_aload_n hx hb dX6_perform_401 rfl (lv_at hl 2 rfl) ?_
            refine gf_Frame_caller hx hb hgw iwFrame hown hK hO ha1 k217 dX6_perform_402 ?_
            refine lv_i2l hx hb dX6_perform_405 rfl ?_
            obtain ⟨r83, st84, h85, h⟩ := bR_some h
            refine cw_calli (va_runV (As := [.long ((gI st12 14 a1 0).toInt64)]) (rest := []) ⟨hx, hb, hml, hown, hts⟩ (c_Pile_putNumber l D A ad cA tb0 tb1 a1 ha1 ((gI st12 14 a1 0).toInt64) st12 r83 st84 h85) (cwV 1 hts (gw_V w_8fddbe94 w_34c9ad22 w_9e5e849e w_76c797a4 w_03086df0) rfl rfl rfl (by decide +kernel) ⟨Nat.le_of_ble_eq_true rfl, Nat.le_of_ble_eq_true rfl⟩) (cw_preV (k := 182 + 9 * a1) (ci := 4) hK hO rfl (by have := ha1; omega) (cc_Pile ha1)) rfl rfl hl.1 rfl (lv_room (Nat.le_of_ble_eq_true rfl)) dX6_perform_406 ⟨Nat.zero_le _, Nat.zero_le _⟩) hO (fun H locs hO => ?_)
            obtain ⟨rfl, rfl⟩ := ret2 h; exact cw_iret hx hb hr hlocks hO dX6_perform_409
          have h := ite_f c113 h
          refine cw_tableD (tgt := 410) hx hb dX6_perform_61 (by
            have e0 := lv_neT (a := 0) c89 (by decide)
            have e1 := lv_neT (a := 1) c90 (by decide)
            have e2 := lv_neT (a := 2) c91 (by decide)
            have e3 := lv_neT (a := 3) c92 (by decide)
            have e4 := lv_neT (a := 4) c93 (by decide)
            have e5 := lv_neT (a := 5) c94 (by decide)
            have e6 := lv_neT (a := 13) c95 (by decide)
            have e7 := lv_neT (a := 14) c96 (by decide)
            have e8 := lv_neT (a := 15) c97 (by decide)
            have e9 := lv_neT (a := 16) c98 (by decide)
            have e10 := lv_neT (a := 17) c99 (by decide)
            have e11 := lv_neT (a := 18) c100 (by decide)
            have e12 := lv_neT (a := 19) c101 (by decide)
            have e13 := lv_neT (a := 20) c102 (by decide)
            have e14 := lv_neT (a := 21) c103 (by decide)
            have e15 := lv_neT (a := 22) c104 (by decide)
            have e16 := lv_neT (a := 23) c105 (by decide)
            have e17 := lv_neT (a := 24) c106 (by decide)
            have e18 := lv_neT (a := 25) c107 (by decide)
            have e19 := lv_neT (a := 26) c108 (by decide)
            have e20 := lv_neT (a := 27) c109 (by decide)
            have e21 := lv_neT (a := 28) c110 (by decide)
            have e22 := lv_neT (a := 29) c111 (by decide)
            have e23 := lv_neT (a := 30) c112 (by decide)
            have e24 := lv_neT (a := 31) c113 (by decide)
            by_cases q1 : a2.toInt < 0
            · exact Or.inl q1
            by_cases q2 : (31 : Int) < a2.toInt
            · exact Or.inr (Or.inl q2)
            have q3 : a2.toInt = 6 ∨ a2.toInt = 7 ∨ a2.toInt = 8 ∨ a2.toInt = 9 ∨ a2.toInt = 10 ∨ a2.toInt = 11 ∨ a2.toInt = 12 := by omega
            rcases q3 with q3 | q3 | q3 | q3 | q3 | q3 | q3 <;> (rw [q3]; exact Or.inr (Or.inr rfl))) (by decide) ?_
          refine lv_aload hx hb dX6_perform_410 (lv_at hl 0 rfl) ?_
          refine lv_iload_n hx hb dX6_perform_412 rfl (lv_at hl 3 rfl) ?_
          obtain ⟨r86, st87, h88, h⟩ := bR_some h
          refine cw_calli (va_runS (As := [.ref (ad (182 + 9 * a1)), .int a2]) (rest := []) ⟨hx, hb, hml, hown, hts⟩ (c_Walk_calculate l D A ad cA tb0 tb1 a1 ha1 a2 st12 r86 st87 h88) (va_cwS 2 hts (gw_S w_27e24a95 w_035a230a w_f8f5642f w_7a0196f1) rfl rfl rfl (by decide +kernel) ⟨Nat.le_of_ble_eq_true rfl, Nat.le_of_ble_eq_true rfl⟩) (cw_preS hK hO) rfl rfl hl.1 rfl (lv_room (Nat.le_of_ble_eq_true rfl)) dX6_perform_413 ⟨Nat.zero_le _, Nat.zero_le _⟩) hO (fun H locs hO => ?_)
          obtain ⟨rfl, rfl⟩ := ret2 h; exact cw_iret hx hb hr hlocks hO dX6_perform_416
        · have h := ite_t c9 h
          refine lv_bipush (v := 11) hx hb dX6_perform_47 (by decide) ?_
          obtain ⟨rfl, rfl⟩ := ret2 h; exact cw_iret hx hb hr hlocks hO dX6_perform_49
      · have h := ite_f c3 h
        refine lv_bipush (v := 12) hx hb dX6_perform_20 (by decide) ?_
        obtain ⟨rfl, rfl⟩ := ret2 h; exact cw_iret hx hb hr hlocks hO dX6_perform_22
-- Walk advance
def j_Walk_advance (a1 : Nat) (st : CwS) : Option CwS :=
  bR (j_Frame_isAtEnd a1 st) fun r1 st2 =>
  if r1 = ((0 : Int32)) then
    ck (ix ((0 : Int32)) 5) <|
    if (gI st2 7 0 (((0 : Int32)).toNatClampNeg)) < (gI st2 16 a1 0) then
      ck (ix ((0 : Int32)) 5) <|
      ck (ix ((0 : Int32)) 5) <|
      ck (decide ((gR (sI (sI st2 7 0 (((0 : Int32)).toNatClampNeg) ((gI st2 7 0 (((0 : Int32)).toNatClampNeg)) + ((1 : Int32)))) 15 a1 0 ((gI (sI st2 7 0 (((0 : Int32)).toNatClampNeg) ((gI st2 7 0 (((0 : Int32)).toNatClampNeg)) + ((1 : Int32)))) 15 a1 0) + ((1 : Int32)))) 0 a1) < 48)) <|
      ck (ix (gI (sI st2 7 0 (((0 : Int32)).toNatClampNeg) ((gI st2 7 0 (((0 : Int32)).toNatClampNeg)) + ((1 : Int32)))) 15 a1 0) 24) <|
      ck (decide ((gR (sI (sI st2 7 0 (((0 : Int32)).toNatClampNeg) ((gI st2 7 0 (((0 : Int32)).toNatClampNeg)) + ((1 : Int32)))) 15 a1 0 ((gI (sI st2 7 0 (((0 : Int32)).toNatClampNeg) ((gI st2 7 0 (((0 : Int32)).toNatClampNeg)) + ((1 : Int32)))) 15 a1 0) + ((1 : Int32)))) 0 a1) < 48)) <|
      ck (ix (gI (sI st2 7 0 (((0 : Int32)).toNatClampNeg) ((gI st2 7 0 (((0 : Int32)).toNatClampNeg)) + ((1 : Int32)))) 15 a1 0) 24) <|
      bR (j_Walk_perform a1 (gI (sI (sI st2 7 0 (((0 : Int32)).toNatClampNeg) ((gI st2 7 0 (((0 : Int32)).toNatClampNeg)) + ((1 : Int32)))) 15 a1 0 ((gI (sI st2 7 0 (((0 : Int32)).toNatClampNeg) ((gI st2 7 0 (((0 : Int32)).toNatClampNeg)) + ((1 : Int32)))) 15 a1 0) + ((1 : Int32)))) 0 (gR (sI (sI st2 7 0 (((0 : Int32)).toNatClampNeg) ((gI st2 7 0 (((0 : Int32)).toNatClampNeg)) + ((1 : Int32)))) 15 a1 0 ((gI (sI st2 7 0 (((0 : Int32)).toNatClampNeg) ((gI st2 7 0 (((0 : Int32)).toNatClampNeg)) + ((1 : Int32)))) 15 a1 0) + ((1 : Int32)))) 0 a1) ((gI (sI st2 7 0 (((0 : Int32)).toNatClampNeg) ((gI st2 7 0 (((0 : Int32)).toNatClampNeg)) + ((1 : Int32)))) 15 a1 0).toNatClampNeg)) (gI (sI (sI st2 7 0 (((0 : Int32)).toNatClampNeg) ((gI st2 7 0 (((0 : Int32)).toNatClampNeg)) + ((1 : Int32)))) 15 a1 0 ((gI (sI st2 7 0 (((0 : Int32)).toNatClampNeg) ((gI st2 7 0 (((0 : Int32)).toNatClampNeg)) + ((1 : Int32)))) 15 a1 0) + ((1 : Int32)))) 1 (gR (sI (sI st2 7 0 (((0 : Int32)).toNatClampNeg) ((gI st2 7 0 (((0 : Int32)).toNatClampNeg)) + ((1 : Int32)))) 15 a1 0 ((gI (sI st2 7 0 (((0 : Int32)).toNatClampNeg) ((gI st2 7 0 (((0 : Int32)).toNatClampNeg)) + ((1 : Int32)))) 15 a1 0) + ((1 : Int32)))) 0 a1) ((gI (sI st2 7 0 (((0 : Int32)).toNatClampNeg) ((gI st2 7 0 (((0 : Int32)).toNatClampNeg)) + ((1 : Int32)))) 15 a1 0).toNatClampNeg)) (sI (sI st2 7 0 (((0 : Int32)).toNatClampNeg) ((gI st2 7 0 (((0 : Int32)).toNatClampNeg)) + ((1 : Int32)))) 15 a1 0 ((gI (sI st2 7 0 (((0 : Int32)).toNatClampNeg) ((gI st2 7 0 (((0 : Int32)).toNatClampNeg)) + ((1 : Int32)))) 15 a1 0) + ((1 : Int32))))) fun r13 st14 =>
      if r13 = ((0 : Int32)) then
        some st14
      else
        bV (j_Walk_fail r13 st14) fun st18 =>
        some st18
    else
      bV (j_Walk_fail ((7 : Int32)) st2) fun st21 =>
      some st21
  else
    bV (j_Walk_endWell ((0 : Int64)) st2) fun st24 =>
    some st24
set_option maxHeartbeats 4000000 in
set_option maxRecDepth 100000 in
theorem c_Walk_advance (l : Launch) (D : va_G) (A : Nat → Prop) (ad : Nat → Nat) (cA : Nat → ClassId) (tb0 tb1 : Nat) (a1 : Nat) (ha1 : a1 < 10) (st : CwS) (st' : CwS) (h : j_Walk_advance a1 st = some st') : Met l yX6_advance (wv yX6_advance cX6_advance 4 (none)) ({ frames := 5, cells := 0, slots := 0, locals := 142 }) (va_Pc [.ref (ad 176), .ref (ad (179 + 9 * a1))] (cwU D A ad cA tb0 tb1 st)) (cwQv D A ad cA tb0 tb1 st') 0 0 A := by
  refine Met.ofW (cc := cX6_advance) (maxL := 4) (ret := none) (by decide) rfl ?_
  intro p e s m args below meth c s₁ B hml hv
  obtain ⟨rfl, hP, hK⟩ := hv
  have hx := B.exec
  have hb := B.bytes
  have hr := B.returns
  have hts := atoms_spec (ws := wv yX6_advance cX6_advance 4 (none)) B.pre
  have hown : s.vm.findClass RX6 = some m.cls := findClass_of_methodNamed B.named
  have hlocks := B.notSynchronized
  have hO : cwO D A ad cA s st s.heap [] := ⟨hP, va_S.rf⟩
  have hl := lv_entry ([.ref (ad 176), .ref (ad (179 + 9 * a1))]) (n := 4) (Nat.le_of_ble_eq_true rfl)
  rw [lg_entry_eq]
  generalize (lg_sl ([.ref (ad 176), .ref (ad (179 + 9 * a1))]) ++ List.replicate (4 - (lg_sl ([.ref (ad 176), .ref (ad (179 + 9 * a1))])).length) Slot.unset).toArray = ls at hl ⊢
  have hl : lv_has ls 4 [(0, .ref (ad 176)), (1, .ref (ad (179 + 9 * a1)))] := hl
  have _h0 := hO
  have hgw := fun (w : Cond) (h : w ∈ gwW) => hts w (List.mem_cons_of_mem _ h)
  have k17 := hgw _ w_b50feff6
  have k99 := hgw _ w_1602bc2a
  have k105 := hgw _ w_ac4d0234
  have k108 := hgw _ w_9f87e21a
  have k112 := hgw _ w_2808caaf
  have k117 := hgw _ w_4ba90f3d
  unfold j_Walk_advance at h
  refine lv_aload_n hx hb dX6_advance_0 rfl (lv_at hl 1 rfl) ?_
  obtain ⟨r1, st2, h3, h⟩ := bR_some h
  refine cw_calli (va_runV (As := []) (rest := []) ⟨hx, hb, hml, hown, hts⟩ (c_Frame_isAtEnd l D A ad cA tb0 tb1 a1 ha1 st r1 st2 h3) (cwV 0 hts (gw_V w_c68c6a57 w_52c9f7df w_a8a488a5 w_aeeb22ff w_464469b2) rfl rfl rfl (by decide +kernel) ⟨Nat.le_of_ble_eq_true rfl, Nat.le_of_ble_eq_true rfl⟩) (cw_preV (k := 179 + 9 * a1) (ci := 2) hK hO rfl (by have := ha1; omega) (cc_Frame ha1)) rfl rfl hl.1 rfl (lv_room (Nat.le_of_ble_eq_true rfl)) dX6_advance_1 ⟨Nat.zero_le _, Nat.zero_le _⟩) hO (fun H locs hO => ?_)
  refine lv_if_eq (tgt := 13) hx hb dX6_advance_4 (by decide) (fun c4 => ?_) (fun c4 => ?_)
  · have h := ite_t c4 h
    refine lv_aload_n hx hb dX6_advance_13 rfl (lv_at hl 0 rfl) ?_
    refine gf_Walk_counts hx hb hgw iwWalk hown hK hO k17 dX6_advance_14 ?_
    refine lv_iconst (v := 0) hx hb dX6_advance_17 (by decide) ?_
    obtain ⟨hc5, h⟩ := ck_some h
    refine al_Counts hx hb hK hO hc5 dX6_advance_18 ?_
    refine lv_aload_n hx hb dX6_advance_19 rfl (lv_at hl 1 rfl) ?_
    refine gf_Frame_stop hx hb hgw iwFrame hown hK hO ha1 k99 dX6_advance_20 ?_
    refine lv_icmp_lt (tgt := 33) hx hb dX6_advance_23 (by decide) (fun c6 => ?_) (fun c6 => ?_)
    · have h := ite_t c6 h
      refine lv_aload_n hx hb dX6_advance_33 rfl (lv_at hl 0 rfl) ?_
      refine gf_Walk_counts hx hb hgw iwWalk hown hK hO k17 dX6_advance_34 ?_
      refine lv_iconst (v := 0) hx hb dX6_advance_37 (by decide) ?_
      refine lv_dup2_11 hx hb dX6_advance_38 rfl rfl ?_
      obtain ⟨hc7, h⟩ := ck_some h
      refine al_Counts hx hb hK hO hc7 dX6_advance_39 ?_
      refine lv_iconst (v := 1) hx hb dX6_advance_40 (by decide) ?_
      refine lv_iadd hx hb dX6_advance_41 ?_
      obtain ⟨hc8, h⟩ := ck_some h
      refine as_Counts hx hb hK hO hc8 dX6_advance_42 (fun H locs hO => ?_)
      refine lv_aload_n hx hb dX6_advance_43 rfl (lv_at hl 1 rfl) ?_
      refine gf_Frame_next hx hb hgw iwFrame hown hK hO ha1 k105 dX6_advance_44 ?_
      refine lv_istore_n (lv' := [(2, .int (gI (sI st2 7 0 (((0 : Int32)).toNatClampNeg) ((gI st2 7 0 (((0 : Int32)).toNatClampNeg)) + ((1 : Int32)))) 15 a1 0)), (0, .ref (ad 176)), (1, .ref (ad (179 + 9 * a1)))]) hx hb dX6_advance_47 rfl hl (by decide) rfl (fun ls hl => ?_)
      refine lv_aload_n hx hb dX6_advance_48 rfl (lv_at hl 2 rfl) ?_
      refine lv_dup hx hb dX6_advance_49 rfl ?_
      refine gf_Frame_next hx hb hgw iwFrame hown hK hO ha1 k105 dX6_advance_50 ?_
      refine lv_iconst (v := 1) hx hb dX6_advance_53 (by decide) ?_
      refine lv_iadd hx hb dX6_advance_54 ?_
      refine pf_Frame_next hx hb hgw iwFrame hown hK hO ha1 k105 dX6_advance_55 (fun H locs hO => ?_)
      refine lv_aload_n hx hb dX6_advance_58 rfl (lv_at hl 1 rfl) ?_
      refine lv_aload_n hx hb dX6_advance_59 rfl (lv_at hl 2 rfl) ?_
      refine lv_aload_n hx hb dX6_advance_60 rfl (lv_at hl 2 rfl) ?_
      obtain ⟨hc9, h⟩ := ck_some h
      refine gf_Frame_behaviour hx hb hgw iwFrame hown hK hO ha1 k108 dX6_advance_61 ?_
      refine gf_Beh_codes hx hb hgw iwBeh hown hK hO (ck_lt hc9) k112 dX6_advance_64 ?_
      refine lv_iload_n hx hb dX6_advance_67 rfl (lv_at hl 0 rfl) ?_
      obtain ⟨hc10, h⟩ := ck_some h
      refine al_Codes hx hb hK hO (ck_lt hc9) hc10 dX6_advance_68 ?_
      refine lv_aload_n hx hb dX6_advance_69 rfl (lv_at hl 2 rfl) ?_
      obtain ⟨hc11, h⟩ := ck_some h
      refine gf_Frame_behaviour hx hb hgw iwFrame hown hK hO ha1 k108 dX6_advance_70 ?_
      refine gf_Beh_numbers hx hb hgw iwBeh hown hK hO (ck_lt hc11) k117 dX6_advance_73 ?_
      refine lv_iload_n hx hb dX6_advance_76 rfl (lv_at hl 0 rfl) ?_
      obtain ⟨hc12, h⟩ := ck_some h
      refine al_Nums hx hb hK hO (ck_lt hc11) hc12 dX6_advance_77 ?_
      obtain ⟨r13, st14, h15, h⟩ := bR_some h
      refine cw_calli (va_runV (As := [.ref (ad (179 + 9 * a1)), .int (gI (sI (sI st2 7 0 (((0 : Int32)).toNatClampNeg) ((gI st2 7 0 (((0 : Int32)).toNatClampNeg)) + ((1 : Int32)))) 15 a1 0 ((gI (sI st2 7 0 (((0 : Int32)).toNatClampNeg) ((gI st2 7 0 (((0 : Int32)).toNatClampNeg)) + ((1 : Int32)))) 15 a1 0) + ((1 : Int32)))) 0 (gR (sI (sI st2 7 0 (((0 : Int32)).toNatClampNeg) ((gI st2 7 0 (((0 : Int32)).toNatClampNeg)) + ((1 : Int32)))) 15 a1 0 ((gI (sI st2 7 0 (((0 : Int32)).toNatClampNeg) ((gI st2 7 0 (((0 : Int32)).toNatClampNeg)) + ((1 : Int32)))) 15 a1 0) + ((1 : Int32)))) 0 a1) ((gI (sI st2 7 0 (((0 : Int32)).toNatClampNeg) ((gI st2 7 0 (((0 : Int32)).toNatClampNeg)) + ((1 : Int32)))) 15 a1 0).toNatClampNeg)), .int (gI (sI (sI st2 7 0 (((0 : Int32)).toNatClampNeg) ((gI st2 7 0 (((0 : Int32)).toNatClampNeg)) + ((1 : Int32)))) 15 a1 0 ((gI (sI st2 7 0 (((0 : Int32)).toNatClampNeg) ((gI st2 7 0 (((0 : Int32)).toNatClampNeg)) + ((1 : Int32)))) 15 a1 0) + ((1 : Int32)))) 1 (gR (sI (sI st2 7 0 (((0 : Int32)).toNatClampNeg) ((gI st2 7 0 (((0 : Int32)).toNatClampNeg)) + ((1 : Int32)))) 15 a1 0 ((gI (sI st2 7 0 (((0 : Int32)).toNatClampNeg) ((gI st2 7 0 (((0 : Int32)).toNatClampNeg)) + ((1 : Int32)))) 15 a1 0) + ((1 : Int32)))) 0 a1) ((gI (sI st2 7 0 (((0 : Int32)).toNatClampNeg) ((gI st2 7 0 (((0 : Int32)).toNatClampNeg)) + ((1 : Int32)))) 15 a1 0).toNatClampNeg))]) (rest := []) ⟨hx, hb, hml, hown, hts⟩ (c_Walk_perform l D A ad cA tb0 tb1 a1 ha1 (gI (sI (sI st2 7 0 (((0 : Int32)).toNatClampNeg) ((gI st2 7 0 (((0 : Int32)).toNatClampNeg)) + ((1 : Int32)))) 15 a1 0 ((gI (sI st2 7 0 (((0 : Int32)).toNatClampNeg) ((gI st2 7 0 (((0 : Int32)).toNatClampNeg)) + ((1 : Int32)))) 15 a1 0) + ((1 : Int32)))) 0 (gR (sI (sI st2 7 0 (((0 : Int32)).toNatClampNeg) ((gI st2 7 0 (((0 : Int32)).toNatClampNeg)) + ((1 : Int32)))) 15 a1 0 ((gI (sI st2 7 0 (((0 : Int32)).toNatClampNeg) ((gI st2 7 0 (((0 : Int32)).toNatClampNeg)) + ((1 : Int32)))) 15 a1 0) + ((1 : Int32)))) 0 a1) ((gI (sI st2 7 0 (((0 : Int32)).toNatClampNeg) ((gI st2 7 0 (((0 : Int32)).toNatClampNeg)) + ((1 : Int32)))) 15 a1 0).toNatClampNeg)) (gI (sI (sI st2 7 0 (((0 : Int32)).toNatClampNeg) ((gI st2 7 0 (((0 : Int32)).toNatClampNeg)) + ((1 : Int32)))) 15 a1 0 ((gI (sI st2 7 0 (((0 : Int32)).toNatClampNeg) ((gI st2 7 0 (((0 : Int32)).toNatClampNeg)) + ((1 : Int32)))) 15 a1 0) + ((1 : Int32)))) 1 (gR (sI (sI st2 7 0 (((0 : Int32)).toNatClampNeg) ((gI st2 7 0 (((0 : Int32)).toNatClampNeg)) + ((1 : Int32)))) 15 a1 0 ((gI (sI st2 7 0 (((0 : Int32)).toNatClampNeg) ((gI st2 7 0 (((0 : Int32)).toNatClampNeg)) + ((1 : Int32)))) 15 a1 0) + ((1 : Int32)))) 0 a1) ((gI (sI st2 7 0 (((0 : Int32)).toNatClampNeg) ((gI st2 7 0 (((0 : Int32)).toNatClampNeg)) + ((1 : Int32)))) 15 a1 0).toNatClampNeg)) (sI (sI st2 7 0 (((0 : Int32)).toNatClampNeg) ((gI st2 7 0 (((0 : Int32)).toNatClampNeg)) + ((1 : Int32)))) 15 a1 0 ((gI (sI st2 7 0 (((0 : Int32)).toNatClampNeg) ((gI st2 7 0 (((0 : Int32)).toNatClampNeg)) + ((1 : Int32)))) 15 a1 0) + ((1 : Int32)))) r13 st14 h15) (cwV 3 hts (gw_V w_1f0e3b8d w_2e16982e w_a502de03 w_f8f5642f w_2b51fd84) rfl rfl rfl (by decide +kernel) ⟨Nat.le_of_ble_eq_true rfl, Nat.le_of_ble_eq_true rfl⟩) (cw_preV (k := 176) (ci := 6) hK hO rfl (by decide) (cc_Walk)) rfl rfl hl.1 rfl (lv_room (Nat.le_of_ble_eq_true rfl)) dX6_advance_78 ⟨Nat.zero_le _, Nat.zero_le _⟩) hO (fun H locs hO => ?_)
      refine lv_istore_n (lv' := [(3, .int r13), (2, .int (gI (sI st2 7 0 (((0 : Int32)).toNatClampNeg) ((gI st2 7 0 (((0 : Int32)).toNatClampNeg)) + ((1 : Int32)))) 15 a1 0)), (0, .ref (ad 176)), (1, .ref (ad (179 + 9 * a1)))]) hx hb dX6_advance_81 rfl hl (by decide) rfl (fun ls hl => ?_)
      refine lv_iload_n hx hb dX6_advance_82 rfl (lv_at hl 0 rfl) ?_
      refine lv_if_eq (tgt := 91) hx hb dX6_advance_83 (by decide) (fun c16 => ?_) (fun c16 => ?_)
      · have h := ite_t c16 h
        cases h; exact cw_vret hx hb hr hlocks hO dX6_advance_91
      · have h := ite_f c16 h
        refine lv_aload_n hx hb dX6_advance_86 rfl (lv_at hl 2 rfl) ?_
        refine lv_iload_n hx hb dX6_advance_87 rfl (lv_at hl 0 rfl) ?_
        obtain ⟨st18, h19, h⟩ := bV_some h
        refine cw_callv (va_runV (As := [.int r13]) (rest := []) ⟨hx, hb, hml, hown, hts⟩ (c_Walk_fail l D A ad cA tb0 tb1 r13 st14 st18 h19) (cwV 1 hts (gw_V w_3dcd3af6 w_436503bb w_f99d3967 w_f8f5642f w_097b7644) rfl rfl rfl (by decide +kernel) ⟨Nat.le_of_ble_eq_true rfl, Nat.le_of_ble_eq_true rfl⟩) (cw_preV (k := 176) (ci := 6) hK hO rfl (by decide) (cc_Walk)) rfl rfl hl.1 rfl (lv_room (Nat.le_of_ble_eq_true rfl)) dX6_advance_88 ⟨Nat.zero_le _, Nat.zero_le _⟩) hO (fun H locs hO => ?_)
        cases h; exact cw_vret hx hb hr hlocks hO dX6_advance_91
    · have h := ite_f c6 h
      refine lv_aload_n hx hb dX6_advance_26 rfl (lv_at hl 0 rfl) ?_
      refine lv_bipush (v := 7) hx hb dX6_advance_27 (by decide) ?_
      obtain ⟨st21, h22, h⟩ := bV_some h
      refine cw_callv (va_runV (As := [.int ((7 : Int32))]) (rest := []) ⟨hx, hb, hml, hown, hts⟩ (c_Walk_fail l D A ad cA tb0 tb1 ((7 : Int32)) st2 st21 h22) (cwV 1 hts (gw_V w_3dcd3af6 w_436503bb w_f99d3967 w_f8f5642f w_097b7644) rfl rfl rfl (by decide +kernel) ⟨Nat.le_of_ble_eq_true rfl, Nat.le_of_ble_eq_true rfl⟩) (cw_preV (k := 176) (ci := 6) hK hO rfl (by decide) (cc_Walk)) rfl rfl hl.1 rfl (lv_room (Nat.le_of_ble_eq_true rfl)) dX6_advance_29 ⟨Nat.zero_le _, Nat.zero_le _⟩) hO (fun H locs hO => ?_)
      cases h; exact cw_vret hx hb hr hlocks hO dX6_advance_32
  · have h := ite_f c4 h
    refine lv_aload_n hx hb dX6_advance_7 rfl (lv_at hl 0 rfl) ?_
    refine lv_lconst (v := 0) hx hb dX6_advance_8 (by decide) ?_
    obtain ⟨st24, h25, h⟩ := bV_some h
    refine cw_callv (va_runV (As := [.long ((0 : Int64))]) (rest := []) ⟨hx, hb, hml, hown, hts⟩ (c_Walk_endWell l D A ad cA tb0 tb1 ((0 : Int64)) st2 st24 h25) (cwV 1 hts (gw_V w_38165e87 w_d970e0b9 w_f7c4a27b w_f8f5642f w_1b9bef71) rfl rfl rfl (by decide +kernel) ⟨Nat.le_of_ble_eq_true rfl, Nat.le_of_ble_eq_true rfl⟩) (cw_preV (k := 176) (ci := 6) hK hO rfl (by decide) (cc_Walk)) rfl rfl hl.1 rfl (lv_room (Nat.le_of_ble_eq_true rfl)) dX6_advance_9 ⟨Nat.zero_le _, Nat.zero_le _⟩) hO (fun H locs hO => ?_)
    cases h; exact cw_vret hx hb hr hlocks hO dX6_advance_12
-- Walk go
def j_Walk_go_L78 : Nat → Int32 → Int32 → Int64 → Int32 → Nat → Int32 → CwS → Option (Int32 × CwS)
  | 0, _, _, _, _, _, _, _ => none
  | n + 1, x1, x2, x3, x5, x6, x7, st =>
    if ((1000000 : Int32)) ≤ x7 then
      some (gI st 9 0 0, st)
    else
      if (gI st 8 0 0) ≤ ((0 : Int32)) then
        some (gI st 9 0 0, st)
      else
        ck (ix ((gI st 8 0 0) - ((1 : Int32))) 10) <|
        bV (j_Walk_advance (((gI st 8 0 0) - ((1 : Int32))).toNatClampNeg) st) fun st17 =>
        j_Walk_go_L78 n x1 x2 x3 x5 x6 (x7 + (1 : Int32)) st17
def j_Walk_go_L3 : Nat → Int32 → Int32 → Int64 → Int32 → Int32 → CwS → Option (Int32 × CwS)
  | 0, _, _, _, _, _, _ => none
  | n + 1, x1, x2, x3, x5, x6, st =>
    if ((5 : Int32)) ≤ x6 then
      bR (j_Book_find x1 x2 (sL (sI (sI (sI st 5 0 0 ((0 : Int32))) 8 0 0 ((0 : Int32))) 9 0 0 ((0 : Int32))) 5 0 0 ((0 : Int64)))) fun r2 st3 =>
      ck (decide (r2 < 48)) <|
      bR (j_Walk_open r2 x1 ((-1 : Int32)) x5 st3) fun r6 st7 =>
      ck (decide (r6 < 10)) <|
      bR (j_Pile_putNumber r6 x3 st7) fun r10 st11 =>
      j_Walk_go_L78 1000001 x1 x2 x3 x5 r6 ((0 : Int32)) st11
    else
      ck (ix x6 5) <|
      j_Walk_go_L3 n x1 x2 x3 x5 (x6 + (1 : Int32)) (sI st 7 0 x6.toNatClampNeg ((0 : Int32)))
def j_Walk_go (a1 : Int32) (a2 : Int32) (a3 : Int64) (a5 : Int32) (st : CwS) : Option (Int32 × CwS) :=
  j_Walk_go_L3 1000001 a1 a2 a3 a5 ((0 : Int32)) st
set_option maxHeartbeats 4000000 in
set_option maxRecDepth 100000 in
theorem c_Walk_go_L78 {l : Launch} {D : va_G} {A : Nat → Prop} {ad : Nat → Nat} {cA : Nat → ClassId} {tb0 tb1 : Nat} {p : Program} {e : Env} {s : State} {m : MethodId} {args : Array Value} {below : List Frame} {meth : Method} {c : Code} (S : CallFix p m c cX6_go 8 s args (wv yX6_go cX6_go 8 (some .int)) RX6) (hr : meth.sig.returnType = some .int) (hlocks : meth.locks = false) (hK : cwK D A ad cA tb0 tb1 s) (r : Int32) (st' : CwS) : ∀ (n : Nat) (x1 : Int32) (x2 : Int32) (x3 : Int64) (x5 : Int32) (x6 : Nat) (hx6 : x6 < 10) (x7 : Int32) (st : CwS) (H : Heap) (locs : List Loc) (ls : Array Slot), j_Walk_go_L78 n x1 x2 x3 x5 x6 x7 st = some (r, st') → cwO D A ad cA s st H locs → lv_has ls 8 [(0, .ref (ad 176)), (1, .int x1), (2, .int x2), (3, .long x3), (5, .int x5), (6, .ref (ad (179 + 9 * x6))), (7, .int x7)] → W p l e ({ frames := 6, cells := 0, slots := 0, locals := 165 }) s m args below meth c H locs 0 0 (MQ below (cwQi D A ad cA tb0 tb1 r st') args s 0 0 A) (F0 m 78 ls []) := by
  obtain ⟨hx, hb, hml, hown, hts⟩ := S
  have hgw := fun (w : Cond) (h : w ∈ gwW) => hts w (List.mem_cons_of_mem _ h)
  have k11 := hgw _ w_4a27d2bd
  have k17 := hgw _ w_b50feff6
  have k21 := hgw _ w_b62a6067
  have k25 := hgw _ w_166650d6
  have k28 := hgw _ w_0e7c3207
  have k32 := hgw _ w_6dd6e69a
  have k36 := hgw _ w_4f54f888
  have k49 := hgw _ w_3ff1e1a5
  have k62 := hgw _ w_115d9ac3
  have k72 := hgw _ w_c42e965e
  intro n
  induction n with
  | zero =>
    intro x1 x2 x3 x5 x6 hx6 x7 st H locs ls h hO hl
    cases h
  | succ n ih =>
    intro x1 x2 x3 x5 x6 hx6 x7 st H locs ls h hO hl
    unfold j_Walk_go_L78 at h
    refine lv_iload hx hb dX6_go_78 (lv_at hl 6 rfl) ?_
    refine lv_ldc hx hb hown k72 dX6_go_80 ?_
    refine lv_icmp_ge (tgt := 113) hx hb dX6_go_82 (by decide) (fun c13 => ?_) (fun c13 => ?_)
    · have h := ite_t c13 h
      refine lv_aload_n hx hb dX6_go_113 rfl (lv_at hl 0 rfl) ?_
      refine gf_Walk_answer hx hb hgw iwWalk hown hK hO k25 dX6_go_114 ?_
      obtain ⟨rfl, rfl⟩ := ret2 h; exact cw_iret hx hb hr hlocks hO dX6_go_117
    · have h := ite_f c13 h
      refine lv_aload_n hx hb dX6_go_85 rfl (lv_at hl 0 rfl) ?_
      refine gf_Walk_depth hx hb hgw iwWalk hown hK hO k21 dX6_go_86 ?_
      refine lv_if_le (tgt := 113) hx hb dX6_go_89 (by decide) (fun c14 => ?_) (fun c14 => ?_)
      · have h := ite_t c14 h
        refine lv_aload_n hx hb dX6_go_113 rfl (lv_at hl 0 rfl) ?_
        refine gf_Walk_answer hx hb hgw iwWalk hown hK hO k25 dX6_go_114 ?_
        obtain ⟨rfl, rfl⟩ := ret2 h; exact cw_iret hx hb hr hlocks hO dX6_go_117
      · have h := ite_f c14 h
        refine lv_aload_n hx hb dX6_go_92 rfl (lv_at hl 0 rfl) ?_
        refine lv_aload_n hx hb dX6_go_93 rfl (lv_at hl 0 rfl) ?_
        refine gf_Walk_frames hx hb hgw iwWalk hown hK hO k11 dX6_go_94 ?_
        refine lv_aload_n hx hb dX6_go_97 rfl (lv_at hl 0 rfl) ?_
        refine gf_Walk_depth hx hb hgw iwWalk hown hK hO k21 dX6_go_98 ?_
        refine lv_iconst (v := 1) hx hb dX6_go_101 (by decide) ?_
        refine lv_isub hx hb dX6_go_102 ?_
        obtain ⟨hc15, h⟩ := ck_some h
        refine al_FrArr hx hb hK hO hc15 dX6_go_103 ?_
        obtain ⟨st17, h18, h⟩ := bV_some h
        refine cw_callv (va_runV (As := [.ref (ad (179 + 9 * ((gI st 8 0 0) - ((1 : Int32))).toNatClampNeg))]) (rest := []) ⟨hx, hb, hml, hown, hts⟩ (c_Walk_advance l D A ad cA tb0 tb1 (((gI st 8 0 0) - ((1 : Int32))).toNatClampNeg) (ix_lt hc15) st st17 h18) (cwV 1 hts (gw_V w_714fe44f w_580654f0 w_94a297f8 w_f8f5642f w_5a2878fc) rfl rfl rfl (by decide +kernel) ⟨Nat.le_of_ble_eq_true rfl, Nat.le_of_ble_eq_true rfl⟩) (cw_preV (k := 176) (ci := 6) hK hO rfl (by decide) (cc_Walk)) rfl rfl hl.1 rfl (lv_room (Nat.le_of_ble_eq_true rfl)) dX6_go_104 ⟨Nat.zero_le _, Nat.zero_le _⟩) hO (fun H locs hO => ?_)
        refine lv_iinc (v := x7 + (1 : Int32)) (lv' := [(7, .int (x7 + (1 : Int32))), (0, .ref (ad 176)), (1, .int x1), (2, .int x2), (3, .long x3), (5, .int x5), (6, .ref (ad (179 + 9 * x6)))]) hx hb dX6_go_107 hl (k := 6) rfl rfl (by decide) rfl (fun ls hl => ?_)
        refine lv_goto (tgt := 78) hx hb dX6_go_110 (by decide) ?_
        exact ih x1 x2 x3 x5 x6 hx6 (x7 + (1 : Int32)) _ _ _ _ h hO (lv_sub hl [1, 2, 3, 4, 5, 6, 0] rfl)
set_option maxHeartbeats 4000000 in
set_option maxRecDepth 100000 in
theorem c_Walk_go_L3 {l : Launch} {D : va_G} {A : Nat → Prop} {ad : Nat → Nat} {cA : Nat → ClassId} {tb0 tb1 : Nat} {p : Program} {e : Env} {s : State} {m : MethodId} {args : Array Value} {below : List Frame} {meth : Method} {c : Code} (S : CallFix p m c cX6_go 8 s args (wv yX6_go cX6_go 8 (some .int)) RX6) (hr : meth.sig.returnType = some .int) (hlocks : meth.locks = false) (hK : cwK D A ad cA tb0 tb1 s) (r : Int32) (st' : CwS) : ∀ (n : Nat) (x1 : Int32) (x2 : Int32) (x3 : Int64) (x5 : Int32) (x6 : Int32) (st : CwS) (H : Heap) (locs : List Loc) (ls : Array Slot), j_Walk_go_L3 n x1 x2 x3 x5 x6 st = some (r, st') → cwO D A ad cA s st H locs → lv_has ls 8 [(0, .ref (ad 176)), (1, .int x1), (2, .int x2), (3, .long x3), (5, .int x5), (6, .int x6)] → W p l e ({ frames := 6, cells := 0, slots := 0, locals := 165 }) s m args below meth c H locs 0 0 (MQ below (cwQi D A ad cA tb0 tb1 r st') args s 0 0 A) (F0 m 3 ls []) := by
  obtain ⟨hx, hb, hml, hown, hts⟩ := S
  have hgw := fun (w : Cond) (h : w ∈ gwW) => hts w (List.mem_cons_of_mem _ h)
  have k11 := hgw _ w_4a27d2bd
  have k17 := hgw _ w_b50feff6
  have k21 := hgw _ w_b62a6067
  have k25 := hgw _ w_166650d6
  have k28 := hgw _ w_0e7c3207
  have k32 := hgw _ w_6dd6e69a
  have k36 := hgw _ w_4f54f888
  have k49 := hgw _ w_3ff1e1a5
  have k62 := hgw _ w_115d9ac3
  have k72 := hgw _ w_c42e965e
  intro n
  induction n with
  | zero =>
    intro x1 x2 x3 x5 x6 st H locs ls h hO hl
    cases h
  | succ n ih =>
    intro x1 x2 x3 x5 x6 st H locs ls h hO hl
    unfold j_Walk_go_L3 at h
    refine lv_iload hx hb dX6_go_3 (lv_at hl 5 rfl) ?_
    refine lv_iconst (v := 5) hx hb dX6_go_5 (by decide) ?_
    refine lv_icmp_ge (tgt := 23) hx hb dX6_go_6 (by decide) (fun c1 => ?_) (fun c1 => ?_)
    · have h := ite_t c1 h
      refine lv_aload_n hx hb dX6_go_23 rfl (lv_at hl 0 rfl) ?_
      refine gf_Walk_ledger hx hb hgw iwWalk hown hK hO k36 dX6_go_24 ?_
      refine lv_iconst (v := 0) hx hb dX6_go_27 (by decide) ?_
      refine pf_Ledger_eventCount hx hb hgw iwLedger hown hK hO k49 dX6_go_28 (fun H locs hO => ?_)
      refine lv_aload_n hx hb dX6_go_31 rfl (lv_at hl 0 rfl) ?_
      refine lv_iconst (v := 0) hx hb dX6_go_32 (by decide) ?_
      refine pf_Walk_depth hx hb hgw iwWalk hown hK hO k21 dX6_go_33 (fun H locs hO => ?_)
      refine lv_aload_n hx hb dX6_go_36 rfl (lv_at hl 0 rfl) ?_
      refine lv_iconst (v := 0) hx hb dX6_go_37 (by decide) ?_
      refine pf_Walk_answer hx hb hgw iwWalk hown hK hO k25 dX6_go_38 (fun H locs hO => ?_)
      refine lv_aload_n hx hb dX6_go_41 rfl (lv_at hl 0 rfl) ?_
      refine lv_lconst (v := 0) hx hb dX6_go_42 (by decide) ?_
      refine pf_Walk_result hx hb hgw iwWalk hown hK hO k28 dX6_go_43 (fun H locs hO => ?_)
      refine lv_aload_n hx hb dX6_go_46 rfl (lv_at hl 0 rfl) ?_
      refine lv_aload_n hx hb dX6_go_47 rfl (lv_at hl 0 rfl) ?_
      refine gf_Walk_book hx hb hgw iwWalk hown hK hO k32 dX6_go_48 ?_
      refine lv_iload_n hx hb dX6_go_51 rfl (lv_at hl 1 rfl) ?_
      refine lv_iload_n hx hb dX6_go_52 rfl (lv_at hl 2 rfl) ?_
      obtain ⟨r2, st3, h4, h⟩ := bR_some h
      obtain ⟨hc5, h⟩ := ck_some h
      refine cw_callr (va_runV (As := [.int x1, .int x2]) (rest := [.ref (ad 176)]) ⟨hx, hb, hml, hown, hts⟩ (c_Book_find l D A ad cA tb0 tb1 x1 x2 (sL (sI (sI (sI st 5 0 0 ((0 : Int32))) 8 0 0 ((0 : Int32))) 9 0 0 ((0 : Int32))) 5 0 0 ((0 : Int64))) r2 st3 h4) (cwV 2 hts (gw_V w_f637e4e7 w_e1327d62 w_a3354a1d w_df4c496e w_9a4e77f1) rfl rfl rfl (by decide +kernel) ⟨Nat.le_of_ble_eq_true rfl, Nat.le_of_ble_eq_true rfl⟩) (cw_preV (k := 1) (ci := 1) hK hO rfl (by decide) (cc_Book)) rfl rfl hl.1 rfl (lv_room (Nat.le_of_ble_eq_true rfl)) dX6_go_53 ⟨Nat.zero_le _, Nat.zero_le _⟩) hO (fun H locs hO => ?_)
      refine lv_iload_n hx hb dX6_go_56 rfl (lv_at hl 1 rfl) ?_
      refine lv_iconst (v := -1) hx hb dX6_go_57 (by decide) ?_
      refine lv_iload hx hb dX6_go_58 (lv_at hl 4 rfl) ?_
      obtain ⟨r6, st7, h8, h⟩ := bR_some h
      obtain ⟨hc9, h⟩ := ck_some h
      refine cw_callr (va_runV (As := [.ref (ad (4 + 3 * r2)), .int x1, .int ((-1 : Int32)), .int x5]) (rest := []) ⟨hx, hb, hml, hown, hts⟩ (c_Walk_open l D A ad cA tb0 tb1 r2 (ck_lt hc5) x1 ((-1 : Int32)) x5 st3 r6 st7 h8) (cwV 4 hts (gw_V w_5cb88b1c w_50db3de5 w_c63fa8c6 w_f8f5642f w_18b9acd0) rfl rfl rfl (by decide +kernel) ⟨Nat.le_of_ble_eq_true rfl, Nat.le_of_ble_eq_true rfl⟩) (cw_preV (k := 176) (ci := 6) hK hO rfl (by decide) (cc_Walk)) rfl rfl hl.1 rfl (lv_room (Nat.le_of_ble_eq_true rfl)) dX6_go_60 ⟨Nat.zero_le _, Nat.zero_le _⟩) hO (fun H locs hO => ?_)
      refine lv_astore (lv' := [(6, .ref (ad (179 + 9 * r6))), (0, .ref (ad 176)), (1, .int x1), (2, .int x2), (3, .long x3), (5, .int x5)]) hx hb dX6_go_63 hl (by decide) rfl (fun ls hl => ?_)
      refine lv_aload hx hb dX6_go_65 (lv_at hl 0 rfl) ?_
      refine gf_Frame_pile hx hb hgw iwFrame hown hK hO (ck_lt hc9) k62 dX6_go_67 ?_
      refine lv_lload_n hx hb dX6_go_70 rfl (lv_at hl 4 rfl) ?_
      obtain ⟨r10, st11, h12, h⟩ := bR_some h
      refine cw_calli (va_runV (As := [.long x3]) (rest := []) ⟨hx, hb, hml, hown, hts⟩ (c_Pile_putNumber l D A ad cA tb0 tb1 r6 (ck_lt hc9) x3 st7 r10 st11 h12) (cwV 1 hts (gw_V w_8fddbe94 w_34c9ad22 w_9e5e849e w_76c797a4 w_03086df0) rfl rfl rfl (by decide +kernel) ⟨Nat.le_of_ble_eq_true rfl, Nat.le_of_ble_eq_true rfl⟩) (cw_preV (k := 182 + 9 * r6) (ci := 4) hK hO rfl (by have := (ck_lt hc9); omega) (cc_Pile (ck_lt hc9))) rfl rfl hl.1 rfl (lv_room (Nat.le_of_ble_eq_true rfl)) dX6_go_71 ⟨Nat.zero_le _, Nat.zero_le _⟩) hO (fun H locs hO => ?_)
      refine lv_pop hx hb dX6_go_74 rfl ?_
      refine lv_iconst (v := 0) hx hb dX6_go_75 (by decide) ?_
      refine lv_istore (lv' := [(7, .int ((0 : Int32))), (6, .ref (ad (179 + 9 * r6))), (0, .ref (ad 176)), (1, .int x1), (2, .int x2), (3, .long x3), (5, .int x5)]) hx hb dX6_go_76 hl (by decide) rfl (fun ls hl => ?_)
      exact c_Walk_go_L78 ⟨hx, hb, hml, hown, hts⟩ hr hlocks hK r st' 1000001 x1 x2 x3 x5 r6 (ck_lt hc9) ((0 : Int32)) _ _ _ _ h hO (lv_sub hl [2, 3, 4, 5, 6, 1, 0] rfl)
    · have h := ite_f c1 h
      refine lv_aload_n hx hb dX6_go_9 rfl (lv_at hl 0 rfl) ?_
      refine gf_Walk_counts hx hb hgw iwWalk hown hK hO k17 dX6_go_10 ?_
      refine lv_iload hx hb dX6_go_13 (lv_at hl 5 rfl) ?_
      refine lv_iconst (v := 0) hx hb dX6_go_15 (by decide) ?_
      obtain ⟨hc19, h⟩ := ck_some h
      refine as_Counts hx hb hK hO hc19 dX6_go_16 (fun H locs hO => ?_)
      refine lv_iinc (v := x6 + (1 : Int32)) (lv' := [(6, .int (x6 + (1 : Int32))), (0, .ref (ad 176)), (1, .int x1), (2, .int x2), (3, .long x3), (5, .int x5)]) hx hb dX6_go_17 hl (k := 5) rfl rfl (by decide) rfl (fun ls hl => ?_)
      refine lv_goto (tgt := 3) hx hb dX6_go_20 (by decide) ?_
      exact ih x1 x2 x3 x5 (x6 + (1 : Int32)) _ _ _ _ h hO (lv_sub hl [1, 2, 3, 4, 5, 0] rfl)
set_option maxHeartbeats 4000000 in
set_option maxRecDepth 100000 in
theorem c_Walk_go (l : Launch) (D : va_G) (A : Nat → Prop) (ad : Nat → Nat) (cA : Nat → ClassId) (tb0 tb1 : Nat) (a1 : Int32) (a2 : Int32) (a3 : Int64) (a5 : Int32) (st : CwS) (r : Int32) (st' : CwS) (h : j_Walk_go a1 a2 a3 a5 st = some (r, st')) : Met l yX6_go (wv yX6_go cX6_go 8 (some .int)) ({ frames := 6, cells := 0, slots := 0, locals := 165 }) (va_Pc [.ref (ad 176), .int a1, .int a2, .long a3, .int a5] (cwU D A ad cA tb0 tb1 st)) (cwQi D A ad cA tb0 tb1 r st') 0 0 A := by
  refine Met.ofW (cc := cX6_go) (maxL := 8) (ret := some .int) (by decide) rfl ?_
  intro p e s m args below meth c s₁ B hml hv
  obtain ⟨rfl, hP, hK⟩ := hv
  have hx := B.exec
  have hb := B.bytes
  have hr := B.returns
  have hts := atoms_spec (ws := wv yX6_go cX6_go 8 (some .int)) B.pre
  have hown : s.vm.findClass RX6 = some m.cls := findClass_of_methodNamed B.named
  have hlocks := B.notSynchronized
  have hO : cwO D A ad cA s st s.heap [] := ⟨hP, va_S.rf⟩
  have hl := lv_entry ([.ref (ad 176), .int a1, .int a2, .long a3, .int a5]) (n := 8) (Nat.le_of_ble_eq_true rfl)
  rw [lg_entry_eq]
  generalize (lg_sl ([.ref (ad 176), .int a1, .int a2, .long a3, .int a5]) ++ List.replicate (8 - (lg_sl ([.ref (ad 176), .int a1, .int a2, .long a3, .int a5])).length) Slot.unset).toArray = ls at hl ⊢
  have hl : lv_has ls 8 [(0, .ref (ad 176)), (1, .int a1), (2, .int a2), (3, .long a3), (5, .int a5)] := hl
  have _h0 := hO
  have hgw := fun (w : Cond) (h : w ∈ gwW) => hts w (List.mem_cons_of_mem _ h)
  have k11 := hgw _ w_4a27d2bd
  have k17 := hgw _ w_b50feff6
  have k21 := hgw _ w_b62a6067
  have k25 := hgw _ w_166650d6
  have k28 := hgw _ w_0e7c3207
  have k32 := hgw _ w_6dd6e69a
  have k36 := hgw _ w_4f54f888
  have k49 := hgw _ w_3ff1e1a5
  have k62 := hgw _ w_115d9ac3
  have k72 := hgw _ w_c42e965e
  unfold j_Walk_go at h
  refine lv_iconst (v := 0) hx hb dX6_go_0 (by decide) ?_
  refine lv_istore (lv' := [(6, .int ((0 : Int32))), (0, .ref (ad 176)), (1, .int a1), (2, .int a2), (3, .long a3), (5, .int a5)]) hx hb dX6_go_1 hl (by decide) rfl (fun ls hl => ?_)
  exact c_Walk_go_L3 ⟨hx, hb, hml, hown, hts⟩ hr hlocks hK r st' 1000001 a1 a2 a3 a5 ((0 : Int32)) _ _ _ _ h hO (lv_sub hl [1, 2, 3, 4, 5, 0] rfl)
end
section
-- CW step
def j_CW_step (a1 : Int32) (a2 : Int32) (a3 : Int32) (a4 : Int32) (st : CwS) : Option (Int32 × CwS) :=
  bR (j_CW_isBehaviour a1 a2 st) fun r1 st2 =>
  if r1 = ((0 : Int32)) then
    some ((-1 : Int32), st2)
  else
    bR (j_Book_find a1 a2 st2) fun r5 st6 =>
    ck (decide (r5 < 48)) <|
    bR (j_Beh_append r5 a3 a4 st6) fun r9 st10 =>
    if r9 = ((0 : Int32)) then
      some ((-2 : Int32), st10)
    else
      some (gI st10 2 r5 0, st10)
set_option maxHeartbeats 4000000 in
set_option maxRecDepth 100000 in
theorem c_CW_step (l : Launch) (D : va_G) (A : Nat → Prop) (ad : Nat → Nat) (cA : Nat → ClassId) (tb0 tb1 : Nat) (a1 : Int32) (a2 : Int32) (a3 : Int32) (a4 : Int32) (st : CwS) (r : Int32) (st' : CwS) (h : j_CW_step a1 a2 a3 a4 st = some (r, st')) : Met l yX7_step (wv yX7_step cX7_step 6 (some .int)) ({ frames := 2, cells := 0, slots := 0, locals := 41 }) (va_Pc [.ref (ad 0), .int a1, .int a2, .int a3, .int a4] (cwU D A ad cA tb0 tb1 st)) (cwQi D A ad cA tb0 tb1 r st') 0 0 A := by
  refine Met.ofW (cc := cX7_step) (maxL := 6) (ret := some .int) (by decide) rfl ?_
  intro p e s m args below meth c s₁ B hml hv
  obtain ⟨rfl, hP, hK⟩ := hv
  have hx := B.exec
  have hb := B.bytes
  have hr := B.returns
  have hts := atoms_spec (ws := wv yX7_step cX7_step 6 (some .int)) B.pre
  have hown : s.vm.findClass RX7 = some m.cls := findClass_of_methodNamed B.named
  have hlocks := B.notSynchronized
  have hO : cwO D A ad cA s st s.heap [] := ⟨hP, va_S.rf⟩
  have hl := lv_entry ([.ref (ad 0), .int a1, .int a2, .int a3, .int a4]) (n := 6) (Nat.le_of_ble_eq_true rfl)
  rw [lg_entry_eq]
  generalize (lg_sl ([.ref (ad 0), .int a1, .int a2, .int a3, .int a4]) ++ List.replicate (6 - (lg_sl ([.ref (ad 0), .int a1, .int a2, .int a3, .int a4])).length) Slot.unset).toArray = ls at hl ⊢
  have hl : lv_has ls 6 [(0, .ref (ad 0)), (1, .int a1), (2, .int a2), (3, .int a3), (4, .int a4)] := hl
  have _h0 := hO
  have hgw := fun (w : Cond) (h : w ∈ gwW) => hts w (List.mem_cons_of_mem _ h)
  have k10 := hgw _ w_7a3df1ba
  have k45 := hgw _ w_6e1eea5f
  unfold j_CW_step at h
  refine lv_iload_n hx hb dX7_step_0 rfl (lv_at hl 1 rfl) ?_
  refine lv_iload_n hx hb dX7_step_1 rfl (lv_at hl 2 rfl) ?_
  obtain ⟨r1, st2, h3, h⟩ := bR_some h
  refine cw_calli (va_runS (As := [.int a1, .int a2]) (rest := []) ⟨hx, hb, hml, hown, hts⟩ (c_CW_isBehaviour l D A ad cA tb0 tb1 a1 a2 st r1 st2 h3) (va_cwS 2 hts (gw_S w_f22a5178 w_03540a48 w_0fc29077 w_f9d22def) rfl rfl rfl (by decide +kernel) ⟨Nat.le_of_ble_eq_true rfl, Nat.le_of_ble_eq_true rfl⟩) (cw_preS hK hO) rfl rfl hl.1 rfl (lv_room (Nat.le_of_ble_eq_true rfl)) dX7_step_2 ⟨Nat.zero_le _, Nat.zero_le _⟩) hO (fun H locs hO => ?_)
  refine lv_if_ne (tgt := 10) hx hb dX7_step_5 (by decide) (fun c4 => ?_) (fun c4 => ?_)
  · have h := ite_f c4 h
    refine lv_aload_n hx hb dX7_step_10 rfl (lv_at hl 0 rfl) ?_
    refine gf_CW_book hx hb hgw iwCW hown hK hO k10 dX7_step_11 ?_
    refine lv_iload_n hx hb dX7_step_14 rfl (lv_at hl 1 rfl) ?_
    refine lv_iload_n hx hb dX7_step_15 rfl (lv_at hl 2 rfl) ?_
    obtain ⟨r5, st6, h7, h⟩ := bR_some h
    obtain ⟨hc8, h⟩ := ck_some h
    refine cw_callr (va_runV (As := [.int a1, .int a2]) (rest := []) ⟨hx, hb, hml, hown, hts⟩ (c_Book_find l D A ad cA tb0 tb1 a1 a2 st2 r5 st6 h7) (cwV 2 hts (gw_V w_11d46912 w_e1327d62 w_a3354a1d w_df4c496e w_9a4e77f1) rfl rfl rfl (by decide +kernel) ⟨Nat.le_of_ble_eq_true rfl, Nat.le_of_ble_eq_true rfl⟩) (cw_preV (k := 1) (ci := 1) hK hO rfl (by decide) (cc_Book)) rfl rfl hl.1 rfl (lv_room (Nat.le_of_ble_eq_true rfl)) dX7_step_16 ⟨Nat.zero_le _, Nat.zero_le _⟩) hO (fun H locs hO => ?_)
    refine lv_astore (lv' := [(5, .ref (ad (4 + 3 * r5))), (0, .ref (ad 0)), (1, .int a1), (2, .int a2), (3, .int a3), (4, .int a4)]) hx hb dX7_step_19 hl (by decide) rfl (fun ls hl => ?_)
    refine lv_aload hx hb dX7_step_21 (lv_at hl 0 rfl) ?_
    refine lv_iload_n hx hb dX7_step_23 rfl (lv_at hl 4 rfl) ?_
    refine lv_iload hx hb dX7_step_24 (lv_at hl 5 rfl) ?_
    obtain ⟨r9, st10, h11, h⟩ := bR_some h
    refine cw_calli (va_runV (As := [.int a3, .int a4]) (rest := []) ⟨hx, hb, hml, hown, hts⟩ (c_Beh_append l D A ad cA tb0 tb1 r5 (ck_lt hc8) a3 a4 st6 r9 st10 h11) (cwV 2 hts (gw_V w_d483e19d w_42df5868 w_75107e93 w_644e7304 w_5b168648) rfl rfl rfl (by decide +kernel) ⟨Nat.le_of_ble_eq_true rfl, Nat.le_of_ble_eq_true rfl⟩) (cw_preV (k := 4 + 3 * r5) (ci := 0) hK hO rfl (by have := (ck_lt hc8); omega) (cc_Beh (ck_lt hc8))) rfl rfl hl.1 rfl (lv_room (Nat.le_of_ble_eq_true rfl)) dX7_step_26 ⟨Nat.zero_le _, Nat.zero_le _⟩) hO (fun H locs hO => ?_)
    refine lv_if_eq (tgt := 40) hx hb dX7_step_29 (by decide) (fun c12 => ?_) (fun c12 => ?_)
    · have h := ite_t c12 h
      refine lv_bipush (v := -2) hx hb dX7_step_40 (by decide) ?_
      obtain ⟨rfl, rfl⟩ := ret2 h; exact cw_iret hx hb hr hlocks hO dX7_step_42
    · have h := ite_f c12 h
      refine lv_aload hx hb dX7_step_32 (lv_at hl 0 rfl) ?_
      refine gf_Beh_count hx hb hgw iwBeh hown hK hO (ck_lt hc8) k45 dX7_step_34 ?_
      refine lv_goto (tgt := 42) hx hb dX7_step_37 (by decide) ?_
      obtain ⟨rfl, rfl⟩ := ret2 h; exact cw_iret hx hb hr hlocks hO dX7_step_42
  · have h := ite_t c4 h
    refine lv_iconst (v := -1) hx hb dX7_step_8 (by decide) ?_
    obtain ⟨rfl, rfl⟩ := ret2 h; exact cw_iret hx hb hr hlocks hO dX7_step_9
-- CW empty
def j_CW_empty (a1 : Int32) (a2 : Int32) (st : CwS) : Option (Int32 × CwS) :=
  bR (j_CW_isBehaviour a1 a2 st) fun r1 st2 =>
  if r1 = ((0 : Int32)) then
    some ((-1 : Int32), st2)
  else
    bR (j_Book_find a1 a2 st2) fun r5 st6 =>
    ck (decide (r5 < 48)) <|
    some (gI st6 2 r5 0, sI st6 2 r5 0 ((0 : Int32)))
set_option maxHeartbeats 4000000 in
set_option maxRecDepth 100000 in
theorem c_CW_empty (l : Launch) (D : va_G) (A : Nat → Prop) (ad : Nat → Nat) (cA : Nat → ClassId) (tb0 tb1 : Nat) (a1 : Int32) (a2 : Int32) (st : CwS) (r : Int32) (st' : CwS) (h : j_CW_empty a1 a2 st = some (r, st')) : Met l yX7_empty (wv yX7_empty cX7_empty 5 (some .int)) ({ frames := 2, cells := 0, slots := 0, locals := 41 }) (va_Pc [.ref (ad 0), .int a1, .int a2] (cwU D A ad cA tb0 tb1 st)) (cwQi D A ad cA tb0 tb1 r st') 0 0 A := by
  refine Met.ofW (cc := cX7_empty) (maxL := 5) (ret := some .int) (by decide) rfl ?_
  intro p e s m args below meth c s₁ B hml hv
  obtain ⟨rfl, hP, hK⟩ := hv
  have hx := B.exec
  have hb := B.bytes
  have hr := B.returns
  have hts := atoms_spec (ws := wv yX7_empty cX7_empty 5 (some .int)) B.pre
  have hown : s.vm.findClass RX7 = some m.cls := findClass_of_methodNamed B.named
  have hlocks := B.notSynchronized
  have hO : cwO D A ad cA s st s.heap [] := ⟨hP, va_S.rf⟩
  have hl := lv_entry ([.ref (ad 0), .int a1, .int a2]) (n := 5) (Nat.le_of_ble_eq_true rfl)
  rw [lg_entry_eq]
  generalize (lg_sl ([.ref (ad 0), .int a1, .int a2]) ++ List.replicate (5 - (lg_sl ([.ref (ad 0), .int a1, .int a2])).length) Slot.unset).toArray = ls at hl ⊢
  have hl : lv_has ls 5 [(0, .ref (ad 0)), (1, .int a1), (2, .int a2)] := hl
  have _h0 := hO
  have hgw := fun (w : Cond) (h : w ∈ gwW) => hts w (List.mem_cons_of_mem _ h)
  have k10 := hgw _ w_7a3df1ba
  have k45 := hgw _ w_6e1eea5f
  unfold j_CW_empty at h
  refine lv_iload_n hx hb dX7_empty_0 rfl (lv_at hl 1 rfl) ?_
  refine lv_iload_n hx hb dX7_empty_1 rfl (lv_at hl 2 rfl) ?_
  obtain ⟨r1, st2, h3, h⟩ := bR_some h
  refine cw_calli (va_runS (As := [.int a1, .int a2]) (rest := []) ⟨hx, hb, hml, hown, hts⟩ (c_CW_isBehaviour l D A ad cA tb0 tb1 a1 a2 st r1 st2 h3) (va_cwS 2 hts (gw_S w_f22a5178 w_03540a48 w_0fc29077 w_f9d22def) rfl rfl rfl (by decide +kernel) ⟨Nat.le_of_ble_eq_true rfl, Nat.le_of_ble_eq_true rfl⟩) (cw_preS hK hO) rfl rfl hl.1 rfl (lv_room (Nat.le_of_ble_eq_true rfl)) dX7_empty_2 ⟨Nat.zero_le _, Nat.zero_le _⟩) hO (fun H locs hO => ?_)
  refine lv_if_ne (tgt := 10) hx hb dX7_empty_5 (by decide) (fun c4 => ?_) (fun c4 => ?_)
  · have h := ite_f c4 h
    refine lv_aload_n hx hb dX7_empty_10 rfl (lv_at hl 0 rfl) ?_
    refine gf_CW_book hx hb hgw iwCW hown hK hO k10 dX7_empty_11 ?_
    refine lv_iload_n hx hb dX7_empty_14 rfl (lv_at hl 1 rfl) ?_
    refine lv_iload_n hx hb dX7_empty_15 rfl (lv_at hl 2 rfl) ?_
    obtain ⟨r5, st6, h7, h⟩ := bR_some h
    obtain ⟨hc8, h⟩ := ck_some h
    refine cw_callr (va_runV (As := [.int a1, .int a2]) (rest := []) ⟨hx, hb, hml, hown, hts⟩ (c_Book_find l D A ad cA tb0 tb1 a1 a2 st2 r5 st6 h7) (cwV 2 hts (gw_V w_11d46912 w_e1327d62 w_a3354a1d w_df4c496e w_9a4e77f1) rfl rfl rfl (by decide +kernel) ⟨Nat.le_of_ble_eq_true rfl, Nat.le_of_ble_eq_true rfl⟩) (cw_preV (k := 1) (ci := 1) hK hO rfl (by decide) (cc_Book)) rfl rfl hl.1 rfl (lv_room (Nat.le_of_ble_eq_true rfl)) dX7_empty_16 ⟨Nat.zero_le _, Nat.zero_le _⟩) hO (fun H locs hO => ?_)
    refine lv_astore_n (lv' := [(3, .ref (ad (4 + 3 * r5))), (0, .ref (ad 0)), (1, .int a1), (2, .int a2)]) hx hb dX7_empty_19 rfl hl (by decide) rfl (fun ls hl => ?_)
    refine lv_aload_n hx hb dX7_empty_20 rfl (lv_at hl 0 rfl) ?_
    refine gf_Beh_count hx hb hgw iwBeh hown hK hO (ck_lt hc8) k45 dX7_empty_21 ?_
    refine lv_istore (lv' := [(4, .int (gI st6 2 r5 0)), (3, .ref (ad (4 + 3 * r5))), (0, .ref (ad 0)), (1, .int a1), (2, .int a2)]) hx hb dX7_empty_24 hl (by decide) rfl (fun ls hl => ?_)
    refine lv_aload_n hx hb dX7_empty_26 rfl (lv_at hl 1 rfl) ?_
    refine lv_iconst (v := 0) hx hb dX7_empty_27 (by decide) ?_
    refine pf_Beh_count hx hb hgw iwBeh hown hK hO (ck_lt hc8) k45 dX7_empty_28 (fun H locs hO => ?_)
    refine lv_iload hx hb dX7_empty_31 (lv_at hl 0 rfl) ?_
    obtain ⟨rfl, rfl⟩ := ret2 h; exact cw_iret hx hb hr hlocks hO dX7_empty_33
  · have h := ite_t c4 h
    refine lv_iconst (v := -1) hx hb dX7_empty_8 (by decide) ?_
    obtain ⟨rfl, rfl⟩ := ret2 h; exact cw_iret hx hb hr hlocks hO dX7_empty_9
-- CW guard
def j_CW_guard (a1 : Int32) (a2 : Int32) (st : CwS) : Option (Int32 × CwS) :=
  bR (j_CW_isContract a1 st) fun r1 st2 =>
  if r1 = ((0 : Int32)) then
    some ((-1 : Int32), st2)
  else
    ck (ix a1 8) <|
    ck (ix a1 8) <|
    if (gI st2 3 0 a1.toNatClampNeg) = ((0 : Int32)) then
      some ((0 : Int32), sI st2 3 0 a1.toNatClampNeg (vp_nar .boolean a2))
    else
      some ((1 : Int32), sI st2 3 0 a1.toNatClampNeg (vp_nar .boolean a2))
set_option maxHeartbeats 4000000 in
set_option maxRecDepth 100000 in
theorem c_CW_guard (l : Launch) (D : va_G) (A : Nat → Prop) (ad : Nat → Nat) (cA : Nat → ClassId) (tb0 tb1 : Nat) (a1 : Int32) (a2 : Int32) (st : CwS) (r : Int32) (st' : CwS) (h : j_CW_guard a1 a2 st = some (r, st')) : Met l yX7_guard (wv yX7_guard cX7_guard 4 (some .int)) ({ frames := 1, cells := 0, slots := 0, locals := 20 }) (va_Pc [.ref (ad 0), .int a1, .int a2] (cwU D A ad cA tb0 tb1 st)) (cwQi D A ad cA tb0 tb1 r st') 0 0 A := by
  refine Met.ofW (cc := cX7_guard) (maxL := 4) (ret := some .int) (by decide) rfl ?_
  intro p e s m args below meth c s₁ B hml hv
  obtain ⟨rfl, hP, hK⟩ := hv
  have hx := B.exec
  have hb := B.bytes
  have hr := B.returns
  have hts := atoms_spec (ws := wv yX7_guard cX7_guard 4 (some .int)) B.pre
  have hown : s.vm.findClass RX7 = some m.cls := findClass_of_methodNamed B.named
  have hlocks := B.notSynchronized
  have hO : cwO D A ad cA s st s.heap [] := ⟨hP, va_S.rf⟩
  have hl := lv_entry ([.ref (ad 0), .int a1, .int a2]) (n := 4) (Nat.le_of_ble_eq_true rfl)
  rw [lg_entry_eq]
  generalize (lg_sl ([.ref (ad 0), .int a1, .int a2]) ++ List.replicate (4 - (lg_sl ([.ref (ad 0), .int a1, .int a2])).length) Slot.unset).toArray = ls at hl ⊢
  have hl : lv_has ls 4 [(0, .ref (ad 0)), (1, .int a1), (2, .int a2)] := hl
  have _h0 := hO
  have hgw := fun (w : Cond) (h : w ∈ gwW) => hts w (List.mem_cons_of_mem _ h)
  have k10 := hgw _ w_7a3df1ba
  have k53 := hgw _ w_8ba0034c
  unfold j_CW_guard at h
  refine lv_iload_n hx hb dX7_guard_0 rfl (lv_at hl 1 rfl) ?_
  obtain ⟨r1, st2, h3, h⟩ := bR_some h
  refine cw_calli (va_runS (As := [.int a1]) (rest := []) ⟨hx, hb, hml, hown, hts⟩ (c_CW_isContract l D A ad cA tb0 tb1 a1 st r1 st2 h3) (va_cwS 1 hts (gw_S w_375a58ab w_6f490791 w_0fc29077 w_9bb5fda8) rfl rfl rfl (by decide +kernel) ⟨Nat.le_of_ble_eq_true rfl, Nat.le_of_ble_eq_true rfl⟩) (cw_preS hK hO) rfl rfl hl.1 rfl (lv_room (Nat.le_of_ble_eq_true rfl)) dX7_guard_1 ⟨Nat.zero_le _, Nat.zero_le _⟩) hO (fun H locs hO => ?_)
  refine lv_if_ne (tgt := 9) hx hb dX7_guard_4 (by decide) (fun c4 => ?_) (fun c4 => ?_)
  · have h := ite_f c4 h
    refine lv_aload_n hx hb dX7_guard_9 rfl (lv_at hl 0 rfl) ?_
    refine gf_CW_book hx hb hgw iwCW hown hK hO k10 dX7_guard_10 ?_
    refine gf_Book_guarded hx hb hgw iwBook hown hK hO k53 dX7_guard_13 ?_
    refine lv_iload_n hx hb dX7_guard_16 rfl (lv_at hl 1 rfl) ?_
    obtain ⟨hc5, h⟩ := ck_some h
    refine al_Guard hx hb hK hO hc5 dX7_guard_17 ?_
    refine lv_istore_n (lv' := [(3, .int (gI st2 3 0 a1.toNatClampNeg)), (0, .ref (ad 0)), (1, .int a1), (2, .int a2)]) hx hb dX7_guard_18 rfl hl (by decide) rfl (fun ls hl => ?_)
    refine lv_aload_n hx hb dX7_guard_19 rfl (lv_at hl 1 rfl) ?_
    refine gf_CW_book hx hb hgw iwCW hown hK hO k10 dX7_guard_20 ?_
    refine gf_Book_guarded hx hb hgw iwBook hown hK hO k53 dX7_guard_23 ?_
    refine lv_iload_n hx hb dX7_guard_26 rfl (lv_at hl 2 rfl) ?_
    refine lv_iload_n hx hb dX7_guard_27 rfl (lv_at hl 3 rfl) ?_
    obtain ⟨hc6, h⟩ := ck_some h
    refine as_Guard hx hb hK hO hc6 dX7_guard_28 (fun H locs hO => ?_)
    refine lv_iload_n hx hb dX7_guard_29 rfl (lv_at hl 0 rfl) ?_
    refine lv_if_eq (tgt := 37) hx hb dX7_guard_30 (by decide) (fun c7 => ?_) (fun c7 => ?_)
    · have h := ite_t c7 h
      refine lv_iconst (v := 0) hx hb dX7_guard_37 (by decide) ?_
      obtain ⟨rfl, rfl⟩ := ret2 h; exact cw_iret hx hb hr hlocks hO dX7_guard_38
    · have h := ite_f c7 h
      refine lv_iconst (v := 1) hx hb dX7_guard_33 (by decide) ?_
      refine lv_goto (tgt := 38) hx hb dX7_guard_34 (by decide) ?_
      obtain ⟨rfl, rfl⟩ := ret2 h; exact cw_iret hx hb hr hlocks hO dX7_guard_38
  · have h := ite_t c4 h
    refine lv_iconst (v := -1) hx hb dX7_guard_7 (by decide) ?_
    obtain ⟨rfl, rfl⟩ := ret2 h; exact cw_iret hx hb hr hlocks hO dX7_guard_8
-- CW fund
def j_CW_fund (a1 : Int32) (a2 : Int64) (st : CwS) : Option (Int32 × CwS) :=
  bR (j_CW_isContract a1 st) fun r1 st2 =>
  if r1 = ((0 : Int32)) then
    some ((-1 : Int32), st2)
  else
    if ((0 : Int32)) ≤ (lg_cmp a2 ((0 : Int64))) then
      ck (ix a1 8) <|
      some ((1 : Int32), sL st2 1 0 a1.toNatClampNeg a2)
    else
      some ((-1 : Int32), st2)
set_option maxHeartbeats 4000000 in
set_option maxRecDepth 100000 in
theorem c_CW_fund (l : Launch) (D : va_G) (A : Nat → Prop) (ad : Nat → Nat) (cA : Nat → ClassId) (tb0 tb1 : Nat) (a1 : Int32) (a2 : Int64) (st : CwS) (r : Int32) (st' : CwS) (h : j_CW_fund a1 a2 st = some (r, st')) : Met l yX7_fund (wv yX7_fund cX7_fund 4 (some .int)) ({ frames := 1, cells := 0, slots := 0, locals := 20 }) (va_Pc [.ref (ad 0), .int a1, .long a2] (cwU D A ad cA tb0 tb1 st)) (cwQi D A ad cA tb0 tb1 r st') 0 0 A := by
  refine Met.ofW (cc := cX7_fund) (maxL := 4) (ret := some .int) (by decide) rfl ?_
  intro p e s m args below meth c s₁ B hml hv
  obtain ⟨rfl, hP, hK⟩ := hv
  have hx := B.exec
  have hb := B.bytes
  have hr := B.returns
  have hts := atoms_spec (ws := wv yX7_fund cX7_fund 4 (some .int)) B.pre
  have hown : s.vm.findClass RX7 = some m.cls := findClass_of_methodNamed B.named
  have hlocks := B.notSynchronized
  have hO : cwO D A ad cA s st s.heap [] := ⟨hP, va_S.rf⟩
  have hl := lv_entry ([.ref (ad 0), .int a1, .long a2]) (n := 4) (Nat.le_of_ble_eq_true rfl)
  rw [lg_entry_eq]
  generalize (lg_sl ([.ref (ad 0), .int a1, .long a2]) ++ List.replicate (4 - (lg_sl ([.ref (ad 0), .int a1, .long a2])).length) Slot.unset).toArray = ls at hl ⊢
  have hl : lv_has ls 4 [(0, .ref (ad 0)), (1, .int a1), (2, .long a2)] := hl
  have _h0 := hO
  have hgw := fun (w : Cond) (h : w ∈ gwW) => hts w (List.mem_cons_of_mem _ h)
  have k19 := hgw _ w_3dcf37e4
  have k57 := hgw _ w_25b74935
  unfold j_CW_fund at h
  refine lv_iload_n hx hb dX7_fund_0 rfl (lv_at hl 1 rfl) ?_
  obtain ⟨r1, st2, h3, h⟩ := bR_some h
  refine cw_calli (va_runS (As := [.int a1]) (rest := []) ⟨hx, hb, hml, hown, hts⟩ (c_CW_isContract l D A ad cA tb0 tb1 a1 st r1 st2 h3) (va_cwS 1 hts (gw_S w_375a58ab w_6f490791 w_0fc29077 w_9bb5fda8) rfl rfl rfl (by decide +kernel) ⟨Nat.le_of_ble_eq_true rfl, Nat.le_of_ble_eq_true rfl⟩) (cw_preS hK hO) rfl rfl hl.1 rfl (lv_room (Nat.le_of_ble_eq_true rfl)) dX7_fund_1 ⟨Nat.zero_le _, Nat.zero_le _⟩) hO (fun H locs hO => ?_)
  refine lv_if_eq (tgt := 13) hx hb dX7_fund_4 (by decide) (fun c4 => ?_) (fun c4 => ?_)
  · have h := ite_t c4 h
    refine lv_iconst (v := -1) hx hb dX7_fund_13 (by decide) ?_
    obtain ⟨rfl, rfl⟩ := ret2 h; exact cw_iret hx hb hr hlocks hO dX7_fund_14
  · have h := ite_f c4 h
    refine lv_lload_n hx hb dX7_fund_7 rfl (lv_at hl 2 rfl) ?_
    refine lv_lconst (v := 0) hx hb dX7_fund_8 (by decide) ?_
    refine W.lcmp hx hb dX7_fund_9 ?_
    refine lv_if_ge (tgt := 15) hx hb dX7_fund_10 (by decide) (fun c5 => ?_) (fun c5 => ?_)
    · have h := ite_t c5 h
      refine lv_aload_n hx hb dX7_fund_15 rfl (lv_at hl 0 rfl) ?_
      refine gf_CW_ledger hx hb hgw iwCW hown hK hO k19 dX7_fund_16 ?_
      refine gf_Ledger_balances hx hb hgw iwLedger hown hK hO k57 dX7_fund_19 ?_
      refine lv_iload_n hx hb dX7_fund_22 rfl (lv_at hl 1 rfl) ?_
      refine lv_lload_n hx hb dX7_fund_23 rfl (lv_at hl 2 rfl) ?_
      obtain ⟨hc6, h⟩ := ck_some h
      refine as_Bals hx hb hK hO hc6 dX7_fund_24 (fun H locs hO => ?_)
      refine lv_iconst (v := 1) hx hb dX7_fund_25 (by decide) ?_
      obtain ⟨rfl, rfl⟩ := ret2 h; exact cw_iret hx hb hr hlocks hO dX7_fund_26
    · have h := ite_f c5 h
      refine lv_iconst (v := -1) hx hb dX7_fund_13 (by decide) ?_
      obtain ⟨rfl, rfl⟩ := ret2 h; exact cw_iret hx hb hr hlocks hO dX7_fund_14
-- CW run
def j_CW_run (a1 : Int32) (a2 : Int32) (a3 : Int64) (a5 : Int32) (st : CwS) : Option (Int32 × CwS) :=
  bR (j_CW_isBehaviour a1 a2 st) fun r1 st2 =>
  if r1 = ((0 : Int32)) then
    some ((-1 : Int32), st2)
  else
    if a5 < ((0 : Int32)) then
      some ((-1 : Int32), st2)
    else
      if a5 ≤ ((600 : Int32)) then
        bR (j_Walk_go a1 a2 a3 a5 st2) fun r7 st8 =>
        some (r7, st8)
      else
        some ((-1 : Int32), st2)
set_option maxHeartbeats 4000000 in
set_option maxRecDepth 100000 in
theorem c_CW_run (l : Launch) (D : va_G) (A : Nat → Prop) (ad : Nat → Nat) (cA : Nat → ClassId) (tb0 tb1 : Nat) (a1 : Int32) (a2 : Int32) (a3 : Int64) (a5 : Int32) (st : CwS) (r : Int32) (st' : CwS) (h : j_CW_run a1 a2 a3 a5 st = some (r, st')) : Met l yX7_run (wv yX7_run cX7_run 6 (some .int)) ({ frames := 7, cells := 0, slots := 0, locals := 192 }) (va_Pc [.ref (ad 0), .int a1, .int a2, .long a3, .int a5] (cwU D A ad cA tb0 tb1 st)) (cwQi D A ad cA tb0 tb1 r st') 0 0 A := by
  refine Met.ofW (cc := cX7_run) (maxL := 6) (ret := some .int) (by decide) rfl ?_
  intro p e s m args below meth c s₁ B hml hv
  obtain ⟨rfl, hP, hK⟩ := hv
  have hx := B.exec
  have hb := B.bytes
  have hr := B.returns
  have hts := atoms_spec (ws := wv yX7_run cX7_run 6 (some .int)) B.pre
  have hown : s.vm.findClass RX7 = some m.cls := findClass_of_methodNamed B.named
  have hlocks := B.notSynchronized
  have hO : cwO D A ad cA s st s.heap [] := ⟨hP, va_S.rf⟩
  have hl := lv_entry ([.ref (ad 0), .int a1, .int a2, .long a3, .int a5]) (n := 6) (Nat.le_of_ble_eq_true rfl)
  rw [lg_entry_eq]
  generalize (lg_sl ([.ref (ad 0), .int a1, .int a2, .long a3, .int a5]) ++ List.replicate (6 - (lg_sl ([.ref (ad 0), .int a1, .int a2, .long a3, .int a5])).length) Slot.unset).toArray = ls at hl ⊢
  have hl : lv_has ls 6 [(0, .ref (ad 0)), (1, .int a1), (2, .int a2), (3, .long a3), (5, .int a5)] := hl
  have _h0 := hO
  have hgw := fun (w : Cond) (h : w ∈ gwW) => hts w (List.mem_cons_of_mem _ h)
  have k28 := hgw _ w_65f0a2e2
  unfold j_CW_run at h
  refine lv_iload_n hx hb dX7_run_0 rfl (lv_at hl 1 rfl) ?_
  refine lv_iload_n hx hb dX7_run_1 rfl (lv_at hl 2 rfl) ?_
  obtain ⟨r1, st2, h3, h⟩ := bR_some h
  refine cw_calli (va_runS (As := [.int a1, .int a2]) (rest := []) ⟨hx, hb, hml, hown, hts⟩ (c_CW_isBehaviour l D A ad cA tb0 tb1 a1 a2 st r1 st2 h3) (va_cwS 2 hts (gw_S w_f22a5178 w_03540a48 w_0fc29077 w_f9d22def) rfl rfl rfl (by decide +kernel) ⟨Nat.le_of_ble_eq_true rfl, Nat.le_of_ble_eq_true rfl⟩) (cw_preS hK hO) rfl rfl hl.1 rfl (lv_room (Nat.le_of_ble_eq_true rfl)) dX7_run_2 ⟨Nat.zero_le _, Nat.zero_le _⟩) hO (fun H locs hO => ?_)
  refine lv_if_eq (tgt := 21) hx hb dX7_run_5 (by decide) (fun c4 => ?_) (fun c4 => ?_)
  · have h := ite_t c4 h
    refine lv_iconst (v := -1) hx hb dX7_run_21 (by decide) ?_
    obtain ⟨rfl, rfl⟩ := ret2 h; exact cw_iret hx hb hr hlocks hO dX7_run_22
  · have h := ite_f c4 h
    refine lv_iload hx hb dX7_run_8 (lv_at hl 4 rfl) ?_
    refine lv_if_lt (tgt := 21) hx hb dX7_run_10 (by decide) (fun c5 => ?_) (fun c5 => ?_)
    · have h := ite_t c5 h
      refine lv_iconst (v := -1) hx hb dX7_run_21 (by decide) ?_
      obtain ⟨rfl, rfl⟩ := ret2 h; exact cw_iret hx hb hr hlocks hO dX7_run_22
    · have h := ite_f c5 h
      refine lv_iload hx hb dX7_run_13 (lv_at hl 4 rfl) ?_
      refine lv_sipush (v := 600) hx hb dX7_run_15 (by decide) ?_
      refine lv_icmp_le (tgt := 23) hx hb dX7_run_18 (by decide) (fun c6 => ?_) (fun c6 => ?_)
      · have h := ite_t c6 h
        refine lv_aload_n hx hb dX7_run_23 rfl (lv_at hl 0 rfl) ?_
        refine gf_CW_walk hx hb hgw iwCW hown hK hO k28 dX7_run_24 ?_
        refine lv_iload_n hx hb dX7_run_27 rfl (lv_at hl 1 rfl) ?_
        refine lv_iload_n hx hb dX7_run_28 rfl (lv_at hl 2 rfl) ?_
        refine lv_lload_n hx hb dX7_run_29 rfl (lv_at hl 3 rfl) ?_
        refine lv_iload hx hb dX7_run_30 (lv_at hl 4 rfl) ?_
        obtain ⟨r7, st8, h9, h⟩ := bR_some h
        refine cw_calli (va_runV (As := [.int a1, .int a2, .long a3, .int a5]) (rest := []) ⟨hx, hb, hml, hown, hts⟩ (c_Walk_go l D A ad cA tb0 tb1 a1 a2 a3 a5 st2 r7 st8 h9) (cwV 4 hts (gw_V w_67a65630 w_ec92cf84 w_3b85379b w_f8f5642f w_f5f12c32) rfl rfl rfl (by decide +kernel) ⟨Nat.le_of_ble_eq_true rfl, Nat.le_of_ble_eq_true rfl⟩) (cw_preV (k := 176) (ci := 6) hK hO rfl (by decide) (cc_Walk)) rfl rfl hl.1 rfl (lv_room (Nat.le_of_ble_eq_true rfl)) dX7_run_32 ⟨Nat.zero_le _, Nat.zero_le _⟩) hO (fun H locs hO => ?_)
        obtain ⟨rfl, rfl⟩ := ret2 h; exact cw_iret hx hb hr hlocks hO dX7_run_35
      · have h := ite_f c6 h
        refine lv_iconst (v := -1) hx hb dX7_run_21 (by decide) ?_
        obtain ⟨rfl, rfl⟩ := ret2 h; exact cw_iret hx hb hr hlocks hO dX7_run_22
-- CW given
def j_CW_given (st : CwS) : Option (Int64 × CwS) :=
  some (gL st 5 0 0, st)
set_option maxHeartbeats 4000000 in
set_option maxRecDepth 100000 in
theorem c_CW_given (l : Launch) (D : va_G) (A : Nat → Prop) (ad : Nat → Nat) (cA : Nat → ClassId) (tb0 tb1 : Nat) (st : CwS) (r : Int64) (st' : CwS) (h : j_CW_given st = some (r, st')) : Met l yX7_given (wv yX7_given cX7_given 1 (some .long)) ({ frames := 0, cells := 0, slots := 0, locals := 0 }) (va_Pc [.ref (ad 0)] (cwU D A ad cA tb0 tb1 st)) (cwQl D A ad cA tb0 tb1 r st') 0 0 A := by
  refine Met.ofW (cc := cX7_given) (maxL := 1) (ret := some .long) (by decide) rfl ?_
  intro p e s m args below meth c s₁ B hml hv
  obtain ⟨rfl, hP, hK⟩ := hv
  have hx := B.exec
  have hb := B.bytes
  have hr := B.returns
  have hts := atoms_spec (ws := wv yX7_given cX7_given 1 (some .long)) B.pre
  have hown : s.vm.findClass RX7 = some m.cls := findClass_of_methodNamed B.named
  have hlocks := B.notSynchronized
  have hO : cwO D A ad cA s st s.heap [] := ⟨hP, va_S.rf⟩
  have hl := lv_entry ([.ref (ad 0)]) (n := 1) (Nat.le_of_ble_eq_true rfl)
  rw [lg_entry_eq]
  generalize (lg_sl ([.ref (ad 0)]) ++ List.replicate (1 - (lg_sl ([.ref (ad 0)])).length) Slot.unset).toArray = ls at hl ⊢
  have hl : lv_has ls 1 [(0, .ref (ad 0))] := hl
  have _h0 := hO
  have hgw := fun (w : Cond) (h : w ∈ gwW) => hts w (List.mem_cons_of_mem _ h)
  have k28 := hgw _ w_65f0a2e2
  have k65 := hgw _ w_75276dbb
  unfold j_CW_given at h
  refine lv_aload_n hx hb dX7_given_0 rfl (lv_at hl 0 rfl) ?_
  refine gf_CW_walk hx hb hgw iwCW hown hK hO k28 dX7_given_1 ?_
  refine gf_Walk_result hx hb hgw iwWalk hown hK hO k65 dX7_given_4 ?_
  obtain ⟨rfl, rfl⟩ := ret2 h; exact cw_lret hx hb hr hlocks hO dX7_given_7
-- CW told
def j_CW_told (a1 : Int32) (st : CwS) : Option (Int32 × CwS) :=
  if a1 < ((0 : Int32)) then
    some ((-1 : Int32), st)
  else
    if ((5 : Int32)) ≤ a1 then
      some ((-1 : Int32), st)
    else
      ck (ix a1 5) <|
      some (gI st 7 0 a1.toNatClampNeg, st)
set_option maxHeartbeats 4000000 in
set_option maxRecDepth 100000 in
theorem c_CW_told (l : Launch) (D : va_G) (A : Nat → Prop) (ad : Nat → Nat) (cA : Nat → ClassId) (tb0 tb1 : Nat) (a1 : Int32) (st : CwS) (r : Int32) (st' : CwS) (h : j_CW_told a1 st = some (r, st')) : Met l yX7_told (wv yX7_told cX7_told 2 (some .int)) ({ frames := 0, cells := 0, slots := 0, locals := 0 }) (va_Pc [.ref (ad 0), .int a1] (cwU D A ad cA tb0 tb1 st)) (cwQi D A ad cA tb0 tb1 r st') 0 0 A := by
  refine Met.ofW (cc := cX7_told) (maxL := 2) (ret := some .int) (by decide) rfl ?_
  intro p e s m args below meth c s₁ B hml hv
  obtain ⟨rfl, hP, hK⟩ := hv
  have hx := B.exec
  have hb := B.bytes
  have hr := B.returns
  have hts := atoms_spec (ws := wv yX7_told cX7_told 2 (some .int)) B.pre
  have hown : s.vm.findClass RX7 = some m.cls := findClass_of_methodNamed B.named
  have hlocks := B.notSynchronized
  have hO : cwO D A ad cA s st s.heap [] := ⟨hP, va_S.rf⟩
  have hl := lv_entry ([.ref (ad 0), .int a1]) (n := 2) (Nat.le_of_ble_eq_true rfl)
  rw [lg_entry_eq]
  generalize (lg_sl ([.ref (ad 0), .int a1]) ++ List.replicate (2 - (lg_sl ([.ref (ad 0), .int a1])).length) Slot.unset).toArray = ls at hl ⊢
  have hl : lv_has ls 2 [(0, .ref (ad 0)), (1, .int a1)] := hl
  have _h0 := hO
  have hgw := fun (w : Cond) (h : w ∈ gwW) => hts w (List.mem_cons_of_mem _ h)
  have k28 := hgw _ w_65f0a2e2
  have k69 := hgw _ w_c113431e
  unfold j_CW_told at h
  refine lv_iload_n hx hb dX7_told_0 rfl (lv_at hl 1 rfl) ?_
  refine lv_if_lt (tgt := 21) hx hb dX7_told_1 (by decide) (fun c1 => ?_) (fun c1 => ?_)
  · have h := ite_t c1 h
    refine lv_iconst (v := -1) hx hb dX7_told_21 (by decide) ?_
    obtain ⟨rfl, rfl⟩ := ret2 h; exact cw_iret hx hb hr hlocks hO dX7_told_22
  · have h := ite_f c1 h
    refine lv_iload_n hx hb dX7_told_4 rfl (lv_at hl 1 rfl) ?_
    refine lv_iconst (v := 5) hx hb dX7_told_5 (by decide) ?_
    refine lv_icmp_ge (tgt := 21) hx hb dX7_told_6 (by decide) (fun c2 => ?_) (fun c2 => ?_)
    · have h := ite_t c2 h
      refine lv_iconst (v := -1) hx hb dX7_told_21 (by decide) ?_
      obtain ⟨rfl, rfl⟩ := ret2 h; exact cw_iret hx hb hr hlocks hO dX7_told_22
    · have h := ite_f c2 h
      refine lv_aload_n hx hb dX7_told_9 rfl (lv_at hl 0 rfl) ?_
      refine gf_CW_walk hx hb hgw iwCW hown hK hO k28 dX7_told_10 ?_
      refine gf_Walk_counts hx hb hgw iwWalk hown hK hO k69 dX7_told_13 ?_
      refine lv_iload_n hx hb dX7_told_16 rfl (lv_at hl 1 rfl) ?_
      obtain ⟨hc3, h⟩ := ck_some h
      refine al_Counts hx hb hK hO hc3 dX7_told_17 ?_
      refine lv_goto (tgt := 22) hx hb dX7_told_18 (by decide) ?_
      obtain ⟨rfl, rfl⟩ := ret2 h; exact cw_iret hx hb hr hlocks hO dX7_told_22
-- CW leaf
def j_CW_leaf (a1 : Int32) (a2 : Int32) (st : CwS) : Option (Int64 × CwS) :=
  bR (j_CW_isContract a1 st) fun r1 st2 =>
  if r1 = ((0 : Int32)) then
    some ((0 : Int64), st2)
  else
    bR (j_CW_isLeaf a2 st2) fun r5 st6 =>
    if r5 = ((0 : Int32)) then
      some ((0 : Int64), st6)
    else
      ck (ix ((a1 * ((8 : Int32))) + a2) 64) <|
      some (gL st6 0 0 (((a1 * ((8 : Int32))) + a2).toNatClampNeg), st6)
set_option maxHeartbeats 4000000 in
set_option maxRecDepth 100000 in
theorem c_CW_leaf (l : Launch) (D : va_G) (A : Nat → Prop) (ad : Nat → Nat) (cA : Nat → ClassId) (tb0 tb1 : Nat) (a1 : Int32) (a2 : Int32) (st : CwS) (r : Int64) (st' : CwS) (h : j_CW_leaf a1 a2 st = some (r, st')) : Met l yX7_leaf (wv yX7_leaf cX7_leaf 3 (some .long)) ({ frames := 1, cells := 0, slots := 0, locals := 20 }) (va_Pc [.ref (ad 0), .int a1, .int a2] (cwU D A ad cA tb0 tb1 st)) (cwQl D A ad cA tb0 tb1 r st') 0 0 A := by
  refine Met.ofW (cc := cX7_leaf) (maxL := 3) (ret := some .long) (by decide) rfl ?_
  intro p e s m args below meth c s₁ B hml hv
  obtain ⟨rfl, hP, hK⟩ := hv
  have hx := B.exec
  have hb := B.bytes
  have hr := B.returns
  have hts := atoms_spec (ws := wv yX7_leaf cX7_leaf 3 (some .long)) B.pre
  have hown : s.vm.findClass RX7 = some m.cls := findClass_of_methodNamed B.named
  have hlocks := B.notSynchronized
  have hO : cwO D A ad cA s st s.heap [] := ⟨hP, va_S.rf⟩
  have hl := lv_entry ([.ref (ad 0), .int a1, .int a2]) (n := 3) (Nat.le_of_ble_eq_true rfl)
  rw [lg_entry_eq]
  generalize (lg_sl ([.ref (ad 0), .int a1, .int a2]) ++ List.replicate (3 - (lg_sl ([.ref (ad 0), .int a1, .int a2])).length) Slot.unset).toArray = ls at hl ⊢
  have hl : lv_has ls 3 [(0, .ref (ad 0)), (1, .int a1), (2, .int a2)] := hl
  have _h0 := hO
  have hgw := fun (w : Cond) (h : w ∈ gwW) => hts w (List.mem_cons_of_mem _ h)
  have k19 := hgw _ w_3dcf37e4
  have k76 := hgw _ w_bd66277f
  unfold j_CW_leaf at h
  refine lv_iload_n hx hb dX7_leaf_0 rfl (lv_at hl 1 rfl) ?_
  obtain ⟨r1, st2, h3, h⟩ := bR_some h
  refine cw_calli (va_runS (As := [.int a1]) (rest := []) ⟨hx, hb, hml, hown, hts⟩ (c_CW_isContract l D A ad cA tb0 tb1 a1 st r1 st2 h3) (va_cwS 1 hts (gw_S w_375a58ab w_6f490791 w_0fc29077 w_9bb5fda8) rfl rfl rfl (by decide +kernel) ⟨Nat.le_of_ble_eq_true rfl, Nat.le_of_ble_eq_true rfl⟩) (cw_preS hK hO) rfl rfl hl.1 rfl (lv_room (Nat.le_of_ble_eq_true rfl)) dX7_leaf_1 ⟨Nat.zero_le _, Nat.zero_le _⟩) hO (fun H locs hO => ?_)
  refine lv_if_eq (tgt := 31) hx hb dX7_leaf_4 (by decide) (fun c4 => ?_) (fun c4 => ?_)
  · have h := ite_t c4 h
    refine lv_lconst (v := 0) hx hb dX7_leaf_31 (by decide) ?_
    obtain ⟨rfl, rfl⟩ := ret2 h; exact cw_lret hx hb hr hlocks hO dX7_leaf_32
  · have h := ite_f c4 h
    refine lv_iload_n hx hb dX7_leaf_7 rfl (lv_at hl 2 rfl) ?_
    obtain ⟨r5, st6, h7, h⟩ := bR_some h
    refine cw_calli (va_runS (As := [.int a2]) (rest := []) ⟨hx, hb, hml, hown, hts⟩ (c_CW_isLeaf l D A ad cA tb0 tb1 a2 st2 r5 st6 h7) (va_cwS 1 hts (gw_S w_8d25cbe0 w_45a6a7ae w_0fc29077 w_778875df) rfl rfl rfl (by decide +kernel) ⟨Nat.le_of_ble_eq_true rfl, Nat.le_of_ble_eq_true rfl⟩) (cw_preS hK hO) rfl rfl hl.1 rfl (lv_room (Nat.le_of_ble_eq_true rfl)) dX7_leaf_8 ⟨Nat.zero_le _, Nat.zero_le _⟩) hO (fun H locs hO => ?_)
    refine lv_if_eq (tgt := 31) hx hb dX7_leaf_11 (by decide) (fun c8 => ?_) (fun c8 => ?_)
    · have h := ite_t c8 h
      refine lv_lconst (v := 0) hx hb dX7_leaf_31 (by decide) ?_
      obtain ⟨rfl, rfl⟩ := ret2 h; exact cw_lret hx hb hr hlocks hO dX7_leaf_32
    · have h := ite_f c8 h
      refine lv_aload_n hx hb dX7_leaf_14 rfl (lv_at hl 0 rfl) ?_
      refine gf_CW_ledger hx hb hgw iwCW hown hK hO k19 dX7_leaf_15 ?_
      refine gf_Ledger_leaves hx hb hgw iwLedger hown hK hO k76 dX7_leaf_18 ?_
      refine lv_iload_n hx hb dX7_leaf_21 rfl (lv_at hl 1 rfl) ?_
      refine lv_bipush (v := 8) hx hb dX7_leaf_22 (by decide) ?_
      refine lv_imul hx hb dX7_leaf_24 ?_
      refine lv_iload_n hx hb dX7_leaf_25 rfl (lv_at hl 2 rfl) ?_
      refine lv_iadd hx hb dX7_leaf_26 ?_
      obtain ⟨hc9, h⟩ := ck_some h
      refine al_Leaves hx hb hK hO hc9 dX7_leaf_27 ?_
      refine lv_goto (tgt := 32) hx hb dX7_leaf_28 (by decide) ?_
      obtain ⟨rfl, rfl⟩ := ret2 h; exact cw_lret hx hb hr hlocks hO dX7_leaf_32
-- CW balance
def j_CW_balance (a1 : Int32) (st : CwS) : Option (Int64 × CwS) :=
  bR (j_CW_isContract a1 st) fun r1 st2 =>
  if r1 = ((0 : Int32)) then
    some ((0 : Int64), st2)
  else
    ck (ix a1 8) <|
    some (gL st2 1 0 a1.toNatClampNeg, st2)
set_option maxHeartbeats 4000000 in
set_option maxRecDepth 100000 in
theorem c_CW_balance (l : Launch) (D : va_G) (A : Nat → Prop) (ad : Nat → Nat) (cA : Nat → ClassId) (tb0 tb1 : Nat) (a1 : Int32) (st : CwS) (r : Int64) (st' : CwS) (h : j_CW_balance a1 st = some (r, st')) : Met l yX7_balance (wv yX7_balance cX7_balance 2 (some .long)) ({ frames := 1, cells := 0, slots := 0, locals := 20 }) (va_Pc [.ref (ad 0), .int a1] (cwU D A ad cA tb0 tb1 st)) (cwQl D A ad cA tb0 tb1 r st') 0 0 A := by
  refine Met.ofW (cc := cX7_balance) (maxL := 2) (ret := some .long) (by decide) rfl ?_
  intro p e s m args below meth c s₁ B hml hv
  obtain ⟨rfl, hP, hK⟩ := hv
  have hx := B.exec
  have hb := B.bytes
  have hr := B.returns
  have hts := atoms_spec (ws := wv yX7_balance cX7_balance 2 (some .long)) B.pre
  have hown : s.vm.findClass RX7 = some m.cls := findClass_of_methodNamed B.named
  have hlocks := B.notSynchronized
  have hO : cwO D A ad cA s st s.heap [] := ⟨hP, va_S.rf⟩
  have hl := lv_entry ([.ref (ad 0), .int a1]) (n := 2) (Nat.le_of_ble_eq_true rfl)
  rw [lg_entry_eq]
  generalize (lg_sl ([.ref (ad 0), .int a1]) ++ List.replicate (2 - (lg_sl ([.ref (ad 0), .int a1])).length) Slot.unset).toArray = ls at hl ⊢
  have hl : lv_has ls 2 [(0, .ref (ad 0)), (1, .int a1)] := hl
  have _h0 := hO
  have hgw := fun (w : Cond) (h : w ∈ gwW) => hts w (List.mem_cons_of_mem _ h)
  have k19 := hgw _ w_3dcf37e4
  have k57 := hgw _ w_25b74935
  unfold j_CW_balance at h
  refine lv_iload_n hx hb dX7_balance_0 rfl (lv_at hl 1 rfl) ?_
  obtain ⟨r1, st2, h3, h⟩ := bR_some h
  refine cw_calli (va_runS (As := [.int a1]) (rest := []) ⟨hx, hb, hml, hown, hts⟩ (c_CW_isContract l D A ad cA tb0 tb1 a1 st r1 st2 h3) (va_cwS 1 hts (gw_S w_375a58ab w_6f490791 w_0fc29077 w_9bb5fda8) rfl rfl rfl (by decide +kernel) ⟨Nat.le_of_ble_eq_true rfl, Nat.le_of_ble_eq_true rfl⟩) (cw_preS hK hO) rfl rfl hl.1 rfl (lv_room (Nat.le_of_ble_eq_true rfl)) dX7_balance_1 ⟨Nat.zero_le _, Nat.zero_le _⟩) hO (fun H locs hO => ?_)
  refine lv_if_eq (tgt := 19) hx hb dX7_balance_4 (by decide) (fun c4 => ?_) (fun c4 => ?_)
  · have h := ite_t c4 h
    refine lv_lconst (v := 0) hx hb dX7_balance_19 (by decide) ?_
    obtain ⟨rfl, rfl⟩ := ret2 h; exact cw_lret hx hb hr hlocks hO dX7_balance_20
  · have h := ite_f c4 h
    refine lv_aload_n hx hb dX7_balance_7 rfl (lv_at hl 0 rfl) ?_
    refine gf_CW_ledger hx hb hgw iwCW hown hK hO k19 dX7_balance_8 ?_
    refine gf_Ledger_balances hx hb hgw iwLedger hown hK hO k57 dX7_balance_11 ?_
    refine lv_iload_n hx hb dX7_balance_14 rfl (lv_at hl 1 rfl) ?_
    obtain ⟨hc5, h⟩ := ck_some h
    refine al_Bals hx hb hK hO hc5 dX7_balance_15 ?_
    refine lv_goto (tgt := 20) hx hb dX7_balance_16 (by decide) ?_
    obtain ⟨rfl, rfl⟩ := ret2 h; exact cw_lret hx hb hr hlocks hO dX7_balance_20
-- CW events
def j_CW_events (st : CwS) : Option (Int32 × CwS) :=
  some (gI st 5 0 0, st)
set_option maxHeartbeats 4000000 in
set_option maxRecDepth 100000 in
theorem c_CW_events (l : Launch) (D : va_G) (A : Nat → Prop) (ad : Nat → Nat) (cA : Nat → ClassId) (tb0 tb1 : Nat) (st : CwS) (r : Int32) (st' : CwS) (h : j_CW_events st = some (r, st')) : Met l yX7_events (wv yX7_events cX7_events 1 (some .int)) ({ frames := 0, cells := 0, slots := 0, locals := 0 }) (va_Pc [.ref (ad 0)] (cwU D A ad cA tb0 tb1 st)) (cwQi D A ad cA tb0 tb1 r st') 0 0 A := by
  refine Met.ofW (cc := cX7_events) (maxL := 1) (ret := some .int) (by decide) rfl ?_
  intro p e s m args below meth c s₁ B hml hv
  obtain ⟨rfl, hP, hK⟩ := hv
  have hx := B.exec
  have hb := B.bytes
  have hr := B.returns
  have hts := atoms_spec (ws := wv yX7_events cX7_events 1 (some .int)) B.pre
  have hown : s.vm.findClass RX7 = some m.cls := findClass_of_methodNamed B.named
  have hlocks := B.notSynchronized
  have hO : cwO D A ad cA s st s.heap [] := ⟨hP, va_S.rf⟩
  have hl := lv_entry ([.ref (ad 0)]) (n := 1) (Nat.le_of_ble_eq_true rfl)
  rw [lg_entry_eq]
  generalize (lg_sl ([.ref (ad 0)]) ++ List.replicate (1 - (lg_sl ([.ref (ad 0)])).length) Slot.unset).toArray = ls at hl ⊢
  have hl : lv_has ls 1 [(0, .ref (ad 0))] := hl
  have _h0 := hO
  have hgw := fun (w : Cond) (h : w ∈ gwW) => hts w (List.mem_cons_of_mem _ h)
  have k19 := hgw _ w_3dcf37e4
  have k79 := hgw _ w_b67da81a
  unfold j_CW_events at h
  refine lv_aload_n hx hb dX7_events_0 rfl (lv_at hl 0 rfl) ?_
  refine gf_CW_ledger hx hb hgw iwCW hown hK hO k19 dX7_events_1 ?_
  refine gf_Ledger_eventCount hx hb hgw iwLedger hown hK hO k79 dX7_events_4 ?_
  obtain ⟨rfl, rfl⟩ := ret2 h; exact cw_iret hx hb hr hlocks hO dX7_events_7
-- CW event
def j_CW_event (a1 : Int32) (a2 : Int32) (st : CwS) : Option (Int32 × CwS) :=
  bR (j_Ledger_hasEvent a1 st) fun r1 st2 =>
  if r1 = ((0 : Int32)) then
    some ((-1 : Int32), st2)
  else
    if a2 = ((0 : Int32)) then
      ck (ix a1 40) <|
      some (gI st2 4 0 a1.toNatClampNeg, st2)
    else
      some ((-1 : Int32), st2)
set_option maxHeartbeats 4000000 in
set_option maxRecDepth 100000 in
theorem c_CW_event (l : Launch) (D : va_G) (A : Nat → Prop) (ad : Nat → Nat) (cA : Nat → ClassId) (tb0 tb1 : Nat) (a1 : Int32) (a2 : Int32) (st : CwS) (r : Int32) (st' : CwS) (h : j_CW_event a1 a2 st = some (r, st')) : Met l yX7_event (wv yX7_event cX7_event 3 (some .int)) ({ frames := 1, cells := 0, slots := 0, locals := 21 }) (va_Pc [.ref (ad 0), .int a1, .int a2] (cwU D A ad cA tb0 tb1 st)) (cwQi D A ad cA tb0 tb1 r st') 0 0 A := by
  refine Met.ofW (cc := cX7_event) (maxL := 3) (ret := some .int) (by decide) rfl ?_
  intro p e s m args below meth c s₁ B hml hv
  obtain ⟨rfl, hP, hK⟩ := hv
  have hx := B.exec
  have hb := B.bytes
  have hr := B.returns
  have hts := atoms_spec (ws := wv yX7_event cX7_event 3 (some .int)) B.pre
  have hown : s.vm.findClass RX7 = some m.cls := findClass_of_methodNamed B.named
  have hlocks := B.notSynchronized
  have hO : cwO D A ad cA s st s.heap [] := ⟨hP, va_S.rf⟩
  have hl := lv_entry ([.ref (ad 0), .int a1, .int a2]) (n := 3) (Nat.le_of_ble_eq_true rfl)
  rw [lg_entry_eq]
  generalize (lg_sl ([.ref (ad 0), .int a1, .int a2]) ++ List.replicate (3 - (lg_sl ([.ref (ad 0), .int a1, .int a2])).length) Slot.unset).toArray = ls at hl ⊢
  have hl : lv_has ls 3 [(0, .ref (ad 0)), (1, .int a1), (2, .int a2)] := hl
  have _h0 := hO
  have hgw := fun (w : Cond) (h : w ∈ gwW) => hts w (List.mem_cons_of_mem _ h)
  have k19 := hgw _ w_3dcf37e4
  have k85 := hgw _ w_e8d19600
  unfold j_CW_event at h
  refine lv_aload_n hx hb dX7_event_0 rfl (lv_at hl 0 rfl) ?_
  refine gf_CW_ledger hx hb hgw iwCW hown hK hO k19 dX7_event_1 ?_
  refine lv_iload_n hx hb dX7_event_4 rfl (lv_at hl 1 rfl) ?_
  obtain ⟨r1, st2, h3, h⟩ := bR_some h
  refine cw_calli (va_runV (As := [.int a1]) (rest := []) ⟨hx, hb, hml, hown, hts⟩ (c_Ledger_hasEvent l D A ad cA tb0 tb1 a1 st r1 st2 h3) (cwV 1 hts (gw_V w_3c59aded w_21ef8127 w_03a0fe8a w_7f12e8e2 w_e4366073) rfl rfl rfl (by decide +kernel) ⟨Nat.le_of_ble_eq_true rfl, Nat.le_of_ble_eq_true rfl⟩) (cw_preV (k := 148) (ci := 3) hK hO rfl (by decide) (cc_Ledger)) rfl rfl hl.1 rfl (lv_room (Nat.le_of_ble_eq_true rfl)) dX7_event_5 ⟨Nat.zero_le _, Nat.zero_le _⟩) hO (fun H locs hO => ?_)
  refine lv_if_eq (tgt := 27) hx hb dX7_event_8 (by decide) (fun c4 => ?_) (fun c4 => ?_)
  · have h := ite_t c4 h
    refine lv_iconst (v := -1) hx hb dX7_event_27 (by decide) ?_
    obtain ⟨rfl, rfl⟩ := ret2 h; exact cw_iret hx hb hr hlocks hO dX7_event_28
  · have h := ite_f c4 h
    refine lv_iload_n hx hb dX7_event_11 rfl (lv_at hl 2 rfl) ?_
    refine lv_if_ne (tgt := 27) hx hb dX7_event_12 (by decide) (fun c5 => ?_) (fun c5 => ?_)
    · have h := ite_f c5 h
      refine lv_iconst (v := -1) hx hb dX7_event_27 (by decide) ?_
      obtain ⟨rfl, rfl⟩ := ret2 h; exact cw_iret hx hb hr hlocks hO dX7_event_28
    · have h := ite_t c5 h
      refine lv_aload_n hx hb dX7_event_15 rfl (lv_at hl 0 rfl) ?_
      refine gf_CW_ledger hx hb hgw iwCW hown hK hO k19 dX7_event_16 ?_
      refine gf_Ledger_eventContracts hx hb hgw iwLedger hown hK hO k85 dX7_event_19 ?_
      refine lv_iload_n hx hb dX7_event_22 rfl (lv_at hl 1 rfl) ?_
      obtain ⟨hc6, h⟩ := ck_some h
      refine al_EvC hx hb hK hO hc6 dX7_event_23 ?_
      refine lv_goto (tgt := 28) hx hb dX7_event_24 (by decide) ?_
      obtain ⟨rfl, rfl⟩ := ret2 h; exact cw_iret hx hb hr hlocks hO dX7_event_28
end
section
-- the reference's cells: eleven fixed ones at b0 .. b0 + 10, eight for each frame from gR st 102 i on, a row of longs at each address a with gR st 103 a = 1
-- gR: 50 (16 i + p) entry p of frame i's rows (0 null, a + 1 the row at a); 100 a a row's length; 101 0 frames made, 101 2 the heap's size, 101 3 slots made; 102 i a frame's address; 103 a 'a is a row'
def rq (r : Nat) : Value := match r with
  | 0 => .null
  | a + 1 => .ref a
def rqo (r : Nat) : Option Nat := match r with
  | 0 => none
  | a + 1 => some a
theorem rq_rf (r : Nat) : va_rf (rqo r) = rq r := by cases r <;> rfl
def zL (st : CwS) (c i : Nat) : CwS := (st.1, fun c' i' p' => if c' = c then (if i' = i then 0 else st.2.1 c' i' p') else st.2.1 c' i' p', st.2.2)
theorem gL_zL (st : CwS) (c i c' i' p' : Nat) : gL (zL st c i) c' i' p' = if c' = c ∧ i' = i then 0 else gL st c' i' p' := by
  by_cases h1 : c' = c <;> by_cases h2 : i' = i <;> simp [gL, zL, h1, h2]
/-- a new row of n longs -/
def rNew (st : CwS) (n : Nat) : CwS := sR (sR (sR (sR (zL st 9 (gR st 101 2)) 100 (gR st 101 2) n) 103 (gR st 101 2) 1) 101 3 (gR st 101 3 + n)) 101 2 (gR st 101 2 + 1)
def isRow (st : CwS) (r : Nat) : Bool := decide (0 < r ∧ gR st 103 (r - 1) = 1)
def rfTy (cA : Nat → ClassId) : List (ClassId × FieldType) := cwTy cA ++ [(cA 6, .object "CallWalkerModel$Frame")]
def rfA (b0 : Nat) (cA : Nat → ClassId) (st : CwS) (k : Nat) : va_E := match k with
  | 0 => .inr (9, [.int (gI st 6 0 0), .ref (b0 + 1), .ref (b0 + 2), .ref (b0 + 3), .ref (b0 + 4), .ref (b0 + 5), .ref (b0 + 6), .ref (b0 + 7), .ref (b0 + 8), .ref (b0 + 9), .int (gI st 7 0 0), .long (gL st 3 0 0), .int (gI st 8 0 0), .int (gI st 9 0 0), .int (gI st 10 0 0), .int (gI st 11 0 0), .int (gI st 12 0 0), .int (gI st 13 0 0), .ref (b0 + 10)])
  | 1 => .inl (cA 0, 1152, .inl (gI st 0 0))
  | 2 => .inl (cA 0, 1152, .inl (gI st 1 0))
  | 3 => .inl (cA 0, 48, .inl (gI st 2 0))
  | 4 => .inl (cA 2, 8, .inl (gI st 3 0))
  | 5 => .inl (cA 1, 64, .inr (.inl (gL st 0 0)))
  | 6 => .inl (cA 1, 8, .inr (.inl (gL st 1 0)))
  | 7 => .inl (cA 0, 8, .inl (gI st 4 0))
  | 8 => .inl (cA 0, 40, .inl (gI st 5 0))
  | 9 => .inl (cA 1, 40, .inr (.inl (gL st 2 0)))
  | 10 => .inl (cA 6, 11, .inr (.inr (.inr (.inr (fun j => if j < gR st 101 0 then some (gR st 102 j) else none)))))
  | _ => .inr (0, [])
def rfB (cA : Nat → ClassId) (st : CwS) (fa i j : Nat) : va_E := match j with
  | 0 => .inr (8, [.int (gI st 14 i 0), .int (gI st 15 i 0), .int (gI st 16 i 0), .int (gI st 17 i 0), .ref (fa + 1), .ref (fa + 2), .ref (fa + 3), .ref (fa + 4), .ref (fa + 5), .int (gI st 18 i 0), .ref (fa + 6), .ref (fa + 7), .int (gI st 19 i 0), .int (gI st 20 i 0), .long (gL st 4 i 0)])
  | 1 => .inl (cA 1, 64, .inr (.inl (gL st 5 i)))
  | 2 => .inl (cA 1, 8, .inr (.inl (gL st 6 i)))
  | 3 => .inl (cA 0, 13, .inl (gI st 21 i))
  | 4 => .inl (cA 1, 13, .inr (.inl (gL st 7 i)))
  | 5 => .inl (cA 5, 13, .inr (.inr (.inr (.inr (fun p => rqo (gR st 50 (16 * i + p)))))))
  | 6 => .inl (cA 0, 4, .inl (gI st 22 i))
  | 7 => .inl (cA 0, 4, .inl (gI st 23 i))
  | _ => .inr (0, [])
def rfR (cA : Nat → ClassId) (st : CwS) (a : Nat) : va_E := .inl (cA 1, gR st 100 a, .inr (.inl (gL st 9 a)))
def roI (c : Nat) : Nat := match c with
  | 0 => 1 | 1 => 2 | 2 => 3 | 3 => 4 | 4 => 7 | 5 => 8
  | 6 => 0 | 7 => 0 | 8 => 0 | 9 => 0 | 10 => 0 | 11 => 0 | 12 => 0 | 13 => 0
  | 14 => 100 | 15 => 100 | 16 => 100 | 17 => 100 | 18 => 100 | 19 => 100 | 20 => 100
  | 21 => 103 | 22 => 106 | 23 => 107
  | _ => 1000
def roL (c : Nat) : Nat := match c with
  | 0 => 5 | 1 => 6 | 2 => 9 | 3 => 0
  | 4 => 100 | 5 => 101 | 6 => 102 | 7 => 104
  | 9 => 200
  | _ => 1000
def rfP (b0 : Nat) (D : va_G) (cA : Nat → ClassId) (st : CwS) (H : Heap) : Prop :=
  (∀ k, k < 11 → va_at D vwCl (b0 + k, rfA b0 cA st k) H) ∧ (∀ i j, i < gR st 101 0 → j < 8 → va_at D vwCl (gR st 102 i + j, rfB cA st (gR st 102 i) i j) H) ∧ ∀ a, gR st 103 a = 1 → va_at D vwCl (a, rfR cA st a) H
/-- the cells lie apart, and are of a kind -/
def rfD (A : Nat → Prop) (b0 : Nat) (st : CwS) : Prop :=
  (∀ i, i < gR st 101 0 → b0 + 11 ≤ gR st 102 i) ∧ (∀ i j, i < j → j < gR st 101 0 → gR st 102 i + 8 ≤ gR st 102 j) ∧ (∀ a, gR st 103 a = 1 → b0 + 11 ≤ a) ∧ (∀ a i, gR st 103 a = 1 → i < gR st 101 0 → a < gR st 102 i ∨ gR st 102 i + 8 ≤ a) ∧
  (∀ k, k < 11 → A (b0 + k)) ∧ (∀ i j, i < gR st 101 0 → j < 8 → A (gR st 102 i + j)) ∧ (∀ a, gR st 103 a = 1 → A a) ∧ ∀ q, gR st 101 2 ≤ q → A q
def rfO (D : va_G) (A : Nat → Prop) (b0 : Nat) (cA : Nat → ClassId) (s : State) (st : CwS) (H : Heap) (locs : List Loc) : Prop := rfP b0 D cA st H ∧ rfD A b0 st ∧ va_S A s.heap H locs ∧ H.size = gR st 101 2
/-- frame i is there, and lies at fa -/
def rfF (st : CwS) (i fa : Nat) : Prop := i < gR st 101 0 ∧ gR st 102 i = fa
theorem rfF.at {b0 : Nat} {D : va_G} {cA : Nat → ClassId} {st : CwS} {H : Heap} {i fa : Nat} (h : rfF st i fa) (hP : rfP b0 D cA st H) (j : Nat) (hj : j < 8) : va_at D vwCl (fa + j, rfB cA st fa i j) H := by
  obtain ⟨h1, rfl⟩ := h
  exact hP.2.1 i j h1 hj
theorem rfA_congr {b0 : Nat} {cA : Nat → ClassId} {st st2 : CwS} (k : Nat) (hI : ∀ c q, roI c = k → gI st2 c 0 q = gI st c 0 q) (hL : ∀ c q, roL c = k → gL st2 c 0 q = gL st c 0 q) (h1 : gR st2 101 0 = gR st 101 0) (h2 : ∀ i, gR st2 102 i = gR st 102 i) : rfA b0 cA st2 k = rfA b0 cA st k := by
  match k, hI, hL with
  | 0, hI, hL => simp only [rfA, hI 6 0 rfl, hI 7 0 rfl, hI 8 0 rfl, hI 9 0 rfl, hI 10 0 rfl, hI 11 0 rfl, hI 12 0 rfl, hI 13 0 rfl, hL 3 0 rfl]
  | 1, hI, _ => simp only [rfA, show gI st2 0 0 = gI st 0 0 from funext fun q => hI 0 q rfl]
  | 2, hI, _ => simp only [rfA, show gI st2 1 0 = gI st 1 0 from funext fun q => hI 1 q rfl]
  | 3, hI, _ => simp only [rfA, show gI st2 2 0 = gI st 2 0 from funext fun q => hI 2 q rfl]
  | 4, hI, _ => simp only [rfA, show gI st2 3 0 = gI st 3 0 from funext fun q => hI 3 q rfl]
  | 5, _, hL => simp only [rfA, show gL st2 0 0 = gL st 0 0 from funext fun q => hL 0 q rfl]
  | 6, _, hL => simp only [rfA, show gL st2 1 0 = gL st 1 0 from funext fun q => hL 1 q rfl]
  | 7, hI, _ => simp only [rfA, show gI st2 4 0 = gI st 4 0 from funext fun q => hI 4 q rfl]
  | 8, hI, _ => simp only [rfA, show gI st2 5 0 = gI st 5 0 from funext fun q => hI 5 q rfl]
  | 9, _, hL => simp only [rfA, show gL st2 2 0 = gL st 2 0 from funext fun q => hL 2 q rfl]
  | 10, _, _ => simp only [rfA, h1, h2]
  | k + 11, _, _ => rfl
theorem rfB_congr {cA : Nat → ClassId} {st st2 : CwS} {fa i : Nat} (j : Nat) (hI : ∀ c q, roI c = 100 + j → gI st2 c i q = gI st c i q) (hL : ∀ c q, roL c = 100 + j → gL st2 c i q = gL st c i q) (h1 : j = 5 → ∀ p, p < 13 → gR st2 50 (16 * i + p) = gR st 50 (16 * i + p)) (h2 : j = 5 → ∀ p, gR st2 50 (16 * i + p) = gR st 50 (16 * i + p)) : rfB cA st2 fa i j = rfB cA st fa i j := by
  match j, hI, hL, h2 with
  | 0, hI, hL, _ => simp only [rfB, hI 14 0 rfl, hI 15 0 rfl, hI 16 0 rfl, hI 17 0 rfl, hI 18 0 rfl, hI 19 0 rfl, hI 20 0 rfl, hL 4 0 rfl]
  | 1, _, hL, _ => simp only [rfB, show gL st2 5 i = gL st 5 i from funext fun q => hL 5 q rfl]
  | 2, _, hL, _ => simp only [rfB, show gL st2 6 i = gL st 6 i from funext fun q => hL 6 q rfl]
  | 3, hI, _, _ => simp only [rfB, show gI st2 21 i = gI st 21 i from funext fun q => hI 21 q rfl]
  | 4, _, hL, _ => simp only [rfB, show gL st2 7 i = gL st 7 i from funext fun q => hL 7 q rfl]
  | 5, _, _, h2 => simp only [rfB, h2 rfl]
  | 6, hI, _, _ => simp only [rfB, show gI st2 22 i = gI st 22 i from funext fun q => hI 22 q rfl]
  | 7, hI, _, _ => simp only [rfB, show gI st2 23 i = gI st 23 i from funext fun q => hI 23 q rfl]
  | j + 8, _, _, _ => rfl
theorem rfR_congr {cA : Nat → ClassId} {st st2 : CwS} {a : Nat} (hL : ∀ q, gL st2 9 a q = gL st 9 a q) (h1 : gR st2 100 a = gR st 100 a) : rfR cA st2 a = rfR cA st a := by
  simp only [rfR, h1, show gL st2 9 a = gL st 9 a from funext hL]
theorem rfD_congr {A : Nat → Prop} {b0 : Nat} {st st2 : CwS} (h : rfD A b0 st) (h1 : ∀ i, gR st2 101 i = gR st 101 i) (h2 : ∀ i, gR st2 102 i = gR st 102 i) (h3 : ∀ i, gR st2 103 i = gR st 103 i) : rfD A b0 st2 := by
  unfold rfD
  simp only [h1, h2, h3]
  exact h
section RFW
variable {D : va_G} {A : Nat → Prop} {b0 : Nat} {cA : Nat → ClassId} {s : State} {st st2 : CwS} {H H1 : Heap} {locs : List Loc}
/-- a write into a fixed cell -/
theorem rf_wF (hO : rfO D A b0 cA s st H locs) {k0 kk : Nat} (hk : k0 < 11) (hI : ∀ c i q, roI c ≠ k0 → gI st2 c i q = gI st c i q) (hL : ∀ c i q, roL c ≠ k0 → gL st2 c i q = gL st c i q) (hR : ∀ c i, gR st2 c i = gR st c i) (hn : va_at D vwCl (b0 + k0, rfA b0 cA st2 k0) H1) (z : H1.size = H.size) (oq : ∀ q : Nat, q ≠ b0 + k0 → H1[q]? = H[q]?) : rfO D A b0 cA s st2 H1 (locs ++ [⟨b0 + k0, kk⟩]) := by
  obtain ⟨⟨hP1, hP2, hP3⟩, hD, hS, hz⟩ := hO
  refine ⟨⟨fun k hk2 => ?_, fun i j hi hj => ?_, fun a ha => ?_⟩, rfD_congr hD (hR 101) (hR 102) (hR 103), hS.put z oq (hD.2.2.2.2.1 k0 hk), by rw [z, hz, hR]⟩
  · by_cases e : k = k0
    · subst e; exact hn
    · rw [rfA_congr k (fun c q hc => hI c 0 q (by rw [hc]; exact e)) (fun c q hc => hL c 0 q (by rw [hc]; exact e)) (hR 101 0) (hR 102)]
      exact (hP1 k hk2).kept (oq _ (by simp only; omega))
  · rw [hR] at hi
    rw [hR, rfB_congr j (fun c q hc => hI c i q (by rw [hc]; omega)) (fun c q hc => hL c i q (by rw [hc]; omega)) (fun _ _ _ => hR _ _) (fun _ _ => hR _ _)]
    have := hD.1 i hi
    exact (hP2 i j hi hj).kept (oq _ (by simp only; omega))
  · rw [hR] at ha
    rw [rfR_congr (fun q => hL 9 a q (by simp only [roL]; omega)) (hR 100 a)]
    have := hD.2.2.1 a ha
    exact (hP3 a ha).kept (oq _ (by simp only; omega))
/-- a write into a frame's cell -/
theorem rf_wB (hO : rfO D A b0 cA s st H locs) {i0 j0 fa kk : Nat} (hf : rfF st i0 fa) (hj0 : j0 < 8) (hI : ∀ c i q, ¬ (roI c = 100 + j0 ∧ i = i0) → gI st2 c i q = gI st c i q) (hL : ∀ c i q, ¬ (roL c = 100 + j0 ∧ i = i0) → gL st2 c i q = gL st c i q) (hR : ∀ c i, ¬ (c = 50 ∧ j0 = 5 ∧ i / 16 = i0) → gR st2 c i = gR st c i) (h5 : j0 = 5 → ∀ i p, i ≠ i0 → gR st2 50 (16 * i + p) = gR st 50 (16 * i + p)) (hn : va_at D vwCl (fa + j0, rfB cA st2 fa i0 j0) H1) (z : H1.size = H.size) (oq : ∀ q : Nat, q ≠ fa + j0 → H1[q]? = H[q]?) : rfO D A b0 cA s st2 H1 (locs ++ [⟨fa + j0, kk⟩]) := by
  obtain ⟨⟨hP1, hP2, hP3⟩, hD, hS, hz⟩ := hO
  obtain ⟨hi0, rfl⟩ := hf
  have r1 : ∀ i, gR st2 101 i = gR st 101 i := fun i => hR 101 i (by omega)
  have r2 : ∀ i, gR st2 102 i = gR st 102 i := fun i => hR 102 i (by omega)
  have r3 : ∀ i, gR st2 103 i = gR st 103 i := fun i => hR 103 i (by omega)
  have hlo := hD.1 i0 hi0
  refine ⟨⟨fun k hk2 => ?_, fun i j hi hj => ?_, fun a ha => ?_⟩, rfD_congr hD r1 r2 r3, hS.put z oq (hD.2.2.2.2.2.1 i0 j0 hi0 hj0), by rw [z, hz, r1]⟩
  · rw [rfA_congr k (fun c q hc => hI c 0 q (by rw [hc]; omega)) (fun c q hc => hL c 0 q (by rw [hc]; omega)) (r1 0) r2]
    exact (hP1 k hk2).kept (oq _ (by simp only; omega))
  · rw [r1] at hi
    rw [r2]
    by_cases e : i = i0
    · subst e
      by_cases ej : j = j0
      · subst ej; exact hn
      · rw [rfB_congr j (fun c q hc => hI c i q (by rw [hc]; omega)) (fun c q hc => hL c i q (by rw [hc]; omega)) (fun h _ _ => hR _ _ (by omega)) (fun h _ => hR _ _ (by omega))]
        exact (hP2 i j hi hj).kept (oq _ (by simp only; omega))
    · have hne : gR st 102 i + j ≠ gR st 102 i0 + j0 := by
        rcases Nat.lt_or_gt_of_ne e with q | q
        · have := hD.2.1 i i0 q hi0; omega
        · have := hD.2.1 i0 i q hi; omega
      have e5 : j = 5 → ∀ p, gR st2 50 (16 * i + p) = gR st 50 (16 * i + p) := fun _ p => by
        by_cases h : j0 = 5
        · exact h5 h i p e
        · exact hR _ _ (by omega)
      rw [rfB_congr j (fun c q hc => hI c i q (by rw [hc]; omega)) (fun c q hc => hL c i q (by rw [hc]; omega)) (fun h p _ => e5 h p) e5]
      exact (hP2 i j hi hj).kept (oq _ hne)
  · rw [r3] at ha
    rw [rfR_congr (fun q => hL 9 a q (by simp only [roL]; omega)) (hR 100 a (by omega))]
    have := hD.2.2.2.1 a i0 ha hi0
    exact (hP3 a ha).kept (oq _ (by simp only; omega))
/-- a write into a row -/
theorem rf_wR (hO : rfO D A b0 cA s st H locs) {a0 kk : Nat} (h0 : gR st 103 a0 = 1) (hI : ∀ c i q, gI st2 c i q = gI st c i q) (hL : ∀ c i q, ¬ (c = 9 ∧ i = a0) → gL st2 c i q = gL st c i q) (hR : ∀ c i, gR st2 c i = gR st c i) (hn : va_at D vwCl (a0, rfR cA st2 a0) H1) (z : H1.size = H.size) (oq : ∀ q : Nat, q ≠ a0 → H1[q]? = H[q]?) : rfO D A b0 cA s st2 H1 (locs ++ [⟨a0, kk⟩]) := by
  obtain ⟨⟨hP1, hP2, hP3⟩, hD, hS, hz⟩ := hO
  have hlo := hD.2.2.1 a0 h0
  have key : ∀ c i q, roL c ≠ 200 → gL st2 c i q = gL st c i q := fun c i q hc => hL c i q (fun h => hc (by rw [h.1]; rfl))
  refine ⟨⟨fun k hk2 => ?_, fun i j hi hj => ?_, fun a ha => ?_⟩, rfD_congr hD (hR 101) (hR 102) (hR 103), hS.put z oq (hD.2.2.2.2.2.2.1 a0 h0), by rw [z, hz, hR]⟩
  · rw [rfA_congr k (fun c q _ => hI c 0 q) (fun c q hc => key c 0 q (by rw [hc]; omega)) (hR 101 0) (hR 102)]
    exact (hP1 k hk2).kept (oq _ (by simp only; omega))
  · rw [hR] at hi
    rw [hR, rfB_congr j (fun c q _ => hI c i q) (fun c q hc => key c i q (by rw [hc]; omega)) (fun _ _ _ => hR _ _) (fun _ _ => hR _ _)]
    have := hD.2.2.2.1 a0 i h0 hi
    exact (hP2 i j hi hj).kept (oq _ (by simp only; omega))
  · rw [hR] at ha
    by_cases e : a = a0
    · subst e; exact hn
    · rw [rfR_congr (fun q => hL 9 a q (by omega)) (hR 100 a)]
      exact (hP3 a ha).kept (oq _ e)
end RFW
end
section
theorem va_P.one {D : va_G} {cl : List vw_C} {q : Nat × va_E} {H : Heap} (h : va_at D cl q H) : va_P D cl [q] H := fun k x hx => by
  have hz : k < 1 := (List.getElem?_eq_some_iff.mp hx).1
  rw [show k = 0 by omega] at hx
  cases hx
  exact h
theorem fw_self (vm : Vm) (c : ClassId) : vm.assignable c c = true := by
  show vm.assignableAux _ c c = true
  unfold Vm.assignableAux
  simp
/-- the class of rows of longs, that of rows of such rows -/
def rfE (cA : Nat → ClassId) (U : State) : Prop := ∃ kA k1 : Class, U.vm.classes[cA 5]? = some kA ∧ kA.kind = .array (cA 1) (.array .long) ∧ U.vm.classes[cA 1]? = some k1
theorem rfE.moved {cA : Nat → ClassId} {u U : State} (hvm : u.vm.Alike U.vm) (h : rfE cA u) : rfE cA U := by
  obtain ⟨kA, k1, h1, h2, h3⟩ := h
  obtain ⟨k', hk', he⟩ := hvm.2.2 _ _ h1
  obtain ⟨k'', hk'', -⟩ := hvm.2.2 _ _ h3
  exact ⟨k', k'', hk', by rw [he]; exact h2, hk''⟩
section FWR
variable {p : Program} {l : Launch} {e : Env} {R : Room} {s : State} {m : MethodId} {args : Array Value} {below : List Frame} {meth : Method} {c : Code} {H : Heap} {locs : List Loc} {cells slots : Nat} {Q : State → Prop}
variable {cc : ByteArray} {pc : Nat} {ls : Array Slot} {rest : List Value} {D : va_G} {tys : List (ClassId × FieldType)} {x : Nat}
theorem fw_put (hexec : p.tables.exec = Jvm.exec) (hb : c.code = cc) {own ref C : String} {T : u_T} {N ci index : Nat} {Ts : List Cond} (hts : ∀ w ∈ Ts, w.before args s = true) (hin : ∀ w ∈ u_ws C T N, w ∈ Ts) (ty0 : Nat → FieldType) (hty : ∀ k, k < N → parseFieldDescriptor (T k).2.2.1 = some (ty0 k)) (hnm : ∀ a, a < N → ∀ b, b < N → a ≠ b → (T a).2.1 ≠ (T b).2.1) (hown : s.vm.findClass own = some m.cls) (hK : va_K D vwCl tys s) {fs : List Value} (hat : va_at D vwCl (x, .inr (ci, fs)) H) (hc : vwCl[ci]? = some (C, T, N)) (k : Nat) (hk : k < N) (hlink : (Cond.fieldLink own index ref (T k).2.1 (T k).2.2.1).before args s = true) (hsame : ∀ x, s.fieldFound? (T k).1 (T k).2.1 (T k).2.2.1 = some x → s.fieldFound? ref (T k).2.1 (T k).2.2.1 = some x) (hfin : (T k).2.2.2 = false) {ty : FieldType} {v : Value} (hd : parseFieldDescriptor (T k).2.2.1 = some ty) (hn : narrow ty v = v) (hfit : fits ty v = true) (hl : k < fs.length)
    (hdg : decode cc pc = .ok (.putfield index, 3)) (kk : ∀ (H1 : Heap) (sl : Nat), va_at D vwCl (x, .inr (ci, fs.set k v)) H1 → H1.size = H.size → (∀ q : Nat, q ≠ x → H1[q]? = H[q]?) → W p l e R s m args below meth c H1 (locs ++ [⟨x, sl⟩]) cells slots Q (F0 m (pc + 3) ls rest)) : W p l e R s m args below meth c H locs cells slots Q (F0 m pc ls (v :: .ref x :: rest)) := by
  have hap := va_apart (own := own) hts hin ty0 hty hnm hK hc
  obtain ⟨r, h1, cell, q1, q2, q3, q4⟩ := hat
  have hr : r = (C, T, N) := Option.some.inj (h1.symm.trans hc)
  subst hr
  obtain ⟨hS, hfc, kC, hkC, hkind⟩ := hK.1 ci _ hc
  obtain ⟨cf, kf, fi, f, hi, hsl⟩ := hS k hk
  have hlay := hts _ (hin _ (u_in_lay hk))
  unfold u_lay at hlay
  rw [if_neg (by rw [hfin]; decide)] at hlay
  have hst := (u_facts hfc hkC (u_lays hts hin hk) hi).1
  have h6 := u_store hfc hkC hkind hlay hi hd hn hfit
  refine W.putK hexec hb (f := f) ⟨hown, hlink, ⟨_, _, _, hsame _ hi⟩, hst⟩ (by rw [q2]; exact h6) q1 q3 (by rw [hsl]; exact k2_hasslot (q4 k hk)) rfl rfl hdg fun H' e1 e2 e3 => ?_
  rw [hsl] at e1 ⊢
  exact kk H' _ ⟨_, hc, t_OB.to (V := updV (vp_V fs) k v) ⟨_, e1, q2, q3, t_set q4 hap hk v⟩ (fun j _ => vp_updV_set hl v j)⟩ e2 e3
theorem fw_iast (hexec : p.tables.exec = Jvm.exec) (hb : c.code = cc) (hK : va_K D vwCl tys s) {cy : ClassId} {n : Nat} {f : Nat → Int32} (hat : va_at D vwCl (x, .inl (cy, n, .inl f)) H) (t0 : Nat) (ht : tys[t0]? = some (cy, .int)) {i v : Int32} (hin : vp_in i n) (hdg : decode cc pc = .ok (.iastore, 1)) (kk : ∀ (H1 : Heap) (sl : Nat), va_at D vwCl (x, .inl (cy, n, .inl (upd f i.toNatClampNeg v))) H1 → H1.size = H.size → (∀ q : Nat, q ≠ x → H1[q]? = H[q]?) → W p l e R s m args below meth c H1 (locs ++ [⟨x, sl⟩]) cells slots Q (F0 m (pc + 1) ls rest)) : W p l e R s m args below meth c H locs cells slots Q (F0 m pc ls (.int v :: .int i :: .ref x :: rest)) := by
  refine W.iast hexec hb hat ((hK.2 t0 _ ht).1 n (fun j => .int (f j))) (fun q => by cases q) (by show ¬ (i < 0 ∨ (arrV _ _ _).slots.size ≤ _); rw [arrV_size]; exact hin) rfl rfl hdg fun H1 e z oq => kk H1 _ ?_ z oq
  show H1[x]? = some (vp_cell _ _)
  rw [e]
  rw [vp_cell_i, vp_cell_i, arrV_store]
  congr 2
  funext q
  by_cases hq : q = i.toNatClampNeg
  · subst hq
    simp [updV, upd]
  · simp [updV, upd, hq]
theorem fw_zast (hexec : p.tables.exec = Jvm.exec) (hb : c.code = cc) (hK : va_K D vwCl tys s) {cy : ClassId} {n : Nat} {f : Nat → Int32} (hat : va_at D vwCl (x, .inl (cy, n, .inl f)) H) (t0 : Nat) (ht : tys[t0]? = some (cy, .boolean)) {i v : Int32} (hin : vp_in i n) (hdg : decode cc pc = .ok (.bastore, 1)) (kk : ∀ (H1 : Heap) (sl : Nat), va_at D vwCl (x, .inl (cy, n, .inl (upd f i.toNatClampNeg (vp_nar .boolean v)))) H1 → H1.size = H.size → (∀ q : Nat, q ≠ x → H1[q]? = H[q]?) → W p l e R s m args below meth c H1 (locs ++ [⟨x, sl⟩]) cells slots Q (F0 m (pc + 1) ls rest)) : W p l e R s m args below meth c H locs cells slots Q (F0 m pc ls (.int v :: .int i :: .ref x :: rest)) := by
  refine W.zast hexec hb hat ((hK.2 t0 _ ht).1 n (fun j => .int (f j))) (fun q => by cases q) (by show ¬ (i < 0 ∨ (arrV _ _ _).slots.size ≤ _); rw [arrV_size]; exact hin) rfl rfl hdg fun H1 e z oq => kk H1 _ ?_ z oq
  show H1[x]? = some (vp_cell _ _)
  rw [e]
  rw [vp_cell_i, vp_cell_i, arrV_store]
  congr 2
  funext q
  by_cases hq : q = i.toNatClampNeg
  · subst hq
    simp [updV, upd, vp_nar]
    try rfl
  · simp [updV, upd, hq]
theorem fw_last (hexec : p.tables.exec = Jvm.exec) (hb : c.code = cc) (hK : va_K D vwCl tys s) {cy : ClassId} {n : Nat} {f : Nat → Int64} (hat : va_at D vwCl (x, .inl (cy, n, .inr (.inl f))) H) (t0 : Nat) (ht : tys[t0]? = some (cy, .long)) {i : Int32} {v : Int64} (hin : vp_in i n) (hdg : decode cc pc = .ok (.lastore, 1)) (kk : ∀ (H1 : Heap) (sl : Nat), va_at D vwCl (x, .inl (cy, n, .inr (.inl (vp_updL f i.toNatClampNeg v)))) H1 → H1.size = H.size → (∀ q : Nat, q ≠ x → H1[q]? = H[q]?) → W p l e R s m args below meth c H1 (locs ++ [⟨x, sl⟩]) cells slots Q (F0 m (pc + 1) ls rest)) : W p l e R s m args below meth c H locs cells slots Q (F0 m pc ls (.long v :: .int i :: .ref x :: rest)) := by
  refine W.last hexec hb hat ((hK.2 t0 _ ht).1 n (fun j => .long (f j))) (fun q => by cases q) (by show ¬ (i < 0 ∨ (arrV _ _ _).slots.size ≤ _); rw [arrV_size]; exact hin) rfl rfl hdg fun H1 e z oq => kk H1 _ ?_ z oq
  show H1[x]? = some (vp_cell _ _)
  rw [e]
  rw [vp_cell_l, vp_cell_l, arrV_store]
  congr 2
  funext q
  by_cases hq : q = i.toNatClampNeg
  · subst hq
    simp [updV, vp_updL]
  · simp [updV, vp_updL, hq]
theorem fw_aastN0 {T : State} (X : Stand p l e R s m args below meth c T locs cells slots) (hexec : p.tables.exec = Jvm.exec) {a : Addr} {cell : Cell} {t : FieldType} {j : Int32} (hcell : T.heap[a]? = some cell) (harr : s.isArrayOf cell (.array t)) (hknown : cell.vm ≠ .unknown)
    (hin : ¬ (j < 0 ∨ cell.slots.size ≤ j.toNatClampNeg))
    {g : JFrame} (hg : g.method = m) {rest : List Value} (hstack : g.stack = .null :: .int j :: .ref a :: rest) (hdg : decode c.code g.pc = .ok (.aastore, 1)) :
    Stand p l e R s m args below meth c (T.setCell a (cell.setSlot j.toNatClampNeg .null)) (locs ++ [⟨a, j.toNatClampNeg⟩]) cells slots ∧
      ∀ target, Steps p.tables e below ((T.setCell a (cell.setSlot j.toNatClampNeg .null)).setTop { g with pc := g.pc + 1, stack := rest }) target → Steps p.tables e below (T.setTop g) target := by
  have hT := State.isArrayOf_alike X.warmed.alike harr
  have hfit : T.fitsSlot cell.cls cell.vm j.toNatClampNeg .null = true := by
    obtain ⟨hobj, k, hk, comp, hkind⟩ := hT
    cases hvm : cell.vm <;> first | exact absurd hvm (hobj _) | simp [State.fitsSlot, State.slotType?, hk, hkind, fits]
  refine ⟨X.stored hcell _ _, fun target hrest => ?_⟩
  subst hg
  jvm_step X.here [hexec, hdg]
  refine aastore.wp_of_null (c := cell) (t := .array t) X.here.top hstack hcell hT hin hknown (Nat.not_le.mp fun q => hin (Or.inr q)) hfit ?_
  intro acts
  rw [afterInstr_ok]
  exact hrest
/-- an entry of a frame's rows is written: a row, or null -/
theorem fw_aast {cA : Nat → ClassId} (hexec : p.tables.exec = Jvm.exec) (hb : c.code = cc) (hK : va_K D vwCl (rfTy cA) s) (hE : rfE cA s) {n : Nat} {f : Nat → Option Nat} (hat : va_at D vwCl (x, .inl (cA 5, n, .inr (.inr (.inr (.inr f))))) H) {i : Int32} {r len : Nat} {z : Nat → Int64} (hr : r = 0 ∨ va_at D vwCl (r - 1, .inl (cA 1, len, .inr (.inl z))) H) (hin : vp_in i n) (hdg : decode cc pc = .ok (.aastore, 1)) (kk : ∀ (H1 : Heap) (sl : Nat), va_at D vwCl (x, .inl (cA 5, n, .inr (.inr (.inr (.inr (va_up f i.toNatClampNeg (rqo r))))))) H1 → H1.size = H.size → (∀ q : Nat, q ≠ x → H1[q]? = H[q]?) → W p l e R s m args below meth c H1 (locs ++ [⟨x, sl⟩]) cells slots Q (F0 m (pc + 1) ls rest)) : W p l e R s m args below meth c H locs cells slots Q (F0 m pc ls (rq r :: .int i :: .ref x :: rest)) := by
  have hlt : i.toNatClampNeg < n := Nat.not_le.mp fun q => hin (Or.inr q)
  have h0 : ¬ i < 0 := fun q => hin (Or.inl q)
  have fin : ∀ (H1 : Heap), H1[x]? = some ((vp_cell (cA 5) (n, .inr (.inr (.inr (.inr f))))).setSlot i.toNatClampNeg (rq r)) → va_at D vwCl (x, .inl (cA 5, n, .inr (.inr (.inr (.inr (va_up f i.toNatClampNeg (rqo r))))))) H1 := by
    intro H1 e
    show H1[x]? = some (vp_cell _ _)
    rw [e]
    rw [vp_cell_q, vp_cell_q, arrV_store]
    congr 2
    funext q
    by_cases hq : q = i.toNatClampNeg
    · subst hq
      simp [updV, va_up, rq_rf]
    · simp [updV, va_up, hq]
  cases r with
  | zero =>
    intro T hT X
    have hT' : T.heap[x]? = some (vp_cell (cA 5) (n, .inr (.inr (.inr (.inr f))))) := by rw [hT]; exact hat
    obtain ⟨X', st⟩ := fw_aastN0 (t := .long) (g := F0 m pc ls (rq 0 :: .int i :: .ref x :: rest)) X hexec hT' ((hK.2 5 _ rfl).1 n (fun j => va_rf (f j))) (fun h => by cases h) (by show ¬ (i < 0 ∨ (arrV _ _ _).slots.size ≤ _); rw [arrV_size]; exact hin) rfl rfl (by rw [hb]; exact hdg)
    have hl : x < T.heap.size := (Array.getElem?_eq_some_iff.mp hT').1
    obtain ⟨t', a1, b1⟩ := kk _ i.toNatClampNeg (fin _ (heapAt_setCell_self _ hl)) (by rw [size_setCell, hT]) (fun q hq => by rw [heapAt_setCell_ne _ (Ne.symm hq), hT]) (T.setCell x _) rfl X'
    exact ⟨t', st t' a1, b1⟩
  | succ a =>
    rcases hr with hr | hr
    · cases hr
    · have hr : H[a]? = some (vp_cell (cA 1) (len, .inr (.inl z))) := hr
      obtain ⟨kA, k1, e1, e2, e3⟩ := hE
      refine W.aast (v := a) (cv := vp_cell (cA 1) (len, .inr (.inl z))) hexec hb hat (fun q h => by cases h) (fun h => by cases h) e1 e2 rfl e3 ⟨h0, by show _ < (arrV _ _ _).slots.size; rw [arrV_size]; exact hlt⟩ hr (fun q h => by cases h) e3 (fw_self _ _) rfl rfl hdg fun H1 e z oq => kk H1 _ (fin H1 e) z oq
/-- loads and stores of a row that may be null -/
theorem rq_aload (hexec : p.tables.exec = Jvm.exec) (hb : c.code = cc) {i r : Nat} (hdg : decode cc pc = .ok (.aload i, 2)) (hl : ls[i]? = some (.val (rq r))) (k : W p l e R s m args below meth c H locs cells slots Q (F0 m (pc + 2) ls (rq r :: rest))) : W p l e R s m args below meth c H locs cells slots Q (F0 m pc ls rest) := by
  cases r with
  | zero => exact lv_aloadN hexec hb hdg hl k
  | succ a => exact lv_aload hexec hb hdg hl k
theorem rq_astore (hexec : p.tables.exec = Jvm.exec) (hb : c.code = cc) {i nL r : Nat} {lv lv' : List (Nat × Value)} (hdg : decode cc pc = .ok (.astore i, 2)) (h : lv_has ls nL lv) (hn : i < nL) (hl : (i, rq r) :: lv.filter (fun q => !(q.1 == i) && !(q.1 + 1 == i && q.2.category == 2)) = lv') (k : ∀ ls', lv_has ls' nL lv' → W p l e R s m args below meth c H locs cells slots Q (F0 m (pc + 2) ls' rest)) : W p l e R s m args below meth c H locs cells slots Q (F0 m pc ls (rq r :: rest)) := by
  cases r with
  | zero => exact lv_astoreN hexec hb hdg h hn hl k
  | succ a => exact lv_astore hexec hb hdg h hn hl k
end FWR
end
section
def bS {β : Type} (x : CwS) (f : CwS → Option β) : Option β := f x
theorem bS_some {β : Type} {x : CwS} {f : CwS → Option β} {z : β} (h : bS x f = some z) : ∃ t, t = x ∧ f t = some z := ⟨x, rfl, h⟩
/-- cells and slots made so far only grow, frames and rows stay where they are -/
def Ext (a b : CwS) : Prop := gR a 101 2 ≤ gR b 101 2 ∧ gR a 101 3 ≤ gR b 101 3 ∧ gR a 101 0 ≤ gR b 101 0 ∧ (∀ i, i < gR a 101 0 → gR b 102 i = gR a 102 i) ∧ ∀ x, x < gR a 101 2 → gR a 103 x = 1 → gR b 103 x = 1 ∧ gR b 100 x = gR a 100 x
theorem Ext.refl (a : CwS) : Ext a a := ⟨Nat.le_refl _, Nat.le_refl _, Nat.le_refl _, fun _ _ => rfl, fun _ _ h => ⟨h, rfl⟩⟩
theorem Ext.trans {a b c : CwS} (h1 : Ext a b) (h2 : Ext b c) : Ext a c := ⟨Nat.le_trans h1.1 h2.1, Nat.le_trans h1.2.1 h2.2.1, Nat.le_trans h1.2.2.1 h2.2.2.1, fun i hi => (h2.2.2.2.1 i (Nat.lt_of_lt_of_le hi h1.2.2.1)).trans (h1.2.2.2.1 i hi), fun x hx h => ⟨(h2.2.2.2.2 x (Nat.lt_of_lt_of_le hx h1.1) (h1.2.2.2.2 x hx h).1).1, (h2.2.2.2.2 x (Nat.lt_of_lt_of_le hx h1.1) (h1.2.2.2.2 x hx h).1).2.trans (h1.2.2.2.2 x hx h).2⟩⟩
theorem rfF.ext {a b : CwS} {i fa : Nat} (h : rfF a i fa) (e : Ext a b) : rfF b i fa := ⟨Nat.lt_of_lt_of_le h.1 e.2.2.1, (e.2.2.2.1 i h.1).trans h.2⟩
theorem Ext.new (st : CwS) (n : Nat) : Ext st (rNew st n) := by
  refine ⟨?_, ?_, Nat.le_refl _, fun _ _ => rfl, fun x hx h => ?_⟩
  · show gR st 101 2 ≤ gR st 101 2 + 1
    omega
  · show gR st 101 3 ≤ gR st 101 3 + n
    omega
  · have hne : x ≠ gR st 101 2 := by omega
    exact ⟨(by simp [rNew, gR_sR, hne]; exact h), (by simp [rNew, gR_sR, hne]; rfl)⟩
def rfK (D : va_G) (cA : Nat → ClassId) (U : State) : Prop := va_K D vwCl (rfTy cA) U ∧ rfE cA U ∧ va_Nw (.methodLinkNest RX9 182 yX8_init "CallWalkerModel") U
def rfU (D : va_G) (A : Nat → Prop) (b0 : Nat) (cA : Nat → ClassId) (st : CwS) (U : State) : Prop := rfP b0 D cA st U.heap ∧ rfD A b0 st ∧ U.heap.size = gR st 101 2 ∧ rfK D cA U
theorem rfU_blind {D : va_G} {A : Nat → Prop} {b0 : Nat} {cA : Nat → ClassId} {st : CwS} {av : List Value} : FrameBlind (va_Pc av (rfU D A b0 cA st)) := fun a U g mk q => ⟨q.1, q.2.1, q.2.2.1, q.2.2.2.1, va_K.moved (u := U) (U := U.calling g mk a) (Vm.Alike.refl U.vm) q.2.2.2.2.1, rfE.moved (u := U) (U := U.calling g mk a) (Vm.Alike.refl U.vm) q.2.2.2.2.2.1, va_Nw.same (U := U.calling g mk a) rfl rfl q.2.2.2.2.2.2⟩
theorem rfK.warm {D : va_G} {cA : Nat → ClassId} {s U : State} (h : rfK D cA s) (hW : s.WarmedH U.vm) : rfK D cA U := ⟨va_K.moved hW.alike h.1, rfE.moved hW.alike h.2.1, va_Nw.warmM hW h.2.2⟩
theorem rf_preS {D : va_G} {A : Nat → Prop} {b0 : Nat} {cA : Nat → ClassId} {st : CwS} {s : State} {H : Heap} {locs : List Loc} {As : List Value} (hK : rfK D cA s) (hO : rfO D A b0 cA s st H locs) : PreS s H (va_Pc As (rfU D A b0 cA st)) As :=
  ⟨rfU_blind, fun U hU hW => ⟨rfl, by rw [hU]; exact hO.1, hO.2.1, by rw [hU]; exact hO.2.2.2, hK.warm hW⟩⟩
theorem rf_preM {D : va_G} {A : Nat → Prop} {b0 : Nat} {cA : Nat → ClassId} {st : CwS} {s : State} {H : Heap} {locs : List Loc} {As : List Value} (hK : rfK D cA s) (hO : rfO D A b0 cA s st H locs) : PreV s H RX9 b0 (va_Pc (.ref b0 :: As) (rfU D A b0 cA st)) As :=
  ⟨rfU_blind, va_recv (q := (RX9, TX9, 19)) (ci := 9) (q0 := 0) hK.1 (va_P.one (hO.1.1 0 (by decide))) rfl rfl, fun U hU hW => ⟨rfl, by rw [hU]; exact hO.1, hO.2.1, by rw [hU]; exact hO.2.2.2, hK.warm hW⟩⟩
theorem rf_preF {D : va_G} {A : Nat → Prop} {b0 : Nat} {cA : Nat → ClassId} {st : CwS} {s : State} {H : Heap} {locs : List Loc} {As : List Value} {i fa : Nat} (hf : rfF st i fa) (hK : rfK D cA s) (hO : rfO D A b0 cA s st H locs) : PreV s H RX8 fa (va_Pc (.ref fa :: As) (rfU D A b0 cA st)) As :=
  ⟨rfU_blind, va_recv (q := (RX8, TX8, 15)) (ci := 8) (q0 := 0) hK.1 (va_P.one (hf.at hO.1 0 (by decide))) rfl rfl, fun U hU hW => ⟨rfl, by rw [hU]; exact hO.1, hO.2.1, by rw [hU]; exact hO.2.2.2, hK.warm hW⟩⟩
def rfT (D : va_G) (A : Nat → Prop) (b0 : Nat) (cA : Nat → ClassId) (st : CwS) (t : State) : Prop := rfP b0 D cA st t.heap ∧ rfD A b0 st ∧ t.heap.size = gR st 101 2
abbrev rfQi (D : va_G) (A : Nat → Prop) (b0 : Nat) (cA : Nat → ClassId) (r : Int32) (st : CwS) := va_Qi (fun (x : Int32) (_ : Unit) => x = r) (fun _ t => rfT D A b0 cA st t) A
abbrev rfQl (D : va_G) (A : Nat → Prop) (b0 : Nat) (cA : Nat → ClassId) (r : Int64) (st : CwS) := va_Ql (fun (x : Int64) (_ : Unit) => x = r) (fun _ t => rfT D A b0 cA st t) A
abbrev rfQv (D : va_G) (A : Nat → Prop) (b0 : Nat) (cA : Nat → ClassId) (st : CwS) := va_Qv (fun (_ : Unit) => True) (fun _ t => rfT D A b0 cA st t) A
abbrev rfQr (D : va_G) (A : Nat → Prop) (b0 : Nat) (cA : Nat → ClassId) (r : Nat) (st : CwS) := va_Qr (fun (_ : Unit) => True) (fun _ x t => x = gR st 102 r ∧ rfT D A b0 cA st t) A
section RFR
variable {p : Program} {l : Launch} {e : Env} {R : Room} {s : State} {m : MethodId} {args : Array Value} {below : List Frame} {meth : Method} {c : Code} {H : Heap} {locs : List Loc} {cells slots mc ms : Nat} {Q : State → Prop}
variable {cc : ByteArray} {pc : Nat} {ls : Array Slot} {rest st0 : List Value} {D : va_G} {A : Nat → Prop} {b0 : Nat} {cA : Nat → ClassId} {st st2 : CwS} {a : Array Value}
theorem rf_calli {r : Int32} (hr : va_Run p l e R s m args below meth c H locs cells slots mc ms (F0 m pc ls st0) rest (rfQi D A b0 cA r st2 a) A) (hO : rfO D A b0 cA s st H locs) (kk : ∀ (H1 : Heap) (locs1 : List Loc), rfO D A b0 cA s st2 H1 locs1 → W p l e R s m args below meth c H1 locs1 (cells + mc) (slots + ms) Q (F0 m (pc + 3) ls (.int r :: rest))) : W p l e R s m args below meth c H locs cells slots Q (F0 m pc ls st0) :=
  va_calli hr hO.2.2.1 (fun _ _ h => h) (fun _ h => h) (fun r' u t H1 locs1 ht hvm hp hB _ _ hS => by subst hp; subst ht; exact kk _ locs1 ⟨hB.1, hB.2.1, hS, hB.2.2⟩)
theorem rf_calll {r : Int64} (hr : va_Run p l e R s m args below meth c H locs cells slots mc ms (F0 m pc ls st0) rest (rfQl D A b0 cA r st2 a) A) (hO : rfO D A b0 cA s st H locs) (kk : ∀ (H1 : Heap) (locs1 : List Loc), rfO D A b0 cA s st2 H1 locs1 → W p l e R s m args below meth c H1 locs1 (cells + mc) (slots + ms) Q (F0 m (pc + 3) ls (.long r :: rest))) : W p l e R s m args below meth c H locs cells slots Q (F0 m pc ls st0) :=
  va_calll hr hO.2.2.1 (fun _ _ h => h) (fun _ h => h) (fun r' u t H1 locs1 ht hvm hp hB _ _ hS => by subst hp; subst ht; exact kk _ locs1 ⟨hB.1, hB.2.1, hS, hB.2.2⟩)
theorem rf_callv (hr : va_Run p l e R s m args below meth c H locs cells slots mc ms (F0 m pc ls st0) rest (rfQv D A b0 cA st2 a) A) (hO : rfO D A b0 cA s st H locs) (kk : ∀ (H1 : Heap) (locs1 : List Loc), rfO D A b0 cA s st2 H1 locs1 → W p l e R s m args below meth c H1 locs1 (cells + mc) (slots + ms) Q (F0 m (pc + 3) ls rest)) : W p l e R s m args below meth c H locs cells slots Q (F0 m pc ls st0) :=
  va_callv hr hO.2.2.1 (fun _ _ h => h) (fun _ h => h) (fun u t H1 locs1 ht hvm hp hB _ _ hS => by subst ht; exact kk _ locs1 ⟨hB.1, hB.2.1, hS, hB.2.2⟩)
theorem rf_callr {r : Nat} (hr : va_Run p l e R s m args below meth c H locs cells slots mc ms (F0 m pc ls st0) rest (rfQr D A b0 cA r st2 a) A) (hO : rfO D A b0 cA s st H locs) (kk : ∀ (fa : Nat) (H1 : Heap) (locs1 : List Loc), gR st2 102 r = fa → rfO D A b0 cA s st2 H1 locs1 → W p l e R s m args below meth c H1 locs1 (cells + mc) (slots + ms) Q (F0 m (pc + 3) ls (.ref fa :: rest))) : W p l e R s m args below meth c H locs cells slots Q (F0 m pc ls st0) :=
  va_callr hr hO.2.2.1 (fun _ _ h => h) (fun _ h => h) (fun u ra t H1 locs1 ht hvm hp hB _ _ hS => by subst ht; exact kk ra _ locs1 hB.1.symm ⟨hB.2.1, hB.2.2.1, hS, hB.2.2.2⟩)
theorem rf_iret {r : Int32} (hx : p.tables.exec = Jvm.exec) (hb : c.code = cc) (hr : meth.sig.returnType = some .int) (hlocks : meth.locks = false) (hO : rfO D A b0 cA s st H locs) (hdg : decode cc pc = .ok (.ireturn, 1)) : W p l e R s m args below meth c H locs cells slots (MQ below (rfQi D A b0 cA r st) args s cells slots A) (F0 m pc ls [.int r]) :=
  W.iret hx hb hr (fun t ht hW => ⟨⟨r, (), rfl, rfl, by subst ht; exact ⟨hO.1, hO.2.1, hO.2.2.2⟩⟩, hO.2.2.1.F ht⟩) hO.2.2.1.2.2 hdg hlocks
theorem rf_zret {r : Int32} (hx : p.tables.exec = Jvm.exec) (hb : c.code = cc) (hr : meth.sig.returnType = some .boolean) (hlocks : meth.locks = false) (hO : rfO D A b0 cA s st H locs) (hn : narrow .boolean (.int r) = .int r) (hdg : decode cc pc = .ok (.ireturn, 1)) : W p l e R s m args below meth c H locs cells slots (MQ below (rfQi D A b0 cA r st) args s cells slots A) (F0 m pc ls [.int r]) :=
  W.zret hx hb hr hn (fun t ht hW => ⟨⟨r, (), rfl, rfl, by subst ht; exact ⟨hO.1, hO.2.1, hO.2.2.2⟩⟩, hO.2.2.1.F ht⟩) hO.2.2.1.2.2 hdg hlocks
theorem rf_lret {r : Int64} (hx : p.tables.exec = Jvm.exec) (hb : c.code = cc) (hr : meth.sig.returnType = some .long) (hlocks : meth.locks = false) (hO : rfO D A b0 cA s st H locs) (hdg : decode cc pc = .ok (.lreturn, 1)) : W p l e R s m args below meth c H locs cells slots (MQ below (rfQl D A b0 cA r st) args s cells slots A) (F0 m pc ls [.long r]) :=
  W.lret hx hb hr (fun t ht hW => ⟨⟨r, (), rfl, rfl, by subst ht; exact ⟨hO.1, hO.2.1, hO.2.2.2⟩⟩, hO.2.2.1.F ht⟩) hO.2.2.1.2.2 hdg hlocks
theorem rf_vret (hx : p.tables.exec = Jvm.exec) (hb : c.code = cc) (hr : meth.sig.returnType = none) (hlocks : meth.locks = false) (hO : rfO D A b0 cA s st H locs) (hdg : decode cc pc = .ok (.return_, 1)) : W p l e R s m args below meth c H locs cells slots (MQ below (rfQv D A b0 cA st) args s cells slots A) (F0 m pc ls []) :=
  W.vret hx hb hr (fun t ht hW => ⟨⟨(), rfl, trivial, by subst ht; exact ⟨hO.1, hO.2.1, hO.2.2.2⟩⟩, hO.2.2.1.F ht⟩) hO.2.2.1.2.2 hdg hlocks
/-- a new row of longs -/
def rAl (z : Int32) : Bool := decide (0 ≤ z.toInt ∧ z.toInt ≤ 1000)
theorem rf_new (hexec : p.tables.exec = Jvm.exec) (hb : c.code = cc) (harr : (Cond.arrayClass .long).before args s = true) (hK : rfK D cA s) (hO : rfO D A b0 cA s st H locs) {z : Int32} (hz : rAl z = true) (hst : st2 = rNew st z.toNatClampNeg) (hcells : cells + 1 ≤ R.cells) (hslots : slots + z.toNatClampNeg ≤ R.slots) (hdg : decode cc pc = .ok (.newarray .long, 2))
    (kk : ∀ H1 : Heap, rfO D A b0 cA s st2 H1 locs → W p l e R s m args below meth c H1 locs (cells + 1) (slots + z.toNatClampNeg) Q (F0 m (pc + 2) ls (rq (gR st 101 2 + 1) :: rest))) : W p l e R s m args below meth c H locs cells slots Q (F0 m pc ls (.int z :: rest)) := by
  have hz := of_decide_eq_true hz
  have q3 : z.toNatClampNeg = z.toInt.toNat := rfl
  have hcy : s.vm.findClass ("[" ++ FieldType.long.toString) = some (cA 1) := (hK.1.2 1 _ rfl).2
  obtain ⟨⟨hP1, hP2, hP3⟩, hD, hS, hsz⟩ := hO
  refine va_newaK (atype := .long) hexec hb harr rfl hdg rfl (cpk_nn hz.1) rfl (by show z.toNatClampNeg * 8 ≤ _; omega) hcells hslots hsz fun H1 cA2 e1 z1 o1 hAr hNm => ?_
  have hcc : cA2 = cA 1 := Option.some.inj (hNm.symm.trans hcy)
  subst hcc
  have old : ∀ (q : Nat × va_E), va_at D vwCl q H → va_at D vwCl q H1 := fun q h => h.kept (o1 q.1 (by rw [← hsz]; exact h.lt))
  have h101 : gR st2 101 2 = gR st 101 2 + 1 := by rw [hst]; rfl
  have h100 : gR st2 101 0 = gR st 101 0 := by rw [hst]; rfl
  have h102 : ∀ i, gR st2 102 i = gR st 102 i := fun i => by rw [hst]; rfl
  have h50 : ∀ i, gR st2 50 i = gR st 50 i := fun i => by rw [hst]; rfl
  have hI : ∀ c i q, gI st2 c i q = gI st c i q := fun c i q => by rw [hst]; rfl
  have hL : ∀ c i q, c ≠ 9 → gL st2 c i q = gL st c i q := fun c i q hc => by
    rw [hst]
    show gL (zL st 9 (gR st 101 2)) c i q = _
    rw [gL_zL, if_neg (fun h => hc h.1)]
  have h103 : ∀ a, a ≠ gR st 101 2 → gR st2 103 a = gR st 103 a := fun a ha => by rw [hst]; simp [rNew, gR_sR, ha]; rfl
  have hrows : ∀ a, gR st2 103 a = 1 → a = gR st 101 2 ∨ (gR st 103 a = 1 ∧ a < gR st 101 2) := fun a ha => by
    by_cases e : a = gR st 101 2
    · exact Or.inl e
    · rw [h103 a e] at ha
      exact Or.inr ⟨ha, by rw [← hsz]; exact (hP3 a ha).lt⟩
  have hlt : ∀ i, i < gR st 101 0 → gR st 102 i + 7 < gR st 101 2 := fun i hi => by rw [← hsz]; exact (hP2 i 7 hi (by decide)).lt
  have hb0 : b0 + 10 < gR st 101 2 := by rw [← hsz]; exact (hP1 10 (by decide)).lt
  refine kk H1 ⟨⟨fun k hk => ?_, fun i j hi hj => ?_, fun a ha => ?_⟩, ⟨?_, ?_, ?_, ?_, ?_, ?_, ?_, ?_⟩, ⟨Nat.le_trans hS.1 (by rw [z1]; omega), fun x h1 h2 => (o1 x (by have := hS.1; omega)).trans (hS.2.1 x h1 h2), hS.2.2⟩, by rw [z1, h101]⟩
  · rw [rfA_congr k (fun c q _ => hI c 0 q) (fun c q hc => hL c 0 q (fun h => by rw [h] at hc; simp only [roL] at hc; omega)) h100 h102]
    exact old _ (hP1 k hk)
  · rw [h100] at hi
    rw [h102, rfB_congr j (fun c q _ => hI c i q) (fun c q hc => hL c i q (fun h => by rw [h] at hc; simp only [roL] at hc; omega)) (fun _ _ _ => h50 _) (fun _ _ => h50 _)]
    exact old _ (hP2 i j hi hj)
  · rcases hrows a ha with e | ⟨e, hal⟩
    · subst e
      have e2 : rfR cA st2 (gR st 101 2) = .inl (cA 1, z.toNatClampNeg, .inr (.inl (fun _ => 0))) := by
        rw [hst]
        have g1 : gL (rNew st z.toNatClampNeg) 9 (gR st 101 2) = fun _ => 0 := by
          funext q
          show gL (zL st 9 (gR st 101 2)) 9 (gR st 101 2) q = 0
          rw [gL_zL, if_pos ⟨rfl, rfl⟩]
        have g2 : gR (rNew st z.toNatClampNeg) 100 (gR st 101 2) = z.toNatClampNeg := by simp [rNew, gR_sR]
        simp only [rfR, g1, g2]
      rw [e2]
      exact e1
    · have hne : a ≠ gR st 101 2 := by omega
      have g2 : gR st2 100 a = gR st 100 a := by rw [hst]; simp [rNew, gR_sR, hne]; rfl
      rw [rfR_congr (fun q => by rw [hst]; show gL (zL st 9 (gR st 101 2)) 9 a q = _; rw [gL_zL, if_neg (fun h => hne h.2)]) g2]
      exact old _ (hP3 a e)
  · intro i hi
    rw [h100] at hi
    rw [h102]
    exact hD.1 i hi
  · intro i j hij hj
    rw [h100] at hj
    rw [h102, h102]
    exact hD.2.1 i j hij hj
  · intro a ha
    rcases hrows a ha with e | ⟨e, hal⟩
    · omega
    · exact hD.2.2.1 a e
  · intro a i ha hi
    rw [h100] at hi
    rw [h102]
    rcases hrows a ha with e | ⟨e, hal⟩
    · have := hlt i hi
      omega
    · exact hD.2.2.2.1 a i e hi
  · exact hD.2.2.2.2.1
  · intro i j hi hj
    rw [h100] at hi
    rw [h102]
    exact hD.2.2.2.2.2.1 i j hi hj
  · intro a ha
    rcases hrows a ha with e | ⟨e, hal⟩
    · exact hD.2.2.2.2.2.2.2 a (by omega)
    · exact hD.2.2.2.2.2.2.1 a e
  · intro q hq
    exact hD.2.2.2.2.2.2.2 q (by omega)
end RFR
end
