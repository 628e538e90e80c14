section
-- ===== PART A: goes FIRST, ahead of the names: the tables' words, and 'selects' of the private methods out of them =====
/-- a private method of a class that the tables say can be made, by its rows of tables_1 -/
def lw_okq (q : MethodName × Nat) : Prop := (q.1.cls ≠ "java/lang/invoke/MethodHandle" ∧ q.1.cls ≠ "java/lang/invoke/VarHandle") ∧ Cond.instantiable q.1.cls q.2 ∈ tables_1 ∧ Cond.privateMethod q.1 ∈ tables_1 ∧ Cond.instanceMethod q.1 ∈ tables_1
theorem lw_p0 : lw_okq (⟨"ReversibleParts$Table", "hasValue", "(I)Z"⟩, 6) := ⟨⟨by decide +kernel, by decide +kernel⟩, List.mem_of_getElem? (i := 19) (by decide +kernel), List.mem_of_getElem? (i := 125) (by decide +kernel), List.mem_of_getElem? (i := 126) (by decide +kernel)⟩
theorem lw_p1 : lw_okq (⟨"ReversibleParts$Table", "hasGate", "(I)Z"⟩, 6) := ⟨⟨by decide +kernel, by decide +kernel⟩, List.mem_of_getElem? (i := 19) (by decide +kernel), List.mem_of_getElem? (i := 137) (by decide +kernel), List.mem_of_getElem? (i := 138) (by decide +kernel)⟩
theorem lw_p2 : lw_okq (⟨"ReversibleParts$Table", "changeAll", "([II)V"⟩, 6) := ⟨⟨by decide +kernel, by decide +kernel⟩, List.mem_of_getElem? (i := 19) (by decide +kernel), List.mem_of_getElem? (i := 141) (by decide +kernel), List.mem_of_getElem? (i := 142) (by decide +kernel)⟩
theorem lw_p3 : lw_okq (⟨"ReversibleParts$Table", "settleRow", "(I)V"⟩, 6) := ⟨⟨by decide +kernel, by decide +kernel⟩, List.mem_of_getElem? (i := 19) (by decide +kernel), List.mem_of_getElem? (i := 157) (by decide +kernel), List.mem_of_getElem? (i := 158) (by decide +kernel)⟩
theorem lw_p4 : lw_okq (⟨"ReversibleParts$Table", "useGate", "(I)V"⟩, 6) := ⟨⟨by decide +kernel, by decide +kernel⟩, List.mem_of_getElem? (i := 19) (by decide +kernel), List.mem_of_getElem? (i := 161) (by decide +kernel), List.mem_of_getElem? (i := 162) (by decide +kernel)⟩
theorem lw_p5 : lw_okq (⟨"ReversibleParts$Forms", "fillLevel", "(I)V"⟩, 2) := ⟨⟨by decide +kernel, by decide +kernel⟩, List.mem_of_getElem? (i := 45) (by decide +kernel), List.mem_of_getElem? (i := 189) (by decide +kernel), List.mem_of_getElem? (i := 190) (by decide +kernel)⟩
theorem lw_p6 : lw_okq (⟨"ReversibleParts$Forms", "leastFrom", "(II)J"⟩, 2) := ⟨⟨by decide +kernel, by decide +kernel⟩, List.mem_of_getElem? (i := 45) (by decide +kernel), List.mem_of_getElem? (i := 195) (by decide +kernel), List.mem_of_getElem? (i := 196) (by decide +kernel)⟩
theorem lw_p7 : lw_okq (⟨"ReversibleParts$Steps", "forget", "()V"⟩, 7) := ⟨⟨by decide +kernel, by decide +kernel⟩, List.mem_of_getElem? (i := 60) (by decide +kernel), List.mem_of_getElem? (i := 237) (by decide +kernel), List.mem_of_getElem? (i := 238) (by decide +kernel)⟩
theorem lw_p8 : lw_okq (⟨"ReversibleParts$Steps", "search", "(I)LReversibleParts$Moves;"⟩, 7) := ⟨⟨by decide +kernel, by decide +kernel⟩, List.mem_of_getElem? (i := 60) (by decide +kernel), List.mem_of_getElem? (i := 263) (by decide +kernel), List.mem_of_getElem? (i := 264) (by decide +kernel)⟩
theorem lw_p9 : lw_okq (⟨"ReversibleParts$Steps", "makeRoom", "()V"⟩, 7) := ⟨⟨by decide +kernel, by decide +kernel⟩, List.mem_of_getElem? (i := 60) (by decide +kernel), List.mem_of_getElem? (i := 267) (by decide +kernel), List.mem_of_getElem? (i := 268) (by decide +kernel)⟩
theorem lw_p10 : lw_okq (⟨"ReversibleParts$Steps", "wantedSteps", "()I"⟩, 7) := ⟨⟨by decide +kernel, by decide +kernel⟩, List.mem_of_getElem? (i := 60) (by decide +kernel), List.mem_of_getElem? (i := 271) (by decide +kernel), List.mem_of_getElem? (i := 272) (by decide +kernel)⟩
theorem lw_p11 : lw_okq (⟨"ReversibleParts$Steps", "spreadFromGoal", "(II)V"⟩, 7) := ⟨⟨by decide +kernel, by decide +kernel⟩, List.mem_of_getElem? (i := 60) (by decide +kernel), List.mem_of_getElem? (i := 275) (by decide +kernel), List.mem_of_getElem? (i := 276) (by decide +kernel)⟩
theorem lw_p12 : lw_okq (⟨"ReversibleParts$Steps", "enter", "(II)V"⟩, 7) := ⟨⟨by decide +kernel, by decide +kernel⟩, List.mem_of_getElem? (i := 60) (by decide +kernel), List.mem_of_getElem? (i := 279) (by decide +kernel), List.mem_of_getElem? (i := 280) (by decide +kernel)⟩
theorem lw_p13 : lw_okq (⟨"ReversibleParts$Steps", "spreadFrom", "(III)V"⟩, 7) := ⟨⟨by decide +kernel, by decide +kernel⟩, List.mem_of_getElem? (i := 60) (by decide +kernel), List.mem_of_getElem? (i := 283) (by decide +kernel), List.mem_of_getElem? (i := 284) (by decide +kernel)⟩
theorem lw_p14 : lw_okq (⟨"ReversibleParts$Steps", "firstStepNearer", "(I)I"⟩, 7) := ⟨⟨by decide +kernel, by decide +kernel⟩, List.mem_of_getElem? (i := 60) (by decide +kernel), List.mem_of_getElem? (i := 297) (by decide +kernel), List.mem_of_getElem? (i := 298) (by decide +kernel)⟩
theorem lw_p15 : lw_okq (⟨"ReversibleParts$Steps", "fewestThinkable", "()I"⟩, 7) := ⟨⟨by decide +kernel, by decide +kernel⟩, List.mem_of_getElem? (i := 60) (by decide +kernel), List.mem_of_getElem? (i := 318) (by decide +kernel), List.mem_of_getElem? (i := 319) (by decide +kernel)⟩
def lw_privs_1 : List (MethodName × Nat) := [(⟨"ReversibleParts$Table", "hasValue", "(I)Z"⟩, 6), (⟨"ReversibleParts$Table", "hasGate", "(I)Z"⟩, 6), (⟨"ReversibleParts$Table", "changeAll", "([II)V"⟩, 6), (⟨"ReversibleParts$Table", "settleRow", "(I)V"⟩, 6), (⟨"ReversibleParts$Table", "useGate", "(I)V"⟩, 6), (⟨"ReversibleParts$Forms", "fillLevel", "(I)V"⟩, 2), (⟨"ReversibleParts$Forms", "leastFrom", "(II)J"⟩, 2), (⟨"ReversibleParts$Steps", "forget", "()V"⟩, 7), (⟨"ReversibleParts$Steps", "search", "(I)LReversibleParts$Moves;"⟩, 7), (⟨"ReversibleParts$Steps", "makeRoom", "()V"⟩, 7), (⟨"ReversibleParts$Steps", "wantedSteps", "()I"⟩, 7), (⟨"ReversibleParts$Steps", "spreadFromGoal", "(II)V"⟩, 7), (⟨"ReversibleParts$Steps", "enter", "(II)V"⟩, 7), (⟨"ReversibleParts$Steps", "spreadFrom", "(III)V"⟩, 7), (⟨"ReversibleParts$Steps", "firstStepNearer", "(I)I"⟩, 7), (⟨"ReversibleParts$Steps", "fewestThinkable", "()I"⟩, 7)]
theorem lw_r1 : ∀ q ∈ lw_privs_1, lw_okq q := List.forall_mem_cons.mpr ⟨lw_p0, List.forall_mem_cons.mpr ⟨lw_p1, List.forall_mem_cons.mpr ⟨lw_p2, List.forall_mem_cons.mpr ⟨lw_p3, List.forall_mem_cons.mpr ⟨lw_p4, List.forall_mem_cons.mpr ⟨lw_p5, List.forall_mem_cons.mpr ⟨lw_p6, List.forall_mem_cons.mpr ⟨lw_p7, List.forall_mem_cons.mpr ⟨lw_p8, List.forall_mem_cons.mpr ⟨lw_p9, List.forall_mem_cons.mpr ⟨lw_p10, List.forall_mem_cons.mpr ⟨lw_p11, List.forall_mem_cons.mpr ⟨lw_p12, List.forall_mem_cons.mpr ⟨lw_p13, List.forall_mem_cons.mpr ⟨lw_p14, List.forall_mem_cons.mpr ⟨lw_p15, fun _ h => absurd h List.not_mem_nil⟩⟩⟩⟩⟩⟩⟩⟩⟩⟩⟩⟩⟩⟩⟩⟩
theorem lw_p16 : lw_okq (⟨"ReversiblePartsModel", "start", "(I)V"⟩, 15) := ⟨⟨by decide +kernel, by decide +kernel⟩, List.mem_of_getElem? (i := 331) (by decide +kernel), List.mem_of_getElem? (i := 338) (by decide +kernel), List.mem_of_getElem? (i := 339) (by decide +kernel)⟩
theorem lw_p17 : lw_okq (⟨"ReversiblePartsModel", "isValue", "(I)Z"⟩, 15) := ⟨⟨by decide +kernel, by decide +kernel⟩, List.mem_of_getElem? (i := 331) (by decide +kernel), List.mem_of_getElem? (i := 397) (by decide +kernel), List.mem_of_getElem? (i := 398) (by decide +kernel)⟩
theorem lw_p18 : lw_okq (⟨"ReversiblePartsModel", "values", "()I"⟩, 15) := ⟨⟨by decide +kernel, by decide +kernel⟩, List.mem_of_getElem? (i := 331) (by decide +kernel), List.mem_of_getElem? (i := 401) (by decide +kernel), List.mem_of_getElem? (i := 402) (by decide +kernel)⟩
theorem lw_p19 : lw_okq (⟨"ReversiblePartsModel", "isPermutation", "()Z"⟩, 15) := ⟨⟨by decide +kernel, by decide +kernel⟩, List.mem_of_getElem? (i := 331) (by decide +kernel), List.mem_of_getElem? (i := 416) (by decide +kernel), List.mem_of_getElem? (i := 417) (by decide +kernel)⟩
theorem lw_p20 : lw_okq (⟨"ReversiblePartsModel", "findGates", "()V"⟩, 15) := ⟨⟨by decide +kernel, by decide +kernel⟩, List.mem_of_getElem? (i := 331) (by decide +kernel), List.mem_of_getElem? (i := 420) (by decide +kernel), List.mem_of_getElem? (i := 421) (by decide +kernel)⟩
theorem lw_p21 : lw_okq (⟨"ReversiblePartsModel", "doGate", "(II)V"⟩, 15) := ⟨⟨by decide +kernel, by decide +kernel⟩, List.mem_of_getElem? (i := 331) (by decide +kernel), List.mem_of_getElem? (i := 424) (by decide +kernel), List.mem_of_getElem? (i := 425) (by decide +kernel)⟩
theorem lw_p22 : lw_okq (⟨"ReversiblePartsModel", "functions", "()I"⟩, 15) := ⟨⟨by decide +kernel, by decide +kernel⟩, List.mem_of_getElem? (i := 331) (by decide +kernel), List.mem_of_getElem? (i := 436) (by decide +kernel), List.mem_of_getElem? (i := 437) (by decide +kernel)⟩
theorem lw_p23 : lw_okq (⟨"ReversiblePartsModel", "findCosts", "()V"⟩, 15) := ⟨⟨by decide +kernel, by decide +kernel⟩, List.mem_of_getElem? (i := 331) (by decide +kernel), List.mem_of_getElem? (i := 440) (by decide +kernel), List.mem_of_getElem? (i := 441) (by decide +kernel)⟩
theorem lw_p24 : lw_okq (⟨"ReversiblePartsModel", "products", "()I"⟩, 15) := ⟨⟨by decide +kernel, by decide +kernel⟩, List.mem_of_getElem? (i := 331) (by decide +kernel), List.mem_of_getElem? (i := 444) (by decide +kernel), List.mem_of_getElem? (i := 445) (by decide +kernel)⟩
theorem lw_p25 : lw_okq (⟨"ReversiblePartsModel", "productAt", "(I)I"⟩, 15) := ⟨⟨by decide +kernel, by decide +kernel⟩, List.mem_of_getElem? (i := 331) (by decide +kernel), List.mem_of_getElem? (i := 448) (by decide +kernel), List.mem_of_getElem? (i := 449) (by decide +kernel)⟩
theorem lw_p26 : lw_okq (⟨"ReversiblePartsModel", "functionFor", "(I)I"⟩, 15) := ⟨⟨by decide +kernel, by decide +kernel⟩, List.mem_of_getElem? (i := 331) (by decide +kernel), List.mem_of_getElem? (i := 452) (by decide +kernel), List.mem_of_getElem? (i := 453) (by decide +kernel)⟩
theorem lw_p27 : lw_okq (⟨"ReversiblePartsModel", "costAt", "(I)I"⟩, 15) := ⟨⟨by decide +kernel, by decide +kernel⟩, List.mem_of_getElem? (i := 331) (by decide +kernel), List.mem_of_getElem? (i := 456) (by decide +kernel), List.mem_of_getElem? (i := 457) (by decide +kernel)⟩
theorem lw_p28 : lw_okq (⟨"ReversiblePartsModel", "findEnd", "(I)I"⟩, 15) := ⟨⟨by decide +kernel, by decide +kernel⟩, List.mem_of_getElem? (i := 331) (by decide +kernel), List.mem_of_getElem? (i := 476) (by decide +kernel), List.mem_of_getElem? (i := 477) (by decide +kernel)⟩
theorem lw_p29 : lw_okq (⟨"ReversiblePartsModel", "lengthTo", "(I)I"⟩, 15) := ⟨⟨by decide +kernel, by decide +kernel⟩, List.mem_of_getElem? (i := 331) (by decide +kernel), List.mem_of_getElem? (i := 483) (by decide +kernel), List.mem_of_getElem? (i := 484) (by decide +kernel)⟩
def lw_privs_2 : List (MethodName × Nat) := [(⟨"ReversiblePartsModel", "start", "(I)V"⟩, 15), (⟨"ReversiblePartsModel", "isValue", "(I)Z"⟩, 15), (⟨"ReversiblePartsModel", "values", "()I"⟩, 15), (⟨"ReversiblePartsModel", "isPermutation", "()Z"⟩, 15), (⟨"ReversiblePartsModel", "findGates", "()V"⟩, 15), (⟨"ReversiblePartsModel", "doGate", "(II)V"⟩, 15), (⟨"ReversiblePartsModel", "functions", "()I"⟩, 15), (⟨"ReversiblePartsModel", "findCosts", "()V"⟩, 15), (⟨"ReversiblePartsModel", "products", "()I"⟩, 15), (⟨"ReversiblePartsModel", "productAt", "(I)I"⟩, 15), (⟨"ReversiblePartsModel", "functionFor", "(I)I"⟩, 15), (⟨"ReversiblePartsModel", "costAt", "(I)I"⟩, 15), (⟨"ReversiblePartsModel", "findEnd", "(I)I"⟩, 15), (⟨"ReversiblePartsModel", "lengthTo", "(I)I"⟩, 15)]
theorem lw_r2 : ∀ q ∈ lw_privs_2, lw_okq q := List.forall_mem_cons.mpr ⟨lw_p16, List.forall_mem_cons.mpr ⟨lw_p17, List.forall_mem_cons.mpr ⟨lw_p18, List.forall_mem_cons.mpr ⟨lw_p19, List.forall_mem_cons.mpr ⟨lw_p20, List.forall_mem_cons.mpr ⟨lw_p21, List.forall_mem_cons.mpr ⟨lw_p22, List.forall_mem_cons.mpr ⟨lw_p23, List.forall_mem_cons.mpr ⟨lw_p24, List.forall_mem_cons.mpr ⟨lw_p25, List.forall_mem_cons.mpr ⟨lw_p26, List.forall_mem_cons.mpr ⟨lw_p27, List.forall_mem_cons.mpr ⟨lw_p28, List.forall_mem_cons.mpr ⟨lw_p29, fun _ h => absurd h List.not_mem_nil⟩⟩⟩⟩⟩⟩⟩⟩⟩⟩⟩⟩⟩⟩
def lw_privs : List (MethodName × Nat) := lw_privs_1 ++ (lw_privs_2)
def lw_tbl : List Cond := k2_sels lw_privs ++ tables_1
theorem lw_privs_ok : ∀ q ∈ lw_privs, lw_okq q := by
  show ∀ q ∈ lw_privs_1 ++ (lw_privs_2), lw_okq q
  exact List.forall_mem_append.mpr ⟨lw_r1, lw_r2⟩
end
section
def RF : String := "ReversibleParts$Forms"
def TF : u_T := fun k => match k with
  | 0 => ("ReversibleParts$Forms", "row", "[J", true)
  | _ => ("ReversibleParts$Forms", "filled", "I", false)
def tyF : Nat → FieldType := fun k => match k with
  | 0 => .array .long
  | _ => .int
theorem nmF : ∀ a, a < 2 → ∀ b, b < 2 → a ≠ b → (TF a).2.1 ≠ (TF b).2.1 := by decide +kernel
theorem tyokF : ∀ k, k < 2 → parseFieldDescriptor (TF k).2.2.1 = some (tyF k) := by decide +kernel
def RV : String := "ReversibleParts$Moves"
def TV : u_T := fun k => match k with
  | _ => ("ReversibleParts$Moves", "row", "[I", true)
def tyV : Nat → FieldType := fun k => match k with
  | _ => .array .int
theorem nmV : ∀ a, a < 1 → ∀ b, b < 1 → a ≠ b → (TV a).2.1 ≠ (TV b).2.1 := by decide +kernel
theorem tyokV : ∀ k, k < 1 → parseFieldDescriptor (TV k).2.2.1 = some (tyV k) := by decide +kernel
def RS : String := "ReversibleParts$Steps"
def TS : u_T := fun k => match k with
  | 0 => ("ReversibleParts$Steps", "count", "I", false)
  | 1 => ("ReversibleParts$Steps", "needs", "[I", true)
  | 2 => ("ReversibleParts$Steps", "known", "[LReversibleParts$Moves;", true)
  | 3 => ("ReversibleParts$Steps", "nothing", "LReversibleParts$Moves;", true)
  | 4 => ("ReversibleParts$Steps", "left", "[I", false)
  | 5 => ("ReversibleParts$Steps", "queue", "[I", false)
  | _ => ("ReversibleParts$Steps", "queued", "I", false)
def tyS : Nat → FieldType := fun k => match k with
  | 0 => .int
  | 1 => .array .int
  | 2 => .array (.object "ReversibleParts$Moves")
  | 3 => .object "ReversibleParts$Moves"
  | 4 => .array .int
  | 5 => .array .int
  | _ => .int
theorem nmS : ∀ a, a < 7 → ∀ b, b < 7 → a ≠ b → (TS a).2.1 ≠ (TS b).2.1 := by decide +kernel
theorem tyokS : ∀ k, k < 7 → parseFieldDescriptor (TS k).2.2.1 = some (tyS k) := by decide +kernel
def RT : String := "ReversibleParts$Table"
def TT : u_T := fun k => match k with
  | 0 => ("ReversibleParts$Table", "bits", "I", false)
  | 1 => ("ReversibleParts$Table", "size", "I", false)
  | 2 => ("ReversibleParts$Table", "to", "[I", true)
  | 3 => ("ReversibleParts$Table", "rest", "[I", true)
  | 4 => ("ReversibleParts$Table", "found", "[I", true)
  | _ => ("ReversibleParts$Table", "foundCount", "I", false)
def tyT : Nat → FieldType := fun k => match k with
  | 0 => .int
  | 1 => .int
  | 2 => .array .int
  | 3 => .array .int
  | 4 => .array .int
  | _ => .int
theorem nmT : ∀ a, a < 6 → ∀ b, b < 6 → a ≠ b → (TT a).2.1 ≠ (TT b).2.1 := by decide +kernel
theorem tyokT : ∀ k, k < 6 → parseFieldDescriptor (TT k).2.2.1 = some (tyT k) := by decide +kernel
def RR : String := "ReversibleParts"
def TR : u_T := fun k => match k with
  | 0 => ("ReversibleParts", "table", "LReversibleParts$Table;", true)
  | 1 => ("ReversibleParts", "forms", "LReversibleParts$Forms;", true)
  | _ => ("ReversibleParts", "steps", "LReversibleParts$Steps;", true)
def tyR : Nat → FieldType := fun k => match k with
  | 0 => .object "ReversibleParts$Table"
  | 1 => .object "ReversibleParts$Forms"
  | _ => .object "ReversibleParts$Steps"
theorem nmR : ∀ a, a < 3 → ∀ b, b < 3 → a ≠ b → (TR a).2.1 ≠ (TR b).2.1 := by decide +kernel
theorem tyokR : ∀ k, k < 3 → parseFieldDescriptor (TR k).2.2.1 = some (tyR k) := by decide +kernel
def RM : String := "ReversiblePartsModel"
def TM : u_T := fun k => match k with
  | 0 => ("ReversiblePartsModel", "thrown", "I", false)
  | 1 => ("ReversiblePartsModel", "bits", "I", false)
  | 2 => ("ReversiblePartsModel", "table", "[I", true)
  | 3 => ("ReversiblePartsModel", "steps", "I", false)
  | 4 => ("ReversiblePartsModel", "needs", "[I", true)
  | 5 => ("ReversiblePartsModel", "work", "[I", true)
  | 6 => ("ReversiblePartsModel", "made", "[I", true)
  | 7 => ("ReversiblePartsModel", "many", "I", false)
  | 8 => ("ReversiblePartsModel", "isKnown", "[Z", true)
  | 9 => ("ReversiblePartsModel", "cost", "[I", true)
  | 10 => ("ReversiblePartsModel", "functionOf", "[I", true)
  | 11 => ("ReversiblePartsModel", "isCome", "[Z", true)
  | 12 => ("ReversiblePartsModel", "queue", "[I", true)
  | 13 => ("ReversiblePartsModel", "source", "[I", true)
  | _ => ("ReversiblePartsModel", "by", "[I", true)
def tyM : Nat → FieldType := fun k => match k with
  | 0 => .int
  | 1 => .int
  | 2 => .array .int
  | 3 => .int
  | 4 => .array .int
  | 5 => .array .int
  | 6 => .array .int
  | 7 => .int
  | 8 => .array .boolean
  | 9 => .array .int
  | 10 => .array .int
  | 11 => .array .boolean
  | 12 => .array .int
  | 13 => .array .int
  | _ => .array .int
theorem nmM : ∀ a, a < 15 → ∀ b, b < 15 → a ≠ b → (TM a).2.1 ≠ (TM b).2.1 := by decide +kernel
theorem tyokM : ∀ k, k < 15 → parseFieldDescriptor (TM k).2.2.1 = some (tyM k) := by decide +kernel
abbrev vwCl : List vw_C := [(RF, TF, 2), (RV, TV, 1), (RS, TS, 7), (RT, TT, 6), (RR, TR, 3), (RM, TM, 15)]
abbrev bR_init : ByteArray := prog_1_method_1_code
def yR_init : MethodName := ⟨"ReversibleParts", "<init>", "()V"⟩
abbrev bT_init : ByteArray := prog_6_method_1_code
def yT_init : MethodName := ⟨"ReversibleParts$Table", "<init>", "()V"⟩
abbrev bF_init : ByteArray := prog_2_method_1_code
def yF_init : MethodName := ⟨"ReversibleParts$Forms", "<init>", "()V"⟩
abbrev bS_init : ByteArray := prog_5_method_1_code
def yS_init : MethodName := ⟨"ReversibleParts$Steps", "<init>", "()V"⟩
abbrev bV_init : ByteArray := prog_3_method_1_code
def yV_init : MethodName := ⟨"ReversibleParts$Moves", "<init>", "(I)V"⟩
abbrev bR_begin : ByteArray := prog_1_method_2_code
def yR_begin : MethodName := ⟨"ReversibleParts", "begin", "(I)Z"⟩
abbrev bT_startWith : ByteArray := prog_6_method_2_code
def yT_startWith : MethodName := ⟨"ReversibleParts$Table", "startWith", "(I)Z"⟩
abbrev bR_put : ByteArray := prog_1_method_3_code
def yR_put : MethodName := ⟨"ReversibleParts", "put", "(II)Z"⟩
abbrev bT_set : ByteArray := prog_6_method_7_code
def yT_set : MethodName := ⟨"ReversibleParts$Table", "set", "(II)Z"⟩
abbrev bT_hasValue : ByteArray := prog_6_method_4_code
def yT_hasValue : MethodName := ⟨"ReversibleParts$Table", "hasValue", "(I)Z"⟩
abbrev bR_apply : ByteArray := prog_1_method_4_code
def yR_apply : MethodName := ⟨"ReversibleParts", "apply", "(I)Z"⟩
abbrev bT_change : ByteArray := prog_6_method_8_code
def yT_change : MethodName := ⟨"ReversibleParts$Table", "change", "(I)Z"⟩
abbrev bT_hasGate : ByteArray := prog_6_method_5_code
def yT_hasGate : MethodName := ⟨"ReversibleParts$Table", "hasGate", "(I)Z"⟩
abbrev bT_changeAll : ByteArray := prog_6_method_14_code
def yT_changeAll : MethodName := ⟨"ReversibleParts$Table", "changeAll", "([II)V"⟩
abbrev bR_gate : ByteArray := prog_1_method_5_code
def yR_gate : MethodName := ⟨"ReversibleParts", "gate", "(I)I"⟩
abbrev bT_isPermutation : ByteArray := prog_6_method_9_code
def yT_isPermutation : MethodName := ⟨"ReversibleParts$Table", "isPermutation", "()Z"⟩
abbrev bT_findGates : ByteArray := prog_6_method_10_code
def yT_findGates : MethodName := ⟨"ReversibleParts$Table", "findGates", "()I"⟩
abbrev bT_settleRow : ByteArray := prog_6_method_12_code
def yT_settleRow : MethodName := ⟨"ReversibleParts$Table", "settleRow", "(I)V"⟩
abbrev bT_useGate : ByteArray := prog_6_method_13_code
def yT_useGate : MethodName := ⟨"ReversibleParts$Table", "useGate", "(I)V"⟩
abbrev bT_foundFromLast : ByteArray := prog_6_method_11_code
def yT_foundFromLast : MethodName := ⟨"ReversibleParts$Table", "foundFromLast", "(I)I"⟩
abbrev bR_look : ByteArray := prog_1_method_6_code
def yR_look : MethodName := ⟨"ReversibleParts", "look", "(I)I"⟩
abbrev bT_get : ByteArray := prog_6_method_6_code
def yT_get : MethodName := ⟨"ReversibleParts$Table", "get", "(I)I"⟩
abbrev bR_form : ByteArray := prog_1_method_7_code
def yR_form : MethodName := ⟨"ReversibleParts", "form", "(II)I"⟩
abbrev bT_bitCount : ByteArray := prog_6_method_3_code
def yT_bitCount : MethodName := ⟨"ReversibleParts$Table", "bitCount", "()I"⟩
abbrev bF_least : ByteArray := prog_2_method_4_code
def yF_least : MethodName := ⟨"ReversibleParts$Forms", "least", "(II)J"⟩
abbrev bF_fillLevel : ByteArray := prog_2_method_5_code
def yF_fillLevel : MethodName := ⟨"ReversibleParts$Forms", "fillLevel", "(I)V"⟩
abbrev bF_leastFrom : ByteArray := prog_2_method_6_code
def yF_leastFrom : MethodName := ⟨"ReversibleParts$Forms", "leastFrom", "(II)J"⟩
abbrev bP_count : ByteArray := prog_4_method_2_code
def yP_count : MethodName := ⟨"ReversibleParts$Products", "count", "(I)I"⟩
abbrev bF_sizeOf : ByteArray := prog_2_method_2_code
def yF_sizeOf : MethodName := ⟨"ReversibleParts$Forms", "sizeOf", "(J)I"⟩
abbrev bF_join : ByteArray := prog_2_method_7_code
def yF_join : MethodName := ⟨"ReversibleParts$Forms", "join", "(JJI)J"⟩
abbrev bF_numberAt : ByteArray := prog_2_method_3_code
def yF_numberAt : MethodName := ⟨"ReversibleParts$Forms", "numberAt", "(JI)I"⟩
abbrev bR_product : ByteArray := prog_1_method_8_code
def yR_product : MethodName := ⟨"ReversibleParts", "product", "(I)I"⟩
abbrev bP_function : ByteArray := prog_4_method_3_code
def yP_function : MethodName := ⟨"ReversibleParts$Products", "function", "(II)I"⟩
abbrev bP_holds : ByteArray := prog_4_method_4_code
def yP_holds : MethodName := ⟨"ReversibleParts$Products", "holds", "(III)Z"⟩
abbrev bR_program : ByteArray := prog_1_method_9_code
def yR_program : MethodName := ⟨"ReversibleParts", "program", "(I)Z"⟩
abbrev bS_startWith : ByteArray := prog_5_method_2_code
def yS_startWith : MethodName := ⟨"ReversibleParts$Steps", "startWith", "(I)Z"⟩
abbrev bS_forget : ByteArray := prog_5_method_7_code
def yS_forget : MethodName := ⟨"ReversibleParts$Steps", "forget", "()V"⟩
abbrev bR_need : ByteArray := prog_1_method_10_code
def yR_need : MethodName := ⟨"ReversibleParts", "need", "(II)Z"⟩
abbrev bS_setNeeds : ByteArray := prog_5_method_4_code
def yS_setNeeds : MethodName := ⟨"ReversibleParts$Steps", "setNeeds", "(II)Z"⟩
abbrev bR_move : ByteArray := prog_1_method_11_code
def yR_move : MethodName := ⟨"ReversibleParts", "move", "(II)I"⟩
abbrev bS_movesWithin : ByteArray := prog_5_method_6_code
def yS_movesWithin : MethodName := ⟨"ReversibleParts$Steps", "movesWithin", "(I)LReversibleParts$Moves;"⟩
abbrev bS_search : ByteArray := prog_5_method_10_code
def yS_search : MethodName := ⟨"ReversibleParts$Steps", "search", "(I)LReversibleParts$Moves;"⟩
abbrev bS_makeRoom : ByteArray := prog_5_method_11_code
def yS_makeRoom : MethodName := ⟨"ReversibleParts$Steps", "makeRoom", "()V"⟩
abbrev bS_wantedSteps : ByteArray := prog_5_method_9_code
def yS_wantedSteps : MethodName := ⟨"ReversibleParts$Steps", "wantedSteps", "()I"⟩
abbrev bS_spreadFromGoal : ByteArray := prog_5_method_12_code
def yS_spreadFromGoal : MethodName := ⟨"ReversibleParts$Steps", "spreadFromGoal", "(II)V"⟩
abbrev bS_enter : ByteArray := prog_5_method_14_code
def yS_enter : MethodName := ⟨"ReversibleParts$Steps", "enter", "(II)V"⟩
abbrev bS_spreadFrom : ByteArray := prog_5_method_13_code
def yS_spreadFrom : MethodName := ⟨"ReversibleParts$Steps", "spreadFrom", "(III)V"⟩
abbrev bJ_bitCount : ByteArray := prog_9_method_49_code
def yJ_bitCount : MethodName := ⟨"java/lang/Integer", "bitCount", "(I)I"⟩
abbrev bV_length : ByteArray := prog_3_method_2_code
def yV_length : MethodName := ⟨"ReversibleParts$Moves", "length", "()I"⟩
abbrev bS_firstStepNearer : ByteArray := prog_5_method_15_code
def yS_firstStepNearer : MethodName := ⟨"ReversibleParts$Steps", "firstStepNearer", "(I)I"⟩
abbrev bV_set : ByteArray := prog_3_method_4_code
def yV_set : MethodName := ⟨"ReversibleParts$Moves", "set", "(II)V"⟩
abbrev bV_at : ByteArray := prog_3_method_3_code
def yV_at : MethodName := ⟨"ReversibleParts$Moves", "at", "(I)I"⟩
abbrev bR_marks : ByteArray := prog_1_method_12_code
def yR_marks : MethodName := ⟨"ReversibleParts", "marks", "()I"⟩
abbrev bS_fewestMarks : ByteArray := prog_5_method_5_code
def yS_fewestMarks : MethodName := ⟨"ReversibleParts$Steps", "fewestMarks", "()I"⟩
abbrev bS_fewestThinkable : ByteArray := prog_5_method_8_code
def yS_fewestThinkable : MethodName := ⟨"ReversibleParts$Steps", "fewestThinkable", "()I"⟩
abbrev bR_total : ByteArray := prog_1_method_13_code
def yR_total : MethodName := ⟨"ReversibleParts", "total", "(I)I"⟩
abbrev bS_count : ByteArray := prog_5_method_3_code
def yS_count : MethodName := ⟨"ReversibleParts$Steps", "count", "()I"⟩
abbrev bM_init : ByteArray := prog_8_method_1_code
def yM_init : MethodName := ⟨"ReversiblePartsModel", "<init>", "()V"⟩
abbrev bM_start : ByteArray := prog_8_method_3_code
def yM_start : MethodName := ⟨"ReversiblePartsModel", "start", "(I)V"⟩
abbrev bM_begin : ByteArray := prog_8_method_6_code
def yM_begin : MethodName := ⟨"ReversiblePartsModel", "begin", "(I)Z"⟩
abbrev bM_put : ByteArray := prog_8_method_7_code
def yM_put : MethodName := ⟨"ReversiblePartsModel", "put", "(II)Z"⟩
abbrev bM_isValue : ByteArray := prog_8_method_5_code
def yM_isValue : MethodName := ⟨"ReversiblePartsModel", "isValue", "(I)Z"⟩
abbrev bM_values : ByteArray := prog_8_method_4_code
def yM_values : MethodName := ⟨"ReversiblePartsModel", "values", "()I"⟩
abbrev bM_apply : ByteArray := prog_8_method_9_code
def yM_apply : MethodName := ⟨"ReversiblePartsModel", "apply", "(I)Z"⟩
abbrev bM_changed : ByteArray := prog_8_method_8_code
def yM_changed : MethodName := ⟨"ReversiblePartsModel", "changed", "(III)I"⟩
abbrev bM_gate : ByteArray := prog_8_method_13_code
def yM_gate : MethodName := ⟨"ReversiblePartsModel", "gate", "(I)I"⟩
abbrev bM_isPermutation : ByteArray := prog_8_method_10_code
def yM_isPermutation : MethodName := ⟨"ReversiblePartsModel", "isPermutation", "()Z"⟩
abbrev bM_findGates : ByteArray := prog_8_method_12_code
def yM_findGates : MethodName := ⟨"ReversiblePartsModel", "findGates", "()V"⟩
abbrev bM_doGate : ByteArray := prog_8_method_11_code
def yM_doGate : MethodName := ⟨"ReversiblePartsModel", "doGate", "(II)V"⟩
abbrev bM_look : ByteArray := prog_8_method_14_code
def yM_look : MethodName := ⟨"ReversiblePartsModel", "look", "(I)I"⟩
abbrev bM_form : ByteArray := prog_8_method_21_code
def yM_form : MethodName := ⟨"ReversiblePartsModel", "form", "(II)I"⟩
abbrev bM_functions : ByteArray := prog_8_method_18_code
def yM_functions : MethodName := ⟨"ReversiblePartsModel", "functions", "()I"⟩
abbrev bM_findCosts : ByteArray := prog_8_method_20_code
def yM_findCosts : MethodName := ⟨"ReversiblePartsModel", "findCosts", "()V"⟩
abbrev bM_products : ByteArray := prog_8_method_17_code
def yM_products : MethodName := ⟨"ReversiblePartsModel", "products", "()I"⟩
abbrev bM_productAt : ByteArray := prog_8_method_16_code
def yM_productAt : MethodName := ⟨"ReversiblePartsModel", "productAt", "(I)I"⟩
abbrev bM_functionFor : ByteArray := prog_8_method_19_code
def yM_functionFor : MethodName := ⟨"ReversiblePartsModel", "functionFor", "(I)I"⟩
abbrev bM_costAt : ByteArray := prog_8_method_15_code
def yM_costAt : MethodName := ⟨"ReversiblePartsModel", "costAt", "(I)I"⟩
abbrev bM_product : ByteArray := prog_8_method_22_code
def yM_product : MethodName := ⟨"ReversiblePartsModel", "product", "(I)I"⟩
abbrev bM_program : ByteArray := prog_8_method_23_code
def yM_program : MethodName := ⟨"ReversiblePartsModel", "program", "(I)Z"⟩
abbrev bM_need : ByteArray := prog_8_method_24_code
def yM_need : MethodName := ⟨"ReversiblePartsModel", "need", "(II)Z"⟩
abbrev bM_move : ByteArray := prog_8_method_28_code
def yM_move : MethodName := ⟨"ReversiblePartsModel", "move", "(II)I"⟩
abbrev bM_findEnd : ByteArray := prog_8_method_26_code
def yM_findEnd : MethodName := ⟨"ReversiblePartsModel", "findEnd", "(I)I"⟩
abbrev bM_count : ByteArray := prog_8_method_25_code
def yM_count : MethodName := ⟨"ReversiblePartsModel", "count", "(I)I"⟩
abbrev bM_lengthTo : ByteArray := prog_8_method_27_code
def yM_lengthTo : MethodName := ⟨"ReversiblePartsModel", "lengthTo", "(I)I"⟩
abbrev bM_marks : ByteArray := prog_8_method_29_code
def yM_marks : MethodName := ⟨"ReversiblePartsModel", "marks", "()I"⟩
abbrev bM_total : ByteArray := prog_8_method_30_code
def yM_total : MethodName := ⟨"ReversiblePartsModel", "total", "(I)I"⟩
end
section
section JK0
abbrev jE : Type := va_G × (Nat → Nat)
abbrev jL : Type := List (Nat × Value)
abbrev jJ : Type := Nat → jL → List Value → va_W → Nat → Nat → Prop
def jTys (E : jE) : List (ClassId × FieldType) := [(E.2 0, .int), (E.2 1, .long), (E.2 2, .boolean), (E.2 3, .object "ReversibleParts$Moves")]
def jTW : List Cond := lw_tbl.filter goodWord
/-- the table START, which nobody writes -/
def jsT (j : Nat) : Nat := match j with | 0 => 0 | 1 => 2 | 2 => 6 | _ => 22
def jST (E : jE) (A : Nat → Prop) (U : State) (H : Heap) : Prop := va_Z "ReversibleParts$Forms" "START" "[I" (.ref (E.2 4)) A U H ∧ va_T .int (E.2 4) 4 (fun j => .int (nI (jsT j))) A U H ∧ va_AO "ReversibleParts$Moves" U
theorem jST.moved {E : jE} {A : Nat → Prop} {u U : State} {H : Heap} (hvm : u.vm.Alike U.vm) (h : jST E A u H) : jST E A U H := ⟨h.1.moved hvm, h.2.1.moved hvm, h.2.2.moved hvm⟩
theorem jST.kept {E : jE} {A : Nat → Prop} {U : State} {H H1 : Heap} (h : jST E A U H) (hq : ∀ a : Nat, a < H.size → ¬ A a → H1[a]? = H[a]?) : jST E A U H1 := ⟨h.1.kept hq, h.2.1.kept hq, h.2.2⟩
theorem jST.narrow {E : jE} {A B : Nat → Prop} {U : State} {H : Heap} (h : jST E A U H) (hAB : ∀ q, B q → A q) : jST E B U H := ⟨h.1.narrow hAB, h.2.1.narrow hAB, h.2.2⟩
/-- the judgement: from every heap that holds the cells ws, the frame at pc comes to Q -/
def jV (p : Program) (l : Launch) (e : Env) (R : Room) (s : State) (m : MethodId) (args : Array Value) (below : List Frame) (meth : Method) (c : Code) (Q : State → Prop) (A : Nat → Prop) (E : jE) (nL : Nat) : jJ := fun pc lv st ws cells slots =>
  ∀ (H : Heap) (locs : List Loc) (ls : Array Slot), va_P E.1 vwCl ws H → va_D A ws → va_S A s.heap H locs → lv_has ls nL lv → W p l e R s m args below meth c H locs cells slots Q (F0 m pc ls st)
/-- J is such a judgement, of a method of the class own with the bytes cc and nL locals, in the room R -/
def jI (E : jE) (own : String) (cc : ByteArray) (nL : Nat) (p : Program) (s : State) (m : MethodId) (args : Array Value) (meth : Method) (c : Code) (A : Nat → Prop) : Prop :=
  p.tables.exec = Jvm.exec ∧ c.code = cc ∧ c.maxLocals = nL ∧ s.vm.findClass own = some m.cls ∧ (∀ w ∈ jTW, w.before args s = true) ∧ (∀ q, s.heap.size ≤ q → A q) ∧ va_K E.1 vwCl (jTys E) s ∧ jST E A s s.heap ∧ meth.locks = false
def jC (E : jE) (l : Launch) (own : String) (cc : ByteArray) (nL : Nat) (R : Room) (J : jJ) : Prop :=
  ∃ (p : Program) (e : Env) (s : State) (m : MethodId) (args : Array Value) (below : List Frame) (meth : Method) (c : Code) (Q : State → Prop) (A : Nat → Prop),
    jI E own cc nL p s m args meth c A ∧ J = jV p l e R s m args below meth c Q A E nL
theorem jgood : GoodIn jTW jTW := fun w h => ⟨h, good_of_word (List.mem_filter.mp h).2⟩
theorem jgood0 : GoodIn lw_tbl jTW := fun w h => ⟨(List.mem_filter.mp h).1, good_of_word (List.mem_filter.mp h).2⟩
theorem j_in {w : Cond} (h : w ∈ lw_tbl) (g : goodWord w = true) : w ∈ jTW := List.mem_filter.mpr ⟨h, g⟩
theorem j_at {w : Cond} (i : Nat) (h : lw_tbl[i]? = some w) (g : goodWord w = true) : w ∈ jTW := j_in (List.mem_of_getElem? h) g
-- cells
abbrev kI (E : jE) (a n : Nat) (t : Nat → Nat) : Nat × va_E := (a, .inl (E.2 0, n, .inl (fun j => nI (t j))))
abbrev kR (E : jE) (a n : Nat) (f : Nat → Int32) : Nat × va_E := (a, .inl (E.2 0, n, .inl f))
abbrev kL (E : jE) (a n : Nat) (f : Nat → Int64) : Nat × va_E := (a, .inl (E.2 1, n, .inr (.inl f)))
abbrev kZ (E : jE) (a n : Nat) (f : Nat → Int32) : Nat × va_E := (a, .inl (E.2 2, n, .inl f))
abbrev kQ (E : jE) (a n : Nat) (f : Nat → Option Nat) : Nat × va_E := (a, .inl (E.2 3, n, .inr (.inr (.inr (.inr f)))))
def upN (t : Nat → Nat) (k x : Nat) : Nat → Nat := fun j => if j = k then x else t j
theorem upN_nI (t : Nat → Nat) (k x : Nat) : upd (fun j => nI (t j)) k (nI x) = fun j => nI (upN t k x j) := by
  funext j
  unfold upd upN
  split <;> rfl
theorem upN_s {t : Nat → Nat} {k x : Nat} : upN t k x k = x := by simp [upN]
theorem upN_n {t : Nat → Nat} {k x j : Nat} (h : j ≠ k) : upN t k x j = t j := by simp [upN, h]
-- cells as a set
theorem jP_iff {D : va_G} {cl : List vw_C} {ws : va_W} {H : Heap} : va_P D cl ws H ↔ ∀ q ∈ ws, va_at D cl q H :=
  ⟨fun h q hq => by obtain ⟨k, hk⟩ := List.getElem?_of_mem hq; exact h k q hk, fun h k q hk => h q (List.mem_of_getElem? hk)⟩
theorem jD_iff {A : Nat → Prop} {ws : va_W} : va_D A ws ↔ List.Pairwise (fun x y : Nat × va_E => x.1 ≠ y.1) ws ∧ ∀ q ∈ ws, A q.1 := by
  constructor
  · intro h
    refine ⟨List.pairwise_iff_getElem.mpr fun i j hi hj hij he => ?_, fun q hq => ?_⟩
    · have := h.1 i j ws[i] ws[j] (List.getElem?_eq_getElem hi) (List.getElem?_eq_getElem hj) he
      omega
    · obtain ⟨k, hk⟩ := List.getElem?_of_mem hq
      exact h.2 k q hk
  · intro h
    refine ⟨fun i j x y hx hy he => ?_, fun k q hk => h.2 q (List.mem_of_getElem? hk)⟩
    obtain ⟨hi, rfl⟩ := List.getElem?_eq_some_iff.mp hx
    obtain ⟨hj, rfl⟩ := List.getElem?_eq_some_iff.mp hy
    have hp := List.pairwise_iff_getElem.mp h.1
    rcases Nat.lt_trichotomy i j with q | q | q
    · exact absurd he (hp i j hi hj q)
    · exact q
    · exact absurd he.symm (hp j i hj hi q)
theorem jD_app {A : Nat → Prop} {a b : va_W} : va_D A (a ++ b) ↔ va_D A a ∧ va_D A b ∧ ∀ x ∈ a, ∀ y ∈ b, x.1 ≠ y.1 := by
  rw [jD_iff, jD_iff, jD_iff, List.pairwise_append]
  constructor
  · rintro ⟨⟨h1, h2, h3⟩, h4⟩
    exact ⟨⟨h1, fun q hq => h4 q (List.mem_append_left _ hq)⟩, ⟨h2, fun q hq => h4 q (List.mem_append_right _ hq)⟩, h3⟩
  · rintro ⟨⟨h1, h2⟩, ⟨h3, h4⟩, h5⟩
    exact ⟨⟨h1, h3, h5⟩, fun q hq => (List.mem_append.mp hq).elim (h2 q) (h4 q)⟩
theorem jP_app {D : va_G} {cl : List vw_C} {a b : va_W} {H : Heap} : va_P D cl (a ++ b) H ↔ va_P D cl a H ∧ va_P D cl b H := by
  rw [jP_iff, jP_iff, jP_iff]
  exact ⟨fun h => ⟨fun q hq => h q (List.mem_append_left _ hq), fun q hq => h q (List.mem_append_right _ hq)⟩, fun h q hq => (List.mem_append.mp hq).elim (h.1 q) (h.2 q)⟩
/-- behind a call: the callee's cells wc have become w1, what stood before and behind them is as it was -/
theorem j_join {A : Nat → Prop} {D : va_G} {cl : List vw_C} {pre wc po w1 : va_W} {H H1 : Heap} (hP : va_P D cl (pre ++ wc ++ po) H) (hD : va_D A (pre ++ wc ++ po)) (hk : ∀ q : Nat, q < H.size → ¬ va_A wc H.size q → H1[q]? = H[q]?) (hF : ∀ q, va_A wc H.size q → A q) (hP1 : va_P D cl w1 H1) (hD1 : va_D (va_A wc H.size) w1) :
    va_P D cl (pre ++ w1 ++ po) H1 ∧ va_D A (pre ++ w1 ++ po) := by
  have apart : ∀ q ∈ pre ++ po, q.1 < H.size ∧ ¬ va_A wc H.size q.1 := by
    intro q hq
    have hin : q ∈ pre ++ wc ++ po := by
      rcases List.mem_append.mp hq with h | h
      · exact List.mem_append_left _ (List.mem_append_left _ h)
      · exact List.mem_append_right _ h
    have hl := (jP_iff.mp hP q hin).lt
    refine ⟨hl, fun h => ?_⟩
    rcases h with ⟨k, e, h⟩ | h
    · have hw : (q.1, e) ∈ wc := List.mem_of_getElem? h
      rcases List.mem_append.mp hq with h | h
      · exact (jD_app.mp (jD_app.mp hD).1).2.2 q h _ hw rfl
      · exact (jD_app.mp hD).2.2 _ (List.mem_append_right _ hw) q h rfl
    · omega
  have hk' : ∀ q ∈ pre ++ po, va_at D cl q H1 := by
    intro q hq
    have hin : q ∈ pre ++ wc ++ po := by
      rcases List.mem_append.mp hq with h | h
      · exact List.mem_append_left _ (List.mem_append_left _ h)
      · exact List.mem_append_right _ h
    exact (jP_iff.mp hP q hin).kept (hk q.1 (apart q hq).1 (apart q hq).2)
  have hD1' : ∀ q ∈ w1, va_A wc H.size q.1 := (jD_iff.mp hD1).2
  constructor
  · refine jP_app.mpr ⟨jP_app.mpr ⟨jP_iff.mpr fun q hq => hk' q (List.mem_append_left _ hq), hP1⟩, jP_iff.mpr fun q hq => hk' q (List.mem_append_right _ hq)⟩
  · have h1 := jD_app.mp hD
    have h2 := jD_app.mp h1.1
    refine jD_app.mpr ⟨jD_app.mpr ⟨h2.1, hD1.weaken (fun _ q _ h => hF q.1 h), fun x hx y hy he => (apart x (List.mem_append_left _ hx)).2 (by rw [he]; exact hD1' y hy)⟩, h1.2.1, fun x hx y hy he => ?_⟩
    rcases List.mem_append.mp hx with h | h
    · exact h1.2.2 x (List.mem_append_left _ h) y hy he
    · exact (apart y (List.mem_append_right _ hy)).2 (by rw [← he]; exact hD1' x h)
theorem j_freeA {A : Nat → Prop} {pre wc po : va_W} {H0 H : Heap} {locs : List Loc} (hD : va_D A (pre ++ wc ++ po)) (hS : va_S A H0 H locs) (hA : ∀ q, H0.size ≤ q → A q) : ∀ q, va_A wc H.size q → A q := by
  intro q h
  rcases h with ⟨k, e, h⟩ | h
  · exact (jD_iff.mp (jD_app.mp (jD_app.mp hD).1).2.1).2 (q, e) (List.mem_of_getElem? h)
  · exact hA q (Nat.le_trans hS.1 h)
/-- my contract: from the cells ws and the arguments av the method y answers r and leaves w' with 'post r w'' -/
def jPost (E : jE) (ws : va_W) (sz : Nat) (post : Option Value → va_W → Prop) : Array Value → State → Outcome → State → Prop := fun _ st oc t => (∃ (r : Option Value) (w' : va_W), oc = .returned r ∧ post r w' ∧ va_P E.1 vwCl w' t.heap ∧ va_D (va_A ws sz) w') ∧ va_F (va_A ws sz) st t
def jPre (E : jE) (av : List Value) (ws : va_W) (sz : Nat) : Array Value → State → Prop := va_Pc av (fun U => U.heap.size = sz ∧ va_P E.1 vwCl ws U.heap ∧ va_K E.1 vwCl (jTys E) U ∧ va_D (fun _ => True) ws ∧ jST E (va_A ws sz) U U.heap)
def Con (E : jE) (l : Launch) (y : MethodName) (bc : ByteArray) (nL : Nat) (ret : Option FieldType) (rm : Room) (av : List Value) (ws : va_W) (post : Option Value → va_W → Prop) : Prop :=
  ∀ sz : Nat, Met l y (Cond.code y bc nL ret :: jTW) rm (jPre E av ws sz) (jPost E ws sz post) rm.cells rm.slots (va_A ws sz)
theorem jPre_blind {E : jE} {av : List Value} {ws : va_W} {sz : Nat} : FrameBlind (jPre E av ws sz) := by
  intro a U g mk h
  obtain ⟨q0, q1, qP, qK, qD, qS⟩ := h
  exact ⟨q0, q1, qP, va_K.moved (u := U) (U := U.calling g mk a) (Vm.Alike.refl U.vm) qK, qD, jST.moved (u := U) (U := U.calling g mk a) (Vm.Alike.refl U.vm) qS⟩
theorem j_entry {E : jE} {l : Launch} {y : MethodName} {bc : ByteArray} {nL : Nat} {ret : Option FieldType} {rm : Room} {av : List Value} {ws : va_W} {post : Option Value → va_W → Prop} (hy : plainName y.cls = true) (hav : (lg_sl av).length ≤ nL)
    (body : ∀ (p : Program) (e : Env) (s : State) (m : MethodId) (below : List Frame) (meth : Method) (c : Code), meth.sig.returnType = ret → meth.name = y.name → jI E y.cls bc nL p s m av.toArray meth c (va_A ws s.heap.size) →
      jV p l e rm s m av.toArray below meth c (MQ below (jPost E ws s.heap.size post) av.toArray s rm.cells rm.slots (va_A ws s.heap.size)) (va_A ws s.heap.size) E nL 0 (lv_args 0 av) [] ws 0 0) : Con E l y bc nL ret rm av ws post := by
  intro sz
  refine Met.ofW (cc := bc) (maxL := nL) (ret := ret) hy rfl ?_
  intro p e s m args below meth c s₁ B hml hv
  obtain ⟨rfl, rfl, hP, hK, hD, hST⟩ := hv
  have hts := atoms_spec (ws := Cond.code y bc nL ret :: jTW) B.pre
  have hown : s.vm.findClass y.cls = some m.cls := findClass_of_methodNamed B.named
  have h := body p e s m below meth c B.returns (name_of_methodNamed B.named B.method).1 ⟨B.exec, B.bytes, hml, hown, fun w hw => hts w (List.mem_cons_of_mem _ hw), fun q h => Or.inr h, hK, hST, B.notSynchronized⟩
  have hl := lv_entry av (n := nL) hav
  rw [lg_entry_eq]
  exact h s.heap [] _ hP hD.self va_S.rf hl
end JK0
section JKR
variable {E : jE} {l : Launch} {y : MethodName} {bc : ByteArray} {nL : Nat} {rm : Room} {av : List Value} {ws : va_W} {post : Option Value → va_W → Prop}
theorem Con.ofI (hy : plainName y.cls = true) (hav : (lg_sl av).length ≤ nL) (body : ∀ J : jJ, jC E l y.cls bc nL rm J → (∀ (pc : Nat) (lv : jL) (v : Int32) (w' : va_W) (cells slots : Nat), decode bc pc = .ok (.ireturn, 1) → cells ≤ rm.cells → slots ≤ rm.slots → post (some (.int v)) w' → J pc lv [.int v] w' cells slots) → J 0 (lv_args 0 av) [] ws 0 0) : Con E l y bc nL (some .int) rm av ws post := by
  refine j_entry hy hav fun p e s m below meth c hr hname hI => body _ ⟨_, _, _, _, _, _, _, _, _, _, hI, rfl⟩ ?_
  obtain ⟨hx, hb, -, -, -, -, -, -, hlocks⟩ := hI
  intro pc lv v w' cells slots hd hc hs hp H locs ls hP hD hS hl
  exact W.widen hc hs (W.iret (v := v) hx hb hr (fun t ht hW => ⟨⟨_, w', rfl, hp, by rw [ht]; exact hP, hD⟩, hS.F ht⟩) hS.2.2 hd)
theorem Con.ofZ (hy : plainName y.cls = true) (hav : (lg_sl av).length ≤ nL) (body : ∀ J : jJ, jC E l y.cls bc nL rm J → (∀ (pc : Nat) (lv : jL) (v : Int32) (w' : va_W) (cells slots : Nat), decode bc pc = .ok (.ireturn, 1) → narrow .boolean (.int v) = .int v → cells ≤ rm.cells → slots ≤ rm.slots → post (some (.int v)) w' → J pc lv [.int v] w' cells slots) → J 0 (lv_args 0 av) [] ws 0 0) : Con E l y bc nL (some .boolean) rm av ws post := by
  refine j_entry hy hav fun p e s m below meth c hr hname hI => body _ ⟨_, _, _, _, _, _, _, _, _, _, hI, rfl⟩ ?_
  obtain ⟨hx, hb, -, -, -, -, -, -, hlocks⟩ := hI
  intro pc lv v w' cells slots hd hn hc hs hp H locs ls hP hD hS hl
  exact W.widen hc hs (W.zret (v := v) hx hb hr hn (fun t ht hW => ⟨⟨_, w', rfl, hp, by rw [ht]; exact hP, hD⟩, hS.F ht⟩) hS.2.2 hd)
theorem Con.ofL (hy : plainName y.cls = true) (hav : (lg_sl av).length ≤ nL) (body : ∀ J : jJ, jC E l y.cls bc nL rm J → (∀ (pc : Nat) (lv : jL) (v : Int64) (w' : va_W) (cells slots : Nat), decode bc pc = .ok (.lreturn, 1) → cells ≤ rm.cells → slots ≤ rm.slots → post (some (.long v)) w' → J pc lv [.long v] w' cells slots) → J 0 (lv_args 0 av) [] ws 0 0) : Con E l y bc nL (some .long) rm av ws post := by
  refine j_entry hy hav fun p e s m below meth c hr hname hI => body _ ⟨_, _, _, _, _, _, _, _, _, _, hI, rfl⟩ ?_
  obtain ⟨hx, hb, -, -, -, -, -, -, hlocks⟩ := hI
  intro pc lv v w' cells slots hd hc hs hp H locs ls hP hD hS hl
  exact W.widen hc hs (W.lret (v := v) hx hb hr (fun t ht hW => ⟨⟨_, w', rfl, hp, by rw [ht]; exact hP, hD⟩, hS.F ht⟩) hS.2.2 hd)
theorem Con.ofA {cn : String} (hy : plainName y.cls = true) (hav : (lg_sl av).length ≤ nL) (body : ∀ J : jJ, jC E l y.cls bc nL rm J → (∀ (pc : Nat) (lv : jL) (a : Nat) (w' : va_W) (cells slots : Nat), decode bc pc = .ok (.areturn, 1) → cells ≤ rm.cells → slots ≤ rm.slots → post (some (.ref a)) w' → J pc lv [.ref a] w' cells slots) → J 0 (lv_args 0 av) [] ws 0 0) : Con E l y bc nL (some (.object cn)) rm av ws post := by
  refine j_entry hy hav fun p e s m below meth c hr hname hI => body _ ⟨_, _, _, _, _, _, _, _, _, _, hI, rfl⟩ ?_
  obtain ⟨hx, hb, -, -, -, -, -, -, hlocks⟩ := hI
  intro pc lv a w' cells slots hd hc hs hp H locs ls hP hD hS hl
  exact W.widen hc hs (W.aret (v := .ref a) hx hb hr (Or.inl ⟨_, rfl⟩) (Or.inr ⟨_, rfl⟩) (fun t ht hW => ⟨⟨_, w', rfl, hp, by rw [ht]; exact hP, hD⟩, hS.F ht⟩) hS.2.2 hd)
theorem Con.ofV (hy : plainName y.cls = true) (hav : (lg_sl av).length ≤ nL) (body : ∀ J : jJ, jC E l y.cls bc nL rm J → (∀ (pc : Nat) (lv : jL) (w' : va_W) (cells slots : Nat), decode bc pc = .ok (.return_, 1) → cells ≤ rm.cells → slots ≤ rm.slots → post none w' → J pc lv [] w' cells slots) → J 0 (lv_args 0 av) [] ws 0 0) : Con E l y bc nL none rm av ws post := by
  refine j_entry hy hav fun p e s m below meth c hr hname hI => body _ ⟨_, _, _, _, _, _, _, _, _, _, hI, rfl⟩ ?_
  obtain ⟨hx, hb, -, -, -, -, -, -, hlocks⟩ := hI
  intro pc lv w' cells slots hd hc hs hp H locs ls hP hD hS hl
  exact W.widen hc hs (W.vret hx hb hr (fun t ht hW => ⟨⟨_, w', rfl, hp, by rw [ht]; exact hP, hD⟩, hS.F ht⟩) hS.2.2 hd)
/-- a constructor: it may write its final fields -/
def jInit (own : String) (cc : ByteArray) (J : jJ) (E : jE) : Prop := ∀ (pc : Nat) (lv : jL) (st : List Value) (ws ws' : va_W) (cells slots : Nat) (a ci : Nat) (C : String) (T : u_T) (N index q0 : Nat) (fs : List Value) (k : Nat) (ty0 : Nat → FieldType) (v : Value), (∀ w ∈ u_ws C T N, w ∈ jTW) → (∀ k, k < N → parseFieldDescriptor (T k).2.2.1 = some (ty0 k)) → (∀ a, a < N → ∀ b, b < N → a ≠ b → (T a).2.1 ≠ (T b).2.1) → ws[q0]? = some (a, .inr (ci, fs)) → vwCl[ci]? = some (C, T, N) → k < N → Cond.fieldLink own index (T k).1 (T k).2.1 (T k).2.2.1 ∈ jTW → (T k).2.2.2 = true → (T k).1 = own → narrow (ty0 k) v = v → fits (ty0 k) v = true → k < fs.length → decode cc pc = .ok (.putfield index, 3) → ws.set q0 (a, .inr (ci, fs.set k v)) = ws' → J (pc + 3) lv st ws' cells slots → J pc lv (v :: .ref a :: st) ws cells slots
theorem Con.ofN (hin : y.name = "<init>") (hy : plainName y.cls = true) (hav : (lg_sl av).length ≤ nL) (body : ∀ J : jJ, jC E l y.cls bc nL rm J → jInit y.cls bc J E → (∀ (pc : Nat) (lv : jL) (w' : va_W) (cells slots : Nat), decode bc pc = .ok (.return_, 1) → cells ≤ rm.cells → slots ≤ rm.slots → post none w' → J pc lv [] w' cells slots) → J 0 (lv_args 0 av) [] ws 0 0) : Con E l y bc nL none rm av ws post := by
  refine j_entry hy hav fun p e s m below meth c hr hname hI => body _ ⟨_, _, _, _, _, _, _, _, _, _, hI, rfl⟩ ?_ ?_
  · obtain ⟨hx, hb, -, hown, hts, -, hK, -, hlocks⟩ := hI
    intro pc lv st ws ws' cells slots a ci C T N index q0 fs k ty0 v h1 h2 h3 h4 h5 h6 h7 h8 h9 h11 h12 h13 hd hw kk H locs ls hP hD hS hl
    subst hw
    exact va_putF hx hb hts h1 ty0 h2 h3 hown hK hP hD hS q0 h4 h5 k h6 (hts _ h7) (fun _ h => h) h8 (by rw [hname, hin]) h9 (h2 k h6) h11 h12 h13 hd (fun H1 locs1 hP1 hD1 hS1 => kk H1 locs1 ls hP1 hD1 hS1 hl)
  · obtain ⟨hx, hb, -, -, -, -, -, -, hlocks⟩ := hI
    intro pc lv w' cells slots hd hc hs hp H locs ls hP hD hS hl
    exact W.widen hc hs (W.vret hx hb hr (fun t ht hW => ⟨⟨_, w', rfl, hp, by rw [ht]; exact hP, hD⟩, hS.F ht⟩) hS.2.2 hd)
end JKR
section JKW
variable {E : jE} {l : Launch} {own : String} {cc : ByteArray} {nL : Nat} {R : Room} {J : jJ} {pc : Nat} {lv : jL} {st : List Value} {ws : va_W} {cs ss : Nat}
theorem j_le {x y : Int32} {a b : Int} (ha : x.toInt = a) (hb : y.toInt = b) : x ≤ y ↔ a ≤ b := by rw [Int32.le_iff_toInt_le, ha, hb]
theorem j_lt {x y : Int32} {a b : Int} (ha : x.toInt = a) (hb : y.toInt = b) : x < y ↔ a < b := by rw [Int32.lt_iff_toInt_lt, ha, hb]
theorem j_eq {x y : Int32} {a b : Int} (ha : x.toInt = a) (hb : y.toInt = b) : x = y ↔ a = b := by rw [← Int32.toInt_inj, ha, hb]
theorem j_z0 : (0 : Int32).toInt = 0 := rfl

theorem J_iconst (C : jC E l own cc nL R J) {n : Int} {v : Int32} (hdg : decode cc pc = .ok (.iconst n, 1)) (hv : Int32.ofInt n = v) (kk : J (pc + 1) lv (.int v :: st) ws cs ss) : J pc lv (st) ws cs ss := by
  obtain ⟨p, e, s, m, args, below, meth, c, Q, A, ⟨hx, hb, hml, hown, hts, hA, hK, hST, hlocks⟩, rfl⟩ := C
  intro H locs ls hP hD hS hl
  exact lv_iconst hx hb hdg hv (kk H locs ls hP hD hS hl)
theorem J_bipush (C : jC E l own cc nL R J) {n : Int} {v : Int32} (hdg : decode cc pc = .ok (.bipush n, 2)) (hv : (Int8.ofInt n).toInt32 = v) (kk : J (pc + 2) lv (.int v :: st) ws cs ss) : J pc lv (st) ws cs ss := by
  obtain ⟨p, e, s, m, args, below, meth, c, Q, A, ⟨hx, hb, hml, hown, hts, hA, hK, hST, hlocks⟩, rfl⟩ := C
  intro H locs ls hP hD hS hl
  exact lv_bipush hx hb hdg hv (kk H locs ls hP hD hS hl)
theorem J_sipush (C : jC E l own cc nL R J) {n : Int} {v : Int32} (hdg : decode cc pc = .ok (.sipush n, 3)) (hv : (Int16.ofInt n).toInt32 = v) (kk : J (pc + 3) lv (.int v :: st) ws cs ss) : J pc lv (st) ws cs ss := by
  obtain ⟨p, e, s, m, args, below, meth, c, Q, A, ⟨hx, hb, hml, hown, hts, hA, hK, hST, hlocks⟩, rfl⟩ := C
  intro H locs ls hP hD hS hl
  exact lv_sipush hx hb hdg hv (kk H locs ls hP hD hS hl)
theorem J_lconst (C : jC E l own cc nL R J) {n : Fin 2} {v : Int64} (hdg : decode cc pc = .ok (.lconst n, 1)) (hv : Int64.ofNat (n : Nat) = v) (kk : J (pc + 1) lv (.long v :: st) ws cs ss) : J pc lv (st) ws cs ss := by
  obtain ⟨p, e, s, m, args, below, meth, c, Q, A, ⟨hx, hb, hml, hown, hts, hA, hK, hST, hlocks⟩, rfl⟩ := C
  intro H locs ls hP hD hS hl
  exact lv_lconst hx hb hdg hv (kk H locs ls hP hD hS hl)
theorem J_ldc (C : jC E l own cc nL R J) {index : Nat} {v : Int32} (hw : Cond.constant own index v ∈ jTW) (hdg : decode cc pc = .ok (.ldc index, 2)) (kk : J (pc + 2) lv (.int v :: st) ws cs ss) : J pc lv (st) ws cs ss := by
  obtain ⟨p, e, s, m, args, below, meth, c, Q, A, ⟨hx, hb, hml, hown, hts, hA, hK, hST, hlocks⟩, rfl⟩ := C
  intro H locs ls hP hD hS hl
  exact lv_ldc hx hb hown (hts _ hw) hdg (kk H locs ls hP hD hS hl)
theorem J_ldc2 (C : jC E l own cc nL R J) {index : Nat} {v : Int64} (hw : Cond.constantLong own index v ∈ jTW) (hdg : decode cc pc = .ok (.ldc2_w index, 3)) (kk : J (pc + 3) lv (.long v :: st) ws cs ss) : J pc lv (st) ws cs ss := by
  obtain ⟨p, e, s, m, args, below, meth, c, Q, A, ⟨hx, hb, hml, hown, hts, hA, hK, hST, hlocks⟩, rfl⟩ := C
  intro H locs ls hP hD hS hl
  exact lv_ldc2 hx hb hown (hts _ hw) hdg (kk H locs ls hP hD hS hl)
theorem J_null (C : jC E l own cc nL R J) (hdg : decode cc pc = .ok (.aconst_null, 1)) (kk : J (pc + 1) lv (.null :: st) ws cs ss) : J pc lv (st) ws cs ss := by
  obtain ⟨p, e, s, m, args, below, meth, c, Q, A, ⟨hx, hb, hml, hown, hts, hA, hK, hST, hlocks⟩, rfl⟩ := C
  intro H locs ls hP hD hS hl
  exact lv_null hx hb hdg (kk H locs ls hP hD hS hl)
theorem J_iload_n (C : jC E l own cc nL R J) {k : Fin 4} {i : Nat} {x : Int32} (q : Nat) (hdg : decode cc pc = .ok (.iload_n k, 1)) (hi : (k : Nat) = i) (hq : lv[q]? = some (i, .int x)) (kk : J (pc + 1) lv (.int x :: st) ws cs ss) : J pc lv (st) ws cs ss := by
  obtain ⟨p, e, s, m, args, below, meth, c, Q, A, ⟨hx, hb, hml, hown, hts, hA, hK, hST, hlocks⟩, rfl⟩ := C
  intro H locs ls hP hD hS hl
  exact lv_iload_n hx hb hdg hi (lv_at hl q hq) (kk H locs ls hP hD hS hl)
theorem J_iload (C : jC E l own cc nL R J) {i : Nat} {x : Int32} (q : Nat) (hdg : decode cc pc = .ok (.iload i, 2)) (hq : lv[q]? = some (i, .int x)) (kk : J (pc + 2) lv (.int x :: st) ws cs ss) : J pc lv (st) ws cs ss := by
  obtain ⟨p, e, s, m, args, below, meth, c, Q, A, ⟨hx, hb, hml, hown, hts, hA, hK, hST, hlocks⟩, rfl⟩ := C
  intro H locs ls hP hD hS hl
  exact lv_iload hx hb hdg (lv_at hl q hq) (kk H locs ls hP hD hS hl)
theorem J_istore_n (C : jC E l own cc nL R J) {k : Fin 4} {i : Nat} {x : Int32} {lv' : jL} (ks : List Nat) (hdg : decode cc pc = .ok (.istore_n k, 1)) (hi : (k : Nat) = i) (hn : i < nL) (hv : lv_pick ((i, Value.int x) :: lv.filter (fun q => !(q.1 == i) && !(q.1 + 1 == i && q.2.category == 2))) ks = lv') (kk : J (pc + 1) lv' st ws cs ss) : J pc lv (.int x :: st) ws cs ss := by
  obtain ⟨p, e, s, m, args, below, meth, c, Q, A, ⟨hx, hb, hml, hown, hts, hA, hK, hST, hlocks⟩, rfl⟩ := C
  intro H locs ls hP hD hS hl
  exact lv_istore_n hx hb hdg hi hl hn rfl (fun ls' hl' => kk H locs ls' hP hD hS (lv_sub hl' ks hv))
theorem J_istore (C : jC E l own cc nL R J) {i : Nat} {x : Int32} {lv' : jL} (ks : List Nat) (hdg : decode cc pc = .ok (.istore i, 2)) (hn : i < nL) (hv : lv_pick ((i, Value.int x) :: lv.filter (fun q => !(q.1 == i) && !(q.1 + 1 == i && q.2.category == 2))) ks = lv') (kk : J (pc + 2) lv' st ws cs ss) : J pc lv (.int x :: st) ws cs ss := by
  obtain ⟨p, e, s, m, args, below, meth, c, Q, A, ⟨hx, hb, hml, hown, hts, hA, hK, hST, hlocks⟩, rfl⟩ := C
  intro H locs ls hP hD hS hl
  exact lv_istore hx hb hdg hl hn rfl (fun ls' hl' => kk H locs ls' hP hD hS (lv_sub hl' ks hv))
theorem J_lload_n (C : jC E l own cc nL R J) {k : Fin 4} {i : Nat} {x : Int64} (q : Nat) (hdg : decode cc pc = .ok (.lload_n k, 1)) (hi : (k : Nat) = i) (hq : lv[q]? = some (i, .long x)) (kk : J (pc + 1) lv (.long x :: st) ws cs ss) : J pc lv (st) ws cs ss := by
  obtain ⟨p, e, s, m, args, below, meth, c, Q, A, ⟨hx, hb, hml, hown, hts, hA, hK, hST, hlocks⟩, rfl⟩ := C
  intro H locs ls hP hD hS hl
  exact lv_lload_n hx hb hdg hi (lv_at hl q hq) (kk H locs ls hP hD hS hl)
theorem J_lload (C : jC E l own cc nL R J) {i : Nat} {x : Int64} (q : Nat) (hdg : decode cc pc = .ok (.lload i, 2)) (hq : lv[q]? = some (i, .long x)) (kk : J (pc + 2) lv (.long x :: st) ws cs ss) : J pc lv (st) ws cs ss := by
  obtain ⟨p, e, s, m, args, below, meth, c, Q, A, ⟨hx, hb, hml, hown, hts, hA, hK, hST, hlocks⟩, rfl⟩ := C
  intro H locs ls hP hD hS hl
  exact lv_lload hx hb hdg (lv_at hl q hq) (kk H locs ls hP hD hS hl)
theorem J_lstore_n (C : jC E l own cc nL R J) {k : Fin 4} {i : Nat} {x : Int64} {lv' : jL} (ks : List Nat) (hdg : decode cc pc = .ok (.lstore_n k, 1)) (hi : (k : Nat) = i) (hn : i + 1 < nL) (hv : lv_pick ((i, Value.long x) :: lv.filter (fun q => !(q.1 == i) && (!(q.1 == i + 1) && !(q.1 + 1 == i && q.2.category == 2)))) ks = lv') (kk : J (pc + 1) lv' st ws cs ss) : J pc lv (.long x :: st) ws cs ss := by
  obtain ⟨p, e, s, m, args, below, meth, c, Q, A, ⟨hx, hb, hml, hown, hts, hA, hK, hST, hlocks⟩, rfl⟩ := C
  intro H locs ls hP hD hS hl
  exact lv_lstore_n hx hb hdg hi hl hn rfl (fun ls' hl' => kk H locs ls' hP hD hS (lv_sub hl' ks hv))
theorem J_lstore (C : jC E l own cc nL R J) {i : Nat} {x : Int64} {lv' : jL} (ks : List Nat) (hdg : decode cc pc = .ok (.lstore i, 2)) (hn : i + 1 < nL) (hv : lv_pick ((i, Value.long x) :: lv.filter (fun q => !(q.1 == i) && (!(q.1 == i + 1) && !(q.1 + 1 == i && q.2.category == 2)))) ks = lv') (kk : J (pc + 2) lv' st ws cs ss) : J pc lv (.long x :: st) ws cs ss := by
  obtain ⟨p, e, s, m, args, below, meth, c, Q, A, ⟨hx, hb, hml, hown, hts, hA, hK, hST, hlocks⟩, rfl⟩ := C
  intro H locs ls hP hD hS hl
  exact lv_lstore hx hb hdg hl hn rfl (fun ls' hl' => kk H locs ls' hP hD hS (lv_sub hl' ks hv))
theorem J_aload_n (C : jC E l own cc nL R J) {k : Fin 4} {i : Nat} {x : Nat} (q : Nat) (hdg : decode cc pc = .ok (.aload_n k, 1)) (hi : (k : Nat) = i) (hq : lv[q]? = some (i, .ref x)) (kk : J (pc + 1) lv (.ref x :: st) ws cs ss) : J pc lv (st) ws cs ss := by
  obtain ⟨p, e, s, m, args, below, meth, c, Q, A, ⟨hx, hb, hml, hown, hts, hA, hK, hST, hlocks⟩, rfl⟩ := C
  intro H locs ls hP hD hS hl
  exact lv_aload_n hx hb hdg hi (lv_at hl q hq) (kk H locs ls hP hD hS hl)
theorem J_aload (C : jC E l own cc nL R J) {i : Nat} {x : Nat} (q : Nat) (hdg : decode cc pc = .ok (.aload i, 2)) (hq : lv[q]? = some (i, .ref x)) (kk : J (pc + 2) lv (.ref x :: st) ws cs ss) : J pc lv (st) ws cs ss := by
  obtain ⟨p, e, s, m, args, below, meth, c, Q, A, ⟨hx, hb, hml, hown, hts, hA, hK, hST, hlocks⟩, rfl⟩ := C
  intro H locs ls hP hD hS hl
  exact lv_aload hx hb hdg (lv_at hl q hq) (kk H locs ls hP hD hS hl)
theorem J_astore_n (C : jC E l own cc nL R J) {k : Fin 4} {i : Nat} {x : Nat} {lv' : jL} (ks : List Nat) (hdg : decode cc pc = .ok (.astore_n k, 1)) (hi : (k : Nat) = i) (hn : i < nL) (hv : lv_pick ((i, Value.ref x) :: lv.filter (fun q => !(q.1 == i) && !(q.1 + 1 == i && q.2.category == 2))) ks = lv') (kk : J (pc + 1) lv' st ws cs ss) : J pc lv (.ref x :: st) ws cs ss := by
  obtain ⟨p, e, s, m, args, below, meth, c, Q, A, ⟨hx, hb, hml, hown, hts, hA, hK, hST, hlocks⟩, rfl⟩ := C
  intro H locs ls hP hD hS hl
  exact lv_astore_n hx hb hdg hi hl hn rfl (fun ls' hl' => kk H locs ls' hP hD hS (lv_sub hl' ks hv))
theorem J_astore (C : jC E l own cc nL R J) {i : Nat} {x : Nat} {lv' : jL} (ks : List Nat) (hdg : decode cc pc = .ok (.astore i, 2)) (hn : i < nL) (hv : lv_pick ((i, Value.ref x) :: lv.filter (fun q => !(q.1 == i) && !(q.1 + 1 == i && q.2.category == 2))) ks = lv') (kk : J (pc + 2) lv' st ws cs ss) : J pc lv (.ref x :: st) ws cs ss := by
  obtain ⟨p, e, s, m, args, below, meth, c, Q, A, ⟨hx, hb, hml, hown, hts, hA, hK, hST, hlocks⟩, rfl⟩ := C
  intro H locs ls hP hD hS hl
  exact lv_astore hx hb hdg hl hn rfl (fun ls' hl' => kk H locs ls' hP hD hS (lv_sub hl' ks hv))
theorem J_astore_nN (C : jC E l own cc nL R J) {k : Fin 4} {i : Nat} {lv' : jL} (ks : List Nat) (hdg : decode cc pc = .ok (.astore_n k, 1)) (hi : (k : Nat) = i) (hn : i < nL) (hv : lv_pick ((i, Value.null) :: lv.filter (fun q => !(q.1 == i) && !(q.1 + 1 == i && q.2.category == 2))) ks = lv') (kk : J (pc + 1) lv' st ws cs ss) : J pc lv (.null :: st) ws cs ss := by
  obtain ⟨p, e, s, m, args, below, meth, c, Q, A, ⟨hx, hb, hml, hown, hts, hA, hK, hST, hlocks⟩, rfl⟩ := C
  intro H locs ls hP hD hS hl
  exact lv_astore_nN hx hb hdg hi hl hn rfl (fun ls' hl' => kk H locs ls' hP hD hS (lv_sub hl' ks hv))
theorem J_iinc (C : jC E l own cc nL R J) {i : Nat} {n : Int} {x v : Int32} {lv' : jL} (q : Nat) (ks : List Nat) (hdg : decode cc pc = .ok (.iinc i n, 3)) (hq : lv[q]? = some (i, .int x)) (hx1 : x + Int32.ofInt n = v) (hn : i < nL) (hv : lv_pick ((i, Value.int v) :: lv.filter (fun q => !(q.1 == i) && !(q.1 + 1 == i && q.2.category == 2))) ks = lv') (kk : J (pc + 3) lv' st ws cs ss) : J pc lv (st) ws cs ss := by
  obtain ⟨p, e, s, m, args, below, meth, c, Q, A, ⟨hx, hb, hml, hown, hts, hA, hK, hST, hlocks⟩, rfl⟩ := C
  intro H locs ls hP hD hS hl
  exact lv_iinc hx hb hdg hl hq hx1 hn rfl (fun ls' hl' => kk H locs ls' hP hD hS (lv_sub hl' ks hv))
theorem J_iadd (C : jC E l own cc nL R J) {x y : Int32} (hdg : decode cc pc = .ok (.iadd, 1)) (kk : J (pc + 1) lv (.int (x + y) :: st) ws cs ss) : J pc lv (.int y :: .int x :: st) ws cs ss := by
  obtain ⟨p, e, s, m, args, below, meth, c, Q, A, ⟨hx, hb, hml, hown, hts, hA, hK, hST, hlocks⟩, rfl⟩ := C
  intro H locs ls hP hD hS hl
  exact lv_iadd hx hb hdg (kk H locs ls hP hD hS hl)
theorem J_isub (C : jC E l own cc nL R J) {x y : Int32} (hdg : decode cc pc = .ok (.isub, 1)) (kk : J (pc + 1) lv (.int (x - y) :: st) ws cs ss) : J pc lv (.int y :: .int x :: st) ws cs ss := by
  obtain ⟨p, e, s, m, args, below, meth, c, Q, A, ⟨hx, hb, hml, hown, hts, hA, hK, hST, hlocks⟩, rfl⟩ := C
  intro H locs ls hP hD hS hl
  exact lv_isub hx hb hdg (kk H locs ls hP hD hS hl)
theorem J_imul (C : jC E l own cc nL R J) {x y : Int32} (hdg : decode cc pc = .ok (.imul, 1)) (kk : J (pc + 1) lv (.int (x * y) :: st) ws cs ss) : J pc lv (.int y :: .int x :: st) ws cs ss := by
  obtain ⟨p, e, s, m, args, below, meth, c, Q, A, ⟨hx, hb, hml, hown, hts, hA, hK, hST, hlocks⟩, rfl⟩ := C
  intro H locs ls hP hD hS hl
  exact lv_imul hx hb hdg (kk H locs ls hP hD hS hl)
theorem J_iand (C : jC E l own cc nL R J) {x y : Int32} (hdg : decode cc pc = .ok (.iand, 1)) (kk : J (pc + 1) lv (.int (x &&& y) :: st) ws cs ss) : J pc lv (.int y :: .int x :: st) ws cs ss := by
  obtain ⟨p, e, s, m, args, below, meth, c, Q, A, ⟨hx, hb, hml, hown, hts, hA, hK, hST, hlocks⟩, rfl⟩ := C
  intro H locs ls hP hD hS hl
  exact lv_iand hx hb hdg (kk H locs ls hP hD hS hl)
theorem J_ior (C : jC E l own cc nL R J) {x y : Int32} (hdg : decode cc pc = .ok (.ior, 1)) (kk : J (pc + 1) lv (.int (x ||| y) :: st) ws cs ss) : J pc lv (.int y :: .int x :: st) ws cs ss := by
  obtain ⟨p, e, s, m, args, below, meth, c, Q, A, ⟨hx, hb, hml, hown, hts, hA, hK, hST, hlocks⟩, rfl⟩ := C
  intro H locs ls hP hD hS hl
  exact lv_ior hx hb hdg (kk H locs ls hP hD hS hl)
theorem J_ixor (C : jC E l own cc nL R J) {x y : Int32} (hdg : decode cc pc = .ok (.ixor, 1)) (kk : J (pc + 1) lv (.int (x ^^^ y) :: st) ws cs ss) : J pc lv (.int y :: .int x :: st) ws cs ss := by
  obtain ⟨p, e, s, m, args, below, meth, c, Q, A, ⟨hx, hb, hml, hown, hts, hA, hK, hST, hlocks⟩, rfl⟩ := C
  intro H locs ls hP hD hS hl
  exact lv_ixor hx hb hdg (kk H locs ls hP hD hS hl)
theorem J_ishl (C : jC E l own cc nL R J) {x y : Int32} (hdg : decode cc pc = .ok (.ishl, 1)) (kk : J (pc + 1) lv (.int (x <<< (y &&& 31)) :: st) ws cs ss) : J pc lv (.int y :: .int x :: st) ws cs ss := by
  obtain ⟨p, e, s, m, args, below, meth, c, Q, A, ⟨hx, hb, hml, hown, hts, hA, hK, hST, hlocks⟩, rfl⟩ := C
  intro H locs ls hP hD hS hl
  exact lv_ishl hx hb hdg (kk H locs ls hP hD hS hl)
theorem J_ishr (C : jC E l own cc nL R J) {x y : Int32} (hdg : decode cc pc = .ok (.ishr, 1)) (kk : J (pc + 1) lv (.int (x >>> (y &&& 31)) :: st) ws cs ss) : J pc lv (.int y :: .int x :: st) ws cs ss := by
  obtain ⟨p, e, s, m, args, below, meth, c, Q, A, ⟨hx, hb, hml, hown, hts, hA, hK, hST, hlocks⟩, rfl⟩ := C
  intro H locs ls hP hD hS hl
  exact lv_ishr hx hb hdg (kk H locs ls hP hD hS hl)
theorem J_idiv (C : jC E l own cc nL R J) {x y : Int32} (hdg : decode cc pc = .ok (.idiv, 1)) (hne : ¬ y = 0) (kk : J (pc + 1) lv (.int (x / y) :: st) ws cs ss) : J pc lv (.int y :: .int x :: st) ws cs ss := by
  obtain ⟨p, e, s, m, args, below, meth, c, Q, A, ⟨hx, hb, hml, hown, hts, hA, hK, hST, hlocks⟩, rfl⟩ := C
  intro H locs ls hP hD hS hl
  exact lv_idiv hx hb hdg hne (kk H locs ls hP hD hS hl)
theorem J_irem (C : jC E l own cc nL R J) {x y : Int32} (hdg : decode cc pc = .ok (.irem, 1)) (hne : ¬ y = 0) (kk : J (pc + 1) lv (.int (x - x / y * y) :: st) ws cs ss) : J pc lv (.int y :: .int x :: st) ws cs ss := by
  obtain ⟨p, e, s, m, args, below, meth, c, Q, A, ⟨hx, hb, hml, hown, hts, hA, hK, hST, hlocks⟩, rfl⟩ := C
  intro H locs ls hP hD hS hl
  exact lv_irem hx hb hdg hne (kk H locs ls hP hD hS hl)
theorem J_ladd (C : jC E l own cc nL R J) {x y : Int64} (hdg : decode cc pc = .ok (.ladd, 1)) (kk : J (pc + 1) lv (.long (x + y) :: st) ws cs ss) : J pc lv (.long y :: .long x :: st) ws cs ss := by
  obtain ⟨p, e, s, m, args, below, meth, c, Q, A, ⟨hx, hb, hml, hown, hts, hA, hK, hST, hlocks⟩, rfl⟩ := C
  intro H locs ls hP hD hS hl
  exact lv_ladd hx hb hdg (kk H locs ls hP hD hS hl)
theorem J_lsub (C : jC E l own cc nL R J) {x y : Int64} (hdg : decode cc pc = .ok (.lsub, 1)) (kk : J (pc + 1) lv (.long (x - y) :: st) ws cs ss) : J pc lv (.long y :: .long x :: st) ws cs ss := by
  obtain ⟨p, e, s, m, args, below, meth, c, Q, A, ⟨hx, hb, hml, hown, hts, hA, hK, hST, hlocks⟩, rfl⟩ := C
  intro H locs ls hP hD hS hl
  exact lv_lsub hx hb hdg (kk H locs ls hP hD hS hl)
theorem J_lmul (C : jC E l own cc nL R J) {x y : Int64} (hdg : decode cc pc = .ok (.lmul, 1)) (kk : J (pc + 1) lv (.long (x * y) :: st) ws cs ss) : J pc lv (.long y :: .long x :: st) ws cs ss := by
  obtain ⟨p, e, s, m, args, below, meth, c, Q, A, ⟨hx, hb, hml, hown, hts, hA, hK, hST, hlocks⟩, rfl⟩ := C
  intro H locs ls hP hD hS hl
  exact lv_lmul hx hb hdg (kk H locs ls hP hD hS hl)
theorem J_land (C : jC E l own cc nL R J) {x y : Int64} (hdg : decode cc pc = .ok (.land, 1)) (kk : J (pc + 1) lv (.long (x &&& y) :: st) ws cs ss) : J pc lv (.long y :: .long x :: st) ws cs ss := by
  obtain ⟨p, e, s, m, args, below, meth, c, Q, A, ⟨hx, hb, hml, hown, hts, hA, hK, hST, hlocks⟩, rfl⟩ := C
  intro H locs ls hP hD hS hl
  exact lv_land hx hb hdg (kk H locs ls hP hD hS hl)
theorem J_lor (C : jC E l own cc nL R J) {x y : Int64} (hdg : decode cc pc = .ok (.lor, 1)) (kk : J (pc + 1) lv (.long (x ||| y) :: st) ws cs ss) : J pc lv (.long y :: .long x :: st) ws cs ss := by
  obtain ⟨p, e, s, m, args, below, meth, c, Q, A, ⟨hx, hb, hml, hown, hts, hA, hK, hST, hlocks⟩, rfl⟩ := C
  intro H locs ls hP hD hS hl
  exact lv_lor hx hb hdg (kk H locs ls hP hD hS hl)
theorem J_lxor (C : jC E l own cc nL R J) {x y : Int64} (hdg : decode cc pc = .ok (.lxor, 1)) (kk : J (pc + 1) lv (.long (x ^^^ y) :: st) ws cs ss) : J pc lv (.long y :: .long x :: st) ws cs ss := by
  obtain ⟨p, e, s, m, args, below, meth, c, Q, A, ⟨hx, hb, hml, hown, hts, hA, hK, hST, hlocks⟩, rfl⟩ := C
  intro H locs ls hP hD hS hl
  exact lv_lxor hx hb hdg (kk H locs ls hP hD hS hl)
theorem J_i2l (C : jC E l own cc nL R J) {x : Int32} {v : Int64} (hdg : decode cc pc = .ok (.i2l, 1)) (hv : x.toInt64 = v) (kk : J (pc + 1) lv (.long v :: st) ws cs ss) : J pc lv (.int x :: st) ws cs ss := by
  obtain ⟨p, e, s, m, args, below, meth, c, Q, A, ⟨hx, hb, hml, hown, hts, hA, hK, hST, hlocks⟩, rfl⟩ := C
  intro H locs ls hP hD hS hl
  exact lv_i2l hx hb hdg hv (kk H locs ls hP hD hS hl)
theorem J_l2i (C : jC E l own cc nL R J) {x : Int64} {v : Int32} (hdg : decode cc pc = .ok (.l2i, 1)) (hv : x.toInt32 = v) (kk : J (pc + 1) lv (.int v :: st) ws cs ss) : J pc lv (.long x :: st) ws cs ss := by
  obtain ⟨p, e, s, m, args, below, meth, c, Q, A, ⟨hx, hb, hml, hown, hts, hA, hK, hST, hlocks⟩, rfl⟩ := C
  intro H locs ls hP hD hS hl
  exact lv_l2i hx hb hdg hv (kk H locs ls hP hD hS hl)
theorem J_lushr (C : jC E l own cc nL R J) {x v : Int64} {y : Int32} (hdg : decode cc pc = .ok (.lushr, 1)) (hv : (x.toUInt64 >>> (y.toInt64.toUInt64 &&& Int64.toUInt64 63)).toInt64 = v) (kk : J (pc + 1) lv (.long v :: st) ws cs ss) : J pc lv (.int y :: .long x :: st) ws cs ss := by
  obtain ⟨p, e, s, m, args, below, meth, c, Q, A, ⟨hx, hb, hml, hown, hts, hA, hK, hST, hlocks⟩, rfl⟩ := C
  intro H locs ls hP hD hS hl
  exact lv_lushr hx hb hdg hv (kk H locs ls hP hD hS hl)
theorem J_lshl (C : jC E l own cc nL R J) {x v : Int64} {y : Int32} (hdg : decode cc pc = .ok (.lshl, 1)) (hv : x <<< (y.toInt64 &&& 63) = v) (kk : J (pc + 1) lv (.long v :: st) ws cs ss) : J pc lv (.int y :: .long x :: st) ws cs ss := by
  obtain ⟨p, e, s, m, args, below, meth, c, Q, A, ⟨hx, hb, hml, hown, hts, hA, hK, hST, hlocks⟩, rfl⟩ := C
  intro H locs ls hP hD hS hl
  exact lv_lshl hx hb hdg hv (kk H locs ls hP hD hS hl)
theorem J_dup (C : jC E l own cc nL R J) {va : Value} (hdg : decode cc pc = .ok (.dup, 1)) (hva : va.category = 1) (kk : J (pc + 1) lv (va :: va :: st) ws cs ss) : J pc lv (va :: st) ws cs ss := by
  obtain ⟨p, e, s, m, args, below, meth, c, Q, A, ⟨hx, hb, hml, hown, hts, hA, hK, hST, hlocks⟩, rfl⟩ := C
  intro H locs ls hP hD hS hl
  exact lv_dup hx hb hdg hva (kk H locs ls hP hD hS hl)
theorem J_pop (C : jC E l own cc nL R J) {va : Value} (hdg : decode cc pc = .ok (.pop, 1)) (hva : va.category = 1) (kk : J (pc + 1) lv (st) ws cs ss) : J pc lv (va :: st) ws cs ss := by
  obtain ⟨p, e, s, m, args, below, meth, c, Q, A, ⟨hx, hb, hml, hown, hts, hA, hK, hST, hlocks⟩, rfl⟩ := C
  intro H locs ls hP hD hS hl
  exact lv_pop hx hb hdg hva (kk H locs ls hP hD hS hl)
theorem J_dup2 (C : jC E l own cc nL R J) {va vb : Value} (hdg : decode cc pc = .ok (.dup2, 1)) (hva : va.category = 1) (hvb : vb.category = 1) (kk : J (pc + 1) lv (va :: vb :: va :: vb :: st) ws cs ss) : J pc lv (va :: vb :: st) ws cs ss := by
  obtain ⟨p, e, s, m, args, below, meth, c, Q, A, ⟨hx, hb, hml, hown, hts, hA, hK, hST, hlocks⟩, rfl⟩ := C
  intro H locs ls hP hD hS hl
  exact lv_dup2_11 hx hb hdg hva hvb (kk H locs ls hP hD hS hl)
theorem J_goto (C : jC E l own cc nL R J) {off : Int} (tgt : Nat) (hdg : decode cc pc = .ok (.goto off, 3)) (ht : (pc : Int) + off = (tgt : Int)) (kk : J tgt lv st ws cs ss) : J pc lv (st) ws cs ss := by
  obtain ⟨p, e, s, m, args, below, meth, c, Q, A, ⟨hx, hb, hml, hown, hts, hA, hK, hST, hlocks⟩, rfl⟩ := C
  intro H locs ls hP hD hS hl
  exact lv_goto hx hb hdg ht (kk H locs ls hP hD hS hl)
theorem J_if_eq (C : jC E l own cc nL R J) {x : Int32} {a : Int} {off : Int} (tgt : Nat) (hxa : x.toInt = a) (hdg : decode cc pc = .ok (.ifCond .eq off, 3)) (ht : (pc : Int) + off = (tgt : Int)) (kt : a = 0 → J tgt lv st ws cs ss) (kf : a ≠ 0 → J (pc + 3) lv st ws cs ss) : J pc lv (.int x :: st) ws cs ss := by
  obtain ⟨p, e, s, m, args, below, meth, c, Q, A, ⟨hx, hb, hml, hown, hts, hA, hK, hST, hlocks⟩, rfl⟩ := C
  intro H locs ls hP hD hS hl
  exact lv_if_eq hx hb hdg ht (fun h => kt ((j_eq hxa j_z0).mp h) H locs ls hP hD hS hl) (fun h => kf (fun q => h ((j_eq hxa j_z0).mpr q)) H locs ls hP hD hS hl)
theorem J_icmp_eq (C : jC E l own cc nL R J) {x y : Int32} {a b : Int} {off : Int} (tgt : Nat) (hxa : x.toInt = a) (hyb : y.toInt = b) (hdg : decode cc pc = .ok (.if_icmp .eq off, 3)) (ht : (pc : Int) + off = (tgt : Int)) (kt : a = b → J tgt lv st ws cs ss) (kf : a ≠ b → J (pc + 3) lv st ws cs ss) : J pc lv (.int y :: .int x :: st) ws cs ss := by
  obtain ⟨p, e, s, m, args, below, meth, c, Q, A, ⟨hx, hb, hml, hown, hts, hA, hK, hST, hlocks⟩, rfl⟩ := C
  intro H locs ls hP hD hS hl
  exact lv_icmp_eq hx hb hdg ht (fun h => kt ((j_eq hxa hyb).mp h) H locs ls hP hD hS hl) (fun h => kf (fun q => h ((j_eq hxa hyb).mpr q)) H locs ls hP hD hS hl)
theorem J_if_ne (C : jC E l own cc nL R J) {x : Int32} {a : Int} {off : Int} (tgt : Nat) (hxa : x.toInt = a) (hdg : decode cc pc = .ok (.ifCond .ne off, 3)) (ht : (pc : Int) + off = (tgt : Int)) (kt : a ≠ 0 → J tgt lv st ws cs ss) (kf : a = 0 → J (pc + 3) lv st ws cs ss) : J pc lv (.int x :: st) ws cs ss := by
  obtain ⟨p, e, s, m, args, below, meth, c, Q, A, ⟨hx, hb, hml, hown, hts, hA, hK, hST, hlocks⟩, rfl⟩ := C
  intro H locs ls hP hD hS hl
  exact lv_if_ne hx hb hdg ht (fun h => kt (fun q => h ((j_eq hxa j_z0).mpr q)) H locs ls hP hD hS hl) (fun h => kf ((j_eq hxa j_z0).mp h) H locs ls hP hD hS hl)
theorem J_icmp_ne (C : jC E l own cc nL R J) {x y : Int32} {a b : Int} {off : Int} (tgt : Nat) (hxa : x.toInt = a) (hyb : y.toInt = b) (hdg : decode cc pc = .ok (.if_icmp .ne off, 3)) (ht : (pc : Int) + off = (tgt : Int)) (kt : a ≠ b → J tgt lv st ws cs ss) (kf : a = b → J (pc + 3) lv st ws cs ss) : J pc lv (.int y :: .int x :: st) ws cs ss := by
  obtain ⟨p, e, s, m, args, below, meth, c, Q, A, ⟨hx, hb, hml, hown, hts, hA, hK, hST, hlocks⟩, rfl⟩ := C
  intro H locs ls hP hD hS hl
  exact lv_icmp_ne hx hb hdg ht (fun h => kt (fun q => h ((j_eq hxa hyb).mpr q)) H locs ls hP hD hS hl) (fun h => kf ((j_eq hxa hyb).mp h) H locs ls hP hD hS hl)
theorem J_if_lt (C : jC E l own cc nL R J) {x : Int32} {a : Int} {off : Int} (tgt : Nat) (hxa : x.toInt = a) (hdg : decode cc pc = .ok (.ifCond .lt off, 3)) (ht : (pc : Int) + off = (tgt : Int)) (kt : a < 0 → J tgt lv st ws cs ss) (kf : 0 ≤ a → J (pc + 3) lv st ws cs ss) : J pc lv (.int x :: st) ws cs ss := by
  obtain ⟨p, e, s, m, args, below, meth, c, Q, A, ⟨hx, hb, hml, hown, hts, hA, hK, hST, hlocks⟩, rfl⟩ := C
  intro H locs ls hP hD hS hl
  exact lv_if_lt hx hb hdg ht (fun h => kt ((j_lt hxa j_z0).mp h) H locs ls hP hD hS hl) (fun h => kf (by have := mt (j_lt hxa j_z0).mpr h; omega) H locs ls hP hD hS hl)
theorem J_icmp_lt (C : jC E l own cc nL R J) {x y : Int32} {a b : Int} {off : Int} (tgt : Nat) (hxa : x.toInt = a) (hyb : y.toInt = b) (hdg : decode cc pc = .ok (.if_icmp .lt off, 3)) (ht : (pc : Int) + off = (tgt : Int)) (kt : a < b → J tgt lv st ws cs ss) (kf : b ≤ a → J (pc + 3) lv st ws cs ss) : J pc lv (.int y :: .int x :: st) ws cs ss := by
  obtain ⟨p, e, s, m, args, below, meth, c, Q, A, ⟨hx, hb, hml, hown, hts, hA, hK, hST, hlocks⟩, rfl⟩ := C
  intro H locs ls hP hD hS hl
  exact lv_icmp_lt hx hb hdg ht (fun h => kt ((j_lt hxa hyb).mp h) H locs ls hP hD hS hl) (fun h => kf (by have := mt (j_lt hxa hyb).mpr h; omega) H locs ls hP hD hS hl)
theorem J_if_ge (C : jC E l own cc nL R J) {x : Int32} {a : Int} {off : Int} (tgt : Nat) (hxa : x.toInt = a) (hdg : decode cc pc = .ok (.ifCond .ge off, 3)) (ht : (pc : Int) + off = (tgt : Int)) (kt : 0 ≤ a → J tgt lv st ws cs ss) (kf : a < 0 → J (pc + 3) lv st ws cs ss) : J pc lv (.int x :: st) ws cs ss := by
  obtain ⟨p, e, s, m, args, below, meth, c, Q, A, ⟨hx, hb, hml, hown, hts, hA, hK, hST, hlocks⟩, rfl⟩ := C
  intro H locs ls hP hD hS hl
  exact lv_if_ge hx hb hdg ht (fun h => kt ((j_le j_z0 hxa).mp h) H locs ls hP hD hS hl) (fun h => kf (by have := mt (j_le j_z0 hxa).mpr h; omega) H locs ls hP hD hS hl)
theorem J_icmp_ge (C : jC E l own cc nL R J) {x y : Int32} {a b : Int} {off : Int} (tgt : Nat) (hxa : x.toInt = a) (hyb : y.toInt = b) (hdg : decode cc pc = .ok (.if_icmp .ge off, 3)) (ht : (pc : Int) + off = (tgt : Int)) (kt : b ≤ a → J tgt lv st ws cs ss) (kf : a < b → J (pc + 3) lv st ws cs ss) : J pc lv (.int y :: .int x :: st) ws cs ss := by
  obtain ⟨p, e, s, m, args, below, meth, c, Q, A, ⟨hx, hb, hml, hown, hts, hA, hK, hST, hlocks⟩, rfl⟩ := C
  intro H locs ls hP hD hS hl
  exact lv_icmp_ge hx hb hdg ht (fun h => kt ((j_le hyb hxa).mp h) H locs ls hP hD hS hl) (fun h => kf (by have := mt (j_le hyb hxa).mpr h; omega) H locs ls hP hD hS hl)
theorem J_if_gt (C : jC E l own cc nL R J) {x : Int32} {a : Int} {off : Int} (tgt : Nat) (hxa : x.toInt = a) (hdg : decode cc pc = .ok (.ifCond .gt off, 3)) (ht : (pc : Int) + off = (tgt : Int)) (kt : 0 < a → J tgt lv st ws cs ss) (kf : a ≤ 0 → J (pc + 3) lv st ws cs ss) : J pc lv (.int x :: st) ws cs ss := by
  obtain ⟨p, e, s, m, args, below, meth, c, Q, A, ⟨hx, hb, hml, hown, hts, hA, hK, hST, hlocks⟩, rfl⟩ := C
  intro H locs ls hP hD hS hl
  exact lv_if_gt hx hb hdg ht (fun h => kt ((j_lt j_z0 hxa).mp h) H locs ls hP hD hS hl) (fun h => kf (by have := mt (j_lt j_z0 hxa).mpr h; omega) H locs ls hP hD hS hl)
theorem J_icmp_gt (C : jC E l own cc nL R J) {x y : Int32} {a b : Int} {off : Int} (tgt : Nat) (hxa : x.toInt = a) (hyb : y.toInt = b) (hdg : decode cc pc = .ok (.if_icmp .gt off, 3)) (ht : (pc : Int) + off = (tgt : Int)) (kt : b < a → J tgt lv st ws cs ss) (kf : a ≤ b → J (pc + 3) lv st ws cs ss) : J pc lv (.int y :: .int x :: st) ws cs ss := by
  obtain ⟨p, e, s, m, args, below, meth, c, Q, A, ⟨hx, hb, hml, hown, hts, hA, hK, hST, hlocks⟩, rfl⟩ := C
  intro H locs ls hP hD hS hl
  exact lv_icmp_gt hx hb hdg ht (fun h => kt ((j_lt hyb hxa).mp h) H locs ls hP hD hS hl) (fun h => kf (by have := mt (j_lt hyb hxa).mpr h; omega) H locs ls hP hD hS hl)
theorem J_if_le (C : jC E l own cc nL R J) {x : Int32} {a : Int} {off : Int} (tgt : Nat) (hxa : x.toInt = a) (hdg : decode cc pc = .ok (.ifCond .le off, 3)) (ht : (pc : Int) + off = (tgt : Int)) (kt : a ≤ 0 → J tgt lv st ws cs ss) (kf : 0 < a → J (pc + 3) lv st ws cs ss) : J pc lv (.int x :: st) ws cs ss := by
  obtain ⟨p, e, s, m, args, below, meth, c, Q, A, ⟨hx, hb, hml, hown, hts, hA, hK, hST, hlocks⟩, rfl⟩ := C
  intro H locs ls hP hD hS hl
  exact lv_if_le hx hb hdg ht (fun h => kt ((j_le hxa j_z0).mp h) H locs ls hP hD hS hl) (fun h => kf (by have := mt (j_le hxa j_z0).mpr h; omega) H locs ls hP hD hS hl)
theorem J_icmp_le (C : jC E l own cc nL R J) {x y : Int32} {a b : Int} {off : Int} (tgt : Nat) (hxa : x.toInt = a) (hyb : y.toInt = b) (hdg : decode cc pc = .ok (.if_icmp .le off, 3)) (ht : (pc : Int) + off = (tgt : Int)) (kt : a ≤ b → J tgt lv st ws cs ss) (kf : b < a → J (pc + 3) lv st ws cs ss) : J pc lv (.int y :: .int x :: st) ws cs ss := by
  obtain ⟨p, e, s, m, args, below, meth, c, Q, A, ⟨hx, hb, hml, hown, hts, hA, hK, hST, hlocks⟩, rfl⟩ := C
  intro H locs ls hP hD hS hl
  exact lv_icmp_le hx hb hdg ht (fun h => kt ((j_le hxa hyb).mp h) H locs ls hP hD hS hl) (fun h => kf (by have := mt (j_le hxa hyb).mpr h; omega) H locs ls hP hD hS hl)
theorem J_ifnonnull (C : jC E l own cc nL R J) {x : Nat} {off : Int} (tgt : Nat) (hdg : decode cc pc = .ok (.ifnonnull off, 3)) (ht : (pc : Int) + off = (tgt : Int)) (kk : J tgt lv st ws cs ss) : J pc lv (.ref x :: st) ws cs ss := by
  obtain ⟨p, e, s, m, args, below, meth, c, Q, A, ⟨hx, hb, hml, hown, hts, hA, hK, hST, hlocks⟩, rfl⟩ := C
  intro H locs ls hP hD hS hl
  exact lv_ifnonnull hx hb hdg ht (kk H locs ls hP hD hS hl)
theorem J_ifnonnullN (C : jC E l own cc nL R J) {off : Int} (hdg : decode cc pc = .ok (.ifnonnull off, 3)) (kk : J (pc + 3) lv st ws cs ss) : J pc lv (.null :: st) ws cs ss := by
  obtain ⟨p, e, s, m, args, below, meth, c, Q, A, ⟨hx, hb, hml, hown, hts, hA, hK, hST, hlocks⟩, rfl⟩ := C
  intro H locs ls hP hD hS hl
  exact lv_ifnonnullN hx hb hdg (kk H locs ls hP hD hS hl)
theorem J_tswOut (C : jC E l own cc nL R J) {dflt lo hi : Int} {offs : Array Int} {len : Nat} {x : Int32} (tgt : Nat) (hdg : decode cc pc = .ok (.tableswitch dflt lo hi offs, len)) (h : x.toInt < lo ∨ hi < x.toInt) (ht : (pc : Int) + dflt = (tgt : Int)) (kk : J tgt lv st ws cs ss) : J pc lv (.int x :: st) ws cs ss := by
  obtain ⟨p, e, s, m, args, below, meth, c, Q, A, ⟨hx, hb, hml, hown, hts, hA, hK, hST, hlocks⟩, rfl⟩ := C
  intro H locs ls hP hD hS hl
  exact lv_tableOut hx hb hdg h ht (kk H locs ls hP hD hS hl)
theorem J_tswIn (C : jC E l own cc nL R J) {dflt lo hi : Int} {offs : Array Int} {len : Nat} {x : Int32} {off : Int} (tgt : Nat) (hdg : decode cc pc = .ok (.tableswitch dflt lo hi offs, len)) (h1 : ¬ x.toInt < lo) (h2 : ¬ hi < x.toInt) (ho : offs[(x.toInt - lo).toNat]? = some off) (ht : (pc : Int) + off = (tgt : Int)) (kk : J tgt lv st ws cs ss) : J pc lv (.int x :: st) ws cs ss := by
  obtain ⟨p, e, s, m, args, below, meth, c, Q, A, ⟨hx, hb, hml, hown, hts, hA, hK, hST, hlocks⟩, rfl⟩ := C
  intro H locs ls hP hD hS hl
  exact lv_tableIn hx hb hdg h1 h2 ho ht (kk H locs ls hP hD hS hl)
theorem J_get (C : jC E l own cc nL R J) {Cn : String} {T : u_T} {N ci index a : Nat} {fs : List Value} {v : Value} (q0 k : Nat) (hin : ∀ w ∈ u_ws Cn T N, w ∈ jTW) (he : ws[q0]? = some (a, .inr (ci, fs))) (hc : vwCl[ci]? = some (Cn, T, N)) (hk : k < N) (hlink : Cond.fieldLink own index (T k).1 (T k).2.1 (T k).2.2.1 ∈ jTW) (hv : fs[k]? = some v) (hdg : decode cc pc = .ok (.getfield index, 3)) (kk : J (pc + 3) lv (v :: st) ws cs ss) : J pc lv (.ref a :: st) ws cs ss := by
  obtain ⟨p, e, s, m, args, below, meth, c, Q, A, ⟨hx, hb, hml, hown, hts, hA, hK, hST, hlocks⟩, rfl⟩ := C
  intro H locs ls hP hD hS hl
  exact va_get hx hb hts hin hown hK hP q0 he hc k hk (hts _ hlink) (fun _ h => h) hv hdg (kk H locs ls hP hD hS hl)
theorem J_put (C : jC E l own cc nL R J) {Cn : String} {T : u_T} {N ci index a : Nat} {fs : List Value} {v : Value} {ws' : va_W} (q0 k : Nat) (ty0 : Nat → FieldType) (hin : ∀ w ∈ u_ws Cn T N, w ∈ jTW) (hty : ∀ k, k < N → parseFieldDescriptor (T k).2.2.1 = some (ty0 k)) (hnm : ∀ a, a < N → ∀ b, b < N → a ≠ b → (T a).2.1 ≠ (T b).2.1) (he : ws[q0]? = some (a, .inr (ci, fs))) (hc : vwCl[ci]? = some (Cn, T, N)) (hk : k < N) (hlink : Cond.fieldLink own index (T k).1 (T k).2.1 (T k).2.2.1 ∈ jTW) (hfin : (T k).2.2.2 = false) (hn : narrow (ty0 k) v = v) (hfit : fits (ty0 k) v = true) (hlen : k < fs.length) (hdg : decode cc pc = .ok (.putfield index, 3)) (hw : ws.set q0 (a, .inr (ci, fs.set k v)) = ws') (kk : J (pc + 3) lv st ws' cs ss) : J pc lv (v :: .ref a :: st) ws cs ss := by
  obtain ⟨p, e, s, m, args, below, meth, c, Q, A, ⟨hx, hb, hml, hown, hts, hA, hK, hST, hlocks⟩, rfl⟩ := C
  intro H locs ls hP hD hS hl
  subst hw
  exact va_put hx hb hts hin ty0 hty hnm hown hK hP hD hS q0 he hc k hk (hts _ hlink) (fun _ h => h) hfin (hty k hk) hn hfit hlen hdg (fun H1 locs1 hP1 hD1 hS1 => kk H1 locs1 ls hP1 hD1 hS1 hl)
theorem J_new (C : jC E l own cc nL R J) {Cn : String} {T : u_T} {N ci index : Nat} {fs : List Value} (ty : Nat → FieldType) (hin : ∀ w ∈ u_ws Cn T N, w ∈ jTW) (hty : ∀ k, k < N → parseFieldDescriptor (T k).2.2.1 = some (ty k)) (hcl : Cond.classLink own index Cn ∈ jTW) (hinst : Cond.instantiable Cn N ∈ jTW) (hini : Cond.initialized Cn ∈ jTW) (hc : vwCl[ci]? = some (Cn, T, N)) (hfs : ∀ j, j < N → defaultValue (ty j) = vp_V fs j) (hcells : cs + 1 ≤ R.cells) (hslots : ss + N ≤ R.slots) (hdg : decode cc pc = .ok (.new index, 3)) (kk : ∀ q : Nat, J (pc + 3) lv (.ref q :: st) (ws ++ [(q, .inr (ci, fs))]) (cs + 1) (ss + N)) : J pc lv (st) ws cs ss := by
  obtain ⟨p, e, s, m, args, below, meth, c, Q, A, ⟨hx, hb, hml, hown, hts, hA, hK, hST, hlocks⟩, rfl⟩ := C
  intro H locs ls hP hD hS hl
  exact va_new hx hb hts hin ty hty hown (hts _ hcl) (hts _ hinst) (hts _ hini) hK hP hD hS hA hc hfs hcells hslots hdg (fun q H1 hP1 hD1 hS1 => kk q H1 locs ls hP1 hD1 hS1 hl)
theorem J_objInit (C : jC E l own cc nL R J) {idx a : Nat} (h1 : Cond.methodLink own idx Lib.objectInit ∈ jTW) (h2 : Cond.instanceMethod Lib.objectInit ∈ jTW) (h3 : Cond.code Lib.objectInit ⟨#[0xb1]⟩ 1 none ∈ jTW) (hdg : decode cc pc = .ok (.invokespecial idx, 3)) (hf : 1 ≤ R.frames) (hlo : (st.map fun v => v.category).sum + 12 ≤ R.locals) (kk : J (pc + 3) lv st ws cs ss) : J pc lv (.ref a :: st) ws cs ss := by
  obtain ⟨p, e, s, m, args, below, meth, c, Q, A, ⟨hx, hb, hml, hown, hts, hA, hK, hST, hlocks⟩, rfl⟩ := C
  intro H locs ls hP hD hS hl
  exact W.objInit hx hb hown (hts _ h1) (hts _ h2) (hts _ h3) rfl (by rw [hml]; exact hl.1) rfl hdg hf (by show 2 * 0 + _ + 12 ≤ _; omega) (kk H locs ls hP hD hS hl)
theorem J_gets (C : jC E l own cc nL R J) {index : Nat} (hlink : Cond.fieldLink own index "ReversibleParts$Forms" "START" "[I" ∈ jTW) (hdg : decode cc pc = .ok (.getstatic index, 3)) (kk : J (pc + 3) lv (.ref (E.2 4) :: st) ws cs ss) : J pc lv (st) ws cs ss := by
  obtain ⟨p, e, s, m, args, below, meth, c, Q, A, ⟨hx, hb, hml, hown, hts, hA, hK, hST, hlocks⟩, rfl⟩ := C
  intro H locs ls hP hD hS hl
  exact va_gets hx hb hST.1 hS hown (hts _ hlink) (fun _ h => h) hdg (kk H locs ls hP hD hS hl)
theorem J_tald (C : jC E l own cc nL R J) {i : Nat} (hi : i < 4) (hdg : decode cc pc = .ok (.iaload, 1)) (kk : J (pc + 1) lv (.int (nI (jsT i)) :: st) ws cs ss) : J pc lv (.int (nI i) :: .ref (E.2 4) :: st) ws cs ss := by
  obtain ⟨p, e, s, m, args, below, meth, c, Q, A, ⟨hx, hb, hml, hown, hts, hA, hK, hST, hlocks⟩, rfl⟩ := C
  intro H locs ls hP hD hS hl
  exact va_ti hx hb hST.2.1 hS (vp_in_nI hi (by omega)) (by rw [nI_clamp (by omega)]) hdg (kk H locs ls hP hD hS hl)
theorem J_iald (C : jC E l own cc nL R J) {i n a : Nat} {f : Nat → Int32} (q0 : Nat) (ha : ws[q0]? = some (a, .inl (E.2 0, n, .inl f))) (hn : n < 2 ^ 31) (hi : i < n) (hdg : decode cc pc = .ok (.iaload, 1)) (kk : J (pc + 1) lv (.int (f i) :: st) ws cs ss) : J pc lv (.int (nI i) :: .ref a :: st) ws cs ss := by
  obtain ⟨p, e, s, m, args, below, meth, c, Q, A, ⟨hx, hb, hml, hown, hts, hA, hK, hST, hlocks⟩, rfl⟩ := C
  intro H locs ls hP hD hS hl
  have ec := nI_clamp (n := i) (by omega)
  refine va_iald hx hb hK hP q0 0 ha rfl (vp_in_nI hi hn) hdg ?_
  rw [ec]
  exact kk H locs ls hP hD hS hl
theorem J_lald (C : jC E l own cc nL R J) {i n a : Nat} {f : Nat → Int64} (q0 : Nat) (ha : ws[q0]? = some (a, .inl (E.2 1, n, .inr (.inl f)))) (hn : n < 2 ^ 31) (hi : i < n) (hdg : decode cc pc = .ok (.laload, 1)) (kk : J (pc + 1) lv (.long (f i) :: st) ws cs ss) : J pc lv (.int (nI i) :: .ref a :: st) ws cs ss := by
  obtain ⟨p, e, s, m, args, below, meth, c, Q, A, ⟨hx, hb, hml, hown, hts, hA, hK, hST, hlocks⟩, rfl⟩ := C
  intro H locs ls hP hD hS hl
  have ec := nI_clamp (n := i) (by omega)
  refine va_lald hx hb hK hP q0 1 ha rfl (vp_in_nI hi hn) hdg ?_
  rw [ec]
  exact kk H locs ls hP hD hS hl
theorem J_zald (C : jC E l own cc nL R J) {i n a : Nat} {f : Nat → Int32} (q0 : Nat) (ha : ws[q0]? = some (a, .inl (E.2 2, n, .inl f))) (hn : n < 2 ^ 31) (hi : i < n) (hdg : decode cc pc = .ok (.baload, 1)) (kk : J (pc + 1) lv (.int (f i) :: st) ws cs ss) : J pc lv (.int (nI i) :: .ref a :: st) ws cs ss := by
  obtain ⟨p, e, s, m, args, below, meth, c, Q, A, ⟨hx, hb, hml, hown, hts, hA, hK, hST, hlocks⟩, rfl⟩ := C
  intro H locs ls hP hD hS hl
  have ec := nI_clamp (n := i) (by omega)
  refine va_zald hx hb hK hP q0 2 ha rfl (vp_in_nI hi hn) hdg ?_
  rw [ec]
  exact kk H locs ls hP hD hS hl
theorem J_aald (C : jC E l own cc nL R J) {i n a : Nat} {f : Nat → Option Nat} (q0 : Nat) (ha : ws[q0]? = some (a, .inl (E.2 3, n, .inr (.inr (.inr (.inr f)))))) (hn : n < 2 ^ 31) (hi : i < n) (hdg : decode cc pc = .ok (.aaload, 1)) (kk : J (pc + 1) lv (va_rf (f i) :: st) ws cs ss) : J pc lv (.int (nI i) :: .ref a :: st) ws cs ss := by
  obtain ⟨p, e, s, m, args, below, meth, c, Q, A, ⟨hx, hb, hml, hown, hts, hA, hK, hST, hlocks⟩, rfl⟩ := C
  intro H locs ls hP hD hS hl
  have ec := nI_clamp (n := i) (by omega)
  refine va_aldq hx hb hK hP q0 3 ha rfl (vp_in_nI hi hn) hdg ?_
  rw [ec]
  exact kk H locs ls hP hD hS hl
theorem J_iast (C : jC E l own cc nL R J) {i n a : Nat} {f : Nat → Int32} {x : Int32} {ws' : va_W} (q0 : Nat) (ha : ws[q0]? = some (a, .inl (E.2 0, n, .inl f))) (hn : n < 2 ^ 31) (hi : i < n) (hdg : decode cc pc = .ok (.iastore, 1)) (hw : ws.set q0 (a, .inl (E.2 0, n, .inl (upd f i x))) = ws') (kk : J (pc + 1) lv st ws' cs ss) : J pc lv (.int x :: .int (nI i) :: .ref a :: st) ws cs ss := by
  obtain ⟨p, e, s, m, args, below, meth, c, Q, A, ⟨hx, hb, hml, hown, hts, hA, hK, hST, hlocks⟩, rfl⟩ := C
  intro H locs ls hP hD hS hl
  have ec := nI_clamp (n := i) (by omega)
  subst hw
  refine va_iast hx hb hK hP hD hS q0 0 ha rfl (vp_in_nI hi hn) hdg ?_
  rw [ec]
  exact fun H1 locs1 hP1 hD1 hS1 => kk H1 locs1 ls hP1 hD1 hS1 hl
theorem J_iastN (C : jC E l own cc nL R J) {i n a v : Nat} {t : Nat → Nat} {ws' : va_W} (q0 : Nat) (ha : ws[q0]? = some (kI E a n t)) (hn : n < 2 ^ 31) (hi : i < n) (hdg : decode cc pc = .ok (.iastore, 1)) (hw : ws.set q0 (kI E a n (upN t i v)) = ws') (kk : J (pc + 1) lv st ws' cs ss) : J pc lv (.int (nI v) :: .int (nI i) :: .ref a :: st) ws cs ss := by
  obtain ⟨p, e, s, m, args, below, meth, c, Q, A, ⟨hx, hb, hml, hown, hts, hA, hK, hST, hlocks⟩, rfl⟩ := C
  intro H locs ls hP hD hS hl
  have ec := nI_clamp (n := i) (by omega)
  subst hw
  refine va_iast hx hb hK hP hD hS q0 0 ha rfl (vp_in_nI hi hn) hdg ?_
  rw [ec, upN_nI]
  exact fun H1 locs1 hP1 hD1 hS1 => kk H1 locs1 ls hP1 hD1 hS1 hl
theorem J_last (C : jC E l own cc nL R J) {i n a : Nat} {f : Nat → Int64} {x : Int64} {ws' : va_W} (q0 : Nat) (ha : ws[q0]? = some (a, .inl (E.2 1, n, .inr (.inl f)))) (hn : n < 2 ^ 31) (hi : i < n) (hdg : decode cc pc = .ok (.lastore, 1)) (hw : ws.set q0 (a, .inl (E.2 1, n, .inr (.inl (vp_updL f i x)))) = ws') (kk : J (pc + 1) lv st ws' cs ss) : J pc lv (.long x :: .int (nI i) :: .ref a :: st) ws cs ss := by
  obtain ⟨p, e, s, m, args, below, meth, c, Q, A, ⟨hx, hb, hml, hown, hts, hA, hK, hST, hlocks⟩, rfl⟩ := C
  intro H locs ls hP hD hS hl
  have ec := nI_clamp (n := i) (by omega)
  subst hw
  refine va_last hx hb hK hP hD hS q0 1 ha rfl (vp_in_nI hi hn) hdg ?_
  rw [ec]
  exact fun H1 locs1 hP1 hD1 hS1 => kk H1 locs1 ls hP1 hD1 hS1 hl
theorem J_zast (C : jC E l own cc nL R J) {i n a : Nat} {f : Nat → Int32} {x : Int32} {ws' : va_W} (q0 : Nat) (ha : ws[q0]? = some (a, .inl (E.2 2, n, .inl f))) (hn : n < 2 ^ 31) (hi : i < n) (hdg : decode cc pc = .ok (.bastore, 1)) (hnar : vp_nar .boolean x = x) (hw : ws.set q0 (a, .inl (E.2 2, n, .inl (upd f i x))) = ws') (kk : J (pc + 1) lv st ws' cs ss) : J pc lv (.int x :: .int (nI i) :: .ref a :: st) ws cs ss := by
  obtain ⟨p, e, s, m, args, below, meth, c, Q, A, ⟨hx, hb, hml, hown, hts, hA, hK, hST, hlocks⟩, rfl⟩ := C
  intro H locs ls hP hD hS hl
  have ec := nI_clamp (n := i) (by omega)
  subst hw
  refine va_zast hx hb hK hP hD hS q0 2 ha rfl (vp_in_nI hi hn) hdg ?_
  rw [ec, hnar]
  exact fun H1 locs1 hP1 hD1 hS1 => kk H1 locs1 ls hP1 hD1 hS1 hl
theorem J_aast (C : jC E l own cc nL R J) {i n a v ci : Nat} {T : u_T} {N : Nat} {vs : List Value} {f : Nat → Option Nat} {ws' : va_W} (q0 qk : Nat) (ha : ws[q0]? = some (a, .inl (E.2 3, n, .inr (.inr (.inr (.inr f)))))) (hv : ws[qk]? = some (v, .inr (ci, vs))) (hc : vwCl[ci]? = some ("ReversibleParts$Moves", T, N)) (hn : n < 2 ^ 31) (hi : i < n) (hdg : decode cc pc = .ok (.aastore, 1)) (hw : ws.set q0 (a, .inl (E.2 3, n, .inr (.inr (.inr (.inr (va_up f i (some v))))))) = ws') (kk : J (pc + 1) lv st ws' cs ss) : J pc lv (.ref v :: .int (nI i) :: .ref a :: st) ws cs ss := by
  obtain ⟨p, e, s, m, args, below, meth, c, Q, A, ⟨hx, hb, hml, hown, hts, hA, hK, hST, hlocks⟩, rfl⟩ := C
  intro H locs ls hP hD hS hl
  have ec := nI_clamp (n := i) (by omega)
  subst hw
  refine va_astq hx hb hK hP hD hS q0 3 qk ci ha rfl hv hc (vp_in_nI hi hn) hdg ?_
  rw [ec]
  exact fun H1 locs1 hP1 hD1 hS1 => kk H1 locs1 ls hP1 hD1 hS1 hl
theorem J_aastN (C : jC E l own cc nL R J) {i n a : Nat} {f : Nat → Option Nat} {ws' : va_W} (q0 : Nat) (ha : ws[q0]? = some (a, .inl (E.2 3, n, .inr (.inr (.inr (.inr f)))))) (hn : n < 2 ^ 31) (hi : i < n) (hdg : decode cc pc = .ok (.aastore, 1)) (hw : ws.set q0 (a, .inl (E.2 3, n, .inr (.inr (.inr (.inr (va_up f i none)))))) = ws') (kk : J (pc + 1) lv st ws' cs ss) : J pc lv (.null :: .int (nI i) :: .ref a :: st) ws cs ss := by
  obtain ⟨p, e, s, m, args, below, meth, c, Q, A, ⟨hx, hb, hml, hown, hts, hA, hK, hST, hlocks⟩, rfl⟩ := C
  intro H locs ls hP hD hS hl
  have ec := nI_clamp (n := i) (by omega)
  subst hw
  refine va_astqN hx hb hK hP hD hS q0 3 ha rfl (vp_in_nI hi hn) hdg ?_
  rw [ec]
  exact fun H1 locs1 hP1 hD1 hS1 => kk H1 locs1 ls hP1 hD1 hS1 hl
theorem J_alen (C : jC E l own cc nL R J) {a n : Nat} {x : (Nat → Int32) ⊕ (Nat → Int64) ⊕ (Nat → UInt32) ⊕ (Nat → UInt64) ⊕ (Nat → Option Nat)} {ca : Nat} {ty : FieldType} (q0 t0 : Nat) (ha : ws[q0]? = some (a, .inl (ca, n, x))) (ht : (jTys E)[t0]? = some (ca, ty)) (hdg : decode cc pc = .ok (.arraylength, 1)) (kk : J (pc + 1) lv (.int (nI n) :: st) ws cs ss) : J pc lv (.ref a :: st) ws cs ss := by
  obtain ⟨p, e, s, m, args, below, meth, c, Q, A, ⟨hx, hb, hml, hown, hts, hA, hK, hST, hlocks⟩, rfl⟩ := C
  intro H locs ls hP hD hS hl
  exact va_alen hx hb hK hP q0 t0 ha ht rfl hdg (kk H locs ls hP hD hS hl)
theorem J_newaI (C : jC E l own cc nL R J) {n : Nat} (hw : Cond.arrayClass .int ∈ jTW) (hn : n < 2 ^ 24) (hcells : cs + 1 ≤ R.cells) (hslots : ss + n ≤ R.slots) (hdg : decode cc pc = .ok (.newarray .int, 2)) (kk : ∀ q : Nat, J (pc + 2) lv (.ref q :: st) (ws ++ [kI E q n (fun _ => 0)]) (cs + 1) (ss + n)) : J pc lv (.int (nI n) :: st) ws cs ss := by
  obtain ⟨p, e, s, m, args, below, meth, c, Q, A, ⟨hx, hb, hml, hown, hts, hA, hK, hST, hlocks⟩, rfl⟩ := C
  intro H locs ls hP hD hS hl
  refine va_newa (atype := .int) hx hb (hts _ hw) (ty := .int) rfl hK hP hD hS hA (a0 := (n, .inl (fun _ => nI 0))) (fun _ => rfl) (nI_pos (by omega)) (nI_clamp (by omega)) (by show n * _ ≤ _; simp only [componentBytes]; omega) hcells hslots hdg ?_
  intro q cA H1 hK1 hP1 hD1 hS1
  have e1 : cA = E.2 0 := by
    have f1 : s.vm.findClass ("[" ++ FieldType.int.toString) = some cA := (hK1.2 4 (cA, .int) rfl).2
    have f2 : s.vm.findClass ("[" ++ FieldType.int.toString) = some (E.2 0) := (hK.2 0 (E.2 0, .int) rfl).2
    exact Option.some.inj (f1.symm.trans f2)
  subst e1
  exact kk q H1 locs ls hP1 hD1 hS1 hl
theorem J_newaL (C : jC E l own cc nL R J) {n : Nat} (hw : Cond.arrayClass .long ∈ jTW) (hn : n < 2 ^ 24) (hcells : cs + 1 ≤ R.cells) (hslots : ss + n ≤ R.slots) (hdg : decode cc pc = .ok (.newarray .long, 2)) (kk : ∀ q : Nat, J (pc + 2) lv (.ref q :: st) (ws ++ [kL E q n (fun _ => 0)]) (cs + 1) (ss + n)) : J pc lv (.int (nI n) :: st) ws cs ss := by
  obtain ⟨p, e, s, m, args, below, meth, c, Q, A, ⟨hx, hb, hml, hown, hts, hA, hK, hST, hlocks⟩, rfl⟩ := C
  intro H locs ls hP hD hS hl
  refine va_newa (atype := .long) hx hb (hts _ hw) (ty := .long) rfl hK hP hD hS hA (a0 := (n, .inr (.inl (fun _ => 0)))) (fun _ => rfl) (nI_pos (by omega)) (nI_clamp (by omega)) (by show n * _ ≤ _; simp only [componentBytes]; omega) hcells hslots hdg ?_
  intro q cA H1 hK1 hP1 hD1 hS1
  have e1 : cA = E.2 1 := by
    have f1 : s.vm.findClass ("[" ++ FieldType.long.toString) = some cA := (hK1.2 4 (cA, .long) rfl).2
    have f2 : s.vm.findClass ("[" ++ FieldType.long.toString) = some (E.2 1) := (hK.2 1 (E.2 1, .long) rfl).2
    exact Option.some.inj (f1.symm.trans f2)
  subst e1
  exact kk q H1 locs ls hP1 hD1 hS1 hl
theorem J_newaZ (C : jC E l own cc nL R J) {n : Nat} (hw : Cond.arrayClass .boolean ∈ jTW) (hn : n < 2 ^ 24) (hcells : cs + 1 ≤ R.cells) (hslots : ss + n ≤ R.slots) (hdg : decode cc pc = .ok (.newarray .boolean, 2)) (kk : ∀ q : Nat, J (pc + 2) lv (.ref q :: st) (ws ++ [kZ E q n (fun _ => 0)]) (cs + 1) (ss + n)) : J pc lv (.int (nI n) :: st) ws cs ss := by
  obtain ⟨p, e, s, m, args, below, meth, c, Q, A, ⟨hx, hb, hml, hown, hts, hA, hK, hST, hlocks⟩, rfl⟩ := C
  intro H locs ls hP hD hS hl
  refine va_newa (atype := .boolean) hx hb (hts _ hw) (ty := .boolean) rfl hK hP hD hS hA (a0 := (n, .inl (fun _ => 0))) (fun _ => rfl) (nI_pos (by omega)) (nI_clamp (by omega)) (by show n * _ ≤ _; simp only [componentBytes]; omega) hcells hslots hdg ?_
  intro q cA H1 hK1 hP1 hD1 hS1
  have e1 : cA = E.2 2 := by
    have f1 : s.vm.findClass ("[" ++ FieldType.boolean.toString) = some cA := (hK1.2 4 (cA, .boolean) rfl).2
    have f2 : s.vm.findClass ("[" ++ FieldType.boolean.toString) = some (E.2 2) := (hK.2 2 (E.2 2, .boolean) rfl).2
    exact Option.some.inj (f1.symm.trans f2)
  subst e1
  exact kk q H1 locs ls hP1 hD1 hS1 hl
theorem J_newaM (C : jC E l own cc nL R J) {n index : Nat} (hw : Cond.classLink own index "ReversibleParts$Moves" ∈ jTW) (hn : n < 2 ^ 24) (hcells : cs + 1 ≤ R.cells) (hslots : ss + n ≤ R.slots) (hdg : decode cc pc = .ok (.anewarray index, 3)) (kk : ∀ q : Nat, J (pc + 3) lv (.ref q :: st) (ws ++ [kQ E q n (fun _ => none)]) (cs + 1) (ss + n)) : J pc lv (.int (nI n) :: st) ws cs ss := by
  obtain ⟨p, e, s, m, args, below, meth, c, Q, A, ⟨hx, hb, hml, hown, hts, hA, hK, hST, hlocks⟩, rfl⟩ := C
  intro H locs ls hP hD hS hl
  refine va_newq hx hb hown (hts _ hw) hST.2.2 hK hP hD hS hA (nI_pos (by omega)) (nI_clamp (by omega)) (by omega) hcells hslots hdg ?_
  intro q cA H1 hK1 hP1 hD1 hS1
  have e1 : cA = E.2 3 := by
    obtain ⟨kA, comp, -, -, -, f1⟩ := (hK1.2 4 (cA, .object "ReversibleParts$Moves") rfl).2
    obtain ⟨kA2, comp2, -, -, -, f2⟩ := (hK.2 3 (E.2 3, .object "ReversibleParts$Moves") rfl).2
    exact Option.some.inj (f1.symm.trans f2)
  subst e1
  exact kk q H1 locs ls hP1 hD1 hS1 hl
theorem J_mmax (C : jC E l own cc nL R J) {x y : Int32} {index : Nat} (h1 : Cond.methodLink own index Lib.Math.max.name ∈ jTW) (h2 : Cond.static Lib.Math.max.name ∈ jTW) (h3 : Cond.initialized "java/lang/Math" ∈ jTW) (h4 : Cond.code Lib.Math.max.name Lib.Math.max.code 2 (some .int) ∈ jTW) (hf : 1 ≤ R.frames) (hlo : (st.map fun v => v.category).sum + 13 ≤ R.locals) (hc : cs ≤ R.cells) (hs : ss ≤ R.slots) (hdg : decode cc pc = .ok (.invokestatic index, 3)) (kk : J (pc + 3) lv (.int (if x < y then y else x) :: st) ws cs ss) : J pc lv (.int y :: .int x :: st) ws cs ss := by
  obtain ⟨p, e, s, m, args, below, meth, c, Q, A, ⟨hx, hb, hml, hown, hts, hA, hK, hST, hlocks⟩, rfl⟩ := C
  intro H locs ls hP hD hS hl
  exact va_mmax hx hb (by rw [hml]; exact hl.1.symm) hown (hts _ h1) (hts _ h2) (hts _ h3) (hts _ h4) hf hlo hc hs hdg (kk H locs ls hP hD hS hl)
theorem J_mmin (C : jC E l own cc nL R J) {x y : Int32} {index : Nat} (h1 : Cond.methodLink own index Lib.Math.min.name ∈ jTW) (h2 : Cond.static Lib.Math.min.name ∈ jTW) (h3 : Cond.initialized "java/lang/Math" ∈ jTW) (h4 : Cond.code Lib.Math.min.name Lib.Math.min.code 2 (some .int) ∈ jTW) (hf : 1 ≤ R.frames) (hlo : (st.map fun v => v.category).sum + 13 ≤ R.locals) (hc : cs ≤ R.cells) (hs : ss ≤ R.slots) (hdg : decode cc pc = .ok (.invokestatic index, 3)) (kk : J (pc + 3) lv (.int (if y < x then y else x) :: st) ws cs ss) : J pc lv (.int y :: .int x :: st) ws cs ss := by
  obtain ⟨p, e, s, m, args, below, meth, c, Q, A, ⟨hx, hb, hml, hown, hts, hA, hK, hST, hlocks⟩, rfl⟩ := C
  intro H locs ls hP hD hS hl
  exact va_mmin hx hb (by rw [hml]; exact hl.1.symm) hown (hts _ h1) (hts _ h2) (hts _ h3) (hts _ h4) hf hlo hc hs hdg (kk H locs ls hP hD hS hl)
theorem J_mminL (C : jC E l own cc nL R J) {x y : Int64} {index : Nat} (h1 : Cond.methodLink own index Lib.MathLoose.min_long.x ∈ jTW) (h2 : Cond.static Lib.MathLoose.min_long.x ∈ jTW) (h3 : Cond.initialized "java/lang/Math" ∈ jTW) (h4 : Cond.code Lib.MathLoose.min_long.x Lib.MathLoose.min_long.code 4 (some .long) ∈ jTW) (hf : 1 ≤ R.frames) (hlo : (st.map fun v => v.category).sum + 15 ≤ R.locals) (hc : cs ≤ R.cells) (hs : ss ≤ R.slots) (hdg : decode cc pc = .ok (.invokestatic index, 3)) (kk : J (pc + 3) lv (.long (if y < x then y else x) :: st) ws cs ss) : J pc lv (.long y :: .long x :: st) ws cs ss := by
  obtain ⟨p, e, s, m, args, below, meth, c, Q, A, ⟨hx, hb, hml, hown, hts, hA, hK, hST, hlocks⟩, rfl⟩ := C
  intro H locs ls hP hD hS hl
  exact va_mmin_long hx hb (by rw [hml]; exact hl.1.symm) hown (hts _ h1) (hts _ h2) (hts _ h3) (hts _ h4) hf hlo hc hs hdg (kk H locs ls hP hD hS hl)
theorem J_widen (C : jC E l own cc nL R J) {k n : Nat} (h1 : cs ≤ k) (h2 : ss ≤ n) (kk : J pc lv st ws k n) : J pc lv (st) ws cs ss := by
  obtain ⟨p, e, s, m, args, below, meth, c, Q, A, ⟨hx, hb, hml, hown, hts, hA, hK, hST, hlocks⟩, rfl⟩ := C
  intro H locs ls hP hD hS hl
  exact W.widen h1 h2 (kk H locs ls hP hD hS hl)
theorem J_lv (C : jC E l own cc nL R J) {lv' : jL} (ks : List Nat) (hv : lv_pick lv ks = lv') (kk : J pc lv' st ws cs ss) : J pc lv (st) ws cs ss := by
  obtain ⟨p, e, s, m, args, below, meth, c, Q, A, ⟨hx, hb, hml, hown, hts, hA, hK, hST, hlocks⟩, rfl⟩ := C
  intro H locs ls hP hD hS hl
  exact kk H locs ls hP hD hS (lv_sub hl ks hv)
theorem J_sub (C : jC E l own cc nL R J) {ws' : va_W} (h : List.Sublist ws' ws) (kk : J pc lv st ws' cs ss) : J pc lv (st) ws cs ss := by
  obtain ⟨p, e, s, m, args, below, meth, c, Q, A, ⟨hx, hb, hml, hown, hts, hA, hK, hST, hlocks⟩, rfl⟩ := C
  intro H locs ls hP hD hS hl
  exact kk H locs ls (jP_iff.mpr fun q hq => jP_iff.mp hP q (h.subset hq)) (jD_iff.mpr ⟨(jD_iff.mp hD).1.sublist h, fun q hq => (jD_iff.mp hD).2 q (h.subset hq)⟩) hS hl
theorem J_perm (C : jC E l own cc nL R J) {ws' : va_W} (h : List.Perm ws' ws) (kk : J pc lv st ws' cs ss) : J pc lv (st) ws cs ss := by
  obtain ⟨p, e, s, m, args, below, meth, c, Q, A, ⟨hx, hb, hml, hown, hts, hA, hK, hST, hlocks⟩, rfl⟩ := C
  intro H locs ls hP hD hS hl
  exact kk H locs ls (jP_iff.mpr fun q hq => jP_iff.mp hP q (h.subset hq)) (jD_iff.mpr ⟨(h.pairwise_iff (fun hxy => Ne.symm hxy)).mpr (jD_iff.mp hD).1, fun q hq => (jD_iff.mp hD).2 q (h.subset hq)⟩) hS hl
theorem J_pick (C : jC E l own cc nL R J) {ws' : va_W} (is : List Nat) (hn : va_nd is = true) (hs : is.map (fun i => ws[i]?) = ws'.map some) (kk : J pc lv st ws' cs ss) : J pc lv (st) ws cs ss := by
  obtain ⟨p, e, s, m, args, below, meth, c, Q, A, ⟨hx, hb, hml, hown, hts, hA, hK, hST, hlocks⟩, rfl⟩ := C
  intro H locs ls hP hD hS hl
  exact kk H locs ls (hP.sub is (by
    have h := congrArg (List.filterMap id) hs
    simpa [List.filterMap_map] using h)) (hD.sub is hn hs) hS hl
theorem J_pickR (C : jC E l own cc nL R J) {X cx pl : va_W} (is : List Nat) (hn : va_nd is = true) (hs : is.map (fun i => X[i]?) = cx.map some) (kk : J pc lv st (cx ++ pl) cs ss) : J pc lv st (X ++ pl) cs ss := by
  obtain ⟨p, e, s, m, args, below, meth, c, Q, A, ⟨hx, hb, hml, hown, hts, hA, hK, hST, hlocks⟩, rfl⟩ := C
  intro H locs ls hP hD hS hl
  exact kk H locs ls (hP.part is hs) (hD.part is hn hs) hS hl
theorem J_norm (C : jC E l own cc nL R J) {st' : List Value} {ws' : va_W} {cs' ss' : Nat} (h1 : st = st') (h2 : ws = ws') (h3 : cs = cs') (h4 : ss = ss') (kk : J pc lv st' ws' cs' ss') : J pc lv st ws cs ss := by
  subst h1; subst h2; subst h3; subst h4; exact kk
theorem kI_congr {E : jE} {a n : Nat} {f g : Nat → Nat} (h : ∀ j, j < n → f j = g j) {D : va_G} {cl : List vw_C} {H : Heap} : va_at D cl (kI E a n f) H → va_at D cl (kI E a n g) H := by
  intro q
  have e : vp_cell (E.2 0) (n, .inl (fun j => nI (f j))) = vp_cell (E.2 0) (n, .inl (fun j => nI (g j))) := by
    rw [vp_cell_i, vp_cell_i]
    unfold arrV
    congr 1
    apply congrArg
    funext j
    simp only [h j.val j.isLt]
  exact (show H[a]? = some _ from q).trans (congrArg some e)
theorem kR_congr {E : jE} {a n : Nat} {f g : Nat → Int32} (h : ∀ j, j < n → f j = g j) {D : va_G} {cl : List vw_C} {H : Heap} : va_at D cl (kR E a n f) H → va_at D cl (kR E a n g) H := by
  intro q
  have e : vp_cell (E.2 0) (n, .inl f) = vp_cell (E.2 0) (n, .inl g) := by
    rw [vp_cell_i, vp_cell_i]
    unfold arrV
    congr 1
    apply congrArg
    funext j
    simp only [h j.val j.isLt]
  exact (show H[a]? = some _ from q).trans (congrArg some e)
theorem kZ_congr {E : jE} {a n : Nat} {f g : Nat → Int32} (h : ∀ j, j < n → f j = g j) {D : va_G} {cl : List vw_C} {H : Heap} : va_at D cl (kZ E a n f) H → va_at D cl (kZ E a n g) H := by
  intro q
  have e : vp_cell (E.2 2) (n, .inl f) = vp_cell (E.2 2) (n, .inl g) := by
    rw [vp_cell_i, vp_cell_i]
    unfold arrV
    congr 1
    apply congrArg
    funext j
    simp only [h j.val j.isLt]
  exact (show H[a]? = some _ from q).trans (congrArg some e)
theorem kL_congr {E : jE} {a n : Nat} {f g : Nat → Int64} (h : ∀ j, j < n → f j = g j) {D : va_G} {cl : List vw_C} {H : Heap} : va_at D cl (kL E a n f) H → va_at D cl (kL E a n g) H := by
  intro q
  have e : vp_cell (E.2 1) (n, .inr (.inl f)) = vp_cell (E.2 1) (n, .inr (.inl g)) := by
    rw [vp_cell_l, vp_cell_l]
    unfold arrV
    congr 1
    apply congrArg
    funext j
    simp only [h j.val j.isLt]
  exact (show H[a]? = some _ from q).trans (congrArg some e)
theorem J_cell (C : jC E l own cc nL R J) {a : Nat} {e0 e1 : va_E} {ws' : va_W} (q0 : Nat) (he : ws[q0]? = some (a, e0)) (h : ∀ H : Heap, va_at E.1 vwCl (a, e0) H → va_at E.1 vwCl (a, e1) H) (hw : ws.set q0 (a, e1) = ws') (kk : J pc lv st ws' cs ss) : J pc lv (st) ws cs ss := by
  obtain ⟨p, e, s, m, args, below, meth, c, Q, A, ⟨hx, hb, hml, hown, hts, hA, hK, hST, hlocks⟩, rfl⟩ := C
  intro H locs ls hP hD hS hl
  subst hw
  exact kk H locs ls (hP.set hD he (h H (hP q0 _ he)) (fun _ _ => rfl)) (hD.set he) hS hl
theorem j_back {p : Program} {e : Env} {s : State} {m : MethodId} {args : Array Value} {below : List Frame} {meth : Method} {c : Code} {Q : State → Prop} {A : Nat → Prop} {H : Heap} {locs : List Loc} {ls : Array Slot} {pre wc po : va_W} {mc ms : Nat} {rest : List Value} {post : Option Value → va_W → Prop} {a : Array Value}
    (hr : va_Run p l e R s m args below meth c H locs cs ss mc ms (F0 m pc ls st) rest (jPost E wc H.size post a) (va_A wc H.size)) (hA : ∀ q, s.heap.size ≤ q → A q) (hP : va_P E.1 vwCl (pre ++ wc ++ po) H) (hD : va_D A (pre ++ wc ++ po)) (hS : va_S A s.heap H locs) (hl : lv_has ls nL lv)
    (kk : ∀ (r : Option Value) (w' : va_W), post r w' → jV p l e R s m args below meth c Q A E nL (pc + 3) lv (r.toList ++ rest) (pre ++ w' ++ po) (cs + mc) (ss + ms)) : W p l e R s m args below meth c H locs cs ss Q (F0 m pc ls st) := by
  intro T hT X
  obtain ⟨v, st₀, t, T', L, h0, X', hL, e1, e2, ⟨⟨r, w', hv, hp, hP1, hD1⟩, hz, hk⟩, stp⟩ := hr T hT X
  cases hv
  rw [h0] at hz hk
  have hF := j_freeA hD hS hA
  obtain ⟨hP2, hD2⟩ := j_join hP hD hk hF hP1 hD1
  obtain ⟨t2, a1, b1⟩ := kk v w' hp T'.heap (locs ++ L) ls (by rw [e1]; exact hP2) hD2 ⟨Nat.le_trans hS.1 (by rw [e1]; exact hz), fun q h1 h2 => by rw [e1, hk q (Nat.lt_of_lt_of_le h1 hS.1) (fun z => h2 (hF q z))]; exact hS.2.1 q h1 h2, fun q hq => by
      rcases List.mem_append.mp hq with h | h
      · exact hS.2.2 q h
      · exact hF _ (hL q h)⟩ hl T' rfl X'
  exact ⟨t2, stp t2 a1, b1⟩
theorem j_pre {s : State} {A : Nat → Prop} {H : Heap} {locs : List Loc} {pre wc po : va_W} {av : List Value} (hA : ∀ q, s.heap.size ≤ q → A q) (hK : va_K E.1 vwCl (jTys E) s) (hST : jST E A s s.heap) (hP : va_P E.1 vwCl (pre ++ wc ++ po) H) (hD : va_D A (pre ++ wc ++ po)) (hS : va_S A s.heap H locs) : ∀ U : State, U.heap = H → s.WarmedH U.vm → jPre E av wc H.size av.toArray U := by
  intro U hU hW
  have hPc := (jP_app.mp (jP_app.mp hP).1).2
  have hDc := (jD_app.mp (jD_app.mp hD).1).2.1
  exact ⟨rfl, by rw [hU], by rw [hU]; exact hPc, va_K.moved hW.alike hK, hDc.weaken (fun _ _ _ _ => trivial), by
    rw [hU]
    exact jST.moved hW.alike ((jST.kept hST (fun q h1 h2 => hS.2.1 q h1 h2)).narrow (j_freeA hD hS hA))⟩
/-- what a method's words say: it is there, with this code -/
def jM (y : MethodName) (bc : ByteArray) (n maxL : Nat) (ret : Option FieldType) (kind : Cond) : Prop := kind ∈ jTW ∧ Cond.initialized y.cls ∈ jTW ∧ Cond.code y bc maxL ret ∈ jTW ∧ y.cls ≠ "java/lang/invoke/MethodHandle" ∧ y.cls ≠ "java/lang/invoke/VarHandle" ∧ (parseMethodDescriptor y.desc).map (fun d => d.parameters.length) = some n

theorem J_callV (C : jC E l own cc nL R J) {y : MethodName} {bc : ByteArray} {maxL n : Nat} {ret : Option FieldType} {rm : Room} {b ci index : Nat} {T : u_T} {N : Nat} {fs : List Value} {As rest : List Value} {post : Option Value → va_W → Prop} (pre wc po : va_W) (q0 : Nat) (hcon : Con E l y bc maxL ret rm (.ref b :: As) wc post) (hm : jM y bc n maxL ret (.instanceMethod y)) (hsel : Cond.selects y.cls y y ∈ jTW) (hlink : Cond.methodLink own index y ∈ jTW) (he : wc[q0]? = some (b, .inr (ci, fs))) (hc : vwCl[ci]? = some (y.cls, T, N)) (hws : ws = pre ++ wc ++ po) (hst : st = As.reverse ++ .ref b :: rest) (hn : As.length = n) (hR : rm.frames + 1 ≤ R.frames ∧ 8 + (maxL + 11) + rm.locals ≤ R.locals) (hf : cs + rm.cells ≤ R.cells ∧ ss + rm.slots ≤ R.slots) (hrest : (rest.map fun v => v.category).sum ≤ 8) (hdg : decode cc pc = .ok (.invokevirtual index, 3))
    (kk : ∀ (r : Option Value) (w' : va_W), post r w' → J (pc + 3) lv (r.toList ++ rest) (pre ++ w' ++ po) (cs + rm.cells) (ss + rm.slots)) : J pc lv st ws cs ss := by
  obtain ⟨p, e, s, m, args, below, meth, c, Q, A, ⟨hx, hb, hml, hown, hts, hA, hK, hST, hlocks⟩, rfl⟩ := C
  intro H locs ls hP hD hS hl
  subst hws; subst hst
  obtain ⟨m1, m2, m3, m4⟩ := hm
  have hG : GoodIn jTW (wsV own index y.cls y (Cond.code y bc maxL ret :: jTW)) := by
    intro w hw
    refine jgood w ?_
    simp only [wsV, List.cons_append, List.nil_append, List.mem_cons] at hw
    rcases hw with rfl | rfl | rfl | rfl | rfl | h
    · exact hlink
    · exact m1
    · exact hsel
    · exact m2
    · exact m3
    · exact h
  have hPc := (jP_app.mp (jP_app.mp hP).1).2
  exact j_back (va_runV (As := As) (rest := rest) ⟨hx, hb, hml, hown, hts⟩ (hcon H.size) (cwV n hts hG rfl rfl rfl ⟨rfl, m4⟩ hR) ⟨jPre_blind, va_recv hK hPc hc he, j_pre hA hK hST hP hD hS⟩ rfl hn hl.1 rfl (lv_room hrest) hdg hf) hA hP hD hS hl kk
theorem J_callS (C : jC E l own cc nL R J) {y : MethodName} {bc : ByteArray} {maxL n : Nat} {ret : Option FieldType} {rm : Room} {index : Nat} {As rest : List Value} {post : Option Value → va_W → Prop} (pre wc po : va_W) (hcon : Con E l y bc maxL ret rm As wc post) (hm : jM y bc n maxL ret (.static y)) (hlink : Cond.methodLink own index y ∈ jTW) (hws : ws = pre ++ wc ++ po) (hst : st = As.reverse ++ rest) (hn : As.length = n) (hR : rm.frames + 1 ≤ R.frames ∧ 8 + (maxL + 11) + rm.locals ≤ R.locals) (hf : cs + rm.cells ≤ R.cells ∧ ss + rm.slots ≤ R.slots) (hrest : (rest.map fun v => v.category).sum ≤ 8) (hdg : decode cc pc = .ok (.invokestatic index, 3))
    (kk : ∀ (r : Option Value) (w' : va_W), post r w' → J (pc + 3) lv (r.toList ++ rest) (pre ++ w' ++ po) (cs + rm.cells) (ss + rm.slots)) : J pc lv st ws cs ss := by
  obtain ⟨p, e, s, m, args, below, meth, c, Q, A, ⟨hx, hb, hml, hown, hts, hA, hK, hST, hlocks⟩, rfl⟩ := C
  intro H locs ls hP hD hS hl
  subst hws; subst hst
  obtain ⟨m1, m2, m3, m4⟩ := hm
  have hG : GoodIn jTW (va_wsS own index y (Cond.code y bc maxL ret :: jTW)) := by
    intro w hw
    refine jgood w ?_
    simp only [va_wsS, List.cons_append, List.nil_append, List.mem_cons] at hw
    rcases hw with rfl | rfl | rfl | rfl | h
    · exact hlink
    · exact m1
    · exact m2
    · exact m3
    · exact h
  exact j_back (va_runS (As := As) (rest := rest) ⟨hx, hb, hml, hown, hts⟩ (hcon H.size) (va_cwS n hts hG rfl rfl rfl m4 hR) ⟨jPre_blind, j_pre hA hK hST hP hD hS⟩ rfl hn hl.1 rfl (lv_room hrest) hdg hf) hA hP hD hS hl kk
theorem J_callI (C : jC E l own cc nL R J) {y : MethodName} {bc : ByteArray} {maxL n : Nat} {rm : Room} {b index : Nat} {As rest : List Value} {post : Option Value → va_W → Prop} (pre wc po : va_W) (hcon : Con E l y bc maxL none rm (.ref b :: As) wc post) (hm : jM y bc n maxL none (.instanceMethod y)) (hin : y.name = "<init>") (hlink : Cond.methodLink own index y ∈ jTW) (hws : ws = pre ++ wc ++ po) (hst : st = As.reverse ++ .ref b :: rest) (hn : As.length = n) (hR : rm.frames + 1 ≤ R.frames ∧ 8 + (maxL + 11) + rm.locals ≤ R.locals) (hf : cs + rm.cells ≤ R.cells ∧ ss + rm.slots ≤ R.slots) (hrest : (rest.map fun v => v.category).sum ≤ 8) (hdg : decode cc pc = .ok (.invokespecial index, 3))
    (kk : ∀ (r : Option Value) (w' : va_W), post r w' → J (pc + 3) lv (r.toList ++ rest) (pre ++ w' ++ po) (cs + rm.cells) (ss + rm.slots)) : J pc lv st ws cs ss := by
  obtain ⟨p, e, s, m, args, below, meth, c, Q, A, ⟨hx, hb, hml, hown, hts, hA, hK, hST, hlocks⟩, rfl⟩ := C
  intro H locs ls hP hD hS hl
  subst hws; subst hst
  obtain ⟨m1, m2, m3, m4⟩ := hm
  have hG : GoodIn jTW (Cond.code y bc maxL none :: jTW) := by
    intro w hw
    refine jgood w ?_
    rcases List.mem_cons.mp hw with rfl | h
    · exact m3
    · exact h
  exact j_back (va_runI (As := As) (rest := rest) ⟨hx, hb, hml, hown, hts⟩ (hcon H.size) (cwI n hts hG rfl rfl rfl (hts _ m2) (hts _ hlink) (hts _ m1) hin m4 hR) ⟨jPre_blind, j_pre hA hK hST hP hD hS⟩ rfl hn hl.1 rfl (lv_room hrest) hdg hf) hA hP hD hS hl kk
end JKW
section JKN
/-! numbers: every int that is told as nI of a natural number -/
theorem jn_and (a b : Nat) : nI a &&& nI b = nI (a &&& b) := by
  unfold nI; apply Int32.toBitVec_inj.mp; simp [Int32.toBitVec_ofNat']
theorem jn_or (a b : Nat) : nI a ||| nI b = nI (a ||| b) := by
  unfold nI; apply Int32.toBitVec_inj.mp; simp [Int32.toBitVec_ofNat']
theorem jn_xor (a b : Nat) : nI a ^^^ nI b = nI (a ^^^ b) := by
  unfold nI; apply Int32.toBitVec_inj.mp; simp [Int32.toBitVec_ofNat']
theorem jn_s31 : ∀ n, n < 32 → ((nI n &&& 31).toBitVec.smod 32).toNat = n := by decide +kernel
theorem jn_shl (a b : Nat) (hb : b < 32) : nI a <<< (nI b &&& 31) = nI (a * 2 ^ b) := by
  have h := pk_shl (nI a) (nI b &&& 31) b (jn_s31 b hb)
  apply Int32.toBitVec_inj.mp
  apply BitVec.eq_of_toNat_eq
  rw [h]
  unfold nI
  simp [Int32.toBitVec_ofNat', BitVec.toNat_ofNat, Nat.mod_mul_mod]
theorem jn_shr (a b : Nat) (ha : a < 2 ^ 31) (hb : b < 32) : nI a >>> (nI b &&& 31) = nI (a / 2 ^ b) := pk_shrN ha _ b (jn_s31 b hb)
end JKN
section JKX0
def mI (d : Nat) : Int32 := nI d - 1
theorem mI_0 : mI 0 = -1 := rfl
theorem mI_s (d : Nat) : mI (d + 1) = nI d := nI_pred d
theorem mI_toInt {d : Nat} (h : d < 2 ^ 31) : (mI d).toInt = (d : Int) - 1 := by
  cases d with
  | zero => rfl
  | succ d => rw [mI_s, nI_toInt (by omega)]; omega
theorem upd_mI (d : Nat → Nat) (k x : Nat) : upd (fun j => mI (d j)) k (mI x) = fun j => mI (upN d k x j) := by
  funext j
  unfold upd upN
  split <;> rfl
abbrev kM (E : jE) (a n : Nat) (d : Nat → Nat) : Nat × va_E := (a, .inl (E.2 0, n, .inl (fun j => mI (d j))))
abbrev kB (E : jE) (a n : Nat) (t : Nat → Nat) : Nat × va_E := (a, .inl (E.2 2, n, .inl (fun j => nI (t j))))
end JKX0
section JKX
variable {E : jE} {l : Launch} {own : String} {cc : ByteArray} {nL : Nat} {R : Room} {J : jJ} {pc : Nat} {lv : jL} {st : List Value} {ws : va_W} {cs ss : Nat}
theorem j_m1 : (-1 : Int32).toInt = -1 := rfl
theorem jn_inc (n : Nat) : nI n + Int32.ofInt 1 = nI (n + 1) := nI_1 n
theorem jn_dec {n : Nat} (h : 1 ≤ n) : nI n + Int32.ofInt (-1) = nI (n - 1) := by
  obtain ⟨k, rfl⟩ : ∃ k, n = k + 1 := ⟨n - 1, by omega⟩
  exact pk_m1 k
theorem jn_sub {a b : Nat} (h : b ≤ a) : nI a - nI b = nI (a - b) := pk_sub h
theorem J_topN (C : jC E l own cc nL R J) {n n' : Nat} (h : n = n') (kk : J pc lv (.int (nI n') :: st) ws cs ss) : J pc lv (.int (nI n) :: st) ws cs ss := by subst h; exact kk
theorem J_topX (C : jC E l own cc nL R J) {x x' : Int32} (h : x = x') (kk : J pc lv (.int x' :: st) ws cs ss) : J pc lv (.int x :: st) ws cs ss := by subst h; exact kk
theorem J_topL (C : jC E l own cc nL R J) {x x' : Int64} (h : x = x') (kk : J pc lv (.long x' :: st) ws cs ss) : J pc lv (.long x :: st) ws cs ss := by subst h; exact kk
theorem J_topV (C : jC E l own cc nL R J) {x x' : Value} (h : x = x') (kk : J pc lv (x' :: st) ws cs ss) : J pc lv (x :: st) ws cs ss := by subst h; exact kk
theorem J_ws (C : jC E l own cc nL R J) {ws' : va_W} (h : ws = ws') (kk : J pc lv st ws' cs ss) : J pc lv st ws cs ss := by subst h; exact kk
theorem J_st (C : jC E l own cc nL R J) {st' : List Value} (h : st = st') (kk : J pc lv st' ws cs ss) : J pc lv st ws cs ss := by subst h; exact kk
theorem J_iaddN (C : jC E l own cc nL R J) {a b : Nat} (hdg : decode cc pc = .ok (.iadd, 1)) (kk : J (pc + 1) lv (.int (nI (a + b)) :: st) ws cs ss) : J pc lv (.int (nI b) :: .int (nI a) :: st) ws cs ss := J_iadd C hdg (by rw [nI_add]; exact kk)
theorem J_imulN (C : jC E l own cc nL R J) {a b : Nat} (hdg : decode cc pc = .ok (.imul, 1)) (kk : J (pc + 1) lv (.int (nI (a * b)) :: st) ws cs ss) : J pc lv (.int (nI b) :: .int (nI a) :: st) ws cs ss := J_imul C hdg (by rw [pk_mul]; exact kk)
theorem J_iandN (C : jC E l own cc nL R J) {a b : Nat} (hdg : decode cc pc = .ok (.iand, 1)) (kk : J (pc + 1) lv (.int (nI (a &&& b)) :: st) ws cs ss) : J pc lv (.int (nI b) :: .int (nI a) :: st) ws cs ss := J_iand C hdg (by rw [jn_and]; exact kk)
theorem J_iorN (C : jC E l own cc nL R J) {a b : Nat} (hdg : decode cc pc = .ok (.ior, 1)) (kk : J (pc + 1) lv (.int (nI (a ||| b)) :: st) ws cs ss) : J pc lv (.int (nI b) :: .int (nI a) :: st) ws cs ss := J_ior C hdg (by rw [jn_or]; exact kk)
theorem J_ixorN (C : jC E l own cc nL R J) {a b : Nat} (hdg : decode cc pc = .ok (.ixor, 1)) (kk : J (pc + 1) lv (.int (nI (a ^^^ b)) :: st) ws cs ss) : J pc lv (.int (nI b) :: .int (nI a) :: st) ws cs ss := J_ixor C hdg (by rw [jn_xor]; exact kk)
theorem J_isubN (C : jC E l own cc nL R J) {a b : Nat} (hdg : decode cc pc = .ok (.isub, 1)) (h : b ≤ a) (kk : J (pc + 1) lv (.int (nI (a - b)) :: st) ws cs ss) : J pc lv (.int (nI b) :: .int (nI a) :: st) ws cs ss := J_isub C hdg (by rw [jn_sub h]; exact kk)
theorem J_ishlN (C : jC E l own cc nL R J) {a b : Nat} (hdg : decode cc pc = .ok (.ishl, 1)) (h : b < 32) (kk : J (pc + 1) lv (.int (nI (a * 2 ^ b)) :: st) ws cs ss) : J pc lv (.int (nI b) :: .int (nI a) :: st) ws cs ss := J_ishl C hdg (by rw [jn_shl a b h]; exact kk)
theorem J_ishl1 (C : jC E l own cc nL R J) {b : Nat} (hdg : decode cc pc = .ok (.ishl, 1)) (h : b < 32) (kk : J (pc + 1) lv (.int (nI (2 ^ b)) :: st) ws cs ss) : J pc lv (.int (nI b) :: .int (nI 1) :: st) ws cs ss := J_ishl C hdg (by rw [jn_shl 1 b h, Nat.one_mul]; exact kk)
theorem J_ishrN (C : jC E l own cc nL R J) {a b : Nat} (hdg : decode cc pc = .ok (.ishr, 1)) (ha : a < 2 ^ 31) (h : b < 32) (kk : J (pc + 1) lv (.int (nI (a / 2 ^ b)) :: st) ws cs ss) : J pc lv (.int (nI b) :: .int (nI a) :: st) ws cs ss := J_ishr C hdg (by rw [jn_shr a b ha h]; exact kk)
theorem J_idivN (C : jC E l own cc nL R J) {a b : Nat} (hdg : decode cc pc = .ok (.idiv, 1)) (ha : a < 2 ^ 31) (h0 : 0 < b) (hb : b < 2 ^ 31) (kk : J (pc + 1) lv (.int (nI (a / b)) :: st) ws cs ss) : J pc lv (.int (nI b) :: .int (nI a) :: st) ws cs ss := J_idiv C hdg (nI_ne0 h0 hb) (by rw [pk_div ha h0 hb]; exact kk)
theorem J_iremN (C : jC E l own cc nL R J) {a b : Nat} (hdg : decode cc pc = .ok (.irem, 1)) (ha : a < 2 ^ 31) (h0 : 0 < b) (hb : b < 2 ^ 31) (kk : J (pc + 1) lv (.int (nI (a % b)) :: st) ws cs ss) : J pc lv (.int (nI b) :: .int (nI a) :: st) ws cs ss := J_irem C hdg (nI_ne0 h0 hb) (by rw [pk_rem ha h0 hb]; exact kk)
theorem J_iastM (C : jC E l own cc nL R J) {i n a v : Nat} {d : Nat → Nat} {x : Int32} {ws' : va_W} (q0 : Nat) (ha : ws[q0]? = some (kM E a n d)) (hn : n < 2 ^ 31) (hi : i < n) (hv : x = mI v) (hdg : decode cc pc = .ok (.iastore, 1)) (hw : ws.set q0 (kM E a n (upN d i v)) = ws') (kk : J (pc + 1) lv st ws' cs ss) : J pc lv (.int x :: .int (nI i) :: .ref a :: st) ws cs ss := by
  subst hv
  refine J_iast C (ws' := ws') q0 ha hn hi hdg ?_ kk
  rw [upd_mI]; exact hw
theorem J_zastN (C : jC E l own cc nL R J) {i n a v : Nat} {t : Nat → Nat} {ws' : va_W} (q0 : Nat) (ha : ws[q0]? = some (kB E a n t)) (hn : n < 2 ^ 31) (hi : i < n) (hdg : decode cc pc = .ok (.bastore, 1)) (hnar : vp_nar .boolean (nI v) = nI v) (hw : ws.set q0 (kB E a n (upN t i v)) = ws') (kk : J (pc + 1) lv st ws' cs ss) : J pc lv (.int (nI v) :: .int (nI i) :: .ref a :: st) ws cs ss := by
  refine J_zast C (ws' := ws') q0 ha hn hi hdg hnar ?_ kk
  rw [upN_nI]; exact hw
theorem kM_congr {E : jE} {a n : Nat} {f g : Nat → Nat} (h : ∀ j, j < n → f j = g j) {D : va_G} {cl : List vw_C} {H : Heap} : va_at D cl (kM E a n f) H → va_at D cl (kM E a n g) H := kR_congr (fun j hj => by rw [h j hj])
theorem kB_congr {E : jE} {a n : Nat} {f g : Nat → Nat} (h : ∀ j, j < n → f j = g j) {D : va_G} {cl : List vw_C} {H : Heap} : va_at D cl (kB E a n f) H → va_at D cl (kB E a n g) H := kZ_congr (fun j hj => by rw [h j hj])
end JKX
end
section
set_option maxRecDepth 20000 in
theorem ckL_7 : Cond.classLink "ReversiblePartsLaw" 7 "ReversibleParts" ∈ jTW := j_at 40 rfl rfl
set_option maxRecDepth 20000 in
theorem lkL_9 : Cond.methodLink "ReversiblePartsLaw" 9 yR_init ∈ jTW := j_at 42 rfl rfl
set_option maxRecDepth 20000 in
theorem lkR_1 : Cond.methodLink "ReversibleParts" 1 Lib.objectInit ∈ jTW := j_at 45 rfl rfl
set_option maxRecDepth 20000 in
theorem ckR_7 : Cond.classLink "ReversibleParts" 7 "ReversibleParts$Table" ∈ jTW := j_at 48 rfl rfl
set_option maxRecDepth 20000 in
theorem lkR_9 : Cond.methodLink "ReversibleParts" 9 yT_init ∈ jTW := j_at 50 rfl rfl
set_option maxRecDepth 20000 in
theorem lkT_3 : Cond.methodLink "ReversibleParts$Table" 3 Lib.objectInit ∈ jTW := j_at 53 rfl rfl
set_option maxRecDepth 20000 in
theorem fkT_21 : Cond.fieldLink "ReversibleParts$Table" 21 "ReversibleParts$Table" "bits" "I" ∈ jTW := j_at 54 rfl rfl
set_option maxRecDepth 20000 in
theorem fkT_25 : Cond.fieldLink "ReversibleParts$Table" 25 "ReversibleParts$Table" "size" "I" ∈ jTW := j_at 55 rfl rfl
set_option maxRecDepth 20000 in
theorem fkT_9 : Cond.fieldLink "ReversibleParts$Table" 9 "ReversibleParts$Table" "to" "[I" ∈ jTW := j_at 56 rfl rfl
set_option maxRecDepth 20000 in
theorem fkT_15 : Cond.fieldLink "ReversibleParts$Table" 15 "ReversibleParts$Table" "rest" "[I" ∈ jTW := j_at 57 rfl rfl
set_option maxRecDepth 20000 in
theorem fkT_18 : Cond.fieldLink "ReversibleParts$Table" 18 "ReversibleParts$Table" "found" "[I" ∈ jTW := j_at 58 rfl rfl
set_option maxRecDepth 20000 in
theorem fkT_39 : Cond.fieldLink "ReversibleParts$Table" 39 "ReversibleParts$Table" "foundCount" "I" ∈ jTW := j_at 59 rfl rfl
set_option maxRecDepth 20000 in
theorem ckR_16 : Cond.classLink "ReversibleParts" 16 "ReversibleParts$Forms" ∈ jTW := j_at 74 rfl rfl
set_option maxRecDepth 20000 in
theorem lkR_18 : Cond.methodLink "ReversibleParts" 18 yF_init ∈ jTW := j_at 76 rfl rfl
set_option maxRecDepth 20000 in
theorem lkF_5 : Cond.methodLink "ReversibleParts$Forms" 5 Lib.objectInit ∈ jTW := j_at 79 rfl rfl
set_option maxRecDepth 20000 in
theorem fkF_11 : Cond.fieldLink "ReversibleParts$Forms" 11 "ReversibleParts$Forms" "row" "[J" ∈ jTW := j_at 81 rfl rfl
set_option maxRecDepth 20000 in
theorem fkF_17 : Cond.fieldLink "ReversibleParts$Forms" 17 "ReversibleParts$Forms" "filled" "I" ∈ jTW := j_at 82 rfl rfl
set_option maxRecDepth 20000 in
theorem ckR_23 : Cond.classLink "ReversibleParts" 23 "ReversibleParts$Steps" ∈ jTW := j_at 89 rfl rfl
set_option maxRecDepth 20000 in
theorem lkR_25 : Cond.methodLink "ReversibleParts" 25 yS_init ∈ jTW := j_at 91 rfl rfl
set_option maxRecDepth 20000 in
theorem lkS_3 : Cond.methodLink "ReversibleParts$Steps" 3 Lib.objectInit ∈ jTW := j_at 94 rfl rfl
set_option maxRecDepth 20000 in
theorem ckS_19 : Cond.classLink "ReversibleParts$Steps" 19 "ReversibleParts$Moves" ∈ jTW := j_at 95 rfl rfl
set_option maxRecDepth 20000 in
theorem lkS_25 : Cond.methodLink "ReversibleParts$Steps" 25 yV_init ∈ jTW := j_at 98 rfl rfl
set_option maxRecDepth 20000 in
theorem lkV_3 : Cond.methodLink "ReversibleParts$Moves" 3 Lib.objectInit ∈ jTW := j_at 101 rfl rfl
set_option maxRecDepth 20000 in
theorem fkV_9 : Cond.fieldLink "ReversibleParts$Moves" 9 "ReversibleParts$Moves" "row" "[I" ∈ jTW := j_at 102 rfl rfl
set_option maxRecDepth 20000 in
theorem fkS_9 : Cond.fieldLink "ReversibleParts$Steps" 9 "ReversibleParts$Steps" "count" "I" ∈ jTW := j_at 106 rfl rfl
set_option maxRecDepth 20000 in
theorem fkS_15 : Cond.fieldLink "ReversibleParts$Steps" 15 "ReversibleParts$Steps" "needs" "[I" ∈ jTW := j_at 107 rfl rfl
set_option maxRecDepth 20000 in
theorem fkS_21 : Cond.fieldLink "ReversibleParts$Steps" 21 "ReversibleParts$Steps" "known" "[LReversibleParts$Moves;" ∈ jTW := j_at 108 rfl rfl
set_option maxRecDepth 20000 in
theorem fkS_28 : Cond.fieldLink "ReversibleParts$Steps" 28 "ReversibleParts$Steps" "nothing" "LReversibleParts$Moves;" ∈ jTW := j_at 109 rfl rfl
set_option maxRecDepth 20000 in
theorem fkS_32 : Cond.fieldLink "ReversibleParts$Steps" 32 "ReversibleParts$Steps" "left" "[I" ∈ jTW := j_at 110 rfl rfl
set_option maxRecDepth 20000 in
theorem fkS_35 : Cond.fieldLink "ReversibleParts$Steps" 35 "ReversibleParts$Steps" "queue" "[I" ∈ jTW := j_at 111 rfl rfl
set_option maxRecDepth 20000 in
theorem fkS_86 : Cond.fieldLink "ReversibleParts$Steps" 86 "ReversibleParts$Steps" "queued" "I" ∈ jTW := j_at 112 rfl rfl
set_option maxRecDepth 20000 in
theorem fkR_10 : Cond.fieldLink "ReversibleParts" 10 "ReversibleParts" "table" "LReversibleParts$Table;" ∈ jTW := j_at 128 rfl rfl
set_option maxRecDepth 20000 in
theorem fkR_19 : Cond.fieldLink "ReversibleParts" 19 "ReversibleParts" "forms" "LReversibleParts$Forms;" ∈ jTW := j_at 129 rfl rfl
set_option maxRecDepth 20000 in
theorem fkR_26 : Cond.fieldLink "ReversibleParts" 26 "ReversibleParts" "steps" "LReversibleParts$Steps;" ∈ jTW := j_at 130 rfl rfl
set_option maxRecDepth 20000 in
theorem lkL_13 : Cond.methodLink "ReversiblePartsLaw" 13 yR_begin ∈ jTW := j_at 138 rfl rfl
set_option maxRecDepth 20000 in
theorem lkR_30 : Cond.methodLink "ReversibleParts" 30 yT_startWith ∈ jTW := j_at 142 rfl rfl
set_option maxRecDepth 20000 in
theorem lkL_18 : Cond.methodLink "ReversiblePartsLaw" 18 yR_put ∈ jTW := j_at 146 rfl rfl
set_option maxRecDepth 20000 in
theorem lkR_34 : Cond.methodLink "ReversibleParts" 34 yT_set ∈ jTW := j_at 150 rfl rfl
set_option maxRecDepth 20000 in
theorem lkT_28 : Cond.methodLink "ReversibleParts$Table" 28 yT_hasValue ∈ jTW := j_at 154 rfl rfl
set_option maxRecDepth 20000 in
theorem lkL_23 : Cond.methodLink "ReversiblePartsLaw" 23 yR_apply ∈ jTW := j_at 158 rfl rfl
set_option maxRecDepth 20000 in
theorem lkR_38 : Cond.methodLink "ReversibleParts" 38 yT_change ∈ jTW := j_at 162 rfl rfl
set_option maxRecDepth 20000 in
theorem lkT_32 : Cond.methodLink "ReversibleParts$Table" 32 yT_hasGate ∈ jTW := j_at 166 rfl rfl
set_option maxRecDepth 20000 in
theorem lkT_35 : Cond.methodLink "ReversibleParts$Table" 35 yT_changeAll ∈ jTW := j_at 170 rfl rfl
set_option maxRecDepth 20000 in
theorem lkL_27 : Cond.methodLink "ReversiblePartsLaw" 27 yR_gate ∈ jTW := j_at 174 rfl rfl
set_option maxRecDepth 20000 in
theorem lkR_41 : Cond.methodLink "ReversibleParts" 41 yT_isPermutation ∈ jTW := j_at 178 rfl rfl
set_option maxRecDepth 20000 in
theorem lkR_45 : Cond.methodLink "ReversibleParts" 45 yT_findGates ∈ jTW := j_at 182 rfl rfl
set_option maxRecDepth 20000 in
theorem lkT_42 : Cond.methodLink "ReversibleParts$Table" 42 yT_settleRow ∈ jTW := j_at 186 rfl rfl
set_option maxRecDepth 20000 in
theorem lkT_46 : Cond.methodLink "ReversibleParts$Table" 46 yT_useGate ∈ jTW := j_at 190 rfl rfl
set_option maxRecDepth 20000 in
theorem lkR_49 : Cond.methodLink "ReversibleParts" 49 yT_foundFromLast ∈ jTW := j_at 194 rfl rfl
set_option maxRecDepth 20000 in
theorem lkL_32 : Cond.methodLink "ReversiblePartsLaw" 32 yR_look ∈ jTW := j_at 198 rfl rfl
set_option maxRecDepth 20000 in
theorem lkR_53 : Cond.methodLink "ReversibleParts" 53 yT_get ∈ jTW := j_at 202 rfl rfl
set_option maxRecDepth 20000 in
theorem lkL_36 : Cond.methodLink "ReversiblePartsLaw" 36 yR_form ∈ jTW := j_at 206 rfl rfl
set_option maxRecDepth 20000 in
theorem lkR_56 : Cond.methodLink "ReversibleParts" 56 yT_bitCount ∈ jTW := j_at 210 rfl rfl
set_option maxRecDepth 20000 in
theorem lkR_59 : Cond.methodLink "ReversibleParts" 59 yF_least ∈ jTW := j_at 214 rfl rfl
set_option maxRecDepth 20000 in
theorem lkF_25 : Cond.methodLink "ReversibleParts$Forms" 25 yF_fillLevel ∈ jTW := j_at 218 rfl rfl
set_option maxRecDepth 20000 in
theorem fkF_33 : Cond.fieldLink "ReversibleParts$Forms" 33 "ReversibleParts$Forms" "START" "[I" ∈ jTW := j_at 222 rfl rfl
set_option maxRecDepth 20000 in
theorem lkF_29 : Cond.methodLink "ReversibleParts$Forms" 29 yF_leastFrom ∈ jTW := j_at 224 rfl rfl
set_option maxRecDepth 20000 in
theorem lkF_37 : Cond.methodLink "ReversibleParts$Forms" 37 yP_count ∈ jTW := j_at 228 rfl rfl
set_option maxRecDepth 20000 in
theorem lkF_21 : Cond.methodLink "ReversibleParts$Forms" 21 yF_sizeOf ∈ jTW := j_at 232 rfl rfl
set_option maxRecDepth 20000 in
theorem lkF_45 : Cond.methodLink "ReversibleParts$Forms" 45 yF_join ∈ jTW := j_at 235 rfl rfl
set_option maxRecDepth 20000 in
theorem lkF_49 : Cond.methodLink "ReversibleParts$Forms" 49 Lib.MathLoose.min_long.x ∈ jTW := j_at 240 rfl rfl
set_option maxRecDepth 20000 in
theorem lkR_63 : Cond.methodLink "ReversibleParts" 63 yF_sizeOf ∈ jTW := j_at 243 rfl rfl
set_option maxRecDepth 20000 in
theorem lkR_67 : Cond.methodLink "ReversibleParts" 67 yF_numberAt ∈ jTW := j_at 244 rfl rfl
set_option maxRecDepth 20000 in
theorem lkL_41 : Cond.methodLink "ReversiblePartsLaw" 41 yR_product ∈ jTW := j_at 247 rfl rfl
set_option maxRecDepth 20000 in
theorem lkR_71 : Cond.methodLink "ReversibleParts" 71 yP_count ∈ jTW := j_at 251 rfl rfl
set_option maxRecDepth 20000 in
theorem lkR_76 : Cond.methodLink "ReversibleParts" 76 yP_function ∈ jTW := j_at 252 rfl rfl
set_option maxRecDepth 20000 in
theorem lkP_7 : Cond.methodLink "ReversibleParts$Products" 7 yP_holds ∈ jTW := j_at 255 rfl rfl
set_option maxRecDepth 20000 in
theorem lkL_45 : Cond.methodLink "ReversiblePartsLaw" 45 yR_program ∈ jTW := j_at 258 rfl rfl
set_option maxRecDepth 20000 in
theorem lkR_80 : Cond.methodLink "ReversibleParts" 80 yS_startWith ∈ jTW := j_at 262 rfl rfl
set_option maxRecDepth 20000 in
theorem lkS_38 : Cond.methodLink "ReversibleParts$Steps" 38 yS_forget ∈ jTW := j_at 266 rfl rfl
set_option maxRecDepth 20000 in
theorem lkL_49 : Cond.methodLink "ReversiblePartsLaw" 49 yR_need ∈ jTW := j_at 270 rfl rfl
set_option maxRecDepth 20000 in
theorem lkR_81 : Cond.methodLink "ReversibleParts" 81 yS_setNeeds ∈ jTW := j_at 274 rfl rfl
set_option maxRecDepth 20000 in
theorem lkL_53 : Cond.methodLink "ReversiblePartsLaw" 53 yR_move ∈ jTW := j_at 278 rfl rfl
set_option maxRecDepth 20000 in
theorem lkR_84 : Cond.methodLink "ReversibleParts" 84 yS_movesWithin ∈ jTW := j_at 282 rfl rfl
set_option maxRecDepth 20000 in
theorem lkS_52 : Cond.methodLink "ReversibleParts$Steps" 52 Lib.Math.min.name ∈ jTW := j_at 286 rfl rfl
set_option maxRecDepth 20000 in
theorem lkS_58 : Cond.methodLink "ReversibleParts$Steps" 58 Lib.Math.max.name ∈ jTW := j_at 289 rfl rfl
set_option maxRecDepth 20000 in
theorem lkS_61 : Cond.methodLink "ReversibleParts$Steps" 61 yS_search ∈ jTW := j_at 292 rfl rfl
set_option maxRecDepth 20000 in
theorem lkS_73 : Cond.methodLink "ReversibleParts$Steps" 73 yS_makeRoom ∈ jTW := j_at 296 rfl rfl
set_option maxRecDepth 20000 in
theorem lkS_64 : Cond.methodLink "ReversibleParts$Steps" 64 yS_wantedSteps ∈ jTW := j_at 300 rfl rfl
set_option maxRecDepth 20000 in
theorem lkS_76 : Cond.methodLink "ReversibleParts$Steps" 76 yS_spreadFromGoal ∈ jTW := j_at 304 rfl rfl
set_option maxRecDepth 20000 in
theorem lkS_89 : Cond.methodLink "ReversibleParts$Steps" 89 yS_enter ∈ jTW := j_at 308 rfl rfl
set_option maxRecDepth 20000 in
theorem lkS_92 : Cond.methodLink "ReversibleParts$Steps" 92 yS_spreadFrom ∈ jTW := j_at 312 rfl rfl
set_option maxRecDepth 20000 in
theorem lkS_67 : Cond.methodLink "ReversibleParts$Steps" 67 yJ_bitCount ∈ jTW := j_at 316 rfl rfl
set_option maxRecDepth 20000 in
theorem lkS_49 : Cond.methodLink "ReversibleParts$Steps" 49 yV_length ∈ jTW := j_at 322 rfl rfl
set_option maxRecDepth 20000 in
theorem lkS_80 : Cond.methodLink "ReversibleParts$Steps" 80 yS_firstStepNearer ∈ jTW := j_at 326 rfl rfl
set_option maxRecDepth 20000 in
theorem lkS_83 : Cond.methodLink "ReversibleParts$Steps" 83 yV_set ∈ jTW := j_at 330 rfl rfl
set_option maxRecDepth 20000 in
theorem lkR_88 : Cond.methodLink "ReversibleParts" 88 yV_length ∈ jTW := j_at 334 rfl rfl
set_option maxRecDepth 20000 in
theorem lkR_93 : Cond.methodLink "ReversibleParts" 93 yV_at ∈ jTW := j_at 335 rfl rfl
set_option maxRecDepth 20000 in
theorem lkL_57 : Cond.methodLink "ReversiblePartsLaw" 57 yR_marks ∈ jTW := j_at 339 rfl rfl
set_option maxRecDepth 20000 in
theorem lkR_96 : Cond.methodLink "ReversibleParts" 96 yS_fewestMarks ∈ jTW := j_at 343 rfl rfl
set_option maxRecDepth 20000 in
theorem lkS_41 : Cond.methodLink "ReversibleParts$Steps" 41 yS_fewestThinkable ∈ jTW := j_at 347 rfl rfl
set_option maxRecDepth 20000 in
theorem lkS_45 : Cond.methodLink "ReversibleParts$Steps" 45 yS_movesWithin ∈ jTW := j_at 351 rfl rfl
set_option maxRecDepth 20000 in
theorem lkL_62 : Cond.methodLink "ReversiblePartsLaw" 62 yR_total ∈ jTW := j_at 352 rfl rfl
set_option maxRecDepth 20000 in
theorem lkR_99 : Cond.methodLink "ReversibleParts" 99 yS_count ∈ jTW := j_at 356 rfl rfl
set_option maxRecDepth 20000 in
theorem ckL_10 : Cond.classLink "ReversiblePartsLaw" 10 "ReversiblePartsModel" ∈ jTW := j_at 360 rfl rfl
set_option maxRecDepth 20000 in
theorem lkL_12 : Cond.methodLink "ReversiblePartsLaw" 12 yM_init ∈ jTW := j_at 362 rfl rfl
set_option maxRecDepth 20000 in
theorem lkM_1 : Cond.methodLink "ReversiblePartsModel" 1 Lib.objectInit ∈ jTW := j_at 365 rfl rfl
set_option maxRecDepth 20000 in
theorem lkM_45 : Cond.methodLink "ReversiblePartsModel" 45 yM_start ∈ jTW := j_at 367 rfl rfl
set_option maxRecDepth 20000 in
theorem fkM_53 : Cond.fieldLink "ReversiblePartsModel" 53 "ReversiblePartsModel" "thrown" "I" ∈ jTW := j_at 371 rfl rfl
set_option maxRecDepth 20000 in
theorem fkM_56 : Cond.fieldLink "ReversiblePartsModel" 56 "ReversiblePartsModel" "bits" "I" ∈ jTW := j_at 372 rfl rfl
set_option maxRecDepth 20000 in
theorem fkM_7 : Cond.fieldLink "ReversiblePartsModel" 7 "ReversiblePartsModel" "table" "[I" ∈ jTW := j_at 373 rfl rfl
set_option maxRecDepth 20000 in
theorem fkM_49 : Cond.fieldLink "ReversiblePartsModel" 49 "ReversiblePartsModel" "steps" "I" ∈ jTW := j_at 374 rfl rfl
set_option maxRecDepth 20000 in
theorem fkM_13 : Cond.fieldLink "ReversiblePartsModel" 13 "ReversiblePartsModel" "needs" "[I" ∈ jTW := j_at 375 rfl rfl
set_option maxRecDepth 20000 in
theorem fkM_16 : Cond.fieldLink "ReversiblePartsModel" 16 "ReversiblePartsModel" "work" "[I" ∈ jTW := j_at 376 rfl rfl
set_option maxRecDepth 20000 in
theorem fkM_19 : Cond.fieldLink "ReversiblePartsModel" 19 "ReversiblePartsModel" "made" "[I" ∈ jTW := j_at 377 rfl rfl
set_option maxRecDepth 20000 in
theorem fkM_71 : Cond.fieldLink "ReversiblePartsModel" 71 "ReversiblePartsModel" "many" "I" ∈ jTW := j_at 378 rfl rfl
set_option maxRecDepth 20000 in
theorem fkM_22 : Cond.fieldLink "ReversiblePartsModel" 22 "ReversiblePartsModel" "isKnown" "[Z" ∈ jTW := j_at 379 rfl rfl
set_option maxRecDepth 20000 in
theorem fkM_27 : Cond.fieldLink "ReversiblePartsModel" 27 "ReversiblePartsModel" "cost" "[I" ∈ jTW := j_at 380 rfl rfl
set_option maxRecDepth 20000 in
theorem fkM_30 : Cond.fieldLink "ReversiblePartsModel" 30 "ReversiblePartsModel" "functionOf" "[I" ∈ jTW := j_at 381 rfl rfl
set_option maxRecDepth 20000 in
theorem fkM_33 : Cond.fieldLink "ReversiblePartsModel" 33 "ReversiblePartsModel" "isCome" "[Z" ∈ jTW := j_at 382 rfl rfl
set_option maxRecDepth 20000 in
theorem fkM_36 : Cond.fieldLink "ReversiblePartsModel" 36 "ReversiblePartsModel" "queue" "[I" ∈ jTW := j_at 383 rfl rfl
set_option maxRecDepth 20000 in
theorem fkM_39 : Cond.fieldLink "ReversiblePartsModel" 39 "ReversiblePartsModel" "source" "[I" ∈ jTW := j_at 384 rfl rfl
set_option maxRecDepth 20000 in
theorem fkM_42 : Cond.fieldLink "ReversiblePartsModel" 42 "ReversiblePartsModel" "by" "[I" ∈ jTW := j_at 385 rfl rfl
set_option maxRecDepth 20000 in
theorem lkL_17 : Cond.methodLink "ReversiblePartsLaw" 17 yM_begin ∈ jTW := j_at 418 rfl rfl
set_option maxRecDepth 20000 in
theorem lkL_22 : Cond.methodLink "ReversiblePartsLaw" 22 yM_put ∈ jTW := j_at 422 rfl rfl
set_option maxRecDepth 20000 in
theorem lkM_63 : Cond.methodLink "ReversiblePartsModel" 63 yM_isValue ∈ jTW := j_at 426 rfl rfl
set_option maxRecDepth 20000 in
theorem lkM_59 : Cond.methodLink "ReversiblePartsModel" 59 yM_values ∈ jTW := j_at 430 rfl rfl
set_option maxRecDepth 20000 in
theorem lkL_26 : Cond.methodLink "ReversiblePartsLaw" 26 yM_apply ∈ jTW := j_at 434 rfl rfl
set_option maxRecDepth 20000 in
theorem lkM_67 : Cond.methodLink "ReversiblePartsModel" 67 yM_changed ∈ jTW := j_at 438 rfl rfl
set_option maxRecDepth 20000 in
theorem lkL_31 : Cond.methodLink "ReversiblePartsLaw" 31 yM_gate ∈ jTW := j_at 441 rfl rfl
set_option maxRecDepth 20000 in
theorem lkM_78 : Cond.methodLink "ReversiblePartsModel" 78 yM_isPermutation ∈ jTW := j_at 445 rfl rfl
set_option maxRecDepth 20000 in
theorem lkM_82 : Cond.methodLink "ReversiblePartsModel" 82 yM_findGates ∈ jTW := j_at 449 rfl rfl
set_option maxRecDepth 20000 in
theorem lkM_74 : Cond.methodLink "ReversiblePartsModel" 74 yM_doGate ∈ jTW := j_at 453 rfl rfl
set_option maxRecDepth 20000 in
theorem lkL_35 : Cond.methodLink "ReversiblePartsLaw" 35 yM_look ∈ jTW := j_at 457 rfl rfl
set_option maxRecDepth 20000 in
theorem lkL_40 : Cond.methodLink "ReversiblePartsLaw" 40 yM_form ∈ jTW := j_at 461 rfl rfl
set_option maxRecDepth 20000 in
theorem lkM_95 : Cond.methodLink "ReversiblePartsModel" 95 yM_functions ∈ jTW := j_at 465 rfl rfl
set_option maxRecDepth 20000 in
theorem lkM_101 : Cond.methodLink "ReversiblePartsModel" 101 yM_findCosts ∈ jTW := j_at 469 rfl rfl
set_option maxRecDepth 20000 in
theorem lkM_85 : Cond.methodLink "ReversiblePartsModel" 85 yM_products ∈ jTW := j_at 473 rfl rfl
set_option maxRecDepth 20000 in
theorem lkM_88 : Cond.methodLink "ReversiblePartsModel" 88 yM_productAt ∈ jTW := j_at 477 rfl rfl
set_option maxRecDepth 20000 in
theorem lkM_92 : Cond.methodLink "ReversiblePartsModel" 92 yM_functionFor ∈ jTW := j_at 481 rfl rfl
set_option maxRecDepth 20000 in
theorem lkM_98 : Cond.methodLink "ReversiblePartsModel" 98 yM_costAt ∈ jTW := j_at 485 rfl rfl
set_option maxRecDepth 20000 in
theorem lkL_44 : Cond.methodLink "ReversiblePartsLaw" 44 yM_product ∈ jTW := j_at 489 rfl rfl
set_option maxRecDepth 20000 in
theorem lkL_48 : Cond.methodLink "ReversiblePartsLaw" 48 yM_program ∈ jTW := j_at 493 rfl rfl
set_option maxRecDepth 20000 in
theorem lkL_52 : Cond.methodLink "ReversiblePartsLaw" 52 yM_need ∈ jTW := j_at 497 rfl rfl
set_option maxRecDepth 20000 in
theorem lkL_56 : Cond.methodLink "ReversiblePartsLaw" 56 yM_move ∈ jTW := j_at 501 rfl rfl
set_option maxRecDepth 20000 in
theorem lkM_107 : Cond.methodLink "ReversiblePartsModel" 107 yM_findEnd ∈ jTW := j_at 505 rfl rfl
set_option maxRecDepth 20000 in
theorem lkM_104 : Cond.methodLink "ReversiblePartsModel" 104 yM_count ∈ jTW := j_at 509 rfl rfl
set_option maxRecDepth 20000 in
theorem lkM_110 : Cond.methodLink "ReversiblePartsModel" 110 yM_lengthTo ∈ jTW := j_at 512 rfl rfl
set_option maxRecDepth 20000 in
theorem lkL_61 : Cond.methodLink "ReversiblePartsLaw" 61 yM_marks ∈ jTW := j_at 516 rfl rfl
set_option maxRecDepth 20000 in
theorem lkL_65 : Cond.methodLink "ReversiblePartsLaw" 65 yM_total ∈ jTW := j_at 520 rfl rfl
set_option maxRecDepth 20000 in
theorem kkF_15 : Cond.constantLong "ReversibleParts$Forms" 15 (lN (281474976710656)) ∈ jTW := j_at 80 rfl rfl
set_option maxRecDepth 20000 in
theorem kkF_43 : Cond.constantLong "ReversibleParts$Forms" 43 (lN (1970324836974591)) ∈ jTW := j_at 231 rfl rfl
set_option maxRecDepth 20000 in
theorem kkF_55 : Cond.constantLong "ReversibleParts$Forms" 55 (lN (16513)) ∈ jTW := j_at 238 rfl rfl
set_option maxRecDepth 20000 in
theorem kkF_57 : Cond.constantLong "ReversibleParts$Forms" 57 (lN (281474976710655)) ∈ jTW := j_at 239 rfl rfl
set_option maxRecDepth 20000 in
theorem kkJ_265 : Cond.constant "java/lang/Integer" 265 (nI (1431655765)) ∈ jTW := j_at 319 rfl rfl
set_option maxRecDepth 20000 in
theorem kkJ_266 : Cond.constant "java/lang/Integer" 266 (nI (858993459)) ∈ jTW := j_at 320 rfl rfl
set_option maxRecDepth 20000 in
theorem kkJ_267 : Cond.constant "java/lang/Integer" 267 (nI (252645135)) ∈ jTW := j_at 321 rfl rfl
set_option maxRecDepth 20000 in
theorem kkM_26 : Cond.constant "ReversiblePartsModel" 26 (nI (65812)) ∈ jTW := j_at 366 rfl rfl
set_option maxRecDepth 20000 in
theorem inR : Cond.instantiable "ReversibleParts" 3 ∈ jTW := j_at 41 rfl rfl
set_option maxRecDepth 20000 in
theorem inT : Cond.instantiable "ReversibleParts$Table" 6 ∈ jTW := j_at 49 rfl rfl
set_option maxRecDepth 20000 in
theorem inF : Cond.instantiable "ReversibleParts$Forms" 2 ∈ jTW := j_at 75 rfl rfl
set_option maxRecDepth 20000 in
theorem inS : Cond.instantiable "ReversibleParts$Steps" 7 ∈ jTW := j_at 90 rfl rfl
set_option maxRecDepth 20000 in
theorem inV : Cond.instantiable "ReversibleParts$Moves" 1 ∈ jTW := j_at 97 rfl rfl
set_option maxRecDepth 20000 in
theorem inM : Cond.instantiable "ReversiblePartsModel" 15 ∈ jTW := j_at 361 rfl rfl
set_option maxRecDepth 20000 in
theorem itL : Cond.initialized "ReversiblePartsLaw" ∈ jTW := j_at 30 rfl rfl
set_option maxRecDepth 20000 in
theorem itR : Cond.initialized "ReversibleParts" ∈ jTW := j_at 31 rfl rfl
set_option maxRecDepth 20000 in
theorem itT : Cond.initialized "ReversibleParts$Table" ∈ jTW := j_at 32 rfl rfl
set_option maxRecDepth 20000 in
theorem itF : Cond.initialized "ReversibleParts$Forms" ∈ jTW := j_at 33 rfl rfl
set_option maxRecDepth 20000 in
theorem itS : Cond.initialized "ReversibleParts$Steps" ∈ jTW := j_at 34 rfl rfl
set_option maxRecDepth 20000 in
theorem itV : Cond.initialized "ReversibleParts$Moves" ∈ jTW := j_at 35 rfl rfl
set_option maxRecDepth 20000 in
theorem itM : Cond.initialized "ReversiblePartsModel" ∈ jTW := j_at 36 rfl rfl
set_option maxRecDepth 20000 in
theorem itP : Cond.initialized "ReversibleParts$Products" ∈ jTW := j_at 37 rfl rfl
set_option maxRecDepth 20000 in
theorem k_MathI : Cond.initialized "java/lang/Math" ∈ jTW := j_at 38 rfl rfl
set_option maxRecDepth 20000 in
theorem itJ : Cond.initialized "java/lang/Integer" ∈ jTW := j_at 39 rfl rfl
set_option maxRecDepth 20000 in
theorem ar_int : Cond.arrayClass .int ∈ jTW := j_at 73 rfl rfl
set_option maxRecDepth 20000 in
theorem ar_long : Cond.arrayClass .long ∈ jTW := j_at 88 rfl rfl
set_option maxRecDepth 20000 in
theorem ar_boolean : Cond.arrayClass .boolean ∈ jTW := j_at 417 rfl rfl
set_option maxRecDepth 20000 in
theorem hinF : ∀ w ∈ u_ws RF TF 2, w ∈ jTW := by decide +kernel
set_option maxRecDepth 20000 in
theorem hinV : ∀ w ∈ u_ws RV TV 1, w ∈ jTW := by decide +kernel
set_option maxRecDepth 20000 in
theorem hinS : ∀ w ∈ u_ws RS TS 7, w ∈ jTW := by decide +kernel
set_option maxRecDepth 20000 in
theorem hinT : ∀ w ∈ u_ws RT TT 6, w ∈ jTW := by decide +kernel
set_option maxRecDepth 20000 in
theorem hinR : ∀ w ∈ u_ws RR TR 3, w ∈ jTW := by decide +kernel
set_option maxRecDepth 20000 in
theorem hinM : ∀ w ∈ u_ws RM TM 15, w ∈ jTW := by decide +kernel
set_option maxRecDepth 20000 in
theorem mmR_init : jM yR_init bR_init 0 1 none (.instanceMethod yR_init) := ⟨j_at 43 rfl rfl, itR, j_at 44 rfl rfl, by decide, by decide, by decide +kernel⟩
set_option maxRecDepth 20000 in
theorem k_objI : Cond.instanceMethod Lib.objectInit ∈ jTW := j_at 46 rfl rfl
set_option maxRecDepth 20000 in
theorem k_objC : Cond.code Lib.objectInit ⟨#[0xb1]⟩ 1 none ∈ jTW := j_at 47 rfl rfl
set_option maxRecDepth 20000 in
theorem mmT_init : jM yT_init bT_init 0 2 none (.instanceMethod yT_init) := ⟨j_at 51 rfl rfl, itT, j_at 52 rfl rfl, by decide, by decide, by decide +kernel⟩
set_option maxRecDepth 20000 in
theorem mmF_init : jM yF_init bF_init 0 1 none (.instanceMethod yF_init) := ⟨j_at 77 rfl rfl, itF, j_at 78 rfl rfl, by decide, by decide, by decide +kernel⟩
set_option maxRecDepth 20000 in
theorem mmS_init : jM yS_init bS_init 0 1 none (.instanceMethod yS_init) := ⟨j_at 92 rfl rfl, itS, j_at 93 rfl rfl, by decide, by decide, by decide +kernel⟩
set_option maxRecDepth 20000 in
theorem mmV_init : jM yV_init bV_init 1 2 none (.instanceMethod yV_init) := ⟨j_at 99 rfl rfl, itV, j_at 100 rfl rfl, by decide, by decide, by decide +kernel⟩
set_option maxRecDepth 20000 in
theorem mmR_begin : jM yR_begin bR_begin 1 2 (some .boolean) (.instanceMethod yR_begin) := ⟨j_at 139 rfl rfl, itR, j_at 141 rfl rfl, by decide, by decide, by decide +kernel⟩
set_option maxRecDepth 20000 in
theorem msR_begin : Cond.selects yR_begin.cls yR_begin yR_begin ∈ jTW := j_at 140 rfl rfl
set_option maxRecDepth 20000 in
theorem mmT_startWith : jM yT_startWith bT_startWith 1 3 (some .boolean) (.instanceMethod yT_startWith) := ⟨j_at 143 rfl rfl, itT, j_at 145 rfl rfl, by decide, by decide, by decide +kernel⟩
set_option maxRecDepth 20000 in
theorem msT_startWith : Cond.selects yT_startWith.cls yT_startWith yT_startWith ∈ jTW := j_at 144 rfl rfl
set_option maxRecDepth 20000 in
theorem mmR_put : jM yR_put bR_put 2 3 (some .boolean) (.instanceMethod yR_put) := ⟨j_at 147 rfl rfl, itR, j_at 149 rfl rfl, by decide, by decide, by decide +kernel⟩
set_option maxRecDepth 20000 in
theorem msR_put : Cond.selects yR_put.cls yR_put yR_put ∈ jTW := j_at 148 rfl rfl
set_option maxRecDepth 20000 in
theorem mmT_set : jM yT_set bT_set 2 3 (some .boolean) (.instanceMethod yT_set) := ⟨j_at 151 rfl rfl, itT, j_at 153 rfl rfl, by decide, by decide, by decide +kernel⟩
set_option maxRecDepth 20000 in
theorem msT_set : Cond.selects yT_set.cls yT_set yT_set ∈ jTW := j_at 152 rfl rfl
set_option maxRecDepth 20000 in
theorem mmT_hasValue : jM yT_hasValue bT_hasValue 1 2 (some .boolean) (.instanceMethod yT_hasValue) := ⟨j_at 156 rfl rfl, itT, j_at 157 rfl rfl, by decide, by decide, by decide +kernel⟩
set_option maxRecDepth 20000 in
theorem msT_hasValue : Cond.selects yT_hasValue.cls yT_hasValue yT_hasValue ∈ jTW := j_at 0 rfl rfl
set_option maxRecDepth 20000 in
theorem mmR_apply : jM yR_apply bR_apply 1 2 (some .boolean) (.instanceMethod yR_apply) := ⟨j_at 159 rfl rfl, itR, j_at 161 rfl rfl, by decide, by decide, by decide +kernel⟩
set_option maxRecDepth 20000 in
theorem msR_apply : Cond.selects yR_apply.cls yR_apply yR_apply ∈ jTW := j_at 160 rfl rfl
set_option maxRecDepth 20000 in
theorem mmT_change : jM yT_change bT_change 1 2 (some .boolean) (.instanceMethod yT_change) := ⟨j_at 163 rfl rfl, itT, j_at 165 rfl rfl, by decide, by decide, by decide +kernel⟩
set_option maxRecDepth 20000 in
theorem msT_change : Cond.selects yT_change.cls yT_change yT_change ∈ jTW := j_at 164 rfl rfl
set_option maxRecDepth 20000 in
theorem mmT_hasGate : jM yT_hasGate bT_hasGate 1 4 (some .boolean) (.instanceMethod yT_hasGate) := ⟨j_at 168 rfl rfl, itT, j_at 169 rfl rfl, by decide, by decide, by decide +kernel⟩
set_option maxRecDepth 20000 in
theorem msT_hasGate : Cond.selects yT_hasGate.cls yT_hasGate yT_hasGate ∈ jTW := j_at 1 rfl rfl
set_option maxRecDepth 20000 in
theorem mmT_changeAll : jM yT_changeAll bT_changeAll 2 6 none (.instanceMethod yT_changeAll) := ⟨j_at 172 rfl rfl, itT, j_at 173 rfl rfl, by decide, by decide, by decide +kernel⟩
set_option maxRecDepth 20000 in
theorem msT_changeAll : Cond.selects yT_changeAll.cls yT_changeAll yT_changeAll ∈ jTW := j_at 2 rfl rfl
set_option maxRecDepth 20000 in
theorem mmR_gate : jM yR_gate bR_gate 1 3 (some .int) (.instanceMethod yR_gate) := ⟨j_at 175 rfl rfl, itR, j_at 177 rfl rfl, by decide, by decide, by decide +kernel⟩
set_option maxRecDepth 20000 in
theorem msR_gate : Cond.selects yR_gate.cls yR_gate yR_gate ∈ jTW := j_at 176 rfl rfl
set_option maxRecDepth 20000 in
theorem mmT_isPermutation : jM yT_isPermutation bT_isPermutation 0 3 (some .boolean) (.instanceMethod yT_isPermutation) := ⟨j_at 179 rfl rfl, itT, j_at 181 rfl rfl, by decide, by decide, by decide +kernel⟩
set_option maxRecDepth 20000 in
theorem msT_isPermutation : Cond.selects yT_isPermutation.cls yT_isPermutation yT_isPermutation ∈ jTW := j_at 180 rfl rfl
set_option maxRecDepth 20000 in
theorem mmT_findGates : jM yT_findGates bT_findGates 0 2 (some .int) (.instanceMethod yT_findGates) := ⟨j_at 183 rfl rfl, itT, j_at 185 rfl rfl, by decide, by decide, by decide +kernel⟩
set_option maxRecDepth 20000 in
theorem msT_findGates : Cond.selects yT_findGates.cls yT_findGates yT_findGates ∈ jTW := j_at 184 rfl rfl
set_option maxRecDepth 20000 in
theorem mmT_settleRow : jM yT_settleRow bT_settleRow 1 3 none (.instanceMethod yT_settleRow) := ⟨j_at 188 rfl rfl, itT, j_at 189 rfl rfl, by decide, by decide, by decide +kernel⟩
set_option maxRecDepth 20000 in
theorem msT_settleRow : Cond.selects yT_settleRow.cls yT_settleRow yT_settleRow ∈ jTW := j_at 3 rfl rfl
set_option maxRecDepth 20000 in
theorem mmT_useGate : jM yT_useGate bT_useGate 1 2 none (.instanceMethod yT_useGate) := ⟨j_at 192 rfl rfl, itT, j_at 193 rfl rfl, by decide, by decide, by decide +kernel⟩
set_option maxRecDepth 20000 in
theorem msT_useGate : Cond.selects yT_useGate.cls yT_useGate yT_useGate ∈ jTW := j_at 4 rfl rfl
set_option maxRecDepth 20000 in
theorem mmT_foundFromLast : jM yT_foundFromLast bT_foundFromLast 1 2 (some .int) (.instanceMethod yT_foundFromLast) := ⟨j_at 195 rfl rfl, itT, j_at 197 rfl rfl, by decide, by decide, by decide +kernel⟩
set_option maxRecDepth 20000 in
theorem msT_foundFromLast : Cond.selects yT_foundFromLast.cls yT_foundFromLast yT_foundFromLast ∈ jTW := j_at 196 rfl rfl
set_option maxRecDepth 20000 in
theorem mmR_look : jM yR_look bR_look 1 2 (some .int) (.instanceMethod yR_look) := ⟨j_at 199 rfl rfl, itR, j_at 201 rfl rfl, by decide, by decide, by decide +kernel⟩
set_option maxRecDepth 20000 in
theorem msR_look : Cond.selects yR_look.cls yR_look yR_look ∈ jTW := j_at 200 rfl rfl
set_option maxRecDepth 20000 in
theorem mmT_get : jM yT_get bT_get 1 2 (some .int) (.instanceMethod yT_get) := ⟨j_at 203 rfl rfl, itT, j_at 205 rfl rfl, by decide, by decide, by decide +kernel⟩
set_option maxRecDepth 20000 in
theorem msT_get : Cond.selects yT_get.cls yT_get yT_get ∈ jTW := j_at 204 rfl rfl
set_option maxRecDepth 20000 in
theorem mmR_form : jM yR_form bR_form 2 6 (some .int) (.instanceMethod yR_form) := ⟨j_at 207 rfl rfl, itR, j_at 209 rfl rfl, by decide, by decide, by decide +kernel⟩
set_option maxRecDepth 20000 in
theorem msR_form : Cond.selects yR_form.cls yR_form yR_form ∈ jTW := j_at 208 rfl rfl
set_option maxRecDepth 20000 in
theorem mmT_bitCount : jM yT_bitCount bT_bitCount 0 1 (some .int) (.instanceMethod yT_bitCount) := ⟨j_at 211 rfl rfl, itT, j_at 213 rfl rfl, by decide, by decide, by decide +kernel⟩
set_option maxRecDepth 20000 in
theorem msT_bitCount : Cond.selects yT_bitCount.cls yT_bitCount yT_bitCount ∈ jTW := j_at 212 rfl rfl
set_option maxRecDepth 20000 in
theorem mmF_least : jM yF_least bF_least 2 4 (some .long) (.instanceMethod yF_least) := ⟨j_at 215 rfl rfl, itF, j_at 217 rfl rfl, by decide, by decide, by decide +kernel⟩
set_option maxRecDepth 20000 in
theorem msF_least : Cond.selects yF_least.cls yF_least yF_least ∈ jTW := j_at 216 rfl rfl
set_option maxRecDepth 20000 in
theorem mmF_fillLevel : jM yF_fillLevel bF_fillLevel 1 4 none (.instanceMethod yF_fillLevel) := ⟨j_at 220 rfl rfl, itF, j_at 221 rfl rfl, by decide, by decide, by decide +kernel⟩
set_option maxRecDepth 20000 in
theorem msF_fillLevel : Cond.selects yF_fillLevel.cls yF_fillLevel yF_fillLevel ∈ jTW := j_at 5 rfl rfl
set_option maxRecDepth 20000 in
theorem mmF_leastFrom : jM yF_leastFrom bF_leastFrom 2 20 (some .long) (.instanceMethod yF_leastFrom) := ⟨j_at 226 rfl rfl, itF, j_at 227 rfl rfl, by decide, by decide, by decide +kernel⟩
set_option maxRecDepth 20000 in
theorem msF_leastFrom : Cond.selects yF_leastFrom.cls yF_leastFrom yF_leastFrom ∈ jTW := j_at 6 rfl rfl
set_option maxRecDepth 20000 in
theorem mmP_count : jM yP_count bP_count 1 3 (some .int) (.static yP_count) := ⟨j_at 229 rfl rfl, itP, j_at 230 rfl rfl, by decide, by decide, by decide +kernel⟩
set_option maxRecDepth 20000 in
theorem mmF_sizeOf : jM yF_sizeOf bF_sizeOf 1 2 (some .int) (.static yF_sizeOf) := ⟨j_at 233 rfl rfl, itF, j_at 234 rfl rfl, by decide, by decide, by decide +kernel⟩
set_option maxRecDepth 20000 in
theorem mmF_join : jM yF_join bF_join 3 11 (some .long) (.static yF_join) := ⟨j_at 236 rfl rfl, itF, j_at 237 rfl rfl, by decide, by decide, by decide +kernel⟩
set_option maxRecDepth 20000 in
theorem k_mminLS : Cond.static Lib.MathLoose.min_long.x ∈ jTW := j_at 241 rfl rfl
set_option maxRecDepth 20000 in
theorem k_mminLC : Cond.code Lib.MathLoose.min_long.x Lib.MathLoose.min_long.code 4 (some .long) ∈ jTW := j_at 242 rfl rfl
set_option maxRecDepth 20000 in
theorem mmF_numberAt : jM yF_numberAt bF_numberAt 2 4 (some .int) (.static yF_numberAt) := ⟨j_at 245 rfl rfl, itF, j_at 246 rfl rfl, by decide, by decide, by decide +kernel⟩
set_option maxRecDepth 20000 in
theorem mmR_product : jM yR_product bR_product 1 3 (some .int) (.instanceMethod yR_product) := ⟨j_at 248 rfl rfl, itR, j_at 250 rfl rfl, by decide, by decide, by decide +kernel⟩
set_option maxRecDepth 20000 in
theorem msR_product : Cond.selects yR_product.cls yR_product yR_product ∈ jTW := j_at 249 rfl rfl
set_option maxRecDepth 20000 in
theorem mmP_function : jM yP_function bP_function 2 4 (some .int) (.static yP_function) := ⟨j_at 253 rfl rfl, itP, j_at 254 rfl rfl, by decide, by decide, by decide +kernel⟩
set_option maxRecDepth 20000 in
theorem mmP_holds : jM yP_holds bP_holds 3 7 (some .boolean) (.static yP_holds) := ⟨j_at 256 rfl rfl, itP, j_at 257 rfl rfl, by decide, by decide, by decide +kernel⟩
set_option maxRecDepth 20000 in
theorem mmR_program : jM yR_program bR_program 1 2 (some .boolean) (.instanceMethod yR_program) := ⟨j_at 259 rfl rfl, itR, j_at 261 rfl rfl, by decide, by decide, by decide +kernel⟩
set_option maxRecDepth 20000 in
theorem msR_program : Cond.selects yR_program.cls yR_program yR_program ∈ jTW := j_at 260 rfl rfl
set_option maxRecDepth 20000 in
theorem mmS_startWith : jM yS_startWith bS_startWith 1 3 (some .boolean) (.instanceMethod yS_startWith) := ⟨j_at 263 rfl rfl, itS, j_at 265 rfl rfl, by decide, by decide, by decide +kernel⟩
set_option maxRecDepth 20000 in
theorem msS_startWith : Cond.selects yS_startWith.cls yS_startWith yS_startWith ∈ jTW := j_at 264 rfl rfl
set_option maxRecDepth 20000 in
theorem mmS_forget : jM yS_forget bS_forget 0 2 none (.instanceMethod yS_forget) := ⟨j_at 268 rfl rfl, itS, j_at 269 rfl rfl, by decide, by decide, by decide +kernel⟩
set_option maxRecDepth 20000 in
theorem msS_forget : Cond.selects yS_forget.cls yS_forget yS_forget ∈ jTW := j_at 7 rfl rfl
set_option maxRecDepth 20000 in
theorem mmR_need : jM yR_need bR_need 2 3 (some .boolean) (.instanceMethod yR_need) := ⟨j_at 271 rfl rfl, itR, j_at 273 rfl rfl, by decide, by decide, by decide +kernel⟩
set_option maxRecDepth 20000 in
theorem msR_need : Cond.selects yR_need.cls yR_need yR_need ∈ jTW := j_at 272 rfl rfl
set_option maxRecDepth 20000 in
theorem mmS_setNeeds : jM yS_setNeeds bS_setNeeds 2 3 (some .boolean) (.instanceMethod yS_setNeeds) := ⟨j_at 275 rfl rfl, itS, j_at 277 rfl rfl, by decide, by decide, by decide +kernel⟩
set_option maxRecDepth 20000 in
theorem msS_setNeeds : Cond.selects yS_setNeeds.cls yS_setNeeds yS_setNeeds ∈ jTW := j_at 276 rfl rfl
set_option maxRecDepth 20000 in
theorem mmR_move : jM yR_move bR_move 2 4 (some .int) (.instanceMethod yR_move) := ⟨j_at 279 rfl rfl, itR, j_at 281 rfl rfl, by decide, by decide, by decide +kernel⟩
set_option maxRecDepth 20000 in
theorem msR_move : Cond.selects yR_move.cls yR_move yR_move ∈ jTW := j_at 280 rfl rfl
set_option maxRecDepth 20000 in
theorem mmS_movesWithin : jM yS_movesWithin bS_movesWithin 1 4 (some (.object "ReversibleParts$Moves")) (.instanceMethod yS_movesWithin) := ⟨j_at 283 rfl rfl, itS, j_at 285 rfl rfl, by decide, by decide, by decide +kernel⟩
set_option maxRecDepth 20000 in
theorem msS_movesWithin : Cond.selects yS_movesWithin.cls yS_movesWithin yS_movesWithin ∈ jTW := j_at 284 rfl rfl
set_option maxRecDepth 20000 in
theorem k_mminS : Cond.static Lib.Math.min.name ∈ jTW := j_at 287 rfl rfl
set_option maxRecDepth 20000 in
theorem k_mminC : Cond.code Lib.Math.min.name Lib.Math.min.code 2 (some .int) ∈ jTW := j_at 288 rfl rfl
set_option maxRecDepth 20000 in
theorem k_mmaxS : Cond.static Lib.Math.max.name ∈ jTW := j_at 290 rfl rfl
set_option maxRecDepth 20000 in
theorem k_mmaxC : Cond.code Lib.Math.max.name Lib.Math.max.code 2 (some .int) ∈ jTW := j_at 291 rfl rfl
set_option maxRecDepth 20000 in
theorem mmS_search : jM yS_search bS_search 1 7 (some (.object "ReversibleParts$Moves")) (.instanceMethod yS_search) := ⟨j_at 294 rfl rfl, itS, j_at 295 rfl rfl, by decide, by decide, by decide +kernel⟩
set_option maxRecDepth 20000 in
theorem msS_search : Cond.selects yS_search.cls yS_search yS_search ∈ jTW := j_at 8 rfl rfl
set_option maxRecDepth 20000 in
theorem mmS_makeRoom : jM yS_makeRoom bS_makeRoom 0 2 none (.instanceMethod yS_makeRoom) := ⟨j_at 298 rfl rfl, itS, j_at 299 rfl rfl, by decide, by decide, by decide +kernel⟩
set_option maxRecDepth 20000 in
theorem msS_makeRoom : Cond.selects yS_makeRoom.cls yS_makeRoom yS_makeRoom ∈ jTW := j_at 9 rfl rfl
set_option maxRecDepth 20000 in
theorem mmS_wantedSteps : jM yS_wantedSteps bS_wantedSteps 0 3 (some .int) (.instanceMethod yS_wantedSteps) := ⟨j_at 302 rfl rfl, itS, j_at 303 rfl rfl, by decide, by decide, by decide +kernel⟩
set_option maxRecDepth 20000 in
theorem msS_wantedSteps : Cond.selects yS_wantedSteps.cls yS_wantedSteps yS_wantedSteps ∈ jTW := j_at 10 rfl rfl
set_option maxRecDepth 20000 in
theorem mmS_spreadFromGoal : jM yS_spreadFromGoal bS_spreadFromGoal 2 4 none (.instanceMethod yS_spreadFromGoal) := ⟨j_at 306 rfl rfl, itS, j_at 307 rfl rfl, by decide, by decide, by decide +kernel⟩
set_option maxRecDepth 20000 in
theorem msS_spreadFromGoal : Cond.selects yS_spreadFromGoal.cls yS_spreadFromGoal yS_spreadFromGoal ∈ jTW := j_at 11 rfl rfl
set_option maxRecDepth 20000 in
theorem mmS_enter : jM yS_enter bS_enter 2 3 none (.instanceMethod yS_enter) := ⟨j_at 310 rfl rfl, itS, j_at 311 rfl rfl, by decide, by decide, by decide +kernel⟩
set_option maxRecDepth 20000 in
theorem msS_enter : Cond.selects yS_enter.cls yS_enter yS_enter ∈ jTW := j_at 12 rfl rfl
set_option maxRecDepth 20000 in
theorem mmS_spreadFrom : jM yS_spreadFrom bS_spreadFrom 3 9 none (.instanceMethod yS_spreadFrom) := ⟨j_at 314 rfl rfl, itS, j_at 315 rfl rfl, by decide, by decide, by decide +kernel⟩
set_option maxRecDepth 20000 in
theorem msS_spreadFrom : Cond.selects yS_spreadFrom.cls yS_spreadFrom yS_spreadFrom ∈ jTW := j_at 13 rfl rfl
set_option maxRecDepth 20000 in
theorem mmJ_bitCount : jM yJ_bitCount bJ_bitCount 1 1 (some .int) (.static yJ_bitCount) := ⟨j_at 317 rfl rfl, itJ, j_at 318 rfl rfl, by decide, by decide, by decide +kernel⟩
set_option maxRecDepth 20000 in
theorem mmV_length : jM yV_length bV_length 0 1 (some .int) (.instanceMethod yV_length) := ⟨j_at 323 rfl rfl, itV, j_at 325 rfl rfl, by decide, by decide, by decide +kernel⟩
set_option maxRecDepth 20000 in
theorem msV_length : Cond.selects yV_length.cls yV_length yV_length ∈ jTW := j_at 324 rfl rfl
set_option maxRecDepth 20000 in
theorem mmS_firstStepNearer : jM yS_firstStepNearer bS_firstStepNearer 1 5 (some .int) (.instanceMethod yS_firstStepNearer) := ⟨j_at 328 rfl rfl, itS, j_at 329 rfl rfl, by decide, by decide, by decide +kernel⟩
set_option maxRecDepth 20000 in
theorem msS_firstStepNearer : Cond.selects yS_firstStepNearer.cls yS_firstStepNearer yS_firstStepNearer ∈ jTW := j_at 14 rfl rfl
set_option maxRecDepth 20000 in
theorem mmV_set : jM yV_set bV_set 2 3 none (.instanceMethod yV_set) := ⟨j_at 331 rfl rfl, itV, j_at 333 rfl rfl, by decide, by decide, by decide +kernel⟩
set_option maxRecDepth 20000 in
theorem msV_set : Cond.selects yV_set.cls yV_set yV_set ∈ jTW := j_at 332 rfl rfl
set_option maxRecDepth 20000 in
theorem mmV_at : jM yV_at bV_at 1 2 (some .int) (.instanceMethod yV_at) := ⟨j_at 336 rfl rfl, itV, j_at 338 rfl rfl, by decide, by decide, by decide +kernel⟩
set_option maxRecDepth 20000 in
theorem msV_at : Cond.selects yV_at.cls yV_at yV_at ∈ jTW := j_at 337 rfl rfl
set_option maxRecDepth 20000 in
theorem mmR_marks : jM yR_marks bR_marks 0 1 (some .int) (.instanceMethod yR_marks) := ⟨j_at 340 rfl rfl, itR, j_at 342 rfl rfl, by decide, by decide, by decide +kernel⟩
set_option maxRecDepth 20000 in
theorem msR_marks : Cond.selects yR_marks.cls yR_marks yR_marks ∈ jTW := j_at 341 rfl rfl
set_option maxRecDepth 20000 in
theorem mmS_fewestMarks : jM yS_fewestMarks bS_fewestMarks 0 2 (some .int) (.instanceMethod yS_fewestMarks) := ⟨j_at 344 rfl rfl, itS, j_at 346 rfl rfl, by decide, by decide, by decide +kernel⟩
set_option maxRecDepth 20000 in
theorem msS_fewestMarks : Cond.selects yS_fewestMarks.cls yS_fewestMarks yS_fewestMarks ∈ jTW := j_at 345 rfl rfl
set_option maxRecDepth 20000 in
theorem mmS_fewestThinkable : jM yS_fewestThinkable bS_fewestThinkable 0 4 (some .int) (.instanceMethod yS_fewestThinkable) := ⟨j_at 349 rfl rfl, itS, j_at 350 rfl rfl, by decide, by decide, by decide +kernel⟩
set_option maxRecDepth 20000 in
theorem msS_fewestThinkable : Cond.selects yS_fewestThinkable.cls yS_fewestThinkable yS_fewestThinkable ∈ jTW := j_at 15 rfl rfl
set_option maxRecDepth 20000 in
theorem mmR_total : jM yR_total bR_total 1 2 (some .int) (.instanceMethod yR_total) := ⟨j_at 353 rfl rfl, itR, j_at 355 rfl rfl, by decide, by decide, by decide +kernel⟩
set_option maxRecDepth 20000 in
theorem msR_total : Cond.selects yR_total.cls yR_total yR_total ∈ jTW := j_at 354 rfl rfl
set_option maxRecDepth 20000 in
theorem mmS_count : jM yS_count bS_count 0 1 (some .int) (.instanceMethod yS_count) := ⟨j_at 357 rfl rfl, itS, j_at 359 rfl rfl, by decide, by decide, by decide +kernel⟩
set_option maxRecDepth 20000 in
theorem msS_count : Cond.selects yS_count.cls yS_count yS_count ∈ jTW := j_at 358 rfl rfl
set_option maxRecDepth 20000 in
theorem mmM_init : jM yM_init bM_init 0 1 none (.instanceMethod yM_init) := ⟨j_at 363 rfl rfl, itM, j_at 364 rfl rfl, by decide, by decide, by decide +kernel⟩
set_option maxRecDepth 20000 in
theorem mmM_start : jM yM_start bM_start 1 3 none (.instanceMethod yM_start) := ⟨j_at 369 rfl rfl, itM, j_at 370 rfl rfl, by decide, by decide, by decide +kernel⟩
set_option maxRecDepth 20000 in
theorem msM_start : Cond.selects yM_start.cls yM_start yM_start ∈ jTW := j_at 16 rfl rfl
set_option maxRecDepth 20000 in
theorem mmM_begin : jM yM_begin bM_begin 1 2 (some .boolean) (.instanceMethod yM_begin) := ⟨j_at 419 rfl rfl, itM, j_at 421 rfl rfl, by decide, by decide, by decide +kernel⟩
set_option maxRecDepth 20000 in
theorem msM_begin : Cond.selects yM_begin.cls yM_begin yM_begin ∈ jTW := j_at 420 rfl rfl
set_option maxRecDepth 20000 in
theorem mmM_put : jM yM_put bM_put 2 3 (some .boolean) (.instanceMethod yM_put) := ⟨j_at 423 rfl rfl, itM, j_at 425 rfl rfl, by decide, by decide, by decide +kernel⟩
set_option maxRecDepth 20000 in
theorem msM_put : Cond.selects yM_put.cls yM_put yM_put ∈ jTW := j_at 424 rfl rfl
set_option maxRecDepth 20000 in
theorem mmM_isValue : jM yM_isValue bM_isValue 1 2 (some .boolean) (.instanceMethod yM_isValue) := ⟨j_at 428 rfl rfl, itM, j_at 429 rfl rfl, by decide, by decide, by decide +kernel⟩
set_option maxRecDepth 20000 in
theorem msM_isValue : Cond.selects yM_isValue.cls yM_isValue yM_isValue ∈ jTW := j_at 17 rfl rfl
set_option maxRecDepth 20000 in
theorem mmM_values : jM yM_values bM_values 0 1 (some .int) (.instanceMethod yM_values) := ⟨j_at 432 rfl rfl, itM, j_at 433 rfl rfl, by decide, by decide, by decide +kernel⟩
set_option maxRecDepth 20000 in
theorem msM_values : Cond.selects yM_values.cls yM_values yM_values ∈ jTW := j_at 18 rfl rfl
set_option maxRecDepth 20000 in
theorem mmM_apply : jM yM_apply bM_apply 1 5 (some .boolean) (.instanceMethod yM_apply) := ⟨j_at 435 rfl rfl, itM, j_at 437 rfl rfl, by decide, by decide, by decide +kernel⟩
set_option maxRecDepth 20000 in
theorem msM_apply : Cond.selects yM_apply.cls yM_apply yM_apply ∈ jTW := j_at 436 rfl rfl
set_option maxRecDepth 20000 in
theorem mmM_changed : jM yM_changed bM_changed 3 3 (some .int) (.static yM_changed) := ⟨j_at 439 rfl rfl, itM, j_at 440 rfl rfl, by decide, by decide, by decide +kernel⟩
set_option maxRecDepth 20000 in
theorem mmM_gate : jM yM_gate bM_gate 1 2 (some .int) (.instanceMethod yM_gate) := ⟨j_at 442 rfl rfl, itM, j_at 444 rfl rfl, by decide, by decide, by decide +kernel⟩
set_option maxRecDepth 20000 in
theorem msM_gate : Cond.selects yM_gate.cls yM_gate yM_gate ∈ jTW := j_at 443 rfl rfl
set_option maxRecDepth 20000 in
theorem mmM_isPermutation : jM yM_isPermutation bM_isPermutation 0 3 (some .boolean) (.instanceMethod yM_isPermutation) := ⟨j_at 447 rfl rfl, itM, j_at 448 rfl rfl, by decide, by decide, by decide +kernel⟩
set_option maxRecDepth 20000 in
theorem msM_isPermutation : Cond.selects yM_isPermutation.cls yM_isPermutation yM_isPermutation ∈ jTW := j_at 19 rfl rfl
set_option maxRecDepth 20000 in
theorem mmM_findGates : jM yM_findGates bM_findGates 0 3 none (.instanceMethod yM_findGates) := ⟨j_at 451 rfl rfl, itM, j_at 452 rfl rfl, by decide, by decide, by decide +kernel⟩
set_option maxRecDepth 20000 in
theorem msM_findGates : Cond.selects yM_findGates.cls yM_findGates yM_findGates ∈ jTW := j_at 20 rfl rfl
set_option maxRecDepth 20000 in
theorem mmM_doGate : jM yM_doGate bM_doGate 2 4 none (.instanceMethod yM_doGate) := ⟨j_at 455 rfl rfl, itM, j_at 456 rfl rfl, by decide, by decide, by decide +kernel⟩
set_option maxRecDepth 20000 in
theorem msM_doGate : Cond.selects yM_doGate.cls yM_doGate yM_doGate ∈ jTW := j_at 21 rfl rfl
set_option maxRecDepth 20000 in
theorem mmM_look : jM yM_look bM_look 1 2 (some .int) (.instanceMethod yM_look) := ⟨j_at 458 rfl rfl, itM, j_at 460 rfl rfl, by decide, by decide, by decide +kernel⟩
set_option maxRecDepth 20000 in
theorem msM_look : Cond.selects yM_look.cls yM_look yM_look ∈ jTW := j_at 459 rfl rfl
set_option maxRecDepth 20000 in
theorem mmM_form : jM yM_form bM_form 2 6 (some .int) (.instanceMethod yM_form) := ⟨j_at 462 rfl rfl, itM, j_at 464 rfl rfl, by decide, by decide, by decide +kernel⟩
set_option maxRecDepth 20000 in
theorem msM_form : Cond.selects yM_form.cls yM_form yM_form ∈ jTW := j_at 463 rfl rfl
set_option maxRecDepth 20000 in
theorem mmM_functions : jM yM_functions bM_functions 0 1 (some .int) (.instanceMethod yM_functions) := ⟨j_at 467 rfl rfl, itM, j_at 468 rfl rfl, by decide, by decide, by decide +kernel⟩
set_option maxRecDepth 20000 in
theorem msM_functions : Cond.selects yM_functions.cls yM_functions yM_functions ∈ jTW := j_at 22 rfl rfl
set_option maxRecDepth 20000 in
theorem mmM_findCosts : jM yM_findCosts bM_findCosts 0 6 none (.instanceMethod yM_findCosts) := ⟨j_at 471 rfl rfl, itM, j_at 472 rfl rfl, by decide, by decide, by decide +kernel⟩
set_option maxRecDepth 20000 in
theorem msM_findCosts : Cond.selects yM_findCosts.cls yM_findCosts yM_findCosts ∈ jTW := j_at 23 rfl rfl
set_option maxRecDepth 20000 in
theorem mmM_products : jM yM_products bM_products 0 3 (some .int) (.instanceMethod yM_products) := ⟨j_at 475 rfl rfl, itM, j_at 476 rfl rfl, by decide, by decide, by decide +kernel⟩
set_option maxRecDepth 20000 in
theorem msM_products : Cond.selects yM_products.cls yM_products yM_products ∈ jTW := j_at 24 rfl rfl
set_option maxRecDepth 20000 in
theorem mmM_productAt : jM yM_productAt bM_productAt 1 2 (some .int) (.instanceMethod yM_productAt) := ⟨j_at 479 rfl rfl, itM, j_at 480 rfl rfl, by decide, by decide, by decide +kernel⟩
set_option maxRecDepth 20000 in
theorem msM_productAt : Cond.selects yM_productAt.cls yM_productAt yM_productAt ∈ jTW := j_at 25 rfl rfl
set_option maxRecDepth 20000 in
theorem mmM_functionFor : jM yM_functionFor bM_functionFor 1 8 (some .int) (.instanceMethod yM_functionFor) := ⟨j_at 483 rfl rfl, itM, j_at 484 rfl rfl, by decide, by decide, by decide +kernel⟩
set_option maxRecDepth 20000 in
theorem msM_functionFor : Cond.selects yM_functionFor.cls yM_functionFor yM_functionFor ∈ jTW := j_at 26 rfl rfl
set_option maxRecDepth 20000 in
theorem mmM_costAt : jM yM_costAt bM_costAt 1 2 (some .int) (.instanceMethod yM_costAt) := ⟨j_at 487 rfl rfl, itM, j_at 488 rfl rfl, by decide, by decide, by decide +kernel⟩
set_option maxRecDepth 20000 in
theorem msM_costAt : Cond.selects yM_costAt.cls yM_costAt yM_costAt ∈ jTW := j_at 27 rfl rfl
set_option maxRecDepth 20000 in
theorem mmM_product : jM yM_product bM_product 1 2 (some .int) (.instanceMethod yM_product) := ⟨j_at 490 rfl rfl, itM, j_at 492 rfl rfl, by decide, by decide, by decide +kernel⟩
set_option maxRecDepth 20000 in
theorem msM_product : Cond.selects yM_product.cls yM_product yM_product ∈ jTW := j_at 491 rfl rfl
set_option maxRecDepth 20000 in
theorem mmM_program : jM yM_program bM_program 1 3 (some .boolean) (.instanceMethod yM_program) := ⟨j_at 494 rfl rfl, itM, j_at 496 rfl rfl, by decide, by decide, by decide +kernel⟩
set_option maxRecDepth 20000 in
theorem msM_program : Cond.selects yM_program.cls yM_program yM_program ∈ jTW := j_at 495 rfl rfl
set_option maxRecDepth 20000 in
theorem mmM_need : jM yM_need bM_need 2 3 (some .boolean) (.instanceMethod yM_need) := ⟨j_at 498 rfl rfl, itM, j_at 500 rfl rfl, by decide, by decide, by decide +kernel⟩
set_option maxRecDepth 20000 in
theorem msM_need : Cond.selects yM_need.cls yM_need yM_need ∈ jTW := j_at 499 rfl rfl
set_option maxRecDepth 20000 in
theorem mmM_move : jM yM_move bM_move 2 7 (some .int) (.instanceMethod yM_move) := ⟨j_at 502 rfl rfl, itM, j_at 504 rfl rfl, by decide, by decide, by decide +kernel⟩
set_option maxRecDepth 20000 in
theorem msM_move : Cond.selects yM_move.cls yM_move yM_move ∈ jTW := j_at 503 rfl rfl
set_option maxRecDepth 20000 in
theorem mmM_findEnd : jM yM_findEnd bM_findEnd 1 7 (some .int) (.instanceMethod yM_findEnd) := ⟨j_at 507 rfl rfl, itM, j_at 508 rfl rfl, by decide, by decide, by decide +kernel⟩
set_option maxRecDepth 20000 in
theorem msM_findEnd : Cond.selects yM_findEnd.cls yM_findEnd yM_findEnd ∈ jTW := j_at 28 rfl rfl
set_option maxRecDepth 20000 in
theorem mmM_count : jM yM_count bM_count 1 3 (some .int) (.static yM_count) := ⟨j_at 510 rfl rfl, itM, j_at 511 rfl rfl, by decide, by decide, by decide +kernel⟩
set_option maxRecDepth 20000 in
theorem mmM_lengthTo : jM yM_lengthTo bM_lengthTo 1 4 (some .int) (.instanceMethod yM_lengthTo) := ⟨j_at 514 rfl rfl, itM, j_at 515 rfl rfl, by decide, by decide, by decide +kernel⟩
set_option maxRecDepth 20000 in
theorem msM_lengthTo : Cond.selects yM_lengthTo.cls yM_lengthTo yM_lengthTo ∈ jTW := j_at 29 rfl rfl
set_option maxRecDepth 20000 in
theorem mmM_marks : jM yM_marks bM_marks 0 2 (some .int) (.instanceMethod yM_marks) := ⟨j_at 517 rfl rfl, itM, j_at 519 rfl rfl, by decide, by decide, by decide +kernel⟩
set_option maxRecDepth 20000 in
theorem msM_marks : Cond.selects yM_marks.cls yM_marks yM_marks ∈ jTW := j_at 518 rfl rfl
set_option maxRecDepth 20000 in
theorem mmM_total : jM yM_total bM_total 1 2 (some .int) (.instanceMethod yM_total) := ⟨j_at 521 rfl rfl, itM, j_at 523 rfl rfl, by decide, by decide, by decide +kernel⟩
set_option maxRecDepth 20000 in
theorem msM_total : Cond.selects yM_total.cls yM_total yM_total ∈ jTW := j_at 522 rfl rfl
end
section
theorem dT_init_0 : decode bT_init 0 = .ok (.aload_n 0, 1) := by decide +kernel
theorem dT_init_1 : decode bT_init 1 = .ok (.invokespecial 3, 3) := by decide +kernel
theorem dT_init_4 : decode bT_init 4 = .ok (.aload_n 0, 1) := by decide +kernel
theorem dT_init_5 : decode bT_init 5 = .ok (.bipush 16, 2) := by decide +kernel
theorem dT_init_7 : decode bT_init 7 = .ok (.newarray .int, 2) := by decide +kernel
theorem dT_init_9 : decode bT_init 9 = .ok (.putfield 9, 3) := by decide +kernel
theorem dT_init_12 : decode bT_init 12 = .ok (.aload_n 0, 1) := by decide +kernel
theorem dT_init_13 : decode bT_init 13 = .ok (.bipush 16, 2) := by decide +kernel
theorem dT_init_15 : decode bT_init 15 = .ok (.newarray .int, 2) := by decide +kernel
theorem dT_init_17 : decode bT_init 17 = .ok (.putfield 15, 3) := by decide +kernel
theorem dT_init_20 : decode bT_init 20 = .ok (.aload_n 0, 1) := by decide +kernel
theorem dT_init_21 : decode bT_init 21 = .ok (.bipush 64, 2) := by decide +kernel
theorem dT_init_23 : decode bT_init 23 = .ok (.newarray .int, 2) := by decide +kernel
theorem dT_init_25 : decode bT_init 25 = .ok (.putfield 18, 3) := by decide +kernel
theorem dT_init_28 : decode bT_init 28 = .ok (.aload_n 0, 1) := by decide +kernel
theorem dT_init_29 : decode bT_init 29 = .ok (.iconst 1, 1) := by decide +kernel
theorem dT_init_30 : decode bT_init 30 = .ok (.putfield 21, 3) := by decide +kernel
theorem dT_init_33 : decode bT_init 33 = .ok (.aload_n 0, 1) := by decide +kernel
theorem dT_init_34 : decode bT_init 34 = .ok (.iconst 2, 1) := by decide +kernel
theorem dT_init_35 : decode bT_init 35 = .ok (.putfield 25, 3) := by decide +kernel
theorem dT_init_38 : decode bT_init 38 = .ok (.iconst 0, 1) := by decide +kernel
theorem dT_init_39 : decode bT_init 39 = .ok (.istore_n 1, 1) := by decide +kernel
theorem dT_init_40 : decode bT_init 40 = .ok (.iload_n 1, 1) := by decide +kernel
theorem dT_init_41 : decode bT_init 41 = .ok (.bipush 16, 2) := by decide +kernel
theorem dT_init_43 : decode bT_init 43 = .ok (.if_icmp .ge 16, 3) := by decide +kernel
theorem dT_init_46 : decode bT_init 46 = .ok (.aload_n 0, 1) := by decide +kernel
theorem dT_init_47 : decode bT_init 47 = .ok (.getfield 9, 3) := by decide +kernel
theorem dT_init_50 : decode bT_init 50 = .ok (.iload_n 1, 1) := by decide +kernel
theorem dT_init_51 : decode bT_init 51 = .ok (.iload_n 1, 1) := by decide +kernel
theorem dT_init_52 : decode bT_init 52 = .ok (.iastore, 1) := by decide +kernel
theorem dT_init_53 : decode bT_init 53 = .ok (.iinc 1 1, 3) := by decide +kernel
theorem dT_init_56 : decode bT_init 56 = .ok (.goto (-16), 3) := by decide +kernel
theorem dT_init_59 : decode bT_init 59 = .ok (.return_, 1) := by decide +kernel
theorem dT_startWith_0 : decode bT_startWith 0 = .ok (.iload_n 1, 1) := by decide +kernel
theorem dT_startWith_1 : decode bT_startWith 1 = .ok (.iconst 1, 1) := by decide +kernel
theorem dT_startWith_2 : decode bT_startWith 2 = .ok (.if_icmp .lt 8, 3) := by decide +kernel
theorem dT_startWith_5 : decode bT_startWith 5 = .ok (.iload_n 1, 1) := by decide +kernel
theorem dT_startWith_6 : decode bT_startWith 6 = .ok (.iconst 4, 1) := by decide +kernel
theorem dT_startWith_7 : decode bT_startWith 7 = .ok (.if_icmp .le 5, 3) := by decide +kernel
theorem dT_startWith_10 : decode bT_startWith 10 = .ok (.iconst 0, 1) := by decide +kernel
theorem dT_startWith_11 : decode bT_startWith 11 = .ok (.ireturn, 1) := by decide +kernel
theorem dT_startWith_12 : decode bT_startWith 12 = .ok (.aload_n 0, 1) := by decide +kernel
theorem dT_startWith_13 : decode bT_startWith 13 = .ok (.iload_n 1, 1) := by decide +kernel
theorem dT_startWith_14 : decode bT_startWith 14 = .ok (.putfield 21, 3) := by decide +kernel
theorem dT_startWith_17 : decode bT_startWith 17 = .ok (.aload_n 0, 1) := by decide +kernel
theorem dT_startWith_18 : decode bT_startWith 18 = .ok (.iconst 1, 1) := by decide +kernel
theorem dT_startWith_19 : decode bT_startWith 19 = .ok (.iload_n 1, 1) := by decide +kernel
theorem dT_startWith_20 : decode bT_startWith 20 = .ok (.ishl, 1) := by decide +kernel
theorem dT_startWith_21 : decode bT_startWith 21 = .ok (.putfield 25, 3) := by decide +kernel
theorem dT_startWith_24 : decode bT_startWith 24 = .ok (.iconst 0, 1) := by decide +kernel
theorem dT_startWith_25 : decode bT_startWith 25 = .ok (.istore_n 2, 1) := by decide +kernel
theorem dT_startWith_26 : decode bT_startWith 26 = .ok (.iload_n 2, 1) := by decide +kernel
theorem dT_startWith_27 : decode bT_startWith 27 = .ok (.bipush 16, 2) := by decide +kernel
theorem dT_startWith_29 : decode bT_startWith 29 = .ok (.if_icmp .ge 16, 3) := by decide +kernel
theorem dT_startWith_32 : decode bT_startWith 32 = .ok (.aload_n 0, 1) := by decide +kernel
theorem dT_startWith_33 : decode bT_startWith 33 = .ok (.getfield 9, 3) := by decide +kernel
theorem dT_startWith_36 : decode bT_startWith 36 = .ok (.iload_n 2, 1) := by decide +kernel
theorem dT_startWith_37 : decode bT_startWith 37 = .ok (.iload_n 2, 1) := by decide +kernel
theorem dT_startWith_38 : decode bT_startWith 38 = .ok (.iastore, 1) := by decide +kernel
theorem dT_startWith_39 : decode bT_startWith 39 = .ok (.iinc 2 1, 3) := by decide +kernel
theorem dT_startWith_42 : decode bT_startWith 42 = .ok (.goto (-16), 3) := by decide +kernel
theorem dT_startWith_45 : decode bT_startWith 45 = .ok (.iconst 1, 1) := by decide +kernel
theorem dT_startWith_46 : decode bT_startWith 46 = .ok (.ireturn, 1) := by decide +kernel
theorem dT_set_0 : decode bT_set 0 = .ok (.aload_n 0, 1) := by decide +kernel
theorem dT_set_1 : decode bT_set 1 = .ok (.iload_n 1, 1) := by decide +kernel
theorem dT_set_2 : decode bT_set 2 = .ok (.invokevirtual 28, 3) := by decide +kernel
theorem dT_set_5 : decode bT_set 5 = .ok (.ifCond .eq 11, 3) := by decide +kernel
theorem dT_set_8 : decode bT_set 8 = .ok (.aload_n 0, 1) := by decide +kernel
theorem dT_set_9 : decode bT_set 9 = .ok (.iload_n 2, 1) := by decide +kernel
theorem dT_set_10 : decode bT_set 10 = .ok (.invokevirtual 28, 3) := by decide +kernel
theorem dT_set_13 : decode bT_set 13 = .ok (.ifCond .ne 5, 3) := by decide +kernel
theorem dT_set_16 : decode bT_set 16 = .ok (.iconst 0, 1) := by decide +kernel
theorem dT_set_17 : decode bT_set 17 = .ok (.ireturn, 1) := by decide +kernel
theorem dT_set_18 : decode bT_set 18 = .ok (.aload_n 0, 1) := by decide +kernel
theorem dT_set_19 : decode bT_set 19 = .ok (.getfield 9, 3) := by decide +kernel
theorem dT_set_22 : decode bT_set 22 = .ok (.iload_n 1, 1) := by decide +kernel
theorem dT_set_23 : decode bT_set 23 = .ok (.iload_n 2, 1) := by decide +kernel
theorem dT_set_24 : decode bT_set 24 = .ok (.iastore, 1) := by decide +kernel
theorem dT_set_25 : decode bT_set 25 = .ok (.iconst 1, 1) := by decide +kernel
theorem dT_set_26 : decode bT_set 26 = .ok (.ireturn, 1) := by decide +kernel
theorem dT_hasValue_0 : decode bT_hasValue 0 = .ok (.iload_n 1, 1) := by decide +kernel
theorem dT_hasValue_1 : decode bT_hasValue 1 = .ok (.ifCond .lt 15, 3) := by decide +kernel
theorem dT_hasValue_4 : decode bT_hasValue 4 = .ok (.iload_n 1, 1) := by decide +kernel
theorem dT_hasValue_5 : decode bT_hasValue 5 = .ok (.aload_n 0, 1) := by decide +kernel
theorem dT_hasValue_6 : decode bT_hasValue 6 = .ok (.getfield 25, 3) := by decide +kernel
theorem dT_hasValue_9 : decode bT_hasValue 9 = .ok (.if_icmp .ge 7, 3) := by decide +kernel
theorem dT_hasValue_12 : decode bT_hasValue 12 = .ok (.iconst 1, 1) := by decide +kernel
theorem dT_hasValue_13 : decode bT_hasValue 13 = .ok (.goto 4, 3) := by decide +kernel
theorem dT_hasValue_16 : decode bT_hasValue 16 = .ok (.iconst 0, 1) := by decide +kernel
theorem dT_hasValue_17 : decode bT_hasValue 17 = .ok (.ireturn, 1) := by decide +kernel
theorem dT_change_0 : decode bT_change 0 = .ok (.aload_n 0, 1) := by decide +kernel
theorem dT_change_1 : decode bT_change 1 = .ok (.iload_n 1, 1) := by decide +kernel
theorem dT_change_2 : decode bT_change 2 = .ok (.invokevirtual 32, 3) := by decide +kernel
theorem dT_change_5 : decode bT_change 5 = .ok (.ifCond .ne 5, 3) := by decide +kernel
theorem dT_change_8 : decode bT_change 8 = .ok (.iconst 0, 1) := by decide +kernel
theorem dT_change_9 : decode bT_change 9 = .ok (.ireturn, 1) := by decide +kernel
theorem dT_change_10 : decode bT_change 10 = .ok (.aload_n 0, 1) := by decide +kernel
theorem dT_change_11 : decode bT_change 11 = .ok (.aload_n 0, 1) := by decide +kernel
theorem dT_change_12 : decode bT_change 12 = .ok (.getfield 9, 3) := by decide +kernel
theorem dT_change_15 : decode bT_change 15 = .ok (.iload_n 1, 1) := by decide +kernel
theorem dT_change_16 : decode bT_change 16 = .ok (.invokevirtual 35, 3) := by decide +kernel
theorem dT_change_19 : decode bT_change 19 = .ok (.iconst 1, 1) := by decide +kernel
theorem dT_change_20 : decode bT_change 20 = .ok (.ireturn, 1) := by decide +kernel
theorem dT_hasGate_0 : decode bT_hasGate 0 = .ok (.iload_n 1, 1) := by decide +kernel
theorem dT_hasGate_1 : decode bT_hasGate 1 = .ok (.ifCond .ge 5, 3) := by decide +kernel
theorem dT_hasGate_4 : decode bT_hasGate 4 = .ok (.iconst 0, 1) := by decide +kernel
theorem dT_hasGate_5 : decode bT_hasGate 5 = .ok (.ireturn, 1) := by decide +kernel
theorem dT_hasGate_6 : decode bT_hasGate 6 = .ok (.iload_n 1, 1) := by decide +kernel
theorem dT_hasGate_7 : decode bT_hasGate 7 = .ok (.iconst 4, 1) := by decide +kernel
theorem dT_hasGate_8 : decode bT_hasGate 8 = .ok (.ishr, 1) := by decide +kernel
theorem dT_hasGate_9 : decode bT_hasGate 9 = .ok (.istore_n 2, 1) := by decide +kernel
theorem dT_hasGate_10 : decode bT_hasGate 10 = .ok (.iload_n 1, 1) := by decide +kernel
theorem dT_hasGate_11 : decode bT_hasGate 11 = .ok (.bipush 15, 2) := by decide +kernel
theorem dT_hasGate_13 : decode bT_hasGate 13 = .ok (.iand, 1) := by decide +kernel
theorem dT_hasGate_14 : decode bT_hasGate 14 = .ok (.istore_n 3, 1) := by decide +kernel
theorem dT_hasGate_15 : decode bT_hasGate 15 = .ok (.iload_n 2, 1) := by decide +kernel
theorem dT_hasGate_16 : decode bT_hasGate 16 = .ok (.aload_n 0, 1) := by decide +kernel
theorem dT_hasGate_17 : decode bT_hasGate 17 = .ok (.getfield 21, 3) := by decide +kernel
theorem dT_hasGate_20 : decode bT_hasGate 20 = .ok (.if_icmp .ge 23, 3) := by decide +kernel
theorem dT_hasGate_23 : decode bT_hasGate 23 = .ok (.iload_n 3, 1) := by decide +kernel
theorem dT_hasGate_24 : decode bT_hasGate 24 = .ok (.aload_n 0, 1) := by decide +kernel
theorem dT_hasGate_25 : decode bT_hasGate 25 = .ok (.getfield 25, 3) := by decide +kernel
theorem dT_hasGate_28 : decode bT_hasGate 28 = .ok (.if_icmp .ge 15, 3) := by decide +kernel
theorem dT_hasGate_31 : decode bT_hasGate 31 = .ok (.iload_n 3, 1) := by decide +kernel
theorem dT_hasGate_32 : decode bT_hasGate 32 = .ok (.iload_n 2, 1) := by decide +kernel
theorem dT_hasGate_33 : decode bT_hasGate 33 = .ok (.ishr, 1) := by decide +kernel
theorem dT_hasGate_34 : decode bT_hasGate 34 = .ok (.iconst 1, 1) := by decide +kernel
theorem dT_hasGate_35 : decode bT_hasGate 35 = .ok (.iand, 1) := by decide +kernel
theorem dT_hasGate_36 : decode bT_hasGate 36 = .ok (.ifCond .ne 7, 3) := by decide +kernel
theorem dT_hasGate_39 : decode bT_hasGate 39 = .ok (.iconst 1, 1) := by decide +kernel
theorem dT_hasGate_40 : decode bT_hasGate 40 = .ok (.goto 4, 3) := by decide +kernel
theorem dT_hasGate_43 : decode bT_hasGate 43 = .ok (.iconst 0, 1) := by decide +kernel
theorem dT_hasGate_44 : decode bT_hasGate 44 = .ok (.ireturn, 1) := by decide +kernel
theorem dT_changeAll_0 : decode bT_changeAll 0 = .ok (.iconst 1, 1) := by decide +kernel
theorem dT_changeAll_1 : decode bT_changeAll 1 = .ok (.iload_n 2, 1) := by decide +kernel
theorem dT_changeAll_2 : decode bT_changeAll 2 = .ok (.iconst 4, 1) := by decide +kernel
theorem dT_changeAll_3 : decode bT_changeAll 3 = .ok (.ishr, 1) := by decide +kernel
theorem dT_changeAll_4 : decode bT_changeAll 4 = .ok (.ishl, 1) := by decide +kernel
theorem dT_changeAll_5 : decode bT_changeAll 5 = .ok (.istore_n 3, 1) := by decide +kernel
theorem dT_changeAll_6 : decode bT_changeAll 6 = .ok (.iload_n 2, 1) := by decide +kernel
theorem dT_changeAll_7 : decode bT_changeAll 7 = .ok (.bipush 15, 2) := by decide +kernel
theorem dT_changeAll_9 : decode bT_changeAll 9 = .ok (.iand, 1) := by decide +kernel
theorem dT_changeAll_10 : decode bT_changeAll 10 = .ok (.istore 4, 2) := by decide +kernel
theorem dT_changeAll_12 : decode bT_changeAll 12 = .ok (.iconst 0, 1) := by decide +kernel
theorem dT_changeAll_13 : decode bT_changeAll 13 = .ok (.istore 5, 2) := by decide +kernel
theorem dT_changeAll_15 : decode bT_changeAll 15 = .ok (.iload 5, 2) := by decide +kernel
theorem dT_changeAll_17 : decode bT_changeAll 17 = .ok (.aload_n 0, 1) := by decide +kernel
theorem dT_changeAll_18 : decode bT_changeAll 18 = .ok (.getfield 25, 3) := by decide +kernel
theorem dT_changeAll_21 : decode bT_changeAll 21 = .ok (.if_icmp .ge 29, 3) := by decide +kernel
theorem dT_changeAll_24 : decode bT_changeAll 24 = .ok (.aload_n 1, 1) := by decide +kernel
theorem dT_changeAll_25 : decode bT_changeAll 25 = .ok (.iload 5, 2) := by decide +kernel
theorem dT_changeAll_27 : decode bT_changeAll 27 = .ok (.iaload, 1) := by decide +kernel
theorem dT_changeAll_28 : decode bT_changeAll 28 = .ok (.iload 4, 2) := by decide +kernel
theorem dT_changeAll_30 : decode bT_changeAll 30 = .ok (.iand, 1) := by decide +kernel
theorem dT_changeAll_31 : decode bT_changeAll 31 = .ok (.iload 4, 2) := by decide +kernel
theorem dT_changeAll_33 : decode bT_changeAll 33 = .ok (.if_icmp .ne 11, 3) := by decide +kernel
theorem dT_changeAll_36 : decode bT_changeAll 36 = .ok (.aload_n 1, 1) := by decide +kernel
theorem dT_changeAll_37 : decode bT_changeAll 37 = .ok (.iload 5, 2) := by decide +kernel
theorem dT_changeAll_39 : decode bT_changeAll 39 = .ok (.dup2, 1) := by decide +kernel
theorem dT_changeAll_40 : decode bT_changeAll 40 = .ok (.iaload, 1) := by decide +kernel
theorem dT_changeAll_41 : decode bT_changeAll 41 = .ok (.iload_n 3, 1) := by decide +kernel
theorem dT_changeAll_42 : decode bT_changeAll 42 = .ok (.ixor, 1) := by decide +kernel
theorem dT_changeAll_43 : decode bT_changeAll 43 = .ok (.iastore, 1) := by decide +kernel
theorem dT_changeAll_44 : decode bT_changeAll 44 = .ok (.iinc 5 1, 3) := by decide +kernel
theorem dT_changeAll_47 : decode bT_changeAll 47 = .ok (.goto (-32), 3) := by decide +kernel
theorem dT_changeAll_50 : decode bT_changeAll 50 = .ok (.return_, 1) := by decide +kernel
theorem dT_isPermutation_0 : decode bT_isPermutation 0 = .ok (.iconst 0, 1) := by decide +kernel
theorem dT_isPermutation_1 : decode bT_isPermutation 1 = .ok (.istore_n 1, 1) := by decide +kernel
theorem dT_isPermutation_2 : decode bT_isPermutation 2 = .ok (.iconst 0, 1) := by decide +kernel
theorem dT_isPermutation_3 : decode bT_isPermutation 3 = .ok (.istore_n 2, 1) := by decide +kernel
theorem dT_isPermutation_4 : decode bT_isPermutation 4 = .ok (.iload_n 2, 1) := by decide +kernel
theorem dT_isPermutation_5 : decode bT_isPermutation 5 = .ok (.aload_n 0, 1) := by decide +kernel
theorem dT_isPermutation_6 : decode bT_isPermutation 6 = .ok (.getfield 25, 3) := by decide +kernel
theorem dT_isPermutation_9 : decode bT_isPermutation 9 = .ok (.if_icmp .ge 20, 3) := by decide +kernel
theorem dT_isPermutation_12 : decode bT_isPermutation 12 = .ok (.iload_n 1, 1) := by decide +kernel
theorem dT_isPermutation_13 : decode bT_isPermutation 13 = .ok (.iconst 1, 1) := by decide +kernel
theorem dT_isPermutation_14 : decode bT_isPermutation 14 = .ok (.aload_n 0, 1) := by decide +kernel
theorem dT_isPermutation_15 : decode bT_isPermutation 15 = .ok (.getfield 9, 3) := by decide +kernel
theorem dT_isPermutation_18 : decode bT_isPermutation 18 = .ok (.iload_n 2, 1) := by decide +kernel
theorem dT_isPermutation_19 : decode bT_isPermutation 19 = .ok (.iaload, 1) := by decide +kernel
theorem dT_isPermutation_20 : decode bT_isPermutation 20 = .ok (.ishl, 1) := by decide +kernel
theorem dT_isPermutation_21 : decode bT_isPermutation 21 = .ok (.ior, 1) := by decide +kernel
theorem dT_isPermutation_22 : decode bT_isPermutation 22 = .ok (.istore_n 1, 1) := by decide +kernel
theorem dT_isPermutation_23 : decode bT_isPermutation 23 = .ok (.iinc 2 1, 3) := by decide +kernel
theorem dT_isPermutation_26 : decode bT_isPermutation 26 = .ok (.goto (-22), 3) := by decide +kernel
theorem dT_isPermutation_29 : decode bT_isPermutation 29 = .ok (.iload_n 1, 1) := by decide +kernel
theorem dT_isPermutation_30 : decode bT_isPermutation 30 = .ok (.iconst 1, 1) := by decide +kernel
theorem dT_isPermutation_31 : decode bT_isPermutation 31 = .ok (.aload_n 0, 1) := by decide +kernel
theorem dT_isPermutation_32 : decode bT_isPermutation 32 = .ok (.getfield 25, 3) := by decide +kernel
theorem dT_isPermutation_35 : decode bT_isPermutation 35 = .ok (.ishl, 1) := by decide +kernel
theorem dT_isPermutation_36 : decode bT_isPermutation 36 = .ok (.iconst 1, 1) := by decide +kernel
theorem dT_isPermutation_37 : decode bT_isPermutation 37 = .ok (.isub, 1) := by decide +kernel
theorem dT_isPermutation_38 : decode bT_isPermutation 38 = .ok (.if_icmp .ne 7, 3) := by decide +kernel
theorem dT_isPermutation_41 : decode bT_isPermutation 41 = .ok (.iconst 1, 1) := by decide +kernel
theorem dT_isPermutation_42 : decode bT_isPermutation 42 = .ok (.goto 4, 3) := by decide +kernel
theorem dT_isPermutation_45 : decode bT_isPermutation 45 = .ok (.iconst 0, 1) := by decide +kernel
theorem dT_isPermutation_46 : decode bT_isPermutation 46 = .ok (.ireturn, 1) := by decide +kernel
theorem dT_findGates_0 : decode bT_findGates 0 = .ok (.aload_n 0, 1) := by decide +kernel
theorem dT_findGates_1 : decode bT_findGates 1 = .ok (.iconst 0, 1) := by decide +kernel
theorem dT_findGates_2 : decode bT_findGates 2 = .ok (.putfield 39, 3) := by decide +kernel
theorem dT_findGates_5 : decode bT_findGates 5 = .ok (.iconst 0, 1) := by decide +kernel
theorem dT_findGates_6 : decode bT_findGates 6 = .ok (.istore_n 1, 1) := by decide +kernel
theorem dT_findGates_7 : decode bT_findGates 7 = .ok (.iload_n 1, 1) := by decide +kernel
theorem dT_findGates_8 : decode bT_findGates 8 = .ok (.aload_n 0, 1) := by decide +kernel
theorem dT_findGates_9 : decode bT_findGates 9 = .ok (.getfield 25, 3) := by decide +kernel
theorem dT_findGates_12 : decode bT_findGates 12 = .ok (.if_icmp .ge 21, 3) := by decide +kernel
theorem dT_findGates_15 : decode bT_findGates 15 = .ok (.aload_n 0, 1) := by decide +kernel
theorem dT_findGates_16 : decode bT_findGates 16 = .ok (.getfield 15, 3) := by decide +kernel
theorem dT_findGates_19 : decode bT_findGates 19 = .ok (.iload_n 1, 1) := by decide +kernel
theorem dT_findGates_20 : decode bT_findGates 20 = .ok (.aload_n 0, 1) := by decide +kernel
theorem dT_findGates_21 : decode bT_findGates 21 = .ok (.getfield 9, 3) := by decide +kernel
theorem dT_findGates_24 : decode bT_findGates 24 = .ok (.iload_n 1, 1) := by decide +kernel
theorem dT_findGates_25 : decode bT_findGates 25 = .ok (.iaload, 1) := by decide +kernel
theorem dT_findGates_26 : decode bT_findGates 26 = .ok (.iastore, 1) := by decide +kernel
theorem dT_findGates_27 : decode bT_findGates 27 = .ok (.iinc 1 1, 3) := by decide +kernel
theorem dT_findGates_30 : decode bT_findGates 30 = .ok (.goto (-23), 3) := by decide +kernel
theorem dT_findGates_33 : decode bT_findGates 33 = .ok (.iconst 0, 1) := by decide +kernel
theorem dT_findGates_34 : decode bT_findGates 34 = .ok (.istore_n 1, 1) := by decide +kernel
theorem dT_findGates_35 : decode bT_findGates 35 = .ok (.iload_n 1, 1) := by decide +kernel
theorem dT_findGates_36 : decode bT_findGates 36 = .ok (.aload_n 0, 1) := by decide +kernel
theorem dT_findGates_37 : decode bT_findGates 37 = .ok (.getfield 25, 3) := by decide +kernel
theorem dT_findGates_40 : decode bT_findGates 40 = .ok (.if_icmp .ge 14, 3) := by decide +kernel
theorem dT_findGates_43 : decode bT_findGates 43 = .ok (.aload_n 0, 1) := by decide +kernel
theorem dT_findGates_44 : decode bT_findGates 44 = .ok (.iload_n 1, 1) := by decide +kernel
theorem dT_findGates_45 : decode bT_findGates 45 = .ok (.invokevirtual 42, 3) := by decide +kernel
theorem dT_findGates_48 : decode bT_findGates 48 = .ok (.iinc 1 1, 3) := by decide +kernel
theorem dT_findGates_51 : decode bT_findGates 51 = .ok (.goto (-16), 3) := by decide +kernel
theorem dT_findGates_54 : decode bT_findGates 54 = .ok (.aload_n 0, 1) := by decide +kernel
theorem dT_findGates_55 : decode bT_findGates 55 = .ok (.getfield 39, 3) := by decide +kernel
theorem dT_findGates_58 : decode bT_findGates 58 = .ok (.ireturn, 1) := by decide +kernel
theorem dT_settleRow_0 : decode bT_settleRow 0 = .ok (.iconst 0, 1) := by decide +kernel
theorem dT_settleRow_1 : decode bT_settleRow 1 = .ok (.istore_n 2, 1) := by decide +kernel
theorem dT_settleRow_2 : decode bT_settleRow 2 = .ok (.iload_n 2, 1) := by decide +kernel
theorem dT_settleRow_3 : decode bT_settleRow 3 = .ok (.aload_n 0, 1) := by decide +kernel
theorem dT_settleRow_4 : decode bT_settleRow 4 = .ok (.getfield 21, 3) := by decide +kernel
theorem dT_settleRow_7 : decode bT_settleRow 7 = .ok (.if_icmp .ge 40, 3) := by decide +kernel
theorem dT_settleRow_10 : decode bT_settleRow 10 = .ok (.iload_n 1, 1) := by decide +kernel
theorem dT_settleRow_11 : decode bT_settleRow 11 = .ok (.aload_n 0, 1) := by decide +kernel
theorem dT_settleRow_12 : decode bT_settleRow 12 = .ok (.getfield 15, 3) := by decide +kernel
theorem dT_settleRow_15 : decode bT_settleRow 15 = .ok (.iload_n 1, 1) := by decide +kernel
theorem dT_settleRow_16 : decode bT_settleRow 16 = .ok (.iaload, 1) := by decide +kernel
theorem dT_settleRow_17 : decode bT_settleRow 17 = .ok (.iconst (-1), 1) := by decide +kernel
theorem dT_settleRow_18 : decode bT_settleRow 18 = .ok (.ixor, 1) := by decide +kernel
theorem dT_settleRow_19 : decode bT_settleRow 19 = .ok (.iand, 1) := by decide +kernel
theorem dT_settleRow_20 : decode bT_settleRow 20 = .ok (.iconst 1, 1) := by decide +kernel
theorem dT_settleRow_21 : decode bT_settleRow 21 = .ok (.iload_n 2, 1) := by decide +kernel
theorem dT_settleRow_22 : decode bT_settleRow 22 = .ok (.ishl, 1) := by decide +kernel
theorem dT_settleRow_23 : decode bT_settleRow 23 = .ok (.iand, 1) := by decide +kernel
theorem dT_settleRow_24 : decode bT_settleRow 24 = .ok (.ifCond .eq 17, 3) := by decide +kernel
theorem dT_settleRow_27 : decode bT_settleRow 27 = .ok (.aload_n 0, 1) := by decide +kernel
theorem dT_settleRow_28 : decode bT_settleRow 28 = .ok (.iload_n 2, 1) := by decide +kernel
theorem dT_settleRow_29 : decode bT_settleRow 29 = .ok (.iconst 4, 1) := by decide +kernel
theorem dT_settleRow_30 : decode bT_settleRow 30 = .ok (.ishl, 1) := by decide +kernel
theorem dT_settleRow_31 : decode bT_settleRow 31 = .ok (.aload_n 0, 1) := by decide +kernel
theorem dT_settleRow_32 : decode bT_settleRow 32 = .ok (.getfield 15, 3) := by decide +kernel
theorem dT_settleRow_35 : decode bT_settleRow 35 = .ok (.iload_n 1, 1) := by decide +kernel
theorem dT_settleRow_36 : decode bT_settleRow 36 = .ok (.iaload, 1) := by decide +kernel
theorem dT_settleRow_37 : decode bT_settleRow 37 = .ok (.ior, 1) := by decide +kernel
theorem dT_settleRow_38 : decode bT_settleRow 38 = .ok (.invokevirtual 46, 3) := by decide +kernel
theorem dT_settleRow_41 : decode bT_settleRow 41 = .ok (.iinc 2 1, 3) := by decide +kernel
theorem dT_settleRow_44 : decode bT_settleRow 44 = .ok (.goto (-42), 3) := by decide +kernel
theorem dT_settleRow_47 : decode bT_settleRow 47 = .ok (.iconst 0, 1) := by decide +kernel
theorem dT_settleRow_48 : decode bT_settleRow 48 = .ok (.istore_n 2, 1) := by decide +kernel
theorem dT_settleRow_49 : decode bT_settleRow 49 = .ok (.iload_n 2, 1) := by decide +kernel
theorem dT_settleRow_50 : decode bT_settleRow 50 = .ok (.aload_n 0, 1) := by decide +kernel
theorem dT_settleRow_51 : decode bT_settleRow 51 = .ok (.getfield 21, 3) := by decide +kernel
theorem dT_settleRow_54 : decode bT_settleRow 54 = .ok (.if_icmp .ge 35, 3) := by decide +kernel
theorem dT_settleRow_57 : decode bT_settleRow 57 = .ok (.aload_n 0, 1) := by decide +kernel
theorem dT_settleRow_58 : decode bT_settleRow 58 = .ok (.getfield 15, 3) := by decide +kernel
theorem dT_settleRow_61 : decode bT_settleRow 61 = .ok (.iload_n 1, 1) := by decide +kernel
theorem dT_settleRow_62 : decode bT_settleRow 62 = .ok (.iaload, 1) := by decide +kernel
theorem dT_settleRow_63 : decode bT_settleRow 63 = .ok (.iload_n 1, 1) := by decide +kernel
theorem dT_settleRow_64 : decode bT_settleRow 64 = .ok (.iconst (-1), 1) := by decide +kernel
theorem dT_settleRow_65 : decode bT_settleRow 65 = .ok (.ixor, 1) := by decide +kernel
theorem dT_settleRow_66 : decode bT_settleRow 66 = .ok (.iand, 1) := by decide +kernel
theorem dT_settleRow_67 : decode bT_settleRow 67 = .ok (.iconst 1, 1) := by decide +kernel
theorem dT_settleRow_68 : decode bT_settleRow 68 = .ok (.iload_n 2, 1) := by decide +kernel
theorem dT_settleRow_69 : decode bT_settleRow 69 = .ok (.ishl, 1) := by decide +kernel
theorem dT_settleRow_70 : decode bT_settleRow 70 = .ok (.iand, 1) := by decide +kernel
theorem dT_settleRow_71 : decode bT_settleRow 71 = .ok (.ifCond .eq 12, 3) := by decide +kernel
theorem dT_settleRow_74 : decode bT_settleRow 74 = .ok (.aload_n 0, 1) := by decide +kernel
theorem dT_settleRow_75 : decode bT_settleRow 75 = .ok (.iload_n 2, 1) := by decide +kernel
theorem dT_settleRow_76 : decode bT_settleRow 76 = .ok (.iconst 4, 1) := by decide +kernel
theorem dT_settleRow_77 : decode bT_settleRow 77 = .ok (.ishl, 1) := by decide +kernel
theorem dT_settleRow_78 : decode bT_settleRow 78 = .ok (.iload_n 1, 1) := by decide +kernel
theorem dT_settleRow_79 : decode bT_settleRow 79 = .ok (.ior, 1) := by decide +kernel
theorem dT_settleRow_80 : decode bT_settleRow 80 = .ok (.invokevirtual 46, 3) := by decide +kernel
theorem dT_settleRow_83 : decode bT_settleRow 83 = .ok (.iinc 2 1, 3) := by decide +kernel
theorem dT_settleRow_86 : decode bT_settleRow 86 = .ok (.goto (-37), 3) := by decide +kernel
theorem dT_settleRow_89 : decode bT_settleRow 89 = .ok (.return_, 1) := by decide +kernel
theorem dT_useGate_0 : decode bT_useGate 0 = .ok (.aload_n 0, 1) := by decide +kernel
theorem dT_useGate_1 : decode bT_useGate 1 = .ok (.aload_n 0, 1) := by decide +kernel
theorem dT_useGate_2 : decode bT_useGate 2 = .ok (.getfield 15, 3) := by decide +kernel
theorem dT_useGate_5 : decode bT_useGate 5 = .ok (.iload_n 1, 1) := by decide +kernel
theorem dT_useGate_6 : decode bT_useGate 6 = .ok (.invokevirtual 35, 3) := by decide +kernel
theorem dT_useGate_9 : decode bT_useGate 9 = .ok (.aload_n 0, 1) := by decide +kernel
theorem dT_useGate_10 : decode bT_useGate 10 = .ok (.getfield 39, 3) := by decide +kernel
theorem dT_useGate_13 : decode bT_useGate 13 = .ok (.bipush 64, 2) := by decide +kernel
theorem dT_useGate_15 : decode bT_useGate 15 = .ok (.if_icmp .ge 23, 3) := by decide +kernel
theorem dT_useGate_18 : decode bT_useGate 18 = .ok (.aload_n 0, 1) := by decide +kernel
theorem dT_useGate_19 : decode bT_useGate 19 = .ok (.getfield 18, 3) := by decide +kernel
theorem dT_useGate_22 : decode bT_useGate 22 = .ok (.aload_n 0, 1) := by decide +kernel
theorem dT_useGate_23 : decode bT_useGate 23 = .ok (.getfield 39, 3) := by decide +kernel
theorem dT_useGate_26 : decode bT_useGate 26 = .ok (.iload_n 1, 1) := by decide +kernel
theorem dT_useGate_27 : decode bT_useGate 27 = .ok (.iastore, 1) := by decide +kernel
theorem dT_useGate_28 : decode bT_useGate 28 = .ok (.aload_n 0, 1) := by decide +kernel
theorem dT_useGate_29 : decode bT_useGate 29 = .ok (.dup, 1) := by decide +kernel
theorem dT_useGate_30 : decode bT_useGate 30 = .ok (.getfield 39, 3) := by decide +kernel
theorem dT_useGate_33 : decode bT_useGate 33 = .ok (.iconst 1, 1) := by decide +kernel
theorem dT_useGate_34 : decode bT_useGate 34 = .ok (.iadd, 1) := by decide +kernel
theorem dT_useGate_35 : decode bT_useGate 35 = .ok (.putfield 39, 3) := by decide +kernel
theorem dT_useGate_38 : decode bT_useGate 38 = .ok (.return_, 1) := by decide +kernel
theorem dT_foundFromLast_0 : decode bT_foundFromLast 0 = .ok (.iload_n 1, 1) := by decide +kernel
theorem dT_foundFromLast_1 : decode bT_foundFromLast 1 = .ok (.ifCond .lt 27, 3) := by decide +kernel
theorem dT_foundFromLast_4 : decode bT_foundFromLast 4 = .ok (.iload_n 1, 1) := by decide +kernel
theorem dT_foundFromLast_5 : decode bT_foundFromLast 5 = .ok (.aload_n 0, 1) := by decide +kernel
theorem dT_foundFromLast_6 : decode bT_foundFromLast 6 = .ok (.getfield 39, 3) := by decide +kernel
theorem dT_foundFromLast_9 : decode bT_foundFromLast 9 = .ok (.if_icmp .ge 19, 3) := by decide +kernel
theorem dT_foundFromLast_12 : decode bT_foundFromLast 12 = .ok (.aload_n 0, 1) := by decide +kernel
theorem dT_foundFromLast_13 : decode bT_foundFromLast 13 = .ok (.getfield 18, 3) := by decide +kernel
theorem dT_foundFromLast_16 : decode bT_foundFromLast 16 = .ok (.aload_n 0, 1) := by decide +kernel
theorem dT_foundFromLast_17 : decode bT_foundFromLast 17 = .ok (.getfield 39, 3) := by decide +kernel
theorem dT_foundFromLast_20 : decode bT_foundFromLast 20 = .ok (.iconst 1, 1) := by decide +kernel
theorem dT_foundFromLast_21 : decode bT_foundFromLast 21 = .ok (.isub, 1) := by decide +kernel
theorem dT_foundFromLast_22 : decode bT_foundFromLast 22 = .ok (.iload_n 1, 1) := by decide +kernel
theorem dT_foundFromLast_23 : decode bT_foundFromLast 23 = .ok (.isub, 1) := by decide +kernel
theorem dT_foundFromLast_24 : decode bT_foundFromLast 24 = .ok (.iaload, 1) := by decide +kernel
theorem dT_foundFromLast_25 : decode bT_foundFromLast 25 = .ok (.goto 4, 3) := by decide +kernel
theorem dT_foundFromLast_28 : decode bT_foundFromLast 28 = .ok (.iconst (-1), 1) := by decide +kernel
theorem dT_foundFromLast_29 : decode bT_foundFromLast 29 = .ok (.ireturn, 1) := by decide +kernel
theorem dT_get_0 : decode bT_get 0 = .ok (.aload_n 0, 1) := by decide +kernel
theorem dT_get_1 : decode bT_get 1 = .ok (.iload_n 1, 1) := by decide +kernel
theorem dT_get_2 : decode bT_get 2 = .ok (.invokevirtual 28, 3) := by decide +kernel
theorem dT_get_5 : decode bT_get 5 = .ok (.ifCond .eq 12, 3) := by decide +kernel
theorem dT_get_8 : decode bT_get 8 = .ok (.aload_n 0, 1) := by decide +kernel
theorem dT_get_9 : decode bT_get 9 = .ok (.getfield 9, 3) := by decide +kernel
theorem dT_get_12 : decode bT_get 12 = .ok (.iload_n 1, 1) := by decide +kernel
theorem dT_get_13 : decode bT_get 13 = .ok (.iaload, 1) := by decide +kernel
theorem dT_get_14 : decode bT_get 14 = .ok (.goto 4, 3) := by decide +kernel
theorem dT_get_17 : decode bT_get 17 = .ok (.iconst (-1), 1) := by decide +kernel
theorem dT_get_18 : decode bT_get 18 = .ok (.ireturn, 1) := by decide +kernel
theorem dT_bitCount_0 : decode bT_bitCount 0 = .ok (.aload_n 0, 1) := by decide +kernel
theorem dT_bitCount_1 : decode bT_bitCount 1 = .ok (.getfield 21, 3) := by decide +kernel
theorem dT_bitCount_4 : decode bT_bitCount 4 = .ok (.ireturn, 1) := by decide +kernel
end
section
theorem dP_count_0 : decode bP_count 0 = .ok (.iconst 1, 1) := by decide +kernel
theorem dP_count_1 : decode bP_count 1 = .ok (.istore_n 1, 1) := by decide +kernel
theorem dP_count_2 : decode bP_count 2 = .ok (.iconst 0, 1) := by decide +kernel
theorem dP_count_3 : decode bP_count 3 = .ok (.istore_n 2, 1) := by decide +kernel
theorem dP_count_4 : decode bP_count 4 = .ok (.iload_n 2, 1) := by decide +kernel
theorem dP_count_5 : decode bP_count 5 = .ok (.iload_n 0, 1) := by decide +kernel
theorem dP_count_6 : decode bP_count 6 = .ok (.if_icmp .ge 13, 3) := by decide +kernel
theorem dP_count_9 : decode bP_count 9 = .ok (.iload_n 1, 1) := by decide +kernel
theorem dP_count_10 : decode bP_count 10 = .ok (.iconst 3, 1) := by decide +kernel
theorem dP_count_11 : decode bP_count 11 = .ok (.imul, 1) := by decide +kernel
theorem dP_count_12 : decode bP_count 12 = .ok (.istore_n 1, 1) := by decide +kernel
theorem dP_count_13 : decode bP_count 13 = .ok (.iinc 2 1, 3) := by decide +kernel
theorem dP_count_16 : decode bP_count 16 = .ok (.goto (-12), 3) := by decide +kernel
theorem dP_count_19 : decode bP_count 19 = .ok (.iload_n 1, 1) := by decide +kernel
theorem dP_count_20 : decode bP_count 20 = .ok (.ireturn, 1) := by decide +kernel
theorem dP_function_0 : decode bP_function 0 = .ok (.iconst 0, 1) := by decide +kernel
theorem dP_function_1 : decode bP_function 1 = .ok (.istore_n 2, 1) := by decide +kernel
theorem dP_function_2 : decode bP_function 2 = .ok (.iconst 0, 1) := by decide +kernel
theorem dP_function_3 : decode bP_function 3 = .ok (.istore_n 3, 1) := by decide +kernel
theorem dP_function_4 : decode bP_function 4 = .ok (.iload_n 3, 1) := by decide +kernel
theorem dP_function_5 : decode bP_function 5 = .ok (.iconst 1, 1) := by decide +kernel
theorem dP_function_6 : decode bP_function 6 = .ok (.iload_n 0, 1) := by decide +kernel
theorem dP_function_7 : decode bP_function 7 = .ok (.ishl, 1) := by decide +kernel
theorem dP_function_8 : decode bP_function 8 = .ok (.if_icmp .ge 24, 3) := by decide +kernel
theorem dP_function_11 : decode bP_function 11 = .ok (.iload_n 0, 1) := by decide +kernel
theorem dP_function_12 : decode bP_function 12 = .ok (.iload_n 1, 1) := by decide +kernel
theorem dP_function_13 : decode bP_function 13 = .ok (.iload_n 3, 1) := by decide +kernel
theorem dP_function_14 : decode bP_function 14 = .ok (.invokestatic 7, 3) := by decide +kernel
theorem dP_function_17 : decode bP_function 17 = .ok (.ifCond .eq 9, 3) := by decide +kernel
theorem dP_function_20 : decode bP_function 20 = .ok (.iload_n 2, 1) := by decide +kernel
theorem dP_function_21 : decode bP_function 21 = .ok (.iconst 1, 1) := by decide +kernel
theorem dP_function_22 : decode bP_function 22 = .ok (.iload_n 3, 1) := by decide +kernel
theorem dP_function_23 : decode bP_function 23 = .ok (.ishl, 1) := by decide +kernel
theorem dP_function_24 : decode bP_function 24 = .ok (.ior, 1) := by decide +kernel
theorem dP_function_25 : decode bP_function 25 = .ok (.istore_n 2, 1) := by decide +kernel
theorem dP_function_26 : decode bP_function 26 = .ok (.iinc 3 1, 3) := by decide +kernel
theorem dP_function_29 : decode bP_function 29 = .ok (.goto (-25), 3) := by decide +kernel
theorem dP_function_32 : decode bP_function 32 = .ok (.iload_n 2, 1) := by decide +kernel
theorem dP_function_33 : decode bP_function 33 = .ok (.ireturn, 1) := by decide +kernel
theorem dP_holds_0 : decode bP_holds 0 = .ok (.iload_n 1, 1) := by decide +kernel
theorem dP_holds_1 : decode bP_holds 1 = .ok (.istore_n 3, 1) := by decide +kernel
theorem dP_holds_2 : decode bP_holds 2 = .ok (.iconst 0, 1) := by decide +kernel
theorem dP_holds_3 : decode bP_holds 3 = .ok (.istore 4, 2) := by decide +kernel
theorem dP_holds_5 : decode bP_holds 5 = .ok (.iload 4, 2) := by decide +kernel
theorem dP_holds_7 : decode bP_holds 7 = .ok (.iload_n 0, 1) := by decide +kernel
theorem dP_holds_8 : decode bP_holds 8 = .ok (.if_icmp .ge 51, 3) := by decide +kernel
theorem dP_holds_11 : decode bP_holds 11 = .ok (.iload_n 3, 1) := by decide +kernel
theorem dP_holds_12 : decode bP_holds 12 = .ok (.iconst 3, 1) := by decide +kernel
theorem dP_holds_13 : decode bP_holds 13 = .ok (.irem, 1) := by decide +kernel
theorem dP_holds_14 : decode bP_holds 14 = .ok (.istore 5, 2) := by decide +kernel
theorem dP_holds_16 : decode bP_holds 16 = .ok (.iload_n 2, 1) := by decide +kernel
theorem dP_holds_17 : decode bP_holds 17 = .ok (.iload 4, 2) := by decide +kernel
theorem dP_holds_19 : decode bP_holds 19 = .ok (.ishr, 1) := by decide +kernel
theorem dP_holds_20 : decode bP_holds 20 = .ok (.iconst 1, 1) := by decide +kernel
theorem dP_holds_21 : decode bP_holds 21 = .ok (.iand, 1) := by decide +kernel
theorem dP_holds_22 : decode bP_holds 22 = .ok (.istore 6, 2) := by decide +kernel
theorem dP_holds_24 : decode bP_holds 24 = .ok (.iload 5, 2) := by decide +kernel
theorem dP_holds_26 : decode bP_holds 26 = .ok (.iconst 1, 1) := by decide +kernel
theorem dP_holds_27 : decode bP_holds 27 = .ok (.if_icmp .ne 8, 3) := by decide +kernel
theorem dP_holds_30 : decode bP_holds 30 = .ok (.iload 6, 2) := by decide +kernel
theorem dP_holds_32 : decode bP_holds 32 = .ok (.ifCond .eq 15, 3) := by decide +kernel
theorem dP_holds_35 : decode bP_holds 35 = .ok (.iload 5, 2) := by decide +kernel
theorem dP_holds_37 : decode bP_holds 37 = .ok (.iconst 2, 1) := by decide +kernel
theorem dP_holds_38 : decode bP_holds 38 = .ok (.if_icmp .ne 11, 3) := by decide +kernel
theorem dP_holds_41 : decode bP_holds 41 = .ok (.iload 6, 2) := by decide +kernel
theorem dP_holds_43 : decode bP_holds 43 = .ok (.iconst 1, 1) := by decide +kernel
theorem dP_holds_44 : decode bP_holds 44 = .ok (.if_icmp .ne 5, 3) := by decide +kernel
theorem dP_holds_47 : decode bP_holds 47 = .ok (.iconst 0, 1) := by decide +kernel
theorem dP_holds_48 : decode bP_holds 48 = .ok (.ireturn, 1) := by decide +kernel
theorem dP_holds_49 : decode bP_holds 49 = .ok (.iload_n 3, 1) := by decide +kernel
theorem dP_holds_50 : decode bP_holds 50 = .ok (.iconst 3, 1) := by decide +kernel
theorem dP_holds_51 : decode bP_holds 51 = .ok (.idiv, 1) := by decide +kernel
theorem dP_holds_52 : decode bP_holds 52 = .ok (.istore_n 3, 1) := by decide +kernel
theorem dP_holds_53 : decode bP_holds 53 = .ok (.iinc 4 1, 3) := by decide +kernel
theorem dP_holds_56 : decode bP_holds 56 = .ok (.goto (-51), 3) := by decide +kernel
theorem dP_holds_59 : decode bP_holds 59 = .ok (.iconst 1, 1) := by decide +kernel
theorem dP_holds_60 : decode bP_holds 60 = .ok (.ireturn, 1) := by decide +kernel
end
section
theorem dF_init_0 : decode bF_init 0 = .ok (.aload_n 0, 1) := by decide +kernel
theorem dF_init_1 : decode bF_init 1 = .ok (.invokespecial 5, 3) := by decide +kernel
theorem dF_init_4 : decode bF_init 4 = .ok (.aload_n 0, 1) := by decide +kernel
theorem dF_init_5 : decode bF_init 5 = .ok (.sipush 278, 3) := by decide +kernel
theorem dF_init_8 : decode bF_init 8 = .ok (.newarray .long, 2) := by decide +kernel
theorem dF_init_10 : decode bF_init 10 = .ok (.putfield 11, 3) := by decide +kernel
theorem dF_init_13 : decode bF_init 13 = .ok (.aload_n 0, 1) := by decide +kernel
theorem dF_init_14 : decode bF_init 14 = .ok (.getfield 11, 3) := by decide +kernel
theorem dF_init_17 : decode bF_init 17 = .ok (.iconst 1, 1) := by decide +kernel
theorem dF_init_18 : decode bF_init 18 = .ok (.ldc2_w 15, 3) := by decide +kernel
theorem dF_init_21 : decode bF_init 21 = .ok (.lastore, 1) := by decide +kernel
theorem dF_init_22 : decode bF_init 22 = .ok (.aload_n 0, 1) := by decide +kernel
theorem dF_init_23 : decode bF_init 23 = .ok (.iconst 1, 1) := by decide +kernel
theorem dF_init_24 : decode bF_init 24 = .ok (.putfield 17, 3) := by decide +kernel
theorem dF_init_27 : decode bF_init 27 = .ok (.return_, 1) := by decide +kernel
theorem dF_least_0 : decode bF_least 0 = .ok (.aload_n 0, 1) := by decide +kernel
theorem dF_least_1 : decode bF_least 1 = .ok (.getfield 17, 3) := by decide +kernel
theorem dF_least_4 : decode bF_least 4 = .ok (.istore_n 3, 1) := by decide +kernel
theorem dF_least_5 : decode bF_least 5 = .ok (.iload_n 3, 1) := by decide +kernel
theorem dF_least_6 : decode bF_least 6 = .ok (.iload_n 1, 1) := by decide +kernel
theorem dF_least_7 : decode bF_least 7 = .ok (.if_icmp .ge 14, 3) := by decide +kernel
theorem dF_least_10 : decode bF_least 10 = .ok (.aload_n 0, 1) := by decide +kernel
theorem dF_least_11 : decode bF_least 11 = .ok (.iload_n 3, 1) := by decide +kernel
theorem dF_least_12 : decode bF_least 12 = .ok (.invokevirtual 25, 3) := by decide +kernel
theorem dF_least_15 : decode bF_least 15 = .ok (.iinc 3 1, 3) := by decide +kernel
theorem dF_least_18 : decode bF_least 18 = .ok (.goto (-13), 3) := by decide +kernel
theorem dF_least_21 : decode bF_least 21 = .ok (.aload_n 0, 1) := by decide +kernel
theorem dF_least_22 : decode bF_least 22 = .ok (.iload_n 1, 1) := by decide +kernel
theorem dF_least_23 : decode bF_least 23 = .ok (.iload_n 2, 1) := by decide +kernel
theorem dF_least_24 : decode bF_least 24 = .ok (.invokevirtual 29, 3) := by decide +kernel
theorem dF_least_27 : decode bF_least 27 = .ok (.lreturn, 1) := by decide +kernel
theorem dF_fillLevel_0 : decode bF_fillLevel 0 = .ok (.iconst 1, 1) := by decide +kernel
theorem dF_fillLevel_1 : decode bF_fillLevel 1 = .ok (.iconst 1, 1) := by decide +kernel
theorem dF_fillLevel_2 : decode bF_fillLevel 2 = .ok (.iload_n 1, 1) := by decide +kernel
theorem dF_fillLevel_3 : decode bF_fillLevel 3 = .ok (.ishl, 1) := by decide +kernel
theorem dF_fillLevel_4 : decode bF_fillLevel 4 = .ok (.ishl, 1) := by decide +kernel
theorem dF_fillLevel_5 : decode bF_fillLevel 5 = .ok (.istore_n 2, 1) := by decide +kernel
theorem dF_fillLevel_6 : decode bF_fillLevel 6 = .ok (.iconst 0, 1) := by decide +kernel
theorem dF_fillLevel_7 : decode bF_fillLevel 7 = .ok (.istore_n 3, 1) := by decide +kernel
theorem dF_fillLevel_8 : decode bF_fillLevel 8 = .ok (.iload_n 3, 1) := by decide +kernel
theorem dF_fillLevel_9 : decode bF_fillLevel 9 = .ok (.iload_n 2, 1) := by decide +kernel
theorem dF_fillLevel_10 : decode bF_fillLevel 10 = .ok (.if_icmp .ge 27, 3) := by decide +kernel
theorem dF_fillLevel_13 : decode bF_fillLevel 13 = .ok (.aload_n 0, 1) := by decide +kernel
theorem dF_fillLevel_14 : decode bF_fillLevel 14 = .ok (.getfield 11, 3) := by decide +kernel
theorem dF_fillLevel_17 : decode bF_fillLevel 17 = .ok (.getstatic 33, 3) := by decide +kernel
theorem dF_fillLevel_20 : decode bF_fillLevel 20 = .ok (.iload_n 1, 1) := by decide +kernel
theorem dF_fillLevel_21 : decode bF_fillLevel 21 = .ok (.iaload, 1) := by decide +kernel
theorem dF_fillLevel_22 : decode bF_fillLevel 22 = .ok (.iload_n 3, 1) := by decide +kernel
theorem dF_fillLevel_23 : decode bF_fillLevel 23 = .ok (.iadd, 1) := by decide +kernel
theorem dF_fillLevel_24 : decode bF_fillLevel 24 = .ok (.aload_n 0, 1) := by decide +kernel
theorem dF_fillLevel_25 : decode bF_fillLevel 25 = .ok (.iload_n 1, 1) := by decide +kernel
theorem dF_fillLevel_26 : decode bF_fillLevel 26 = .ok (.iload_n 3, 1) := by decide +kernel
theorem dF_fillLevel_27 : decode bF_fillLevel 27 = .ok (.invokevirtual 29, 3) := by decide +kernel
theorem dF_fillLevel_30 : decode bF_fillLevel 30 = .ok (.lastore, 1) := by decide +kernel
theorem dF_fillLevel_31 : decode bF_fillLevel 31 = .ok (.iinc 3 1, 3) := by decide +kernel
theorem dF_fillLevel_34 : decode bF_fillLevel 34 = .ok (.goto (-26), 3) := by decide +kernel
theorem dF_fillLevel_37 : decode bF_fillLevel 37 = .ok (.aload_n 0, 1) := by decide +kernel
theorem dF_fillLevel_38 : decode bF_fillLevel 38 = .ok (.iload_n 1, 1) := by decide +kernel
theorem dF_fillLevel_39 : decode bF_fillLevel 39 = .ok (.iconst 1, 1) := by decide +kernel
theorem dF_fillLevel_40 : decode bF_fillLevel 40 = .ok (.iadd, 1) := by decide +kernel
theorem dF_fillLevel_41 : decode bF_fillLevel 41 = .ok (.putfield 17, 3) := by decide +kernel
theorem dF_fillLevel_44 : decode bF_fillLevel 44 = .ok (.return_, 1) := by decide +kernel
theorem dF_leastFrom_0 : decode bF_leastFrom 0 = .ok (.iconst 1, 1) := by decide +kernel
theorem dF_leastFrom_1 : decode bF_leastFrom 1 = .ok (.iload_n 1, 1) := by decide +kernel
theorem dF_leastFrom_2 : decode bF_leastFrom 2 = .ok (.iconst 1, 1) := by decide +kernel
theorem dF_leastFrom_3 : decode bF_leastFrom 3 = .ok (.isub, 1) := by decide +kernel
theorem dF_leastFrom_4 : decode bF_leastFrom 4 = .ok (.ishl, 1) := by decide +kernel
theorem dF_leastFrom_5 : decode bF_leastFrom 5 = .ok (.istore_n 3, 1) := by decide +kernel
theorem dF_leastFrom_6 : decode bF_leastFrom 6 = .ok (.iconst 1, 1) := by decide +kernel
theorem dF_leastFrom_7 : decode bF_leastFrom 7 = .ok (.iload_n 3, 1) := by decide +kernel
theorem dF_leastFrom_8 : decode bF_leastFrom 8 = .ok (.ishl, 1) := by decide +kernel
theorem dF_leastFrom_9 : decode bF_leastFrom 9 = .ok (.istore 4, 2) := by decide +kernel
theorem dF_leastFrom_11 : decode bF_leastFrom 11 = .ok (.iload_n 2, 1) := by decide +kernel
theorem dF_leastFrom_12 : decode bF_leastFrom 12 = .ok (.iload 4, 2) := by decide +kernel
theorem dF_leastFrom_14 : decode bF_leastFrom 14 = .ok (.iconst 1, 1) := by decide +kernel
theorem dF_leastFrom_15 : decode bF_leastFrom 15 = .ok (.isub, 1) := by decide +kernel
theorem dF_leastFrom_16 : decode bF_leastFrom 16 = .ok (.iand, 1) := by decide +kernel
theorem dF_leastFrom_17 : decode bF_leastFrom 17 = .ok (.istore 5, 2) := by decide +kernel
theorem dF_leastFrom_19 : decode bF_leastFrom 19 = .ok (.iload_n 2, 1) := by decide +kernel
theorem dF_leastFrom_20 : decode bF_leastFrom 20 = .ok (.iload_n 3, 1) := by decide +kernel
theorem dF_leastFrom_21 : decode bF_leastFrom 21 = .ok (.ishr, 1) := by decide +kernel
theorem dF_leastFrom_22 : decode bF_leastFrom 22 = .ok (.iload 4, 2) := by decide +kernel
theorem dF_leastFrom_24 : decode bF_leastFrom 24 = .ok (.iconst 1, 1) := by decide +kernel
theorem dF_leastFrom_25 : decode bF_leastFrom 25 = .ok (.isub, 1) := by decide +kernel
theorem dF_leastFrom_26 : decode bF_leastFrom 26 = .ok (.iand, 1) := by decide +kernel
theorem dF_leastFrom_27 : decode bF_leastFrom 27 = .ok (.istore 6, 2) := by decide +kernel
theorem dF_leastFrom_29 : decode bF_leastFrom 29 = .ok (.getstatic 33, 3) := by decide +kernel
theorem dF_leastFrom_32 : decode bF_leastFrom 32 = .ok (.iload_n 1, 1) := by decide +kernel
theorem dF_leastFrom_33 : decode bF_leastFrom 33 = .ok (.iconst 1, 1) := by decide +kernel
theorem dF_leastFrom_34 : decode bF_leastFrom 34 = .ok (.isub, 1) := by decide +kernel
theorem dF_leastFrom_35 : decode bF_leastFrom 35 = .ok (.iaload, 1) := by decide +kernel
theorem dF_leastFrom_36 : decode bF_leastFrom 36 = .ok (.istore 7, 2) := by decide +kernel
theorem dF_leastFrom_38 : decode bF_leastFrom 38 = .ok (.iload_n 1, 1) := by decide +kernel
theorem dF_leastFrom_39 : decode bF_leastFrom 39 = .ok (.iconst 1, 1) := by decide +kernel
theorem dF_leastFrom_40 : decode bF_leastFrom 40 = .ok (.isub, 1) := by decide +kernel
theorem dF_leastFrom_41 : decode bF_leastFrom 41 = .ok (.invokestatic 37, 3) := by decide +kernel
theorem dF_leastFrom_44 : decode bF_leastFrom 44 = .ok (.istore 8, 2) := by decide +kernel
theorem dF_leastFrom_46 : decode bF_leastFrom 46 = .ok (.ldc2_w 43, 3) := by decide +kernel
theorem dF_leastFrom_49 : decode bF_leastFrom 49 = .ok (.lstore 9, 2) := by decide +kernel
theorem dF_leastFrom_51 : decode bF_leastFrom 51 = .ok (.iconst 0, 1) := by decide +kernel
theorem dF_leastFrom_52 : decode bF_leastFrom 52 = .ok (.istore 11, 2) := by decide +kernel
theorem dF_leastFrom_54 : decode bF_leastFrom 54 = .ok (.iload 11, 2) := by decide +kernel
theorem dF_leastFrom_56 : decode bF_leastFrom 56 = .ok (.iload 4, 2) := by decide +kernel
theorem dF_leastFrom_58 : decode bF_leastFrom 58 = .ok (.if_icmp .ge 105, 3) := by decide +kernel
theorem dF_leastFrom_61 : decode bF_leastFrom 61 = .ok (.aload_n 0, 1) := by decide +kernel
theorem dF_leastFrom_62 : decode bF_leastFrom 62 = .ok (.getfield 11, 3) := by decide +kernel
theorem dF_leastFrom_65 : decode bF_leastFrom 65 = .ok (.iload 7, 2) := by decide +kernel
theorem dF_leastFrom_67 : decode bF_leastFrom 67 = .ok (.iload 11, 2) := by decide +kernel
theorem dF_leastFrom_69 : decode bF_leastFrom 69 = .ok (.iadd, 1) := by decide +kernel
theorem dF_leastFrom_70 : decode bF_leastFrom 70 = .ok (.laload, 1) := by decide +kernel
theorem dF_leastFrom_71 : decode bF_leastFrom 71 = .ok (.lstore 12, 2) := by decide +kernel
theorem dF_leastFrom_73 : decode bF_leastFrom 73 = .ok (.aload_n 0, 1) := by decide +kernel
theorem dF_leastFrom_74 : decode bF_leastFrom 74 = .ok (.getfield 11, 3) := by decide +kernel
theorem dF_leastFrom_77 : decode bF_leastFrom 77 = .ok (.iload 7, 2) := by decide +kernel
theorem dF_leastFrom_79 : decode bF_leastFrom 79 = .ok (.iload 6, 2) := by decide +kernel
theorem dF_leastFrom_81 : decode bF_leastFrom 81 = .ok (.iload 11, 2) := by decide +kernel
theorem dF_leastFrom_83 : decode bF_leastFrom 83 = .ok (.ixor, 1) := by decide +kernel
theorem dF_leastFrom_84 : decode bF_leastFrom 84 = .ok (.iadd, 1) := by decide +kernel
theorem dF_leastFrom_85 : decode bF_leastFrom 85 = .ok (.laload, 1) := by decide +kernel
theorem dF_leastFrom_86 : decode bF_leastFrom 86 = .ok (.lstore 14, 2) := by decide +kernel
theorem dF_leastFrom_88 : decode bF_leastFrom 88 = .ok (.aload_n 0, 1) := by decide +kernel
theorem dF_leastFrom_89 : decode bF_leastFrom 89 = .ok (.getfield 11, 3) := by decide +kernel
theorem dF_leastFrom_92 : decode bF_leastFrom 92 = .ok (.iload 7, 2) := by decide +kernel
theorem dF_leastFrom_94 : decode bF_leastFrom 94 = .ok (.iload 5, 2) := by decide +kernel
theorem dF_leastFrom_96 : decode bF_leastFrom 96 = .ok (.iload 11, 2) := by decide +kernel
theorem dF_leastFrom_98 : decode bF_leastFrom 98 = .ok (.ixor, 1) := by decide +kernel
theorem dF_leastFrom_99 : decode bF_leastFrom 99 = .ok (.iadd, 1) := by decide +kernel
theorem dF_leastFrom_100 : decode bF_leastFrom 100 = .ok (.laload, 1) := by decide +kernel
theorem dF_leastFrom_101 : decode bF_leastFrom 101 = .ok (.lstore 16, 2) := by decide +kernel
theorem dF_leastFrom_103 : decode bF_leastFrom 103 = .ok (.lload 12, 2) := by decide +kernel
theorem dF_leastFrom_105 : decode bF_leastFrom 105 = .ok (.invokestatic 21, 3) := by decide +kernel
theorem dF_leastFrom_108 : decode bF_leastFrom 108 = .ok (.lload 14, 2) := by decide +kernel
theorem dF_leastFrom_110 : decode bF_leastFrom 110 = .ok (.invokestatic 21, 3) := by decide +kernel
theorem dF_leastFrom_113 : decode bF_leastFrom 113 = .ok (.iadd, 1) := by decide +kernel
theorem dF_leastFrom_114 : decode bF_leastFrom 114 = .ok (.lload 16, 2) := by decide +kernel
theorem dF_leastFrom_116 : decode bF_leastFrom 116 = .ok (.invokestatic 21, 3) := by decide +kernel
theorem dF_leastFrom_119 : decode bF_leastFrom 119 = .ok (.iadd, 1) := by decide +kernel
theorem dF_leastFrom_120 : decode bF_leastFrom 120 = .ok (.lload 9, 2) := by decide +kernel
theorem dF_leastFrom_122 : decode bF_leastFrom 122 = .ok (.invokestatic 21, 3) := by decide +kernel
theorem dF_leastFrom_125 : decode bF_leastFrom 125 = .ok (.if_icmp .gt 32, 3) := by decide +kernel
theorem dF_leastFrom_128 : decode bF_leastFrom 128 = .ok (.lload 12, 2) := by decide +kernel
theorem dF_leastFrom_130 : decode bF_leastFrom 130 = .ok (.lload 14, 2) := by decide +kernel
theorem dF_leastFrom_132 : decode bF_leastFrom 132 = .ok (.iload 8, 2) := by decide +kernel
theorem dF_leastFrom_134 : decode bF_leastFrom 134 = .ok (.invokestatic 45, 3) := by decide +kernel
theorem dF_leastFrom_137 : decode bF_leastFrom 137 = .ok (.lload 16, 2) := by decide +kernel
theorem dF_leastFrom_139 : decode bF_leastFrom 139 = .ok (.iconst 2, 1) := by decide +kernel
theorem dF_leastFrom_140 : decode bF_leastFrom 140 = .ok (.iload 8, 2) := by decide +kernel
theorem dF_leastFrom_142 : decode bF_leastFrom 142 = .ok (.imul, 1) := by decide +kernel
theorem dF_leastFrom_143 : decode bF_leastFrom 143 = .ok (.invokestatic 45, 3) := by decide +kernel
theorem dF_leastFrom_146 : decode bF_leastFrom 146 = .ok (.lstore 18, 2) := by decide +kernel
theorem dF_leastFrom_148 : decode bF_leastFrom 148 = .ok (.lload 9, 2) := by decide +kernel
theorem dF_leastFrom_150 : decode bF_leastFrom 150 = .ok (.lload 18, 2) := by decide +kernel
theorem dF_leastFrom_152 : decode bF_leastFrom 152 = .ok (.invokestatic 49, 3) := by decide +kernel
theorem dF_leastFrom_155 : decode bF_leastFrom 155 = .ok (.lstore 9, 2) := by decide +kernel
theorem dF_leastFrom_157 : decode bF_leastFrom 157 = .ok (.iinc 11 1, 3) := by decide +kernel
theorem dF_leastFrom_160 : decode bF_leastFrom 160 = .ok (.goto (-106), 3) := by decide +kernel
theorem dF_leastFrom_163 : decode bF_leastFrom 163 = .ok (.lload 9, 2) := by decide +kernel
theorem dF_leastFrom_165 : decode bF_leastFrom 165 = .ok (.lreturn, 1) := by decide +kernel
theorem dF_sizeOf_0 : decode bF_sizeOf 0 = .ok (.lload_n 0, 1) := by decide +kernel
theorem dF_sizeOf_1 : decode bF_sizeOf 1 = .ok (.bipush 48, 2) := by decide +kernel
theorem dF_sizeOf_3 : decode bF_sizeOf 3 = .ok (.lushr, 1) := by decide +kernel
theorem dF_sizeOf_4 : decode bF_sizeOf 4 = .ok (.l2i, 1) := by decide +kernel
theorem dF_sizeOf_5 : decode bF_sizeOf 5 = .ok (.ireturn, 1) := by decide +kernel
theorem dF_join_0 : decode bF_join 0 = .ok (.lload_n 2, 1) := by decide +kernel
theorem dF_join_1 : decode bF_join 1 = .ok (.invokestatic 21, 3) := by decide +kernel
theorem dF_join_4 : decode bF_join 4 = .ok (.istore 5, 2) := by decide +kernel
theorem dF_join_6 : decode bF_join 6 = .ok (.bipush 7, 2) := by decide +kernel
theorem dF_join_8 : decode bF_join 8 = .ok (.iload 5, 2) := by decide +kernel
theorem dF_join_10 : decode bF_join 10 = .ok (.imul, 1) := by decide +kernel
theorem dF_join_11 : decode bF_join 11 = .ok (.istore 6, 2) := by decide +kernel
theorem dF_join_13 : decode bF_join 13 = .ok (.ldc2_w 55, 3) := by decide +kernel
theorem dF_join_16 : decode bF_join 16 = .ok (.lconst 1, 1) := by decide +kernel
theorem dF_join_17 : decode bF_join 17 = .ok (.iload 6, 2) := by decide +kernel
theorem dF_join_19 : decode bF_join 19 = .ok (.lshl, 1) := by decide +kernel
theorem dF_join_20 : decode bF_join 20 = .ok (.lconst 1, 1) := by decide +kernel
theorem dF_join_21 : decode bF_join 21 = .ok (.lsub, 1) := by decide +kernel
theorem dF_join_22 : decode bF_join 22 = .ok (.land, 1) := by decide +kernel
theorem dF_join_23 : decode bF_join 23 = .ok (.lstore 7, 2) := by decide +kernel
theorem dF_join_25 : decode bF_join 25 = .ok (.lload_n 0, 1) := by decide +kernel
theorem dF_join_26 : decode bF_join 26 = .ok (.ldc2_w 57, 3) := by decide +kernel
theorem dF_join_29 : decode bF_join 29 = .ok (.land, 1) := by decide +kernel
theorem dF_join_30 : decode bF_join 30 = .ok (.iload 6, 2) := by decide +kernel
theorem dF_join_32 : decode bF_join 32 = .ok (.lshl, 1) := by decide +kernel
theorem dF_join_33 : decode bF_join 33 = .ok (.lload_n 2, 1) := by decide +kernel
theorem dF_join_34 : decode bF_join 34 = .ok (.ldc2_w 57, 3) := by decide +kernel
theorem dF_join_37 : decode bF_join 37 = .ok (.land, 1) := by decide +kernel
theorem dF_join_38 : decode bF_join 38 = .ok (.iload 4, 2) := by decide +kernel
theorem dF_join_40 : decode bF_join 40 = .ok (.i2l, 1) := by decide +kernel
theorem dF_join_41 : decode bF_join 41 = .ok (.lload 7, 2) := by decide +kernel
theorem dF_join_43 : decode bF_join 43 = .ok (.lmul, 1) := by decide +kernel
theorem dF_join_44 : decode bF_join 44 = .ok (.ladd, 1) := by decide +kernel
theorem dF_join_45 : decode bF_join 45 = .ok (.lor, 1) := by decide +kernel
theorem dF_join_46 : decode bF_join 46 = .ok (.lstore 9, 2) := by decide +kernel
theorem dF_join_48 : decode bF_join 48 = .ok (.lload_n 0, 1) := by decide +kernel
theorem dF_join_49 : decode bF_join 49 = .ok (.invokestatic 21, 3) := by decide +kernel
theorem dF_join_52 : decode bF_join 52 = .ok (.iload 5, 2) := by decide +kernel
theorem dF_join_54 : decode bF_join 54 = .ok (.iadd, 1) := by decide +kernel
theorem dF_join_55 : decode bF_join 55 = .ok (.i2l, 1) := by decide +kernel
theorem dF_join_56 : decode bF_join 56 = .ok (.bipush 48, 2) := by decide +kernel
theorem dF_join_58 : decode bF_join 58 = .ok (.lshl, 1) := by decide +kernel
theorem dF_join_59 : decode bF_join 59 = .ok (.lload 9, 2) := by decide +kernel
theorem dF_join_61 : decode bF_join 61 = .ok (.lor, 1) := by decide +kernel
theorem dF_join_62 : decode bF_join 62 = .ok (.lreturn, 1) := by decide +kernel
theorem dF_numberAt_0 : decode bF_numberAt 0 = .ok (.lload_n 0, 1) := by decide +kernel
theorem dF_numberAt_1 : decode bF_numberAt 1 = .ok (.invokestatic 21, 3) := by decide +kernel
theorem dF_numberAt_4 : decode bF_numberAt 4 = .ok (.istore_n 3, 1) := by decide +kernel
theorem dF_numberAt_5 : decode bF_numberAt 5 = .ok (.iload_n 2, 1) := by decide +kernel
theorem dF_numberAt_6 : decode bF_numberAt 6 = .ok (.ifCond .lt 8, 3) := by decide +kernel
theorem dF_numberAt_9 : decode bF_numberAt 9 = .ok (.iload_n 2, 1) := by decide +kernel
theorem dF_numberAt_10 : decode bF_numberAt 10 = .ok (.iload_n 3, 1) := by decide +kernel
theorem dF_numberAt_11 : decode bF_numberAt 11 = .ok (.if_icmp .lt 5, 3) := by decide +kernel
theorem dF_numberAt_14 : decode bF_numberAt 14 = .ok (.iconst (-1), 1) := by decide +kernel
theorem dF_numberAt_15 : decode bF_numberAt 15 = .ok (.ireturn, 1) := by decide +kernel
theorem dF_numberAt_16 : decode bF_numberAt 16 = .ok (.lload_n 0, 1) := by decide +kernel
theorem dF_numberAt_17 : decode bF_numberAt 17 = .ok (.bipush 7, 2) := by decide +kernel
theorem dF_numberAt_19 : decode bF_numberAt 19 = .ok (.iload_n 3, 1) := by decide +kernel
theorem dF_numberAt_20 : decode bF_numberAt 20 = .ok (.iconst 1, 1) := by decide +kernel
theorem dF_numberAt_21 : decode bF_numberAt 21 = .ok (.isub, 1) := by decide +kernel
theorem dF_numberAt_22 : decode bF_numberAt 22 = .ok (.iload_n 2, 1) := by decide +kernel
theorem dF_numberAt_23 : decode bF_numberAt 23 = .ok (.isub, 1) := by decide +kernel
theorem dF_numberAt_24 : decode bF_numberAt 24 = .ok (.imul, 1) := by decide +kernel
theorem dF_numberAt_25 : decode bF_numberAt 25 = .ok (.lushr, 1) := by decide +kernel
theorem dF_numberAt_26 : decode bF_numberAt 26 = .ok (.l2i, 1) := by decide +kernel
theorem dF_numberAt_27 : decode bF_numberAt 27 = .ok (.bipush 127, 2) := by decide +kernel
theorem dF_numberAt_29 : decode bF_numberAt 29 = .ok (.iand, 1) := by decide +kernel
theorem dF_numberAt_30 : decode bF_numberAt 30 = .ok (.ireturn, 1) := by decide +kernel
end
section
theorem dV_init_0 : decode bV_init 0 = .ok (.aload_n 0, 1) := by decide +kernel
theorem dV_init_1 : decode bV_init 1 = .ok (.invokespecial 3, 3) := by decide +kernel
theorem dV_init_4 : decode bV_init 4 = .ok (.aload_n 0, 1) := by decide +kernel
theorem dV_init_5 : decode bV_init 5 = .ok (.iload_n 1, 1) := by decide +kernel
theorem dV_init_6 : decode bV_init 6 = .ok (.ifCond .ge 7, 3) := by decide +kernel
theorem dV_init_9 : decode bV_init 9 = .ok (.iconst 0, 1) := by decide +kernel
theorem dV_init_10 : decode bV_init 10 = .ok (.goto 4, 3) := by decide +kernel
theorem dV_init_13 : decode bV_init 13 = .ok (.iload_n 1, 1) := by decide +kernel
theorem dV_init_14 : decode bV_init 14 = .ok (.newarray .int, 2) := by decide +kernel
theorem dV_init_16 : decode bV_init 16 = .ok (.putfield 9, 3) := by decide +kernel
theorem dV_init_19 : decode bV_init 19 = .ok (.return_, 1) := by decide +kernel
theorem dV_length_0 : decode bV_length 0 = .ok (.aload_n 0, 1) := by decide +kernel
theorem dV_length_1 : decode bV_length 1 = .ok (.getfield 9, 3) := by decide +kernel
theorem dV_length_4 : decode bV_length 4 = .ok (.arraylength, 1) := by decide +kernel
theorem dV_length_5 : decode bV_length 5 = .ok (.ireturn, 1) := by decide +kernel
theorem dV_set_0 : decode bV_set 0 = .ok (.iload_n 1, 1) := by decide +kernel
theorem dV_set_1 : decode bV_set 1 = .ok (.ifCond .lt 19, 3) := by decide +kernel
theorem dV_set_4 : decode bV_set 4 = .ok (.iload_n 1, 1) := by decide +kernel
theorem dV_set_5 : decode bV_set 5 = .ok (.aload_n 0, 1) := by decide +kernel
theorem dV_set_6 : decode bV_set 6 = .ok (.getfield 9, 3) := by decide +kernel
theorem dV_set_9 : decode bV_set 9 = .ok (.arraylength, 1) := by decide +kernel
theorem dV_set_10 : decode bV_set 10 = .ok (.if_icmp .ge 10, 3) := by decide +kernel
theorem dV_set_13 : decode bV_set 13 = .ok (.aload_n 0, 1) := by decide +kernel
theorem dV_set_14 : decode bV_set 14 = .ok (.getfield 9, 3) := by decide +kernel
theorem dV_set_17 : decode bV_set 17 = .ok (.iload_n 1, 1) := by decide +kernel
theorem dV_set_18 : decode bV_set 18 = .ok (.iload_n 2, 1) := by decide +kernel
theorem dV_set_19 : decode bV_set 19 = .ok (.iastore, 1) := by decide +kernel
theorem dV_set_20 : decode bV_set 20 = .ok (.return_, 1) := by decide +kernel
theorem dV_at_0 : decode bV_at 0 = .ok (.iload_n 1, 1) := by decide +kernel
theorem dV_at_1 : decode bV_at 1 = .ok (.ifCond .lt 21, 3) := by decide +kernel
theorem dV_at_4 : decode bV_at 4 = .ok (.iload_n 1, 1) := by decide +kernel
theorem dV_at_5 : decode bV_at 5 = .ok (.aload_n 0, 1) := by decide +kernel
theorem dV_at_6 : decode bV_at 6 = .ok (.getfield 9, 3) := by decide +kernel
theorem dV_at_9 : decode bV_at 9 = .ok (.arraylength, 1) := by decide +kernel
theorem dV_at_10 : decode bV_at 10 = .ok (.if_icmp .ge 12, 3) := by decide +kernel
theorem dV_at_13 : decode bV_at 13 = .ok (.aload_n 0, 1) := by decide +kernel
theorem dV_at_14 : decode bV_at 14 = .ok (.getfield 9, 3) := by decide +kernel
theorem dV_at_17 : decode bV_at 17 = .ok (.iload_n 1, 1) := by decide +kernel
theorem dV_at_18 : decode bV_at 18 = .ok (.iaload, 1) := by decide +kernel
theorem dV_at_19 : decode bV_at 19 = .ok (.goto 4, 3) := by decide +kernel
theorem dV_at_22 : decode bV_at 22 = .ok (.iconst (-1), 1) := by decide +kernel
theorem dV_at_23 : decode bV_at 23 = .ok (.ireturn, 1) := by decide +kernel
end
section
theorem dS_init_0 : decode bS_init 0 = .ok (.aload_n 0, 1) := by decide +kernel
theorem dS_init_1 : decode bS_init 1 = .ok (.invokespecial 3, 3) := by decide +kernel
theorem dS_init_4 : decode bS_init 4 = .ok (.aload_n 0, 1) := by decide +kernel
theorem dS_init_5 : decode bS_init 5 = .ok (.iconst 1, 1) := by decide +kernel
theorem dS_init_6 : decode bS_init 6 = .ok (.putfield 9, 3) := by decide +kernel
theorem dS_init_9 : decode bS_init 9 = .ok (.aload_n 0, 1) := by decide +kernel
theorem dS_init_10 : decode bS_init 10 = .ok (.bipush 12, 2) := by decide +kernel
theorem dS_init_12 : decode bS_init 12 = .ok (.newarray .int, 2) := by decide +kernel
theorem dS_init_14 : decode bS_init 14 = .ok (.putfield 15, 3) := by decide +kernel
theorem dS_init_17 : decode bS_init 17 = .ok (.aload_n 0, 1) := by decide +kernel
theorem dS_init_18 : decode bS_init 18 = .ok (.bipush 13, 2) := by decide +kernel
theorem dS_init_20 : decode bS_init 20 = .ok (.anewarray 19, 3) := by decide +kernel
theorem dS_init_23 : decode bS_init 23 = .ok (.putfield 21, 3) := by decide +kernel
theorem dS_init_26 : decode bS_init 26 = .ok (.aload_n 0, 1) := by decide +kernel
theorem dS_init_27 : decode bS_init 27 = .ok (.new 19, 3) := by decide +kernel
theorem dS_init_30 : decode bS_init 30 = .ok (.dup, 1) := by decide +kernel
theorem dS_init_31 : decode bS_init 31 = .ok (.iconst 0, 1) := by decide +kernel
theorem dS_init_32 : decode bS_init 32 = .ok (.invokespecial 25, 3) := by decide +kernel
theorem dS_init_35 : decode bS_init 35 = .ok (.putfield 28, 3) := by decide +kernel
theorem dS_init_38 : decode bS_init 38 = .ok (.aload_n 0, 1) := by decide +kernel
theorem dS_init_39 : decode bS_init 39 = .ok (.iconst 0, 1) := by decide +kernel
theorem dS_init_40 : decode bS_init 40 = .ok (.newarray .int, 2) := by decide +kernel
theorem dS_init_42 : decode bS_init 42 = .ok (.putfield 32, 3) := by decide +kernel
theorem dS_init_45 : decode bS_init 45 = .ok (.aload_n 0, 1) := by decide +kernel
theorem dS_init_46 : decode bS_init 46 = .ok (.iconst 0, 1) := by decide +kernel
theorem dS_init_47 : decode bS_init 47 = .ok (.newarray .int, 2) := by decide +kernel
theorem dS_init_49 : decode bS_init 49 = .ok (.putfield 35, 3) := by decide +kernel
theorem dS_init_52 : decode bS_init 52 = .ok (.return_, 1) := by decide +kernel
theorem dS_startWith_0 : decode bS_startWith 0 = .ok (.iload_n 1, 1) := by decide +kernel
theorem dS_startWith_1 : decode bS_startWith 1 = .ok (.iconst 1, 1) := by decide +kernel
theorem dS_startWith_2 : decode bS_startWith 2 = .ok (.if_icmp .lt 9, 3) := by decide +kernel
theorem dS_startWith_5 : decode bS_startWith 5 = .ok (.iload_n 1, 1) := by decide +kernel
theorem dS_startWith_6 : decode bS_startWith 6 = .ok (.bipush 12, 2) := by decide +kernel
theorem dS_startWith_8 : decode bS_startWith 8 = .ok (.if_icmp .le 5, 3) := by decide +kernel
theorem dS_startWith_11 : decode bS_startWith 11 = .ok (.iconst 0, 1) := by decide +kernel
theorem dS_startWith_12 : decode bS_startWith 12 = .ok (.ireturn, 1) := by decide +kernel
theorem dS_startWith_13 : decode bS_startWith 13 = .ok (.aload_n 0, 1) := by decide +kernel
theorem dS_startWith_14 : decode bS_startWith 14 = .ok (.iload_n 1, 1) := by decide +kernel
theorem dS_startWith_15 : decode bS_startWith 15 = .ok (.putfield 9, 3) := by decide +kernel
theorem dS_startWith_18 : decode bS_startWith 18 = .ok (.iconst 0, 1) := by decide +kernel
theorem dS_startWith_19 : decode bS_startWith 19 = .ok (.istore_n 2, 1) := by decide +kernel
theorem dS_startWith_20 : decode bS_startWith 20 = .ok (.iload_n 2, 1) := by decide +kernel
theorem dS_startWith_21 : decode bS_startWith 21 = .ok (.bipush 12, 2) := by decide +kernel
theorem dS_startWith_23 : decode bS_startWith 23 = .ok (.if_icmp .ge 16, 3) := by decide +kernel
theorem dS_startWith_26 : decode bS_startWith 26 = .ok (.aload_n 0, 1) := by decide +kernel
theorem dS_startWith_27 : decode bS_startWith 27 = .ok (.getfield 15, 3) := by decide +kernel
theorem dS_startWith_30 : decode bS_startWith 30 = .ok (.iload_n 2, 1) := by decide +kernel
theorem dS_startWith_31 : decode bS_startWith 31 = .ok (.iconst 0, 1) := by decide +kernel
theorem dS_startWith_32 : decode bS_startWith 32 = .ok (.iastore, 1) := by decide +kernel
theorem dS_startWith_33 : decode bS_startWith 33 = .ok (.iinc 2 1, 3) := by decide +kernel
theorem dS_startWith_36 : decode bS_startWith 36 = .ok (.goto (-16), 3) := by decide +kernel
theorem dS_startWith_39 : decode bS_startWith 39 = .ok (.aload_n 0, 1) := by decide +kernel
theorem dS_startWith_40 : decode bS_startWith 40 = .ok (.invokevirtual 38, 3) := by decide +kernel
theorem dS_startWith_43 : decode bS_startWith 43 = .ok (.iconst 1, 1) := by decide +kernel
theorem dS_startWith_44 : decode bS_startWith 44 = .ok (.ireturn, 1) := by decide +kernel
theorem dS_forget_0 : decode bS_forget 0 = .ok (.iconst 0, 1) := by decide +kernel
theorem dS_forget_1 : decode bS_forget 1 = .ok (.istore_n 1, 1) := by decide +kernel
theorem dS_forget_2 : decode bS_forget 2 = .ok (.iload_n 1, 1) := by decide +kernel
theorem dS_forget_3 : decode bS_forget 3 = .ok (.bipush 12, 2) := by decide +kernel
theorem dS_forget_5 : decode bS_forget 5 = .ok (.if_icmp .gt 16, 3) := by decide +kernel
theorem dS_forget_8 : decode bS_forget 8 = .ok (.aload_n 0, 1) := by decide +kernel
theorem dS_forget_9 : decode bS_forget 9 = .ok (.getfield 21, 3) := by decide +kernel
theorem dS_forget_12 : decode bS_forget 12 = .ok (.iload_n 1, 1) := by decide +kernel
theorem dS_forget_13 : decode bS_forget 13 = .ok (.aconst_null, 1) := by decide +kernel
theorem dS_forget_14 : decode bS_forget 14 = .ok (.aastore, 1) := by decide +kernel
theorem dS_forget_15 : decode bS_forget 15 = .ok (.iinc 1 1, 3) := by decide +kernel
theorem dS_forget_18 : decode bS_forget 18 = .ok (.goto (-16), 3) := by decide +kernel
theorem dS_forget_21 : decode bS_forget 21 = .ok (.return_, 1) := by decide +kernel
theorem dS_setNeeds_0 : decode bS_setNeeds 0 = .ok (.iload_n 1, 1) := by decide +kernel
theorem dS_setNeeds_1 : decode bS_setNeeds 1 = .ok (.ifCond .lt 22, 3) := by decide +kernel
theorem dS_setNeeds_4 : decode bS_setNeeds 4 = .ok (.iload_n 1, 1) := by decide +kernel
theorem dS_setNeeds_5 : decode bS_setNeeds 5 = .ok (.aload_n 0, 1) := by decide +kernel
theorem dS_setNeeds_6 : decode bS_setNeeds 6 = .ok (.getfield 9, 3) := by decide +kernel
theorem dS_setNeeds_9 : decode bS_setNeeds 9 = .ok (.if_icmp .ge 14, 3) := by decide +kernel
theorem dS_setNeeds_12 : decode bS_setNeeds 12 = .ok (.iload_n 2, 1) := by decide +kernel
theorem dS_setNeeds_13 : decode bS_setNeeds 13 = .ok (.ifCond .lt 10, 3) := by decide +kernel
theorem dS_setNeeds_16 : decode bS_setNeeds 16 = .ok (.iload_n 2, 1) := by decide +kernel
theorem dS_setNeeds_17 : decode bS_setNeeds 17 = .ok (.iconst 1, 1) := by decide +kernel
theorem dS_setNeeds_18 : decode bS_setNeeds 18 = .ok (.iload_n 1, 1) := by decide +kernel
theorem dS_setNeeds_19 : decode bS_setNeeds 19 = .ok (.ishl, 1) := by decide +kernel
theorem dS_setNeeds_20 : decode bS_setNeeds 20 = .ok (.if_icmp .lt 5, 3) := by decide +kernel
theorem dS_setNeeds_23 : decode bS_setNeeds 23 = .ok (.iconst 0, 1) := by decide +kernel
theorem dS_setNeeds_24 : decode bS_setNeeds 24 = .ok (.ireturn, 1) := by decide +kernel
theorem dS_setNeeds_25 : decode bS_setNeeds 25 = .ok (.aload_n 0, 1) := by decide +kernel
theorem dS_setNeeds_26 : decode bS_setNeeds 26 = .ok (.getfield 15, 3) := by decide +kernel
theorem dS_setNeeds_29 : decode bS_setNeeds 29 = .ok (.iload_n 1, 1) := by decide +kernel
theorem dS_setNeeds_30 : decode bS_setNeeds 30 = .ok (.iload_n 2, 1) := by decide +kernel
theorem dS_setNeeds_31 : decode bS_setNeeds 31 = .ok (.iastore, 1) := by decide +kernel
theorem dS_setNeeds_32 : decode bS_setNeeds 32 = .ok (.aload_n 0, 1) := by decide +kernel
theorem dS_setNeeds_33 : decode bS_setNeeds 33 = .ok (.invokevirtual 38, 3) := by decide +kernel
theorem dS_setNeeds_36 : decode bS_setNeeds 36 = .ok (.iconst 1, 1) := by decide +kernel
theorem dS_setNeeds_37 : decode bS_setNeeds 37 = .ok (.ireturn, 1) := by decide +kernel
theorem dS_movesWithin_0 : decode bS_movesWithin 0 = .ok (.iconst 1, 1) := by decide +kernel
theorem dS_movesWithin_1 : decode bS_movesWithin 1 = .ok (.iload_n 1, 1) := by decide +kernel
theorem dS_movesWithin_2 : decode bS_movesWithin 2 = .ok (.aload_n 0, 1) := by decide +kernel
theorem dS_movesWithin_3 : decode bS_movesWithin 3 = .ok (.getfield 9, 3) := by decide +kernel
theorem dS_movesWithin_6 : decode bS_movesWithin 6 = .ok (.invokestatic 52, 3) := by decide +kernel
theorem dS_movesWithin_9 : decode bS_movesWithin 9 = .ok (.invokestatic 58, 3) := by decide +kernel
theorem dS_movesWithin_12 : decode bS_movesWithin 12 = .ok (.istore_n 2, 1) := by decide +kernel
theorem dS_movesWithin_13 : decode bS_movesWithin 13 = .ok (.aload_n 0, 1) := by decide +kernel
theorem dS_movesWithin_14 : decode bS_movesWithin 14 = .ok (.getfield 21, 3) := by decide +kernel
theorem dS_movesWithin_17 : decode bS_movesWithin 17 = .ok (.iload_n 2, 1) := by decide +kernel
theorem dS_movesWithin_18 : decode bS_movesWithin 18 = .ok (.aaload, 1) := by decide +kernel
theorem dS_movesWithin_19 : decode bS_movesWithin 19 = .ok (.astore_n 3, 1) := by decide +kernel
theorem dS_movesWithin_20 : decode bS_movesWithin 20 = .ok (.aload_n 3, 1) := by decide +kernel
theorem dS_movesWithin_21 : decode bS_movesWithin 21 = .ok (.ifnonnull 16, 3) := by decide +kernel
theorem dS_movesWithin_24 : decode bS_movesWithin 24 = .ok (.aload_n 0, 1) := by decide +kernel
theorem dS_movesWithin_25 : decode bS_movesWithin 25 = .ok (.iload_n 2, 1) := by decide +kernel
theorem dS_movesWithin_26 : decode bS_movesWithin 26 = .ok (.invokevirtual 61, 3) := by decide +kernel
theorem dS_movesWithin_29 : decode bS_movesWithin 29 = .ok (.astore_n 3, 1) := by decide +kernel
theorem dS_movesWithin_30 : decode bS_movesWithin 30 = .ok (.aload_n 0, 1) := by decide +kernel
theorem dS_movesWithin_31 : decode bS_movesWithin 31 = .ok (.getfield 21, 3) := by decide +kernel
theorem dS_movesWithin_34 : decode bS_movesWithin 34 = .ok (.iload_n 2, 1) := by decide +kernel
theorem dS_movesWithin_35 : decode bS_movesWithin 35 = .ok (.aload_n 3, 1) := by decide +kernel
theorem dS_movesWithin_36 : decode bS_movesWithin 36 = .ok (.aastore, 1) := by decide +kernel
theorem dS_movesWithin_37 : decode bS_movesWithin 37 = .ok (.aload_n 3, 1) := by decide +kernel
theorem dS_movesWithin_38 : decode bS_movesWithin 38 = .ok (.areturn, 1) := by decide +kernel
theorem dS_search_0 : decode bS_search 0 = .ok (.aload_n 0, 1) := by decide +kernel
theorem dS_search_1 : decode bS_search 1 = .ok (.invokevirtual 73, 3) := by decide +kernel
theorem dS_search_4 : decode bS_search 4 = .ok (.aload_n 0, 1) := by decide +kernel
theorem dS_search_5 : decode bS_search 5 = .ok (.invokevirtual 64, 3) := by decide +kernel
theorem dS_search_8 : decode bS_search 8 = .ok (.istore_n 2, 1) := by decide +kernel
theorem dS_search_9 : decode bS_search 9 = .ok (.aload_n 0, 1) := by decide +kernel
theorem dS_search_10 : decode bS_search 10 = .ok (.iload_n 2, 1) := by decide +kernel
theorem dS_search_11 : decode bS_search 11 = .ok (.iload_n 1, 1) := by decide +kernel
theorem dS_search_12 : decode bS_search 12 = .ok (.invokevirtual 76, 3) := by decide +kernel
theorem dS_search_15 : decode bS_search 15 = .ok (.aload_n 0, 1) := by decide +kernel
theorem dS_search_16 : decode bS_search 16 = .ok (.getfield 32, 3) := by decide +kernel
theorem dS_search_19 : decode bS_search 19 = .ok (.iconst 0, 1) := by decide +kernel
theorem dS_search_20 : decode bS_search 20 = .ok (.iaload, 1) := by decide +kernel
theorem dS_search_21 : decode bS_search 21 = .ok (.ifCond .ne 8, 3) := by decide +kernel
theorem dS_search_24 : decode bS_search 24 = .ok (.aload_n 0, 1) := by decide +kernel
theorem dS_search_25 : decode bS_search 25 = .ok (.getfield 28, 3) := by decide +kernel
theorem dS_search_28 : decode bS_search 28 = .ok (.areturn, 1) := by decide +kernel
theorem dS_search_29 : decode bS_search 29 = .ok (.new 19, 3) := by decide +kernel
theorem dS_search_32 : decode bS_search 32 = .ok (.dup, 1) := by decide +kernel
theorem dS_search_33 : decode bS_search 33 = .ok (.aload_n 0, 1) := by decide +kernel
theorem dS_search_34 : decode bS_search 34 = .ok (.getfield 32, 3) := by decide +kernel
theorem dS_search_37 : decode bS_search 37 = .ok (.iconst 0, 1) := by decide +kernel
theorem dS_search_38 : decode bS_search 38 = .ok (.iaload, 1) := by decide +kernel
theorem dS_search_39 : decode bS_search 39 = .ok (.iconst 1, 1) := by decide +kernel
theorem dS_search_40 : decode bS_search 40 = .ok (.isub, 1) := by decide +kernel
theorem dS_search_41 : decode bS_search 41 = .ok (.invokespecial 25, 3) := by decide +kernel
theorem dS_search_44 : decode bS_search 44 = .ok (.astore_n 3, 1) := by decide +kernel
theorem dS_search_45 : decode bS_search 45 = .ok (.iconst 0, 1) := by decide +kernel
theorem dS_search_46 : decode bS_search 46 = .ok (.istore 4, 2) := by decide +kernel
theorem dS_search_48 : decode bS_search 48 = .ok (.iconst 0, 1) := by decide +kernel
theorem dS_search_49 : decode bS_search 49 = .ok (.istore 5, 2) := by decide +kernel
theorem dS_search_51 : decode bS_search 51 = .ok (.iload 5, 2) := by decide +kernel
theorem dS_search_53 : decode bS_search 53 = .ok (.aload_n 3, 1) := by decide +kernel
theorem dS_search_54 : decode bS_search 54 = .ok (.invokevirtual 49, 3) := by decide +kernel
theorem dS_search_57 : decode bS_search 57 = .ok (.if_icmp .ge 34, 3) := by decide +kernel
theorem dS_search_60 : decode bS_search 60 = .ok (.aload_n 0, 1) := by decide +kernel
theorem dS_search_61 : decode bS_search 61 = .ok (.iload 4, 2) := by decide +kernel
theorem dS_search_63 : decode bS_search 63 = .ok (.invokevirtual 80, 3) := by decide +kernel
theorem dS_search_66 : decode bS_search 66 = .ok (.istore 6, 2) := by decide +kernel
theorem dS_search_68 : decode bS_search 68 = .ok (.aload_n 3, 1) := by decide +kernel
theorem dS_search_69 : decode bS_search 69 = .ok (.iload 5, 2) := by decide +kernel
theorem dS_search_71 : decode bS_search 71 = .ok (.iload 6, 2) := by decide +kernel
theorem dS_search_73 : decode bS_search 73 = .ok (.invokevirtual 83, 3) := by decide +kernel
theorem dS_search_76 : decode bS_search 76 = .ok (.iload 4, 2) := by decide +kernel
theorem dS_search_78 : decode bS_search 78 = .ok (.iconst 1, 1) := by decide +kernel
theorem dS_search_79 : decode bS_search 79 = .ok (.iload 6, 2) := by decide +kernel
theorem dS_search_81 : decode bS_search 81 = .ok (.ishl, 1) := by decide +kernel
theorem dS_search_82 : decode bS_search 82 = .ok (.ixor, 1) := by decide +kernel
theorem dS_search_83 : decode bS_search 83 = .ok (.istore 4, 2) := by decide +kernel
theorem dS_search_85 : decode bS_search 85 = .ok (.iinc 5 1, 3) := by decide +kernel
theorem dS_search_88 : decode bS_search 88 = .ok (.goto (-37), 3) := by decide +kernel
theorem dS_search_91 : decode bS_search 91 = .ok (.aload_n 3, 1) := by decide +kernel
theorem dS_search_92 : decode bS_search 92 = .ok (.areturn, 1) := by decide +kernel
theorem dS_makeRoom_0 : decode bS_makeRoom 0 = .ok (.iconst 1, 1) := by decide +kernel
theorem dS_makeRoom_1 : decode bS_makeRoom 1 = .ok (.aload_n 0, 1) := by decide +kernel
theorem dS_makeRoom_2 : decode bS_makeRoom 2 = .ok (.getfield 9, 3) := by decide +kernel
theorem dS_makeRoom_5 : decode bS_makeRoom 5 = .ok (.ishl, 1) := by decide +kernel
theorem dS_makeRoom_6 : decode bS_makeRoom 6 = .ok (.istore_n 1, 1) := by decide +kernel
theorem dS_makeRoom_7 : decode bS_makeRoom 7 = .ok (.aload_n 0, 1) := by decide +kernel
theorem dS_makeRoom_8 : decode bS_makeRoom 8 = .ok (.getfield 32, 3) := by decide +kernel
theorem dS_makeRoom_11 : decode bS_makeRoom 11 = .ok (.arraylength, 1) := by decide +kernel
theorem dS_makeRoom_12 : decode bS_makeRoom 12 = .ok (.iload_n 1, 1) := by decide +kernel
theorem dS_makeRoom_13 : decode bS_makeRoom 13 = .ok (.if_icmp .ge 17, 3) := by decide +kernel
theorem dS_makeRoom_16 : decode bS_makeRoom 16 = .ok (.aload_n 0, 1) := by decide +kernel
theorem dS_makeRoom_17 : decode bS_makeRoom 17 = .ok (.iload_n 1, 1) := by decide +kernel
theorem dS_makeRoom_18 : decode bS_makeRoom 18 = .ok (.newarray .int, 2) := by decide +kernel
theorem dS_makeRoom_20 : decode bS_makeRoom 20 = .ok (.putfield 32, 3) := by decide +kernel
theorem dS_makeRoom_23 : decode bS_makeRoom 23 = .ok (.aload_n 0, 1) := by decide +kernel
theorem dS_makeRoom_24 : decode bS_makeRoom 24 = .ok (.iload_n 1, 1) := by decide +kernel
theorem dS_makeRoom_25 : decode bS_makeRoom 25 = .ok (.newarray .int, 2) := by decide +kernel
theorem dS_makeRoom_27 : decode bS_makeRoom 27 = .ok (.putfield 35, 3) := by decide +kernel
theorem dS_makeRoom_30 : decode bS_makeRoom 30 = .ok (.return_, 1) := by decide +kernel
theorem dS_wantedSteps_0 : decode bS_wantedSteps 0 = .ok (.iconst 1, 1) := by decide +kernel
theorem dS_wantedSteps_1 : decode bS_wantedSteps 1 = .ok (.aload_n 0, 1) := by decide +kernel
theorem dS_wantedSteps_2 : decode bS_wantedSteps 2 = .ok (.getfield 9, 3) := by decide +kernel
theorem dS_wantedSteps_5 : decode bS_wantedSteps 5 = .ok (.iconst 1, 1) := by decide +kernel
theorem dS_wantedSteps_6 : decode bS_wantedSteps 6 = .ok (.isub, 1) := by decide +kernel
theorem dS_wantedSteps_7 : decode bS_wantedSteps 7 = .ok (.ishl, 1) := by decide +kernel
theorem dS_wantedSteps_8 : decode bS_wantedSteps 8 = .ok (.istore_n 1, 1) := by decide +kernel
theorem dS_wantedSteps_9 : decode bS_wantedSteps 9 = .ok (.aload_n 0, 1) := by decide +kernel
theorem dS_wantedSteps_10 : decode bS_wantedSteps 10 = .ok (.getfield 9, 3) := by decide +kernel
theorem dS_wantedSteps_13 : decode bS_wantedSteps 13 = .ok (.iconst 1, 1) := by decide +kernel
theorem dS_wantedSteps_14 : decode bS_wantedSteps 14 = .ok (.isub, 1) := by decide +kernel
theorem dS_wantedSteps_15 : decode bS_wantedSteps 15 = .ok (.istore_n 2, 1) := by decide +kernel
theorem dS_wantedSteps_16 : decode bS_wantedSteps 16 = .ok (.iload_n 2, 1) := by decide +kernel
theorem dS_wantedSteps_17 : decode bS_wantedSteps 17 = .ok (.ifCond .lt 27, 3) := by decide +kernel
theorem dS_wantedSteps_20 : decode bS_wantedSteps 20 = .ok (.iload_n 1, 1) := by decide +kernel
theorem dS_wantedSteps_21 : decode bS_wantedSteps 21 = .ok (.iload_n 2, 1) := by decide +kernel
theorem dS_wantedSteps_22 : decode bS_wantedSteps 22 = .ok (.ishr, 1) := by decide +kernel
theorem dS_wantedSteps_23 : decode bS_wantedSteps 23 = .ok (.iconst 1, 1) := by decide +kernel
theorem dS_wantedSteps_24 : decode bS_wantedSteps 24 = .ok (.iand, 1) := by decide +kernel
theorem dS_wantedSteps_25 : decode bS_wantedSteps 25 = .ok (.iconst 1, 1) := by decide +kernel
theorem dS_wantedSteps_26 : decode bS_wantedSteps 26 = .ok (.if_icmp .ne 12, 3) := by decide +kernel
theorem dS_wantedSteps_29 : decode bS_wantedSteps 29 = .ok (.iload_n 1, 1) := by decide +kernel
theorem dS_wantedSteps_30 : decode bS_wantedSteps 30 = .ok (.aload_n 0, 1) := by decide +kernel
theorem dS_wantedSteps_31 : decode bS_wantedSteps 31 = .ok (.getfield 15, 3) := by decide +kernel
theorem dS_wantedSteps_34 : decode bS_wantedSteps 34 = .ok (.iload_n 2, 1) := by decide +kernel
theorem dS_wantedSteps_35 : decode bS_wantedSteps 35 = .ok (.iaload, 1) := by decide +kernel
theorem dS_wantedSteps_36 : decode bS_wantedSteps 36 = .ok (.ior, 1) := by decide +kernel
theorem dS_wantedSteps_37 : decode bS_wantedSteps 37 = .ok (.istore_n 1, 1) := by decide +kernel
theorem dS_wantedSteps_38 : decode bS_wantedSteps 38 = .ok (.iinc 2 (-1), 3) := by decide +kernel
theorem dS_wantedSteps_41 : decode bS_wantedSteps 41 = .ok (.goto (-25), 3) := by decide +kernel
theorem dS_wantedSteps_44 : decode bS_wantedSteps 44 = .ok (.iload_n 1, 1) := by decide +kernel
theorem dS_wantedSteps_45 : decode bS_wantedSteps 45 = .ok (.ireturn, 1) := by decide +kernel
theorem dS_spreadFromGoal_0 : decode bS_spreadFromGoal 0 = .ok (.iconst 0, 1) := by decide +kernel
theorem dS_spreadFromGoal_1 : decode bS_spreadFromGoal 1 = .ok (.istore_n 3, 1) := by decide +kernel
theorem dS_spreadFromGoal_2 : decode bS_spreadFromGoal 2 = .ok (.iload_n 3, 1) := by decide +kernel
theorem dS_spreadFromGoal_3 : decode bS_spreadFromGoal 3 = .ok (.iconst 1, 1) := by decide +kernel
theorem dS_spreadFromGoal_4 : decode bS_spreadFromGoal 4 = .ok (.aload_n 0, 1) := by decide +kernel
theorem dS_spreadFromGoal_5 : decode bS_spreadFromGoal 5 = .ok (.getfield 9, 3) := by decide +kernel
theorem dS_spreadFromGoal_8 : decode bS_spreadFromGoal 8 = .ok (.ishl, 1) := by decide +kernel
theorem dS_spreadFromGoal_9 : decode bS_spreadFromGoal 9 = .ok (.if_icmp .ge 16, 3) := by decide +kernel
theorem dS_spreadFromGoal_12 : decode bS_spreadFromGoal 12 = .ok (.aload_n 0, 1) := by decide +kernel
theorem dS_spreadFromGoal_13 : decode bS_spreadFromGoal 13 = .ok (.getfield 32, 3) := by decide +kernel
theorem dS_spreadFromGoal_16 : decode bS_spreadFromGoal 16 = .ok (.iload_n 3, 1) := by decide +kernel
theorem dS_spreadFromGoal_17 : decode bS_spreadFromGoal 17 = .ok (.iconst 0, 1) := by decide +kernel
theorem dS_spreadFromGoal_18 : decode bS_spreadFromGoal 18 = .ok (.iastore, 1) := by decide +kernel
theorem dS_spreadFromGoal_19 : decode bS_spreadFromGoal 19 = .ok (.iinc 3 1, 3) := by decide +kernel
theorem dS_spreadFromGoal_22 : decode bS_spreadFromGoal 22 = .ok (.goto (-20), 3) := by decide +kernel
theorem dS_spreadFromGoal_25 : decode bS_spreadFromGoal 25 = .ok (.aload_n 0, 1) := by decide +kernel
theorem dS_spreadFromGoal_26 : decode bS_spreadFromGoal 26 = .ok (.iconst 0, 1) := by decide +kernel
theorem dS_spreadFromGoal_27 : decode bS_spreadFromGoal 27 = .ok (.putfield 86, 3) := by decide +kernel
theorem dS_spreadFromGoal_30 : decode bS_spreadFromGoal 30 = .ok (.aload_n 0, 1) := by decide +kernel
theorem dS_spreadFromGoal_31 : decode bS_spreadFromGoal 31 = .ok (.iconst 1, 1) := by decide +kernel
theorem dS_spreadFromGoal_32 : decode bS_spreadFromGoal 32 = .ok (.aload_n 0, 1) := by decide +kernel
theorem dS_spreadFromGoal_33 : decode bS_spreadFromGoal 33 = .ok (.getfield 9, 3) := by decide +kernel
theorem dS_spreadFromGoal_36 : decode bS_spreadFromGoal 36 = .ok (.iconst 1, 1) := by decide +kernel
theorem dS_spreadFromGoal_37 : decode bS_spreadFromGoal 37 = .ok (.isub, 1) := by decide +kernel
theorem dS_spreadFromGoal_38 : decode bS_spreadFromGoal 38 = .ok (.ishl, 1) := by decide +kernel
theorem dS_spreadFromGoal_39 : decode bS_spreadFromGoal 39 = .ok (.iconst 1, 1) := by decide +kernel
theorem dS_spreadFromGoal_40 : decode bS_spreadFromGoal 40 = .ok (.invokevirtual 89, 3) := by decide +kernel
theorem dS_spreadFromGoal_43 : decode bS_spreadFromGoal 43 = .ok (.iconst 0, 1) := by decide +kernel
theorem dS_spreadFromGoal_44 : decode bS_spreadFromGoal 44 = .ok (.istore_n 3, 1) := by decide +kernel
theorem dS_spreadFromGoal_45 : decode bS_spreadFromGoal 45 = .ok (.iload_n 3, 1) := by decide +kernel
theorem dS_spreadFromGoal_46 : decode bS_spreadFromGoal 46 = .ok (.sipush 4096, 3) := by decide +kernel
theorem dS_spreadFromGoal_49 : decode bS_spreadFromGoal 49 = .ok (.if_icmp .ge 38, 3) := by decide +kernel
theorem dS_spreadFromGoal_52 : decode bS_spreadFromGoal 52 = .ok (.iload_n 3, 1) := by decide +kernel
theorem dS_spreadFromGoal_53 : decode bS_spreadFromGoal 53 = .ok (.aload_n 0, 1) := by decide +kernel
theorem dS_spreadFromGoal_54 : decode bS_spreadFromGoal 54 = .ok (.getfield 86, 3) := by decide +kernel
theorem dS_spreadFromGoal_57 : decode bS_spreadFromGoal 57 = .ok (.if_icmp .ge 30, 3) := by decide +kernel
theorem dS_spreadFromGoal_60 : decode bS_spreadFromGoal 60 = .ok (.aload_n 0, 1) := by decide +kernel
theorem dS_spreadFromGoal_61 : decode bS_spreadFromGoal 61 = .ok (.getfield 32, 3) := by decide +kernel
theorem dS_spreadFromGoal_64 : decode bS_spreadFromGoal 64 = .ok (.iconst 0, 1) := by decide +kernel
theorem dS_spreadFromGoal_65 : decode bS_spreadFromGoal 65 = .ok (.iaload, 1) := by decide +kernel
theorem dS_spreadFromGoal_66 : decode bS_spreadFromGoal 66 = .ok (.ifCond .ne 21, 3) := by decide +kernel
theorem dS_spreadFromGoal_69 : decode bS_spreadFromGoal 69 = .ok (.aload_n 0, 1) := by decide +kernel
theorem dS_spreadFromGoal_70 : decode bS_spreadFromGoal 70 = .ok (.aload_n 0, 1) := by decide +kernel
theorem dS_spreadFromGoal_71 : decode bS_spreadFromGoal 71 = .ok (.getfield 35, 3) := by decide +kernel
theorem dS_spreadFromGoal_74 : decode bS_spreadFromGoal 74 = .ok (.iload_n 3, 1) := by decide +kernel
theorem dS_spreadFromGoal_75 : decode bS_spreadFromGoal 75 = .ok (.iaload, 1) := by decide +kernel
theorem dS_spreadFromGoal_76 : decode bS_spreadFromGoal 76 = .ok (.iload_n 1, 1) := by decide +kernel
theorem dS_spreadFromGoal_77 : decode bS_spreadFromGoal 77 = .ok (.iload_n 2, 1) := by decide +kernel
theorem dS_spreadFromGoal_78 : decode bS_spreadFromGoal 78 = .ok (.invokevirtual 92, 3) := by decide +kernel
theorem dS_spreadFromGoal_81 : decode bS_spreadFromGoal 81 = .ok (.iinc 3 1, 3) := by decide +kernel
theorem dS_spreadFromGoal_84 : decode bS_spreadFromGoal 84 = .ok (.goto (-39), 3) := by decide +kernel
theorem dS_spreadFromGoal_87 : decode bS_spreadFromGoal 87 = .ok (.return_, 1) := by decide +kernel
theorem dS_enter_0 : decode bS_enter 0 = .ok (.aload_n 0, 1) := by decide +kernel
theorem dS_enter_1 : decode bS_enter 1 = .ok (.getfield 86, 3) := by decide +kernel
theorem dS_enter_4 : decode bS_enter 4 = .ok (.aload_n 0, 1) := by decide +kernel
theorem dS_enter_5 : decode bS_enter 5 = .ok (.getfield 35, 3) := by decide +kernel
theorem dS_enter_8 : decode bS_enter 8 = .ok (.arraylength, 1) := by decide +kernel
theorem dS_enter_9 : decode bS_enter 9 = .ok (.if_icmp .ge 30, 3) := by decide +kernel
theorem dS_enter_12 : decode bS_enter 12 = .ok (.aload_n 0, 1) := by decide +kernel
theorem dS_enter_13 : decode bS_enter 13 = .ok (.getfield 32, 3) := by decide +kernel
theorem dS_enter_16 : decode bS_enter 16 = .ok (.iload_n 1, 1) := by decide +kernel
theorem dS_enter_17 : decode bS_enter 17 = .ok (.iload_n 2, 1) := by decide +kernel
theorem dS_enter_18 : decode bS_enter 18 = .ok (.iastore, 1) := by decide +kernel
theorem dS_enter_19 : decode bS_enter 19 = .ok (.aload_n 0, 1) := by decide +kernel
theorem dS_enter_20 : decode bS_enter 20 = .ok (.getfield 35, 3) := by decide +kernel
theorem dS_enter_23 : decode bS_enter 23 = .ok (.aload_n 0, 1) := by decide +kernel
theorem dS_enter_24 : decode bS_enter 24 = .ok (.getfield 86, 3) := by decide +kernel
theorem dS_enter_27 : decode bS_enter 27 = .ok (.iload_n 1, 1) := by decide +kernel
theorem dS_enter_28 : decode bS_enter 28 = .ok (.iastore, 1) := by decide +kernel
theorem dS_enter_29 : decode bS_enter 29 = .ok (.aload_n 0, 1) := by decide +kernel
theorem dS_enter_30 : decode bS_enter 30 = .ok (.dup, 1) := by decide +kernel
theorem dS_enter_31 : decode bS_enter 31 = .ok (.getfield 86, 3) := by decide +kernel
theorem dS_enter_34 : decode bS_enter 34 = .ok (.iconst 1, 1) := by decide +kernel
theorem dS_enter_35 : decode bS_enter 35 = .ok (.iadd, 1) := by decide +kernel
theorem dS_enter_36 : decode bS_enter 36 = .ok (.putfield 86, 3) := by decide +kernel
theorem dS_enter_39 : decode bS_enter 39 = .ok (.return_, 1) := by decide +kernel
theorem dS_spreadFrom_0 : decode bS_spreadFrom 0 = .ok (.aload_n 0, 1) := by decide +kernel
theorem dS_spreadFrom_1 : decode bS_spreadFrom 1 = .ok (.getfield 32, 3) := by decide +kernel
theorem dS_spreadFrom_4 : decode bS_spreadFrom 4 = .ok (.iload_n 1, 1) := by decide +kernel
theorem dS_spreadFrom_5 : decode bS_spreadFrom 5 = .ok (.iaload, 1) := by decide +kernel
theorem dS_spreadFrom_6 : decode bS_spreadFrom 6 = .ok (.iconst 1, 1) := by decide +kernel
theorem dS_spreadFrom_7 : decode bS_spreadFrom 7 = .ok (.iadd, 1) := by decide +kernel
theorem dS_spreadFrom_8 : decode bS_spreadFrom 8 = .ok (.istore 4, 2) := by decide +kernel
theorem dS_spreadFrom_10 : decode bS_spreadFrom 10 = .ok (.iload_n 1, 1) := by decide +kernel
theorem dS_spreadFrom_11 : decode bS_spreadFrom 11 = .ok (.invokestatic 67, 3) := by decide +kernel
theorem dS_spreadFrom_14 : decode bS_spreadFrom 14 = .ok (.iload_n 3, 1) := by decide +kernel
theorem dS_spreadFrom_15 : decode bS_spreadFrom 15 = .ok (.if_icmp .ge 7, 3) := by decide +kernel
theorem dS_spreadFrom_18 : decode bS_spreadFrom 18 = .ok (.iload_n 2, 1) := by decide +kernel
theorem dS_spreadFrom_19 : decode bS_spreadFrom 19 = .ok (.goto 6, 3) := by decide +kernel
theorem dS_spreadFrom_22 : decode bS_spreadFrom 22 = .ok (.iload_n 2, 1) := by decide +kernel
theorem dS_spreadFrom_23 : decode bS_spreadFrom 23 = .ok (.iload_n 1, 1) := by decide +kernel
theorem dS_spreadFrom_24 : decode bS_spreadFrom 24 = .ok (.iand, 1) := by decide +kernel
theorem dS_spreadFrom_25 : decode bS_spreadFrom 25 = .ok (.istore 5, 2) := by decide +kernel
theorem dS_spreadFrom_27 : decode bS_spreadFrom 27 = .ok (.iconst 0, 1) := by decide +kernel
theorem dS_spreadFrom_28 : decode bS_spreadFrom 28 = .ok (.istore 6, 2) := by decide +kernel
theorem dS_spreadFrom_30 : decode bS_spreadFrom 30 = .ok (.iload 6, 2) := by decide +kernel
theorem dS_spreadFrom_32 : decode bS_spreadFrom 32 = .ok (.aload_n 0, 1) := by decide +kernel
theorem dS_spreadFrom_33 : decode bS_spreadFrom 33 = .ok (.getfield 9, 3) := by decide +kernel
theorem dS_spreadFrom_36 : decode bS_spreadFrom 36 = .ok (.if_icmp .ge 64, 3) := by decide +kernel
theorem dS_spreadFrom_39 : decode bS_spreadFrom 39 = .ok (.iload 5, 2) := by decide +kernel
theorem dS_spreadFrom_41 : decode bS_spreadFrom 41 = .ok (.iload 6, 2) := by decide +kernel
theorem dS_spreadFrom_43 : decode bS_spreadFrom 43 = .ok (.ishr, 1) := by decide +kernel
theorem dS_spreadFrom_44 : decode bS_spreadFrom 44 = .ok (.iconst 1, 1) := by decide +kernel
theorem dS_spreadFrom_45 : decode bS_spreadFrom 45 = .ok (.iand, 1) := by decide +kernel
theorem dS_spreadFrom_46 : decode bS_spreadFrom 46 = .ok (.iconst 1, 1) := by decide +kernel
theorem dS_spreadFrom_47 : decode bS_spreadFrom 47 = .ok (.if_icmp .ne 47, 3) := by decide +kernel
theorem dS_spreadFrom_50 : decode bS_spreadFrom 50 = .ok (.aload_n 0, 1) := by decide +kernel
theorem dS_spreadFrom_51 : decode bS_spreadFrom 51 = .ok (.getfield 15, 3) := by decide +kernel
theorem dS_spreadFrom_54 : decode bS_spreadFrom 54 = .ok (.iload 6, 2) := by decide +kernel
theorem dS_spreadFrom_56 : decode bS_spreadFrom 56 = .ok (.iaload, 1) := by decide +kernel
theorem dS_spreadFrom_57 : decode bS_spreadFrom 57 = .ok (.istore 7, 2) := by decide +kernel
theorem dS_spreadFrom_59 : decode bS_spreadFrom 59 = .ok (.iload_n 1, 1) := by decide +kernel
theorem dS_spreadFrom_60 : decode bS_spreadFrom 60 = .ok (.iconst 1, 1) := by decide +kernel
theorem dS_spreadFrom_61 : decode bS_spreadFrom 61 = .ok (.iload 6, 2) := by decide +kernel
theorem dS_spreadFrom_63 : decode bS_spreadFrom 63 = .ok (.ishl, 1) := by decide +kernel
theorem dS_spreadFrom_64 : decode bS_spreadFrom 64 = .ok (.ixor, 1) := by decide +kernel
theorem dS_spreadFrom_65 : decode bS_spreadFrom 65 = .ok (.istore 8, 2) := by decide +kernel
theorem dS_spreadFrom_67 : decode bS_spreadFrom 67 = .ok (.iload_n 1, 1) := by decide +kernel
theorem dS_spreadFrom_68 : decode bS_spreadFrom 68 = .ok (.iload 7, 2) := by decide +kernel
theorem dS_spreadFrom_70 : decode bS_spreadFrom 70 = .ok (.iand, 1) := by decide +kernel
theorem dS_spreadFrom_71 : decode bS_spreadFrom 71 = .ok (.iload 7, 2) := by decide +kernel
theorem dS_spreadFrom_73 : decode bS_spreadFrom 73 = .ok (.if_icmp .ne 21, 3) := by decide +kernel
theorem dS_spreadFrom_76 : decode bS_spreadFrom 76 = .ok (.aload_n 0, 1) := by decide +kernel
theorem dS_spreadFrom_77 : decode bS_spreadFrom 77 = .ok (.getfield 32, 3) := by decide +kernel
theorem dS_spreadFrom_80 : decode bS_spreadFrom 80 = .ok (.iload 8, 2) := by decide +kernel
theorem dS_spreadFrom_82 : decode bS_spreadFrom 82 = .ok (.iaload, 1) := by decide +kernel
theorem dS_spreadFrom_83 : decode bS_spreadFrom 83 = .ok (.ifCond .ne 11, 3) := by decide +kernel
theorem dS_spreadFrom_86 : decode bS_spreadFrom 86 = .ok (.aload_n 0, 1) := by decide +kernel
theorem dS_spreadFrom_87 : decode bS_spreadFrom 87 = .ok (.iload 8, 2) := by decide +kernel
theorem dS_spreadFrom_89 : decode bS_spreadFrom 89 = .ok (.iload 4, 2) := by decide +kernel
theorem dS_spreadFrom_91 : decode bS_spreadFrom 91 = .ok (.invokevirtual 89, 3) := by decide +kernel
theorem dS_spreadFrom_94 : decode bS_spreadFrom 94 = .ok (.iinc 6 1, 3) := by decide +kernel
theorem dS_spreadFrom_97 : decode bS_spreadFrom 97 = .ok (.goto (-67), 3) := by decide +kernel
theorem dS_spreadFrom_100 : decode bS_spreadFrom 100 = .ok (.return_, 1) := by decide +kernel
theorem dS_firstStepNearer_0 : decode bS_firstStepNearer 0 = .ok (.aload_n 0, 1) := by decide +kernel
theorem dS_firstStepNearer_1 : decode bS_firstStepNearer 1 = .ok (.getfield 32, 3) := by decide +kernel
theorem dS_firstStepNearer_4 : decode bS_firstStepNearer 4 = .ok (.iload_n 1, 1) := by decide +kernel
theorem dS_firstStepNearer_5 : decode bS_firstStepNearer 5 = .ok (.iaload, 1) := by decide +kernel
theorem dS_firstStepNearer_6 : decode bS_firstStepNearer 6 = .ok (.iconst 1, 1) := by decide +kernel
theorem dS_firstStepNearer_7 : decode bS_firstStepNearer 7 = .ok (.isub, 1) := by decide +kernel
theorem dS_firstStepNearer_8 : decode bS_firstStepNearer 8 = .ok (.istore_n 2, 1) := by decide +kernel
theorem dS_firstStepNearer_9 : decode bS_firstStepNearer 9 = .ok (.iconst 0, 1) := by decide +kernel
theorem dS_firstStepNearer_10 : decode bS_firstStepNearer 10 = .ok (.istore_n 3, 1) := by decide +kernel
theorem dS_firstStepNearer_11 : decode bS_firstStepNearer 11 = .ok (.iload_n 3, 1) := by decide +kernel
theorem dS_firstStepNearer_12 : decode bS_firstStepNearer 12 = .ok (.aload_n 0, 1) := by decide +kernel
theorem dS_firstStepNearer_13 : decode bS_firstStepNearer 13 = .ok (.getfield 9, 3) := by decide +kernel
theorem dS_firstStepNearer_16 : decode bS_firstStepNearer 16 = .ok (.if_icmp .ge 42, 3) := by decide +kernel
theorem dS_firstStepNearer_19 : decode bS_firstStepNearer 19 = .ok (.aload_n 0, 1) := by decide +kernel
theorem dS_firstStepNearer_20 : decode bS_firstStepNearer 20 = .ok (.getfield 15, 3) := by decide +kernel
theorem dS_firstStepNearer_23 : decode bS_firstStepNearer 23 = .ok (.iload_n 3, 1) := by decide +kernel
theorem dS_firstStepNearer_24 : decode bS_firstStepNearer 24 = .ok (.iaload, 1) := by decide +kernel
theorem dS_firstStepNearer_25 : decode bS_firstStepNearer 25 = .ok (.istore 4, 2) := by decide +kernel
theorem dS_firstStepNearer_27 : decode bS_firstStepNearer 27 = .ok (.iload_n 1, 1) := by decide +kernel
theorem dS_firstStepNearer_28 : decode bS_firstStepNearer 28 = .ok (.iload 4, 2) := by decide +kernel
theorem dS_firstStepNearer_30 : decode bS_firstStepNearer 30 = .ok (.iand, 1) := by decide +kernel
theorem dS_firstStepNearer_31 : decode bS_firstStepNearer 31 = .ok (.iload 4, 2) := by decide +kernel
theorem dS_firstStepNearer_33 : decode bS_firstStepNearer 33 = .ok (.if_icmp .ne 19, 3) := by decide +kernel
theorem dS_firstStepNearer_36 : decode bS_firstStepNearer 36 = .ok (.aload_n 0, 1) := by decide +kernel
theorem dS_firstStepNearer_37 : decode bS_firstStepNearer 37 = .ok (.getfield 32, 3) := by decide +kernel
theorem dS_firstStepNearer_40 : decode bS_firstStepNearer 40 = .ok (.iload_n 1, 1) := by decide +kernel
theorem dS_firstStepNearer_41 : decode bS_firstStepNearer 41 = .ok (.iconst 1, 1) := by decide +kernel
theorem dS_firstStepNearer_42 : decode bS_firstStepNearer 42 = .ok (.iload_n 3, 1) := by decide +kernel
theorem dS_firstStepNearer_43 : decode bS_firstStepNearer 43 = .ok (.ishl, 1) := by decide +kernel
theorem dS_firstStepNearer_44 : decode bS_firstStepNearer 44 = .ok (.ixor, 1) := by decide +kernel
theorem dS_firstStepNearer_45 : decode bS_firstStepNearer 45 = .ok (.iaload, 1) := by decide +kernel
theorem dS_firstStepNearer_46 : decode bS_firstStepNearer 46 = .ok (.iload_n 2, 1) := by decide +kernel
theorem dS_firstStepNearer_47 : decode bS_firstStepNearer 47 = .ok (.if_icmp .ne 5, 3) := by decide +kernel
theorem dS_firstStepNearer_50 : decode bS_firstStepNearer 50 = .ok (.iload_n 3, 1) := by decide +kernel
theorem dS_firstStepNearer_51 : decode bS_firstStepNearer 51 = .ok (.ireturn, 1) := by decide +kernel
theorem dS_firstStepNearer_52 : decode bS_firstStepNearer 52 = .ok (.iinc 3 1, 3) := by decide +kernel
theorem dS_firstStepNearer_55 : decode bS_firstStepNearer 55 = .ok (.goto (-44), 3) := by decide +kernel
theorem dS_firstStepNearer_58 : decode bS_firstStepNearer 58 = .ok (.iconst 0, 1) := by decide +kernel
theorem dS_firstStepNearer_59 : decode bS_firstStepNearer 59 = .ok (.ireturn, 1) := by decide +kernel
theorem dS_fewestMarks_0 : decode bS_fewestMarks 0 = .ok (.aload_n 0, 1) := by decide +kernel
theorem dS_fewestMarks_1 : decode bS_fewestMarks 1 = .ok (.invokevirtual 41, 3) := by decide +kernel
theorem dS_fewestMarks_4 : decode bS_fewestMarks 4 = .ok (.istore_n 1, 1) := by decide +kernel
theorem dS_fewestMarks_5 : decode bS_fewestMarks 5 = .ok (.iload_n 1, 1) := by decide +kernel
theorem dS_fewestMarks_6 : decode bS_fewestMarks 6 = .ok (.aload_n 0, 1) := by decide +kernel
theorem dS_fewestMarks_7 : decode bS_fewestMarks 7 = .ok (.getfield 9, 3) := by decide +kernel
theorem dS_fewestMarks_10 : decode bS_fewestMarks 10 = .ok (.if_icmp .ge 22, 3) := by decide +kernel
theorem dS_fewestMarks_13 : decode bS_fewestMarks 13 = .ok (.aload_n 0, 1) := by decide +kernel
theorem dS_fewestMarks_14 : decode bS_fewestMarks 14 = .ok (.iload_n 1, 1) := by decide +kernel
theorem dS_fewestMarks_15 : decode bS_fewestMarks 15 = .ok (.invokevirtual 45, 3) := by decide +kernel
theorem dS_fewestMarks_18 : decode bS_fewestMarks 18 = .ok (.invokevirtual 49, 3) := by decide +kernel
theorem dS_fewestMarks_21 : decode bS_fewestMarks 21 = .ok (.ifCond .le 5, 3) := by decide +kernel
theorem dS_fewestMarks_24 : decode bS_fewestMarks 24 = .ok (.iload_n 1, 1) := by decide +kernel
theorem dS_fewestMarks_25 : decode bS_fewestMarks 25 = .ok (.ireturn, 1) := by decide +kernel
theorem dS_fewestMarks_26 : decode bS_fewestMarks 26 = .ok (.iinc 1 1, 3) := by decide +kernel
theorem dS_fewestMarks_29 : decode bS_fewestMarks 29 = .ok (.goto (-24), 3) := by decide +kernel
theorem dS_fewestMarks_32 : decode bS_fewestMarks 32 = .ok (.aload_n 0, 1) := by decide +kernel
theorem dS_fewestMarks_33 : decode bS_fewestMarks 33 = .ok (.getfield 9, 3) := by decide +kernel
theorem dS_fewestMarks_36 : decode bS_fewestMarks 36 = .ok (.ireturn, 1) := by decide +kernel
theorem dS_fewestThinkable_0 : decode bS_fewestThinkable 0 = .ok (.aload_n 0, 1) := by decide +kernel
theorem dS_fewestThinkable_1 : decode bS_fewestThinkable 1 = .ok (.invokevirtual 64, 3) := by decide +kernel
theorem dS_fewestThinkable_4 : decode bS_fewestThinkable 4 = .ok (.istore_n 1, 1) := by decide +kernel
theorem dS_fewestThinkable_5 : decode bS_fewestThinkable 5 = .ok (.iconst 1, 1) := by decide +kernel
theorem dS_fewestThinkable_6 : decode bS_fewestThinkable 6 = .ok (.istore_n 2, 1) := by decide +kernel
theorem dS_fewestThinkable_7 : decode bS_fewestThinkable 7 = .ok (.iconst 0, 1) := by decide +kernel
theorem dS_fewestThinkable_8 : decode bS_fewestThinkable 8 = .ok (.istore_n 3, 1) := by decide +kernel
theorem dS_fewestThinkable_9 : decode bS_fewestThinkable 9 = .ok (.iload_n 3, 1) := by decide +kernel
theorem dS_fewestThinkable_10 : decode bS_fewestThinkable 10 = .ok (.aload_n 0, 1) := by decide +kernel
theorem dS_fewestThinkable_11 : decode bS_fewestThinkable 11 = .ok (.getfield 9, 3) := by decide +kernel
theorem dS_fewestThinkable_14 : decode bS_fewestThinkable 14 = .ok (.if_icmp .ge 34, 3) := by decide +kernel
theorem dS_fewestThinkable_17 : decode bS_fewestThinkable 17 = .ok (.iload_n 1, 1) := by decide +kernel
theorem dS_fewestThinkable_18 : decode bS_fewestThinkable 18 = .ok (.iload_n 3, 1) := by decide +kernel
theorem dS_fewestThinkable_19 : decode bS_fewestThinkable 19 = .ok (.ishr, 1) := by decide +kernel
theorem dS_fewestThinkable_20 : decode bS_fewestThinkable 20 = .ok (.iconst 1, 1) := by decide +kernel
theorem dS_fewestThinkable_21 : decode bS_fewestThinkable 21 = .ok (.iand, 1) := by decide +kernel
theorem dS_fewestThinkable_22 : decode bS_fewestThinkable 22 = .ok (.iconst 1, 1) := by decide +kernel
theorem dS_fewestThinkable_23 : decode bS_fewestThinkable 23 = .ok (.if_icmp .ne 19, 3) := by decide +kernel
theorem dS_fewestThinkable_26 : decode bS_fewestThinkable 26 = .ok (.iload_n 2, 1) := by decide +kernel
theorem dS_fewestThinkable_27 : decode bS_fewestThinkable 27 = .ok (.iconst 1, 1) := by decide +kernel
theorem dS_fewestThinkable_28 : decode bS_fewestThinkable 28 = .ok (.aload_n 0, 1) := by decide +kernel
theorem dS_fewestThinkable_29 : decode bS_fewestThinkable 29 = .ok (.getfield 15, 3) := by decide +kernel
theorem dS_fewestThinkable_32 : decode bS_fewestThinkable 32 = .ok (.iload_n 3, 1) := by decide +kernel
theorem dS_fewestThinkable_33 : decode bS_fewestThinkable 33 = .ok (.iaload, 1) := by decide +kernel
theorem dS_fewestThinkable_34 : decode bS_fewestThinkable 34 = .ok (.invokestatic 67, 3) := by decide +kernel
theorem dS_fewestThinkable_37 : decode bS_fewestThinkable 37 = .ok (.iadd, 1) := by decide +kernel
theorem dS_fewestThinkable_38 : decode bS_fewestThinkable 38 = .ok (.invokestatic 58, 3) := by decide +kernel
theorem dS_fewestThinkable_41 : decode bS_fewestThinkable 41 = .ok (.istore_n 2, 1) := by decide +kernel
theorem dS_fewestThinkable_42 : decode bS_fewestThinkable 42 = .ok (.iinc 3 1, 3) := by decide +kernel
theorem dS_fewestThinkable_45 : decode bS_fewestThinkable 45 = .ok (.goto (-36), 3) := by decide +kernel
theorem dS_fewestThinkable_48 : decode bS_fewestThinkable 48 = .ok (.iload_n 2, 1) := by decide +kernel
theorem dS_fewestThinkable_49 : decode bS_fewestThinkable 49 = .ok (.ireturn, 1) := by decide +kernel
theorem dS_count_0 : decode bS_count 0 = .ok (.aload_n 0, 1) := by decide +kernel
theorem dS_count_1 : decode bS_count 1 = .ok (.getfield 9, 3) := by decide +kernel
theorem dS_count_4 : decode bS_count 4 = .ok (.ireturn, 1) := by decide +kernel
end
section
theorem dR_init_0 : decode bR_init 0 = .ok (.aload_n 0, 1) := by decide +kernel
theorem dR_init_1 : decode bR_init 1 = .ok (.invokespecial 1, 3) := by decide +kernel
theorem dR_init_4 : decode bR_init 4 = .ok (.aload_n 0, 1) := by decide +kernel
theorem dR_init_5 : decode bR_init 5 = .ok (.new 7, 3) := by decide +kernel
theorem dR_init_8 : decode bR_init 8 = .ok (.dup, 1) := by decide +kernel
theorem dR_init_9 : decode bR_init 9 = .ok (.invokespecial 9, 3) := by decide +kernel
theorem dR_init_12 : decode bR_init 12 = .ok (.putfield 10, 3) := by decide +kernel
theorem dR_init_15 : decode bR_init 15 = .ok (.aload_n 0, 1) := by decide +kernel
theorem dR_init_16 : decode bR_init 16 = .ok (.new 16, 3) := by decide +kernel
theorem dR_init_19 : decode bR_init 19 = .ok (.dup, 1) := by decide +kernel
theorem dR_init_20 : decode bR_init 20 = .ok (.invokespecial 18, 3) := by decide +kernel
theorem dR_init_23 : decode bR_init 23 = .ok (.putfield 19, 3) := by decide +kernel
theorem dR_init_26 : decode bR_init 26 = .ok (.aload_n 0, 1) := by decide +kernel
theorem dR_init_27 : decode bR_init 27 = .ok (.new 23, 3) := by decide +kernel
theorem dR_init_30 : decode bR_init 30 = .ok (.dup, 1) := by decide +kernel
theorem dR_init_31 : decode bR_init 31 = .ok (.invokespecial 25, 3) := by decide +kernel
theorem dR_init_34 : decode bR_init 34 = .ok (.putfield 26, 3) := by decide +kernel
theorem dR_init_37 : decode bR_init 37 = .ok (.return_, 1) := by decide +kernel
theorem dR_begin_0 : decode bR_begin 0 = .ok (.aload_n 0, 1) := by decide +kernel
theorem dR_begin_1 : decode bR_begin 1 = .ok (.getfield 10, 3) := by decide +kernel
theorem dR_begin_4 : decode bR_begin 4 = .ok (.iload_n 1, 1) := by decide +kernel
theorem dR_begin_5 : decode bR_begin 5 = .ok (.invokevirtual 30, 3) := by decide +kernel
theorem dR_begin_8 : decode bR_begin 8 = .ok (.ireturn, 1) := by decide +kernel
theorem dR_put_0 : decode bR_put 0 = .ok (.aload_n 0, 1) := by decide +kernel
theorem dR_put_1 : decode bR_put 1 = .ok (.getfield 10, 3) := by decide +kernel
theorem dR_put_4 : decode bR_put 4 = .ok (.iload_n 1, 1) := by decide +kernel
theorem dR_put_5 : decode bR_put 5 = .ok (.iload_n 2, 1) := by decide +kernel
theorem dR_put_6 : decode bR_put 6 = .ok (.invokevirtual 34, 3) := by decide +kernel
theorem dR_put_9 : decode bR_put 9 = .ok (.ireturn, 1) := by decide +kernel
theorem dR_apply_0 : decode bR_apply 0 = .ok (.aload_n 0, 1) := by decide +kernel
theorem dR_apply_1 : decode bR_apply 1 = .ok (.getfield 10, 3) := by decide +kernel
theorem dR_apply_4 : decode bR_apply 4 = .ok (.iload_n 1, 1) := by decide +kernel
theorem dR_apply_5 : decode bR_apply 5 = .ok (.invokevirtual 38, 3) := by decide +kernel
theorem dR_apply_8 : decode bR_apply 8 = .ok (.ireturn, 1) := by decide +kernel
theorem dR_gate_0 : decode bR_gate 0 = .ok (.aload_n 0, 1) := by decide +kernel
theorem dR_gate_1 : decode bR_gate 1 = .ok (.getfield 10, 3) := by decide +kernel
theorem dR_gate_4 : decode bR_gate 4 = .ok (.invokevirtual 41, 3) := by decide +kernel
theorem dR_gate_7 : decode bR_gate 7 = .ok (.ifCond .ne 5, 3) := by decide +kernel
theorem dR_gate_10 : decode bR_gate 10 = .ok (.iconst (-1), 1) := by decide +kernel
theorem dR_gate_11 : decode bR_gate 11 = .ok (.ireturn, 1) := by decide +kernel
theorem dR_gate_12 : decode bR_gate 12 = .ok (.aload_n 0, 1) := by decide +kernel
theorem dR_gate_13 : decode bR_gate 13 = .ok (.getfield 10, 3) := by decide +kernel
theorem dR_gate_16 : decode bR_gate 16 = .ok (.invokevirtual 45, 3) := by decide +kernel
theorem dR_gate_19 : decode bR_gate 19 = .ok (.istore_n 2, 1) := by decide +kernel
theorem dR_gate_20 : decode bR_gate 20 = .ok (.iload_n 1, 1) := by decide +kernel
theorem dR_gate_21 : decode bR_gate 21 = .ok (.iconst (-1), 1) := by decide +kernel
theorem dR_gate_22 : decode bR_gate 22 = .ok (.if_icmp .ne 7, 3) := by decide +kernel
theorem dR_gate_25 : decode bR_gate 25 = .ok (.iload_n 2, 1) := by decide +kernel
theorem dR_gate_26 : decode bR_gate 26 = .ok (.goto 11, 3) := by decide +kernel
theorem dR_gate_29 : decode bR_gate 29 = .ok (.aload_n 0, 1) := by decide +kernel
theorem dR_gate_30 : decode bR_gate 30 = .ok (.getfield 10, 3) := by decide +kernel
theorem dR_gate_33 : decode bR_gate 33 = .ok (.iload_n 1, 1) := by decide +kernel
theorem dR_gate_34 : decode bR_gate 34 = .ok (.invokevirtual 49, 3) := by decide +kernel
theorem dR_gate_37 : decode bR_gate 37 = .ok (.ireturn, 1) := by decide +kernel
theorem dR_look_0 : decode bR_look 0 = .ok (.aload_n 0, 1) := by decide +kernel
theorem dR_look_1 : decode bR_look 1 = .ok (.getfield 10, 3) := by decide +kernel
theorem dR_look_4 : decode bR_look 4 = .ok (.iload_n 1, 1) := by decide +kernel
theorem dR_look_5 : decode bR_look 5 = .ok (.invokevirtual 53, 3) := by decide +kernel
theorem dR_look_8 : decode bR_look 8 = .ok (.ireturn, 1) := by decide +kernel
theorem dR_form_0 : decode bR_form 0 = .ok (.aload_n 0, 1) := by decide +kernel
theorem dR_form_1 : decode bR_form 1 = .ok (.getfield 10, 3) := by decide +kernel
theorem dR_form_4 : decode bR_form 4 = .ok (.invokevirtual 56, 3) := by decide +kernel
theorem dR_form_7 : decode bR_form 7 = .ok (.istore_n 3, 1) := by decide +kernel
theorem dR_form_8 : decode bR_form 8 = .ok (.iload_n 1, 1) := by decide +kernel
theorem dR_form_9 : decode bR_form 9 = .ok (.ifCond .lt 12, 3) := by decide +kernel
theorem dR_form_12 : decode bR_form 12 = .ok (.iload_n 1, 1) := by decide +kernel
theorem dR_form_13 : decode bR_form 13 = .ok (.iconst 1, 1) := by decide +kernel
theorem dR_form_14 : decode bR_form 14 = .ok (.iconst 1, 1) := by decide +kernel
theorem dR_form_15 : decode bR_form 15 = .ok (.iload_n 3, 1) := by decide +kernel
theorem dR_form_16 : decode bR_form 16 = .ok (.ishl, 1) := by decide +kernel
theorem dR_form_17 : decode bR_form 17 = .ok (.ishl, 1) := by decide +kernel
theorem dR_form_18 : decode bR_form 18 = .ok (.if_icmp .lt 5, 3) := by decide +kernel
theorem dR_form_21 : decode bR_form 21 = .ok (.iconst (-1), 1) := by decide +kernel
theorem dR_form_22 : decode bR_form 22 = .ok (.ireturn, 1) := by decide +kernel
theorem dR_form_23 : decode bR_form 23 = .ok (.aload_n 0, 1) := by decide +kernel
theorem dR_form_24 : decode bR_form 24 = .ok (.getfield 19, 3) := by decide +kernel
theorem dR_form_27 : decode bR_form 27 = .ok (.iload_n 3, 1) := by decide +kernel
theorem dR_form_28 : decode bR_form 28 = .ok (.iload_n 1, 1) := by decide +kernel
theorem dR_form_29 : decode bR_form 29 = .ok (.invokevirtual 59, 3) := by decide +kernel
theorem dR_form_32 : decode bR_form 32 = .ok (.lstore 4, 2) := by decide +kernel
theorem dR_form_34 : decode bR_form 34 = .ok (.iload_n 2, 1) := by decide +kernel
theorem dR_form_35 : decode bR_form 35 = .ok (.iconst (-1), 1) := by decide +kernel
theorem dR_form_36 : decode bR_form 36 = .ok (.if_icmp .ne 11, 3) := by decide +kernel
theorem dR_form_39 : decode bR_form 39 = .ok (.lload 4, 2) := by decide +kernel
theorem dR_form_41 : decode bR_form 41 = .ok (.invokestatic 63, 3) := by decide +kernel
theorem dR_form_44 : decode bR_form 44 = .ok (.goto 9, 3) := by decide +kernel
theorem dR_form_47 : decode bR_form 47 = .ok (.lload 4, 2) := by decide +kernel
theorem dR_form_49 : decode bR_form 49 = .ok (.iload_n 2, 1) := by decide +kernel
theorem dR_form_50 : decode bR_form 50 = .ok (.invokestatic 67, 3) := by decide +kernel
theorem dR_form_53 : decode bR_form 53 = .ok (.ireturn, 1) := by decide +kernel
theorem dR_product_0 : decode bR_product 0 = .ok (.aload_n 0, 1) := by decide +kernel
theorem dR_product_1 : decode bR_product 1 = .ok (.getfield 10, 3) := by decide +kernel
theorem dR_product_4 : decode bR_product 4 = .ok (.invokevirtual 56, 3) := by decide +kernel
theorem dR_product_7 : decode bR_product 7 = .ok (.istore_n 2, 1) := by decide +kernel
theorem dR_product_8 : decode bR_product 8 = .ok (.iload_n 1, 1) := by decide +kernel
theorem dR_product_9 : decode bR_product 9 = .ok (.ifCond .lt 11, 3) := by decide +kernel
theorem dR_product_12 : decode bR_product 12 = .ok (.iload_n 1, 1) := by decide +kernel
theorem dR_product_13 : decode bR_product 13 = .ok (.iload_n 2, 1) := by decide +kernel
theorem dR_product_14 : decode bR_product 14 = .ok (.invokestatic 71, 3) := by decide +kernel
theorem dR_product_17 : decode bR_product 17 = .ok (.if_icmp .lt 5, 3) := by decide +kernel
theorem dR_product_20 : decode bR_product 20 = .ok (.iconst (-1), 1) := by decide +kernel
theorem dR_product_21 : decode bR_product 21 = .ok (.ireturn, 1) := by decide +kernel
theorem dR_product_22 : decode bR_product 22 = .ok (.iload_n 2, 1) := by decide +kernel
theorem dR_product_23 : decode bR_product 23 = .ok (.iload_n 1, 1) := by decide +kernel
theorem dR_product_24 : decode bR_product 24 = .ok (.invokestatic 76, 3) := by decide +kernel
theorem dR_product_27 : decode bR_product 27 = .ok (.ireturn, 1) := by decide +kernel
theorem dR_program_0 : decode bR_program 0 = .ok (.aload_n 0, 1) := by decide +kernel
theorem dR_program_1 : decode bR_program 1 = .ok (.getfield 26, 3) := by decide +kernel
theorem dR_program_4 : decode bR_program 4 = .ok (.iload_n 1, 1) := by decide +kernel
theorem dR_program_5 : decode bR_program 5 = .ok (.invokevirtual 80, 3) := by decide +kernel
theorem dR_program_8 : decode bR_program 8 = .ok (.ireturn, 1) := by decide +kernel
theorem dR_need_0 : decode bR_need 0 = .ok (.aload_n 0, 1) := by decide +kernel
theorem dR_need_1 : decode bR_need 1 = .ok (.getfield 26, 3) := by decide +kernel
theorem dR_need_4 : decode bR_need 4 = .ok (.iload_n 1, 1) := by decide +kernel
theorem dR_need_5 : decode bR_need 5 = .ok (.iload_n 2, 1) := by decide +kernel
theorem dR_need_6 : decode bR_need 6 = .ok (.invokevirtual 81, 3) := by decide +kernel
theorem dR_need_9 : decode bR_need 9 = .ok (.ireturn, 1) := by decide +kernel
theorem dR_move_0 : decode bR_move 0 = .ok (.iload_n 1, 1) := by decide +kernel
theorem dR_move_1 : decode bR_move 1 = .ok (.iconst 1, 1) := by decide +kernel
theorem dR_move_2 : decode bR_move 2 = .ok (.if_icmp .ge 5, 3) := by decide +kernel
theorem dR_move_5 : decode bR_move 5 = .ok (.iconst (-1), 1) := by decide +kernel
theorem dR_move_6 : decode bR_move 6 = .ok (.ireturn, 1) := by decide +kernel
theorem dR_move_7 : decode bR_move 7 = .ok (.aload_n 0, 1) := by decide +kernel
theorem dR_move_8 : decode bR_move 8 = .ok (.getfield 26, 3) := by decide +kernel
theorem dR_move_11 : decode bR_move 11 = .ok (.iload_n 1, 1) := by decide +kernel
theorem dR_move_12 : decode bR_move 12 = .ok (.invokevirtual 84, 3) := by decide +kernel
theorem dR_move_15 : decode bR_move 15 = .ok (.astore_n 3, 1) := by decide +kernel
theorem dR_move_16 : decode bR_move 16 = .ok (.aload_n 3, 1) := by decide +kernel
theorem dR_move_17 : decode bR_move 17 = .ok (.invokevirtual 88, 3) := by decide +kernel
theorem dR_move_20 : decode bR_move 20 = .ok (.ifCond .ne 5, 3) := by decide +kernel
theorem dR_move_23 : decode bR_move 23 = .ok (.iconst (-1), 1) := by decide +kernel
theorem dR_move_24 : decode bR_move 24 = .ok (.ireturn, 1) := by decide +kernel
theorem dR_move_25 : decode bR_move 25 = .ok (.iload_n 2, 1) := by decide +kernel
theorem dR_move_26 : decode bR_move 26 = .ok (.iconst (-1), 1) := by decide +kernel
theorem dR_move_27 : decode bR_move 27 = .ok (.if_icmp .ne 10, 3) := by decide +kernel
theorem dR_move_30 : decode bR_move 30 = .ok (.aload_n 3, 1) := by decide +kernel
theorem dR_move_31 : decode bR_move 31 = .ok (.invokevirtual 88, 3) := by decide +kernel
theorem dR_move_34 : decode bR_move 34 = .ok (.goto 8, 3) := by decide +kernel
theorem dR_move_37 : decode bR_move 37 = .ok (.aload_n 3, 1) := by decide +kernel
theorem dR_move_38 : decode bR_move 38 = .ok (.iload_n 2, 1) := by decide +kernel
theorem dR_move_39 : decode bR_move 39 = .ok (.invokevirtual 93, 3) := by decide +kernel
theorem dR_move_42 : decode bR_move 42 = .ok (.ireturn, 1) := by decide +kernel
theorem dR_marks_0 : decode bR_marks 0 = .ok (.aload_n 0, 1) := by decide +kernel
theorem dR_marks_1 : decode bR_marks 1 = .ok (.getfield 26, 3) := by decide +kernel
theorem dR_marks_4 : decode bR_marks 4 = .ok (.invokevirtual 96, 3) := by decide +kernel
theorem dR_marks_7 : decode bR_marks 7 = .ok (.ireturn, 1) := by decide +kernel
theorem dR_total_0 : decode bR_total 0 = .ok (.iload_n 1, 1) := by decide +kernel
theorem dR_total_1 : decode bR_total 1 = .ok (.tableswitch 96 0 4 #[35, 43, 51, 67, 85], 35) := by decide +kernel
theorem dR_total_36 : decode bR_total 36 = .ok (.aload_n 0, 1) := by decide +kernel
theorem dR_total_37 : decode bR_total 37 = .ok (.getfield 10, 3) := by decide +kernel
theorem dR_total_40 : decode bR_total 40 = .ok (.invokevirtual 56, 3) := by decide +kernel
theorem dR_total_43 : decode bR_total 43 = .ok (.ireturn, 1) := by decide +kernel
theorem dR_total_44 : decode bR_total 44 = .ok (.aload_n 0, 1) := by decide +kernel
theorem dR_total_45 : decode bR_total 45 = .ok (.getfield 26, 3) := by decide +kernel
theorem dR_total_48 : decode bR_total 48 = .ok (.invokevirtual 99, 3) := by decide +kernel
theorem dR_total_51 : decode bR_total 51 = .ok (.ireturn, 1) := by decide +kernel
theorem dR_total_52 : decode bR_total 52 = .ok (.aload_n 0, 1) := by decide +kernel
theorem dR_total_53 : decode bR_total 53 = .ok (.getfield 10, 3) := by decide +kernel
theorem dR_total_56 : decode bR_total 56 = .ok (.invokevirtual 41, 3) := by decide +kernel
theorem dR_total_59 : decode bR_total 59 = .ok (.ifCond .eq 7, 3) := by decide +kernel
theorem dR_total_62 : decode bR_total 62 = .ok (.iconst 1, 1) := by decide +kernel
theorem dR_total_63 : decode bR_total 63 = .ok (.goto 4, 3) := by decide +kernel
theorem dR_total_66 : decode bR_total 66 = .ok (.iconst 0, 1) := by decide +kernel
theorem dR_total_67 : decode bR_total 67 = .ok (.ireturn, 1) := by decide +kernel
theorem dR_total_68 : decode bR_total 68 = .ok (.aload_n 0, 1) := by decide +kernel
theorem dR_total_69 : decode bR_total 69 = .ok (.getfield 10, 3) := by decide +kernel
theorem dR_total_72 : decode bR_total 72 = .ok (.invokevirtual 56, 3) := by decide +kernel
theorem dR_total_75 : decode bR_total 75 = .ok (.aload_n 0, 1) := by decide +kernel
theorem dR_total_76 : decode bR_total 76 = .ok (.getfield 10, 3) := by decide +kernel
theorem dR_total_79 : decode bR_total 79 = .ok (.invokevirtual 56, 3) := by decide +kernel
theorem dR_total_82 : decode bR_total 82 = .ok (.iconst 1, 1) := by decide +kernel
theorem dR_total_83 : decode bR_total 83 = .ok (.isub, 1) := by decide +kernel
theorem dR_total_84 : decode bR_total 84 = .ok (.ishl, 1) := by decide +kernel
theorem dR_total_85 : decode bR_total 85 = .ok (.ireturn, 1) := by decide +kernel
theorem dR_total_86 : decode bR_total 86 = .ok (.aload_n 0, 1) := by decide +kernel
theorem dR_total_87 : decode bR_total 87 = .ok (.getfield 10, 3) := by decide +kernel
theorem dR_total_90 : decode bR_total 90 = .ok (.invokevirtual 56, 3) := by decide +kernel
theorem dR_total_93 : decode bR_total 93 = .ok (.invokestatic 71, 3) := by decide +kernel
theorem dR_total_96 : decode bR_total 96 = .ok (.ireturn, 1) := by decide +kernel
theorem dR_total_97 : decode bR_total 97 = .ok (.iconst (-1), 1) := by decide +kernel
theorem dR_total_98 : decode bR_total 98 = .ok (.ireturn, 1) := by decide +kernel
end
section
theorem dM_init_0 : decode bM_init 0 = .ok (.aload_n 0, 1) := by decide +kernel
theorem dM_init_1 : decode bM_init 1 = .ok (.invokespecial 1, 3) := by decide +kernel
theorem dM_init_4 : decode bM_init 4 = .ok (.aload_n 0, 1) := by decide +kernel
theorem dM_init_5 : decode bM_init 5 = .ok (.bipush 16, 2) := by decide +kernel
theorem dM_init_7 : decode bM_init 7 = .ok (.newarray .int, 2) := by decide +kernel
theorem dM_init_9 : decode bM_init 9 = .ok (.putfield 7, 3) := by decide +kernel
theorem dM_init_12 : decode bM_init 12 = .ok (.aload_n 0, 1) := by decide +kernel
theorem dM_init_13 : decode bM_init 13 = .ok (.bipush 12, 2) := by decide +kernel
theorem dM_init_15 : decode bM_init 15 = .ok (.newarray .int, 2) := by decide +kernel
theorem dM_init_17 : decode bM_init 17 = .ok (.putfield 13, 3) := by decide +kernel
theorem dM_init_20 : decode bM_init 20 = .ok (.aload_n 0, 1) := by decide +kernel
theorem dM_init_21 : decode bM_init 21 = .ok (.bipush 16, 2) := by decide +kernel
theorem dM_init_23 : decode bM_init 23 = .ok (.newarray .int, 2) := by decide +kernel
theorem dM_init_25 : decode bM_init 25 = .ok (.putfield 16, 3) := by decide +kernel
theorem dM_init_28 : decode bM_init 28 = .ok (.aload_n 0, 1) := by decide +kernel
theorem dM_init_29 : decode bM_init 29 = .ok (.bipush 64, 2) := by decide +kernel
theorem dM_init_31 : decode bM_init 31 = .ok (.newarray .int, 2) := by decide +kernel
theorem dM_init_33 : decode bM_init 33 = .ok (.putfield 19, 3) := by decide +kernel
theorem dM_init_36 : decode bM_init 36 = .ok (.aload_n 0, 1) := by decide +kernel
theorem dM_init_37 : decode bM_init 37 = .ok (.iconst 5, 1) := by decide +kernel
theorem dM_init_38 : decode bM_init 38 = .ok (.newarray .boolean, 2) := by decide +kernel
theorem dM_init_40 : decode bM_init 40 = .ok (.putfield 22, 3) := by decide +kernel
theorem dM_init_43 : decode bM_init 43 = .ok (.aload_n 0, 1) := by decide +kernel
theorem dM_init_44 : decode bM_init 44 = .ok (.ldc 26, 2) := by decide +kernel
theorem dM_init_46 : decode bM_init 46 = .ok (.newarray .int, 2) := by decide +kernel
theorem dM_init_48 : decode bM_init 48 = .ok (.putfield 27, 3) := by decide +kernel
theorem dM_init_51 : decode bM_init 51 = .ok (.aload_n 0, 1) := by decide +kernel
theorem dM_init_52 : decode bM_init 52 = .ok (.bipush 120, 2) := by decide +kernel
theorem dM_init_54 : decode bM_init 54 = .ok (.newarray .int, 2) := by decide +kernel
theorem dM_init_56 : decode bM_init 56 = .ok (.putfield 30, 3) := by decide +kernel
theorem dM_init_59 : decode bM_init 59 = .ok (.aload_n 0, 1) := by decide +kernel
theorem dM_init_60 : decode bM_init 60 = .ok (.sipush 4096, 3) := by decide +kernel
theorem dM_init_63 : decode bM_init 63 = .ok (.newarray .boolean, 2) := by decide +kernel
theorem dM_init_65 : decode bM_init 65 = .ok (.putfield 33, 3) := by decide +kernel
theorem dM_init_68 : decode bM_init 68 = .ok (.aload_n 0, 1) := by decide +kernel
theorem dM_init_69 : decode bM_init 69 = .ok (.sipush 4096, 3) := by decide +kernel
theorem dM_init_72 : decode bM_init 72 = .ok (.newarray .int, 2) := by decide +kernel
theorem dM_init_74 : decode bM_init 74 = .ok (.putfield 36, 3) := by decide +kernel
theorem dM_init_77 : decode bM_init 77 = .ok (.aload_n 0, 1) := by decide +kernel
theorem dM_init_78 : decode bM_init 78 = .ok (.sipush 4096, 3) := by decide +kernel
theorem dM_init_81 : decode bM_init 81 = .ok (.newarray .int, 2) := by decide +kernel
theorem dM_init_83 : decode bM_init 83 = .ok (.putfield 39, 3) := by decide +kernel
theorem dM_init_86 : decode bM_init 86 = .ok (.aload_n 0, 1) := by decide +kernel
theorem dM_init_87 : decode bM_init 87 = .ok (.sipush 4096, 3) := by decide +kernel
theorem dM_init_90 : decode bM_init 90 = .ok (.newarray .int, 2) := by decide +kernel
theorem dM_init_92 : decode bM_init 92 = .ok (.putfield 42, 3) := by decide +kernel
theorem dM_init_95 : decode bM_init 95 = .ok (.aload_n 0, 1) := by decide +kernel
theorem dM_init_96 : decode bM_init 96 = .ok (.iconst 1, 1) := by decide +kernel
theorem dM_init_97 : decode bM_init 97 = .ok (.invokevirtual 45, 3) := by decide +kernel
theorem dM_init_100 : decode bM_init 100 = .ok (.aload_n 0, 1) := by decide +kernel
theorem dM_init_101 : decode bM_init 101 = .ok (.iconst 1, 1) := by decide +kernel
theorem dM_init_102 : decode bM_init 102 = .ok (.putfield 49, 3) := by decide +kernel
theorem dM_init_105 : decode bM_init 105 = .ok (.return_, 1) := by decide +kernel
theorem dM_start_0 : decode bM_start 0 = .ok (.aload_n 0, 1) := by decide +kernel
theorem dM_start_1 : decode bM_start 1 = .ok (.iload_n 1, 1) := by decide +kernel
theorem dM_start_2 : decode bM_start 2 = .ok (.putfield 56, 3) := by decide +kernel
theorem dM_start_5 : decode bM_start 5 = .ok (.iconst 0, 1) := by decide +kernel
theorem dM_start_6 : decode bM_start 6 = .ok (.istore_n 2, 1) := by decide +kernel
theorem dM_start_7 : decode bM_start 7 = .ok (.iload_n 2, 1) := by decide +kernel
theorem dM_start_8 : decode bM_start 8 = .ok (.bipush 16, 2) := by decide +kernel
theorem dM_start_10 : decode bM_start 10 = .ok (.if_icmp .ge 16, 3) := by decide +kernel
theorem dM_start_13 : decode bM_start 13 = .ok (.aload_n 0, 1) := by decide +kernel
theorem dM_start_14 : decode bM_start 14 = .ok (.getfield 7, 3) := by decide +kernel
theorem dM_start_17 : decode bM_start 17 = .ok (.iload_n 2, 1) := by decide +kernel
theorem dM_start_18 : decode bM_start 18 = .ok (.iload_n 2, 1) := by decide +kernel
theorem dM_start_19 : decode bM_start 19 = .ok (.iastore, 1) := by decide +kernel
theorem dM_start_20 : decode bM_start 20 = .ok (.iinc 2 1, 3) := by decide +kernel
theorem dM_start_23 : decode bM_start 23 = .ok (.goto (-16), 3) := by decide +kernel
theorem dM_start_26 : decode bM_start 26 = .ok (.return_, 1) := by decide +kernel
theorem dM_begin_0 : decode bM_begin 0 = .ok (.aload_n 0, 1) := by decide +kernel
theorem dM_begin_1 : decode bM_begin 1 = .ok (.iconst 0, 1) := by decide +kernel
theorem dM_begin_2 : decode bM_begin 2 = .ok (.putfield 53, 3) := by decide +kernel
theorem dM_begin_5 : decode bM_begin 5 = .ok (.iload_n 1, 1) := by decide +kernel
theorem dM_begin_6 : decode bM_begin 6 = .ok (.iconst 1, 1) := by decide +kernel
theorem dM_begin_7 : decode bM_begin 7 = .ok (.if_icmp .lt 8, 3) := by decide +kernel
theorem dM_begin_10 : decode bM_begin 10 = .ok (.iload_n 1, 1) := by decide +kernel
theorem dM_begin_11 : decode bM_begin 11 = .ok (.iconst 4, 1) := by decide +kernel
theorem dM_begin_12 : decode bM_begin 12 = .ok (.if_icmp .le 5, 3) := by decide +kernel
theorem dM_begin_15 : decode bM_begin 15 = .ok (.iconst 0, 1) := by decide +kernel
theorem dM_begin_16 : decode bM_begin 16 = .ok (.ireturn, 1) := by decide +kernel
theorem dM_begin_17 : decode bM_begin 17 = .ok (.aload_n 0, 1) := by decide +kernel
theorem dM_begin_18 : decode bM_begin 18 = .ok (.iload_n 1, 1) := by decide +kernel
theorem dM_begin_19 : decode bM_begin 19 = .ok (.invokevirtual 45, 3) := by decide +kernel
theorem dM_begin_22 : decode bM_begin 22 = .ok (.iconst 1, 1) := by decide +kernel
theorem dM_begin_23 : decode bM_begin 23 = .ok (.ireturn, 1) := by decide +kernel
theorem dM_put_0 : decode bM_put 0 = .ok (.aload_n 0, 1) := by decide +kernel
theorem dM_put_1 : decode bM_put 1 = .ok (.iconst 0, 1) := by decide +kernel
theorem dM_put_2 : decode bM_put 2 = .ok (.putfield 53, 3) := by decide +kernel
theorem dM_put_5 : decode bM_put 5 = .ok (.aload_n 0, 1) := by decide +kernel
theorem dM_put_6 : decode bM_put 6 = .ok (.iload_n 1, 1) := by decide +kernel
theorem dM_put_7 : decode bM_put 7 = .ok (.invokevirtual 63, 3) := by decide +kernel
theorem dM_put_10 : decode bM_put 10 = .ok (.ifCond .eq 11, 3) := by decide +kernel
theorem dM_put_13 : decode bM_put 13 = .ok (.aload_n 0, 1) := by decide +kernel
theorem dM_put_14 : decode bM_put 14 = .ok (.iload_n 2, 1) := by decide +kernel
theorem dM_put_15 : decode bM_put 15 = .ok (.invokevirtual 63, 3) := by decide +kernel
theorem dM_put_18 : decode bM_put 18 = .ok (.ifCond .ne 5, 3) := by decide +kernel
theorem dM_put_21 : decode bM_put 21 = .ok (.iconst 0, 1) := by decide +kernel
theorem dM_put_22 : decode bM_put 22 = .ok (.ireturn, 1) := by decide +kernel
theorem dM_put_23 : decode bM_put 23 = .ok (.aload_n 0, 1) := by decide +kernel
theorem dM_put_24 : decode bM_put 24 = .ok (.getfield 7, 3) := by decide +kernel
theorem dM_put_27 : decode bM_put 27 = .ok (.iload_n 1, 1) := by decide +kernel
theorem dM_put_28 : decode bM_put 28 = .ok (.iload_n 2, 1) := by decide +kernel
theorem dM_put_29 : decode bM_put 29 = .ok (.iastore, 1) := by decide +kernel
theorem dM_put_30 : decode bM_put 30 = .ok (.iconst 1, 1) := by decide +kernel
theorem dM_put_31 : decode bM_put 31 = .ok (.ireturn, 1) := by decide +kernel
theorem dM_isValue_0 : decode bM_isValue 0 = .ok (.iload_n 1, 1) := by decide +kernel
theorem dM_isValue_1 : decode bM_isValue 1 = .ok (.ifCond .lt 15, 3) := by decide +kernel
theorem dM_isValue_4 : decode bM_isValue 4 = .ok (.iload_n 1, 1) := by decide +kernel
theorem dM_isValue_5 : decode bM_isValue 5 = .ok (.aload_n 0, 1) := by decide +kernel
theorem dM_isValue_6 : decode bM_isValue 6 = .ok (.invokevirtual 59, 3) := by decide +kernel
theorem dM_isValue_9 : decode bM_isValue 9 = .ok (.if_icmp .ge 7, 3) := by decide +kernel
theorem dM_isValue_12 : decode bM_isValue 12 = .ok (.iconst 1, 1) := by decide +kernel
theorem dM_isValue_13 : decode bM_isValue 13 = .ok (.goto 4, 3) := by decide +kernel
theorem dM_isValue_16 : decode bM_isValue 16 = .ok (.iconst 0, 1) := by decide +kernel
theorem dM_isValue_17 : decode bM_isValue 17 = .ok (.ireturn, 1) := by decide +kernel
theorem dM_values_0 : decode bM_values 0 = .ok (.iconst 1, 1) := by decide +kernel
theorem dM_values_1 : decode bM_values 1 = .ok (.aload_n 0, 1) := by decide +kernel
theorem dM_values_2 : decode bM_values 2 = .ok (.getfield 56, 3) := by decide +kernel
theorem dM_values_5 : decode bM_values 5 = .ok (.ishl, 1) := by decide +kernel
theorem dM_values_6 : decode bM_values 6 = .ok (.ireturn, 1) := by decide +kernel
theorem dM_apply_0 : decode bM_apply 0 = .ok (.aload_n 0, 1) := by decide +kernel
theorem dM_apply_1 : decode bM_apply 1 = .ok (.iconst 0, 1) := by decide +kernel
theorem dM_apply_2 : decode bM_apply 2 = .ok (.putfield 53, 3) := by decide +kernel
theorem dM_apply_5 : decode bM_apply 5 = .ok (.iload_n 1, 1) := by decide +kernel
theorem dM_apply_6 : decode bM_apply 6 = .ok (.ifCond .ge 5, 3) := by decide +kernel
theorem dM_apply_9 : decode bM_apply 9 = .ok (.iconst 0, 1) := by decide +kernel
theorem dM_apply_10 : decode bM_apply 10 = .ok (.ireturn, 1) := by decide +kernel
theorem dM_apply_11 : decode bM_apply 11 = .ok (.iload_n 1, 1) := by decide +kernel
theorem dM_apply_12 : decode bM_apply 12 = .ok (.bipush 16, 2) := by decide +kernel
theorem dM_apply_14 : decode bM_apply 14 = .ok (.idiv, 1) := by decide +kernel
theorem dM_apply_15 : decode bM_apply 15 = .ok (.istore_n 2, 1) := by decide +kernel
theorem dM_apply_16 : decode bM_apply 16 = .ok (.iload_n 1, 1) := by decide +kernel
theorem dM_apply_17 : decode bM_apply 17 = .ok (.bipush 16, 2) := by decide +kernel
theorem dM_apply_19 : decode bM_apply 19 = .ok (.irem, 1) := by decide +kernel
theorem dM_apply_20 : decode bM_apply 20 = .ok (.istore_n 3, 1) := by decide +kernel
theorem dM_apply_21 : decode bM_apply 21 = .ok (.iload_n 2, 1) := by decide +kernel
theorem dM_apply_22 : decode bM_apply 22 = .ok (.aload_n 0, 1) := by decide +kernel
theorem dM_apply_23 : decode bM_apply 23 = .ok (.getfield 56, 3) := by decide +kernel
theorem dM_apply_26 : decode bM_apply 26 = .ok (.if_icmp .ge 20, 3) := by decide +kernel
theorem dM_apply_29 : decode bM_apply 29 = .ok (.aload_n 0, 1) := by decide +kernel
theorem dM_apply_30 : decode bM_apply 30 = .ok (.iload_n 3, 1) := by decide +kernel
theorem dM_apply_31 : decode bM_apply 31 = .ok (.invokevirtual 63, 3) := by decide +kernel
theorem dM_apply_34 : decode bM_apply 34 = .ok (.ifCond .eq 12, 3) := by decide +kernel
theorem dM_apply_37 : decode bM_apply 37 = .ok (.iload_n 3, 1) := by decide +kernel
theorem dM_apply_38 : decode bM_apply 38 = .ok (.iload_n 2, 1) := by decide +kernel
theorem dM_apply_39 : decode bM_apply 39 = .ok (.ishr, 1) := by decide +kernel
theorem dM_apply_40 : decode bM_apply 40 = .ok (.iconst 1, 1) := by decide +kernel
theorem dM_apply_41 : decode bM_apply 41 = .ok (.iand, 1) := by decide +kernel
theorem dM_apply_42 : decode bM_apply 42 = .ok (.iconst 1, 1) := by decide +kernel
theorem dM_apply_43 : decode bM_apply 43 = .ok (.if_icmp .ne 5, 3) := by decide +kernel
theorem dM_apply_46 : decode bM_apply 46 = .ok (.iconst 0, 1) := by decide +kernel
theorem dM_apply_47 : decode bM_apply 47 = .ok (.ireturn, 1) := by decide +kernel
theorem dM_apply_48 : decode bM_apply 48 = .ok (.iconst 0, 1) := by decide +kernel
theorem dM_apply_49 : decode bM_apply 49 = .ok (.istore 4, 2) := by decide +kernel
theorem dM_apply_51 : decode bM_apply 51 = .ok (.iload 4, 2) := by decide +kernel
theorem dM_apply_53 : decode bM_apply 53 = .ok (.aload_n 0, 1) := by decide +kernel
theorem dM_apply_54 : decode bM_apply 54 = .ok (.invokevirtual 59, 3) := by decide +kernel
theorem dM_apply_57 : decode bM_apply 57 = .ok (.if_icmp .ge 28, 3) := by decide +kernel
theorem dM_apply_60 : decode bM_apply 60 = .ok (.aload_n 0, 1) := by decide +kernel
theorem dM_apply_61 : decode bM_apply 61 = .ok (.getfield 7, 3) := by decide +kernel
theorem dM_apply_64 : decode bM_apply 64 = .ok (.iload 4, 2) := by decide +kernel
theorem dM_apply_66 : decode bM_apply 66 = .ok (.aload_n 0, 1) := by decide +kernel
theorem dM_apply_67 : decode bM_apply 67 = .ok (.getfield 7, 3) := by decide +kernel
theorem dM_apply_70 : decode bM_apply 70 = .ok (.iload 4, 2) := by decide +kernel
theorem dM_apply_72 : decode bM_apply 72 = .ok (.iaload, 1) := by decide +kernel
theorem dM_apply_73 : decode bM_apply 73 = .ok (.iload_n 2, 1) := by decide +kernel
theorem dM_apply_74 : decode bM_apply 74 = .ok (.iload_n 3, 1) := by decide +kernel
theorem dM_apply_75 : decode bM_apply 75 = .ok (.invokestatic 67, 3) := by decide +kernel
theorem dM_apply_78 : decode bM_apply 78 = .ok (.iastore, 1) := by decide +kernel
theorem dM_apply_79 : decode bM_apply 79 = .ok (.iinc 4 1, 3) := by decide +kernel
theorem dM_apply_82 : decode bM_apply 82 = .ok (.goto (-31), 3) := by decide +kernel
theorem dM_apply_85 : decode bM_apply 85 = .ok (.iconst 1, 1) := by decide +kernel
theorem dM_apply_86 : decode bM_apply 86 = .ok (.ireturn, 1) := by decide +kernel
theorem dM_changed_0 : decode bM_changed 0 = .ok (.iload_n 0, 1) := by decide +kernel
theorem dM_changed_1 : decode bM_changed 1 = .ok (.iload_n 2, 1) := by decide +kernel
theorem dM_changed_2 : decode bM_changed 2 = .ok (.iand, 1) := by decide +kernel
theorem dM_changed_3 : decode bM_changed 3 = .ok (.iload_n 2, 1) := by decide +kernel
theorem dM_changed_4 : decode bM_changed 4 = .ok (.if_icmp .ne 11, 3) := by decide +kernel
theorem dM_changed_7 : decode bM_changed 7 = .ok (.iload_n 0, 1) := by decide +kernel
theorem dM_changed_8 : decode bM_changed 8 = .ok (.iconst 1, 1) := by decide +kernel
theorem dM_changed_9 : decode bM_changed 9 = .ok (.iload_n 1, 1) := by decide +kernel
theorem dM_changed_10 : decode bM_changed 10 = .ok (.ishl, 1) := by decide +kernel
theorem dM_changed_11 : decode bM_changed 11 = .ok (.ixor, 1) := by decide +kernel
theorem dM_changed_12 : decode bM_changed 12 = .ok (.goto 4, 3) := by decide +kernel
theorem dM_changed_15 : decode bM_changed 15 = .ok (.iload_n 0, 1) := by decide +kernel
theorem dM_changed_16 : decode bM_changed 16 = .ok (.ireturn, 1) := by decide +kernel
theorem dM_gate_0 : decode bM_gate 0 = .ok (.aload_n 0, 1) := by decide +kernel
theorem dM_gate_1 : decode bM_gate 1 = .ok (.iconst 0, 1) := by decide +kernel
theorem dM_gate_2 : decode bM_gate 2 = .ok (.putfield 53, 3) := by decide +kernel
theorem dM_gate_5 : decode bM_gate 5 = .ok (.aload_n 0, 1) := by decide +kernel
theorem dM_gate_6 : decode bM_gate 6 = .ok (.invokevirtual 78, 3) := by decide +kernel
theorem dM_gate_9 : decode bM_gate 9 = .ok (.ifCond .ne 5, 3) := by decide +kernel
theorem dM_gate_12 : decode bM_gate 12 = .ok (.iconst (-1), 1) := by decide +kernel
theorem dM_gate_13 : decode bM_gate 13 = .ok (.ireturn, 1) := by decide +kernel
theorem dM_gate_14 : decode bM_gate 14 = .ok (.aload_n 0, 1) := by decide +kernel
theorem dM_gate_15 : decode bM_gate 15 = .ok (.invokevirtual 82, 3) := by decide +kernel
theorem dM_gate_18 : decode bM_gate 18 = .ok (.iload_n 1, 1) := by decide +kernel
theorem dM_gate_19 : decode bM_gate 19 = .ok (.iconst (-1), 1) := by decide +kernel
theorem dM_gate_20 : decode bM_gate 20 = .ok (.if_icmp .ne 8, 3) := by decide +kernel
theorem dM_gate_23 : decode bM_gate 23 = .ok (.aload_n 0, 1) := by decide +kernel
theorem dM_gate_24 : decode bM_gate 24 = .ok (.getfield 71, 3) := by decide +kernel
theorem dM_gate_27 : decode bM_gate 27 = .ok (.ireturn, 1) := by decide +kernel
theorem dM_gate_28 : decode bM_gate 28 = .ok (.iload_n 1, 1) := by decide +kernel
theorem dM_gate_29 : decode bM_gate 29 = .ok (.ifCond .lt 27, 3) := by decide +kernel
theorem dM_gate_32 : decode bM_gate 32 = .ok (.iload_n 1, 1) := by decide +kernel
theorem dM_gate_33 : decode bM_gate 33 = .ok (.aload_n 0, 1) := by decide +kernel
theorem dM_gate_34 : decode bM_gate 34 = .ok (.getfield 71, 3) := by decide +kernel
theorem dM_gate_37 : decode bM_gate 37 = .ok (.if_icmp .ge 19, 3) := by decide +kernel
theorem dM_gate_40 : decode bM_gate 40 = .ok (.aload_n 0, 1) := by decide +kernel
theorem dM_gate_41 : decode bM_gate 41 = .ok (.getfield 19, 3) := by decide +kernel
theorem dM_gate_44 : decode bM_gate 44 = .ok (.aload_n 0, 1) := by decide +kernel
theorem dM_gate_45 : decode bM_gate 45 = .ok (.getfield 71, 3) := by decide +kernel
theorem dM_gate_48 : decode bM_gate 48 = .ok (.iconst 1, 1) := by decide +kernel
theorem dM_gate_49 : decode bM_gate 49 = .ok (.isub, 1) := by decide +kernel
theorem dM_gate_50 : decode bM_gate 50 = .ok (.iload_n 1, 1) := by decide +kernel
theorem dM_gate_51 : decode bM_gate 51 = .ok (.isub, 1) := by decide +kernel
theorem dM_gate_52 : decode bM_gate 52 = .ok (.iaload, 1) := by decide +kernel
theorem dM_gate_53 : decode bM_gate 53 = .ok (.goto 4, 3) := by decide +kernel
theorem dM_gate_56 : decode bM_gate 56 = .ok (.iconst (-1), 1) := by decide +kernel
theorem dM_gate_57 : decode bM_gate 57 = .ok (.ireturn, 1) := by decide +kernel
theorem dM_isPermutation_0 : decode bM_isPermutation 0 = .ok (.iconst 0, 1) := by decide +kernel
theorem dM_isPermutation_1 : decode bM_isPermutation 1 = .ok (.istore_n 1, 1) := by decide +kernel
theorem dM_isPermutation_2 : decode bM_isPermutation 2 = .ok (.iconst 0, 1) := by decide +kernel
theorem dM_isPermutation_3 : decode bM_isPermutation 3 = .ok (.istore_n 2, 1) := by decide +kernel
theorem dM_isPermutation_4 : decode bM_isPermutation 4 = .ok (.iload_n 2, 1) := by decide +kernel
theorem dM_isPermutation_5 : decode bM_isPermutation 5 = .ok (.aload_n 0, 1) := by decide +kernel
theorem dM_isPermutation_6 : decode bM_isPermutation 6 = .ok (.invokevirtual 59, 3) := by decide +kernel
theorem dM_isPermutation_9 : decode bM_isPermutation 9 = .ok (.if_icmp .ge 20, 3) := by decide +kernel
theorem dM_isPermutation_12 : decode bM_isPermutation 12 = .ok (.iload_n 1, 1) := by decide +kernel
theorem dM_isPermutation_13 : decode bM_isPermutation 13 = .ok (.iconst 1, 1) := by decide +kernel
theorem dM_isPermutation_14 : decode bM_isPermutation 14 = .ok (.aload_n 0, 1) := by decide +kernel
theorem dM_isPermutation_15 : decode bM_isPermutation 15 = .ok (.getfield 7, 3) := by decide +kernel
theorem dM_isPermutation_18 : decode bM_isPermutation 18 = .ok (.iload_n 2, 1) := by decide +kernel
theorem dM_isPermutation_19 : decode bM_isPermutation 19 = .ok (.iaload, 1) := by decide +kernel
theorem dM_isPermutation_20 : decode bM_isPermutation 20 = .ok (.ishl, 1) := by decide +kernel
theorem dM_isPermutation_21 : decode bM_isPermutation 21 = .ok (.ior, 1) := by decide +kernel
theorem dM_isPermutation_22 : decode bM_isPermutation 22 = .ok (.istore_n 1, 1) := by decide +kernel
theorem dM_isPermutation_23 : decode bM_isPermutation 23 = .ok (.iinc 2 1, 3) := by decide +kernel
theorem dM_isPermutation_26 : decode bM_isPermutation 26 = .ok (.goto (-22), 3) := by decide +kernel
theorem dM_isPermutation_29 : decode bM_isPermutation 29 = .ok (.iload_n 1, 1) := by decide +kernel
theorem dM_isPermutation_30 : decode bM_isPermutation 30 = .ok (.iconst 1, 1) := by decide +kernel
theorem dM_isPermutation_31 : decode bM_isPermutation 31 = .ok (.aload_n 0, 1) := by decide +kernel
theorem dM_isPermutation_32 : decode bM_isPermutation 32 = .ok (.invokevirtual 59, 3) := by decide +kernel
theorem dM_isPermutation_35 : decode bM_isPermutation 35 = .ok (.ishl, 1) := by decide +kernel
theorem dM_isPermutation_36 : decode bM_isPermutation 36 = .ok (.iconst 1, 1) := by decide +kernel
theorem dM_isPermutation_37 : decode bM_isPermutation 37 = .ok (.isub, 1) := by decide +kernel
theorem dM_isPermutation_38 : decode bM_isPermutation 38 = .ok (.if_icmp .ne 7, 3) := by decide +kernel
theorem dM_isPermutation_41 : decode bM_isPermutation 41 = .ok (.iconst 1, 1) := by decide +kernel
theorem dM_isPermutation_42 : decode bM_isPermutation 42 = .ok (.goto 4, 3) := by decide +kernel
theorem dM_isPermutation_45 : decode bM_isPermutation 45 = .ok (.iconst 0, 1) := by decide +kernel
theorem dM_isPermutation_46 : decode bM_isPermutation 46 = .ok (.ireturn, 1) := by decide +kernel
theorem dM_findGates_0 : decode bM_findGates 0 = .ok (.aload_n 0, 1) := by decide +kernel
theorem dM_findGates_1 : decode bM_findGates 1 = .ok (.iconst 0, 1) := by decide +kernel
theorem dM_findGates_2 : decode bM_findGates 2 = .ok (.putfield 71, 3) := by decide +kernel
theorem dM_findGates_5 : decode bM_findGates 5 = .ok (.iconst 0, 1) := by decide +kernel
theorem dM_findGates_6 : decode bM_findGates 6 = .ok (.istore_n 1, 1) := by decide +kernel
theorem dM_findGates_7 : decode bM_findGates 7 = .ok (.iload_n 1, 1) := by decide +kernel
theorem dM_findGates_8 : decode bM_findGates 8 = .ok (.aload_n 0, 1) := by decide +kernel
theorem dM_findGates_9 : decode bM_findGates 9 = .ok (.invokevirtual 59, 3) := by decide +kernel
theorem dM_findGates_12 : decode bM_findGates 12 = .ok (.if_icmp .ge 21, 3) := by decide +kernel
theorem dM_findGates_15 : decode bM_findGates 15 = .ok (.aload_n 0, 1) := by decide +kernel
theorem dM_findGates_16 : decode bM_findGates 16 = .ok (.getfield 16, 3) := by decide +kernel
theorem dM_findGates_19 : decode bM_findGates 19 = .ok (.iload_n 1, 1) := by decide +kernel
theorem dM_findGates_20 : decode bM_findGates 20 = .ok (.aload_n 0, 1) := by decide +kernel
theorem dM_findGates_21 : decode bM_findGates 21 = .ok (.getfield 7, 3) := by decide +kernel
theorem dM_findGates_24 : decode bM_findGates 24 = .ok (.iload_n 1, 1) := by decide +kernel
theorem dM_findGates_25 : decode bM_findGates 25 = .ok (.iaload, 1) := by decide +kernel
theorem dM_findGates_26 : decode bM_findGates 26 = .ok (.iastore, 1) := by decide +kernel
theorem dM_findGates_27 : decode bM_findGates 27 = .ok (.iinc 1 1, 3) := by decide +kernel
theorem dM_findGates_30 : decode bM_findGates 30 = .ok (.goto (-23), 3) := by decide +kernel
theorem dM_findGates_33 : decode bM_findGates 33 = .ok (.iconst 0, 1) := by decide +kernel
theorem dM_findGates_34 : decode bM_findGates 34 = .ok (.istore_n 1, 1) := by decide +kernel
theorem dM_findGates_35 : decode bM_findGates 35 = .ok (.iload_n 1, 1) := by decide +kernel
theorem dM_findGates_36 : decode bM_findGates 36 = .ok (.aload_n 0, 1) := by decide +kernel
theorem dM_findGates_37 : decode bM_findGates 37 = .ok (.invokevirtual 59, 3) := by decide +kernel
theorem dM_findGates_40 : decode bM_findGates 40 = .ok (.if_icmp .ge 92, 3) := by decide +kernel
theorem dM_findGates_43 : decode bM_findGates 43 = .ok (.iconst 0, 1) := by decide +kernel
theorem dM_findGates_44 : decode bM_findGates 44 = .ok (.istore_n 2, 1) := by decide +kernel
theorem dM_findGates_45 : decode bM_findGates 45 = .ok (.iload_n 2, 1) := by decide +kernel
theorem dM_findGates_46 : decode bM_findGates 46 = .ok (.aload_n 0, 1) := by decide +kernel
theorem dM_findGates_47 : decode bM_findGates 47 = .ok (.getfield 56, 3) := by decide +kernel
theorem dM_findGates_50 : decode bM_findGates 50 = .ok (.if_icmp .ge 37, 3) := by decide +kernel
theorem dM_findGates_53 : decode bM_findGates 53 = .ok (.iload_n 1, 1) := by decide +kernel
theorem dM_findGates_54 : decode bM_findGates 54 = .ok (.aload_n 0, 1) := by decide +kernel
theorem dM_findGates_55 : decode bM_findGates 55 = .ok (.getfield 16, 3) := by decide +kernel
theorem dM_findGates_58 : decode bM_findGates 58 = .ok (.iload_n 1, 1) := by decide +kernel
theorem dM_findGates_59 : decode bM_findGates 59 = .ok (.iaload, 1) := by decide +kernel
theorem dM_findGates_60 : decode bM_findGates 60 = .ok (.iconst (-1), 1) := by decide +kernel
theorem dM_findGates_61 : decode bM_findGates 61 = .ok (.ixor, 1) := by decide +kernel
theorem dM_findGates_62 : decode bM_findGates 62 = .ok (.iand, 1) := by decide +kernel
theorem dM_findGates_63 : decode bM_findGates 63 = .ok (.iconst 1, 1) := by decide +kernel
theorem dM_findGates_64 : decode bM_findGates 64 = .ok (.iload_n 2, 1) := by decide +kernel
theorem dM_findGates_65 : decode bM_findGates 65 = .ok (.ishl, 1) := by decide +kernel
theorem dM_findGates_66 : decode bM_findGates 66 = .ok (.iand, 1) := by decide +kernel
theorem dM_findGates_67 : decode bM_findGates 67 = .ok (.ifCond .eq 14, 3) := by decide +kernel
theorem dM_findGates_70 : decode bM_findGates 70 = .ok (.aload_n 0, 1) := by decide +kernel
theorem dM_findGates_71 : decode bM_findGates 71 = .ok (.iload_n 2, 1) := by decide +kernel
theorem dM_findGates_72 : decode bM_findGates 72 = .ok (.aload_n 0, 1) := by decide +kernel
theorem dM_findGates_73 : decode bM_findGates 73 = .ok (.getfield 16, 3) := by decide +kernel
theorem dM_findGates_76 : decode bM_findGates 76 = .ok (.iload_n 1, 1) := by decide +kernel
theorem dM_findGates_77 : decode bM_findGates 77 = .ok (.iaload, 1) := by decide +kernel
theorem dM_findGates_78 : decode bM_findGates 78 = .ok (.invokevirtual 74, 3) := by decide +kernel
theorem dM_findGates_81 : decode bM_findGates 81 = .ok (.iinc 2 1, 3) := by decide +kernel
theorem dM_findGates_84 : decode bM_findGates 84 = .ok (.goto (-39), 3) := by decide +kernel
theorem dM_findGates_87 : decode bM_findGates 87 = .ok (.iconst 0, 1) := by decide +kernel
theorem dM_findGates_88 : decode bM_findGates 88 = .ok (.istore_n 2, 1) := by decide +kernel
theorem dM_findGates_89 : decode bM_findGates 89 = .ok (.iload_n 2, 1) := by decide +kernel
theorem dM_findGates_90 : decode bM_findGates 90 = .ok (.aload_n 0, 1) := by decide +kernel
theorem dM_findGates_91 : decode bM_findGates 91 = .ok (.getfield 56, 3) := by decide +kernel
theorem dM_findGates_94 : decode bM_findGates 94 = .ok (.if_icmp .ge 32, 3) := by decide +kernel
theorem dM_findGates_97 : decode bM_findGates 97 = .ok (.aload_n 0, 1) := by decide +kernel
theorem dM_findGates_98 : decode bM_findGates 98 = .ok (.getfield 16, 3) := by decide +kernel
theorem dM_findGates_101 : decode bM_findGates 101 = .ok (.iload_n 1, 1) := by decide +kernel
theorem dM_findGates_102 : decode bM_findGates 102 = .ok (.iaload, 1) := by decide +kernel
theorem dM_findGates_103 : decode bM_findGates 103 = .ok (.iload_n 1, 1) := by decide +kernel
theorem dM_findGates_104 : decode bM_findGates 104 = .ok (.iconst (-1), 1) := by decide +kernel
theorem dM_findGates_105 : decode bM_findGates 105 = .ok (.ixor, 1) := by decide +kernel
theorem dM_findGates_106 : decode bM_findGates 106 = .ok (.iand, 1) := by decide +kernel
theorem dM_findGates_107 : decode bM_findGates 107 = .ok (.iconst 1, 1) := by decide +kernel
theorem dM_findGates_108 : decode bM_findGates 108 = .ok (.iload_n 2, 1) := by decide +kernel
theorem dM_findGates_109 : decode bM_findGates 109 = .ok (.ishl, 1) := by decide +kernel
theorem dM_findGates_110 : decode bM_findGates 110 = .ok (.iand, 1) := by decide +kernel
theorem dM_findGates_111 : decode bM_findGates 111 = .ok (.ifCond .eq 9, 3) := by decide +kernel
theorem dM_findGates_114 : decode bM_findGates 114 = .ok (.aload_n 0, 1) := by decide +kernel
theorem dM_findGates_115 : decode bM_findGates 115 = .ok (.iload_n 2, 1) := by decide +kernel
theorem dM_findGates_116 : decode bM_findGates 116 = .ok (.iload_n 1, 1) := by decide +kernel
theorem dM_findGates_117 : decode bM_findGates 117 = .ok (.invokevirtual 74, 3) := by decide +kernel
theorem dM_findGates_120 : decode bM_findGates 120 = .ok (.iinc 2 1, 3) := by decide +kernel
theorem dM_findGates_123 : decode bM_findGates 123 = .ok (.goto (-34), 3) := by decide +kernel
theorem dM_findGates_126 : decode bM_findGates 126 = .ok (.iinc 1 1, 3) := by decide +kernel
theorem dM_findGates_129 : decode bM_findGates 129 = .ok (.goto (-94), 3) := by decide +kernel
theorem dM_findGates_132 : decode bM_findGates 132 = .ok (.return_, 1) := by decide +kernel
theorem dM_doGate_0 : decode bM_doGate 0 = .ok (.iconst 0, 1) := by decide +kernel
theorem dM_doGate_1 : decode bM_doGate 1 = .ok (.istore_n 3, 1) := by decide +kernel
theorem dM_doGate_2 : decode bM_doGate 2 = .ok (.iload_n 3, 1) := by decide +kernel
theorem dM_doGate_3 : decode bM_doGate 3 = .ok (.aload_n 0, 1) := by decide +kernel
theorem dM_doGate_4 : decode bM_doGate 4 = .ok (.invokevirtual 59, 3) := by decide +kernel
theorem dM_doGate_7 : decode bM_doGate 7 = .ok (.if_icmp .ge 26, 3) := by decide +kernel
theorem dM_doGate_10 : decode bM_doGate 10 = .ok (.aload_n 0, 1) := by decide +kernel
theorem dM_doGate_11 : decode bM_doGate 11 = .ok (.getfield 16, 3) := by decide +kernel
theorem dM_doGate_14 : decode bM_doGate 14 = .ok (.iload_n 3, 1) := by decide +kernel
theorem dM_doGate_15 : decode bM_doGate 15 = .ok (.aload_n 0, 1) := by decide +kernel
theorem dM_doGate_16 : decode bM_doGate 16 = .ok (.getfield 16, 3) := by decide +kernel
theorem dM_doGate_19 : decode bM_doGate 19 = .ok (.iload_n 3, 1) := by decide +kernel
theorem dM_doGate_20 : decode bM_doGate 20 = .ok (.iaload, 1) := by decide +kernel
theorem dM_doGate_21 : decode bM_doGate 21 = .ok (.iload_n 1, 1) := by decide +kernel
theorem dM_doGate_22 : decode bM_doGate 22 = .ok (.iload_n 2, 1) := by decide +kernel
theorem dM_doGate_23 : decode bM_doGate 23 = .ok (.invokestatic 67, 3) := by decide +kernel
theorem dM_doGate_26 : decode bM_doGate 26 = .ok (.iastore, 1) := by decide +kernel
theorem dM_doGate_27 : decode bM_doGate 27 = .ok (.iinc 3 1, 3) := by decide +kernel
theorem dM_doGate_30 : decode bM_doGate 30 = .ok (.goto (-28), 3) := by decide +kernel
theorem dM_doGate_33 : decode bM_doGate 33 = .ok (.aload_n 0, 1) := by decide +kernel
theorem dM_doGate_34 : decode bM_doGate 34 = .ok (.getfield 19, 3) := by decide +kernel
theorem dM_doGate_37 : decode bM_doGate 37 = .ok (.aload_n 0, 1) := by decide +kernel
theorem dM_doGate_38 : decode bM_doGate 38 = .ok (.getfield 71, 3) := by decide +kernel
theorem dM_doGate_41 : decode bM_doGate 41 = .ok (.bipush 16, 2) := by decide +kernel
theorem dM_doGate_43 : decode bM_doGate 43 = .ok (.iload_n 1, 1) := by decide +kernel
theorem dM_doGate_44 : decode bM_doGate 44 = .ok (.imul, 1) := by decide +kernel
theorem dM_doGate_45 : decode bM_doGate 45 = .ok (.iload_n 2, 1) := by decide +kernel
theorem dM_doGate_46 : decode bM_doGate 46 = .ok (.iadd, 1) := by decide +kernel
theorem dM_doGate_47 : decode bM_doGate 47 = .ok (.iastore, 1) := by decide +kernel
theorem dM_doGate_48 : decode bM_doGate 48 = .ok (.aload_n 0, 1) := by decide +kernel
theorem dM_doGate_49 : decode bM_doGate 49 = .ok (.dup, 1) := by decide +kernel
theorem dM_doGate_50 : decode bM_doGate 50 = .ok (.getfield 71, 3) := by decide +kernel
theorem dM_doGate_53 : decode bM_doGate 53 = .ok (.iconst 1, 1) := by decide +kernel
theorem dM_doGate_54 : decode bM_doGate 54 = .ok (.iadd, 1) := by decide +kernel
theorem dM_doGate_55 : decode bM_doGate 55 = .ok (.putfield 71, 3) := by decide +kernel
theorem dM_doGate_58 : decode bM_doGate 58 = .ok (.return_, 1) := by decide +kernel
theorem dM_look_0 : decode bM_look 0 = .ok (.aload_n 0, 1) := by decide +kernel
theorem dM_look_1 : decode bM_look 1 = .ok (.iconst 0, 1) := by decide +kernel
theorem dM_look_2 : decode bM_look 2 = .ok (.putfield 53, 3) := by decide +kernel
theorem dM_look_5 : decode bM_look 5 = .ok (.aload_n 0, 1) := by decide +kernel
theorem dM_look_6 : decode bM_look 6 = .ok (.iload_n 1, 1) := by decide +kernel
theorem dM_look_7 : decode bM_look 7 = .ok (.invokevirtual 63, 3) := by decide +kernel
theorem dM_look_10 : decode bM_look 10 = .ok (.ifCond .eq 12, 3) := by decide +kernel
theorem dM_look_13 : decode bM_look 13 = .ok (.aload_n 0, 1) := by decide +kernel
theorem dM_look_14 : decode bM_look 14 = .ok (.getfield 7, 3) := by decide +kernel
theorem dM_look_17 : decode bM_look 17 = .ok (.iload_n 1, 1) := by decide +kernel
theorem dM_look_18 : decode bM_look 18 = .ok (.iaload, 1) := by decide +kernel
theorem dM_look_19 : decode bM_look 19 = .ok (.goto 4, 3) := by decide +kernel
theorem dM_look_22 : decode bM_look 22 = .ok (.iconst (-1), 1) := by decide +kernel
theorem dM_look_23 : decode bM_look 23 = .ok (.ireturn, 1) := by decide +kernel
theorem dM_form_0 : decode bM_form 0 = .ok (.aload_n 0, 1) := by decide +kernel
theorem dM_form_1 : decode bM_form 1 = .ok (.iconst 0, 1) := by decide +kernel
theorem dM_form_2 : decode bM_form 2 = .ok (.putfield 53, 3) := by decide +kernel
theorem dM_form_5 : decode bM_form 5 = .ok (.iload_n 1, 1) := by decide +kernel
theorem dM_form_6 : decode bM_form 6 = .ok (.ifCond .lt 16, 3) := by decide +kernel
theorem dM_form_9 : decode bM_form 9 = .ok (.iload_n 1, 1) := by decide +kernel
theorem dM_form_10 : decode bM_form 10 = .ok (.aload_n 0, 1) := by decide +kernel
theorem dM_form_11 : decode bM_form 11 = .ok (.invokevirtual 95, 3) := by decide +kernel
theorem dM_form_14 : decode bM_form 14 = .ok (.if_icmp .ge 8, 3) := by decide +kernel
theorem dM_form_17 : decode bM_form 17 = .ok (.iload_n 2, 1) := by decide +kernel
theorem dM_form_18 : decode bM_form 18 = .ok (.iconst (-1), 1) := by decide +kernel
theorem dM_form_19 : decode bM_form 19 = .ok (.if_icmp .ge 5, 3) := by decide +kernel
theorem dM_form_22 : decode bM_form 22 = .ok (.iconst (-1), 1) := by decide +kernel
theorem dM_form_23 : decode bM_form 23 = .ok (.ireturn, 1) := by decide +kernel
theorem dM_form_24 : decode bM_form 24 = .ok (.aload_n 0, 1) := by decide +kernel
theorem dM_form_25 : decode bM_form 25 = .ok (.invokevirtual 101, 3) := by decide +kernel
theorem dM_form_28 : decode bM_form 28 = .ok (.iload_n 2, 1) := by decide +kernel
theorem dM_form_29 : decode bM_form 29 = .ok (.iconst (-1), 1) := by decide +kernel
theorem dM_form_30 : decode bM_form 30 = .ok (.if_icmp .ne 14, 3) := by decide +kernel
theorem dM_form_33 : decode bM_form 33 = .ok (.aload_n 0, 1) := by decide +kernel
theorem dM_form_34 : decode bM_form 34 = .ok (.getfield 27, 3) := by decide +kernel
theorem dM_form_37 : decode bM_form 37 = .ok (.aload_n 0, 1) := by decide +kernel
theorem dM_form_38 : decode bM_form 38 = .ok (.iload_n 1, 1) := by decide +kernel
theorem dM_form_39 : decode bM_form 39 = .ok (.invokevirtual 98, 3) := by decide +kernel
theorem dM_form_42 : decode bM_form 42 = .ok (.iaload, 1) := by decide +kernel
theorem dM_form_43 : decode bM_form 43 = .ok (.ireturn, 1) := by decide +kernel
theorem dM_form_44 : decode bM_form 44 = .ok (.iload_n 1, 1) := by decide +kernel
theorem dM_form_45 : decode bM_form 45 = .ok (.istore_n 3, 1) := by decide +kernel
theorem dM_form_46 : decode bM_form 46 = .ok (.iconst (-1), 1) := by decide +kernel
theorem dM_form_47 : decode bM_form 47 = .ok (.istore 4, 2) := by decide +kernel
theorem dM_form_49 : decode bM_form 49 = .ok (.iconst 0, 1) := by decide +kernel
theorem dM_form_50 : decode bM_form 50 = .ok (.istore 5, 2) := by decide +kernel
theorem dM_form_52 : decode bM_form 52 = .ok (.iload 5, 2) := by decide +kernel
theorem dM_form_54 : decode bM_form 54 = .ok (.iload_n 2, 1) := by decide +kernel
theorem dM_form_55 : decode bM_form 55 = .ok (.if_icmp .gt 75, 3) := by decide +kernel
theorem dM_form_58 : decode bM_form 58 = .ok (.iload_n 3, 1) := by decide +kernel
theorem dM_form_59 : decode bM_form 59 = .ok (.ifCond .ne 5, 3) := by decide +kernel
theorem dM_form_62 : decode bM_form 62 = .ok (.iconst (-1), 1) := by decide +kernel
theorem dM_form_63 : decode bM_form 63 = .ok (.ireturn, 1) := by decide +kernel
theorem dM_form_64 : decode bM_form 64 = .ok (.iconst 0, 1) := by decide +kernel
theorem dM_form_65 : decode bM_form 65 = .ok (.istore 4, 2) := by decide +kernel
theorem dM_form_67 : decode bM_form 67 = .ok (.aload_n 0, 1) := by decide +kernel
theorem dM_form_68 : decode bM_form 68 = .ok (.getfield 27, 3) := by decide +kernel
theorem dM_form_71 : decode bM_form 71 = .ok (.aload_n 0, 1) := by decide +kernel
theorem dM_form_72 : decode bM_form 72 = .ok (.iload_n 3, 1) := by decide +kernel
theorem dM_form_73 : decode bM_form 73 = .ok (.aload_n 0, 1) := by decide +kernel
theorem dM_form_74 : decode bM_form 74 = .ok (.getfield 30, 3) := by decide +kernel
theorem dM_form_77 : decode bM_form 77 = .ok (.aload_n 0, 1) := by decide +kernel
theorem dM_form_78 : decode bM_form 78 = .ok (.iload 4, 2) := by decide +kernel
theorem dM_form_80 : decode bM_form 80 = .ok (.invokevirtual 88, 3) := by decide +kernel
theorem dM_form_83 : decode bM_form 83 = .ok (.iaload, 1) := by decide +kernel
theorem dM_form_84 : decode bM_form 84 = .ok (.ixor, 1) := by decide +kernel
theorem dM_form_85 : decode bM_form 85 = .ok (.invokevirtual 98, 3) := by decide +kernel
theorem dM_form_88 : decode bM_form 88 = .ok (.iaload, 1) := by decide +kernel
theorem dM_form_89 : decode bM_form 89 = .ok (.aload_n 0, 1) := by decide +kernel
theorem dM_form_90 : decode bM_form 90 = .ok (.getfield 27, 3) := by decide +kernel
theorem dM_form_93 : decode bM_form 93 = .ok (.aload_n 0, 1) := by decide +kernel
theorem dM_form_94 : decode bM_form 94 = .ok (.iload_n 3, 1) := by decide +kernel
theorem dM_form_95 : decode bM_form 95 = .ok (.invokevirtual 98, 3) := by decide +kernel
theorem dM_form_98 : decode bM_form 98 = .ok (.iaload, 1) := by decide +kernel
theorem dM_form_99 : decode bM_form 99 = .ok (.iconst 1, 1) := by decide +kernel
theorem dM_form_100 : decode bM_form 100 = .ok (.isub, 1) := by decide +kernel
theorem dM_form_101 : decode bM_form 101 = .ok (.if_icmp .eq 9, 3) := by decide +kernel
theorem dM_form_104 : decode bM_form 104 = .ok (.iinc 4 1, 3) := by decide +kernel
theorem dM_form_107 : decode bM_form 107 = .ok (.goto (-40), 3) := by decide +kernel
theorem dM_form_110 : decode bM_form 110 = .ok (.iload_n 3, 1) := by decide +kernel
theorem dM_form_111 : decode bM_form 111 = .ok (.aload_n 0, 1) := by decide +kernel
theorem dM_form_112 : decode bM_form 112 = .ok (.getfield 30, 3) := by decide +kernel
theorem dM_form_115 : decode bM_form 115 = .ok (.aload_n 0, 1) := by decide +kernel
theorem dM_form_116 : decode bM_form 116 = .ok (.iload 4, 2) := by decide +kernel
theorem dM_form_118 : decode bM_form 118 = .ok (.invokevirtual 88, 3) := by decide +kernel
theorem dM_form_121 : decode bM_form 121 = .ok (.iaload, 1) := by decide +kernel
theorem dM_form_122 : decode bM_form 122 = .ok (.ixor, 1) := by decide +kernel
theorem dM_form_123 : decode bM_form 123 = .ok (.istore_n 3, 1) := by decide +kernel
theorem dM_form_124 : decode bM_form 124 = .ok (.iinc 5 1, 3) := by decide +kernel
theorem dM_form_127 : decode bM_form 127 = .ok (.goto (-75), 3) := by decide +kernel
theorem dM_form_130 : decode bM_form 130 = .ok (.iload 4, 2) := by decide +kernel
theorem dM_form_132 : decode bM_form 132 = .ok (.ireturn, 1) := by decide +kernel
theorem dM_functions_0 : decode bM_functions 0 = .ok (.iconst 1, 1) := by decide +kernel
theorem dM_functions_1 : decode bM_functions 1 = .ok (.aload_n 0, 1) := by decide +kernel
theorem dM_functions_2 : decode bM_functions 2 = .ok (.invokevirtual 59, 3) := by decide +kernel
theorem dM_functions_5 : decode bM_functions 5 = .ok (.ishl, 1) := by decide +kernel
theorem dM_functions_6 : decode bM_functions 6 = .ok (.ireturn, 1) := by decide +kernel
theorem dM_findCosts_0 : decode bM_findCosts 0 = .ok (.aload_n 0, 1) := by decide +kernel
theorem dM_findCosts_1 : decode bM_findCosts 1 = .ok (.getfield 22, 3) := by decide +kernel
theorem dM_findCosts_4 : decode bM_findCosts 4 = .ok (.aload_n 0, 1) := by decide +kernel
theorem dM_findCosts_5 : decode bM_findCosts 5 = .ok (.getfield 56, 3) := by decide +kernel
theorem dM_findCosts_8 : decode bM_findCosts 8 = .ok (.baload, 1) := by decide +kernel
theorem dM_findCosts_9 : decode bM_findCosts 9 = .ok (.ifCond .eq 4, 3) := by decide +kernel
theorem dM_findCosts_12 : decode bM_findCosts 12 = .ok (.return_, 1) := by decide +kernel
theorem dM_findCosts_13 : decode bM_findCosts 13 = .ok (.aload_n 0, 1) := by decide +kernel
theorem dM_findCosts_14 : decode bM_findCosts 14 = .ok (.getfield 22, 3) := by decide +kernel
theorem dM_findCosts_17 : decode bM_findCosts 17 = .ok (.aload_n 0, 1) := by decide +kernel
theorem dM_findCosts_18 : decode bM_findCosts 18 = .ok (.getfield 56, 3) := by decide +kernel
theorem dM_findCosts_21 : decode bM_findCosts 21 = .ok (.iconst 1, 1) := by decide +kernel
theorem dM_findCosts_22 : decode bM_findCosts 22 = .ok (.bastore, 1) := by decide +kernel
theorem dM_findCosts_23 : decode bM_findCosts 23 = .ok (.iconst 0, 1) := by decide +kernel
theorem dM_findCosts_24 : decode bM_findCosts 24 = .ok (.istore_n 1, 1) := by decide +kernel
theorem dM_findCosts_25 : decode bM_findCosts 25 = .ok (.iload_n 1, 1) := by decide +kernel
theorem dM_findCosts_26 : decode bM_findCosts 26 = .ok (.aload_n 0, 1) := by decide +kernel
theorem dM_findCosts_27 : decode bM_findCosts 27 = .ok (.invokevirtual 85, 3) := by decide +kernel
theorem dM_findCosts_30 : decode bM_findCosts 30 = .ok (.if_icmp .ge 24, 3) := by decide +kernel
theorem dM_findCosts_33 : decode bM_findCosts 33 = .ok (.aload_n 0, 1) := by decide +kernel
theorem dM_findCosts_34 : decode bM_findCosts 34 = .ok (.getfield 30, 3) := by decide +kernel
theorem dM_findCosts_37 : decode bM_findCosts 37 = .ok (.aload_n 0, 1) := by decide +kernel
theorem dM_findCosts_38 : decode bM_findCosts 38 = .ok (.iload_n 1, 1) := by decide +kernel
theorem dM_findCosts_39 : decode bM_findCosts 39 = .ok (.invokevirtual 88, 3) := by decide +kernel
theorem dM_findCosts_42 : decode bM_findCosts 42 = .ok (.aload_n 0, 1) := by decide +kernel
theorem dM_findCosts_43 : decode bM_findCosts 43 = .ok (.iload_n 1, 1) := by decide +kernel
theorem dM_findCosts_44 : decode bM_findCosts 44 = .ok (.invokevirtual 92, 3) := by decide +kernel
theorem dM_findCosts_47 : decode bM_findCosts 47 = .ok (.iastore, 1) := by decide +kernel
theorem dM_findCosts_48 : decode bM_findCosts 48 = .ok (.iinc 1 1, 3) := by decide +kernel
theorem dM_findCosts_51 : decode bM_findCosts 51 = .ok (.goto (-26), 3) := by decide +kernel
theorem dM_findCosts_54 : decode bM_findCosts 54 = .ok (.iconst 0, 1) := by decide +kernel
theorem dM_findCosts_55 : decode bM_findCosts 55 = .ok (.istore_n 1, 1) := by decide +kernel
theorem dM_findCosts_56 : decode bM_findCosts 56 = .ok (.iload_n 1, 1) := by decide +kernel
theorem dM_findCosts_57 : decode bM_findCosts 57 = .ok (.aload_n 0, 1) := by decide +kernel
theorem dM_findCosts_58 : decode bM_findCosts 58 = .ok (.invokevirtual 95, 3) := by decide +kernel
theorem dM_findCosts_61 : decode bM_findCosts 61 = .ok (.if_icmp .ge 20, 3) := by decide +kernel
theorem dM_findCosts_64 : decode bM_findCosts 64 = .ok (.aload_n 0, 1) := by decide +kernel
theorem dM_findCosts_65 : decode bM_findCosts 65 = .ok (.getfield 27, 3) := by decide +kernel
theorem dM_findCosts_68 : decode bM_findCosts 68 = .ok (.aload_n 0, 1) := by decide +kernel
theorem dM_findCosts_69 : decode bM_findCosts 69 = .ok (.iload_n 1, 1) := by decide +kernel
theorem dM_findCosts_70 : decode bM_findCosts 70 = .ok (.invokevirtual 98, 3) := by decide +kernel
theorem dM_findCosts_73 : decode bM_findCosts 73 = .ok (.iconst (-1), 1) := by decide +kernel
theorem dM_findCosts_74 : decode bM_findCosts 74 = .ok (.iastore, 1) := by decide +kernel
theorem dM_findCosts_75 : decode bM_findCosts 75 = .ok (.iinc 1 1, 3) := by decide +kernel
theorem dM_findCosts_78 : decode bM_findCosts 78 = .ok (.goto (-22), 3) := by decide +kernel
theorem dM_findCosts_81 : decode bM_findCosts 81 = .ok (.aload_n 0, 1) := by decide +kernel
theorem dM_findCosts_82 : decode bM_findCosts 82 = .ok (.getfield 27, 3) := by decide +kernel
theorem dM_findCosts_85 : decode bM_findCosts 85 = .ok (.aload_n 0, 1) := by decide +kernel
theorem dM_findCosts_86 : decode bM_findCosts 86 = .ok (.iconst 0, 1) := by decide +kernel
theorem dM_findCosts_87 : decode bM_findCosts 87 = .ok (.invokevirtual 98, 3) := by decide +kernel
theorem dM_findCosts_90 : decode bM_findCosts 90 = .ok (.iconst 0, 1) := by decide +kernel
theorem dM_findCosts_91 : decode bM_findCosts 91 = .ok (.iastore, 1) := by decide +kernel
theorem dM_findCosts_92 : decode bM_findCosts 92 = .ok (.iconst 1, 1) := by decide +kernel
theorem dM_findCosts_93 : decode bM_findCosts 93 = .ok (.istore_n 1, 1) := by decide +kernel
theorem dM_findCosts_94 : decode bM_findCosts 94 = .ok (.iconst 0, 1) := by decide +kernel
theorem dM_findCosts_95 : decode bM_findCosts 95 = .ok (.istore_n 2, 1) := by decide +kernel
theorem dM_findCosts_96 : decode bM_findCosts 96 = .ok (.iload_n 1, 1) := by decide +kernel
theorem dM_findCosts_97 : decode bM_findCosts 97 = .ok (.ifCond .eq 107, 3) := by decide +kernel
theorem dM_findCosts_100 : decode bM_findCosts 100 = .ok (.iconst 0, 1) := by decide +kernel
theorem dM_findCosts_101 : decode bM_findCosts 101 = .ok (.istore_n 1, 1) := by decide +kernel
theorem dM_findCosts_102 : decode bM_findCosts 102 = .ok (.iconst 0, 1) := by decide +kernel
theorem dM_findCosts_103 : decode bM_findCosts 103 = .ok (.istore_n 3, 1) := by decide +kernel
theorem dM_findCosts_104 : decode bM_findCosts 104 = .ok (.iload_n 3, 1) := by decide +kernel
theorem dM_findCosts_105 : decode bM_findCosts 105 = .ok (.aload_n 0, 1) := by decide +kernel
theorem dM_findCosts_106 : decode bM_findCosts 106 = .ok (.invokevirtual 95, 3) := by decide +kernel
theorem dM_findCosts_109 : decode bM_findCosts 109 = .ok (.if_icmp .ge 89, 3) := by decide +kernel
theorem dM_findCosts_112 : decode bM_findCosts 112 = .ok (.aload_n 0, 1) := by decide +kernel
theorem dM_findCosts_113 : decode bM_findCosts 113 = .ok (.getfield 27, 3) := by decide +kernel
theorem dM_findCosts_116 : decode bM_findCosts 116 = .ok (.aload_n 0, 1) := by decide +kernel
theorem dM_findCosts_117 : decode bM_findCosts 117 = .ok (.iload_n 3, 1) := by decide +kernel
theorem dM_findCosts_118 : decode bM_findCosts 118 = .ok (.invokevirtual 98, 3) := by decide +kernel
theorem dM_findCosts_121 : decode bM_findCosts 121 = .ok (.iaload, 1) := by decide +kernel
theorem dM_findCosts_122 : decode bM_findCosts 122 = .ok (.iload_n 2, 1) := by decide +kernel
theorem dM_findCosts_123 : decode bM_findCosts 123 = .ok (.if_icmp .eq 6, 3) := by decide +kernel
theorem dM_findCosts_126 : decode bM_findCosts 126 = .ok (.goto 66, 3) := by decide +kernel
theorem dM_findCosts_129 : decode bM_findCosts 129 = .ok (.iconst 0, 1) := by decide +kernel
theorem dM_findCosts_130 : decode bM_findCosts 130 = .ok (.istore 4, 2) := by decide +kernel
theorem dM_findCosts_132 : decode bM_findCosts 132 = .ok (.iload 4, 2) := by decide +kernel
theorem dM_findCosts_134 : decode bM_findCosts 134 = .ok (.aload_n 0, 1) := by decide +kernel
theorem dM_findCosts_135 : decode bM_findCosts 135 = .ok (.invokevirtual 85, 3) := by decide +kernel
theorem dM_findCosts_138 : decode bM_findCosts 138 = .ok (.if_icmp .ge 54, 3) := by decide +kernel
theorem dM_findCosts_141 : decode bM_findCosts 141 = .ok (.aload_n 0, 1) := by decide +kernel
theorem dM_findCosts_142 : decode bM_findCosts 142 = .ok (.iload_n 3, 1) := by decide +kernel
theorem dM_findCosts_143 : decode bM_findCosts 143 = .ok (.aload_n 0, 1) := by decide +kernel
theorem dM_findCosts_144 : decode bM_findCosts 144 = .ok (.getfield 30, 3) := by decide +kernel
theorem dM_findCosts_147 : decode bM_findCosts 147 = .ok (.aload_n 0, 1) := by decide +kernel
theorem dM_findCosts_148 : decode bM_findCosts 148 = .ok (.iload 4, 2) := by decide +kernel
theorem dM_findCosts_150 : decode bM_findCosts 150 = .ok (.invokevirtual 88, 3) := by decide +kernel
theorem dM_findCosts_153 : decode bM_findCosts 153 = .ok (.iaload, 1) := by decide +kernel
theorem dM_findCosts_154 : decode bM_findCosts 154 = .ok (.ixor, 1) := by decide +kernel
theorem dM_findCosts_155 : decode bM_findCosts 155 = .ok (.invokevirtual 98, 3) := by decide +kernel
theorem dM_findCosts_158 : decode bM_findCosts 158 = .ok (.istore 5, 2) := by decide +kernel
theorem dM_findCosts_160 : decode bM_findCosts 160 = .ok (.aload_n 0, 1) := by decide +kernel
theorem dM_findCosts_161 : decode bM_findCosts 161 = .ok (.getfield 27, 3) := by decide +kernel
theorem dM_findCosts_164 : decode bM_findCosts 164 = .ok (.iload 5, 2) := by decide +kernel
theorem dM_findCosts_166 : decode bM_findCosts 166 = .ok (.iaload, 1) := by decide +kernel
theorem dM_findCosts_167 : decode bM_findCosts 167 = .ok (.iconst (-1), 1) := by decide +kernel
theorem dM_findCosts_168 : decode bM_findCosts 168 = .ok (.if_icmp .eq 6, 3) := by decide +kernel
theorem dM_findCosts_171 : decode bM_findCosts 171 = .ok (.goto 15, 3) := by decide +kernel
theorem dM_findCosts_174 : decode bM_findCosts 174 = .ok (.aload_n 0, 1) := by decide +kernel
theorem dM_findCosts_175 : decode bM_findCosts 175 = .ok (.getfield 27, 3) := by decide +kernel
theorem dM_findCosts_178 : decode bM_findCosts 178 = .ok (.iload 5, 2) := by decide +kernel
theorem dM_findCosts_180 : decode bM_findCosts 180 = .ok (.iload_n 2, 1) := by decide +kernel
theorem dM_findCosts_181 : decode bM_findCosts 181 = .ok (.iconst 1, 1) := by decide +kernel
theorem dM_findCosts_182 : decode bM_findCosts 182 = .ok (.iadd, 1) := by decide +kernel
theorem dM_findCosts_183 : decode bM_findCosts 183 = .ok (.iastore, 1) := by decide +kernel
theorem dM_findCosts_184 : decode bM_findCosts 184 = .ok (.iconst 1, 1) := by decide +kernel
theorem dM_findCosts_185 : decode bM_findCosts 185 = .ok (.istore_n 1, 1) := by decide +kernel
theorem dM_findCosts_186 : decode bM_findCosts 186 = .ok (.iinc 4 1, 3) := by decide +kernel
theorem dM_findCosts_189 : decode bM_findCosts 189 = .ok (.goto (-57), 3) := by decide +kernel
theorem dM_findCosts_192 : decode bM_findCosts 192 = .ok (.iinc 3 1, 3) := by decide +kernel
theorem dM_findCosts_195 : decode bM_findCosts 195 = .ok (.goto (-91), 3) := by decide +kernel
theorem dM_findCosts_198 : decode bM_findCosts 198 = .ok (.iinc 2 1, 3) := by decide +kernel
theorem dM_findCosts_201 : decode bM_findCosts 201 = .ok (.goto (-105), 3) := by decide +kernel
theorem dM_findCosts_204 : decode bM_findCosts 204 = .ok (.return_, 1) := by decide +kernel
theorem dM_products_0 : decode bM_products 0 = .ok (.iconst 1, 1) := by decide +kernel
theorem dM_products_1 : decode bM_products 1 = .ok (.istore_n 1, 1) := by decide +kernel
theorem dM_products_2 : decode bM_products 2 = .ok (.iconst 0, 1) := by decide +kernel
theorem dM_products_3 : decode bM_products 3 = .ok (.istore_n 2, 1) := by decide +kernel
theorem dM_products_4 : decode bM_products 4 = .ok (.iload_n 2, 1) := by decide +kernel
theorem dM_products_5 : decode bM_products 5 = .ok (.aload_n 0, 1) := by decide +kernel
theorem dM_products_6 : decode bM_products 6 = .ok (.getfield 56, 3) := by decide +kernel
theorem dM_products_9 : decode bM_products 9 = .ok (.if_icmp .ge 13, 3) := by decide +kernel
theorem dM_products_12 : decode bM_products 12 = .ok (.iconst 3, 1) := by decide +kernel
theorem dM_products_13 : decode bM_products 13 = .ok (.iload_n 1, 1) := by decide +kernel
theorem dM_products_14 : decode bM_products 14 = .ok (.imul, 1) := by decide +kernel
theorem dM_products_15 : decode bM_products 15 = .ok (.istore_n 1, 1) := by decide +kernel
theorem dM_products_16 : decode bM_products 16 = .ok (.iinc 2 1, 3) := by decide +kernel
theorem dM_products_19 : decode bM_products 19 = .ok (.goto (-15), 3) := by decide +kernel
theorem dM_products_22 : decode bM_products 22 = .ok (.iload_n 1, 1) := by decide +kernel
theorem dM_products_23 : decode bM_products 23 = .ok (.ireturn, 1) := by decide +kernel
theorem dM_productAt_0 : decode bM_productAt 0 = .ok (.iload_n 1, 1) := by decide +kernel
theorem dM_productAt_1 : decode bM_productAt 1 = .ok (.aload_n 0, 1) := by decide +kernel
theorem dM_productAt_2 : decode bM_productAt 2 = .ok (.getfield 56, 3) := by decide +kernel
theorem dM_productAt_5 : decode bM_productAt 5 = .ok (.iconst 1, 1) := by decide +kernel
theorem dM_productAt_6 : decode bM_productAt 6 = .ok (.if_icmp .ne 7, 3) := by decide +kernel
theorem dM_productAt_9 : decode bM_productAt 9 = .ok (.iconst 0, 1) := by decide +kernel
theorem dM_productAt_10 : decode bM_productAt 10 = .ok (.goto 30, 3) := by decide +kernel
theorem dM_productAt_13 : decode bM_productAt 13 = .ok (.aload_n 0, 1) := by decide +kernel
theorem dM_productAt_14 : decode bM_productAt 14 = .ok (.getfield 56, 3) := by decide +kernel
theorem dM_productAt_17 : decode bM_productAt 17 = .ok (.iconst 2, 1) := by decide +kernel
theorem dM_productAt_18 : decode bM_productAt 18 = .ok (.if_icmp .ne 7, 3) := by decide +kernel
theorem dM_productAt_21 : decode bM_productAt 21 = .ok (.iconst 3, 1) := by decide +kernel
theorem dM_productAt_22 : decode bM_productAt 22 = .ok (.goto 18, 3) := by decide +kernel
theorem dM_productAt_25 : decode bM_productAt 25 = .ok (.aload_n 0, 1) := by decide +kernel
theorem dM_productAt_26 : decode bM_productAt 26 = .ok (.getfield 56, 3) := by decide +kernel
theorem dM_productAt_29 : decode bM_productAt 29 = .ok (.iconst 3, 1) := by decide +kernel
theorem dM_productAt_30 : decode bM_productAt 30 = .ok (.if_icmp .ne 8, 3) := by decide +kernel
theorem dM_productAt_33 : decode bM_productAt 33 = .ok (.bipush 12, 2) := by decide +kernel
theorem dM_productAt_35 : decode bM_productAt 35 = .ok (.goto 5, 3) := by decide +kernel
theorem dM_productAt_38 : decode bM_productAt 38 = .ok (.bipush 39, 2) := by decide +kernel
theorem dM_productAt_40 : decode bM_productAt 40 = .ok (.iadd, 1) := by decide +kernel
theorem dM_productAt_41 : decode bM_productAt 41 = .ok (.ireturn, 1) := by decide +kernel
theorem dM_functionFor_0 : decode bM_functionFor 0 = .ok (.iconst 0, 1) := by decide +kernel
theorem dM_functionFor_1 : decode bM_functionFor 1 = .ok (.istore_n 2, 1) := by decide +kernel
theorem dM_functionFor_2 : decode bM_functionFor 2 = .ok (.iconst 0, 1) := by decide +kernel
theorem dM_functionFor_3 : decode bM_functionFor 3 = .ok (.istore_n 3, 1) := by decide +kernel
theorem dM_functionFor_4 : decode bM_functionFor 4 = .ok (.iload_n 3, 1) := by decide +kernel
theorem dM_functionFor_5 : decode bM_functionFor 5 = .ok (.aload_n 0, 1) := by decide +kernel
theorem dM_functionFor_6 : decode bM_functionFor 6 = .ok (.invokevirtual 59, 3) := by decide +kernel
theorem dM_functionFor_9 : decode bM_functionFor 9 = .ok (.if_icmp .ge 106, 3) := by decide +kernel
theorem dM_functionFor_12 : decode bM_functionFor 12 = .ok (.iconst 1, 1) := by decide +kernel
theorem dM_functionFor_13 : decode bM_functionFor 13 = .ok (.istore 4, 2) := by decide +kernel
theorem dM_functionFor_15 : decode bM_functionFor 15 = .ok (.iload_n 1, 1) := by decide +kernel
theorem dM_functionFor_16 : decode bM_functionFor 16 = .ok (.istore 5, 2) := by decide +kernel
theorem dM_functionFor_18 : decode bM_functionFor 18 = .ok (.iconst 0, 1) := by decide +kernel
theorem dM_functionFor_19 : decode bM_functionFor 19 = .ok (.istore 6, 2) := by decide +kernel
theorem dM_functionFor_21 : decode bM_functionFor 21 = .ok (.iload 6, 2) := by decide +kernel
theorem dM_functionFor_23 : decode bM_functionFor 23 = .ok (.aload_n 0, 1) := by decide +kernel
theorem dM_functionFor_24 : decode bM_functionFor 24 = .ok (.getfield 56, 3) := by decide +kernel
theorem dM_functionFor_27 : decode bM_functionFor 27 = .ok (.if_icmp .ge 67, 3) := by decide +kernel
theorem dM_functionFor_30 : decode bM_functionFor 30 = .ok (.iload 5, 2) := by decide +kernel
theorem dM_functionFor_32 : decode bM_functionFor 32 = .ok (.iconst 3, 1) := by decide +kernel
theorem dM_functionFor_33 : decode bM_functionFor 33 = .ok (.irem, 1) := by decide +kernel
theorem dM_functionFor_34 : decode bM_functionFor 34 = .ok (.istore 7, 2) := by decide +kernel
theorem dM_functionFor_36 : decode bM_functionFor 36 = .ok (.iload 5, 2) := by decide +kernel
theorem dM_functionFor_38 : decode bM_functionFor 38 = .ok (.iconst 3, 1) := by decide +kernel
theorem dM_functionFor_39 : decode bM_functionFor 39 = .ok (.idiv, 1) := by decide +kernel
theorem dM_functionFor_40 : decode bM_functionFor 40 = .ok (.istore 5, 2) := by decide +kernel
theorem dM_functionFor_42 : decode bM_functionFor 42 = .ok (.iload 4, 2) := by decide +kernel
theorem dM_functionFor_44 : decode bM_functionFor 44 = .ok (.ifCond .eq 41, 3) := by decide +kernel
theorem dM_functionFor_47 : decode bM_functionFor 47 = .ok (.iload 7, 2) := by decide +kernel
theorem dM_functionFor_49 : decode bM_functionFor 49 = .ok (.ifCond .eq 32, 3) := by decide +kernel
theorem dM_functionFor_52 : decode bM_functionFor 52 = .ok (.iload 7, 2) := by decide +kernel
theorem dM_functionFor_54 : decode bM_functionFor 54 = .ok (.iconst 1, 1) := by decide +kernel
theorem dM_functionFor_55 : decode bM_functionFor 55 = .ok (.if_icmp .ne 7, 3) := by decide +kernel
theorem dM_functionFor_58 : decode bM_functionFor 58 = .ok (.iconst 1, 1) := by decide +kernel
theorem dM_functionFor_59 : decode bM_functionFor 59 = .ok (.goto 4, 3) := by decide +kernel
theorem dM_functionFor_62 : decode bM_functionFor 62 = .ok (.iconst 0, 1) := by decide +kernel
theorem dM_functionFor_63 : decode bM_functionFor 63 = .ok (.iload_n 3, 1) := by decide +kernel
theorem dM_functionFor_64 : decode bM_functionFor 64 = .ok (.iload 6, 2) := by decide +kernel
theorem dM_functionFor_66 : decode bM_functionFor 66 = .ok (.ishr, 1) := by decide +kernel
theorem dM_functionFor_67 : decode bM_functionFor 67 = .ok (.iconst 1, 1) := by decide +kernel
theorem dM_functionFor_68 : decode bM_functionFor 68 = .ok (.iand, 1) := by decide +kernel
theorem dM_functionFor_69 : decode bM_functionFor 69 = .ok (.iconst 1, 1) := by decide +kernel
theorem dM_functionFor_70 : decode bM_functionFor 70 = .ok (.if_icmp .ne 7, 3) := by decide +kernel
theorem dM_functionFor_73 : decode bM_functionFor 73 = .ok (.iconst 1, 1) := by decide +kernel
theorem dM_functionFor_74 : decode bM_functionFor 74 = .ok (.goto 4, 3) := by decide +kernel
theorem dM_functionFor_77 : decode bM_functionFor 77 = .ok (.iconst 0, 1) := by decide +kernel
theorem dM_functionFor_78 : decode bM_functionFor 78 = .ok (.if_icmp .ne 7, 3) := by decide +kernel
theorem dM_functionFor_81 : decode bM_functionFor 81 = .ok (.iconst 1, 1) := by decide +kernel
theorem dM_functionFor_82 : decode bM_functionFor 82 = .ok (.goto 4, 3) := by decide +kernel
theorem dM_functionFor_85 : decode bM_functionFor 85 = .ok (.iconst 0, 1) := by decide +kernel
theorem dM_functionFor_86 : decode bM_functionFor 86 = .ok (.istore 4, 2) := by decide +kernel
theorem dM_functionFor_88 : decode bM_functionFor 88 = .ok (.iinc 6 1, 3) := by decide +kernel
theorem dM_functionFor_91 : decode bM_functionFor 91 = .ok (.goto (-70), 3) := by decide +kernel
theorem dM_functionFor_94 : decode bM_functionFor 94 = .ok (.iload_n 2, 1) := by decide +kernel
theorem dM_functionFor_95 : decode bM_functionFor 95 = .ok (.iload 4, 2) := by decide +kernel
theorem dM_functionFor_97 : decode bM_functionFor 97 = .ok (.ifCond .eq 9, 3) := by decide +kernel
theorem dM_functionFor_100 : decode bM_functionFor 100 = .ok (.iconst 1, 1) := by decide +kernel
theorem dM_functionFor_101 : decode bM_functionFor 101 = .ok (.iload_n 3, 1) := by decide +kernel
theorem dM_functionFor_102 : decode bM_functionFor 102 = .ok (.ishl, 1) := by decide +kernel
theorem dM_functionFor_103 : decode bM_functionFor 103 = .ok (.goto 4, 3) := by decide +kernel
theorem dM_functionFor_106 : decode bM_functionFor 106 = .ok (.iconst 0, 1) := by decide +kernel
theorem dM_functionFor_107 : decode bM_functionFor 107 = .ok (.ior, 1) := by decide +kernel
theorem dM_functionFor_108 : decode bM_functionFor 108 = .ok (.istore_n 2, 1) := by decide +kernel
theorem dM_functionFor_109 : decode bM_functionFor 109 = .ok (.iinc 3 1, 3) := by decide +kernel
theorem dM_functionFor_112 : decode bM_functionFor 112 = .ok (.goto (-108), 3) := by decide +kernel
theorem dM_functionFor_115 : decode bM_functionFor 115 = .ok (.iload_n 2, 1) := by decide +kernel
theorem dM_functionFor_116 : decode bM_functionFor 116 = .ok (.ireturn, 1) := by decide +kernel
theorem dM_costAt_0 : decode bM_costAt 0 = .ok (.iload_n 1, 1) := by decide +kernel
theorem dM_costAt_1 : decode bM_costAt 1 = .ok (.aload_n 0, 1) := by decide +kernel
theorem dM_costAt_2 : decode bM_costAt 2 = .ok (.getfield 56, 3) := by decide +kernel
theorem dM_costAt_5 : decode bM_costAt 5 = .ok (.iconst 1, 1) := by decide +kernel
theorem dM_costAt_6 : decode bM_costAt 6 = .ok (.if_icmp .ne 7, 3) := by decide +kernel
theorem dM_costAt_9 : decode bM_costAt 9 = .ok (.iconst 0, 1) := by decide +kernel
theorem dM_costAt_10 : decode bM_costAt 10 = .ok (.goto 31, 3) := by decide +kernel
theorem dM_costAt_13 : decode bM_costAt 13 = .ok (.aload_n 0, 1) := by decide +kernel
theorem dM_costAt_14 : decode bM_costAt 14 = .ok (.getfield 56, 3) := by decide +kernel
theorem dM_costAt_17 : decode bM_costAt 17 = .ok (.iconst 2, 1) := by decide +kernel
theorem dM_costAt_18 : decode bM_costAt 18 = .ok (.if_icmp .ne 7, 3) := by decide +kernel
theorem dM_costAt_21 : decode bM_costAt 21 = .ok (.iconst 4, 1) := by decide +kernel
theorem dM_costAt_22 : decode bM_costAt 22 = .ok (.goto 19, 3) := by decide +kernel
theorem dM_costAt_25 : decode bM_costAt 25 = .ok (.aload_n 0, 1) := by decide +kernel
theorem dM_costAt_26 : decode bM_costAt 26 = .ok (.getfield 56, 3) := by decide +kernel
theorem dM_costAt_29 : decode bM_costAt 29 = .ok (.iconst 3, 1) := by decide +kernel
theorem dM_costAt_30 : decode bM_costAt 30 = .ok (.if_icmp .ne 8, 3) := by decide +kernel
theorem dM_costAt_33 : decode bM_costAt 33 = .ok (.bipush 20, 2) := by decide +kernel
theorem dM_costAt_35 : decode bM_costAt 35 = .ok (.goto 6, 3) := by decide +kernel
theorem dM_costAt_38 : decode bM_costAt 38 = .ok (.sipush 276, 3) := by decide +kernel
theorem dM_costAt_41 : decode bM_costAt 41 = .ok (.iadd, 1) := by decide +kernel
theorem dM_costAt_42 : decode bM_costAt 42 = .ok (.ireturn, 1) := by decide +kernel
theorem dM_product_0 : decode bM_product 0 = .ok (.aload_n 0, 1) := by decide +kernel
theorem dM_product_1 : decode bM_product 1 = .ok (.iconst 0, 1) := by decide +kernel
theorem dM_product_2 : decode bM_product 2 = .ok (.putfield 53, 3) := by decide +kernel
theorem dM_product_5 : decode bM_product 5 = .ok (.iload_n 1, 1) := by decide +kernel
theorem dM_product_6 : decode bM_product 6 = .ok (.ifCond .lt 19, 3) := by decide +kernel
theorem dM_product_9 : decode bM_product 9 = .ok (.iload_n 1, 1) := by decide +kernel
theorem dM_product_10 : decode bM_product 10 = .ok (.aload_n 0, 1) := by decide +kernel
theorem dM_product_11 : decode bM_product 11 = .ok (.invokevirtual 85, 3) := by decide +kernel
theorem dM_product_14 : decode bM_product 14 = .ok (.if_icmp .ge 11, 3) := by decide +kernel
theorem dM_product_17 : decode bM_product 17 = .ok (.aload_n 0, 1) := by decide +kernel
theorem dM_product_18 : decode bM_product 18 = .ok (.iload_n 1, 1) := by decide +kernel
theorem dM_product_19 : decode bM_product 19 = .ok (.invokevirtual 92, 3) := by decide +kernel
theorem dM_product_22 : decode bM_product 22 = .ok (.goto 4, 3) := by decide +kernel
theorem dM_product_25 : decode bM_product 25 = .ok (.iconst (-1), 1) := by decide +kernel
theorem dM_product_26 : decode bM_product 26 = .ok (.ireturn, 1) := by decide +kernel
theorem dM_program_0 : decode bM_program 0 = .ok (.aload_n 0, 1) := by decide +kernel
theorem dM_program_1 : decode bM_program 1 = .ok (.iconst 0, 1) := by decide +kernel
theorem dM_program_2 : decode bM_program 2 = .ok (.putfield 53, 3) := by decide +kernel
theorem dM_program_5 : decode bM_program 5 = .ok (.iload_n 1, 1) := by decide +kernel
theorem dM_program_6 : decode bM_program 6 = .ok (.iconst 1, 1) := by decide +kernel
theorem dM_program_7 : decode bM_program 7 = .ok (.if_icmp .lt 9, 3) := by decide +kernel
theorem dM_program_10 : decode bM_program 10 = .ok (.iload_n 1, 1) := by decide +kernel
theorem dM_program_11 : decode bM_program 11 = .ok (.bipush 12, 2) := by decide +kernel
theorem dM_program_13 : decode bM_program 13 = .ok (.if_icmp .le 5, 3) := by decide +kernel
theorem dM_program_16 : decode bM_program 16 = .ok (.iconst 0, 1) := by decide +kernel
theorem dM_program_17 : decode bM_program 17 = .ok (.ireturn, 1) := by decide +kernel
theorem dM_program_18 : decode bM_program 18 = .ok (.aload_n 0, 1) := by decide +kernel
theorem dM_program_19 : decode bM_program 19 = .ok (.iload_n 1, 1) := by decide +kernel
theorem dM_program_20 : decode bM_program 20 = .ok (.putfield 49, 3) := by decide +kernel
theorem dM_program_23 : decode bM_program 23 = .ok (.iconst 0, 1) := by decide +kernel
theorem dM_program_24 : decode bM_program 24 = .ok (.istore_n 2, 1) := by decide +kernel
theorem dM_program_25 : decode bM_program 25 = .ok (.iload_n 2, 1) := by decide +kernel
theorem dM_program_26 : decode bM_program 26 = .ok (.bipush 12, 2) := by decide +kernel
theorem dM_program_28 : decode bM_program 28 = .ok (.if_icmp .ge 16, 3) := by decide +kernel
theorem dM_program_31 : decode bM_program 31 = .ok (.aload_n 0, 1) := by decide +kernel
theorem dM_program_32 : decode bM_program 32 = .ok (.getfield 13, 3) := by decide +kernel
theorem dM_program_35 : decode bM_program 35 = .ok (.iload_n 2, 1) := by decide +kernel
theorem dM_program_36 : decode bM_program 36 = .ok (.iconst 0, 1) := by decide +kernel
theorem dM_program_37 : decode bM_program 37 = .ok (.iastore, 1) := by decide +kernel
theorem dM_program_38 : decode bM_program 38 = .ok (.iinc 2 1, 3) := by decide +kernel
theorem dM_program_41 : decode bM_program 41 = .ok (.goto (-16), 3) := by decide +kernel
theorem dM_program_44 : decode bM_program 44 = .ok (.iconst 1, 1) := by decide +kernel
theorem dM_program_45 : decode bM_program 45 = .ok (.ireturn, 1) := by decide +kernel
theorem dM_need_0 : decode bM_need 0 = .ok (.aload_n 0, 1) := by decide +kernel
theorem dM_need_1 : decode bM_need 1 = .ok (.iconst 0, 1) := by decide +kernel
theorem dM_need_2 : decode bM_need 2 = .ok (.putfield 53, 3) := by decide +kernel
theorem dM_need_5 : decode bM_need 5 = .ok (.iload_n 1, 1) := by decide +kernel
theorem dM_need_6 : decode bM_need 6 = .ok (.ifCond .lt 22, 3) := by decide +kernel
theorem dM_need_9 : decode bM_need 9 = .ok (.iload_n 1, 1) := by decide +kernel
theorem dM_need_10 : decode bM_need 10 = .ok (.aload_n 0, 1) := by decide +kernel
theorem dM_need_11 : decode bM_need 11 = .ok (.getfield 49, 3) := by decide +kernel
theorem dM_need_14 : decode bM_need 14 = .ok (.if_icmp .ge 14, 3) := by decide +kernel
theorem dM_need_17 : decode bM_need 17 = .ok (.iload_n 2, 1) := by decide +kernel
theorem dM_need_18 : decode bM_need 18 = .ok (.ifCond .lt 10, 3) := by decide +kernel
theorem dM_need_21 : decode bM_need 21 = .ok (.iload_n 2, 1) := by decide +kernel
theorem dM_need_22 : decode bM_need 22 = .ok (.iconst 1, 1) := by decide +kernel
theorem dM_need_23 : decode bM_need 23 = .ok (.iload_n 1, 1) := by decide +kernel
theorem dM_need_24 : decode bM_need 24 = .ok (.ishl, 1) := by decide +kernel
theorem dM_need_25 : decode bM_need 25 = .ok (.if_icmp .lt 5, 3) := by decide +kernel
theorem dM_need_28 : decode bM_need 28 = .ok (.iconst 0, 1) := by decide +kernel
theorem dM_need_29 : decode bM_need 29 = .ok (.ireturn, 1) := by decide +kernel
theorem dM_need_30 : decode bM_need 30 = .ok (.aload_n 0, 1) := by decide +kernel
theorem dM_need_31 : decode bM_need 31 = .ok (.getfield 13, 3) := by decide +kernel
theorem dM_need_34 : decode bM_need 34 = .ok (.iload_n 1, 1) := by decide +kernel
theorem dM_need_35 : decode bM_need 35 = .ok (.iload_n 2, 1) := by decide +kernel
theorem dM_need_36 : decode bM_need 36 = .ok (.iastore, 1) := by decide +kernel
theorem dM_need_37 : decode bM_need 37 = .ok (.iconst 1, 1) := by decide +kernel
theorem dM_need_38 : decode bM_need 38 = .ok (.ireturn, 1) := by decide +kernel
theorem dM_move_0 : decode bM_move 0 = .ok (.aload_n 0, 1) := by decide +kernel
theorem dM_move_1 : decode bM_move 1 = .ok (.iconst 0, 1) := by decide +kernel
theorem dM_move_2 : decode bM_move 2 = .ok (.putfield 53, 3) := by decide +kernel
theorem dM_move_5 : decode bM_move 5 = .ok (.iload_n 1, 1) := by decide +kernel
theorem dM_move_6 : decode bM_move 6 = .ok (.iconst 1, 1) := by decide +kernel
theorem dM_move_7 : decode bM_move 7 = .ok (.if_icmp .lt 8, 3) := by decide +kernel
theorem dM_move_10 : decode bM_move 10 = .ok (.iload_n 2, 1) := by decide +kernel
theorem dM_move_11 : decode bM_move 11 = .ok (.iconst (-1), 1) := by decide +kernel
theorem dM_move_12 : decode bM_move 12 = .ok (.if_icmp .ge 5, 3) := by decide +kernel
theorem dM_move_15 : decode bM_move 15 = .ok (.iconst (-1), 1) := by decide +kernel
theorem dM_move_16 : decode bM_move 16 = .ok (.ireturn, 1) := by decide +kernel
theorem dM_move_17 : decode bM_move 17 = .ok (.aload_n 0, 1) := by decide +kernel
theorem dM_move_18 : decode bM_move 18 = .ok (.iload_n 1, 1) := by decide +kernel
theorem dM_move_19 : decode bM_move 19 = .ok (.invokevirtual 107, 3) := by decide +kernel
theorem dM_move_22 : decode bM_move 22 = .ok (.istore_n 3, 1) := by decide +kernel
theorem dM_move_23 : decode bM_move 23 = .ok (.iload_n 3, 1) := by decide +kernel
theorem dM_move_24 : decode bM_move 24 = .ok (.iconst (-1), 1) := by decide +kernel
theorem dM_move_25 : decode bM_move 25 = .ok (.if_icmp .ne 5, 3) := by decide +kernel
theorem dM_move_28 : decode bM_move 28 = .ok (.iconst (-1), 1) := by decide +kernel
theorem dM_move_29 : decode bM_move 29 = .ok (.ireturn, 1) := by decide +kernel
theorem dM_move_30 : decode bM_move 30 = .ok (.aload_n 0, 1) := by decide +kernel
theorem dM_move_31 : decode bM_move 31 = .ok (.iload_n 3, 1) := by decide +kernel
theorem dM_move_32 : decode bM_move 32 = .ok (.invokevirtual 110, 3) := by decide +kernel
theorem dM_move_35 : decode bM_move 35 = .ok (.istore 4, 2) := by decide +kernel
theorem dM_move_37 : decode bM_move 37 = .ok (.iload_n 2, 1) := by decide +kernel
theorem dM_move_38 : decode bM_move 38 = .ok (.iconst (-1), 1) := by decide +kernel
theorem dM_move_39 : decode bM_move 39 = .ok (.if_icmp .ne 6, 3) := by decide +kernel
theorem dM_move_42 : decode bM_move 42 = .ok (.iload 4, 2) := by decide +kernel
theorem dM_move_44 : decode bM_move 44 = .ok (.ireturn, 1) := by decide +kernel
theorem dM_move_45 : decode bM_move 45 = .ok (.iload_n 2, 1) := by decide +kernel
theorem dM_move_46 : decode bM_move 46 = .ok (.iload 4, 2) := by decide +kernel
theorem dM_move_48 : decode bM_move 48 = .ok (.if_icmp .lt 5, 3) := by decide +kernel
theorem dM_move_51 : decode bM_move 51 = .ok (.iconst (-1), 1) := by decide +kernel
theorem dM_move_52 : decode bM_move 52 = .ok (.ireturn, 1) := by decide +kernel
theorem dM_move_53 : decode bM_move 53 = .ok (.iload_n 3, 1) := by decide +kernel
theorem dM_move_54 : decode bM_move 54 = .ok (.istore 5, 2) := by decide +kernel
theorem dM_move_56 : decode bM_move 56 = .ok (.iload 4, 2) := by decide +kernel
theorem dM_move_58 : decode bM_move 58 = .ok (.iconst 1, 1) := by decide +kernel
theorem dM_move_59 : decode bM_move 59 = .ok (.isub, 1) := by decide +kernel
theorem dM_move_60 : decode bM_move 60 = .ok (.istore 6, 2) := by decide +kernel
theorem dM_move_62 : decode bM_move 62 = .ok (.iload 6, 2) := by decide +kernel
theorem dM_move_64 : decode bM_move 64 = .ok (.iload_n 2, 1) := by decide +kernel
theorem dM_move_65 : decode bM_move 65 = .ok (.if_icmp .le 18, 3) := by decide +kernel
theorem dM_move_68 : decode bM_move 68 = .ok (.aload_n 0, 1) := by decide +kernel
theorem dM_move_69 : decode bM_move 69 = .ok (.getfield 39, 3) := by decide +kernel
theorem dM_move_72 : decode bM_move 72 = .ok (.iload 5, 2) := by decide +kernel
theorem dM_move_74 : decode bM_move 74 = .ok (.iaload, 1) := by decide +kernel
theorem dM_move_75 : decode bM_move 75 = .ok (.istore 5, 2) := by decide +kernel
theorem dM_move_77 : decode bM_move 77 = .ok (.iinc 6 (-1), 3) := by decide +kernel
theorem dM_move_80 : decode bM_move 80 = .ok (.goto (-18), 3) := by decide +kernel
theorem dM_move_83 : decode bM_move 83 = .ok (.aload_n 0, 1) := by decide +kernel
theorem dM_move_84 : decode bM_move 84 = .ok (.getfield 42, 3) := by decide +kernel
theorem dM_move_87 : decode bM_move 87 = .ok (.iload 5, 2) := by decide +kernel
theorem dM_move_89 : decode bM_move 89 = .ok (.iaload, 1) := by decide +kernel
theorem dM_move_90 : decode bM_move 90 = .ok (.ireturn, 1) := by decide +kernel
theorem dM_findEnd_0 : decode bM_findEnd 0 = .ok (.iconst 0, 1) := by decide +kernel
theorem dM_findEnd_1 : decode bM_findEnd 1 = .ok (.istore_n 2, 1) := by decide +kernel
theorem dM_findEnd_2 : decode bM_findEnd 2 = .ok (.iload_n 2, 1) := by decide +kernel
theorem dM_findEnd_3 : decode bM_findEnd 3 = .ok (.sipush 4096, 3) := by decide +kernel
theorem dM_findEnd_6 : decode bM_findEnd 6 = .ok (.if_icmp .ge 16, 3) := by decide +kernel
theorem dM_findEnd_9 : decode bM_findEnd 9 = .ok (.aload_n 0, 1) := by decide +kernel
theorem dM_findEnd_10 : decode bM_findEnd 10 = .ok (.getfield 33, 3) := by decide +kernel
theorem dM_findEnd_13 : decode bM_findEnd 13 = .ok (.iload_n 2, 1) := by decide +kernel
theorem dM_findEnd_14 : decode bM_findEnd 14 = .ok (.iconst 0, 1) := by decide +kernel
theorem dM_findEnd_15 : decode bM_findEnd 15 = .ok (.bastore, 1) := by decide +kernel
theorem dM_findEnd_16 : decode bM_findEnd 16 = .ok (.iinc 2 1, 3) := by decide +kernel
theorem dM_findEnd_19 : decode bM_findEnd 19 = .ok (.goto (-17), 3) := by decide +kernel
theorem dM_findEnd_22 : decode bM_findEnd 22 = .ok (.aload_n 0, 1) := by decide +kernel
theorem dM_findEnd_23 : decode bM_findEnd 23 = .ok (.getfield 33, 3) := by decide +kernel
theorem dM_findEnd_26 : decode bM_findEnd 26 = .ok (.iconst 0, 1) := by decide +kernel
theorem dM_findEnd_27 : decode bM_findEnd 27 = .ok (.iconst 1, 1) := by decide +kernel
theorem dM_findEnd_28 : decode bM_findEnd 28 = .ok (.bastore, 1) := by decide +kernel
theorem dM_findEnd_29 : decode bM_findEnd 29 = .ok (.aload_n 0, 1) := by decide +kernel
theorem dM_findEnd_30 : decode bM_findEnd 30 = .ok (.getfield 36, 3) := by decide +kernel
theorem dM_findEnd_33 : decode bM_findEnd 33 = .ok (.iconst 0, 1) := by decide +kernel
theorem dM_findEnd_34 : decode bM_findEnd 34 = .ok (.iconst 0, 1) := by decide +kernel
theorem dM_findEnd_35 : decode bM_findEnd 35 = .ok (.iastore, 1) := by decide +kernel
theorem dM_findEnd_36 : decode bM_findEnd 36 = .ok (.aload_n 0, 1) := by decide +kernel
theorem dM_findEnd_37 : decode bM_findEnd 37 = .ok (.getfield 39, 3) := by decide +kernel
theorem dM_findEnd_40 : decode bM_findEnd 40 = .ok (.iconst 0, 1) := by decide +kernel
theorem dM_findEnd_41 : decode bM_findEnd 41 = .ok (.iconst (-1), 1) := by decide +kernel
theorem dM_findEnd_42 : decode bM_findEnd 42 = .ok (.iastore, 1) := by decide +kernel
theorem dM_findEnd_43 : decode bM_findEnd 43 = .ok (.iconst 1, 1) := by decide +kernel
theorem dM_findEnd_44 : decode bM_findEnd 44 = .ok (.istore_n 2, 1) := by decide +kernel
theorem dM_findEnd_45 : decode bM_findEnd 45 = .ok (.iconst 0, 1) := by decide +kernel
theorem dM_findEnd_46 : decode bM_findEnd 46 = .ok (.istore_n 3, 1) := by decide +kernel
theorem dM_findEnd_47 : decode bM_findEnd 47 = .ok (.iload_n 3, 1) := by decide +kernel
theorem dM_findEnd_48 : decode bM_findEnd 48 = .ok (.iload_n 2, 1) := by decide +kernel
theorem dM_findEnd_49 : decode bM_findEnd 49 = .ok (.if_icmp .ge 130, 3) := by decide +kernel
theorem dM_findEnd_52 : decode bM_findEnd 52 = .ok (.aload_n 0, 1) := by decide +kernel
theorem dM_findEnd_53 : decode bM_findEnd 53 = .ok (.getfield 36, 3) := by decide +kernel
theorem dM_findEnd_56 : decode bM_findEnd 56 = .ok (.iload_n 3, 1) := by decide +kernel
theorem dM_findEnd_57 : decode bM_findEnd 57 = .ok (.iaload, 1) := by decide +kernel
theorem dM_findEnd_58 : decode bM_findEnd 58 = .ok (.istore 4, 2) := by decide +kernel
theorem dM_findEnd_60 : decode bM_findEnd 60 = .ok (.iload 4, 2) := by decide +kernel
theorem dM_findEnd_62 : decode bM_findEnd 62 = .ok (.iconst 1, 1) := by decide +kernel
theorem dM_findEnd_63 : decode bM_findEnd 63 = .ok (.aload_n 0, 1) := by decide +kernel
theorem dM_findEnd_64 : decode bM_findEnd 64 = .ok (.getfield 49, 3) := by decide +kernel
theorem dM_findEnd_67 : decode bM_findEnd 67 = .ok (.iconst 1, 1) := by decide +kernel
theorem dM_findEnd_68 : decode bM_findEnd 68 = .ok (.isub, 1) := by decide +kernel
theorem dM_findEnd_69 : decode bM_findEnd 69 = .ok (.ishl, 1) := by decide +kernel
theorem dM_findEnd_70 : decode bM_findEnd 70 = .ok (.if_icmp .ne 5, 3) := by decide +kernel
theorem dM_findEnd_73 : decode bM_findEnd 73 = .ok (.iload_n 3, 1) := by decide +kernel
theorem dM_findEnd_74 : decode bM_findEnd 74 = .ok (.ireturn, 1) := by decide +kernel
theorem dM_findEnd_75 : decode bM_findEnd 75 = .ok (.iconst 0, 1) := by decide +kernel
theorem dM_findEnd_76 : decode bM_findEnd 76 = .ok (.istore 5, 2) := by decide +kernel
theorem dM_findEnd_78 : decode bM_findEnd 78 = .ok (.iload 5, 2) := by decide +kernel
theorem dM_findEnd_80 : decode bM_findEnd 80 = .ok (.aload_n 0, 1) := by decide +kernel
theorem dM_findEnd_81 : decode bM_findEnd 81 = .ok (.getfield 49, 3) := by decide +kernel
theorem dM_findEnd_84 : decode bM_findEnd 84 = .ok (.if_icmp .ge 89, 3) := by decide +kernel
theorem dM_findEnd_87 : decode bM_findEnd 87 = .ok (.iload 4, 2) := by decide +kernel
theorem dM_findEnd_89 : decode bM_findEnd 89 = .ok (.iconst 1, 1) := by decide +kernel
theorem dM_findEnd_90 : decode bM_findEnd 90 = .ok (.iload 5, 2) := by decide +kernel
theorem dM_findEnd_92 : decode bM_findEnd 92 = .ok (.ishl, 1) := by decide +kernel
theorem dM_findEnd_93 : decode bM_findEnd 93 = .ok (.ixor, 1) := by decide +kernel
theorem dM_findEnd_94 : decode bM_findEnd 94 = .ok (.istore 6, 2) := by decide +kernel
theorem dM_findEnd_96 : decode bM_findEnd 96 = .ok (.aload_n 0, 1) := by decide +kernel
theorem dM_findEnd_97 : decode bM_findEnd 97 = .ok (.getfield 13, 3) := by decide +kernel
theorem dM_findEnd_100 : decode bM_findEnd 100 = .ok (.iload 5, 2) := by decide +kernel
theorem dM_findEnd_102 : decode bM_findEnd 102 = .ok (.iaload, 1) := by decide +kernel
theorem dM_findEnd_103 : decode bM_findEnd 103 = .ok (.iload 4, 2) := by decide +kernel
theorem dM_findEnd_105 : decode bM_findEnd 105 = .ok (.iconst (-1), 1) := by decide +kernel
theorem dM_findEnd_106 : decode bM_findEnd 106 = .ok (.ixor, 1) := by decide +kernel
theorem dM_findEnd_107 : decode bM_findEnd 107 = .ok (.iand, 1) := by decide +kernel
theorem dM_findEnd_108 : decode bM_findEnd 108 = .ok (.ifCond .ne 59, 3) := by decide +kernel
theorem dM_findEnd_111 : decode bM_findEnd 111 = .ok (.iload 6, 2) := by decide +kernel
theorem dM_findEnd_113 : decode bM_findEnd 113 = .ok (.invokestatic 104, 3) := by decide +kernel
theorem dM_findEnd_116 : decode bM_findEnd 116 = .ok (.iload_n 1, 1) := by decide +kernel
theorem dM_findEnd_117 : decode bM_findEnd 117 = .ok (.if_icmp .gt 50, 3) := by decide +kernel
theorem dM_findEnd_120 : decode bM_findEnd 120 = .ok (.aload_n 0, 1) := by decide +kernel
theorem dM_findEnd_121 : decode bM_findEnd 121 = .ok (.getfield 33, 3) := by decide +kernel
theorem dM_findEnd_124 : decode bM_findEnd 124 = .ok (.iload 6, 2) := by decide +kernel
theorem dM_findEnd_126 : decode bM_findEnd 126 = .ok (.baload, 1) := by decide +kernel
theorem dM_findEnd_127 : decode bM_findEnd 127 = .ok (.ifCond .eq 6, 3) := by decide +kernel
theorem dM_findEnd_130 : decode bM_findEnd 130 = .ok (.goto 37, 3) := by decide +kernel
theorem dM_findEnd_133 : decode bM_findEnd 133 = .ok (.aload_n 0, 1) := by decide +kernel
theorem dM_findEnd_134 : decode bM_findEnd 134 = .ok (.getfield 33, 3) := by decide +kernel
theorem dM_findEnd_137 : decode bM_findEnd 137 = .ok (.iload 6, 2) := by decide +kernel
theorem dM_findEnd_139 : decode bM_findEnd 139 = .ok (.iconst 1, 1) := by decide +kernel
theorem dM_findEnd_140 : decode bM_findEnd 140 = .ok (.bastore, 1) := by decide +kernel
theorem dM_findEnd_141 : decode bM_findEnd 141 = .ok (.aload_n 0, 1) := by decide +kernel
theorem dM_findEnd_142 : decode bM_findEnd 142 = .ok (.getfield 36, 3) := by decide +kernel
theorem dM_findEnd_145 : decode bM_findEnd 145 = .ok (.iload_n 2, 1) := by decide +kernel
theorem dM_findEnd_146 : decode bM_findEnd 146 = .ok (.iload 6, 2) := by decide +kernel
theorem dM_findEnd_148 : decode bM_findEnd 148 = .ok (.iastore, 1) := by decide +kernel
theorem dM_findEnd_149 : decode bM_findEnd 149 = .ok (.aload_n 0, 1) := by decide +kernel
theorem dM_findEnd_150 : decode bM_findEnd 150 = .ok (.getfield 39, 3) := by decide +kernel
theorem dM_findEnd_153 : decode bM_findEnd 153 = .ok (.iload_n 2, 1) := by decide +kernel
theorem dM_findEnd_154 : decode bM_findEnd 154 = .ok (.iload_n 3, 1) := by decide +kernel
theorem dM_findEnd_155 : decode bM_findEnd 155 = .ok (.iastore, 1) := by decide +kernel
theorem dM_findEnd_156 : decode bM_findEnd 156 = .ok (.aload_n 0, 1) := by decide +kernel
theorem dM_findEnd_157 : decode bM_findEnd 157 = .ok (.getfield 42, 3) := by decide +kernel
theorem dM_findEnd_160 : decode bM_findEnd 160 = .ok (.iload_n 2, 1) := by decide +kernel
theorem dM_findEnd_161 : decode bM_findEnd 161 = .ok (.iload 5, 2) := by decide +kernel
theorem dM_findEnd_163 : decode bM_findEnd 163 = .ok (.iastore, 1) := by decide +kernel
theorem dM_findEnd_164 : decode bM_findEnd 164 = .ok (.iinc 2 1, 3) := by decide +kernel
theorem dM_findEnd_167 : decode bM_findEnd 167 = .ok (.iinc 5 1, 3) := by decide +kernel
theorem dM_findEnd_170 : decode bM_findEnd 170 = .ok (.goto (-92), 3) := by decide +kernel
theorem dM_findEnd_173 : decode bM_findEnd 173 = .ok (.iinc 3 1, 3) := by decide +kernel
theorem dM_findEnd_176 : decode bM_findEnd 176 = .ok (.goto (-129), 3) := by decide +kernel
theorem dM_findEnd_179 : decode bM_findEnd 179 = .ok (.iconst (-1), 1) := by decide +kernel
theorem dM_findEnd_180 : decode bM_findEnd 180 = .ok (.ireturn, 1) := by decide +kernel
theorem dM_count_0 : decode bM_count 0 = .ok (.iconst 0, 1) := by decide +kernel
theorem dM_count_1 : decode bM_count 1 = .ok (.istore_n 1, 1) := by decide +kernel
theorem dM_count_2 : decode bM_count 2 = .ok (.iconst 0, 1) := by decide +kernel
theorem dM_count_3 : decode bM_count 3 = .ok (.istore_n 2, 1) := by decide +kernel
theorem dM_count_4 : decode bM_count 4 = .ok (.iload_n 2, 1) := by decide +kernel
theorem dM_count_5 : decode bM_count 5 = .ok (.bipush 12, 2) := by decide +kernel
theorem dM_count_7 : decode bM_count 7 = .ok (.if_icmp .ge 17, 3) := by decide +kernel
theorem dM_count_10 : decode bM_count 10 = .ok (.iload_n 1, 1) := by decide +kernel
theorem dM_count_11 : decode bM_count 11 = .ok (.iload_n 0, 1) := by decide +kernel
theorem dM_count_12 : decode bM_count 12 = .ok (.iload_n 2, 1) := by decide +kernel
theorem dM_count_13 : decode bM_count 13 = .ok (.ishr, 1) := by decide +kernel
theorem dM_count_14 : decode bM_count 14 = .ok (.iconst 1, 1) := by decide +kernel
theorem dM_count_15 : decode bM_count 15 = .ok (.iand, 1) := by decide +kernel
theorem dM_count_16 : decode bM_count 16 = .ok (.iadd, 1) := by decide +kernel
theorem dM_count_17 : decode bM_count 17 = .ok (.istore_n 1, 1) := by decide +kernel
theorem dM_count_18 : decode bM_count 18 = .ok (.iinc 2 1, 3) := by decide +kernel
theorem dM_count_21 : decode bM_count 21 = .ok (.goto (-17), 3) := by decide +kernel
theorem dM_count_24 : decode bM_count 24 = .ok (.iload_n 1, 1) := by decide +kernel
theorem dM_count_25 : decode bM_count 25 = .ok (.ireturn, 1) := by decide +kernel
theorem dM_lengthTo_0 : decode bM_lengthTo 0 = .ok (.iconst 0, 1) := by decide +kernel
theorem dM_lengthTo_1 : decode bM_lengthTo 1 = .ok (.istore_n 2, 1) := by decide +kernel
theorem dM_lengthTo_2 : decode bM_lengthTo 2 = .ok (.iload_n 1, 1) := by decide +kernel
theorem dM_lengthTo_3 : decode bM_lengthTo 3 = .ok (.istore_n 3, 1) := by decide +kernel
theorem dM_lengthTo_4 : decode bM_lengthTo 4 = .ok (.aload_n 0, 1) := by decide +kernel
theorem dM_lengthTo_5 : decode bM_lengthTo 5 = .ok (.getfield 39, 3) := by decide +kernel
theorem dM_lengthTo_8 : decode bM_lengthTo 8 = .ok (.iload_n 3, 1) := by decide +kernel
theorem dM_lengthTo_9 : decode bM_lengthTo 9 = .ok (.iaload, 1) := by decide +kernel
theorem dM_lengthTo_10 : decode bM_lengthTo 10 = .ok (.iconst (-1), 1) := by decide +kernel
theorem dM_lengthTo_11 : decode bM_lengthTo 11 = .ok (.if_icmp .eq 16, 3) := by decide +kernel
theorem dM_lengthTo_14 : decode bM_lengthTo 14 = .ok (.iinc 2 1, 3) := by decide +kernel
theorem dM_lengthTo_17 : decode bM_lengthTo 17 = .ok (.aload_n 0, 1) := by decide +kernel
theorem dM_lengthTo_18 : decode bM_lengthTo 18 = .ok (.getfield 39, 3) := by decide +kernel
theorem dM_lengthTo_21 : decode bM_lengthTo 21 = .ok (.iload_n 3, 1) := by decide +kernel
theorem dM_lengthTo_22 : decode bM_lengthTo 22 = .ok (.iaload, 1) := by decide +kernel
theorem dM_lengthTo_23 : decode bM_lengthTo 23 = .ok (.istore_n 3, 1) := by decide +kernel
theorem dM_lengthTo_24 : decode bM_lengthTo 24 = .ok (.goto (-20), 3) := by decide +kernel
theorem dM_lengthTo_27 : decode bM_lengthTo 27 = .ok (.iload_n 2, 1) := by decide +kernel
theorem dM_lengthTo_28 : decode bM_lengthTo 28 = .ok (.ireturn, 1) := by decide +kernel
theorem dM_marks_0 : decode bM_marks 0 = .ok (.aload_n 0, 1) := by decide +kernel
theorem dM_marks_1 : decode bM_marks 1 = .ok (.iconst 0, 1) := by decide +kernel
theorem dM_marks_2 : decode bM_marks 2 = .ok (.putfield 53, 3) := by decide +kernel
theorem dM_marks_5 : decode bM_marks 5 = .ok (.iconst 1, 1) := by decide +kernel
theorem dM_marks_6 : decode bM_marks 6 = .ok (.istore_n 1, 1) := by decide +kernel
theorem dM_marks_7 : decode bM_marks 7 = .ok (.aload_n 0, 1) := by decide +kernel
theorem dM_marks_8 : decode bM_marks 8 = .ok (.iload_n 1, 1) := by decide +kernel
theorem dM_marks_9 : decode bM_marks 9 = .ok (.invokevirtual 107, 3) := by decide +kernel
theorem dM_marks_12 : decode bM_marks 12 = .ok (.iconst (-1), 1) := by decide +kernel
theorem dM_marks_13 : decode bM_marks 13 = .ok (.if_icmp .ne 9, 3) := by decide +kernel
theorem dM_marks_16 : decode bM_marks 16 = .ok (.iinc 1 1, 3) := by decide +kernel
theorem dM_marks_19 : decode bM_marks 19 = .ok (.goto (-12), 3) := by decide +kernel
theorem dM_marks_22 : decode bM_marks 22 = .ok (.iload_n 1, 1) := by decide +kernel
theorem dM_marks_23 : decode bM_marks 23 = .ok (.ireturn, 1) := by decide +kernel
theorem dM_total_0 : decode bM_total 0 = .ok (.aload_n 0, 1) := by decide +kernel
theorem dM_total_1 : decode bM_total 1 = .ok (.iconst 0, 1) := by decide +kernel
theorem dM_total_2 : decode bM_total 2 = .ok (.putfield 53, 3) := by decide +kernel
theorem dM_total_5 : decode bM_total 5 = .ok (.iload_n 1, 1) := by decide +kernel
theorem dM_total_6 : decode bM_total 6 = .ok (.tableswitch 74 0 4 #[34, 39, 44, 57, 69], 34) := by decide +kernel
theorem dM_total_40 : decode bM_total 40 = .ok (.aload_n 0, 1) := by decide +kernel
theorem dM_total_41 : decode bM_total 41 = .ok (.getfield 56, 3) := by decide +kernel
theorem dM_total_44 : decode bM_total 44 = .ok (.ireturn, 1) := by decide +kernel
theorem dM_total_45 : decode bM_total 45 = .ok (.aload_n 0, 1) := by decide +kernel
theorem dM_total_46 : decode bM_total 46 = .ok (.getfield 49, 3) := by decide +kernel
theorem dM_total_49 : decode bM_total 49 = .ok (.ireturn, 1) := by decide +kernel
theorem dM_total_50 : decode bM_total 50 = .ok (.aload_n 0, 1) := by decide +kernel
theorem dM_total_51 : decode bM_total 51 = .ok (.invokevirtual 78, 3) := by decide +kernel
theorem dM_total_54 : decode bM_total 54 = .ok (.ifCond .eq 7, 3) := by decide +kernel
theorem dM_total_57 : decode bM_total 57 = .ok (.iconst 1, 1) := by decide +kernel
theorem dM_total_58 : decode bM_total 58 = .ok (.goto 4, 3) := by decide +kernel
theorem dM_total_61 : decode bM_total 61 = .ok (.iconst 0, 1) := by decide +kernel
theorem dM_total_62 : decode bM_total 62 = .ok (.ireturn, 1) := by decide +kernel
theorem dM_total_63 : decode bM_total 63 = .ok (.aload_n 0, 1) := by decide +kernel
theorem dM_total_64 : decode bM_total 64 = .ok (.getfield 56, 3) := by decide +kernel
theorem dM_total_67 : decode bM_total 67 = .ok (.aload_n 0, 1) := by decide +kernel
theorem dM_total_68 : decode bM_total 68 = .ok (.getfield 56, 3) := by decide +kernel
theorem dM_total_71 : decode bM_total 71 = .ok (.iconst 1, 1) := by decide +kernel
theorem dM_total_72 : decode bM_total 72 = .ok (.isub, 1) := by decide +kernel
theorem dM_total_73 : decode bM_total 73 = .ok (.ishl, 1) := by decide +kernel
theorem dM_total_74 : decode bM_total 74 = .ok (.ireturn, 1) := by decide +kernel
theorem dM_total_75 : decode bM_total 75 = .ok (.aload_n 0, 1) := by decide +kernel
theorem dM_total_76 : decode bM_total 76 = .ok (.invokevirtual 85, 3) := by decide +kernel
theorem dM_total_79 : decode bM_total 79 = .ok (.ireturn, 1) := by decide +kernel
theorem dM_total_80 : decode bM_total 80 = .ok (.iconst (-1), 1) := by decide +kernel
theorem dM_total_81 : decode bM_total 81 = .ok (.ireturn, 1) := by decide +kernel
end
section
theorem dL_law_0 : decode code 0 = .ok (.new 7, 3) := by decide +kernel
theorem dL_law_3 : decode code 3 = .ok (.dup, 1) := by decide +kernel
theorem dL_law_4 : decode code 4 = .ok (.invokespecial 9, 3) := by decide +kernel
theorem dL_law_7 : decode code 7 = .ok (.astore_n 1, 1) := by decide +kernel
theorem dL_law_8 : decode code 8 = .ok (.new 10, 3) := by decide +kernel
theorem dL_law_11 : decode code 11 = .ok (.dup, 1) := by decide +kernel
theorem dL_law_12 : decode code 12 = .ok (.invokespecial 12, 3) := by decide +kernel
theorem dL_law_15 : decode code 15 = .ok (.astore_n 2, 1) := by decide +kernel
theorem dL_law_16 : decode code 16 = .ok (.iconst 0, 1) := by decide +kernel
theorem dL_law_17 : decode code 17 = .ok (.istore_n 3, 1) := by decide +kernel
theorem dL_law_18 : decode code 18 = .ok (.iload_n 3, 1) := by decide +kernel
theorem dL_law_19 : decode code 19 = .ok (.aload_n 0, 1) := by decide +kernel
theorem dL_law_20 : decode code 20 = .ok (.arraylength, 1) := by decide +kernel
theorem dL_law_21 : decode code 21 = .ok (.iconst 3, 1) := by decide +kernel
theorem dL_law_22 : decode code 22 = .ok (.isub, 1) := by decide +kernel
theorem dL_law_23 : decode code 23 = .ok (.if_icmp .gt 385, 3) := by decide +kernel
theorem dL_law_26 : decode code 26 = .ok (.aload_n 0, 1) := by decide +kernel
theorem dL_law_27 : decode code 27 = .ok (.iload_n 3, 1) := by decide +kernel
theorem dL_law_28 : decode code 28 = .ok (.iaload, 1) := by decide +kernel
theorem dL_law_29 : decode code 29 = .ok (.bipush 15, 2) := by decide +kernel
theorem dL_law_31 : decode code 31 = .ok (.iand, 1) := by decide +kernel
theorem dL_law_32 : decode code 32 = .ok (.tableswitch 370 0 11 #[64, 87, 120, 143, 166, 189, 222, 245, 268, 301, 334, 347], 64) := by decide +kernel
theorem dL_law_96 : decode code 96 = .ok (.aload_n 1, 1) := by decide +kernel
theorem dL_law_97 : decode code 97 = .ok (.aload_n 0, 1) := by decide +kernel
theorem dL_law_98 : decode code 98 = .ok (.iload_n 3, 1) := by decide +kernel
theorem dL_law_99 : decode code 99 = .ok (.iconst 1, 1) := by decide +kernel
theorem dL_law_100 : decode code 100 = .ok (.iadd, 1) := by decide +kernel
theorem dL_law_101 : decode code 101 = .ok (.iaload, 1) := by decide +kernel
theorem dL_law_102 : decode code 102 = .ok (.invokevirtual 13, 3) := by decide +kernel
theorem dL_law_105 : decode code 105 = .ok (.aload_n 2, 1) := by decide +kernel
theorem dL_law_106 : decode code 106 = .ok (.aload_n 0, 1) := by decide +kernel
theorem dL_law_107 : decode code 107 = .ok (.iload_n 3, 1) := by decide +kernel
theorem dL_law_108 : decode code 108 = .ok (.iconst 1, 1) := by decide +kernel
theorem dL_law_109 : decode code 109 = .ok (.iadd, 1) := by decide +kernel
theorem dL_law_110 : decode code 110 = .ok (.iaload, 1) := by decide +kernel
theorem dL_law_111 : decode code 111 = .ok (.invokevirtual 17, 3) := by decide +kernel
theorem dL_law_114 : decode code 114 = .ok (.if_icmp .eq 288, 3) := by decide +kernel
theorem dL_law_117 : decode code 117 = .ok (.iconst 0, 1) := by decide +kernel
theorem dL_law_118 : decode code 118 = .ok (.ireturn, 1) := by decide +kernel
theorem dL_law_119 : decode code 119 = .ok (.aload_n 1, 1) := by decide +kernel
theorem dL_law_120 : decode code 120 = .ok (.aload_n 0, 1) := by decide +kernel
theorem dL_law_121 : decode code 121 = .ok (.iload_n 3, 1) := by decide +kernel
theorem dL_law_122 : decode code 122 = .ok (.iconst 1, 1) := by decide +kernel
theorem dL_law_123 : decode code 123 = .ok (.iadd, 1) := by decide +kernel
theorem dL_law_124 : decode code 124 = .ok (.iaload, 1) := by decide +kernel
theorem dL_law_125 : decode code 125 = .ok (.aload_n 0, 1) := by decide +kernel
theorem dL_law_126 : decode code 126 = .ok (.iload_n 3, 1) := by decide +kernel
theorem dL_law_127 : decode code 127 = .ok (.iconst 2, 1) := by decide +kernel
theorem dL_law_128 : decode code 128 = .ok (.iadd, 1) := by decide +kernel
theorem dL_law_129 : decode code 129 = .ok (.iaload, 1) := by decide +kernel
theorem dL_law_130 : decode code 130 = .ok (.invokevirtual 18, 3) := by decide +kernel
theorem dL_law_133 : decode code 133 = .ok (.aload_n 2, 1) := by decide +kernel
theorem dL_law_134 : decode code 134 = .ok (.aload_n 0, 1) := by decide +kernel
theorem dL_law_135 : decode code 135 = .ok (.iload_n 3, 1) := by decide +kernel
theorem dL_law_136 : decode code 136 = .ok (.iconst 1, 1) := by decide +kernel
theorem dL_law_137 : decode code 137 = .ok (.iadd, 1) := by decide +kernel
theorem dL_law_138 : decode code 138 = .ok (.iaload, 1) := by decide +kernel
theorem dL_law_139 : decode code 139 = .ok (.aload_n 0, 1) := by decide +kernel
theorem dL_law_140 : decode code 140 = .ok (.iload_n 3, 1) := by decide +kernel
theorem dL_law_141 : decode code 141 = .ok (.iconst 2, 1) := by decide +kernel
theorem dL_law_142 : decode code 142 = .ok (.iadd, 1) := by decide +kernel
theorem dL_law_143 : decode code 143 = .ok (.iaload, 1) := by decide +kernel
theorem dL_law_144 : decode code 144 = .ok (.invokevirtual 22, 3) := by decide +kernel
theorem dL_law_147 : decode code 147 = .ok (.if_icmp .eq 255, 3) := by decide +kernel
theorem dL_law_150 : decode code 150 = .ok (.iconst 0, 1) := by decide +kernel
theorem dL_law_151 : decode code 151 = .ok (.ireturn, 1) := by decide +kernel
theorem dL_law_152 : decode code 152 = .ok (.aload_n 1, 1) := by decide +kernel
theorem dL_law_153 : decode code 153 = .ok (.aload_n 0, 1) := by decide +kernel
theorem dL_law_154 : decode code 154 = .ok (.iload_n 3, 1) := by decide +kernel
theorem dL_law_155 : decode code 155 = .ok (.iconst 1, 1) := by decide +kernel
theorem dL_law_156 : decode code 156 = .ok (.iadd, 1) := by decide +kernel
theorem dL_law_157 : decode code 157 = .ok (.iaload, 1) := by decide +kernel
theorem dL_law_158 : decode code 158 = .ok (.invokevirtual 23, 3) := by decide +kernel
theorem dL_law_161 : decode code 161 = .ok (.aload_n 2, 1) := by decide +kernel
theorem dL_law_162 : decode code 162 = .ok (.aload_n 0, 1) := by decide +kernel
theorem dL_law_163 : decode code 163 = .ok (.iload_n 3, 1) := by decide +kernel
theorem dL_law_164 : decode code 164 = .ok (.iconst 1, 1) := by decide +kernel
theorem dL_law_165 : decode code 165 = .ok (.iadd, 1) := by decide +kernel
theorem dL_law_166 : decode code 166 = .ok (.iaload, 1) := by decide +kernel
theorem dL_law_167 : decode code 167 = .ok (.invokevirtual 26, 3) := by decide +kernel
theorem dL_law_170 : decode code 170 = .ok (.if_icmp .eq 232, 3) := by decide +kernel
theorem dL_law_173 : decode code 173 = .ok (.iconst 0, 1) := by decide +kernel
theorem dL_law_174 : decode code 174 = .ok (.ireturn, 1) := by decide +kernel
theorem dL_law_175 : decode code 175 = .ok (.aload_n 1, 1) := by decide +kernel
theorem dL_law_176 : decode code 176 = .ok (.aload_n 0, 1) := by decide +kernel
theorem dL_law_177 : decode code 177 = .ok (.iload_n 3, 1) := by decide +kernel
theorem dL_law_178 : decode code 178 = .ok (.iconst 1, 1) := by decide +kernel
theorem dL_law_179 : decode code 179 = .ok (.iadd, 1) := by decide +kernel
theorem dL_law_180 : decode code 180 = .ok (.iaload, 1) := by decide +kernel
theorem dL_law_181 : decode code 181 = .ok (.invokevirtual 27, 3) := by decide +kernel
theorem dL_law_184 : decode code 184 = .ok (.aload_n 2, 1) := by decide +kernel
theorem dL_law_185 : decode code 185 = .ok (.aload_n 0, 1) := by decide +kernel
theorem dL_law_186 : decode code 186 = .ok (.iload_n 3, 1) := by decide +kernel
theorem dL_law_187 : decode code 187 = .ok (.iconst 1, 1) := by decide +kernel
theorem dL_law_188 : decode code 188 = .ok (.iadd, 1) := by decide +kernel
theorem dL_law_189 : decode code 189 = .ok (.iaload, 1) := by decide +kernel
theorem dL_law_190 : decode code 190 = .ok (.invokevirtual 31, 3) := by decide +kernel
theorem dL_law_193 : decode code 193 = .ok (.if_icmp .eq 209, 3) := by decide +kernel
theorem dL_law_196 : decode code 196 = .ok (.iconst 0, 1) := by decide +kernel
theorem dL_law_197 : decode code 197 = .ok (.ireturn, 1) := by decide +kernel
theorem dL_law_198 : decode code 198 = .ok (.aload_n 1, 1) := by decide +kernel
theorem dL_law_199 : decode code 199 = .ok (.aload_n 0, 1) := by decide +kernel
theorem dL_law_200 : decode code 200 = .ok (.iload_n 3, 1) := by decide +kernel
theorem dL_law_201 : decode code 201 = .ok (.iconst 1, 1) := by decide +kernel
theorem dL_law_202 : decode code 202 = .ok (.iadd, 1) := by decide +kernel
theorem dL_law_203 : decode code 203 = .ok (.iaload, 1) := by decide +kernel
theorem dL_law_204 : decode code 204 = .ok (.invokevirtual 32, 3) := by decide +kernel
theorem dL_law_207 : decode code 207 = .ok (.aload_n 2, 1) := by decide +kernel
theorem dL_law_208 : decode code 208 = .ok (.aload_n 0, 1) := by decide +kernel
theorem dL_law_209 : decode code 209 = .ok (.iload_n 3, 1) := by decide +kernel
theorem dL_law_210 : decode code 210 = .ok (.iconst 1, 1) := by decide +kernel
theorem dL_law_211 : decode code 211 = .ok (.iadd, 1) := by decide +kernel
theorem dL_law_212 : decode code 212 = .ok (.iaload, 1) := by decide +kernel
theorem dL_law_213 : decode code 213 = .ok (.invokevirtual 35, 3) := by decide +kernel
theorem dL_law_216 : decode code 216 = .ok (.if_icmp .eq 186, 3) := by decide +kernel
theorem dL_law_219 : decode code 219 = .ok (.iconst 0, 1) := by decide +kernel
theorem dL_law_220 : decode code 220 = .ok (.ireturn, 1) := by decide +kernel
theorem dL_law_221 : decode code 221 = .ok (.aload_n 1, 1) := by decide +kernel
theorem dL_law_222 : decode code 222 = .ok (.aload_n 0, 1) := by decide +kernel
theorem dL_law_223 : decode code 223 = .ok (.iload_n 3, 1) := by decide +kernel
theorem dL_law_224 : decode code 224 = .ok (.iconst 1, 1) := by decide +kernel
theorem dL_law_225 : decode code 225 = .ok (.iadd, 1) := by decide +kernel
theorem dL_law_226 : decode code 226 = .ok (.iaload, 1) := by decide +kernel
theorem dL_law_227 : decode code 227 = .ok (.aload_n 0, 1) := by decide +kernel
theorem dL_law_228 : decode code 228 = .ok (.iload_n 3, 1) := by decide +kernel
theorem dL_law_229 : decode code 229 = .ok (.iconst 2, 1) := by decide +kernel
theorem dL_law_230 : decode code 230 = .ok (.iadd, 1) := by decide +kernel
theorem dL_law_231 : decode code 231 = .ok (.iaload, 1) := by decide +kernel
theorem dL_law_232 : decode code 232 = .ok (.invokevirtual 36, 3) := by decide +kernel
theorem dL_law_235 : decode code 235 = .ok (.aload_n 2, 1) := by decide +kernel
theorem dL_law_236 : decode code 236 = .ok (.aload_n 0, 1) := by decide +kernel
theorem dL_law_237 : decode code 237 = .ok (.iload_n 3, 1) := by decide +kernel
theorem dL_law_238 : decode code 238 = .ok (.iconst 1, 1) := by decide +kernel
theorem dL_law_239 : decode code 239 = .ok (.iadd, 1) := by decide +kernel
theorem dL_law_240 : decode code 240 = .ok (.iaload, 1) := by decide +kernel
theorem dL_law_241 : decode code 241 = .ok (.aload_n 0, 1) := by decide +kernel
theorem dL_law_242 : decode code 242 = .ok (.iload_n 3, 1) := by decide +kernel
theorem dL_law_243 : decode code 243 = .ok (.iconst 2, 1) := by decide +kernel
theorem dL_law_244 : decode code 244 = .ok (.iadd, 1) := by decide +kernel
theorem dL_law_245 : decode code 245 = .ok (.iaload, 1) := by decide +kernel
theorem dL_law_246 : decode code 246 = .ok (.invokevirtual 40, 3) := by decide +kernel
theorem dL_law_249 : decode code 249 = .ok (.if_icmp .eq 153, 3) := by decide +kernel
theorem dL_law_252 : decode code 252 = .ok (.iconst 0, 1) := by decide +kernel
theorem dL_law_253 : decode code 253 = .ok (.ireturn, 1) := by decide +kernel
theorem dL_law_254 : decode code 254 = .ok (.aload_n 1, 1) := by decide +kernel
theorem dL_law_255 : decode code 255 = .ok (.aload_n 0, 1) := by decide +kernel
theorem dL_law_256 : decode code 256 = .ok (.iload_n 3, 1) := by decide +kernel
theorem dL_law_257 : decode code 257 = .ok (.iconst 1, 1) := by decide +kernel
theorem dL_law_258 : decode code 258 = .ok (.iadd, 1) := by decide +kernel
theorem dL_law_259 : decode code 259 = .ok (.iaload, 1) := by decide +kernel
theorem dL_law_260 : decode code 260 = .ok (.invokevirtual 41, 3) := by decide +kernel
theorem dL_law_263 : decode code 263 = .ok (.aload_n 2, 1) := by decide +kernel
theorem dL_law_264 : decode code 264 = .ok (.aload_n 0, 1) := by decide +kernel
theorem dL_law_265 : decode code 265 = .ok (.iload_n 3, 1) := by decide +kernel
theorem dL_law_266 : decode code 266 = .ok (.iconst 1, 1) := by decide +kernel
theorem dL_law_267 : decode code 267 = .ok (.iadd, 1) := by decide +kernel
theorem dL_law_268 : decode code 268 = .ok (.iaload, 1) := by decide +kernel
theorem dL_law_269 : decode code 269 = .ok (.invokevirtual 44, 3) := by decide +kernel
theorem dL_law_272 : decode code 272 = .ok (.if_icmp .eq 130, 3) := by decide +kernel
theorem dL_law_275 : decode code 275 = .ok (.iconst 0, 1) := by decide +kernel
theorem dL_law_276 : decode code 276 = .ok (.ireturn, 1) := by decide +kernel
theorem dL_law_277 : decode code 277 = .ok (.aload_n 1, 1) := by decide +kernel
theorem dL_law_278 : decode code 278 = .ok (.aload_n 0, 1) := by decide +kernel
theorem dL_law_279 : decode code 279 = .ok (.iload_n 3, 1) := by decide +kernel
theorem dL_law_280 : decode code 280 = .ok (.iconst 1, 1) := by decide +kernel
theorem dL_law_281 : decode code 281 = .ok (.iadd, 1) := by decide +kernel
theorem dL_law_282 : decode code 282 = .ok (.iaload, 1) := by decide +kernel
theorem dL_law_283 : decode code 283 = .ok (.invokevirtual 45, 3) := by decide +kernel
theorem dL_law_286 : decode code 286 = .ok (.aload_n 2, 1) := by decide +kernel
theorem dL_law_287 : decode code 287 = .ok (.aload_n 0, 1) := by decide +kernel
theorem dL_law_288 : decode code 288 = .ok (.iload_n 3, 1) := by decide +kernel
theorem dL_law_289 : decode code 289 = .ok (.iconst 1, 1) := by decide +kernel
theorem dL_law_290 : decode code 290 = .ok (.iadd, 1) := by decide +kernel
theorem dL_law_291 : decode code 291 = .ok (.iaload, 1) := by decide +kernel
theorem dL_law_292 : decode code 292 = .ok (.invokevirtual 48, 3) := by decide +kernel
theorem dL_law_295 : decode code 295 = .ok (.if_icmp .eq 107, 3) := by decide +kernel
theorem dL_law_298 : decode code 298 = .ok (.iconst 0, 1) := by decide +kernel
theorem dL_law_299 : decode code 299 = .ok (.ireturn, 1) := by decide +kernel
theorem dL_law_300 : decode code 300 = .ok (.aload_n 1, 1) := by decide +kernel
theorem dL_law_301 : decode code 301 = .ok (.aload_n 0, 1) := by decide +kernel
theorem dL_law_302 : decode code 302 = .ok (.iload_n 3, 1) := by decide +kernel
theorem dL_law_303 : decode code 303 = .ok (.iconst 1, 1) := by decide +kernel
theorem dL_law_304 : decode code 304 = .ok (.iadd, 1) := by decide +kernel
theorem dL_law_305 : decode code 305 = .ok (.iaload, 1) := by decide +kernel
theorem dL_law_306 : decode code 306 = .ok (.aload_n 0, 1) := by decide +kernel
theorem dL_law_307 : decode code 307 = .ok (.iload_n 3, 1) := by decide +kernel
theorem dL_law_308 : decode code 308 = .ok (.iconst 2, 1) := by decide +kernel
theorem dL_law_309 : decode code 309 = .ok (.iadd, 1) := by decide +kernel
theorem dL_law_310 : decode code 310 = .ok (.iaload, 1) := by decide +kernel
theorem dL_law_311 : decode code 311 = .ok (.invokevirtual 49, 3) := by decide +kernel
theorem dL_law_314 : decode code 314 = .ok (.aload_n 2, 1) := by decide +kernel
theorem dL_law_315 : decode code 315 = .ok (.aload_n 0, 1) := by decide +kernel
theorem dL_law_316 : decode code 316 = .ok (.iload_n 3, 1) := by decide +kernel
theorem dL_law_317 : decode code 317 = .ok (.iconst 1, 1) := by decide +kernel
theorem dL_law_318 : decode code 318 = .ok (.iadd, 1) := by decide +kernel
theorem dL_law_319 : decode code 319 = .ok (.iaload, 1) := by decide +kernel
theorem dL_law_320 : decode code 320 = .ok (.aload_n 0, 1) := by decide +kernel
theorem dL_law_321 : decode code 321 = .ok (.iload_n 3, 1) := by decide +kernel
theorem dL_law_322 : decode code 322 = .ok (.iconst 2, 1) := by decide +kernel
theorem dL_law_323 : decode code 323 = .ok (.iadd, 1) := by decide +kernel
theorem dL_law_324 : decode code 324 = .ok (.iaload, 1) := by decide +kernel
theorem dL_law_325 : decode code 325 = .ok (.invokevirtual 52, 3) := by decide +kernel
theorem dL_law_328 : decode code 328 = .ok (.if_icmp .eq 74, 3) := by decide +kernel
theorem dL_law_331 : decode code 331 = .ok (.iconst 0, 1) := by decide +kernel
theorem dL_law_332 : decode code 332 = .ok (.ireturn, 1) := by decide +kernel
theorem dL_law_333 : decode code 333 = .ok (.aload_n 1, 1) := by decide +kernel
theorem dL_law_334 : decode code 334 = .ok (.aload_n 0, 1) := by decide +kernel
theorem dL_law_335 : decode code 335 = .ok (.iload_n 3, 1) := by decide +kernel
theorem dL_law_336 : decode code 336 = .ok (.iconst 1, 1) := by decide +kernel
theorem dL_law_337 : decode code 337 = .ok (.iadd, 1) := by decide +kernel
theorem dL_law_338 : decode code 338 = .ok (.iaload, 1) := by decide +kernel
theorem dL_law_339 : decode code 339 = .ok (.aload_n 0, 1) := by decide +kernel
theorem dL_law_340 : decode code 340 = .ok (.iload_n 3, 1) := by decide +kernel
theorem dL_law_341 : decode code 341 = .ok (.iconst 2, 1) := by decide +kernel
theorem dL_law_342 : decode code 342 = .ok (.iadd, 1) := by decide +kernel
theorem dL_law_343 : decode code 343 = .ok (.iaload, 1) := by decide +kernel
theorem dL_law_344 : decode code 344 = .ok (.invokevirtual 53, 3) := by decide +kernel
theorem dL_law_347 : decode code 347 = .ok (.aload_n 2, 1) := by decide +kernel
theorem dL_law_348 : decode code 348 = .ok (.aload_n 0, 1) := by decide +kernel
theorem dL_law_349 : decode code 349 = .ok (.iload_n 3, 1) := by decide +kernel
theorem dL_law_350 : decode code 350 = .ok (.iconst 1, 1) := by decide +kernel
theorem dL_law_351 : decode code 351 = .ok (.iadd, 1) := by decide +kernel
theorem dL_law_352 : decode code 352 = .ok (.iaload, 1) := by decide +kernel
theorem dL_law_353 : decode code 353 = .ok (.aload_n 0, 1) := by decide +kernel
theorem dL_law_354 : decode code 354 = .ok (.iload_n 3, 1) := by decide +kernel
theorem dL_law_355 : decode code 355 = .ok (.iconst 2, 1) := by decide +kernel
theorem dL_law_356 : decode code 356 = .ok (.iadd, 1) := by decide +kernel
theorem dL_law_357 : decode code 357 = .ok (.iaload, 1) := by decide +kernel
theorem dL_law_358 : decode code 358 = .ok (.invokevirtual 56, 3) := by decide +kernel
theorem dL_law_361 : decode code 361 = .ok (.if_icmp .eq 41, 3) := by decide +kernel
theorem dL_law_364 : decode code 364 = .ok (.iconst 0, 1) := by decide +kernel
theorem dL_law_365 : decode code 365 = .ok (.ireturn, 1) := by decide +kernel
theorem dL_law_366 : decode code 366 = .ok (.aload_n 1, 1) := by decide +kernel
theorem dL_law_367 : decode code 367 = .ok (.invokevirtual 57, 3) := by decide +kernel
theorem dL_law_370 : decode code 370 = .ok (.aload_n 2, 1) := by decide +kernel
theorem dL_law_371 : decode code 371 = .ok (.invokevirtual 61, 3) := by decide +kernel
theorem dL_law_374 : decode code 374 = .ok (.if_icmp .eq 28, 3) := by decide +kernel
theorem dL_law_377 : decode code 377 = .ok (.iconst 0, 1) := by decide +kernel
theorem dL_law_378 : decode code 378 = .ok (.ireturn, 1) := by decide +kernel
theorem dL_law_379 : decode code 379 = .ok (.aload_n 1, 1) := by decide +kernel
theorem dL_law_380 : decode code 380 = .ok (.aload_n 0, 1) := by decide +kernel
theorem dL_law_381 : decode code 381 = .ok (.iload_n 3, 1) := by decide +kernel
theorem dL_law_382 : decode code 382 = .ok (.iconst 1, 1) := by decide +kernel
theorem dL_law_383 : decode code 383 = .ok (.iadd, 1) := by decide +kernel
theorem dL_law_384 : decode code 384 = .ok (.iaload, 1) := by decide +kernel
theorem dL_law_385 : decode code 385 = .ok (.invokevirtual 62, 3) := by decide +kernel
theorem dL_law_388 : decode code 388 = .ok (.aload_n 2, 1) := by decide +kernel
theorem dL_law_389 : decode code 389 = .ok (.aload_n 0, 1) := by decide +kernel
theorem dL_law_390 : decode code 390 = .ok (.iload_n 3, 1) := by decide +kernel
theorem dL_law_391 : decode code 391 = .ok (.iconst 1, 1) := by decide +kernel
theorem dL_law_392 : decode code 392 = .ok (.iadd, 1) := by decide +kernel
theorem dL_law_393 : decode code 393 = .ok (.iaload, 1) := by decide +kernel
theorem dL_law_394 : decode code 394 = .ok (.invokevirtual 65, 3) := by decide +kernel
theorem dL_law_397 : decode code 397 = .ok (.if_icmp .eq 5, 3) := by decide +kernel
theorem dL_law_400 : decode code 400 = .ok (.iconst 0, 1) := by decide +kernel
theorem dL_law_401 : decode code 401 = .ok (.ireturn, 1) := by decide +kernel
theorem dL_law_402 : decode code 402 = .ok (.iinc 3 3, 3) := by decide +kernel
theorem dL_law_405 : decode code 405 = .ok (.goto (-387), 3) := by decide +kernel
theorem dL_law_408 : decode code 408 = .ok (.iconst 1, 1) := by decide +kernel
theorem dL_law_409 : decode code 409 = .ok (.ireturn, 1) := by decide +kernel
end
section
theorem dJ_bitCount_0 : decode bJ_bitCount 0 = .ok (.iload_n 0, 1) := by decide +kernel
theorem dJ_bitCount_1 : decode bJ_bitCount 1 = .ok (.iload_n 0, 1) := by decide +kernel
theorem dJ_bitCount_2 : decode bJ_bitCount 2 = .ok (.iconst 1, 1) := by decide +kernel
theorem dJ_bitCount_3 : decode bJ_bitCount 3 = .ok (.iushr, 1) := by decide +kernel
theorem dJ_bitCount_4 : decode bJ_bitCount 4 = .ok (.ldc_w 265, 3) := by decide +kernel
theorem dJ_bitCount_7 : decode bJ_bitCount 7 = .ok (.iand, 1) := by decide +kernel
theorem dJ_bitCount_8 : decode bJ_bitCount 8 = .ok (.isub, 1) := by decide +kernel
theorem dJ_bitCount_9 : decode bJ_bitCount 9 = .ok (.istore_n 0, 1) := by decide +kernel
theorem dJ_bitCount_10 : decode bJ_bitCount 10 = .ok (.iload_n 0, 1) := by decide +kernel
theorem dJ_bitCount_11 : decode bJ_bitCount 11 = .ok (.ldc_w 266, 3) := by decide +kernel
theorem dJ_bitCount_14 : decode bJ_bitCount 14 = .ok (.iand, 1) := by decide +kernel
theorem dJ_bitCount_15 : decode bJ_bitCount 15 = .ok (.iload_n 0, 1) := by decide +kernel
theorem dJ_bitCount_16 : decode bJ_bitCount 16 = .ok (.iconst 2, 1) := by decide +kernel
theorem dJ_bitCount_17 : decode bJ_bitCount 17 = .ok (.iushr, 1) := by decide +kernel
theorem dJ_bitCount_18 : decode bJ_bitCount 18 = .ok (.ldc_w 266, 3) := by decide +kernel
theorem dJ_bitCount_21 : decode bJ_bitCount 21 = .ok (.iand, 1) := by decide +kernel
theorem dJ_bitCount_22 : decode bJ_bitCount 22 = .ok (.iadd, 1) := by decide +kernel
theorem dJ_bitCount_23 : decode bJ_bitCount 23 = .ok (.istore_n 0, 1) := by decide +kernel
theorem dJ_bitCount_24 : decode bJ_bitCount 24 = .ok (.iload_n 0, 1) := by decide +kernel
theorem dJ_bitCount_25 : decode bJ_bitCount 25 = .ok (.iload_n 0, 1) := by decide +kernel
theorem dJ_bitCount_26 : decode bJ_bitCount 26 = .ok (.iconst 4, 1) := by decide +kernel
theorem dJ_bitCount_27 : decode bJ_bitCount 27 = .ok (.iushr, 1) := by decide +kernel
theorem dJ_bitCount_28 : decode bJ_bitCount 28 = .ok (.iadd, 1) := by decide +kernel
theorem dJ_bitCount_29 : decode bJ_bitCount 29 = .ok (.ldc_w 267, 3) := by decide +kernel
theorem dJ_bitCount_32 : decode bJ_bitCount 32 = .ok (.iand, 1) := by decide +kernel
theorem dJ_bitCount_33 : decode bJ_bitCount 33 = .ok (.istore_n 0, 1) := by decide +kernel
theorem dJ_bitCount_34 : decode bJ_bitCount 34 = .ok (.iload_n 0, 1) := by decide +kernel
theorem dJ_bitCount_35 : decode bJ_bitCount 35 = .ok (.iload_n 0, 1) := by decide +kernel
theorem dJ_bitCount_36 : decode bJ_bitCount 36 = .ok (.bipush 8, 2) := by decide +kernel
theorem dJ_bitCount_38 : decode bJ_bitCount 38 = .ok (.iushr, 1) := by decide +kernel
theorem dJ_bitCount_39 : decode bJ_bitCount 39 = .ok (.iadd, 1) := by decide +kernel
theorem dJ_bitCount_40 : decode bJ_bitCount 40 = .ok (.istore_n 0, 1) := by decide +kernel
theorem dJ_bitCount_41 : decode bJ_bitCount 41 = .ok (.iload_n 0, 1) := by decide +kernel
theorem dJ_bitCount_42 : decode bJ_bitCount 42 = .ok (.iload_n 0, 1) := by decide +kernel
theorem dJ_bitCount_43 : decode bJ_bitCount 43 = .ok (.bipush 16, 2) := by decide +kernel
theorem dJ_bitCount_45 : decode bJ_bitCount 45 = .ok (.iushr, 1) := by decide +kernel
theorem dJ_bitCount_46 : decode bJ_bitCount 46 = .ok (.iadd, 1) := by decide +kernel
theorem dJ_bitCount_47 : decode bJ_bitCount 47 = .ok (.istore_n 0, 1) := by decide +kernel
theorem dJ_bitCount_48 : decode bJ_bitCount 48 = .ok (.iload_n 0, 1) := by decide +kernel
theorem dJ_bitCount_49 : decode bJ_bitCount 49 = .ok (.bipush 63, 2) := by decide +kernel
theorem dJ_bitCount_51 : decode bJ_bitCount 51 = .ok (.iand, 1) := by decide +kernel
theorem dJ_bitCount_52 : decode bJ_bitCount 52 = .ok (.ireturn, 1) := by decide +kernel
end
section
section JKY
variable {E : jE} {l : Launch} {own : String} {cc : ByteArray} {nL : Nat} {R : Room} {J : jJ} {pc : Nat} {lv : jL} {st : List Value} {ws : va_W} {cs ss : Nat}
theorem J_ldcw (C : jC E l own cc nL R J) {index : Nat} {v : Int32} (hw : Cond.constant own index v ∈ jTW) (hdg : decode cc pc = .ok (.ldc_w index, 3)) (kk : J (pc + 3) lv (.int v :: st) ws cs ss) : J pc lv st ws cs ss := by
  obtain ⟨p, e, s, m, args, below, meth, c, Q, A, ⟨hx, hb, hml, hown, hts, hA, hK, hST, hlocks⟩, rfl⟩ := C
  intro H locs ls hP hD hS hl
  exact lv_ldcw hx hb hown (hts _ hw) hdg (kk H locs ls hP hD hS hl)
theorem J_iushr (C : jC E l own cc nL R J) {x y : Int32} (hdg : decode cc pc = .ok (.iushr, 1)) (kk : J (pc + 1) lv (.int ((x.toUInt32 >>> (y.toUInt32 &&& Int32.toUInt32 31)).toInt32) :: st) ws cs ss) : J pc lv (.int y :: .int x :: st) ws cs ss := by
  obtain ⟨p, e, s, m, args, below, meth, c, Q, A, ⟨hx, hb, hml, hown, hts, hA, hK, hST, hlocks⟩, rfl⟩ := C
  intro H locs ls hP hD hS hl
  exact lv_iushr hx hb hdg rfl (kk H locs ls hP hD hS hl)
end JKY
end
section
section VALS
/-! lists of small numbers, told as one number: the order by length, then by the first other number -/
def jval : List Nat → Nat
  | [] => 0
  | x :: xs => x * 128 ^ xs.length + jval xs
theorem jval_lt : ∀ (xs : List Nat), (∀ x ∈ xs, x < 128) → jval xs < 128 ^ xs.length
  | [], _ => by simp [jval]
  | x :: xs, h => by
    have h1 := jval_lt xs (fun y hy => h y (List.mem_cons_of_mem _ hy))
    have h2 : x + 1 ≤ 128 := h x List.mem_cons_self
    have h3 := Nat.mul_le_mul_right (128 ^ xs.length) h2
    rw [Nat.add_mul, Nat.one_mul] at h3
    have h4 : 128 ^ (x :: xs).length = 128 * 128 ^ xs.length := by rw [List.length_cons, Nat.pow_succ, Nat.mul_comm]
    rw [h4]
    simp only [jval]
    omega
theorem jval_app : ∀ (a b : List Nat), jval (a ++ b) = jval a * 128 ^ b.length + jval b
  | [], b => by simp [jval]
  | x :: a, b => by
    simp only [List.cons_append, jval, jval_app a b, List.length_append, Nat.pow_add, Nat.add_mul, Nat.mul_assoc, Nat.add_assoc]
theorem jval_cons_lt {x y : Nat} {xs ys : List Nat} (hl : xs.length = ys.length) (hx : ∀ z ∈ xs, z < 128) (h : x < y) : jval (x :: xs) < jval (y :: ys) := by
  have h1 := jval_lt xs hx
  have h2 := Nat.mul_le_mul_right (128 ^ xs.length) (Nat.succ_le_of_lt h)
  rw [Nat.succ_mul] at h2
  simp only [jval, ← hl]
  omega
theorem jval_inj : ∀ (xs ys : List Nat), xs.length = ys.length → (∀ x ∈ xs, x < 128) → (∀ y ∈ ys, y < 128) → jval xs = jval ys → xs = ys
  | [], [], _, _, _, _ => rfl
  | [], y :: ys, h, _, _, _ => by simp at h
  | x :: xs, [], h, _, _, _ => by simp at h
  | x :: xs, y :: ys, h, hx, hy, e => by
    have hl : xs.length = ys.length := by simpa using h
    have hx' : ∀ z ∈ xs, z < 128 := fun z hz => hx z (List.mem_cons_of_mem _ hz)
    have hy' : ∀ z ∈ ys, z < 128 := fun z hz => hy z (List.mem_cons_of_mem _ hz)
    have hxy : x = y := by
      rcases Nat.lt_trichotomy x y with q | q | q
      · exact absurd e (Nat.ne_of_lt (jval_cons_lt hl hx' q))
      · exact q
      · exact absurd e.symm (Nat.ne_of_lt (jval_cons_lt hl.symm hy' q))
    subst hxy
    have e2 : jval xs = jval ys := by
      simp only [jval, hl] at e
      omega
    rw [jval_inj xs ys hl hx' hy' e2]
/-- a number that is no less than those ahead of it is better behind them -/
theorem jval_move : ∀ (A : List Nat) (x : Nat) (R : List Nat), (∀ a ∈ A, a ≤ x) → jval (A ++ x :: R) ≤ jval (x :: (A ++ R))
  | [], x, R, _ => Nat.le_refl _
  | a :: A, x, R, h => by
    have ih := jval_move A x R (fun b hb => h b (List.mem_cons_of_mem _ hb))
    have ha : a ≤ x := h a List.mem_cons_self
    have h2 := Nat.mul_le_mul_right (128 ^ (A ++ R).length) ha
    simp only [List.cons_append, jval, List.length_cons, List.length_append, Nat.pow_succ, Nat.pow_add] at ih h2 ⊢
    have e1 : a * (128 ^ A.length * (128 ^ R.length * 128)) = 128 * (a * (128 ^ A.length * 128 ^ R.length)) := by
      rw [← Nat.mul_assoc (128 ^ A.length), ← Nat.mul_assoc a, Nat.mul_comm _ 128]
    have e2 : x * (128 ^ A.length * 128 ^ R.length * 128) = 128 * (x * (128 ^ A.length * 128 ^ R.length)) := by
      rw [← Nat.mul_assoc x, Nat.mul_comm _ 128]
    rw [e1, e2]
    omega
/-- ps comes no later than qs -/
def jBt (ps qs : List Nat) : Prop := ps.length < qs.length ∨ (ps.length = qs.length ∧ jval ps ≤ jval qs)
theorem jBt_refl (ps : List Nat) : jBt ps ps := Or.inr ⟨rfl, Nat.le_refl _⟩
theorem jBt_anti {ps qs : List Nat} (h1 : jBt ps qs) (h2 : jBt qs ps) (hp : ∀ x ∈ ps, x < 128) (hq : ∀ x ∈ qs, x < 128) : ps = qs := by
  rcases h1 with h1 | ⟨h1, h3⟩ <;> rcases h2 with h2 | ⟨h2, h4⟩
  · omega
  · omega
  · omega
  · exact jval_inj ps qs h1 hp hq (Nat.le_antisymm h3 h4)
theorem jBt_trans {ps qs rs : List Nat} (h1 : jBt ps qs) (h2 : jBt qs rs) : jBt ps rs := by
  unfold jBt at *
  omega
/-- in any nonempty kind of lists there is a first one -/
theorem jBt_least (K : List Nat → Prop) (h : ∃ ps, K ps) : ∃ ps, K ps ∧ ∀ qs, K qs → jBt ps qs := by
  obtain ⟨n, ⟨p0, hp0, rfl⟩, hn⟩ := pk_least (fun n => ∃ ps, K ps ∧ ps.length = n) (by obtain ⟨ps, hp⟩ := h; exact ⟨_, ps, hp, rfl⟩)
  obtain ⟨v, ⟨p1, hp1, hl1, rfl⟩, hv⟩ := pk_least (fun v => ∃ ps, K ps ∧ ps.length = p0.length ∧ jval ps = v) ⟨_, p0, hp0, rfl, rfl⟩
  refine ⟨p1, hp1, fun qs hq => ?_⟩
  rcases Nat.lt_trichotomy p1.length qs.length with q | q | q
  · exact Or.inl q
  · refine Or.inr ⟨q, Nat.not_lt.mp fun z => hv _ z ⟨qs, hq, by omega, rfl⟩⟩
  · exact absurd ⟨qs, hq, rfl⟩ (hn qs.length (by omega))
end VALS
end
section
section FORMS
/-! products, functions, forms: numbers alone -/
/-- the function that the product p of n bits is -/
def pfn : Nat → Nat → Nat
  | 0, _ => 1
  | n + 1, p => if p / 3 ^ n = 0 then pfn n (p % 3 ^ n) * 2 ^ 2 ^ n + pfn n (p % 3 ^ n) else if p / 3 ^ n = 1 then pfn n (p % 3 ^ n) * 2 ^ 2 ^ n else pfn n (p % 3 ^ n)
theorem p_sq (n : Nat) : 2 ^ 2 ^ (n + 1) = 2 ^ 2 ^ n * 2 ^ 2 ^ n := by
  rw [← Nat.pow_add, Nat.pow_succ, Nat.mul_two]
theorem p_pos (n : Nat) : 0 < 2 ^ 2 ^ n := Nat.two_pow_pos _
theorem p3_pos (n : Nat) : 0 < 3 ^ n := Nat.pow_pos (by omega)
theorem pfn_lt : ∀ (n p : Nat), pfn n p < 2 ^ 2 ^ n
  | 0, _ => by simp [pfn]
  | n + 1, p => by
    have h := pfn_lt n (p % 3 ^ n)
    have h1 := Nat.mul_le_mul_right (2 ^ 2 ^ n) (Nat.succ_le_of_lt h)
    rw [Nat.succ_mul] at h1
    have h2 : 1 * 2 ^ 2 ^ n ≤ 2 ^ 2 ^ n * 2 ^ 2 ^ n := Nat.mul_le_mul_right _ (p_pos n)
    rw [p_sq]
    simp only [pfn]
    split
    · omega
    · split <;> omega
def pX (n : Nat) : List Nat → Nat
  | [] => 0
  | p :: ps => pfn n p ^^^ pX n ps
theorem pX_lt (n : Nat) : ∀ ps, pX n ps < 2 ^ 2 ^ n
  | [] => p_pos n
  | p :: ps => Nat.xor_lt_two_pow (pfn_lt n p) (pX_lt n ps)
theorem pX_app (n : Nat) : ∀ a b, pX n (a ++ b) = pX n a ^^^ pX n b
  | [], b => by simp [pX]
  | x :: a, b => by simp only [List.cons_append, pX, pX_app n a b, Nat.xor_assoc]
theorem p_h0 {n p : Nat} (h : p < 3 ^ n) : pfn (n + 1) p % 2 ^ 2 ^ n = pfn n p ∧ pfn (n + 1) p / 2 ^ 2 ^ n = pfn n p := by
  have hg := pfn_lt n p
  have e : pfn (n + 1) p = pfn n p * 2 ^ 2 ^ n + pfn n p := by
    simp only [pfn]
    rw [if_pos (Nat.div_eq_of_lt h), Nat.mod_eq_of_lt h]
  rw [e]
  refine ⟨?_, ?_⟩
  · rw [Nat.mul_comm, Nat.mul_add_mod, Nat.mod_eq_of_lt hg]
  · rw [Nat.mul_comm, Nat.mul_add_div (p_pos n), Nat.div_eq_of_lt hg, Nat.add_zero]
theorem p_h1 {n p : Nat} (h : p < 3 ^ n) : pfn (n + 1) (p + 3 ^ n) % 2 ^ 2 ^ n = 0 ∧ pfn (n + 1) (p + 3 ^ n) / 2 ^ 2 ^ n = pfn n p := by
  have hd : (p + 3 ^ n) / 3 ^ n = 1 := by rw [Nat.add_div_right _ (p3_pos n), Nat.div_eq_of_lt h]
  have hm : (p + 3 ^ n) % 3 ^ n = p := by rw [Nat.add_mod_right, Nat.mod_eq_of_lt h]
  have e : pfn (n + 1) (p + 3 ^ n) = pfn n p * 2 ^ 2 ^ n := by
    simp only [pfn]
    rw [hd, hm]
    simp
  rw [e]
  exact ⟨Nat.mul_mod_left _ _, Nat.mul_div_cancel _ (p_pos n)⟩
theorem p_h2 {n p : Nat} (h : p < 3 ^ n) : pfn (n + 1) (p + 2 * 3 ^ n) % 2 ^ 2 ^ n = pfn n p ∧ pfn (n + 1) (p + 2 * 3 ^ n) / 2 ^ 2 ^ n = 0 := by
  have hg := pfn_lt n p
  have hd : (p + 2 * 3 ^ n) / 3 ^ n = 2 := by rw [Nat.add_mul_div_right _ _ (p3_pos n), Nat.div_eq_of_lt h]
  have hm : (p + 2 * 3 ^ n) % 3 ^ n = p := by rw [Nat.add_mul_mod_self_right, Nat.mod_eq_of_lt h]
  have e : pfn (n + 1) (p + 2 * 3 ^ n) = pfn n p := by
    simp only [pfn]
    rw [hd, hm]
    simp
  rw [e]
  exact ⟨Nat.mod_eq_of_lt hg, Nat.div_eq_of_lt hg⟩
theorem p_X0 {n : Nat} : ∀ A : List Nat, (∀ p ∈ A, p < 3 ^ n) → pX (n + 1) A % 2 ^ 2 ^ n = pX n A ∧ pX (n + 1) A / 2 ^ 2 ^ n = pX n A
  | [], _ => by simp [pX]
  | p :: A, h => by
    have ih := p_X0 A (fun q hq => h q (List.mem_cons_of_mem _ hq))
    have h0 := p_h0 (h p List.mem_cons_self)
    simp only [pX]
    rw [Nat.xor_mod_two_pow, Nat.xor_div_two_pow, ih.1, ih.2, h0.1, h0.2]
    exact ⟨rfl, rfl⟩
theorem p_X1 {n : Nat} : ∀ B : List Nat, (∀ p ∈ B, p < 3 ^ n) → pX (n + 1) (B.map (· + 3 ^ n)) % 2 ^ 2 ^ n = 0 ∧ pX (n + 1) (B.map (· + 3 ^ n)) / 2 ^ 2 ^ n = pX n B
  | [], _ => by simp [pX]
  | p :: A, h => by
    have ih := p_X1 A (fun q hq => h q (List.mem_cons_of_mem _ hq))
    have h0 := p_h1 (h p List.mem_cons_self)
    simp only [List.map_cons, pX]
    rw [Nat.xor_mod_two_pow, Nat.xor_div_two_pow, ih.1, ih.2, h0.1, h0.2]
    exact ⟨rfl, rfl⟩
theorem p_X2 {n : Nat} : ∀ B : List Nat, (∀ p ∈ B, p < 3 ^ n) → pX (n + 1) (B.map (· + 2 * 3 ^ n)) % 2 ^ 2 ^ n = pX n B ∧ pX (n + 1) (B.map (· + 2 * 3 ^ n)) / 2 ^ 2 ^ n = 0
  | [], _ => by simp [pX]
  | p :: A, h => by
    have ih := p_X2 A (fun q hq => h q (List.mem_cons_of_mem _ hq))
    have h0 := p_h2 (h p List.mem_cons_self)
    simp only [List.map_cons, pX]
    rw [Nat.xor_mod_two_pow, Nat.xor_div_two_pow, ih.1, ih.2, h0.1, h0.2]
    exact ⟨rfl, rfl⟩
/-- three lists of n bits as one of n + 1 -/
def pJ (n : Nat) (A B C : List Nat) : List Nat := A ++ (B.map (· + 3 ^ n) ++ C.map (· + 2 * 3 ^ n))
theorem pJ_len (n : Nat) (A B C : List Nat) : (pJ n A B C).length = A.length + B.length + C.length := by simp [pJ, Nat.add_assoc]
theorem pJ_X {n : Nat} {A B C : List Nat} (hA : ∀ p ∈ A, p < 3 ^ n) (hB : ∀ p ∈ B, p < 3 ^ n) (hC : ∀ p ∈ C, p < 3 ^ n) : pX (n + 1) (pJ n A B C) % 2 ^ 2 ^ n = pX n A ^^^ pX n C ∧ pX (n + 1) (pJ n A B C) / 2 ^ 2 ^ n = pX n A ^^^ pX n B := by
  unfold pJ
  rw [pX_app, pX_app, Nat.xor_mod_two_pow, Nat.xor_div_two_pow, Nat.xor_mod_two_pow, Nat.xor_div_two_pow, (p_X0 A hA).1, (p_X0 A hA).2, (p_X1 B hB).1, (p_X1 B hB).2, (p_X2 C hC).1, (p_X2 C hC).2]
  simp
theorem pJ_in {n : Nat} {A B C : List Nat} (hA : ∀ p ∈ A, p < 3 ^ n) (hB : ∀ p ∈ B, p < 3 ^ n) (hC : ∀ p ∈ C, p < 3 ^ n) : ∀ p ∈ pJ n A B C, p < 3 ^ (n + 1) := by
  intro p hp
  rw [Nat.pow_succ]
  simp only [pJ, List.mem_append, List.mem_map] at hp
  rcases hp with h | ⟨q, h, rfl⟩ | ⟨q, h, rfl⟩
  · have := hA p h; omega
  · have := hB q h; omega
  · have := hC q h; omega
theorem pX_eq {n f : Nat} {ps : List Nat} (h1 : pX (n + 1) ps % 2 ^ 2 ^ n = f % 2 ^ 2 ^ n) (h2 : pX (n + 1) ps / 2 ^ 2 ^ n = f / 2 ^ 2 ^ n) : pX (n + 1) ps = f := by
  rw [← Nat.div_add_mod (pX (n + 1) ps) (2 ^ 2 ^ n), ← Nat.div_add_mod f (2 ^ 2 ^ n), h1, h2]
/-- any list of n + 1 bits comes apart by the highest place, and in that order it comes no later -/
theorem p_part {n : Nat} : ∀ qs : List Nat, (∀ p ∈ qs, p < 3 ^ (n + 1)) → ∃ A B C : List Nat, (∀ p ∈ A, p < 3 ^ n) ∧ (∀ p ∈ B, p < 3 ^ n) ∧ (∀ p ∈ C, p < 3 ^ n) ∧ (pJ n A B C).length = qs.length ∧ pX (n + 1) (pJ n A B C) = pX (n + 1) qs ∧ jval (pJ n A B C) ≤ jval qs
  | [], _ => ⟨[], [], [], by simp, by simp, by simp, rfl, rfl, Nat.le_refl _⟩
  | x :: qs, h => by
    obtain ⟨A, B, C, hA, hB, hC, hl, hX, hv⟩ := p_part qs (fun q hq => h q (List.mem_cons_of_mem _ hq))
    have hx : x < 3 ^ n * 3 := by rw [← Nat.pow_succ]; exact h x List.mem_cons_self
    by_cases h0 : x < 3 ^ n
    · refine ⟨x :: A, B, C, ?_, hB, hC, ?_, ?_, ?_⟩
      · intro p hp
        rcases List.mem_cons.mp hp with rfl | hp
        · exact h0
        · exact hA p hp
      · simp only [pJ, List.cons_append, List.length_cons] at hl ⊢; omega
      · simp only [pJ, List.cons_append, pX] at hX ⊢; rw [hX]
      · simp only [pJ, List.cons_append, jval] at hl hv ⊢
        rw [hl]; omega
    · by_cases h1 : x < 2 * 3 ^ n
      · refine ⟨A, (x - 3 ^ n) :: B, C, hA, ?_, hC, ?_, ?_, ?_⟩
        · intro p hp
          rcases List.mem_cons.mp hp with rfl | hp
          · omega
          · exact hB p hp
        · simp only [pJ_len, List.length_cons] at hl ⊢; omega
        · have e : x - 3 ^ n + 3 ^ n = x := by omega
          simp only [pJ, List.map_cons, e, List.cons_append, pX_app, pX] at hX ⊢
          rw [← hX]
          rw [← Nat.xor_assoc, Nat.xor_comm (pX (n + 1) A), Nat.xor_assoc]
        · have e : x - 3 ^ n + 3 ^ n = x := by omega
          have hm := jval_move A x (B.map (· + 3 ^ n) ++ C.map (· + 2 * 3 ^ n)) (fun a ha => by have := hA a ha; omega)
          simp only [pJ, List.map_cons, e, List.cons_append, jval] at hl hv hm ⊢
          rw [hl] at hm
          omega
      · refine ⟨A, B, (x - 2 * 3 ^ n) :: C, hA, hB, ?_, ?_, ?_, ?_⟩
        · intro p hp
          rcases List.mem_cons.mp hp with rfl | hp
          · omega
          · exact hC p hp
        · simp only [pJ_len, List.length_cons] at hl ⊢; omega
        · have e : x - 2 * 3 ^ n + 2 * 3 ^ n = x := by omega
          simp only [pJ, List.map_cons, e, pX_app, pX] at hX ⊢
          rw [← hX]
          rw [← Nat.xor_assoc (pX (n + 1) (B.map (· + 3 ^ n))), Nat.xor_comm (pX (n + 1) (B.map (· + 3 ^ n))), Nat.xor_assoc (pfn (n + 1) x), ← Nat.xor_assoc (pX (n + 1) A), Nat.xor_comm (pX (n + 1) A), Nat.xor_assoc]
        · have e : x - 2 * 3 ^ n + 2 * 3 ^ n = x := by omega
          have hm := jval_move (A ++ B.map (· + 3 ^ n)) x (C.map (· + 2 * 3 ^ n)) (fun a ha => by
            rcases List.mem_append.mp ha with h | h
            · have := hA a h; omega
            · obtain ⟨b, hb, rfl⟩ := List.mem_map.mp h
              have := hB b hb; omega)
          simp only [pJ, List.map_cons, e, List.append_assoc, jval] at hl hv hm ⊢
          rw [hl] at hm
          omega
def pRep (n : Nat) (ps : List Nat) (f : Nat) : Prop := (∀ p ∈ ps, p < 3 ^ n) ∧ pX n ps = f
def pOpt (n f : Nat) (ps : List Nat) : Prop := pRep n ps f ∧ ∀ qs, pRep n qs f → jBt ps qs
theorem p_has : ∀ (n f : Nat), f < 2 ^ 2 ^ n → ∃ ps, pRep n ps f
  | 0, f, h => by
    have h' : f < 2 := h
    rcases (show f = 0 ∨ f = 1 by omega) with rfl | rfl
    · exact ⟨[], by simp, rfl⟩
    · exact ⟨[0], by simp, rfl⟩
  | n + 1, f, h => by
    have hM := p_pos n
    have h1 : f / 2 ^ 2 ^ n < 2 ^ 2 ^ n := Nat.div_lt_of_lt_mul (by rw [← p_sq]; exact h)
    obtain ⟨B, hB, eB⟩ := p_has n (f / 2 ^ 2 ^ n) h1
    obtain ⟨C, hC, eC⟩ := p_has n (f % 2 ^ 2 ^ n) (Nat.mod_lt _ hM)
    have hA : ∀ p ∈ ([] : List Nat), p < 3 ^ n := by simp
    have hx := pJ_X hA hB hC
    refine ⟨pJ n [] B C, pJ_in hA hB hC, pX_eq ?_ ?_⟩
    · rw [hx.1, eC]; simp [pX]
    · rw [hx.2, eB]; simp [pX]
theorem p_opt (n f : Nat) (h : f < 2 ^ 2 ^ n) : ∃ ps, pOpt n f ps := jBt_least (fun ps => pRep n ps f) (p_has n f h)
/-- THE FORM of a function of n bits -/
noncomputable def pF (n f : Nat) : List Nat := Classical.epsilon (fun ps => pOpt n f ps)
theorem pF_opt {n f : Nat} (h : f < 2 ^ 2 ^ n) : pOpt n f (pF n f) := Classical.epsilon_spec (p := fun ps => pOpt n f ps) (p_opt n f h)
theorem pF_in {n f : Nat} (h : f < 2 ^ 2 ^ n) : ∀ p ∈ pF n f, p < 3 ^ n := (pF_opt h).1.1
theorem pF_X {n f : Nat} (h : f < 2 ^ 2 ^ n) : pX n (pF n f) = f := (pF_opt h).1.2
theorem pF_bt {n f : Nat} (h : f < 2 ^ 2 ^ n) {qs : List Nat} (hq : ∀ p ∈ qs, p < 3 ^ n) (hX : pX n qs = f) : jBt (pF n f) qs := (pF_opt h).2 qs ⟨hq, hX⟩
theorem p3_128 {n p : Nat} (hn : n ≤ 4) (h : p < 3 ^ n) : p < 128 := Nat.lt_of_lt_of_le h (Nat.le_trans (Nat.pow_le_pow_right (by omega) hn) (by decide))
theorem pF_128 {n f : Nat} (hn : n ≤ 4) (h : f < 2 ^ 2 ^ n) : ∀ p ∈ pF n f, p < 128 := fun p hp => p3_128 hn (pF_in h p hp)
/-- the form by way of g: what the class tries -/
noncomputable def pCand (n f g : Nat) : List Nat := pJ n (pF n g) (pF n (f / 2 ^ 2 ^ n ^^^ g)) (pF n (f % 2 ^ 2 ^ n ^^^ g))
theorem p_half {n f : Nat} (h : f < 2 ^ 2 ^ (n + 1)) : f / 2 ^ 2 ^ n < 2 ^ 2 ^ n ∧ f % 2 ^ 2 ^ n < 2 ^ 2 ^ n := ⟨Nat.div_lt_of_lt_mul (by rw [← p_sq]; exact h), Nat.mod_lt _ (p_pos n)⟩
theorem xor_back (a g : Nat) : g ^^^ (a ^^^ g) = a := by rw [Nat.xor_comm a g, ← Nat.xor_assoc, Nat.xor_self, Nat.zero_xor]
theorem pCand_bt {n f g : Nat} (h : f < 2 ^ 2 ^ (n + 1)) (hg : g < 2 ^ 2 ^ n) : (∀ p ∈ pCand n f g, p < 3 ^ (n + 1)) ∧ jBt (pF (n + 1) f) (pCand n f g) := by
  obtain ⟨h1, h2⟩ := p_half h
  have b1 := Nat.xor_lt_two_pow h1 hg
  have b2 := Nat.xor_lt_two_pow h2 hg
  have hin := pJ_in (pF_in hg) (pF_in b1) (pF_in b2)
  have hx := pJ_X (pF_in hg) (pF_in b1) (pF_in b2)
  refine ⟨hin, pF_bt h hin (pX_eq ?_ ?_)⟩
  · unfold pCand at *
    rw [hx.1, pF_X hg, pF_X b2, xor_back]
  · unfold pCand at *
    rw [hx.2, pF_X hg, pF_X b1, xor_back]
theorem jval_map (k : Nat) : ∀ xs : List Nat, jval (xs.map (· + k)) = jval xs + k * jval (xs.map (fun _ => 1))
  | [] => by simp [jval]
  | x :: xs => by
    simp only [List.map_cons, jval, List.length_map, jval_map k xs, Nat.add_mul, Nat.mul_add, Nat.one_mul]
    omega
theorem jval_ones {xs ys : List Nat} (h : xs.length = ys.length) : jval (xs.map (fun _ => 1)) = jval (ys.map (fun _ => 1)) := by
  congr 1
  exact List.ext_getElem (by simpa using h) (fun i h1 h2 => by simp)
theorem pCand_has {n f : Nat} (hn : n + 1 ≤ 4) (h : f < 2 ^ 2 ^ (n + 1)) : ∃ g, g < 2 ^ 2 ^ n ∧ pF (n + 1) f = pCand n f g := by
  obtain ⟨A, B, C, hA, hB, hC, hl, hX, hv⟩ := p_part (pF (n + 1) f) (pF_in h)
  obtain ⟨h1, h2⟩ := p_half h
  have hx := pJ_X hA hB hC
  rw [hX, pF_X h] at hx
  have hg : pX n A < 2 ^ 2 ^ n := pX_lt n A
  refine ⟨pX n A, hg, ?_⟩
  have b1 := Nat.xor_lt_two_pow h1 hg
  have b2 := Nat.xor_lt_two_pow h2 hg
  have oA := pF_bt hg hA rfl
  have oB := pF_bt b1 hB (by rw [hx.2, Nat.xor_comm (pX n A), Nat.xor_assoc, Nat.xor_self, Nat.xor_zero])
  have oC := pF_bt b2 hC (by rw [hx.1, Nat.xor_comm (pX n A), Nat.xor_assoc, Nat.xor_self, Nat.xor_zero])
  have oT := (pCand_bt h hg).2
  have hlc : (pCand n f (pX n A)).length = (pF n (pX n A)).length + (pF n (f / 2 ^ 2 ^ n ^^^ pX n A)).length + (pF n (f % 2 ^ 2 ^ n ^^^ pX n A)).length := pJ_len _ _ _ _
  rw [pJ_len] at hl
  unfold jBt at oA oB oC oT
  rw [hlc] at oT
  have eA : (pF n (pX n A)).length = A.length := by omega
  have eB : (pF n (f / 2 ^ 2 ^ n ^^^ pX n A)).length = B.length := by omega
  have eC : (pF n (f % 2 ^ 2 ^ n ^^^ pX n A)).length = C.length := by omega
  have vA : jval (pF n (pX n A)) ≤ jval A := by omega
  have vB : jval (pF n (f / 2 ^ 2 ^ n ^^^ pX n A)) ≤ jval B := by omega
  have vC : jval (pF n (f % 2 ^ 2 ^ n ^^^ pX n A)) ≤ jval C := by omega
  have vJ : jval (pCand n f (pX n A)) ≤ jval (pJ n A B C) := by
    unfold pCand pJ
    simp only [jval_app, jval_map, List.length_append, List.length_map, jval_ones eB, jval_ones eC, eB, eC]
    have q1 := Nat.mul_le_mul_right (128 ^ (B.length + C.length)) vA
    have q2 := Nat.mul_le_mul_right (128 ^ C.length) (Nat.add_le_add_right vB (3 ^ n * jval (B.map (fun _ => 1))))
    omega
  refine jBt_anti (pCand_bt h hg).2 (Or.inr ⟨by omega, Nat.le_trans vJ hv⟩) (pF_128 hn h) (fun p hp => p3_128 hn ((pCand_bt h hg).1 p hp))
/-- cost: how many products -/
noncomputable def pc (n f : Nat) : Nat := (pF n f).length
theorem pc_0 (n : Nat) : pc n 0 = 0 := by
  have h := pF_bt (p_pos n) (qs := []) (by simp) rfl
  unfold jBt at h
  unfold pc
  simp at h
  simpa using h.1
theorem pc_eq0 {n f : Nat} (h : f < 2 ^ 2 ^ n) (h0 : pc n f = 0) : f = 0 := by
  have hX := pF_X h
  unfold pc at h0
  rw [List.length_eq_zero_iff.mp h0] at hX
  exact hX.symm
theorem pc_step {n f p : Nat} (h : f < 2 ^ 2 ^ n) (hp : p < 3 ^ n) : pc n (f ^^^ pfn n p) ≤ pc n f + 1 := by
  have h2 := Nat.xor_lt_two_pow h (pfn_lt n p)
  have b := pF_bt h2 (qs := p :: pF n f) (fun q hq => by
    rcases List.mem_cons.mp hq with rfl | hq
    · exact hp
    · exact pF_in h q hq) (by simp only [pX]; rw [pF_X h, Nat.xor_comm])
  unfold jBt at b
  unfold pc
  simp only [List.length_cons] at b
  omega
theorem xor_xor (a b : Nat) : a ^^^ b ^^^ b = a := by rw [Nat.xor_assoc, Nat.xor_self, Nat.xor_zero]
theorem pc_step2 {n f p : Nat} (h : f < 2 ^ 2 ^ n) (hp : p < 3 ^ n) : pc n f ≤ pc n (f ^^^ pfn n p) + 1 := by
  have q := pc_step (Nat.xor_lt_two_pow h (pfn_lt n p)) hp
  rw [xor_xor] at q
  exact q
/-- the form's first product, and the rest: the least product that leaves a function with one product less -/
theorem pF_cons {n f p : Nat} {ps : List Nat} (hn : n ≤ 4) (h : f < 2 ^ 2 ^ n) (e : pF n f = p :: ps) : p < 3 ^ n ∧ pc n (f ^^^ pfn n p) + 1 = pc n f ∧ ps = pF n (f ^^^ pfn n p) ∧ ∀ q, q < p → pc n (f ^^^ pfn n q) + 1 ≠ pc n f := by
  have hin := pF_in h
  have hX := pF_X h
  rw [e] at hin hX
  have hp := hin p List.mem_cons_self
  have hps : ∀ q ∈ ps, q < 3 ^ n := fun q hq => hin q (List.mem_cons_of_mem _ hq)
  have hfp := Nat.xor_lt_two_pow h (pfn_lt n p)
  have eX : pX n ps = f ^^^ pfn n p := by
    rw [← hX]; simp only [pX]
    rw [Nat.xor_comm (pfn n p), xor_xor]
  have b1 := pF_bt hfp hps eX
  have hc : pc n f = ps.length + 1 := by unfold pc; rw [e]; rfl
  have s2 := pc_step2 h hp
  have hc2 : pc n (f ^^^ pfn n p) = ps.length := by
    unfold jBt at b1
    have : pc n (f ^^^ pfn n p) ≤ ps.length := by unfold pc; omega
    omega
  have key : ∀ q, q < 3 ^ n → pc n (f ^^^ pfn n q) + 1 = pc n f → jBt (p :: ps) (q :: pF n (f ^^^ pfn n q)) := by
    intro q hq hqc
    have hfq := Nat.xor_lt_two_pow h (pfn_lt n q)
    rw [← e]
    refine pF_bt h (fun z hz => ?_) ?_
    · rcases List.mem_cons.mp hz with rfl | hz
      · exact hq
      · exact pF_in hfq z hz
    · simp only [pX]
      rw [pF_X hfq, Nat.xor_comm, xor_xor]
  refine ⟨hp, by omega, ?_, ?_⟩
  · have k := key p hp (by omega)
    have hl : ps.length = (pF n (f ^^^ pfn n p)).length := by unfold pc at hc2; omega
    refine jval_inj _ _ hl (fun z hz => p3_128 hn (hps z hz)) (pF_128 hn hfp) ?_
    unfold jBt at b1 k
    simp only [List.length_cons, jval, hl] at b1 k
    omega
  · intro q hq hqc
    have hq3 : q < 3 ^ n := Nat.lt_trans hq hp
    have k := key q hq3 hqc
    have hl : (pF n (f ^^^ pfn n q)).length = ps.length := by unfold pc at hqc hc; omega
    have lt := jval_cons_lt hl (pF_128 hn (Nat.xor_lt_two_pow h (pfn_lt n q))) hq
    unfold jBt at k
    simp only [List.length_cons] at k
    omega
theorem pc_down {n f : Nat} (hn : n ≤ 4) (h : f < 2 ^ 2 ^ n) (h0 : f ≠ 0) : ∃ p, p < 3 ^ n ∧ pc n (f ^^^ pfn n p) + 1 = pc n f := by
  cases e : pF n f with
  | nil => exact absurd (pc_eq0 h (by unfold pc; rw [e]; rfl)) h0
  | cons p ps => exact ⟨p, (pF_cons hn h e).1, (pF_cons hn h e).2.1⟩
end FORMS
end
section
section MOVES
/-! sets of steps as numbers, moves, the first of the shortest ways -/
def bcn : Nat → Nat → Nat
  | 0, _ => 0
  | k + 1, S => bcn k S + (if S.testBit k then 1 else 0)
/-- how many steps are in a set -/
def bc (S : Nat) : Nat := bcn 12 S
theorem bcn_le : ∀ (k S : Nat), bcn k S ≤ k
  | 0, _ => Nat.le_refl 0
  | k + 1, S => by
    have := bcn_le k S
    simp only [bcn]
    split <;> omega
theorem bcn_mono {a b : Nat} (h : ∀ i, a.testBit i = true → b.testBit i = true) : ∀ k, bcn k a ≤ bcn k b
  | 0 => Nat.le_refl 0
  | k + 1 => by
    have := bcn_mono h k
    simp only [bcn]
    by_cases ha : a.testBit k = true
    · rw [if_pos ha, if_pos (h k ha)]; omega
    · rw [if_neg ha]; split <;> omega
theorem bcn_same {a b : Nat} : ∀ k, (∀ i, i < k → a.testBit i = b.testBit i) → bcn k a = bcn k b
  | 0, _ => rfl
  | k + 1, h => by
    simp only [bcn]
    rw [bcn_same k (fun i hi => h i (by omega)), h k (by omega)]
theorem tb_flip (S s i : Nat) : (S ^^^ 2 ^ s).testBit i = (S.testBit i ^^ decide (s = i)) := by
  rw [Nat.testBit_xor, Nat.testBit_two_pow]
theorem bcn_flip {S s : Nat} (h : S.testBit s = false) : ∀ k, s < k → bcn k (S ^^^ 2 ^ s) = bcn k S + 1
  | 0, hk => by omega
  | k + 1, hk => by
    simp only [bcn, tb_flip]
    by_cases e : s = k
    · subst e
      rw [bcn_same (a := S ^^^ 2 ^ s) (b := S) s (fun i hi => by rw [tb_flip]; simp [show s ≠ i by omega])]
      simp [h]
    · rw [bcn_flip h k (by omega)]
      simp [e]
      omega
theorem bc_up {S s : Nat} (hs : s < 12) (h : S.testBit s = false) : bc (S ^^^ 2 ^ s) = bc S + 1 := bcn_flip h 12 hs
theorem flip_flip (S s : Nat) : S ^^^ 2 ^ s ^^^ 2 ^ s = S := by rw [Nat.xor_assoc, Nat.xor_self, Nat.xor_zero]
theorem bc_down {S s : Nat} (hs : s < 12) (h : S.testBit s = true) : bc (S ^^^ 2 ^ s) + 1 = bc S := by
  have h2 : (S ^^^ 2 ^ s).testBit s = false := by rw [tb_flip]; simp [h]
  have := bc_up hs h2
  rw [flip_flip] at this
  omega
theorem tb_big {S m i : Nat} (h : S < 2 ^ m) (hi : m ≤ i) : S.testBit i = false := Nat.testBit_lt_two_pow (Nat.lt_of_lt_of_le h (Nat.pow_le_pow_right (by omega) hi))
theorem bcn_big {S m : Nat} (h : S < 2 ^ m) : ∀ d, bcn (m + d) S = bcn m S
  | 0 => rfl
  | d + 1 => by
    rw [← Nat.add_assoc]
    simp only [bcn]
    rw [bcn_big h d, tb_big h (by omega)]
    simp
theorem bc_le {S m : Nat} (hm : m ≤ 12) (h : S < 2 ^ m) : bc S ≤ m := by
  have e := bcn_big h (12 - m)
  rw [show m + (12 - m) = 12 by omega] at e
  unfold bc
  rw [e]
  exact bcn_le m S
theorem sub_iff {a S : Nat} : a &&& S = a ↔ ∀ i, a.testBit i = true → S.testBit i = true := by
  constructor
  · intro h i hi
    have := congrArg (fun z => z.testBit i) h
    simp only [Nat.testBit_and, hi, Bool.true_and] at this
    exact this
  · intro h
    apply Nat.eq_of_testBit_eq
    intro i
    rw [Nat.testBit_and]
    cases hi : a.testBit i with
    | false => simp
    | true => simp [h i hi]
/-- a program of m steps; what each needs lies ahead of it -/
def mG (m : Nat) (nd : Nat → Nat) : Prop := 1 ≤ m ∧ m ≤ 12 ∧ ∀ s, s < m → nd s < 2 ^ s
theorem mG_self {m s : Nat} {nd : Nat → Nat} (g : mG m nd) (hs : s < m) : (nd s).testBit s = false := tb_big (g.2.2 s hs) (Nat.le_refl s)
/-- a move of step s at the marks S, with at most b marks behind it -/
def mok (m : Nat) (nd : Nat → Nat) (b S s : Nat) : Prop := s < m ∧ nd s &&& S = nd s ∧ bc (S ^^^ 2 ^ s) ≤ b
def mP (m : Nat) (nd : Nat → Nat) (b : Nat) : Nat → List Nat → Nat → Prop
  | S, [], T => S = T
  | S, s :: ps, T => mok m nd b S s ∧ mP m nd b (S ^^^ 2 ^ s) ps T
theorem mP_app {m : Nat} {nd : Nat → Nat} {b : Nat} : ∀ (p q : List Nat) (S T : Nat), mP m nd b S (p ++ q) T ↔ ∃ U, mP m nd b S p U ∧ mP m nd b U q T
  | [], q, S, T => by simp [mP]
  | s :: p, q, S, T => by
    simp only [List.cons_append, mP, mP_app p q]
    constructor
    · rintro ⟨h, U, h1, h2⟩
      exact ⟨U, ⟨h, h1⟩, h2⟩
    · rintro ⟨U, ⟨h, h1⟩, h2⟩
      exact ⟨h, U, h1, h2⟩
theorem flip_lt {m S s : Nat} (h : S < 2 ^ m) (hs : s < m) : S ^^^ 2 ^ s < 2 ^ m := Nat.xor_lt_two_pow h (Nat.pow_lt_pow_right (by omega) hs)
theorem mP_lt {m : Nat} {nd : Nat → Nat} {b : Nat} : ∀ (p : List Nat) (S T : Nat), S < 2 ^ m → mP m nd b S p T → T < 2 ^ m
  | [], S, T, h, e => by simp only [mP] at e; omega
  | s :: p, S, T, h, e => mP_lt p _ T (flip_lt h e.1.1) e.2
theorem mP_in {m : Nat} {nd : Nat → Nat} {b : Nat} : ∀ (p : List Nat) (S T : Nat), mP m nd b S p T → ∀ s ∈ p, s < m
  | [], _, _, _ => by simp
  | s :: p, S, T, e => by
    intro x hx
    rcases List.mem_cons.mp hx with rfl | hx
    · exact e.1.1
    · exact mP_in p _ T e.2 x hx
/-- what a step needs is there behind its own move too -/
theorem need_flip {m S s : Nat} {nd : Nat → Nat} (g : mG m nd) (hs : s < m) (h : nd s &&& S = nd s) : nd s &&& (S ^^^ 2 ^ s) = nd s := by
  rw [sub_iff] at h ⊢
  intro i hi
  rw [tb_flip, h i hi]
  have : s ≠ i := by
    intro e
    subst e
    rw [mG_self g hs] at hi
    cases hi
  simp [this]
/-- THE MOVES for b -/
def mSP (m : Nat) (nd : Nat → Nat) (b : Nat) (ps : List Nat) : Prop := mP m nd b 0 ps (2 ^ (m - 1)) ∧ ∀ qs, mP m nd b 0 qs (2 ^ (m - 1)) → jBt ps qs
theorem mSP_one {m : Nat} {nd : Nat → Nat} {b : Nat} {ps qs : List Nat} (g : mG m nd) (h1 : mSP m nd b ps) (h2 : mSP m nd b qs) : ps = qs :=
  jBt_anti (h1.2 qs h2.1) (h2.2 ps h1.1) (fun x hx => by have := mP_in _ _ _ h1.1 x hx; have := g.2.1; omega) (fun x hx => by have := mP_in _ _ _ h2.1 x hx; have := g.2.1; omega)
def jLt (ps qs : List Nat) : Prop := ps.length < qs.length ∨ (ps.length = qs.length ∧ jval ps < jval qs)
theorem jLt_bt {ps qs : List Nat} (h : jLt ps qs) : jBt ps qs := by unfold jLt jBt at *; omega
theorem jLt_of {ps qs rs : List Nat} (h : jBt ps qs) (h2 : jLt qs rs) : jLt ps rs := by unfold jLt jBt at *; omega
theorem jLt_of' {ps qs rs : List Nat} (h : jLt ps qs) (h2 : jBt qs rs) : jLt ps rs := by unfold jLt jBt at *; omega
theorem jLt_irr {ps : List Nat} : ¬ jLt ps ps := by unfold jLt; omega
theorem jLt_snoc (ps : List Nat) (s : Nat) : jLt ps (ps ++ [s]) := Or.inl (by simp)
theorem jLt_snoc2 {ps qs : List Nat} {s t : Nat} (h : jLt ps qs) (hs : s < 128) : jLt (ps ++ [s]) (qs ++ [t]) := by
  unfold jLt at *
  simp only [List.length_append, List.length_cons, List.length_nil, jval_app, jval, Nat.pow_zero, Nat.mul_one, Nat.pow_one, Nat.add_zero, Nat.zero_add]
  omega
theorem jBt_snoc2 {ps qs : List Nat} {s : Nat} (h : jBt ps qs) : jBt (ps ++ [s]) (qs ++ [s]) := by
  unfold jBt at *
  simp only [List.length_append, List.length_cons, List.length_nil, jval_app, jval, Nat.pow_zero, Nat.mul_one, Nat.pow_one, Nat.add_zero, Nat.zero_add]
  omega
theorem jLt_snoc3 {ps : List Nat} {s t : Nat} (h : s < t) : jLt (ps ++ [s]) (ps ++ [t]) := by
  refine Or.inr ⟨by simp, ?_⟩
  rw [jval_app, jval_app]
  show jval ps * 128 ^ 1 + (s * 128 ^ 0 + 0) < jval ps * 128 ^ 1 + (t * 128 ^ 0 + 0)
  omega
/-! the reference's search, forwards -/
/-- the rows of the search: Q the queue, sr and bw where each came from and by which step, π the way to each -/
def fI (m : Nat) (nd : Nat → Nat) (b k s found : Nat) (Q sr bw : Nat → Nat) (π : Nat → List Nat) : Prop :=
  0 < found ∧ Q 0 = 0 ∧ π 0 = [] ∧
  (∀ i, 0 < i → i < found → sr i < i ∧ bw i < m ∧ π i = π (sr i) ++ [bw i] ∧ (sr i < k ∨ (sr i = k ∧ bw i < s))) ∧
  (∀ i, i < found → mP m nd b 0 (π i) (Q i)) ∧
  (∀ i j, i < j → j < found → jLt (π i) (π j)) ∧
  (∀ i j, i < j → j < found → Q i ≠ Q j) ∧
  (∀ i t, i < found → t < m → (i < k ∨ (i = k ∧ t < s)) → mok m nd b (Q i) t → ∃ j, j < found ∧ Q j = Q i ^^^ 2 ^ t ∧ jBt (π j) (π i ++ [t])) ∧
  (∀ i, i < k → i < found → Q i ≠ 2 ^ (m - 1))
theorem fI_0 (m : Nat) (nd : Nat → Nat) (b : Nat) (Q sr bw : Nat → Nat) (h : Q 0 = 0) : fI m nd b 0 0 1 Q sr bw (fun _ => []) := by
  refine ⟨by omega, h, rfl, ?_, ?_, ?_, ?_, ?_, ?_⟩
  · intro i h1 h2; omega
  · intro i hi
    rw [show i = 0 by omega, h]
    rfl
  · intro i j h1 h2; omega
  · intro i j h1 h2; omega
  · intro i t _ _ h1; omega
  · intro i h1; omega
/-- a step that is not allowed, or leads to what is there -/
theorem fI_skip {m : Nat} {nd : Nat → Nat} {b k s found : Nat} {Q sr bw : Nat → Nat} {π : Nat → List Nat} (hm : m ≤ 12) (h : fI m nd b k s found Q sr bw π) (hk : k < found) (hs : s < m) (hno : mok m nd b (Q k) s → ∃ j, j < found ∧ Q j = Q k ^^^ 2 ^ s) : fI m nd b k (s + 1) found Q sr bw π := by
  obtain ⟨h0, h1, h2, h3, h4, h5, h6, h7, h8⟩ := h
  refine ⟨h0, h1, h2, fun i a c => ?_, h4, h5, h6, fun i t hi ht hp hok => ?_, h8⟩
  · obtain ⟨q1, q2, q3, q4⟩ := h3 i a c
    exact ⟨q1, q2, q3, by omega⟩
  · by_cases e : i = k ∧ t = s
    · obtain ⟨rfl, rfl⟩ := e
      obtain ⟨j, hj, ej⟩ := hno hok
      refine ⟨j, hj, ej, ?_⟩
      rcases Nat.lt_trichotomy j i with q | q | q
      · exact jLt_bt (jLt_of (jLt_bt (h5 j i q hk)) (jLt_snoc _ _))
      · rw [q]; exact jLt_bt (jLt_snoc _ _)
      · obtain ⟨q1, q2, q3, q4⟩ := h3 j (by omega) hj
        rw [q3]
        rcases q4 with q4 | ⟨q4, q5⟩
        · exact jLt_bt (jLt_snoc2 (h5 _ _ q4 hk) (by omega))
        · rw [q4]; exact jLt_bt (jLt_snoc3 q5)
    · exact h7 i t hi ht (by omega) hok
def upL (π : Nat → List Nat) (k : Nat) (p : List Nat) : Nat → List Nat := fun j => if j = k then p else π j
/-- a step that leads to a new set -/
theorem fI_new {m : Nat} {nd : Nat → Nat} {b k s found : Nat} {Q sr bw : Nat → Nat} {π : Nat → List Nat} (hm : m ≤ 12) (h : fI m nd b k s found Q sr bw π) (hk : k < found) (hs : s < m) (hok : mok m nd b (Q k) s) (hnew : ∀ j, j < found → Q j ≠ Q k ^^^ 2 ^ s) : fI m nd b k (s + 1) (found + 1) (upN Q found (Q k ^^^ 2 ^ s)) (upN sr found k) (upN bw found s) (upL π found (π k ++ [s])) := by
  obtain ⟨h0, h1, h2, h3, h4, h5, h6, h7, h8⟩ := h
  have eQ : ∀ i, i < found → upN Q found (Q k ^^^ 2 ^ s) i = Q i := fun i hi => upN_n (by omega)
  have eS : ∀ i, i < found → upN sr found k i = sr i := fun i hi => upN_n (by omega)
  have eB : ∀ i, i < found → upN bw found s i = bw i := fun i hi => upN_n (by omega)
  have eP : ∀ i, i < found → upL π found (π k ++ [s]) i = π i := fun i hi => by simp [upL, show i ≠ found by omega]
  have nP : upL π found (π k ++ [s]) found = π k ++ [s] := by simp [upL]
  refine ⟨by omega, by rw [eQ 0 h0, h1], by rw [eP 0 h0, h2], fun i a c => ?_, fun i hi => ?_, fun i j hij hj => ?_, fun i j hij hj => ?_, fun i t hi ht hp ho => ?_, fun i hi1 hi2 => ?_⟩
  · by_cases e : i = found
    · subst e
      rw [upN_s, upN_s, nP, eP k hk]
      exact ⟨hk, hs, rfl, Or.inr ⟨rfl, by omega⟩⟩
    · have hi : i < found := by omega
      obtain ⟨q1, q2, q3, q4⟩ := h3 i a hi
      rw [eS i hi, eB i hi, eP i hi, eP (sr i) (by omega)]
      exact ⟨q1, q2, q3, by omega⟩
  · by_cases e : i = found
    · subst e
      rw [nP, upN_s]
      exact (mP_app _ _ _ _).mpr ⟨Q k, h4 k hk, hok, rfl⟩
    · rw [eP i (by omega), eQ i (by omega)]
      exact h4 i (by omega)
  · by_cases e : j = found
    · subst e
      rw [nP, eP i hij]
      rcases Nat.lt_trichotomy i k with q | q | q
      · exact jLt_of (jLt_bt (h5 i k q hk)) (jLt_snoc _ _)
      · rw [q]; exact jLt_snoc _ _
      · obtain ⟨q1, q2, q3, q4⟩ := h3 i (by omega) hij
        rw [q3]
        rcases q4 with q4 | ⟨q4, q5⟩
        · exact jLt_snoc2 (h5 _ _ q4 hk) (by omega)
        · rw [q4]; exact jLt_snoc3 q5
    · rw [eP i (by omega), eP j (by omega)]
      exact h5 i j hij (by omega)
  · by_cases e : j = found
    · subst e
      rw [upN_s, eQ i hij]
      exact hnew i hij
    · rw [eQ i (by omega), eQ j (by omega)]
      exact h6 i j hij (by omega)
  · have hif : i < found := by omega
    rw [eQ i hif] at ho ⊢
    by_cases e : i = k ∧ t = s
    · obtain ⟨rfl, rfl⟩ := e
      exact ⟨found, by omega, upN_s, by rw [nP, eP i hif]; exact jBt_refl _⟩
    · obtain ⟨j, hj, q1, q2⟩ := h7 i t hif ht (by omega) ho
      exact ⟨j, by omega, by rw [eQ j hj]; exact q1, by rw [eP j hj, eP i hif]; exact q2⟩
  · rw [eQ i (by omega)]
    exact h8 i hi1 (by omega)
/-- all steps are through: the next set -/
theorem fI_next {m : Nat} {nd : Nat → Nat} {b k found : Nat} {Q sr bw : Nat → Nat} {π : Nat → List Nat} (h : fI m nd b k m found Q sr bw π) (hg : Q k ≠ 2 ^ (m - 1)) : fI m nd b (k + 1) 0 found Q sr bw π := by
  obtain ⟨h0, h1, h2, h3, h4, h5, h6, h7, h8⟩ := h
  refine ⟨h0, h1, h2, fun i a c => ?_, h4, h5, h6, fun i t hi ht hp hok => h7 i t hi ht (by omega) hok, fun i hi hf => ?_⟩
  · obtain ⟨q1, q2, q3, q4⟩ := h3 i a c
    exact ⟨q1, q2, q3, by omega⟩
  · by_cases e : i = k
    · rw [e]; exact hg
    · exact h8 i (by omega) hf
theorem fI_any {m : Nat} {nd : Nat → Nat} {b k found : Nat} {Q sr bw : Nat → Nat} {π : Nat → List Nat} (h : fI m nd b k 0 found Q sr bw π) : ∀ (P : List Nat) (v : Nat), mP m nd b 0 P v → (k < found ∧ jBt (π k) P) ∨ ∃ j, j < found ∧ Q j = v ∧ jBt (π j) P := by
  obtain ⟨h0, h1, h2, h3, h4, h5, h6, h7, h8⟩ := h
  have key : ∀ (n : Nat) (P : List Nat) (v : Nat), P.length = n → mP m nd b 0 P v → (k < found ∧ jBt (π k) P) ∨ ∃ j, j < found ∧ Q j = v ∧ jBt (π j) P := by
    intro n
    induction n with
    | zero =>
      intro P v hl hP
      rw [List.length_eq_zero_iff.mp hl] at hP ⊢
      simp only [mP] at hP
      exact Or.inr ⟨0, h0, by rw [h1, hP], by rw [h2]; exact jBt_refl _⟩
    | succ n ih =>
      intro P v hl hP
      rcases List.eq_nil_or_concat P with rfl | ⟨P', t, rfl⟩
      · simp at hl
      · rw [List.concat_eq_append] at hP hl ⊢
        obtain ⟨u, hu, ho⟩ := (mP_app _ _ _ _).mp hP
        obtain ⟨ho, hv⟩ := ho
        simp only [mP] at hv
        rcases ih P' u (by simpa using hl) hu with ⟨q1, q2⟩ | ⟨i, hi, ei, bi⟩
        · exact Or.inl ⟨q1, jBt_trans q2 (jLt_bt (jLt_snoc _ _))⟩
        · rcases Nat.lt_or_ge i k with q | q
          · rw [← ei] at ho hv
            obtain ⟨j, hj, e1, e2⟩ := h7 i t hi ho.1 (Or.inl q) ho
            exact Or.inr ⟨j, hj, by rw [e1, hv], jBt_trans e2 (jBt_snoc2 bi)⟩
          · refine Or.inl ⟨by omega, ?_⟩
            have hki : jBt (π k) (π i) := by
              rcases Nat.lt_or_ge k i with z | z
              · exact jLt_bt (h5 k i z hi)
              · rw [show k = i by omega]; exact jBt_refl _
            exact jBt_trans hki (jBt_trans bi (jLt_bt (jLt_snoc _ _)))
  intro P v hP
  exact key P.length P v rfl hP
/-- the goal comes out of the queue: the way to it is the one asked for -/
theorem fI_found {m : Nat} {nd : Nat → Nat} {b k found : Nat} {Q sr bw : Nat → Nat} {π : Nat → List Nat} (h : fI m nd b k 0 found Q sr bw π) (hk : k < found) (hg : Q k = 2 ^ (m - 1)) : mSP m nd b (π k) := by
  refine ⟨by rw [← hg]; exact h.2.2.2.2.1 k hk, fun qs hq => ?_⟩
  rcases fI_any h qs _ hq with ⟨-, q⟩ | ⟨j, hj, ej, bj⟩
  · exact q
  · have e : j = k := by
      have h6 := h.2.2.2.2.2.2.1
      rcases Nat.lt_trichotomy j k with z | z | z
      · exact absurd (ej.trans hg.symm) (h6 j k z hk)
      · exact z
      · exact absurd (hg.trans ej.symm) (h6 k j z hj)
    rw [← e]; exact bj
/-- the queue is through: there is no way -/
theorem fI_none {m : Nat} {nd : Nat → Nat} {b k found : Nat} {Q sr bw : Nat → Nat} {π : Nat → List Nat} (h : fI m nd b k 0 found Q sr bw π) (hk : found ≤ k) : ∀ qs, ¬ mP m nd b 0 qs (2 ^ (m - 1)) := by
  intro qs hq
  rcases fI_any h qs _ hq with ⟨q, -⟩ | ⟨j, hj, ej, -⟩
  · omega
  · exact h.2.2.2.2.2.2.2.2 j (by omega) hj ej
theorem fI_lt {m : Nat} {nd : Nat → Nat} {b k s found : Nat} {Q sr bw : Nat → Nat} {π : Nat → List Nat} (h : fI m nd b k s found Q sr bw π) : ∀ i, i < found → Q i < 2 ^ m := fun i hi => mP_lt _ 0 _ (Nat.two_pow_pos m) (h.2.2.2.2.1 i hi)
/-- different sets are at most 2^m -/
theorem few {N n : Nat} {Q : Nat → Nat} (h1 : ∀ i, i < n → Q i < N) (h2 : ∀ i j, i < j → j < n → Q i ≠ Q j) : n ≤ N := by
  have hnd : ((List.range n).map Q).Nodup := by
    rw [List.Nodup, List.pairwise_map]
    refine List.Pairwise.imp_of_mem ?_ (List.pairwise_lt_range)
    intro a c ha hc hac
    exact h2 a c hac (List.mem_range.mp hc)
  have hs : ∀ x ∈ (List.range n).map Q, x ∈ List.range N := by
    intro x hx
    obtain ⟨i, hi, rfl⟩ := List.mem_map.mp hx
    exact List.mem_range.mpr (h1 i (List.mem_range.mp hi))
  have := List.Nodup.length_le_of_subset hnd hs
  simpa using this
end MOVES
end
section
section BACK
/-! the class's search, backwards from the goal over the steps that are wanted -/
def wst (nd : Nat → Nat) : Nat → Nat → Nat
  | 0, w => w
  | k + 1, w => wst nd k (if w.testBit k then w ||| nd k else w)
def mW (m : Nat) (nd : Nat → Nat) : Nat := wst nd m (2 ^ (m - 1))
theorem wst_hi {nd : Nat → Nat} : ∀ (k w i : Nat), (∀ j, j < k → nd j < 2 ^ j) → k ≤ i → (wst nd k w).testBit i = w.testBit i
  | 0, _, _, _, _ => rfl
  | k + 1, w, i, h, hi => by
    simp only [wst]
    rw [wst_hi k _ i (fun j hj => h j (by omega)) (by omega)]
    split
    · rw [Nat.testBit_or, tb_big (h k (by omega)) (by omega)]
      simp
    · rfl
theorem wst_up {nd : Nat → Nat} : ∀ (k w i : Nat), w.testBit i = true → (wst nd k w).testBit i = true
  | 0, _, _, h => h
  | k + 1, w, i, h => by
    simp only [wst]
    apply wst_up
    split
    · rw [Nat.testBit_or, h]; rfl
    · exact h
theorem wst_cl {nd : Nat → Nat} : ∀ (k w : Nat), (∀ j, j < k → nd j < 2 ^ j) → ∀ s, s < k → (wst nd k w).testBit s = true → ∀ i, (nd s).testBit i = true → (wst nd k w).testBit i = true
  | 0, _, _, s, hs, _, _, _ => by omega
  | k + 1, w, h, s, hs, hw, i, hi => by
    simp only [wst] at hw ⊢
    by_cases e : s = k
    · subst e
      rw [wst_hi s _ s (fun j hj => h j (by omega)) (Nat.le_refl s)] at hw
      apply wst_up
      by_cases hk : w.testBit s = true
      · rw [if_pos hk, Nat.testBit_or, hi]; simp
      · rw [if_neg hk] at hw; exact absurd hw hk
    · exact wst_cl k _ (fun j hj => h j (by omega)) s (by omega) hw i hi
theorem wst_from {nd : Nat → Nat} : ∀ (k w : Nat), (∀ j, j < k → nd j < 2 ^ j) → ∀ i, (wst nd k w).testBit i = true → w.testBit i = true ∨ ∃ t, t < k ∧ i < t ∧ (wst nd k w).testBit t = true ∧ (nd t).testBit i = true
  | 0, _, _, i, h => Or.inl h
  | k + 1, w, h, i, hi => by
    simp only [wst] at hi ⊢
    rcases wst_from k _ (fun j hj => h j (by omega)) i hi with q | ⟨t, h1, h2, h3, h4⟩
    · by_cases hk : w.testBit k = true
      · rw [if_pos hk, Nat.testBit_or, Bool.or_eq_true] at q
        rcases q with q | q
        · exact Or.inl q
        · refine Or.inr ⟨k, by omega, ?_, ?_, q⟩
          · rcases Nat.lt_or_ge i k with z | z
            · exact z
            · rw [tb_big (h k (by omega)) z] at q; cases q
          · apply wst_up
            rw [if_pos hk, Nat.testBit_or, hk]; rfl
      · rw [if_neg hk] at q
        exact Or.inl q
    · exact Or.inr ⟨t, by omega, h2, h3, h4⟩
theorem wst_lt {nd : Nat → Nat} {m : Nat} : ∀ (k w : Nat), (∀ j, j < k → nd j < 2 ^ j) → k ≤ m → w < 2 ^ m → wst nd k w < 2 ^ m
  | 0, _, _, _, h => h
  | k + 1, w, h, hk, hw => by
    simp only [wst]
    apply wst_lt k _ (fun j hj => h j (by omega)) (by omega)
    split
    · exact Nat.or_lt_two_pow hw (Nat.lt_of_lt_of_le (h k (by omega)) (Nat.pow_le_pow_right (by omega) (by omega)))
    · exact hw
/-- what is wanted: the last step, and with a step all that it needs -/
theorem mW_last {m : Nat} {nd : Nat → Nat} : (mW m nd).testBit (m - 1) = true := wst_up _ _ _ (by rw [Nat.testBit_two_pow]; simp)
theorem mW_cl {m : Nat} {nd : Nat → Nat} (g : mG m nd) {s : Nat} (hs : s < m) (h : (mW m nd).testBit s = true) : nd s &&& mW m nd = nd s := sub_iff.mpr (fun i hi => wst_cl m _ g.2.2 s hs h i hi)
theorem mW_lt {m : Nat} {nd : Nat → Nat} (g : mG m nd) : mW m nd < 2 ^ m := wst_lt m _ g.2.2 (Nat.le_refl m) (Nat.pow_lt_pow_right (by omega) (by have := g.1; omega))
theorem mW_from {m : Nat} {nd : Nat → Nat} (g : mG m nd) {i : Nat} (h : (mW m nd).testBit i = true) : i = m - 1 ∨ ∃ t, t < m ∧ i < t ∧ (mW m nd).testBit t = true ∧ (nd t).testBit i = true := by
  rcases wst_from m _ g.2.2 i h with q | q
  · rw [Nat.testBit_two_pow] at q
    exact Or.inl (of_decide_eq_true q).symm
  · exact Or.inr q
def mPW (m : Nat) (nd : Nat → Nat) (b w S : Nat) (ps : List Nat) (T : Nat) : Prop := mP m nd b S ps T ∧ ∀ s ∈ ps, w.testBit s = true
theorem and_flip_in {S w s : Nat} (h : w.testBit s = true) : (S ^^^ 2 ^ s) &&& w = (S &&& w) ^^^ 2 ^ s := by
  apply Nat.eq_of_testBit_eq
  intro i
  rw [Nat.testBit_and, tb_flip, tb_flip, Nat.testBit_and]
  by_cases e : s = i
  · subst e; simp [h]
  · simp [e]
theorem and_flip_out {S w s : Nat} (h : w.testBit s = false) : (S ^^^ 2 ^ s) &&& w = S &&& w := by
  apply Nat.eq_of_testBit_eq
  intro i
  rw [Nat.testBit_and, tb_flip, Nat.testBit_and]
  by_cases e : s = i
  · subst e; simp [h]
  · simp [e]
theorem bc_and (S w : Nat) : bc (S &&& w) ≤ bc S := bcn_mono (fun i hi => by rw [Nat.testBit_and, Bool.and_eq_true] at hi; exact hi.1) 12
/-- moves of steps that aren't wanted may be left out -/
theorem mP_proj {m : Nat} {nd : Nat → Nat} {b : Nat} (g : mG m nd) : ∀ (ps : List Nat) (S T : Nat), mP m nd b S ps T → mPW m nd b (mW m nd) (S &&& mW m nd) (ps.filter (fun s => (mW m nd).testBit s)) (T &&& mW m nd)
  | [], S, T, h => by
    simp only [mP] at h
    subst h
    exact ⟨rfl, by simp⟩
  | s :: ps, S, T, h => by
    obtain ⟨⟨h1, h2, h3⟩, h4⟩ := h
    have ih := mP_proj g ps _ T h4
    by_cases hw : (mW m nd).testBit s = true
    · rw [and_flip_in hw] at ih
      rw [List.filter_cons_of_pos hw]
      refine ⟨⟨⟨h1, ?_, ?_⟩, ih.1⟩, ?_⟩
      · rw [sub_iff] at h2 ⊢
        have hc := sub_iff.mp (mW_cl g h1 hw)
        intro i hi
        rw [Nat.testBit_and, h2 i hi, hc i hi]; rfl
      · rw [← and_flip_in hw]
        exact Nat.le_trans (bc_and _ _) h3
      · intro t ht
        rcases List.mem_cons.mp ht with rfl | ht
        · exact hw
        · exact ih.2 t ht
    · rw [List.filter_cons_of_neg hw]
      rw [and_flip_out (by simpa using hw)] at ih
      exact ih
def bI (m : Nat) (nd : Nat → Nat) (b w k s n : Nat) (Q lf : Nat → Nat) : Prop :=
  (0 < n ∧ Q 0 = 2 ^ (m - 1) ∧ lf (2 ^ (m - 1)) = 1) ∧
  (∀ i, i < n → Q i < 2 ^ m ∧ bc (Q i) ≤ b ∧ lf (Q i) ≠ 0) ∧
  (∀ S, S < 2 ^ m → lf S ≠ 0 → ∃ i, i < n ∧ Q i = S) ∧
  (∀ i j, i < j → j < n → Q i ≠ Q j) ∧
  (∀ i, i < n → ∃ ps, mPW m nd b w (Q i) ps (2 ^ (m - 1)) ∧ ps.length + 1 = lf (Q i)) ∧
  (∀ i j, i ≤ j → j < n → lf (Q i) ≤ lf (Q j)) ∧
  (k < n → ∀ j, j < n → lf (Q j) ≤ lf (Q k) + 1) ∧
  (∀ i t, i < n → (i < k ∨ (i = k ∧ t < s)) → w.testBit t = true → mok m nd b (Q i) t → lf (Q i ^^^ 2 ^ t) ≠ 0 ∧ lf (Q i ^^^ 2 ^ t) ≤ lf (Q i) + 1)
theorem bc_two {k : Nat} (h : k < 12) : bc (2 ^ k) = 1 := by
  have := bc_up (S := 0) h (by simp)
  rw [Nat.zero_xor] at this
  rw [this]; decide
theorem bI_0 {m : Nat} {nd : Nat → Nat} {b w : Nat} {Q lf : Nat → Nat} (g : mG m nd) (hb : 1 ≤ b) (hQ : Q 0 = 2 ^ (m - 1)) (hl : ∀ S, S < 2 ^ m → lf S = if S = 2 ^ (m - 1) then 1 else 0) : bI m nd b w 0 0 1 Q lf := by
  have hg : 2 ^ (m - 1) < 2 ^ m := Nat.pow_lt_pow_right (by omega) (by have := g.1; omega)
  have l1 : lf (2 ^ (m - 1)) = 1 := by rw [hl _ hg]; simp
  refine ⟨⟨by omega, hQ, l1⟩, ?_, ?_, ?_, ?_, ?_, ?_, ?_⟩
  · intro i hi
    rw [show i = 0 by omega, hQ]
    exact ⟨hg, by rw [bc_two (by have := g.1; have := g.2.1; omega)]; exact hb, by rw [l1]; omega⟩
  · intro S hS h0
    rw [hl S hS] at h0
    by_cases e : S = 2 ^ (m - 1)
    · exact ⟨0, by omega, by rw [hQ, e]⟩
    · rw [if_neg e] at h0; exact absurd rfl h0
  · intro i j h1 h2; omega
  · intro i hi
    rw [show i = 0 by omega, hQ]
    exact ⟨[], ⟨rfl, by simp⟩, by rw [l1]; rfl⟩
  · intro i j h1 h2
    rw [show i = 0 by omega, show j = 0 by omega]
    exact Nat.le_refl _
  · intro _ j hj
    rw [show j = 0 by omega]; omega
  · intro i t _ h; omega
theorem bI_skip {m : Nat} {nd : Nat → Nat} {b w k s n : Nat} {Q lf : Nat → Nat} (h : bI m nd b w k s n Q lf) (hk : k < n) (hno : w.testBit s = true → mok m nd b (Q k) s → lf (Q k ^^^ 2 ^ s) ≠ 0) : bI m nd b w k (s + 1) n Q lf := by
  obtain ⟨h0, h1, h2, h3, h4, h5, h6, h7⟩ := h
  refine ⟨h0, h1, h2, h3, h4, h5, h6, fun i t hi hp hw ho => ?_⟩
  by_cases e : i = k ∧ t = s
  · obtain ⟨rfl, rfl⟩ := e
    have hn := hno hw ho
    refine ⟨hn, ?_⟩
    obtain ⟨j, hj, ej⟩ := h2 _ (flip_lt (h1 i hi).1 ho.1) hn
    rw [← ej]
    exact h6 hk j hj
  · exact h7 i t hi (by omega) hw ho
theorem bI_new {m : Nat} {nd : Nat → Nat} {b w k s n : Nat} {Q lf : Nat → Nat} (g : mG m nd) (h : bI m nd b w k s n Q lf) (hk : k < n) (hw : w.testBit s = true) (ho : mok m nd b (Q k) s) (hz : lf (Q k ^^^ 2 ^ s) = 0) : bI m nd b w k (s + 1) (n + 1) (upN Q n (Q k ^^^ 2 ^ s)) (upN lf (Q k ^^^ 2 ^ s) (lf (Q k) + 1)) := by
  obtain ⟨h0, h1, h2, h3, h4, h5, h6, h7⟩ := h
  have hne : ∀ i, i < n → Q i ≠ Q k ^^^ 2 ^ s := fun i hi e => (h1 i hi).2.2 (by rw [e]; exact hz)
  have eQ : ∀ i, i < n → upN Q n (Q k ^^^ 2 ^ s) i = Q i := fun i hi => upN_n (by omega)
  have eL : ∀ i, i < n → upN lf (Q k ^^^ 2 ^ s) (lf (Q k) + 1) (Q i) = lf (Q i) := fun i hi => upN_n (hne i hi)
  have hT := flip_lt (h1 k hk).1 ho.1
  refine ⟨⟨by omega, by rw [eQ 0 h0.1, h0.2.1], ?_⟩, ?_, ?_, ?_, ?_, ?_, ?_, ?_⟩
  · rw [← h0.2.1, eL 0 h0.1, h0.2.1]; exact h0.2.2
  · intro i hi
    by_cases e : i = n
    · subst e
      rw [upN_s, upN_s]
      exact ⟨hT, ho.2.2, by omega⟩
    · rw [eQ i (by omega), eL i (by omega)]
      exact h1 i (by omega)
  · intro S hS hne0
    by_cases e : S = Q k ^^^ 2 ^ s
    · exact ⟨n, by omega, by rw [upN_s, e]⟩
    · rw [upN_n e] at hne0
      obtain ⟨i, hi, ei⟩ := h2 S hS hne0
      exact ⟨i, by omega, by rw [eQ i hi, ei]⟩
  · intro i j hij hj
    by_cases e : j = n
    · subst e
      rw [upN_s, eQ i hij]
      exact hne i hij
    · rw [eQ i (by omega), eQ j (by omega)]
      exact h3 i j hij (by omega)
  · intro i hi
    by_cases e : i = n
    · subst e
      rw [upN_s, upN_s]
      obtain ⟨ps, hp, hl⟩ := h4 k hk
      refine ⟨s :: ps, ⟨⟨⟨ho.1, need_flip g ho.1 ho.2.1, ?_⟩, ?_⟩, ?_⟩, ?_⟩
      · rw [flip_flip]; exact (h1 k hk).2.1
      · rw [flip_flip]; exact hp.1
      · intro t ht
        rcases List.mem_cons.mp ht with rfl | ht
        · exact hw
        · exact hp.2 t ht
      · rw [List.length_cons, hl]
    · rw [eQ i (by omega), eL i (by omega)]
      exact h4 i (by omega)
  · intro i j hij hj
    by_cases e : j = n
    · subst e
      rw [upN_s, upN_s]
      by_cases e2 : i = j
      · subst e2; rw [upN_s, upN_s]; exact Nat.le_refl _
      · rw [eQ i (by omega), eL i (by omega)]
        exact h6 hk i (by omega)
    · rw [eQ i (by omega), eQ j (by omega), eL i (by omega), eL j (by omega)]
      exact h5 i j hij (by omega)
  · intro _ j hj
    rw [eQ k hk, eL k hk]
    by_cases e : j = n
    · subst e; rw [upN_s, upN_s]; exact Nat.le_refl _
    · rw [eQ j (by omega), eL j (by omega)]
      exact h6 hk j (by omega)
  · intro i t hi hp hwt hot
    have hin : i < n := by omega
    rw [eQ i hin] at hot ⊢
    rw [eL i hin]
    by_cases e : Q i ^^^ 2 ^ t = Q k ^^^ 2 ^ s
    · rw [e, upN_s]
      by_cases e2 : i = k
      · subst e2; omega
      · have := h7 i t hin (by omega) hwt hot
        rw [e] at this
        exact absurd hz this.1
    · rw [upN_n e]
      by_cases e2 : i = k ∧ t = s
      · obtain ⟨rfl, rfl⟩ := e2; exact absurd rfl e
      · exact h7 i t hin (by omega) hwt hot
theorem bI_next {m : Nat} {nd : Nat → Nat} {b w k n : Nat} {Q lf : Nat → Nat} (hw : w < 2 ^ m) (h : bI m nd b w k m n Q lf) (hk : k < n) : bI m nd b w (k + 1) 0 n Q lf := by
  obtain ⟨h0, h1, h2, h3, h4, h5, h6, h7⟩ := h
  refine ⟨h0, h1, h2, h3, h4, h5, fun hk1 j hj => Nat.le_trans (h6 hk j hj) (by have := h5 k (k + 1) (by omega) hk1; omega), fun i t hi hp hwt ho => ?_⟩
  exact h7 i t hi (by have := ho.1; omega) hwt ho
theorem bI_any {m : Nat} {nd : Nat → Nat} {b w k n : Nat} {Q lf : Nat → Nat} (g : mG m nd) (h : bI m nd b w k 0 n Q lf) : ∀ (ps : List Nat) (S : Nat), S < 2 ^ m → bc S ≤ b → mPW m nd b w S ps (2 ^ (m - 1)) → (lf S ≠ 0 ∧ lf S ≤ ps.length + 1) ∨ (k < n ∧ lf (Q k) ≤ ps.length)
  | [], S, hS, hb, hp => by
    have e : S = 2 ^ (m - 1) := hp.1
    rw [e, h.1.2.2]
    exact Or.inl ⟨by omega, by simp⟩
  | s :: ps, S, hS, hb, hp => by
    obtain ⟨⟨ho, hp1⟩, hp2⟩ := hp
    have hS1 := flip_lt hS ho.1
    rcases bI_any g h ps _ hS1 ho.2.2 ⟨hp1, fun t ht => hp2 t (List.mem_cons_of_mem _ ht)⟩ with ⟨q1, q2⟩ | ⟨q1, q2⟩
    · obtain ⟨h0, h1, h2, h3, h4, h5, h6, h7⟩ := h
      obtain ⟨i, hi, ei⟩ := h2 _ hS1 q1
      rcases Nat.lt_or_ge i k with z | z
      · have := h7 i s hi (Or.inl z) (hp2 s List.mem_cons_self) (by rw [ei]; exact ⟨ho.1, need_flip g ho.1 ho.2.1, by rw [flip_flip]; exact hb⟩)
        rw [ei, flip_flip] at this
        exact Or.inl ⟨this.1, by rw [List.length_cons]; omega⟩
      · have := h5 k i z hi
        rw [ei] at this
        exact Or.inr ⟨by omega, by rw [List.length_cons]; omega⟩
    · exact Or.inr ⟨q1, by rw [List.length_cons]; omega⟩
/-- the search has ended with the empty set found -/
def bE (m : Nat) (nd : Nat → Nat) (b k n : Nat) (Q lf : Nat → Nat) : Prop := bI m nd b (mW m nd) k 0 n Q lf ∧ lf 0 ≠ 0
theorem bE_edge {m : Nat} {nd : Nat → Nat} {b k n : Nat} {Q lf : Nat → Nat} (g : mG m nd) (h : bE m nd b k n Q lf) {S p : Nat} {ps : List Nat} (hS : S < 2 ^ m) (hr : lf S = ps.length + 2) (hle : lf S ≤ lf 0) (hp : mPW m nd b (mW m nd) S (p :: ps) (2 ^ (m - 1))) : lf (S ^^^ 2 ^ p) = ps.length + 1 := by
  obtain ⟨hI, hz⟩ := h
  obtain ⟨⟨ho, hp1⟩, hp2⟩ := hp
  have hS1 := flip_lt hS ho.1
  have any := bI_any g hI ps _ hS1 ho.2.2 ⟨hp1, fun t ht => hp2 t (List.mem_cons_of_mem _ ht)⟩
  obtain ⟨h0, h1, h2, h3, h4, h5, h6, h7⟩ := hI
  have hk0 : k < n → lf 0 ≤ lf (Q k) + 1 := fun hk => by
    obtain ⟨j, hj, ej⟩ := h2 0 (Nat.two_pow_pos m) hz
    rw [← ej]; exact h6 hk j hj
  obtain ⟨iS, hiS, eiS⟩ := h2 S hS (by omega)
  have hbS : bc S ≤ b := by rw [← eiS]; exact (h1 iS hiS).2.1
  rcases any with ⟨q1, q2⟩ | ⟨q1, q2⟩
  · obtain ⟨i, hi, ei⟩ := h2 _ hS1 q1
    rcases Nat.lt_or_ge i k with z | z
    · have := h7 i p hi (Or.inl z) (hp2 p List.mem_cons_self) (by rw [ei]; exact ⟨ho.1, need_flip g ho.1 ho.2.1, by rw [flip_flip]; exact hbS⟩)
      rw [ei, flip_flip] at this
      omega
    · have a1 := h5 k i z hi
      have a2 := hk0 (by omega)
      rw [ei] at a1
      omega
  · have a2 := hk0 q1
    omega
theorem bE_path {m : Nat} {nd : Nat → Nat} {b k n : Nat} {Q lf : Nat → Nat} (h : bE m nd b k n Q lf) {S : Nat} (hS : S < 2 ^ m) (hz : lf S ≠ 0) : ∃ ps, mPW m nd b (mW m nd) S ps (2 ^ (m - 1)) ∧ ps.length + 1 = lf S := by
  obtain ⟨i, hi, ei⟩ := h.1.2.2.1 S hS hz
  rw [← ei]
  exact h.1.2.2.2.2.1 i hi
/-- a way that goes each time by the first step that comes nearer -/
def mGr (m : Nat) (nd lf : Nat → Nat) : Nat → List Nat → Prop
  | S, [] => lf S = 1
  | S, s :: γ => s < m ∧ nd s &&& S = nd s ∧ lf (S ^^^ 2 ^ s) + 1 = lf S ∧ lf (S ^^^ 2 ^ s) ≠ 0 ∧ (∀ t, t < s → ¬ (nd t &&& S = nd t ∧ lf (S ^^^ 2 ^ t) + 1 = lf S)) ∧ mGr m nd lf (S ^^^ 2 ^ s) γ
theorem mGr_len {m : Nat} {nd lf : Nat → Nat} : ∀ (γ : List Nat) (S : Nat), mGr m nd lf S γ → lf S = γ.length + 1
  | [], S, h => h
  | s :: γ, S, h => by
    have := mGr_len γ _ h.2.2.2.2.2
    rw [List.length_cons]
    have := h.2.2.1
    omega
/-- there is a step that comes nearer -/
theorem bE_step {m : Nat} {nd : Nat → Nat} {b k n : Nat} {Q lf : Nat → Nat} (g : mG m nd) (h : bE m nd b k n Q lf) {S : Nat} (hS : S < 2 ^ m) (h2 : 2 ≤ lf S) (hle : lf S ≤ lf 0) : ∃ p, p < m ∧ nd p &&& S = nd p ∧ lf (S ^^^ 2 ^ p) + 1 = lf S := by
  obtain ⟨ps, hp, hl⟩ := bE_path h hS (by omega)
  cases ps with
  | nil => simp at hl; omega
  | cons p ps =>
    have := bE_edge g h hS (by rw [← hl]; rfl) hle hp
    refine ⟨p, hp.1.1.1, hp.1.1.2.1, ?_⟩
    rw [List.length_cons] at hl
    omega
theorem mGr_valid {m : Nat} {nd : Nat → Nat} {b k n : Nat} {Q lf : Nat → Nat} (h : bE m nd b k n Q lf) : ∀ (γ : List Nat) (S : Nat), S < 2 ^ m → mGr m nd lf S γ → mP m nd b S γ (2 ^ (m - 1))
  | [], S, hS, hg => by
    have hg' : lf S = 1 := hg
    obtain ⟨ps, hp, hl⟩ := bE_path h hS (by omega)
    have : ps = [] := List.length_eq_zero_iff.mp (by omega)
    subst this
    exact hp.1
  | s :: γ, S, hS, hg => by
    have hS1 := flip_lt hS hg.1
    obtain ⟨i, hi, ei⟩ := h.1.2.2.1 _ hS1 hg.2.2.2.1
    refine ⟨⟨hg.1, hg.2.1, ?_⟩, mGr_valid h γ _ hS1 hg.2.2.2.2.2⟩
    rw [← ei]
    exact (h.1.2.1 i hi).2.1
theorem mGr_first {m : Nat} {nd : Nat → Nat} {b k n : Nat} {Q lf : Nat → Nat} (g : mG m nd) (h : bE m nd b k n Q lf) : ∀ (γ P : List Nat) (S : Nat), S < 2 ^ m → mGr m nd lf S γ → lf S ≤ lf 0 → P.length = γ.length → mPW m nd b (mW m nd) S P (2 ^ (m - 1)) → jval γ ≤ jval P
  | [], P, S, hS, hg, hle, hl, hP => by simp [jval]
  | s :: γ, [], S, hS, hg, hle, hl, hP => by simp at hl
  | s :: γ, p :: P, S, hS, hg, hle, hl, hP => by
    have hlen := mGr_len _ _ hg
    have hl' : P.length = γ.length := by simpa using hl
    have he := bE_edge g h hS (by rw [hlen, List.length_cons, hl']) hle hP
    rw [List.length_cons] at hlen
    have hps : ¬ p < s := fun z => hg.2.2.2.2.1 p z ⟨hP.1.1.2.1, by omega⟩
    rcases Nat.lt_or_ge s p with z | z
    · refine Nat.le_of_lt (jval_cons_lt hl'.symm (fun x hx => ?_) z)
      have hv := mGr_valid h γ _ (flip_lt hS hg.1) hg.2.2.2.2.2
      have := mP_in _ _ _ hv x hx
      have := g.2.1
      omega
    · have e : s = p := by omega
      subst e
      have ih := mGr_first g h γ P _ (flip_lt hS hg.1) hg.2.2.2.2.2 (by have := hg.2.2.1; omega) hl' ⟨hP.1.2, fun t ht => hP.2 t (List.mem_cons_of_mem _ ht)⟩
      simp only [jval, hl']
      omega
theorem bE_found {m : Nat} {nd : Nat → Nat} {b k n : Nat} {Q lf : Nat → Nat} (g : mG m nd) (h : bE m nd b k n Q lf) {γ : List Nat} (hg : mGr m nd lf 0 γ) : mSP m nd b γ := by
  have h0 : (0 : Nat) < 2 ^ m := Nat.two_pow_pos m
  refine ⟨mGr_valid h γ 0 h0 hg, fun qs hq => ?_⟩
  have hpr := mP_proj g qs 0 _ hq
  have eg : 2 ^ (m - 1) &&& mW m nd = 2 ^ (m - 1) := sub_iff.mpr (fun i hi => by
    rw [Nat.testBit_two_pow] at hi
    rw [← of_decide_eq_true hi]
    exact mW_last)
  rw [Nat.zero_and, eg] at hpr
  have hlen := mGr_len γ 0 hg
  have hfl : (qs.filter (fun s => (mW m nd).testBit s)).length ≤ qs.length := List.length_filter_le _ _
  have hb0 : bc 0 ≤ b := by have : bc 0 = 0 := by decide
                            omega
  have hge : γ.length ≤ (qs.filter (fun s => (mW m nd).testBit s)).length := by
    rcases bI_any g h.1 _ 0 h0 hb0 hpr with ⟨-, q⟩ | ⟨q1, q2⟩
    · omega
    · obtain ⟨j, hj, ej⟩ := h.1.2.2.1 0 h0 h.2
      have := h.1.2.2.2.2.2.2.1 q1 j hj
      rw [ej] at this
      omega
  rcases Nat.lt_or_ge γ.length qs.length with z | z
  · exact Or.inl z
  · have el : (qs.filter (fun s => (mW m nd).testBit s)).length = qs.length := by omega
    have ef : qs.filter (fun s => (mW m nd).testBit s) = qs := List.Sublist.eq_of_length List.filter_sublist el
    rw [ef] at hpr
    exact Or.inr ⟨by omega, mGr_first g h γ qs 0 h0 hg (Nat.le_refl _) (by omega) hpr⟩
theorem bI_none {m : Nat} {nd : Nat → Nat} {b k n : Nat} {Q lf : Nat → Nat} (g : mG m nd) (h : bI m nd b (mW m nd) k 0 n Q lf) (hk : n ≤ k) (hz : lf 0 = 0) : ∀ qs, ¬ mP m nd b 0 qs (2 ^ (m - 1)) := by
  intro qs hq
  have h0 : (0 : Nat) < 2 ^ m := Nat.two_pow_pos m
  have hpr := mP_proj g qs 0 _ hq
  have eg : 2 ^ (m - 1) &&& mW m nd = 2 ^ (m - 1) := sub_iff.mpr (fun i hi => by
    rw [Nat.testBit_two_pow] at hi
    rw [← of_decide_eq_true hi]
    exact mW_last)
  rw [Nat.zero_and, eg] at hpr
  rcases bI_any g h _ 0 h0 (by have : bc 0 = 0 := by decide
                               omega) hpr with ⟨q, -⟩ | ⟨q, -⟩
  · exact q hz
  · omega
/-! how few marks may do -/
theorem mP_moves {m : Nat} {nd : Nat → Nat} {b : Nat} (g : mG m nd) : ∀ (ps : List Nat) (S T s : Nat), mP m nd b S ps T → bc S ≤ b → S.testBit s = false → T.testBit s = true → ∃ U, U.testBit s = false ∧ mok m nd b U s ∧ ∀ i, (nd s).testBit i = true → U.testBit i = true
  | [], S, T, s, h, _, h1, h2 => by
    simp only [mP] at h
    subst h
    rw [h1] at h2; cases h2
  | t :: ps, S, T, s, h, hb, h1, h2 => by
    by_cases e : t = s
    · subst e
      exact ⟨S, h1, h.1, sub_iff.mp h.1.2.1⟩
    · exact mP_moves g ps _ T s h.2 h.1.2.2 (by rw [tb_flip, h1]; simp [e]) h2
theorem mP_split {m : Nat} {nd : Nat → Nat} {b : Nat} : ∀ (ps : List Nat) (S T s : Nat), mP m nd b S ps T → S.testBit s = false → T.testBit s = true → ∃ (p1 : List Nat) (U : Nat), mP m nd b S p1 U ∧ U.testBit s = false ∧ mok m nd b U s
  | [], S, T, s, h, h1, h2 => by
    simp only [mP] at h
    subst h
    rw [h1] at h2; cases h2
  | t :: ps, S, T, s, h, h1, h2 => by
    by_cases e : t = s
    · subst e
      exact ⟨[], S, rfl, h1, h.1⟩
    · obtain ⟨p1, U, q1, q2, q3⟩ := mP_split ps _ T s h.2 (by rw [tb_flip, h1]; simp [e]) h2
      exact ⟨t :: p1, U, ⟨h.1, q1⟩, q2, q3⟩
/-- each step that is wanted is marked at some time -/
theorem mW_marked {m : Nat} {nd : Nat → Nat} {b : Nat} {ps : List Nat} (g : mG m nd) (h : mP m nd b 0 ps (2 ^ (m - 1))) : ∀ (d s : Nat), m ≤ s + d → s < m → (mW m nd).testBit s = true → ∃ (p1 : List Nat) (U : Nat), mP m nd b 0 p1 U ∧ U.testBit s = false ∧ mok m nd b U s
  | 0, s, h1, h2, _ => by omega
  | d + 1, s, h1, h2, hw => by
    rcases mW_from g hw with e | ⟨t, t1, t2, t3, t4⟩
    · exact mP_split ps 0 _ s h (by simp) (by rw [Nat.testBit_two_pow]; simp [e])
    · obtain ⟨p1, U, q1, q2, q3⟩ := mW_marked g h d t (by omega) t1 t3
      exact mP_split p1 0 U s q1 (by simp) (sub_iff.mp q3.2.1 s t4)
theorem mW_few {m : Nat} {nd : Nat → Nat} {b : Nat} {ps : List Nat} (g : mG m nd) (h : mP m nd b 0 ps (2 ^ (m - 1))) {s : Nat} (hs : s < m) (hw : (mW m nd).testBit s = true) : 1 + bc (nd s) ≤ b := by
  obtain ⟨p1, U, q1, q2, q3⟩ := mW_marked g h m s (by omega) hs hw
  have h1 : bc (nd s) ≤ bc U := bcn_mono (sub_iff.mp q3.2.1) 12
  have h2 := bc_up (S := U) (s := s) (by have := g.2.1; omega) q2
  have := q3.2.2
  omega
/-- with a mark for each step there is a way -/
theorem tb_ones (k i : Nat) : (2 ^ k - 1).testBit i = decide (i < k) := Nat.testBit_two_pow_sub_one k i
theorem mP_upto {m : Nat} {nd : Nat → Nat} (g : mG m nd) : ∀ k, k ≤ m → ∃ ps, mP m nd m 0 ps (2 ^ k - 1)
  | 0, _ => ⟨[], rfl⟩
  | k + 1, hk => by
    obtain ⟨ps, hp⟩ := mP_upto g k (by omega)
    have e : (2 ^ k - 1) ^^^ 2 ^ k = 2 ^ (k + 1) - 1 := by
      apply Nat.eq_of_testBit_eq
      intro i
      rw [tb_flip, tb_ones, tb_ones]
      by_cases h1 : i < k <;> by_cases h2 : k = i <;> simp [h1, h2] <;> omega
    refine ⟨ps ++ [k], (mP_app _ _ _ _).mpr ⟨_, hp, ⟨by omega, ?_, ?_⟩, e⟩⟩
    · rw [sub_iff]
      intro i hi
      rw [tb_ones]
      rcases Nat.lt_or_ge i k with z | z
      · simp [z]
      · rw [tb_big (g.2.2 k (by omega)) z] at hi; cases hi
    · rw [e]
      exact bc_le g.2.1 (by have := Nat.two_pow_pos (k + 1); have := Nat.pow_le_pow_right (show 2 > 0 by omega) hk; omega)
theorem tb_top (m k i : Nat) (h : k < m) : (2 ^ (m - 1) ^^^ (2 ^ k - 1)).testBit i = (decide (m - 1 = i) || decide (i < k)) := by
  rw [Nat.testBit_xor, Nat.testBit_two_pow, tb_ones]
  by_cases h1 : m - 1 = i <;> by_cases h2 : i < k <;> simp [h1, h2] <;> omega
theorem mP_back {m : Nat} {nd : Nat → Nat} (g : mG m nd) : ∀ k, k < m → ∃ ps, mP m nd m (2 ^ (m - 1) ^^^ (2 ^ k - 1)) ps (2 ^ (m - 1))
  | 0, _ => ⟨[], by simp [mP]⟩
  | k + 1, hk => by
    obtain ⟨ps, hp⟩ := mP_back g k (by omega)
    have e : (2 ^ (m - 1) ^^^ (2 ^ (k + 1) - 1)) ^^^ 2 ^ k = 2 ^ (m - 1) ^^^ (2 ^ k - 1) := by
      apply Nat.eq_of_testBit_eq
      intro i
      rw [tb_flip, tb_top m (k + 1) i hk, tb_top m k i (by omega)]
      by_cases h1 : m - 1 = i <;> by_cases h2 : i < k <;> by_cases h3 : k = i <;> simp [h1, h2, h3] <;> omega
    have hlt : 2 ^ (m - 1) ^^^ (2 ^ k - 1) < 2 ^ m := Nat.xor_lt_two_pow (Nat.pow_lt_pow_right (by omega) (by omega)) (by have := Nat.pow_lt_pow_right (show 1 < 2 by omega) (show k < m by omega); have := Nat.two_pow_pos k; omega)
    refine ⟨k :: ps, ⟨by omega, ?_, ?_⟩, by rw [e]; exact hp⟩
    · rw [sub_iff]
      intro i hi
      rw [tb_top m (k + 1) i hk]
      rcases Nat.lt_or_ge i k with z | z
      · simp [show i < k + 1 by omega]
      · rw [tb_big (g.2.2 k (by omega)) z] at hi; cases hi
    · rw [e]
      exact bc_le g.2.1 hlt
theorem mP_full {m : Nat} {nd : Nat → Nat} (g : mG m nd) : ∃ ps, mP m nd m 0 ps (2 ^ (m - 1)) := by
  have hm := g.1
  obtain ⟨p1, h1⟩ := mP_upto g m (Nat.le_refl m)
  obtain ⟨p2, h2⟩ := mP_back g (m - 1) (by omega)
  refine ⟨p1 ++ p2, (mP_app _ _ _ _).mpr ⟨_, h1, ?_⟩⟩
  have e : 2 ^ m - 1 = 2 ^ (m - 1) ^^^ (2 ^ (m - 1) - 1) := by
    apply Nat.eq_of_testBit_eq
    intro i
    rw [tb_ones, tb_top m (m - 1) i (by omega)]
    by_cases h1 : m - 1 = i <;> by_cases h2 : i < m - 1 <;> simp [h1, h2] <;> omega
  rw [e]
  exact h2
/-- more marks do no harm -/
theorem mP_more {m : Nat} {nd : Nat → Nat} {b c : Nat} (h : b ≤ c) : ∀ (ps : List Nat) (S T : Nat), mP m nd b S ps T → mP m nd c S ps T
  | [], _, _, q => q
  | s :: ps, S, T, q => ⟨⟨q.1.1, q.1.2.1, Nat.le_trans q.1.2.2 h⟩, mP_more h ps _ T q.2⟩
/-- more marks than steps are as many -/
theorem mP_less {m : Nat} {nd : Nat → Nat} {b : Nat} (hm : m ≤ 12) : ∀ (ps : List Nat) (S T : Nat), S < 2 ^ m → mP m nd b S ps T → mP m nd (min b m) S ps T
  | [], _, _, _, q => q
  | s :: ps, S, T, hS, q => ⟨⟨q.1.1, q.1.2.1, Nat.le_min.mpr ⟨q.1.2.2, bc_le hm (flip_lt hS q.1.1)⟩⟩, mP_less hm ps _ T (flip_lt hS q.1.1) q.2⟩
theorem mSP_min {m : Nat} {nd : Nat → Nat} {b : Nat} (hm : m ≤ 12) (ps : List Nat) : mSP m nd b ps ↔ mSP m nd (min b m) ps := by
  have a : ∀ qs, mP m nd b 0 qs (2 ^ (m - 1)) ↔ mP m nd (min b m) 0 qs (2 ^ (m - 1)) := fun qs => ⟨mP_less hm qs 0 _ (Nat.two_pow_pos m), mP_more (Nat.min_le_left b m) qs 0 _⟩
  unfold mSP
  rw [a]
  exact ⟨fun h => ⟨h.1, fun qs hq => h.2 qs ((a qs).mpr hq)⟩, fun h => ⟨h.1, fun qs hq => h.2 qs ((a qs).mp hq)⟩⟩
end BACK
end
section
section GATES
/-! gates row by row: numbers alone -/
def chg (x a c : Nat) : Nat := if x &&& c = c then x ^^^ 2 ^ a else x
def gAp (n : Nat) (t : Nat → Nat) (a c : Nat) : Nat → Nat := fun v => if v < 2 ^ n then chg (t v) a c else t v
abbrev gS : Type := (Nat → Nat) × List Nat
def gU (n : Nat) (s : gS) (a c : Nat) : gS := (gAp n s.1 a c, s.2 ++ [16 * a + c])
def g1 (n v : Nat) : Nat → gS → gS
  | 0, s => s
  | a + 1, s => if v.testBit a = true ∧ ((g1 n v a s).1 v).testBit a = false then gU n (g1 n v a s) a ((g1 n v a s).1 v) else g1 n v a s
def g2 (n v : Nat) : Nat → gS → gS
  | 0, s => s
  | a + 1, s => if ((g2 n v a s).1 v).testBit a = true ∧ v.testBit a = false then gU n (g2 n v a s) a v else g2 n v a s
def gRow (n v : Nat) (s : gS) : gS := g2 n v n (g1 n v n s)
def gRows (n : Nat) : Nat → gS → gS
  | 0, s => s
  | v + 1, s => gRow n v (gRows n v s)
def gOk (n : Nat) (t : Nat → Nat) : Prop := ∀ v, v < 2 ^ n → t v < 2 ^ n
theorem chg_lt {n x a c : Nat} (hx : x < 2 ^ n) (ha : a < n) : chg x a c < 2 ^ n := by
  unfold chg
  split
  · exact Nat.xor_lt_two_pow hx (Nat.pow_lt_pow_right (by omega) ha)
  · exact hx
theorem gAp_ok {n a c : Nat} {t : Nat → Nat} (h : gOk n t) (ha : a < n) : gOk n (gAp n t a c) := by
  intro v hv
  unfold gAp
  rw [if_pos hv]
  exact chg_lt (h v hv) ha
theorem gU_ok {n a c : Nat} {s : gS} (h : gOk n s.1) (ha : a < n) : gOk n (gU n s a c).1 := gAp_ok h ha
theorem g1_ok {n v : Nat} {s : gS} (h : gOk n s.1) : ∀ a, a ≤ n → gOk n (g1 n v a s).1
  | 0, _ => h
  | a + 1, ha => by
    have ih := g1_ok (v := v) h a (by omega)
    simp only [g1]
    split
    · exact gU_ok ih (by omega)
    · exact ih
theorem g2_ok {n v : Nat} {s : gS} (h : gOk n s.1) : ∀ a, a ≤ n → gOk n (g2 n v a s).1
  | 0, _ => h
  | a + 1, ha => by
    have ih := g2_ok (v := v) h a (by omega)
    simp only [g2]
    split
    · exact gU_ok ih (by omega)
    · exact ih
theorem gRow_ok {n v : Nat} {s : gS} (h : gOk n s.1) : gOk n (gRow n v s).1 := g2_ok (g1_ok h n (Nat.le_refl n)) n (Nat.le_refl n)
theorem gRows_ok {n : Nat} {s : gS} (h : gOk n s.1) : ∀ v, gOk n (gRows n v s).1
  | 0 => h
  | v + 1 => gRow_ok (gRows_ok h v)
theorem g1_len {n v : Nat} {s : gS} : ∀ a, (g1 n v a s).2.length ≤ s.2.length + bcn a v
  | 0 => by simp [g1, bcn]
  | a + 1 => by
    have ih := g1_len (n := n) (v := v) (s := s) a
    simp only [g1, bcn]
    split
    · rename_i h
      rw [if_pos h.1]
      simp only [gU, List.length_append, List.length_cons, List.length_nil]
      omega
    · omega
theorem g2_len {n v : Nat} {s : gS} : ∀ a, (g2 n v a s).2.length + bcn a v ≤ s.2.length + a
  | 0 => by simp [g2, bcn]
  | a + 1 => by
    have ih := g2_len (n := n) (v := v) (s := s) a
    simp only [g2, bcn]
    by_cases hv : v.testBit a = true
    · rw [if_pos hv, if_neg (by simp [hv])]
      omega
    · rw [if_neg hv]
      split
      · simp only [gU, List.length_append, List.length_cons, List.length_nil]
        omega
      · omega
theorem gRow_len {n v : Nat} {s : gS} : (gRow n v s).2.length ≤ s.2.length + n := by
  have h1 := g1_len (n := n) (v := v) (s := s) n
  have h2 := g2_len (n := n) (v := v) (s := g1 n v n s) n
  unfold gRow
  omega
theorem gRows_len {n : Nat} {s : gS} : ∀ v, (gRows n v s).2.length ≤ s.2.length + n * v
  | 0 => by simp [gRows]
  | v + 1 => by
    have ih := gRows_len (n := n) (s := s) v
    have h := gRow_len (n := n) (v := v) (s := gRows n v s)
    simp only [gRows, Nat.mul_add, Nat.mul_one]
    omega
/-- the row F holds the list out -/
def gL (F : Nat → Nat) (out : List Nat) : Prop := ∀ j, j < out.length → F j = out.getD j 0
theorem gL_nil (F : Nat → Nat) : gL F [] := fun j h => by simp at h
theorem gL_push {F : Nat → Nat} {out : List Nat} {x : Nat} (h : gL F out) : gL (upN F out.length x) (out ++ [x]) := by
  intro j hj
  rw [List.length_append, List.length_cons, List.length_nil] at hj
  by_cases e : j = out.length
  · subst e
    rw [upN_s]
    simp [List.getD]
  · rw [upN_n e, h j (by omega)]
    have : j < out.length := by omega
    simp [List.getD, List.getElem?_append_left this]
theorem gate_num : ∀ a, a < 4 → ∀ c, c < 16 → (a * 16 ||| c) = 16 * a + c ∧ (16 * a + c) / 16 = a ∧ (16 * a + c) &&& 15 = c ∧ (16 * a + c) % 16 = c := by decide +kernel
theorem bit_not : ∀ v, v < 16 → ∀ r, r < 16 → ∀ a, a < 4 → (nI v &&& (nI r ^^^ -1)) &&& nI (2 ^ a) = nI (if v.testBit a = true ∧ r.testBit a = false then 2 ^ a else 0) := by decide +kernel
theorem p16 {n : Nat} (h : n ≤ 4) : 2 ^ n ≤ 16 := Nat.pow_le_pow_right (by omega) h
theorem p1 (n : Nat) : 1 ≤ 2 ^ n := Nat.two_pow_pos n
end GATES
section GATES2
theorem tb_and1 (c a : Nat) : c / 2 ^ a &&& 1 = if c.testBit a then 1 else 0 := by
  rw [Nat.and_one_is_mod, Nat.testBit_eq_decide_div_mod_eq]
  have := Nat.mod_lt (c / 2 ^ a) (show 0 < 2 by omega)
  by_cases h : c / 2 ^ a % 2 = 1
  · simp [h]
  · simp [h]; omega
theorem ch_t {f t : Nat → Nat} {a c i : Nat} (hf : ∀ j, f j = if j < i then chg (t j) a c else t j) (h : t i &&& c = c) (j : Nat) : upN f i (t i ^^^ 2 ^ a) j = if j < i + 1 then chg (t j) a c else t j := by
  unfold upN
  by_cases e : j = i
  · subst e
    simp [chg, h]
  · rw [if_neg e, hf j]
    by_cases h2 : j < i
    · rw [if_pos h2, if_pos (by omega)]
    · rw [if_neg h2, if_neg (by omega)]
theorem ch_f {f t : Nat → Nat} {a c i : Nat} (hf : ∀ j, f j = if j < i then chg (t j) a c else t j) (h : t i &&& c ≠ c) (j : Nat) : f j = if j < i + 1 then chg (t j) a c else t j := by
  rw [hf j]
  by_cases e : j = i
  · subst e
    simp [chg, h]
  · by_cases h2 : j < i
    · rw [if_pos h2, if_pos (by omega)]
    · rw [if_neg h2, if_neg (by omega)]
/-- which values are there -/
def sn (t : Nat → Nat) : Nat → Nat
  | 0 => 0
  | i + 1 => sn t i ||| 2 ^ t i
theorem sn_lt {t : Nat → Nat} : ∀ i, (∀ j, j < i → t j < 16) → sn t i < 2 ^ 16
  | 0, _ => by simp [sn]
  | i + 1, h => Nat.or_lt_two_pow (sn_lt i (fun j hj => h j (by omega))) (Nat.pow_lt_pow_right (by omega) (h i (by omega)))
theorem p65 {n : Nat} (h : n ≤ 4) : 2 ^ 2 ^ n ≤ 65536 := Nat.pow_le_pow_right (n := 2) (by omega) (show 2 ^ n ≤ 16 from p16 h)
end GATES2
section GATES3
/-- alike on the values -/
def gE (n : Nat) (s t : gS) : Prop := (∀ j, j < 2 ^ n → s.1 j = t.1 j) ∧ s.2 = t.2
theorem gU_E {n a c : Nat} {s t : gS} (h : gE n s t) : gE n (gU n s a c) (gU n t a c) := by
  refine ⟨fun j hj => ?_, ?_⟩
  · simp only [gU, gAp]
    rw [if_pos hj, if_pos hj, h.1 j hj]
  · simp only [gU]
    rw [h.2]
theorem g1_E {n v : Nat} (hv : v < 2 ^ n) {s t : gS} (h : gE n s t) : ∀ a, gE n (g1 n v a s) (g1 n v a t)
  | 0 => h
  | a + 1 => by
    have ih := g1_E hv h a
    simp only [g1]
    rw [ih.1 v hv]
    split
    · exact gU_E ih
    · exact ih
theorem g2_E {n v : Nat} (hv : v < 2 ^ n) {s t : gS} (h : gE n s t) : ∀ a, gE n (g2 n v a s) (g2 n v a t)
  | 0 => h
  | a + 1 => by
    have ih := g2_E hv h a
    simp only [g2]
    rw [ih.1 v hv]
    split
    · exact gU_E ih
    · exact ih
theorem gRows_E {n : Nat} {s t : gS} (h : gE n s t) : ∀ v, v ≤ 2 ^ n → gE n (gRows n v s) (gRows n v t)
  | 0, _ => h
  | v + 1, hv => g2_E (by omega) (g1_E (by omega) (gRows_E h v (by omega)) n) n
/-- THE GATES, the first one found first -/
def gts (n : Nat) (t : Nat → Nat) : List Nat := (gRows n (2 ^ n) (t, [])).2
theorem gts_of {n : Nat} {t f : Nat → Nat} (h : ∀ j, j < 2 ^ n → f j = t j) : (gRows n (2 ^ n) (f, [])).2 = gts n t := (gRows_E (s := (f, [])) (t := (t, [])) ⟨h, rfl⟩ (2 ^ n) (Nat.le_refl _)).2
theorem gts_len {n : Nat} (hn : n ≤ 4) (t : Nat → Nat) : (gts n t).length ≤ 64 := by
  have h := gRows_len (n := n) (s := (t, [])) (2 ^ n)
  have h2 := Nat.mul_le_mul hn (p16 hn)
  unfold gts
  simp at h
  omega
theorem g1_t {n v a : Nat} {s : gS} (h : v.testBit a = true ∧ ((g1 n v a s).1 v).testBit a = false) : g1 n v (a + 1) s = gU n (g1 n v a s) a ((g1 n v a s).1 v) := by simp only [g1]; rw [if_pos h]
theorem g1_f {n v a : Nat} {s : gS} (h : ¬ (v.testBit a = true ∧ ((g1 n v a s).1 v).testBit a = false)) : g1 n v (a + 1) s = g1 n v a s := by simp only [g1]; rw [if_neg h]
theorem g2_t {n v a : Nat} {s : gS} (h : ((g2 n v a s).1 v).testBit a = true ∧ v.testBit a = false) : g2 n v (a + 1) s = gU n (g2 n v a s) a v := by simp only [g2]; rw [if_pos h]
theorem g2_f {n v a : Nat} {s : gS} (h : ¬ (((g2 n v a s).1 v).testBit a = true ∧ v.testBit a = false)) : g2 n v (a + 1) s = g2 n v a s := by simp only [g2]; rw [if_neg h]
theorem if_two_eq {P : Prop} [Decidable P] {a : Nat} (h : (((if P then 2 ^ a else 0 : Nat)) : Int) = 0) : ¬ P := by
  intro q
  rw [if_pos q] at h
  have := p1 a
  omega
theorem if_two_ne {P : Prop} [Decidable P] {a : Nat} (h : (((if P then 2 ^ a else 0 : Nat)) : Int) ≠ 0) : P := by
  by_cases q : P
  · exact q
  · rw [if_neg q] at h
    simp at h
theorem if_two_lt {P : Prop} [Decidable P] {a : Nat} (ha : a < 5) : (if P then 2 ^ a else 0 : Nat) < 2 ^ 31 := by
  have : 2 ^ a ≤ 2 ^ 4 := Nat.pow_le_pow_right (by omega) (by omega)
  split <;> omega
/-- a copy of the first i -/
theorem cp_s {f g t : Nat → Nat} {i : Nat} (hf : ∀ j, f j = if j < i then t j else g j) (j : Nat) : upN f i (t i) j = if j < i + 1 then t j else g j := by
  unfold upN
  by_cases e : j = i
  · subst e; simp
  · rw [if_neg e, hf j]
    by_cases h2 : j < i
    · rw [if_pos h2, if_pos (by omega)]
    · rw [if_neg h2, if_neg (by omega)]
end GATES3
section GATES4
theorem bcn_grow (v a : Nat) : ∀ d, bcn (a + d) v ≤ bcn a v + d
  | 0 => Nat.le_refl _
  | d + 1 => by
    have := bcn_grow v a d
    rw [← Nat.add_assoc]
    simp only [bcn]
    split <;> omega
theorem bcn_gap {v n a : Nat} (h : a < n) (hv : v.testBit a = false) : bcn n v + a + 1 ≤ bcn a v + n := by
  have h1 := bcn_grow v (a + 1) (n - (a + 1))
  rw [show a + 1 + (n - (a + 1)) = n by omega] at h1
  have h2 : bcn (a + 1) v = bcn a v := by simp [bcn, hv]
  omega
end GATES4
end
section
section PRODS
/-! what a product's number tells; the forms as longs -/
def okd (d : Nat) (b : Bool) : Bool := d == 0 || (d == 1) == b
def hb (p v : Nat) : Nat → Bool
  | 0 => true
  | b + 1 => hb p v b && okd (p / 3 ^ b % 3) (v.testBit b)
def fnv (n p : Nat) : Nat → Nat
  | 0 => 0
  | v + 1 => if hb p v n then fnv n p v ||| 2 ^ v else fnv n p v
theorem fnv_pfn : ∀ n, n < 5 → ∀ p, p < 3 ^ n → fnv n p (2 ^ n) = pfn n p := by decide +kernel
theorem fnv_lt (n p : Nat) : ∀ v, fnv n p v < 2 ^ v
  | 0 => by simp [fnv]
  | v + 1 => by
    have ih := fnv_lt n p v
    have h1 : 2 ^ v < 2 ^ (v + 1) := Nat.pow_lt_pow_right (by omega) (by omega)
    simp only [fnv]
    split
    · exact Nat.or_lt_two_pow (by omega) h1
    · omega
theorem hb_le {p v : Nat} : ∀ {b c : Nat}, b ≤ c → hb p v b = false → hb p v c = false
  | b, 0, h, hf => by rw [show b = 0 by omega] at hf; exact hf
  | b, c + 1, h, hf => by
    by_cases e : b = c + 1
    · rw [← e]; exact hf
    · simp only [hb]
      rw [hb_le (show b ≤ c by omega) hf]; rfl
theorem p81 {n : Nat} (h : n ≤ 4) : 3 ^ n ≤ 81 := Nat.pow_le_pow_right (n := 3) (by omega) h
/-- a form as one number -/
def fcode (ps : List Nat) : Nat := ps.length * 2 ^ 48 + jval ps
theorem p128 (k : Nat) : 128 ^ k = 2 ^ (7 * k) := by rw [Nat.pow_mul]
theorem jval_42 {ps : List Nat} (hl : ps.length ≤ 6) (h : ∀ p ∈ ps, p < 128) : jval ps < 2 ^ 42 := Nat.lt_of_lt_of_le (jval_lt ps h) (by rw [p128]; exact Nat.pow_le_pow_right (by omega) (by omega))
theorem fcode_lt {ps : List Nat} (hl : ps.length ≤ 6) (h : ∀ p ∈ ps, p < 128) : fcode ps < 2 ^ 51 := by
  have := jval_42 hl h
  unfold fcode
  omega
theorem fcode_size {ps : List Nat} (hl : ps.length ≤ 6) (h : ∀ p ∈ ps, p < 128) : fcode ps / 2 ^ 48 = ps.length := by
  have := jval_42 hl h
  unfold fcode
  omega
theorem fcode_nums {ps : List Nat} (hl : ps.length ≤ 6) (h : ∀ p ∈ ps, p < 128) : fcode ps % 2 ^ 48 = jval ps := by
  have := jval_42 hl h
  unfold fcode
  omega
theorem fcode_le {ps qs : List Nat} (hl : ps.length ≤ 6) (hp : ∀ p ∈ ps, p < 128) (hk : qs.length ≤ 6) (hq : ∀ p ∈ qs, p < 128) : fcode ps ≤ fcode qs ↔ jBt ps qs := by
  have h1 := jval_42 hl hp
  have h2 := jval_42 hk hq
  unfold fcode jBt
  omega
/-- the number that stands at place i -/
theorem fcode_at : ∀ (ps : List Nat), (∀ p ∈ ps, p < 128) → ∀ i, i < ps.length → jval ps / 2 ^ (7 * (ps.length - 1 - i)) % 128 = ps.getD i 0
  | [], _, i, h => by simp at h
  | p :: ps, hp, i, h => by
    have hps : ∀ q ∈ ps, q < 128 := fun q hq => hp q (List.mem_cons_of_mem _ hq)
    have hlt := jval_lt ps hps
    have hp0 : p < 128 := hp p List.mem_cons_self
    cases i with
    | zero =>
      simp only [List.length_cons, jval]
      rw [show ps.length + 1 - 1 - 0 = ps.length by omega, ← p128, Nat.mul_comm, Nat.mul_add_div (Nat.pow_pos (by omega)), Nat.div_eq_of_lt hlt, Nat.add_zero, Nat.mod_eq_of_lt hp0]
      rfl
    | succ i =>
      have hi : i < ps.length := by simpa using h
      have ih := fcode_at ps hps i hi
      simp only [List.length_cons, jval]
      rw [show ps.length + 1 - 1 - (i + 1) = ps.length - 1 - i by omega, ← p128]
      rw [← p128] at ih
      have e : p * 128 ^ ps.length = 128 ^ (ps.length - 1 - i) * (p * 128 ^ i * 128) := by
        have : ps.length = (ps.length - 1 - i) + i + 1 := by omega
        rw [this, Nat.pow_succ, Nat.pow_add]
        rw [show (ps.length - 1 - i) + i + 1 - 1 - i = ps.length - 1 - i by omega]
        ac_rfl
      rw [e, Nat.mul_add_div (Nat.pow_pos (by omega)), Nat.add_comm, Nat.add_mul_mod_self_right]
      exact ih
end PRODS
section PRODS2
theorem okd_of {d e : Nat} {t : Bool} (hd : d < 3) (he : e = if t then 1 else 0) (h1 : ¬ (d = 1 ∧ e = 0)) (h2 : ¬ (d = 2 ∧ e = 1)) : okd d t = true := by
  rcases (show d = 0 ∨ d = 1 ∨ d = 2 by omega) with rfl | rfl | rfl <;> cases t <;> simp_all [okd]
theorem okd_no {d e : Nat} {t : Bool} (he : e = if t then 1 else 0) (h : (d = 1 ∧ e = 0) ∨ (d = 2 ∧ e = 1)) : okd d t = false := by
  rcases h with ⟨rfl, h⟩ | ⟨rfl, h⟩ <;> cases t <;> simp_all [okd]
theorem hb_s {p v b : Nat} (h : hb p v b = true) (ho : okd (p / 3 ^ b % 3) (v.testBit b) = true) : hb p v (b + 1) = true := by simp only [hb]; rw [h, ho]; rfl
theorem hb_n {p v b : Nat} (ho : okd (p / 3 ^ b % 3) (v.testBit b) = false) : hb p v (b + 1) = false := by simp only [hb]; rw [ho]; simp
theorem fn_step {p v k z : Nat} (hz : z = (hb p v k).toNat) : (z = 0 → (hb p v (k + 1)).toNat = 0) ∧ (z ≠ 0 → p / 3 ^ k % 3 = 0 → (hb p v (k + 1)).toNat = 1) ∧ (z ≠ 0 → p / 3 ^ k % 3 = 1 → (hb p v (k + 1)).toNat = (v / 2 ^ k &&& 1)) ∧ (z ≠ 0 → p / 3 ^ k % 3 = 2 → (hb p v (k + 1)).toNat + (v / 2 ^ k &&& 1) = 1) ∧ (v / 2 ^ k &&& 1) ≤ 1 ∧ p / 3 ^ k % 3 < 3 := by
  have h3 := Nat.mod_lt (p / 3 ^ k) (show 0 < 3 by omega)
  have e := tb_and1 v k
  simp only [hb]
  refine ⟨fun h => ?_, fun h hd => ?_, fun h hd => ?_, fun h hd => ?_, ?_, h3⟩
  · have : hb p v k = false := by cases q : hb p v k with
      | false => rfl
      | true => rw [q] at hz; simp at hz; omega
    rw [this]; rfl
  · have : hb p v k = true := by cases q : hb p v k with
      | true => rfl
      | false => rw [q] at hz; simp at hz; omega
    rw [this, hd]; simp [okd]
  · have : hb p v k = true := by cases q : hb p v k with
      | true => rfl
      | false => rw [q] at hz; simp at hz; omega
    rw [this, hd, e]; cases v.testBit k <;> simp [okd]
  · have : hb p v k = true := by cases q : hb p v k with
      | true => rfl
      | false => rw [q] at hz; simp at hz; omega
    rw [this, hd, e]; cases v.testBit k <;> simp [okd]
  · rw [e]; split <;> omega
theorem fnv_t {n p v : Nat} (h : hb p v n = true) : fnv n p (v + 1) = fnv n p v ||| 2 ^ v := by simp only [fnv]; rw [if_pos h]
theorem fnv_f {n p v : Nat} (h : hb p v n = false) : fnv n p (v + 1) = fnv n p v := by simp only [fnv]; rw [if_neg (by rw [h]; simp)]
theorem toNat_ne {b : Bool} (h : ((b.toNat : Nat) : Int) ≠ 0) : b = true := by cases b <;> simp_all
theorem toNat_eq {b : Bool} (h : ((b.toNat : Nat) : Int) = 0) : b = false := by cases b <;> simp_all
/-- where the reference's rows for n bits begin -/
def coff (n : Nat) : Nat := if n = 1 then 0 else if n = 2 then 4 else if n = 3 then 20 else 276
def poff (n : Nat) : Nat := if n = 1 then 0 else if n = 2 then 3 else if n = 3 then 12 else 39
theorem pdiv3 (p b : Nat) : p / 3 ^ b / 3 = p / 3 ^ (b + 1) := by rw [Nat.div_div_eq_div_mul, Nat.pow_succ]
theorem pdiv_lt {p : Nat} (h : p < 81) (b : Nat) : p / 3 ^ b < 81 := Nat.lt_of_le_of_lt (Nat.div_le_self _ _) h
theorem and1_le (x : Nat) : x &&& 1 ≤ 1 := Nat.and_le_right
end PRODS2
end
section
section COSTS
/-! how many products a form has at most; the reference's rounds -/
theorem pc_cand {n f g : Nat} (h : f < 2 ^ 2 ^ (n + 1)) (hg : g < 2 ^ 2 ^ n) : pc (n + 1) f ≤ pc n g + pc n (f / 2 ^ 2 ^ n ^^^ g) + pc n (f % 2 ^ 2 ^ n ^^^ g) := by
  have b := (pCand_bt h hg).2
  have l : (pCand n f g).length = pc n g + pc n (f / 2 ^ 2 ^ n ^^^ g) + pc n (f % 2 ^ 2 ^ n ^^^ g) := pJ_len _ _ _ _
  unfold jBt at b
  rw [l] at b
  unfold pc at b ⊢
  omega
theorem pc_rep {n f : Nat} (h : f < 2 ^ 2 ^ n) {ps : List Nat} (hp : ∀ p ∈ ps, p < 3 ^ n) (hX : pX n ps = f) : pc n f ≤ ps.length := by
  have b := pF_bt h hp hX
  unfold jBt at b
  unfold pc
  omega
def ub2 (f : Nat) : Nat := if f = 0 then 0 else if (List.range 9).any (fun p => pfn 2 p == f) then 1 else 2
theorem two2 : ∀ f, f < 16 → ∃ p, p < 9 ∧ ∃ q, q < 9 ∧ pfn 2 p ^^^ pfn 2 q = f := by decide +kernel
theorem pc2_ub {f : Nat} (h : f < 16) : pc 2 f ≤ ub2 f := by
  unfold ub2
  split
  · rename_i e
    rw [e, pc_0]; exact Nat.le_refl 0
  · split
    · rename_i e
      obtain ⟨p, hp, hq⟩ := List.any_eq_true.mp e
      exact pc_rep (n := 2) h (ps := [p]) (by simpa using hp) (by simp [pX]; simpa using hq)
    · obtain ⟨p, hp, q, hq, e⟩ := two2 f h
      exact pc_rep (n := 2) h (ps := [p, q]) (by simp [hp, hq]) (by simp [pX, e])
theorem three : ∀ a, a < 16 → ∀ b, b < 16 → ∃ g, g < 16 ∧ ub2 g + ub2 (a ^^^ g) + ub2 (b ^^^ g) ≤ 3 := by decide +kernel
theorem pc0_le {f : Nat} (h : f < 2 ^ 2 ^ 0) : pc 0 f ≤ 1 := by
  have h' : f < 2 := h
  rcases (show f = 0 ∨ f = 1 by omega) with rfl | rfl
  · rw [pc_0]; omega
  · exact pc_rep (n := 0) h (ps := [0]) (by simp) rfl
theorem pc1_le {f : Nat} (h : f < 2 ^ 2 ^ 1) : pc 1 f ≤ 2 := by
  obtain ⟨h1, h2⟩ := p_half (n := 0) h
  have c : pc 1 f ≤ pc 0 0 + pc 0 (f / 2 ^ 2 ^ 0 ^^^ 0) + pc 0 (f % 2 ^ 2 ^ 0 ^^^ 0) := pc_cand (n := 0) h (p_pos 0)
  rw [Nat.xor_zero, Nat.xor_zero, pc_0] at c
  have := pc0_le h1
  have := pc0_le h2
  omega
theorem pc2_le {f : Nat} (h : f < 2 ^ 2 ^ 2) : pc 2 f ≤ 2 := by
  have := pc2_ub (show f < 16 from h)
  unfold ub2 at this
  split at this
  · omega
  · split at this <;> omega
theorem pc3_le {f : Nat} (h : f < 2 ^ 2 ^ 3) : pc 3 f ≤ 3 := by
  obtain ⟨h1, h2⟩ := p_half (n := 2) h
  obtain ⟨g, hg, e⟩ := three _ (show f / 2 ^ 2 ^ 2 < 16 from h1) _ (show f % 2 ^ 2 ^ 2 < 16 from h2)
  have c : pc 3 f ≤ pc 2 g + pc 2 (f / 2 ^ 2 ^ 2 ^^^ g) + pc 2 (f % 2 ^ 2 ^ 2 ^^^ g) := pc_cand (n := 2) h (show g < 2 ^ 2 ^ 2 from hg)
  have a1 := pc2_ub hg
  have a2 := pc2_ub (show f / 2 ^ 2 ^ 2 ^^^ g < 16 from Nat.xor_lt_two_pow (n := 4) h1 hg)
  have a3 := pc2_ub (show f % 2 ^ 2 ^ 2 ^^^ g < 16 from Nat.xor_lt_two_pow (n := 4) h2 hg)
  omega
theorem pc_le3 {n f : Nat} (hn : n ≤ 3) (h : f < 2 ^ 2 ^ n) : pc n f ≤ 3 := by
  rcases (show n = 0 ∨ n = 1 ∨ n = 2 ∨ n = 3 by omega) with rfl | rfl | rfl | rfl
  · have := pc0_le h; omega
  · have := pc1_le h; omega
  · have := pc2_le h; omega
  · exact pc3_le h
theorem pc_le6 {n f : Nat} (hn : n ≤ 4) (h : f < 2 ^ 2 ^ n) : pc n f ≤ 6 := by
  rcases (show n ≤ 3 ∨ n = 4 by omega) with q | rfl
  · have := pc_le3 q h; omega
  · obtain ⟨h1, h2⟩ := p_half (n := 3) h
    have c : pc 4 f ≤ pc 3 0 + pc 3 (f / 2 ^ 2 ^ 3 ^^^ 0) + pc 3 (f % 2 ^ 2 ^ 3 ^^^ 0) := pc_cand (n := 3) h (p_pos 3)
    rw [Nat.xor_zero, Nat.xor_zero, pc_0] at c
    have := pc3_le h1
    have := pc3_le h2
    omega
theorem pF_6 {n f : Nat} (hn : n ≤ 4) (h : f < 2 ^ 2 ^ n) : (pF n f).length ≤ 6 := pc_le6 hn h
/-- the reference's costs in round r, at function f and product p; d j is the cost and one, 0 where it isn't known -/
def cR (n r f p mo : Nat) (d d0 : Nat → Nat) : Prop :=
  (∀ g, g < 2 ^ 2 ^ n → pc n g ≤ r → d (g + coff n) = pc n g + 1) ∧
  (∀ g, g < 2 ^ 2 ^ n → pc n g = r + 1 → d (g + coff n) = 0 ∨ d (g + coff n) = r + 2) ∧
  (∀ g, g < 2 ^ 2 ^ n → r + 1 < pc n g → d (g + coff n) = 0) ∧
  (∀ f' p', f' < 2 ^ 2 ^ n → p' < 3 ^ n → pc n f' = r → (f' < f ∨ (f' = f ∧ p' < p)) → d ((f' ^^^ pfn n p') + coff n) ≠ 0) ∧
  (mo = 0 → ∀ g, g < 2 ^ 2 ^ n → pc n g = r + 1 → d (g + coff n) = 0) ∧
  (mo ≠ 0 → ∃ g, g < 2 ^ 2 ^ n ∧ pc n g = r + 1) ∧
  (∀ j, (j < coff n ∨ coff n + 2 ^ 2 ^ n ≤ j) → d j = d0 j)
/-- before round r -/
def cB (n r : Nat) (d d0 : Nat → Nat) : Prop :=
  (∀ g, g < 2 ^ 2 ^ n → d (g + coff n) = if pc n g ≤ r then pc n g + 1 else 0) ∧
  (∀ j, (j < coff n ∨ coff n + 2 ^ 2 ^ n ≤ j) → d j = d0 j)
theorem cR_0 {n r : Nat} {d d0 : Nat → Nat} (h : cB n r d d0) : cR n r 0 0 0 d d0 := by
  refine ⟨fun g hg hc => ?_, fun g hg hc => ?_, fun g hg hc => ?_, fun f' p' _ _ _ q => ?_, fun _ g hg hc => ?_, fun q => absurd rfl q, h.2⟩
  · rw [h.1 g hg, if_pos hc]
  · rw [h.1 g hg, if_neg (by omega)]; exact Or.inl rfl
  · rw [h.1 g hg, if_neg (by omega)]
  · omega
  · rw [h.1 g hg, if_neg (by omega)]
/-- a function of another cost is passed by -/
theorem cR_skipF {n r f mo : Nat} {d d0 : Nat → Nat} (h : cR n r f 0 mo d d0) (hf : pc n f ≠ r) : cR n r (f + 1) 0 mo d d0 := by
  obtain ⟨h1, h2, h3, h4, h5⟩ := h
  refine ⟨h1, h2, h3, fun f' p' a b c q => h4 f' p' a b c ?_, h5⟩
  by_cases e : f' = f
  · subst e; exact absurd c hf
  · omega
theorem cR_nextF {n r f mo : Nat} {d d0 : Nat → Nat} (h : cR n r f (3 ^ n) mo d d0) : cR n r (f + 1) 0 mo d d0 := by
  obtain ⟨h1, h2, h3, h4, h5⟩ := h
  exact ⟨h1, h2, h3, fun f' p' a b c q => h4 f' p' a b c (by omega), h5⟩
/-- the cost at f tells whether f is of this round -/
theorem cR_at {n r f p mo : Nat} {d d0 : Nat → Nat} (h : cR n r f p mo d d0) {g : Nat} (hg : g < 2 ^ 2 ^ n) : d (g + coff n) = r + 1 ↔ pc n g = r := by
  obtain ⟨h1, h2, h3, -⟩ := h
  rcases Nat.lt_or_ge r (pc n g) with q | q
  · rcases Nat.lt_or_ge (r + 1) (pc n g) with z | z
    · have := h3 g hg z; omega
    · have := h2 g hg (by omega); omega
  · have := h1 g hg q; omega
theorem cR_skipP {n r f p mo : Nat} {d d0 : Nat → Nat} (h : cR n r f p mo d d0) (hk : d ((f ^^^ pfn n p) + coff n) ≠ 0) : cR n r f (p + 1) mo d d0 := by
  obtain ⟨h1, h2, h3, h4, h5⟩ := h
  refine ⟨h1, h2, h3, fun f' p' a b c q => ?_, h5⟩
  by_cases e : f' = f ∧ p' = p
  · obtain ⟨rfl, rfl⟩ := e; exact hk
  · exact h4 f' p' a b c (by omega)
theorem cR_new {n r f p mo : Nat} {d d0 : Nat → Nat} (h : cR n r f p mo d d0) (hf : f < 2 ^ 2 ^ n) (hp : p < 3 ^ n) (hr : pc n f = r) (hk : d ((f ^^^ pfn n p) + coff n) = 0) : cR n r f (p + 1) 1 (upN d ((f ^^^ pfn n p) + coff n) (r + 2)) d0 := by
  have hg := Nat.xor_lt_two_pow hf (pfn_lt n p)
  have hc : pc n (f ^^^ pfn n p) = r + 1 := by
    have s1 := pc_step hf hp
    rcases Nat.lt_or_ge r (pc n (f ^^^ pfn n p)) with q | q
    · omega
    · have := h.1 _ hg q; omega
  obtain ⟨h1, h2, h3, h4, h5, h6, h7⟩ := h
  have ne : ∀ g, g ≠ f ^^^ pfn n p → upN d ((f ^^^ pfn n p) + coff n) (r + 2) (g + coff n) = d (g + coff n) := fun g hne => upN_n (by omega)
  refine ⟨fun g a b => ?_, fun g a b => ?_, fun g a b => ?_, fun f' p' a b c q => ?_, fun q => by omega, fun _ => ⟨_, hg, hc⟩, fun j hj => ?_⟩
  · rw [ne g (by intro e; rw [e] at b; omega)]; exact h1 g a b
  · by_cases e : g = f ^^^ pfn n p
    · rw [e, upN_s]; exact Or.inr rfl
    · rw [ne g e]; exact h2 g a b
  · rw [ne g (by intro e; rw [e] at b; omega)]; exact h3 g a b
  · by_cases e : f' ^^^ pfn n p' = f ^^^ pfn n p
    · rw [e, upN_s]; omega
    · rw [ne _ e]
      by_cases e2 : f' = f ∧ p' = p
      · obtain ⟨rfl, rfl⟩ := e2; exact absurd rfl e
      · exact h4 f' p' a b c (by omega)
  · rw [upN_n (by omega)]; exact h7 j hj
theorem cR_end {n r mo : Nat} {d d0 : Nat → Nat} (hn : n ≤ 4) (h : cR n r (2 ^ 2 ^ n) 0 mo d d0) : cB n (r + 1) d d0 := by
  obtain ⟨h1, h2, h3, h4, h5, h6, h7⟩ := h
  refine ⟨fun g hg => ?_, h7⟩
  rcases Nat.lt_or_ge r (pc n g) with q | q
  · rcases Nat.lt_or_ge (r + 1) (pc n g) with z | z
    · rw [if_neg (by omega)]; exact h3 g hg z
    · have e : pc n g = r + 1 := by omega
      rw [if_pos (by omega)]
      obtain ⟨p, hp, hd⟩ := pc_down hn hg (by intro e0; rw [e0, pc_0] at e; omega)
      have := h4 (g ^^^ pfn n p) p (Nat.xor_lt_two_pow hg (pfn_lt n p)) hp (by omega) (Or.inl (Nat.xor_lt_two_pow hg (pfn_lt n p)))
      rw [xor_xor] at this
      have := h2 g hg e
      omega
  · rw [if_pos (by omega)]; exact h1 g hg q
theorem pc_level {n : Nat} (hn : n ≤ 4) (r : Nat) : ∀ (k g : Nat), g < 2 ^ 2 ^ n → pc n g = r + 1 + k → ∃ g', g' < 2 ^ 2 ^ n ∧ pc n g' = r + 1
  | 0, g, hg, h => ⟨g, hg, h⟩
  | k + 1, g, hg, h => by
    obtain ⟨p, hp, hd⟩ := pc_down hn hg (by intro e; rw [e, pc_0] at h; omega)
    exact pc_level hn r k _ (Nat.xor_lt_two_pow hg (pfn_lt n p)) (by omega)
/-- nothing came in a round: all is known -/
theorem cR_done {n r : Nat} {d d0 : Nat → Nat} (hn : n ≤ 4) (h : cR n r (2 ^ 2 ^ n) 0 0 d d0) : ∀ g, g < 2 ^ 2 ^ n → d (g + coff n) = pc n g + 1 := by
  intro g hg
  have hE := cR_end hn h
  rcases Nat.lt_or_ge r (pc n g) with q | q
  · obtain ⟨g', hg', e⟩ := pc_level hn r (pc n g - (r + 1)) g hg (by omega)
    have a := h.2.2.2.2.1 rfl g' hg' e
    have b := hE.1 g' hg'
    rw [if_pos (by omega)] at b
    omega
  · exact h.1 g hg q
end COSTS
end
section
section LONGS
/-! longs that are told by natural numbers -/
theorem jl_and (a b : Nat) : lN a &&& lN b = lN (a &&& b) := by
  unfold lN; apply Int64.toBitVec_inj.mp; simp [Int64.toBitVec_ofNat']
theorem jl_or (a b : Nat) : lN a ||| lN b = lN (a ||| b) := by
  unfold lN; apply Int64.toBitVec_inj.mp; simp [Int64.toBitVec_ofNat']
theorem jl_s63 : ∀ k, k < 64 → ((nI k).toInt64 &&& 63) = lN k := by decide +kernel
theorem jl_shl (a k : Nat) (h : k < 64) : lN a <<< ((nI k).toInt64 &&& 63) = lN (a * 2 ^ k) := by
  rw [jl_s63 k h]
  apply Int64.toBitVec_inj.mp
  have e : ((lN k).toBitVec.smod 64).toNat = k := by
    revert k; decide +kernel
  rw [Int64.toBitVec_shiftLeft]
  apply BitVec.eq_of_toNat_eq
  rw [BitVec.shiftLeft_eq', BitVec.toNat_shiftLeft, e]
  unfold lN
  simp [Int64.toBitVec_ofNat', BitVec.toNat_ofNat, Nat.shiftLeft_eq, Nat.mod_mul_mod]
theorem jl_u63 : ∀ k, k < 64 → (((nI k).toInt64.toUInt64 &&& Int64.toUInt64 63).toBitVec % 64).toNat = k := by decide +kernel
theorem jl_ushr (a k : Nat) (ha : a < 2 ^ 64) (h : k < 64) : ((lN a).toUInt64 >>> ((nI k).toInt64.toUInt64 &&& Int64.toUInt64 63)).toInt64 = lN (a / 2 ^ k) := by
  apply Int64.toBitVec_inj.mp
  show ((lN a).toUInt64 >>> ((nI k).toInt64.toUInt64 &&& Int64.toUInt64 63)).toBitVec = _
  rw [UInt64.toBitVec_shiftRight]
  apply BitVec.eq_of_toNat_eq
  rw [BitVec.ushiftRight_eq', BitVec.toNat_ushiftRight, jl_u63 k h]
  unfold lN
  show (BitVec.ofNat 64 a).toNat >>> k = (BitVec.ofNat 64 (a / 2 ^ k)).toNat
  rw [BitVec.toNat_ofNat, BitVec.toNat_ofNat, Nat.mod_eq_of_lt ha, Nat.mod_eq_of_lt (Nat.lt_of_le_of_lt (Nat.div_le_self _ _) ha), Nat.shiftRight_eq_div_pow]
/-- ones at the places of a list -/
def on1 (k : Nat) : Nat := jval (List.replicate k 1)
theorem on1_eq (xs : List Nat) : jval (xs.map (fun _ => 1)) = on1 xs.length := by
  unfold on1
  congr 1
  rw [List.map_const']
theorem on1_is : ∀ k, k < 4 → 16513 &&& (2 ^ (7 * k) - 1) = on1 k := by decide +kernel
theorem or_add {a b k : Nat} (h : b < 2 ^ k) : a * 2 ^ k ||| b = a * 2 ^ k + b := by
  rw [Nat.mul_comm]; exact (Nat.two_pow_add_eq_or_of_lt h a).symm
theorem mod48 (a : Nat) : a &&& 281474976710655 = a % 2 ^ 48 := Nat.and_two_pow_sub_one_eq_mod a 48
/-- two forms joined -/
theorem join_is {A B : List Nat} {ad : Nat} (hA : ∀ p ∈ A, p < 128) (hB : ∀ p ∈ B, p + ad < 128) (hB3 : B.length ≤ 3) (hl : A.length + B.length ≤ 6) :
    (A.length + B.length) * 2 ^ 48 ||| (jval A * 2 ^ (7 * B.length) ||| (jval B + ad * on1 B.length)) = fcode (A ++ B.map (· + ad)) := by
  have hB' : ∀ p ∈ B.map (· + ad), p < 128 := fun p hp => by
    obtain ⟨q, hq, rfl⟩ := List.mem_map.mp hp
    exact hB q hq
  have e1 : jval B + ad * on1 B.length = jval (B.map (· + ad)) := by rw [jval_map, on1_eq]
  have l1 : jval (B.map (· + ad)) < 2 ^ (7 * B.length) := by
    have := jval_lt _ hB'
    rw [List.length_map, p128] at this
    exact this
  have e2 : jval A * 2 ^ (7 * B.length) + jval (B.map (· + ad)) = jval (A ++ B.map (· + ad)) := by rw [jval_app, List.length_map, p128]
  have hAB : ∀ p ∈ A ++ B.map (· + ad), p < 128 := fun p hp => (List.mem_append.mp hp).elim (hA p) (hB' p)
  have l2 := jval_42 (ps := A ++ B.map (· + ad)) (by simpa using hl) hAB
  rw [e1, or_add l1, e2, or_add (Nat.lt_trans l2 (by decide))]
  unfold fcode
  simp
end LONGS
end
section
section LEAST
/-- the class's row of forms, levels below fl filled -/
def fRow (fl : Nat) (rw : Nat → Int64) : Prop := ∀ lv, lv < fl → ∀ f, f < 2 ^ 2 ^ lv → rw (jsT lv + f) = lN (fcode (pF lv f))
theorem jsT_fit {n : Nat} (h : n ≤ 3) : jsT n + 2 ^ 2 ^ n ≤ 278 := by
  rcases (show n = 0 ∨ n = 1 ∨ n = 2 ∨ n = 3 by omega) with rfl | rfl | rfl | rfl <;> decide
theorem p27 {n : Nat} (h : n ≤ 3) : 3 ^ n ≤ 27 := Nat.pow_le_pow_right (n := 3) (by omega) h
theorem fcode_num {ps : List Nat} {k : Nat} (hl : ps.length ≤ 6) (hp : ∀ p ∈ ps, p < 128) (hk : k < ps.length) : fcode ps / 2 ^ (7 * (ps.length - 1 - k)) &&& 127 = ps.getD k 0 := by
  have e := fcode_at ps hp k hk
  rw [show (127 : Nat) = 2 ^ 7 - 1 from rfl, Nat.and_two_pow_sub_one_eq_mod]
  rw [← e]
  have hm : 7 * (ps.length - 1 - k) ≤ 35 := by omega
  generalize 7 * (ps.length - 1 - k) = m at hm ⊢
  unfold fcode
  have q : ps.length * 2 ^ 48 = 2 ^ m * (ps.length * 2 ^ (41 - m) * 128) := by
    have : (2 : Nat) ^ 48 = 2 ^ m * (2 ^ (41 - m) * 128) := by
      rw [show (128 : Nat) = 2 ^ 7 from rfl, ← Nat.pow_add, ← Nat.pow_add]
      congr 1
      omega
    rw [this]
    ac_rfl
  rw [q, Nat.mul_add_div (Nat.two_pow_pos m), Nat.add_comm, Nat.add_mul_mod_self_right]
theorem lf_skip {n f g m : Nat} (h1 : ∀ g', g' < g → pCand n f g' = pF (n + 1) f → m ≤ fcode (pF (n + 1) f)) (hgt : m / 2 ^ 48 < (pCand n f g).length) : ∀ g', g' < g + 1 → pCand n f g' = pF (n + 1) f → m ≤ fcode (pF (n + 1) f) := by
  intro g' hg' e
  by_cases q : g' = g
  · subst q
    rw [← e]
    unfold fcode
    omega
  · exact h1 g' (by omega) e
theorem lf_more {n f g m : Nat} {k : Nat} (h2 : m = k ∨ ∃ g', g' < g ∧ g' < 2 ^ 2 ^ n ∧ (pCand n f g').length ≤ 6 ∧ m = fcode (pCand n f g')) : m = k ∨ ∃ g', g' < g + 1 ∧ g' < 2 ^ 2 ^ n ∧ (pCand n f g').length ≤ 6 ∧ m = fcode (pCand n f g') := by
  rcases h2 with h | ⟨g', a, b⟩
  · exact Or.inl h
  · exact Or.inr ⟨g', by omega, b⟩
theorem lf_min1 {n f g m : Nat} (h1 : ∀ g', g' < g → pCand n f g' = pF (n + 1) f → m ≤ fcode (pF (n + 1) f)) : ∀ g', g' < g + 1 → pCand n f g' = pF (n + 1) f → (if fcode (pCand n f g) < m then fcode (pCand n f g) else m) ≤ fcode (pF (n + 1) f) := by
  intro g' hg' e
  by_cases q : g' = g
  · subst q
    rw [e]
    split <;> omega
  · have := h1 g' (by omega) e
    split <;> omega
theorem lf_min2 {n f g m k : Nat} (hcl : (pCand n f g).length ≤ 6 ∧ (∀ p ∈ pCand n f g, p < 128) ∧ g < 2 ^ 2 ^ n) (h2 : m = k ∨ ∃ g', g' < g ∧ g' < 2 ^ 2 ^ n ∧ (pCand n f g').length ≤ 6 ∧ m = fcode (pCand n f g')) : (if fcode (pCand n f g) < m then fcode (pCand n f g) else m) = k ∨ ∃ g', g' < g + 1 ∧ g' < 2 ^ 2 ^ n ∧ (pCand n f g').length ≤ 6 ∧ (if fcode (pCand n f g) < m then fcode (pCand n f g) else m) = fcode (pCand n f g') := by
  split
  · exact Or.inr ⟨g, by omega, hcl.2.2, hcl.1, rfl⟩
  · exact lf_more h2
theorem lf_min3 {n f g m : Nat} (hcl : (pCand n f g).length ≤ 6 ∧ (∀ p ∈ pCand n f g, p < 128) ∧ g < 2 ^ 2 ^ n) (hm : m < 2 ^ 52) : (if fcode (pCand n f g) < m then fcode (pCand n f g) else m) < 2 ^ 52 := by
  split <;> omega
theorem lf_if {n f g m : Nat} (hcl : (pCand n f g).length ≤ 6 ∧ (∀ p ∈ pCand n f g, p < 128) ∧ g < 2 ^ 2 ^ n) (hm : m < 2 ^ 63) : (if lN (fcode (pCand n f g)) < lN m then lN (fcode (pCand n f g)) else lN m) = lN (if fcode (pCand n f g) < m then fcode (pCand n f g) else m) := by
  have h := fcode_lt hcl.1 hcl.2.1
  by_cases q : fcode (pCand n f g) < m
  · rw [if_pos q, if_pos ((pk_lLT (by omega) hm).mpr q)]
  · rw [if_neg q, if_neg (fun z => q ((pk_lLT (by omega) hm).mp z))]
theorem lf_six {n f g m : Nat} (h2 : m = 1970324836974591 ∨ ∃ g', g' < g ∧ g' < 2 ^ 2 ^ n ∧ (pCand n f g').length ≤ 6 ∧ m = fcode (pCand n f g')) (hn : n + 1 ≤ 4 := by omega) (hf : f < 2 ^ 2 ^ (n + 1) := by assumption) : m / 2 ^ 48 ≤ 6 := by
  rcases h2 with h | ⟨g', a, b, c, d⟩
  · omega
  · rw [d, fcode_size c (fun p hp => p3_128 hn ((pCand_bt hf b).1 p hp))]; exact c
theorem lf_end {n f m : Nat} (hn : n + 1 ≤ 4) (hf : f < 2 ^ 2 ^ (n + 1)) (h1 : ∀ g', g' < 2 ^ 2 ^ n → pCand n f g' = pF (n + 1) f → m ≤ fcode (pF (n + 1) f)) (h2 : m = 1970324836974591 ∨ ∃ g', g' < 2 ^ 2 ^ n ∧ g' < 2 ^ 2 ^ n ∧ (pCand n f g').length ≤ 6 ∧ m = fcode (pCand n f g')) : m = fcode (pF (n + 1) f) := by
  obtain ⟨g, hg, e⟩ := pCand_has hn hf
  have a := h1 g hg e.symm
  have l6 := pF_6 hn hf
  have j42 := jval_42 l6 (pF_128 hn hf)
  rcases h2 with h | ⟨g', -, b, c, d⟩
  · unfold fcode at a
    omega
  · have q := (fcode_le l6 (pF_128 hn hf) c (fun p hp => p3_128 hn ((pCand_bt hf b).1 p hp))).mpr (pCand_bt hf b).2
    omega
end LEAST
end
section
section ROWS
/-! the class's row, level by level; the reference's rows -/
theorem jsT_below {a b : Nat} (h : a < b) (hb : b ≤ 3) : jsT a + 2 ^ 2 ^ a ≤ jsT b := by
  rcases (show (a = 0 ∧ b = 1) ∨ (a = 0 ∧ b = 2) ∨ (a = 0 ∧ b = 3) ∨ (a = 1 ∧ b = 2) ∨ (a = 1 ∧ b = 3) ∨ (a = 2 ∧ b = 3) by omega) with ⟨rfl, rfl⟩ | ⟨rfl, rfl⟩ | ⟨rfl, rfl⟩ | ⟨rfl, rfl⟩ | ⟨rfl, rfl⟩ | ⟨rfl, rfl⟩ <;> decide
theorem fr_keep {n f : Nat} {r : Nat → Int64} {x : Int64} (hn : n + 1 ≤ 3) (h : fRow (n + 1) r) : fRow (n + 1) (vp_updL r (jsT (n + 1) + f) x) := by
  intro lv hlv g hg
  have := jsT_below (show lv < n + 1 from hlv) hn
  rw [pk_uLn (by omega)]
  exact h lv hlv g hg
theorem fr_add {n f : Nat} {r : Nat → Int64} (h : ∀ f', f' < f → r (jsT (n + 1) + f') = lN (fcode (pF (n + 1) f'))) : ∀ f', f' < f + 1 → vp_updL r (jsT (n + 1) + f) (lN (fcode (pF (n + 1) f))) (jsT (n + 1) + f') = lN (fcode (pF (n + 1) f')) := by
  intro f' hf'
  by_cases e : f' = f
  · subst e; rw [pk_uLs]
  · rw [pk_uLn (by omega)]
    exact h f' (by omega)
theorem fr_done {n : Nat} {r : Nat → Int64} (h : fRow (n + 1) r) (h2 : ∀ f', f' < 2 ^ 2 ^ (n + 1) → r (jsT (n + 1) + f') = lN (fcode (pF (n + 1) f'))) : fRow (n + 2) r := by
  intro lv hlv g hg
  by_cases e : lv = n + 1
  · subst e; exact h2 g hg
  · exact h lv (by omega) g hg
theorem pF_0 (n : Nat) : pF n 0 = [] := List.length_eq_zero_iff.mp (pc_0 n)
theorem pF_01 : pF 0 1 = [0] := by
  have h : (1 : Nat) < 2 ^ 2 ^ 0 := by decide
  have hl := pc0_le h
  have hin := pF_in h
  have hX := pF_X h
  unfold pc at hl
  match hq : pF 0 1 with
  | [] => rw [hq] at hX; cases hX
  | [p] =>
    rw [hq] at hin
    have := hin p List.mem_cons_self
    have : p < 1 := this
    rw [show p = 0 by omega]
  | p :: q :: r => rw [hq] at hl; simp at hl
theorem fr_init : fRow 1 (vp_updL (fun _ => 0) 1 (lN 281474976710656)) := by
  intro lv hlv f hf
  rw [show lv = 0 by omega] at hf ⊢
  have hf' : f < 2 := hf
  rcases (show f = 0 ∨ f = 1 by omega) with rfl | rfl
  · rw [pF_0]; rfl
  · rw [pF_01]; rfl
/-- the reference's rows: what is known is right -/
def mC (kn d fo : Nat → Nat) : Prop := ∀ b, 1 ≤ b → b ≤ 4 → kn b ≠ 0 → (∀ g, g < 2 ^ 2 ^ b → d (g + coff b) = pc b g + 1) ∧ ∀ p, p < 3 ^ b → fo (p + poff b) = pfn b p
theorem coff_fit {n : Nat} (h1 : 1 ≤ n) (h4 : n ≤ 4) : coff n + 2 ^ 2 ^ n ≤ 65812 := by
  rcases (show n = 1 ∨ n = 2 ∨ n = 3 ∨ n = 4 by omega) with rfl | rfl | rfl | rfl <;> decide
theorem poff_fit {n : Nat} (h1 : 1 ≤ n) (h4 : n ≤ 4) : poff n + 3 ^ n ≤ 120 := by
  rcases (show n = 1 ∨ n = 2 ∨ n = 3 ∨ n = 4 by omega) with rfl | rfl | rfl | rfl <;> decide
theorem coff_apart {a b : Nat} (ha : 1 ≤ a) (ha4 : a ≤ 4) (hb : 1 ≤ b) (hb4 : b ≤ 4) (h : a ≠ b) : coff a + 2 ^ 2 ^ a ≤ coff b ∨ coff b + 2 ^ 2 ^ b ≤ coff a := by
  rcases (show a = 1 ∨ a = 2 ∨ a = 3 ∨ a = 4 by omega) with rfl | rfl | rfl | rfl <;> rcases (show b = 1 ∨ b = 2 ∨ b = 3 ∨ b = 4 by omega) with rfl | rfl | rfl | rfl <;> first | exact absurd rfl h | decide
theorem poff_apart {a b : Nat} (ha : 1 ≤ a) (ha4 : a ≤ 4) (hb : 1 ≤ b) (hb4 : b ≤ 4) (h : a ≠ b) : poff a + 3 ^ a ≤ poff b ∨ poff b + 3 ^ b ≤ poff a := by
  rcases (show a = 1 ∨ a = 2 ∨ a = 3 ∨ a = 4 by omega) with rfl | rfl | rfl | rfl <;> rcases (show b = 1 ∨ b = 2 ∨ b = 3 ∨ b = 4 by omega) with rfl | rfl | rfl | rfl <;> first | exact absurd rfl h | decide
/-- the functions of the products, so far -/
def mF (n p : Nat) (fo fo0 : Nat → Nat) : Prop := (∀ j, (j < poff n ∨ poff n + 3 ^ n ≤ j) → fo j = fo0 j) ∧ ∀ p', p' < p → fo (p' + poff n) = pfn n p'
theorem mF_s {n p : Nat} {fo fo0 : Nat → Nat} (h : mF n p fo fo0) (hp : p < 3 ^ n) : mF n (p + 1) (upN fo (p + poff n) (pfn n p)) fo0 := by
  refine ⟨fun j hj => ?_, fun p' hp' => ?_⟩
  · rw [upN_n (by omega)]; exact h.1 j hj
  · by_cases e : p' = p
    · subst e; rw [upN_s]
    · rw [upN_n (by omega)]; exact h.2 p' (by omega)
def mZ (n f : Nat) (d d0 : Nat → Nat) : Prop := (∀ j, (j < coff n ∨ coff n + 2 ^ 2 ^ n ≤ j) → d j = d0 j) ∧ ∀ f', f' < f → d (f' + coff n) = 0
theorem mZ_s {n f : Nat} {d d0 : Nat → Nat} (h : mZ n f d d0) (hf : f < 2 ^ 2 ^ n) : mZ n (f + 1) (upN d (f + coff n) 0) d0 := by
  refine ⟨fun j hj => ?_, fun p' hp' => ?_⟩
  · rw [upN_n (by omega)]; exact h.1 j hj
  · by_cases e : p' = f
    · subst e; rw [upN_s]
    · rw [upN_n (by omega)]; exact h.2 p' (by omega)
theorem cB_0 {n : Nat} {d d0 : Nat → Nat} (h : mZ n (2 ^ 2 ^ n) d d0) : cB n 0 (upN d (0 + coff n) 1) d0 := by
  refine ⟨fun g hg => ?_, fun j hj => ?_⟩
  · by_cases e : g = 0
    · subst e; rw [upN_s, pc_0]; rfl
    · rw [upN_n (by omega), h.2 g hg, if_neg]
      intro q
      exact e (pc_eq0 hg (by omega))
  · have := p_pos n
    rw [upN_n (by omega)]; exact h.1 j hj
theorem cR_le {n r f p mo : Nat} {d d0 : Nat → Nat} (h : cR n r f p mo d d0) {g : Nat} (hg : g < 2 ^ 2 ^ n) : d (g + coff n) ≤ r + 2 := by
  obtain ⟨h1, h2, h3, -⟩ := h
  rcases Nat.lt_or_ge r (pc n g) with q | q
  · rcases Nat.lt_or_ge (r + 1) (pc n g) with z | z
    · have := h3 g hg z; omega
    · have := h2 g hg (by omega); omega
  · have := h1 g hg q; omega
/-- the head of the reference's rounds -/
def cH (n r mo : Nat) (d d0 : Nat → Nat) : Prop := mo ≤ 1 ∧ r ≤ 7 ∧ (mo ≠ 0 → r ≤ 6 ∧ cB n r d d0) ∧ (mo = 0 → (∀ g, g < 2 ^ 2 ^ n → d (g + coff n) = pc n g + 1) ∧ ∀ j, (j < coff n ∨ coff n + 2 ^ 2 ^ n ≤ j) → d j = d0 j)
theorem cH_next {n r mo : Nat} {d d0 : Nat → Nat} (hn : n ≤ 4) (hm : mo ≤ 1) (hr : r ≤ 6) (h : cR n r (2 ^ 2 ^ n) 0 mo d d0) : cH n (r + 1) mo d d0 := by
  refine ⟨hm, by omega, fun q => ⟨?_, cR_end hn h⟩, fun q => ?_⟩
  · obtain ⟨g, hg, e⟩ := h.2.2.2.2.2.1 q
    have := pc_le6 hn hg
    omega
  · subst q
    exact ⟨cR_done hn h, h.2.2.2.2.2.2⟩
theorem mC_new {n : Nat} {kn d fo d' fo' : Nat → Nat} (hn1 : 1 ≤ n) (hn4 : n ≤ 4) (h : mC kn d fo) (hd : cH n 0 0 d' d ∨ ∃ r, cH n r 0 d' d) (hf : mF n (3 ^ n) fo' fo) : mC (upN kn n 1) d' fo' := by
  have hd' : (∀ g, g < 2 ^ 2 ^ n → d' (g + coff n) = pc n g + 1) ∧ ∀ j, (j < coff n ∨ coff n + 2 ^ 2 ^ n ≤ j) → d' j = d j := by
    rcases hd with q | ⟨r, q⟩ <;> exact q.2.2.2 rfl
  intro b hb hb4 hk
  by_cases e : b = n
  · subst e; exact ⟨hd'.1, hf.2⟩
  · rw [upN_n e] at hk
    obtain ⟨q1, q2⟩ := h b hb hb4 hk
    refine ⟨fun g hg => ?_, fun p hp => ?_⟩
    · rw [hd'.2 _ (by have := coff_apart hb hb4 hn1 hn4 e; omega)]; exact q1 g hg
    · rw [hf.1 _ (by have := poff_apart hb hb4 hn1 hn4 e; omega)]; exact q2 p hp
theorem drop_cons {l : List Nat} {j : Nat} (h : j < l.length) : l.drop j = l.getD j 0 :: l.drop (j + 1) := by
  rw [List.drop_eq_getElem_cons h]
  simp [List.getD, List.getElem?_eq_getElem h]
end ROWS
end
section
section BITS1
theorem jn_notand (x y : Int32) : x &&& (y ^^^ -1) = x ^^^ (x &&& y) := by
  apply Int32.toBitVec_inj.mp
  apply BitVec.eq_of_getLsbD_eq
  intro i hi
  have h1 : (-1 : Int32).toBitVec = BitVec.allOnes 32 := by decide
  simp only [Int32.toBitVec_and, Int32.toBitVec_xor, h1, BitVec.getLsbD_and, BitVec.getLsbD_xor, BitVec.getLsbD_allOnes, hi, decide_true]
  cases x.toBitVec.getLsbD i <;> cases y.toBitVec.getLsbD i <;> rfl
theorem jn_notandN (a b : Nat) : nI a &&& (nI b ^^^ -1) = nI (a ^^^ (a &&& b)) := by rw [jn_notand, jn_and, jn_xor]
theorem notand_0 {a b : Nat} : a ^^^ (a &&& b) = 0 ↔ a &&& b = a := by
  constructor
  · intro h
    apply Nat.eq_of_testBit_eq
    intro i
    have := congrArg (fun z => z.testBit i) h
    simp only [Nat.testBit_xor, Nat.zero_testBit] at this
    cases h1 : a.testBit i <;> cases h2 : (a &&& b).testBit i <;> simp_all
  · intro h
    rw [h, Nat.xor_self]
theorem mI_pos {x : Nat} (h : 1 ≤ x) : mI x = nI (x - 1) := by
  obtain ⟨k, rfl⟩ : ∃ k, x = k + 1 := ⟨x - 1, by omega⟩
  rw [mI_s]; rfl
theorem bcn_add (k S : Nat) : bcn k S + (S / 2 ^ k &&& 1) = bcn (k + 1) S := by rw [tb_and1]; rfl
/-- the JDK's count of bits, for twelve of them -/
def bcJ (x : Int32) : Int32 :=
  let a := x - ((x.toUInt32 >>> ((1 : Int32).toUInt32 &&& Int32.toUInt32 31)).toInt32 &&& 1431655765)
  let b := (a &&& 858993459) + ((a.toUInt32 >>> ((2 : Int32).toUInt32 &&& Int32.toUInt32 31)).toInt32 &&& 858993459)
  let c := (b + (b.toUInt32 >>> ((4 : Int32).toUInt32 &&& Int32.toUInt32 31)).toInt32) &&& 252645135
  let d := c + (c.toUInt32 >>> ((8 : Int32).toUInt32 &&& Int32.toUInt32 31)).toInt32
  let e := d + (d.toUInt32 >>> ((16 : Int32).toUInt32 &&& Int32.toUInt32 31)).toInt32
  e &&& 63
theorem bcJ_all : (List.range 4096).all (fun S => bcJ (nI S) == nI (bc S)) = true := by decide +kernel
theorem bcJ_is {S : Nat} (h : S < 4096) : bcJ (nI S) = nI (bc S) := by
  have := List.all_eq_true.mp bcJ_all S (List.mem_range.mpr h)
  exact eq_of_beq this
theorem p4096 {m : Nat} (h : m ≤ 12) : 2 ^ m ≤ 4096 := Nat.pow_le_pow_right (n := 2) (by omega) h
theorem bc_12 (S : Nat) : bc S ≤ 12 := bcn_le 12 S
/-- the reference's rows of a search -/
def fS (m : Nat) (nd : Nat → Nat) (b k s found : Nat) (co Q sr bw : Nat → Nat) (π : Nat → List Nat) : Prop :=
  fI m nd b k s found Q (fun i => sr i - 1) bw π ∧ sr 0 = 0 ∧ (∀ i, 0 < i → i < found → 1 ≤ sr i) ∧ (∀ v, v < 2 ^ m → (co v ≠ 0 ↔ ∃ i, i < found ∧ Q i = v)) ∧ ∀ v, co v ≤ 1
theorem fS_0 {m : Nat} {nd : Nat → Nat} {b : Nat} {f Q sr bw : Nat → Nat} (hm : m ≤ 12) (hf : ∀ j, f j = 0 ∨ 4096 ≤ j ∧ f j ≤ 1) : fS m nd b 0 0 1 (upN f 0 1) (upN Q 0 0) (upN sr 0 0) bw (fun _ => []) := by
  have hp := p4096 hm
  refine ⟨fI_0 m nd b _ _ _ upN_s, upN_s, fun i h1 h2 => by omega, fun v hv => ?_, fun v => ?_⟩
  · constructor
    · intro h
      by_cases e : v = 0
      · subst e; exact ⟨0, by omega, upN_s⟩
      · rw [upN_n e] at h
        have := hf v
        omega
    · rintro ⟨i, hi, rfl⟩
      rw [show i = 0 by omega, upN_s, upN_s]; omega
  · unfold upN
    split
    · omega
    · have := hf v; omega
theorem fS_found {m : Nat} {nd : Nat → Nat} {b k s found : Nat} {co Q sr bw : Nat → Nat} {π : Nat → List Nat} (hm : m ≤ 12) (h : fS m nd b k s found co Q sr bw π) : found ≤ 4096 := Nat.le_trans (few (fI_lt h.1) h.1.2.2.2.2.2.2.1) (p4096 hm)
theorem fS_skip {m : Nat} {nd : Nat → Nat} {b k s found : Nat} {co Q sr bw : Nat → Nat} {π : Nat → List Nat} (hm : m ≤ 12) (h : fS m nd b k s found co Q sr bw π) (hk : k < found) (hs : s < m) (hno : mok m nd b (Q k) s → co (Q k ^^^ 2 ^ s) ≠ 0) : fS m nd b k (s + 1) found co Q sr bw π := by
  obtain ⟨h0, h1, h2, h3, h4⟩ := h
  refine ⟨fI_skip hm h0 hk hs (fun q => (h3 _ (flip_lt (fI_lt h0 k hk) hs)).mp (hno q)), h1, h2, h3, h4⟩
theorem fS_new {m : Nat} {nd : Nat → Nat} {b k s found : Nat} {co Q sr bw : Nat → Nat} {π : Nat → List Nat} (hm : m ≤ 12) (h : fS m nd b k s found co Q sr bw π) (hk : k < found) (hs : s < m) (hok : mok m nd b (Q k) s) (hz : co (Q k ^^^ 2 ^ s) = 0) : ∃ π', fS m nd b k (s + 1) (found + 1) (upN co (Q k ^^^ 2 ^ s) 1) (upN Q found (Q k ^^^ 2 ^ s)) (upN sr found (k + 1)) (upN bw found s) π' := by
  obtain ⟨h0, h1, h2, h3, h4⟩ := h
  have hlt := flip_lt (fI_lt h0 k hk) hs
  have hnew : ∀ j, j < found → Q j ≠ Q k ^^^ 2 ^ s := fun j hj e => (h3 _ hlt).mpr ⟨j, hj, e⟩ hz
  have e : (fun i => upN sr found (k + 1) i - 1) = upN (fun i => sr i - 1) found k := by
    funext i
    by_cases q : i = found
    · subst q; simp [upN]
    · simp [upN, q]
  have hf0 := h0.1
  refine ⟨upL π found (π k ++ [s]), by rw [e]; exact fI_new hm h0 hk hs hok hnew, by rw [upN_n (by omega)]; exact h1, fun i a c => ?_, fun v hv => ?_, fun v => ?_⟩
  · unfold upN
    split
    · omega
    · exact h2 i a (by omega)
  · by_cases q : v = Q k ^^^ 2 ^ s
    · rw [q, upN_s]
      exact ⟨fun _ => ⟨found, by omega, upN_s⟩, fun _ => by omega⟩
    · rw [upN_n q, h3 v hv]
      constructor
      · rintro ⟨i, hi, ei⟩
        exact ⟨i, by omega, by rw [upN_n (by omega)]; exact ei⟩
      · rintro ⟨i, hi, ei⟩
        by_cases z : i = found
        · rw [z, upN_s] at ei; exact absurd ei.symm q
        · rw [upN_n z] at ei; exact ⟨i, by omega, ei⟩
  · unfold upN
    split
    · omega
    · exact h4 v
theorem fS_next {m : Nat} {nd : Nat → Nat} {b k found : Nat} {co Q sr bw : Nat → Nat} {π : Nat → List Nat} (h : fS m nd b k m found co Q sr bw π) (hg : Q k ≠ 2 ^ (m - 1)) : fS m nd b (k + 1) 0 found co Q sr bw π := ⟨fI_next h.1 hg, h.2⟩
/-- the way back from an entry of the queue -/
theorem fS_way {m : Nat} {nd : Nat → Nat} {b k s found : Nat} {co Q sr bw : Nat → Nat} {π : Nat → List Nat} (h : fS m nd b k s found co Q sr bw π) {i : Nat} (hi : i < found) : (sr i = 0 → i = 0 ∧ π i = []) ∧ (sr i ≠ 0 → sr i - 1 < i ∧ bw i < m ∧ π i = π (sr i - 1) ++ [bw i]) := by
  obtain ⟨h0, h1, h2, -⟩ := h
  refine ⟨fun q => ?_, fun q => ?_⟩
  · have : i = 0 := by
      rcases Nat.eq_zero_or_pos i with z | z
      · exact z
      · have := h2 i z hi; omega
    subst this
    exact ⟨rfl, h0.2.2.1⟩
  · have hp : 0 < i := by
      rcases Nat.eq_zero_or_pos i with z | z
      · rw [z] at q; exact absurd h1 q
      · exact z
    obtain ⟨a, b, c, -⟩ := h0.2.2.2.1 i hp hi
    exact ⟨a, b, c⟩
end BITS1
end
section
set_option maxHeartbeats 4000000 in
set_option maxRecDepth 100000 in
theorem c_T_bitCount (E : jE) (l : Launch) (h : Nat) (n : Nat) (a1 : Nat) (a2 : Nat) (a3 : Nat) (fc : Nat) : Con E l yT_bitCount bT_bitCount 1 (some .int) { frames := 0, cells := 0, slots := 0, locals := 0 } [.ref (h)] [((h), .inr (3, [.int (nI (n)), .int (nI (2 ^ n)), .ref (a1), .ref (a2), .ref (a3), .int (nI (fc))]))] (fun r w => r = some (.int (nI n)) ∧ w = [((h), .inr (3, [.int (nI (n)), .int (nI (2 ^ n)), .ref (a1), .ref (a2), .ref (a3), .int (nI (fc))]))]) := by
  refine Con.ofI (by decide) (Nat.le_of_ble_eq_true rfl) ?_
  intro J C hret
  show J 0 [(0, .ref (h))] [] [((h), .inr (3, [.int (nI (n)), .int (nI (2 ^ n)), .ref (a1), .ref (a2), .ref (a3), .int (nI (fc))]))] 0 0
  refine J_aload_n C 0 dT_bitCount_0 rfl rfl ?_
  refine J_get C 0 0 hinT rfl rfl (by decide) fkT_21 rfl dT_bitCount_1 ?_
  exact hret _ _ _ _ _ _ dT_bitCount_4 (by decide) (by decide) (⟨rfl, rfl⟩)
set_option maxHeartbeats 4000000 in
set_option maxRecDepth 100000 in
theorem c_T_hasValue_t (E : jE) (l : Launch) (h : Nat) (n : Nat) (a1 : Nat) (a2 : Nat) (a3 : Nat) (fc : Nat) (k : Nat) (hn1 : 1 ≤ n) (hn4 : n ≤ 4) (hk : k < 2 ^ n) : Con E l yT_hasValue bT_hasValue 2 (some .boolean) { frames := 0, cells := 0, slots := 0, locals := 0 } [.ref (h), .int (nI (k))] [((h), .inr (3, [.int (nI (n)), .int (nI (2 ^ n)), .ref (a1), .ref (a2), .ref (a3), .int (nI (fc))]))] (fun r w => r = some (.int (nI 1)) ∧ w = [((h), .inr (3, [.int (nI (n)), .int (nI (2 ^ n)), .ref (a1), .ref (a2), .ref (a3), .int (nI (fc))]))]) := by
  refine Con.ofZ (by decide) (Nat.le_of_ble_eq_true rfl) ?_
  intro J C hret
  show J 0 [(0, .ref (h)), (1, .int (nI (k)))] [] [((h), .inr (3, [.int (nI (n)), .int (nI (2 ^ n)), .ref (a1), .ref (a2), .ref (a3), .int (nI (fc))]))] 0 0
  have hp16 := p16 hn4
  have hp1 := p1 n
  refine J_iload_n C 1 dT_hasValue_0 rfl rfl ?_
  refine J_if_lt C 16 (nI_toInt (n := k) (by omega)) dT_hasValue_1 (by decide) (fun h1 => ?_) (fun h1 => ?_)
  · exfalso; omega
  · refine J_iload_n C 1 dT_hasValue_4 rfl rfl ?_
    refine J_aload_n C 0 dT_hasValue_5 rfl rfl ?_
    refine J_get C 0 1 hinT rfl rfl (by decide) fkT_25 rfl dT_hasValue_6 ?_
    refine J_icmp_ge C 16 (nI_toInt (n := k) (by omega)) (nI_toInt (n := 2 ^ n) (by omega)) dT_hasValue_9 (by decide) (fun h9 => ?_) (fun h9 => ?_)
    · exfalso; omega
    · refine J_iconst C (v := nI (1)) dT_hasValue_12 (by decide) ?_
      refine J_goto C 17 dT_hasValue_13 (by decide) ?_
      exact hret _ _ _ _ _ _ dT_hasValue_17 (by decide) (by decide) (by decide) (⟨rfl, rfl⟩)
set_option maxHeartbeats 4000000 in
set_option maxRecDepth 100000 in
theorem c_T_hasValue_f (E : jE) (l : Launch) (h : Nat) (n : Nat) (a1 : Nat) (a2 : Nat) (a3 : Nat) (fc : Nat) (x : Int32) (hn1 : 1 ≤ n) (hn4 : n ≤ 4) (hx : x.toInt < 0 ∨ ((2 ^ n : Nat) : Int) ≤ x.toInt) : Con E l yT_hasValue bT_hasValue 2 (some .boolean) { frames := 0, cells := 0, slots := 0, locals := 0 } [.ref (h), .int (x)] [((h), .inr (3, [.int (nI (n)), .int (nI (2 ^ n)), .ref (a1), .ref (a2), .ref (a3), .int (nI (fc))]))] (fun r w => r = some (.int (nI 0)) ∧ w = [((h), .inr (3, [.int (nI (n)), .int (nI (2 ^ n)), .ref (a1), .ref (a2), .ref (a3), .int (nI (fc))]))]) := by
  refine Con.ofZ (by decide) (Nat.le_of_ble_eq_true rfl) ?_
  intro J C hret
  show J 0 [(0, .ref (h)), (1, .int (x))] [] [((h), .inr (3, [.int (nI (n)), .int (nI (2 ^ n)), .ref (a1), .ref (a2), .ref (a3), .int (nI (fc))]))] 0 0
  have hp16 := p16 hn4
  have hp1 := p1 n
  refine J_iload_n C 1 dT_hasValue_0 rfl rfl ?_
  refine J_if_lt C 16 rfl dT_hasValue_1 (by decide) (fun h1 => ?_) (fun h1 => ?_)
  · refine J_iconst C (v := nI (0)) dT_hasValue_16 (by decide) ?_
    exact hret _ _ _ _ _ _ dT_hasValue_17 (by decide) (by decide) (by decide) (⟨rfl, rfl⟩)
  · refine J_iload_n C 1 dT_hasValue_4 rfl rfl ?_
    refine J_aload_n C 0 dT_hasValue_5 rfl rfl ?_
    refine J_get C 0 1 hinT rfl rfl (by decide) fkT_25 rfl dT_hasValue_6 ?_
    refine J_icmp_ge C 16 rfl (nI_toInt (n := 2 ^ n) (by omega)) dT_hasValue_9 (by decide) (fun h9 => ?_) (fun h9 => ?_)
    · refine J_iconst C (v := nI (0)) dT_hasValue_16 (by decide) ?_
      exact hret _ _ _ _ _ _ dT_hasValue_17 (by decide) (by decide) (by decide) (⟨rfl, rfl⟩)
    · exfalso; omega
set_option maxHeartbeats 4000000 in
set_option maxRecDepth 100000 in
theorem c_T_hasGate_t (E : jE) (l : Launch) (h : Nat) (n : Nat) (a1 : Nat) (a2 : Nat) (a3 : Nat) (fc : Nat) (a : Nat) (c : Nat) (hn1 : 1 ≤ n) (hn4 : n ≤ 4) (ha : a < n) (hc : c < 2 ^ n) (hb : c.testBit a = false) : Con E l yT_hasGate bT_hasGate 4 (some .boolean) { frames := 0, cells := 0, slots := 0, locals := 0 } [.ref (h), .int (nI (16 * a + c))] [((h), .inr (3, [.int (nI (n)), .int (nI (2 ^ n)), .ref (a1), .ref (a2), .ref (a3), .int (nI (fc))]))] (fun r w => r = some (.int (nI 1)) ∧ w = [((h), .inr (3, [.int (nI (n)), .int (nI (2 ^ n)), .ref (a1), .ref (a2), .ref (a3), .int (nI (fc))]))]) := by
  refine Con.ofZ (by decide) (Nat.le_of_ble_eq_true rfl) ?_
  intro J C hret
  show J 0 [(0, .ref (h)), (1, .int (nI (16 * a + c)))] [] [((h), .inr (3, [.int (nI (n)), .int (nI (2 ^ n)), .ref (a1), .ref (a2), .ref (a3), .int (nI (fc))]))] 0 0
  have hp16 := p16 hn4
  have hp1 := p1 n
  refine J_iload_n C 1 dT_hasGate_0 rfl rfl ?_
  refine J_if_ge C 6 (nI_toInt (n := 16 * a + c) (by omega)) dT_hasGate_1 (by decide) (fun h1 => ?_) (fun h1 => ?_)
  · refine J_iload_n C 1 dT_hasGate_6 rfl rfl ?_
    refine J_iconst C (v := nI (4)) dT_hasGate_7 (by decide) ?_
    refine J_ishrN C dT_hasGate_8 (by omega) (by omega) ?_
    refine J_topN C (n' := a) (by omega) ?_
    refine J_istore_n C (lv' := [(0, .ref (h)), (1, .int (nI (16 * a + c))), (2, .int (nI (a)))]) [1, 2, 0] dT_hasGate_9 rfl (by decide) rfl ?_
    refine J_iload_n C 1 dT_hasGate_10 rfl rfl ?_
    refine J_bipush C (v := nI (15)) dT_hasGate_11 (by decide) ?_
    refine J_iandN C dT_hasGate_13 ?_
    refine J_topN C (n' := c) ((gate_num a (by omega) c (by omega)).2.2.1) ?_
    refine J_istore_n C (lv' := [(0, .ref (h)), (1, .int (nI (16 * a + c))), (2, .int (nI (a))), (3, .int (nI (c)))]) [1, 2, 3, 0] dT_hasGate_14 rfl (by decide) rfl ?_
    refine J_iload_n C 2 dT_hasGate_15 rfl rfl ?_
    refine J_aload_n C 0 dT_hasGate_16 rfl rfl ?_
    refine J_get C 0 0 hinT rfl rfl (by decide) fkT_21 rfl dT_hasGate_17 ?_
    refine J_icmp_ge C 43 (nI_toInt (n := a) (by omega)) (nI_toInt (n := n) (by omega)) dT_hasGate_20 (by decide) (fun h20 => ?_) (fun h20 => ?_)
    · exfalso; omega
    · refine J_iload_n C 3 dT_hasGate_23 rfl rfl ?_
      refine J_aload_n C 0 dT_hasGate_24 rfl rfl ?_
      refine J_get C 0 1 hinT rfl rfl (by decide) fkT_25 rfl dT_hasGate_25 ?_
      refine J_icmp_ge C 43 (nI_toInt (n := c) (by omega)) (nI_toInt (n := 2 ^ n) (by omega)) dT_hasGate_28 (by decide) (fun h28 => ?_) (fun h28 => ?_)
      · exfalso; omega
      · refine J_iload_n C 3 dT_hasGate_31 rfl rfl ?_
        refine J_iload_n C 2 dT_hasGate_32 rfl rfl ?_
        refine J_ishrN C dT_hasGate_33 (by omega) (by omega) ?_
        refine J_iconst C (v := nI (1)) dT_hasGate_34 (by decide) ?_
        refine J_iandN C dT_hasGate_35 ?_
        refine J_topN C (n' := 0) (by rw [tb_and1, hb]; rfl) ?_
        refine J_if_ne C 43 (nI_toInt (n := 0) (by decide)) dT_hasGate_36 (by decide) (fun h36 => ?_) (fun h36 => ?_)
        · exfalso; omega
        · refine J_iconst C (v := nI (1)) dT_hasGate_39 (by decide) ?_
          refine J_goto C 44 dT_hasGate_40 (by decide) ?_
          exact hret _ _ _ _ _ _ dT_hasGate_44 (by decide) (by decide) (by decide) (⟨rfl, rfl⟩)
  · exfalso; omega
set_option maxHeartbeats 4000000 in
set_option maxRecDepth 100000 in
theorem c_T_hasGate_n (E : jE) (l : Launch) (h : Nat) (n : Nat) (a1 : Nat) (a2 : Nat) (a3 : Nat) (fc : Nat) (x : Int32) (hn1 : 1 ≤ n) (hn4 : n ≤ 4) (hx : x.toInt < 0) : Con E l yT_hasGate bT_hasGate 4 (some .boolean) { frames := 0, cells := 0, slots := 0, locals := 0 } [.ref (h), .int (x)] [((h), .inr (3, [.int (nI (n)), .int (nI (2 ^ n)), .ref (a1), .ref (a2), .ref (a3), .int (nI (fc))]))] (fun r w => r = some (.int (nI 0)) ∧ w = [((h), .inr (3, [.int (nI (n)), .int (nI (2 ^ n)), .ref (a1), .ref (a2), .ref (a3), .int (nI (fc))]))]) := by
  refine Con.ofZ (by decide) (Nat.le_of_ble_eq_true rfl) ?_
  intro J C hret
  show J 0 [(0, .ref (h)), (1, .int (x))] [] [((h), .inr (3, [.int (nI (n)), .int (nI (2 ^ n)), .ref (a1), .ref (a2), .ref (a3), .int (nI (fc))]))] 0 0
  have hp16 := p16 hn4
  have hp1 := p1 n
  refine J_iload_n C 1 dT_hasGate_0 rfl rfl ?_
  refine J_if_ge C 6 rfl dT_hasGate_1 (by decide) (fun h1 => ?_) (fun h1 => ?_)
  · exfalso; omega
  · refine J_iconst C (v := nI (0)) dT_hasGate_4 (by decide) ?_
    exact hret _ _ _ _ _ _ dT_hasGate_5 (by decide) (by decide) (by decide) (⟨rfl, rfl⟩)
set_option maxHeartbeats 4000000 in
set_option maxRecDepth 100000 in
theorem c_T_hasGate_f (E : jE) (l : Launch) (h : Nat) (n : Nat) (a1 : Nat) (a2 : Nat) (a3 : Nat) (fc : Nat) (g : Nat) (hn1 : 1 ≤ n) (hn4 : n ≤ 4) (hg : g < 2 ^ 31) (hx : ¬ (g / 16 < n ∧ g % 16 < 2 ^ n ∧ (g % 16).testBit (g / 16) = false)) : Con E l yT_hasGate bT_hasGate 4 (some .boolean) { frames := 0, cells := 0, slots := 0, locals := 0 } [.ref (h), .int (nI (g))] [((h), .inr (3, [.int (nI (n)), .int (nI (2 ^ n)), .ref (a1), .ref (a2), .ref (a3), .int (nI (fc))]))] (fun r w => r = some (.int (nI 0)) ∧ w = [((h), .inr (3, [.int (nI (n)), .int (nI (2 ^ n)), .ref (a1), .ref (a2), .ref (a3), .int (nI (fc))]))]) := by
  refine Con.ofZ (by decide) (Nat.le_of_ble_eq_true rfl) ?_
  intro J C hret
  show J 0 [(0, .ref (h)), (1, .int (nI (g)))] [] [((h), .inr (3, [.int (nI (n)), .int (nI (2 ^ n)), .ref (a1), .ref (a2), .ref (a3), .int (nI (fc))]))] 0 0
  have hp16 := p16 hn4
  have hp1 := p1 n
  refine J_iload_n C 1 dT_hasGate_0 rfl rfl ?_
  refine J_if_ge C 6 (nI_toInt (n := g) (by omega)) dT_hasGate_1 (by decide) (fun h1 => ?_) (fun h1 => ?_)
  · refine J_iload_n C 1 dT_hasGate_6 rfl rfl ?_
    refine J_iconst C (v := nI (4)) dT_hasGate_7 (by decide) ?_
    refine J_ishrN C dT_hasGate_8 (by omega) (by omega) ?_
    refine J_topN C (n' := g / 16) (by omega) ?_
    refine J_istore_n C (lv' := [(0, .ref (h)), (1, .int (nI (g))), (2, .int (nI (g / 16)))]) [1, 2, 0] dT_hasGate_9 rfl (by decide) rfl ?_
    refine J_iload_n C 1 dT_hasGate_10 rfl rfl ?_
    refine J_bipush C (v := nI (15)) dT_hasGate_11 (by decide) ?_
    refine J_iandN C dT_hasGate_13 ?_
    refine J_topN C (n' := g % 16) (Nat.and_two_pow_sub_one_eq_mod g 4) ?_
    refine J_istore_n C (lv' := [(0, .ref (h)), (1, .int (nI (g))), (2, .int (nI (g / 16))), (3, .int (nI (g % 16)))]) [1, 2, 3, 0] dT_hasGate_14 rfl (by decide) rfl ?_
    refine J_iload_n C 2 dT_hasGate_15 rfl rfl ?_
    refine J_aload_n C 0 dT_hasGate_16 rfl rfl ?_
    refine J_get C 0 0 hinT rfl rfl (by decide) fkT_21 rfl dT_hasGate_17 ?_
    refine J_icmp_ge C 43 (nI_toInt (n := g / 16) (by omega)) (nI_toInt (n := n) (by omega)) dT_hasGate_20 (by decide) (fun h20 => ?_) (fun h20 => ?_)
    · refine J_iconst C (v := nI (0)) dT_hasGate_43 (by decide) ?_
      exact hret _ _ _ _ _ _ dT_hasGate_44 (by decide) (by decide) (by decide) (⟨rfl, rfl⟩)
    · refine J_iload_n C 3 dT_hasGate_23 rfl rfl ?_
      refine J_aload_n C 0 dT_hasGate_24 rfl rfl ?_
      refine J_get C 0 1 hinT rfl rfl (by decide) fkT_25 rfl dT_hasGate_25 ?_
      refine J_icmp_ge C 43 (nI_toInt (n := g % 16) (by omega)) (nI_toInt (n := 2 ^ n) (by omega)) dT_hasGate_28 (by decide) (fun h28 => ?_) (fun h28 => ?_)
      · refine J_iconst C (v := nI (0)) dT_hasGate_43 (by decide) ?_
        exact hret _ _ _ _ _ _ dT_hasGate_44 (by decide) (by decide) (by decide) (⟨rfl, rfl⟩)
      · refine J_iload_n C 3 dT_hasGate_31 rfl rfl ?_
        refine J_iload_n C 2 dT_hasGate_32 rfl rfl ?_
        refine J_ishrN C dT_hasGate_33 (by omega) (by omega) ?_
        refine J_iconst C (v := nI (1)) dT_hasGate_34 (by decide) ?_
        refine J_iandN C dT_hasGate_35 ?_
        refine J_if_ne C 43 (nI_toInt (n := ((g % 16) / 2 ^ (g / 16)) &&& 1) (by have := Nat.and_le_right (n := g % 16 / 2 ^ (g / 16)) (m := 1); omega)) dT_hasGate_36 (by decide) (fun h36 => ?_) (fun h36 => ?_)
        · refine J_iconst C (v := nI (0)) dT_hasGate_43 (by decide) ?_
          exact hret _ _ _ _ _ _ dT_hasGate_44 (by decide) (by decide) (by decide) (⟨rfl, rfl⟩)
        · exfalso
          refine hx ⟨by omega, by omega, ?_⟩
          rw [tb_and1] at h36
          cases hq : (g % 16).testBit (g / 16) with
          | false => rfl
          | true => simp [hq] at h36
  · exfalso; omega
set_option maxHeartbeats 4000000 in
set_option maxRecDepth 100000 in
theorem c_T_get_t (E : jE) (l : Launch) (h : Nat) (n : Nat) (a1 : Nat) (a2 : Nat) (a3 : Nat) (fc : Nat) (to : Nat → Nat) (k : Nat) (hn1 : 1 ≤ n) (hn4 : n ≤ 4) (hk : k < 2 ^ n) : Con E l yT_get bT_get 2 (some .int) { frames := 1, cells := 0, slots := 0, locals := 21 } [.ref (h), .int (nI (k))] [((h), .inr (3, [.int (nI (n)), .int (nI (2 ^ n)), .ref (a1), .ref (a2), .ref (a3), .int (nI (fc))])), kI E (a1) (16) (to)] (fun r w => r = some (.int (nI (to k))) ∧ w = [((h), .inr (3, [.int (nI (n)), .int (nI (2 ^ n)), .ref (a1), .ref (a2), .ref (a3), .int (nI (fc))])), kI E (a1) (16) (to)]) := by
  refine Con.ofI (by decide) (Nat.le_of_ble_eq_true rfl) ?_
  intro J C hret
  show J 0 [(0, .ref (h)), (1, .int (nI (k)))] [] [((h), .inr (3, [.int (nI (n)), .int (nI (2 ^ n)), .ref (a1), .ref (a2), .ref (a3), .int (nI (fc))])), kI E (a1) (16) (to)] 0 0
  have hp16 := p16 hn4
  have hp1 := p1 n
  refine J_aload_n C 0 dT_get_0 rfl rfl ?_
  refine J_iload_n C 1 dT_get_1 rfl rfl ?_
  refine J_callV C (rest := []) [] [((h), .inr (3, [.int (nI (n)), .int (nI (2 ^ n)), .ref (a1), .ref (a2), .ref (a3), .int (nI (fc))]))] [kI E (a1) (16) (to)] 0 (c_T_hasValue_t E l h n a1 a2 a3 fc k (by omega) (by omega) (by omega)) mmT_hasValue msT_hasValue lkT_28 rfl rfl (rfl) rfl rfl ⟨by decide, by decide⟩ ⟨by decide, by decide⟩ (Nat.le_of_ble_eq_true rfl) dT_get_2 (fun r_c w_c hp => ?_)
  obtain ⟨rfl, rfl⟩ := hp
  refine J_norm C (st' := [.int (nI (1))]) (ws' := [((h), .inr (3, [.int (nI (n)), .int (nI (2 ^ n)), .ref (a1), .ref (a2), .ref (a3), .int (nI (fc))])), kI E (a1) (16) (to)]) (cs' := 0) (ss' := 0) rfl (rfl) rfl rfl ?_
  refine J_if_eq C 17 (nI_toInt (n := 1) (by decide)) dT_get_5 (by decide) (fun h5 => ?_) (fun h5 => ?_)
  · exfalso; omega
  · refine J_aload_n C 0 dT_get_8 rfl rfl ?_
    refine J_get C 0 2 hinT rfl rfl (by decide) fkT_9 rfl dT_get_9 ?_
    refine J_iload_n C 1 dT_get_12 rfl rfl ?_
    refine J_iald C 1 rfl (by omega) (by omega) dT_get_13 ?_
    refine J_goto C 18 dT_get_14 (by decide) ?_
    exact hret _ _ _ _ _ _ dT_get_18 (by decide) (by decide) (⟨rfl, rfl⟩)
set_option maxHeartbeats 4000000 in
set_option maxRecDepth 100000 in
theorem c_T_get_f (E : jE) (l : Launch) (h : Nat) (n : Nat) (a1 : Nat) (a2 : Nat) (a3 : Nat) (fc : Nat) (to : Nat → Nat) (x : Int32) (hn1 : 1 ≤ n) (hn4 : n ≤ 4) (hx : x.toInt < 0 ∨ ((2 ^ n : Nat) : Int) ≤ x.toInt) : Con E l yT_get bT_get 2 (some .int) { frames := 1, cells := 0, slots := 0, locals := 21 } [.ref (h), .int (x)] [((h), .inr (3, [.int (nI (n)), .int (nI (2 ^ n)), .ref (a1), .ref (a2), .ref (a3), .int (nI (fc))])), kI E (a1) (16) (to)] (fun r w => r = some (.int (-1)) ∧ w = [((h), .inr (3, [.int (nI (n)), .int (nI (2 ^ n)), .ref (a1), .ref (a2), .ref (a3), .int (nI (fc))])), kI E (a1) (16) (to)]) := by
  refine Con.ofI (by decide) (Nat.le_of_ble_eq_true rfl) ?_
  intro J C hret
  show J 0 [(0, .ref (h)), (1, .int (x))] [] [((h), .inr (3, [.int (nI (n)), .int (nI (2 ^ n)), .ref (a1), .ref (a2), .ref (a3), .int (nI (fc))])), kI E (a1) (16) (to)] 0 0
  have hp16 := p16 hn4
  have hp1 := p1 n
  refine J_aload_n C 0 dT_get_0 rfl rfl ?_
  refine J_iload_n C 1 dT_get_1 rfl rfl ?_
  refine J_callV C (rest := []) [] [((h), .inr (3, [.int (nI (n)), .int (nI (2 ^ n)), .ref (a1), .ref (a2), .ref (a3), .int (nI (fc))]))] [kI E (a1) (16) (to)] 0 (c_T_hasValue_f E l h n a1 a2 a3 fc x (by omega) (by omega) (by omega)) mmT_hasValue msT_hasValue lkT_28 rfl rfl (rfl) rfl rfl ⟨by decide, by decide⟩ ⟨by decide, by decide⟩ (Nat.le_of_ble_eq_true rfl) dT_get_2 (fun r_c w_c hp => ?_)
  obtain ⟨rfl, rfl⟩ := hp
  refine J_norm C (st' := [.int (nI (0))]) (ws' := [((h), .inr (3, [.int (nI (n)), .int (nI (2 ^ n)), .ref (a1), .ref (a2), .ref (a3), .int (nI (fc))])), kI E (a1) (16) (to)]) (cs' := 0) (ss' := 0) rfl (rfl) rfl rfl ?_
  refine J_if_eq C 17 (nI_toInt (n := 0) (by decide)) dT_get_5 (by decide) (fun h5 => ?_) (fun h5 => ?_)
  · refine J_iconst C (v := -1) dT_get_17 (by decide) ?_
    exact hret _ _ _ _ _ _ dT_get_18 (by decide) (by decide) (⟨rfl, rfl⟩)
  · exfalso; omega
set_option maxHeartbeats 4000000 in
set_option maxRecDepth 100000 in
theorem c_T_set_t (E : jE) (l : Launch) (h : Nat) (n : Nat) (a1 : Nat) (a2 : Nat) (a3 : Nat) (fc : Nat) (to : Nat → Nat) (k : Nat) (u : Nat) (hn1 : 1 ≤ n) (hn4 : n ≤ 4) (hk : k < 2 ^ n) (hu : u < 2 ^ n) : Con E l yT_set bT_set 3 (some .boolean) { frames := 1, cells := 0, slots := 0, locals := 21 } [.ref (h), .int (nI (k)), .int (nI (u))] [((h), .inr (3, [.int (nI (n)), .int (nI (2 ^ n)), .ref (a1), .ref (a2), .ref (a3), .int (nI (fc))])), kI E (a1) (16) (to)] (fun r w => r = some (.int (nI 1)) ∧ w = [((h), .inr (3, [.int (nI (n)), .int (nI (2 ^ n)), .ref (a1), .ref (a2), .ref (a3), .int (nI (fc))])), kI E (a1) (16) (upN to k u)]) := by
  refine Con.ofZ (by decide) (Nat.le_of_ble_eq_true rfl) ?_
  intro J C hret
  show J 0 [(0, .ref (h)), (1, .int (nI (k))), (2, .int (nI (u)))] [] [((h), .inr (3, [.int (nI (n)), .int (nI (2 ^ n)), .ref (a1), .ref (a2), .ref (a3), .int (nI (fc))])), kI E (a1) (16) (to)] 0 0
  have hp16 := p16 hn4
  have hp1 := p1 n
  refine J_aload_n C 0 dT_set_0 rfl rfl ?_
  refine J_iload_n C 1 dT_set_1 rfl rfl ?_
  refine J_callV C (rest := []) [] [((h), .inr (3, [.int (nI (n)), .int (nI (2 ^ n)), .ref (a1), .ref (a2), .ref (a3), .int (nI (fc))]))] [kI E (a1) (16) (to)] 0 (c_T_hasValue_t E l h n a1 a2 a3 fc k (by omega) (by omega) (by omega)) mmT_hasValue msT_hasValue lkT_28 rfl rfl (rfl) rfl rfl ⟨by decide, by decide⟩ ⟨by decide, by decide⟩ (Nat.le_of_ble_eq_true rfl) dT_set_2 (fun r_c w_c hp => ?_)
  obtain ⟨rfl, rfl⟩ := hp
  refine J_norm C (st' := [.int (nI (1))]) (ws' := [((h), .inr (3, [.int (nI (n)), .int (nI (2 ^ n)), .ref (a1), .ref (a2), .ref (a3), .int (nI (fc))])), kI E (a1) (16) (to)]) (cs' := 0) (ss' := 0) rfl (rfl) rfl rfl ?_
  refine J_if_eq C 16 (nI_toInt (n := 1) (by decide)) dT_set_5 (by decide) (fun h5 => ?_) (fun h5 => ?_)
  · exfalso; omega
  · refine J_aload_n C 0 dT_set_8 rfl rfl ?_
    refine J_iload_n C 2 dT_set_9 rfl rfl ?_
    refine J_callV C (rest := []) [] [((h), .inr (3, [.int (nI (n)), .int (nI (2 ^ n)), .ref (a1), .ref (a2), .ref (a3), .int (nI (fc))]))] [kI E (a1) (16) (to)] 0 (c_T_hasValue_t E l h n a1 a2 a3 fc u (by omega) (by omega) (by omega)) mmT_hasValue msT_hasValue lkT_28 rfl rfl (rfl) rfl rfl ⟨by decide, by decide⟩ ⟨by decide, by decide⟩ (Nat.le_of_ble_eq_true rfl) dT_set_10 (fun r_c w_c hp => ?_)
    obtain ⟨rfl, rfl⟩ := hp
    refine J_norm C (st' := [.int (nI (1))]) (ws' := [((h), .inr (3, [.int (nI (n)), .int (nI (2 ^ n)), .ref (a1), .ref (a2), .ref (a3), .int (nI (fc))])), kI E (a1) (16) (to)]) (cs' := 0) (ss' := 0) rfl (rfl) rfl rfl ?_
    refine J_if_ne C 18 (nI_toInt (n := 1) (by decide)) dT_set_13 (by decide) (fun h13 => ?_) (fun h13 => ?_)
    · refine J_aload_n C 0 dT_set_18 rfl rfl ?_
      refine J_get C 0 2 hinT rfl rfl (by decide) fkT_9 rfl dT_set_19 ?_
      refine J_iload_n C 1 dT_set_22 rfl rfl ?_
      refine J_iload_n C 2 dT_set_23 rfl rfl ?_
      refine J_iastN C (ws' := [((h), .inr (3, [.int (nI (n)), .int (nI (2 ^ n)), .ref (a1), .ref (a2), .ref (a3), .int (nI (fc))])), kI E (a1) (16) (upN to k u)]) 1 rfl (by omega) (by omega) dT_set_24 rfl ?_
      refine J_iconst C (v := nI (1)) dT_set_25 (by decide) ?_
      exact hret _ _ _ _ _ _ dT_set_26 (by decide) (by decide) (by decide) (⟨rfl, rfl⟩)
    · exfalso; omega
set_option maxHeartbeats 4000000 in
set_option maxRecDepth 100000 in
theorem c_T_set_f1 (E : jE) (l : Launch) (h : Nat) (n : Nat) (a1 : Nat) (a2 : Nat) (a3 : Nat) (fc : Nat) (to : Nat → Nat) (x : Int32) (z : Int32) (hn1 : 1 ≤ n) (hn4 : n ≤ 4) (hx : x.toInt < 0 ∨ ((2 ^ n : Nat) : Int) ≤ x.toInt) : Con E l yT_set bT_set 3 (some .boolean) { frames := 1, cells := 0, slots := 0, locals := 21 } [.ref (h), .int (x), .int (z)] [((h), .inr (3, [.int (nI (n)), .int (nI (2 ^ n)), .ref (a1), .ref (a2), .ref (a3), .int (nI (fc))])), kI E (a1) (16) (to)] (fun r w => r = some (.int (nI 0)) ∧ w = [((h), .inr (3, [.int (nI (n)), .int (nI (2 ^ n)), .ref (a1), .ref (a2), .ref (a3), .int (nI (fc))])), kI E (a1) (16) (to)]) := by
  refine Con.ofZ (by decide) (Nat.le_of_ble_eq_true rfl) ?_
  intro J C hret
  show J 0 [(0, .ref (h)), (1, .int (x)), (2, .int (z))] [] [((h), .inr (3, [.int (nI (n)), .int (nI (2 ^ n)), .ref (a1), .ref (a2), .ref (a3), .int (nI (fc))])), kI E (a1) (16) (to)] 0 0
  have hp16 := p16 hn4
  have hp1 := p1 n
  refine J_aload_n C 0 dT_set_0 rfl rfl ?_
  refine J_iload_n C 1 dT_set_1 rfl rfl ?_
  refine J_callV C (rest := []) [] [((h), .inr (3, [.int (nI (n)), .int (nI (2 ^ n)), .ref (a1), .ref (a2), .ref (a3), .int (nI (fc))]))] [kI E (a1) (16) (to)] 0 (c_T_hasValue_f E l h n a1 a2 a3 fc x (by omega) (by omega) (by omega)) mmT_hasValue msT_hasValue lkT_28 rfl rfl (rfl) rfl rfl ⟨by decide, by decide⟩ ⟨by decide, by decide⟩ (Nat.le_of_ble_eq_true rfl) dT_set_2 (fun r_c w_c hp => ?_)
  obtain ⟨rfl, rfl⟩ := hp
  refine J_norm C (st' := [.int (nI (0))]) (ws' := [((h), .inr (3, [.int (nI (n)), .int (nI (2 ^ n)), .ref (a1), .ref (a2), .ref (a3), .int (nI (fc))])), kI E (a1) (16) (to)]) (cs' := 0) (ss' := 0) rfl (rfl) rfl rfl ?_
  refine J_if_eq C 16 (nI_toInt (n := 0) (by decide)) dT_set_5 (by decide) (fun h5 => ?_) (fun h5 => ?_)
  · refine J_iconst C (v := nI (0)) dT_set_16 (by decide) ?_
    exact hret _ _ _ _ _ _ dT_set_17 (by decide) (by decide) (by decide) (⟨rfl, rfl⟩)
  · exfalso; omega
set_option maxHeartbeats 4000000 in
set_option maxRecDepth 100000 in
theorem c_T_set_f2 (E : jE) (l : Launch) (h : Nat) (n : Nat) (a1 : Nat) (a2 : Nat) (a3 : Nat) (fc : Nat) (to : Nat → Nat) (k : Nat) (z : Int32) (hn1 : 1 ≤ n) (hn4 : n ≤ 4) (hk : k < 2 ^ n) (hx : z.toInt < 0 ∨ ((2 ^ n : Nat) : Int) ≤ z.toInt) : Con E l yT_set bT_set 3 (some .boolean) { frames := 1, cells := 0, slots := 0, locals := 21 } [.ref (h), .int (nI (k)), .int (z)] [((h), .inr (3, [.int (nI (n)), .int (nI (2 ^ n)), .ref (a1), .ref (a2), .ref (a3), .int (nI (fc))])), kI E (a1) (16) (to)] (fun r w => r = some (.int (nI 0)) ∧ w = [((h), .inr (3, [.int (nI (n)), .int (nI (2 ^ n)), .ref (a1), .ref (a2), .ref (a3), .int (nI (fc))])), kI E (a1) (16) (to)]) := by
  refine Con.ofZ (by decide) (Nat.le_of_ble_eq_true rfl) ?_
  intro J C hret
  show J 0 [(0, .ref (h)), (1, .int (nI (k))), (2, .int (z))] [] [((h), .inr (3, [.int (nI (n)), .int (nI (2 ^ n)), .ref (a1), .ref (a2), .ref (a3), .int (nI (fc))])), kI E (a1) (16) (to)] 0 0
  have hp16 := p16 hn4
  have hp1 := p1 n
  refine J_aload_n C 0 dT_set_0 rfl rfl ?_
  refine J_iload_n C 1 dT_set_1 rfl rfl ?_
  refine J_callV C (rest := []) [] [((h), .inr (3, [.int (nI (n)), .int (nI (2 ^ n)), .ref (a1), .ref (a2), .ref (a3), .int (nI (fc))]))] [kI E (a1) (16) (to)] 0 (c_T_hasValue_t E l h n a1 a2 a3 fc k (by omega) (by omega) (by omega)) mmT_hasValue msT_hasValue lkT_28 rfl rfl (rfl) rfl rfl ⟨by decide, by decide⟩ ⟨by decide, by decide⟩ (Nat.le_of_ble_eq_true rfl) dT_set_2 (fun r_c w_c hp => ?_)
  obtain ⟨rfl, rfl⟩ := hp
  refine J_norm C (st' := [.int (nI (1))]) (ws' := [((h), .inr (3, [.int (nI (n)), .int (nI (2 ^ n)), .ref (a1), .ref (a2), .ref (a3), .int (nI (fc))])), kI E (a1) (16) (to)]) (cs' := 0) (ss' := 0) rfl (rfl) rfl rfl ?_
  refine J_if_eq C 16 (nI_toInt (n := 1) (by decide)) dT_set_5 (by decide) (fun h5 => ?_) (fun h5 => ?_)
  · exfalso; omega
  · refine J_aload_n C 0 dT_set_8 rfl rfl ?_
    refine J_iload_n C 2 dT_set_9 rfl rfl ?_
    refine J_callV C (rest := []) [] [((h), .inr (3, [.int (nI (n)), .int (nI (2 ^ n)), .ref (a1), .ref (a2), .ref (a3), .int (nI (fc))]))] [kI E (a1) (16) (to)] 0 (c_T_hasValue_f E l h n a1 a2 a3 fc z (by omega) (by omega) (by omega)) mmT_hasValue msT_hasValue lkT_28 rfl rfl (rfl) rfl rfl ⟨by decide, by decide⟩ ⟨by decide, by decide⟩ (Nat.le_of_ble_eq_true rfl) dT_set_10 (fun r_c w_c hp => ?_)
    obtain ⟨rfl, rfl⟩ := hp
    refine J_norm C (st' := [.int (nI (0))]) (ws' := [((h), .inr (3, [.int (nI (n)), .int (nI (2 ^ n)), .ref (a1), .ref (a2), .ref (a3), .int (nI (fc))])), kI E (a1) (16) (to)]) (cs' := 0) (ss' := 0) rfl (rfl) rfl rfl ?_
    refine J_if_ne C 18 (nI_toInt (n := 0) (by decide)) dT_set_13 (by decide) (fun h13 => ?_) (fun h13 => ?_)
    · exfalso; omega
    · refine J_iconst C (v := nI (0)) dT_set_16 (by decide) ?_
      exact hret _ _ _ _ _ _ dT_set_17 (by decide) (by decide) (by decide) (⟨rfl, rfl⟩)
set_option maxHeartbeats 4000000 in
set_option maxRecDepth 100000 in
theorem c_T_changeAll (E : jE) (l : Launch) (h : Nat) (n : Nat) (a1 : Nat) (a2 : Nat) (a3 : Nat) (fc : Nat) (b : Nat) (t : Nat → Nat) (a : Nat) (c : Nat) (hn1 : 1 ≤ n) (hn4 : n ≤ 4) (ha : a < n) (hc : c < 16) (ht : ∀ v, v < 2 ^ n → t v < 2 ^ n) : Con E l yT_changeAll bT_changeAll 6 none { frames := 0, cells := 0, slots := 0, locals := 0 } [.ref (h), .ref (b), .int (nI (16 * a + c))] [((h), .inr (3, [.int (nI (n)), .int (nI (2 ^ n)), .ref (a1), .ref (a2), .ref (a3), .int (nI (fc))])), kI E (b) (16) (t)] (fun r w => r = none ∧ w = [((h), .inr (3, [.int (nI (n)), .int (nI (2 ^ n)), .ref (a1), .ref (a2), .ref (a3), .int (nI (fc))])), kI E (b) (16) (gAp n t a c)]) := by
  refine Con.ofV (by decide) (Nat.le_of_ble_eq_true rfl) ?_
  intro J C hret
  show J 0 [(0, .ref (h)), (1, .ref (b)), (2, .int (nI (16 * a + c)))] [] [((h), .inr (3, [.int (nI (n)), .int (nI (2 ^ n)), .ref (a1), .ref (a2), .ref (a3), .int (nI (fc))])), kI E (b) (16) (t)] 0 0
  have hp16 := p16 hn4
  have hp1 := p1 n
  refine J_iconst C (v := nI (1)) dT_changeAll_0 (by decide) ?_
  refine J_iload_n C 2 dT_changeAll_1 rfl rfl ?_
  refine J_iconst C (v := nI (4)) dT_changeAll_2 (by decide) ?_
  refine J_ishrN C dT_changeAll_3 (by omega) (by omega) ?_
  refine J_topN C (n' := a) (by omega) ?_
  refine J_ishl1 C dT_changeAll_4 (by omega) ?_
  refine J_istore_n C (lv' := [(0, .ref (h)), (1, .ref (b)), (2, .int (nI (16 * a + c))), (3, .int (nI (2 ^ a)))]) [1, 2, 3, 0] dT_changeAll_5 rfl (by decide) rfl ?_
  refine J_iload_n C 2 dT_changeAll_6 rfl rfl ?_
  refine J_bipush C (v := nI (15)) dT_changeAll_7 (by decide) ?_
  refine J_iandN C dT_changeAll_9 ?_
  refine J_topN C (n' := c) ((gate_num a (by omega) c (by omega)).2.2.1) ?_
  refine J_istore C (lv' := [(0, .ref (h)), (1, .ref (b)), (2, .int (nI (16 * a + c))), (3, .int (nI (2 ^ a))), (4, .int (nI (c)))]) [1, 2, 3, 4, 0] dT_changeAll_10 (by decide) rfl ?_
  refine J_iconst C (v := nI (0)) dT_changeAll_12 (by decide) ?_
  refine J_istore C (lv' := [(0, .ref (h)), (1, .ref (b)), (2, .int (nI (16 * a + c))), (3, .int (nI (2 ^ a))), (4, .int (nI (c))), (5, .int (nI (0)))]) [1, 2, 3, 4, 5, 0] dT_changeAll_13 (by decide) rfl ?_
  have lp_15 : ∀ (k_15 : Nat) (i : Nat) (f : Nat → Nat), (i ≤ 2 ^ n) → (∀ j, f j = if j < i then chg (t j) a c else t j) → (2 ^ n - i) < k_15 → J 15 [(0, .ref (h)), (1, .ref (b)), (2, .int (nI (16 * a + c))), (3, .int (nI (2 ^ a))), (4, .int (nI (c))), (5, .int (nI (i)))] [] [((h), .inr (3, [.int (nI (n)), .int (nI (2 ^ n)), .ref (a1), .ref (a2), .ref (a3), .int (nI (fc))])), kI E (b) (16) (f)] (0) (0) := by
    intro k_15
    induction k_15 with
    | zero => intro i f hi hf hk_15; exact absurd hk_15 (Nat.not_lt_zero _)
    | succ k_15 ih_15 =>
      intro i f hi hf hk_15
      refine J_iload C 5 dT_changeAll_15 rfl ?_
      refine J_aload_n C 0 dT_changeAll_17 rfl rfl ?_
      refine J_get C 0 1 hinT rfl rfl (by decide) fkT_25 rfl dT_changeAll_18 ?_
      refine J_icmp_ge C 50 (nI_toInt (n := i) (by omega)) (nI_toInt (n := 2 ^ n) (by omega)) dT_changeAll_21 (by decide) (fun h21 => ?_) (fun h21 => ?_)
      · have ef : f = gAp n t a c := by
          funext j
          rw [hf j]
          unfold gAp
          rw [show i = 2 ^ n by omega]
        subst ef
        exact hret _ _ _ _ _ dT_changeAll_50 (by decide) (by decide) (⟨rfl, rfl⟩)
      · refine J_aload_n C 1 dT_changeAll_24 rfl rfl ?_
        refine J_iload C 5 dT_changeAll_25 rfl ?_
        refine J_iald C 1 rfl (by omega) (by omega) dT_changeAll_27 ?_
        refine J_topN C (n' := t i) (by rw [hf]; simp) ?_
        refine J_iload C 4 dT_changeAll_28 rfl ?_
        refine J_iandN C dT_changeAll_30 ?_
        refine J_iload C 4 dT_changeAll_31 rfl ?_
        refine J_icmp_ne C 44 (nI_toInt (n := (t i) &&& c) (by have := Nat.and_le_right (n := t i) (m := c); omega)) (nI_toInt (n := c) (by omega)) dT_changeAll_33 (by decide) (fun h33 => ?_) (fun h33 => ?_)
        · refine J_iinc C (lv' := [(0, .ref (h)), (1, .ref (b)), (2, .int (nI (16 * a + c))), (3, .int (nI (2 ^ a))), (4, .int (nI (c))), (5, .int (nI (i + 1)))]) 5 [1, 2, 3, 4, 5, 0] dT_changeAll_44 rfl (jn_inc _) (by decide) rfl ?_
          refine J_goto C 15 dT_changeAll_47 (by decide) ?_
          exact ih_15 (i + 1) f (by omega) (by intro j; exact ch_f hf (by omega) j) (by omega)
        · refine J_aload_n C 1 dT_changeAll_36 rfl rfl ?_
          refine J_iload C 5 dT_changeAll_37 rfl ?_
          refine J_dup2 C dT_changeAll_39 rfl rfl ?_
          refine J_iald C 1 rfl (by omega) (by omega) dT_changeAll_40 ?_
          refine J_topN C (n' := t i) (by rw [hf]; simp) ?_
          refine J_iload_n C 3 dT_changeAll_41 rfl rfl ?_
          refine J_ixorN C dT_changeAll_42 ?_
          refine J_iastN C (ws' := [((h), .inr (3, [.int (nI (n)), .int (nI (2 ^ n)), .ref (a1), .ref (a2), .ref (a3), .int (nI (fc))])), kI E (b) (16) (upN f i ((t i) ^^^ (2 ^ a)))]) 1 rfl (by omega) (by omega) dT_changeAll_43 rfl ?_
          refine J_iinc C (lv' := [(0, .ref (h)), (1, .ref (b)), (2, .int (nI (16 * a + c))), (3, .int (nI (2 ^ a))), (4, .int (nI (c))), (5, .int (nI (i + 1)))]) 5 [1, 2, 3, 4, 5, 0] dT_changeAll_44 rfl (jn_inc _) (by decide) rfl ?_
          refine J_goto C 15 dT_changeAll_47 (by decide) ?_
          exact ih_15 (i + 1) (upN f i ((t i) ^^^ (2 ^ a))) (by omega) (by intro j; exact ch_t hf (by omega) j) (by omega)
  exact lp_15 (2 ^ n + 1) 0 t (by omega) (by intro j; simp) (by omega)
set_option maxHeartbeats 4000000 in
set_option maxRecDepth 100000 in
theorem c_T_change_t (E : jE) (l : Launch) (h : Nat) (n : Nat) (a1 : Nat) (a2 : Nat) (a3 : Nat) (fc : Nat) (to : Nat → Nat) (a : Nat) (c : Nat) (hn1 : 1 ≤ n) (hn4 : n ≤ 4) (ha : a < n) (hc : c < 2 ^ n) (hb : c.testBit a = false) (ht : ∀ v, v < 2 ^ n → to v < 2 ^ n) : Con E l yT_change bT_change 2 (some .boolean) { frames := 1, cells := 0, slots := 0, locals := 25 } [.ref (h), .int (nI (16 * a + c))] [((h), .inr (3, [.int (nI (n)), .int (nI (2 ^ n)), .ref (a1), .ref (a2), .ref (a3), .int (nI (fc))])), kI E (a1) (16) (to)] (fun r w => r = some (.int (nI 1)) ∧ w = [((h), .inr (3, [.int (nI (n)), .int (nI (2 ^ n)), .ref (a1), .ref (a2), .ref (a3), .int (nI (fc))])), kI E (a1) (16) (gAp n to a c)]) := by
  refine Con.ofZ (by decide) (Nat.le_of_ble_eq_true rfl) ?_
  intro J C hret
  show J 0 [(0, .ref (h)), (1, .int (nI (16 * a + c)))] [] [((h), .inr (3, [.int (nI (n)), .int (nI (2 ^ n)), .ref (a1), .ref (a2), .ref (a3), .int (nI (fc))])), kI E (a1) (16) (to)] 0 0
  have hp16 := p16 hn4
  have hp1 := p1 n
  refine J_aload_n C 0 dT_change_0 rfl rfl ?_
  refine J_iload_n C 1 dT_change_1 rfl rfl ?_
  refine J_callV C (rest := []) [] [((h), .inr (3, [.int (nI (n)), .int (nI (2 ^ n)), .ref (a1), .ref (a2), .ref (a3), .int (nI (fc))]))] [kI E (a1) (16) (to)] 0 (c_T_hasGate_t E l h n a1 a2 a3 fc a c (by omega) (by omega) (by omega) (by omega) (hb)) mmT_hasGate msT_hasGate lkT_32 rfl rfl (rfl) rfl rfl ⟨by decide, by decide⟩ ⟨by decide, by decide⟩ (Nat.le_of_ble_eq_true rfl) dT_change_2 (fun r_c w_c hp => ?_)
  obtain ⟨rfl, rfl⟩ := hp
  refine J_norm C (st' := [.int (nI (1))]) (ws' := [((h), .inr (3, [.int (nI (n)), .int (nI (2 ^ n)), .ref (a1), .ref (a2), .ref (a3), .int (nI (fc))])), kI E (a1) (16) (to)]) (cs' := 0) (ss' := 0) rfl (rfl) rfl rfl ?_
  refine J_if_ne C 10 (nI_toInt (n := 1) (by decide)) dT_change_5 (by decide) (fun h5 => ?_) (fun h5 => ?_)
  · refine J_aload_n C 0 dT_change_10 rfl rfl ?_
    refine J_aload_n C 0 dT_change_11 rfl rfl ?_
    refine J_get C 0 2 hinT rfl rfl (by decide) fkT_9 rfl dT_change_12 ?_
    refine J_iload_n C 1 dT_change_15 rfl rfl ?_
    refine J_callV C (rest := []) [] [((h), .inr (3, [.int (nI (n)), .int (nI (2 ^ n)), .ref (a1), .ref (a2), .ref (a3), .int (nI (fc))])), kI E (a1) (16) (to)] [] 0 (c_T_changeAll E l h n a1 a2 a3 fc a1 to a c (by omega) (by omega) (by omega) (by omega) (ht)) mmT_changeAll msT_changeAll lkT_35 rfl rfl (rfl) rfl rfl ⟨by decide, by decide⟩ ⟨by decide, by decide⟩ (Nat.le_of_ble_eq_true rfl) dT_change_16 (fun r_c w_c hp => ?_)
    obtain ⟨rfl, rfl⟩ := hp
    refine J_norm C (st' := []) (ws' := [((h), .inr (3, [.int (nI (n)), .int (nI (2 ^ n)), .ref (a1), .ref (a2), .ref (a3), .int (nI (fc))])), kI E (a1) (16) (gAp n to a c)]) (cs' := 0) (ss' := 0) rfl (rfl) rfl rfl ?_
    refine J_iconst C (v := nI (1)) dT_change_19 (by decide) ?_
    exact hret _ _ _ _ _ _ dT_change_20 (by decide) (by decide) (by decide) (⟨rfl, rfl⟩)
  · exfalso; omega
set_option maxHeartbeats 4000000 in
set_option maxRecDepth 100000 in
theorem c_T_change_n (E : jE) (l : Launch) (h : Nat) (n : Nat) (a1 : Nat) (a2 : Nat) (a3 : Nat) (fc : Nat) (to : Nat → Nat) (x : Int32) (hn1 : 1 ≤ n) (hn4 : n ≤ 4) (hx : x.toInt < 0) : Con E l yT_change bT_change 2 (some .boolean) { frames := 1, cells := 0, slots := 0, locals := 23 } [.ref (h), .int (x)] [((h), .inr (3, [.int (nI (n)), .int (nI (2 ^ n)), .ref (a1), .ref (a2), .ref (a3), .int (nI (fc))])), kI E (a1) (16) (to)] (fun r w => r = some (.int (nI 0)) ∧ w = [((h), .inr (3, [.int (nI (n)), .int (nI (2 ^ n)), .ref (a1), .ref (a2), .ref (a3), .int (nI (fc))])), kI E (a1) (16) (to)]) := by
  refine Con.ofZ (by decide) (Nat.le_of_ble_eq_true rfl) ?_
  intro J C hret
  show J 0 [(0, .ref (h)), (1, .int (x))] [] [((h), .inr (3, [.int (nI (n)), .int (nI (2 ^ n)), .ref (a1), .ref (a2), .ref (a3), .int (nI (fc))])), kI E (a1) (16) (to)] 0 0
  have hp16 := p16 hn4
  have hp1 := p1 n
  refine J_aload_n C 0 dT_change_0 rfl rfl ?_
  refine J_iload_n C 1 dT_change_1 rfl rfl ?_
  refine J_callV C (rest := []) [] [((h), .inr (3, [.int (nI (n)), .int (nI (2 ^ n)), .ref (a1), .ref (a2), .ref (a3), .int (nI (fc))]))] [kI E (a1) (16) (to)] 0 (c_T_hasGate_n E l h n a1 a2 a3 fc x (by omega) (by omega) (by omega)) mmT_hasGate msT_hasGate lkT_32 rfl rfl (rfl) rfl rfl ⟨by decide, by decide⟩ ⟨by decide, by decide⟩ (Nat.le_of_ble_eq_true rfl) dT_change_2 (fun r_c w_c hp => ?_)
  obtain ⟨rfl, rfl⟩ := hp
  refine J_norm C (st' := [.int (nI (0))]) (ws' := [((h), .inr (3, [.int (nI (n)), .int (nI (2 ^ n)), .ref (a1), .ref (a2), .ref (a3), .int (nI (fc))])), kI E (a1) (16) (to)]) (cs' := 0) (ss' := 0) rfl (rfl) rfl rfl ?_
  refine J_if_ne C 10 (nI_toInt (n := 0) (by decide)) dT_change_5 (by decide) (fun h5 => ?_) (fun h5 => ?_)
  · exfalso; omega
  · refine J_iconst C (v := nI (0)) dT_change_8 (by decide) ?_
    exact hret _ _ _ _ _ _ dT_change_9 (by decide) (by decide) (by decide) (⟨rfl, rfl⟩)
set_option maxHeartbeats 4000000 in
set_option maxRecDepth 100000 in
theorem c_T_change_f (E : jE) (l : Launch) (h : Nat) (n : Nat) (a1 : Nat) (a2 : Nat) (a3 : Nat) (fc : Nat) (to : Nat → Nat) (g : Nat) (hn1 : 1 ≤ n) (hn4 : n ≤ 4) (hg : g < 2 ^ 31) (hx : ¬ (g / 16 < n ∧ g % 16 < 2 ^ n ∧ (g % 16).testBit (g / 16) = false)) : Con E l yT_change bT_change 2 (some .boolean) { frames := 1, cells := 0, slots := 0, locals := 23 } [.ref (h), .int (nI (g))] [((h), .inr (3, [.int (nI (n)), .int (nI (2 ^ n)), .ref (a1), .ref (a2), .ref (a3), .int (nI (fc))])), kI E (a1) (16) (to)] (fun r w => r = some (.int (nI 0)) ∧ w = [((h), .inr (3, [.int (nI (n)), .int (nI (2 ^ n)), .ref (a1), .ref (a2), .ref (a3), .int (nI (fc))])), kI E (a1) (16) (to)]) := by
  refine Con.ofZ (by decide) (Nat.le_of_ble_eq_true rfl) ?_
  intro J C hret
  show J 0 [(0, .ref (h)), (1, .int (nI (g)))] [] [((h), .inr (3, [.int (nI (n)), .int (nI (2 ^ n)), .ref (a1), .ref (a2), .ref (a3), .int (nI (fc))])), kI E (a1) (16) (to)] 0 0
  have hp16 := p16 hn4
  have hp1 := p1 n
  refine J_aload_n C 0 dT_change_0 rfl rfl ?_
  refine J_iload_n C 1 dT_change_1 rfl rfl ?_
  refine J_callV C (rest := []) [] [((h), .inr (3, [.int (nI (n)), .int (nI (2 ^ n)), .ref (a1), .ref (a2), .ref (a3), .int (nI (fc))]))] [kI E (a1) (16) (to)] 0 (c_T_hasGate_f E l h n a1 a2 a3 fc g (by omega) (by omega) (by omega) (hx)) mmT_hasGate msT_hasGate lkT_32 rfl rfl (rfl) rfl rfl ⟨by decide, by decide⟩ ⟨by decide, by decide⟩ (Nat.le_of_ble_eq_true rfl) dT_change_2 (fun r_c w_c hp => ?_)
  obtain ⟨rfl, rfl⟩ := hp
  refine J_norm C (st' := [.int (nI (0))]) (ws' := [((h), .inr (3, [.int (nI (n)), .int (nI (2 ^ n)), .ref (a1), .ref (a2), .ref (a3), .int (nI (fc))])), kI E (a1) (16) (to)]) (cs' := 0) (ss' := 0) rfl (rfl) rfl rfl ?_
  refine J_if_ne C 10 (nI_toInt (n := 0) (by decide)) dT_change_5 (by decide) (fun h5 => ?_) (fun h5 => ?_)
  · exfalso; omega
  · refine J_iconst C (v := nI (0)) dT_change_8 (by decide) ?_
    exact hret _ _ _ _ _ _ dT_change_9 (by decide) (by decide) (by decide) (⟨rfl, rfl⟩)
set_option maxHeartbeats 4000000 in
set_option maxRecDepth 100000 in
theorem c_T_isPerm_t (E : jE) (l : Launch) (h : Nat) (n : Nat) (a1 : Nat) (a2 : Nat) (a3 : Nat) (fc : Nat) (to : Nat → Nat) (hn1 : 1 ≤ n) (hn4 : n ≤ 4) (ht : ∀ v, v < 2 ^ n → to v < 2 ^ n) (hq : sn to (2 ^ n) = 2 ^ 2 ^ n - 1) : Con E l yT_isPermutation bT_isPermutation 3 (some .boolean) { frames := 0, cells := 0, slots := 0, locals := 0 } [.ref (h)] [((h), .inr (3, [.int (nI (n)), .int (nI (2 ^ n)), .ref (a1), .ref (a2), .ref (a3), .int (nI (fc))])), kI E (a1) (16) (to)] (fun r w => r = some (.int (nI 1)) ∧ w = [((h), .inr (3, [.int (nI (n)), .int (nI (2 ^ n)), .ref (a1), .ref (a2), .ref (a3), .int (nI (fc))])), kI E (a1) (16) (to)]) := by
  refine Con.ofZ (by decide) (Nat.le_of_ble_eq_true rfl) ?_
  intro J C hret
  show J 0 [(0, .ref (h))] [] [((h), .inr (3, [.int (nI (n)), .int (nI (2 ^ n)), .ref (a1), .ref (a2), .ref (a3), .int (nI (fc))])), kI E (a1) (16) (to)] 0 0
  have hp16 := p16 hn4
  have hp1 := p1 n
  have hp65 := p65 hn4
  have hpp := p1 (2 ^ n)
  have hsn := sn_lt (t := to) (2 ^ n) (fun j hj => by have := ht j hj; omega)
  refine J_iconst C (v := nI (0)) dT_isPermutation_0 (by decide) ?_
  refine J_istore_n C (lv' := [(0, .ref (h)), (1, .int (nI (0)))]) [1, 0] dT_isPermutation_1 rfl (by decide) rfl ?_
  refine J_iconst C (v := nI (0)) dT_isPermutation_2 (by decide) ?_
  refine J_istore_n C (lv' := [(0, .ref (h)), (1, .int (nI (0))), (2, .int (nI (0)))]) [1, 2, 0] dT_isPermutation_3 rfl (by decide) rfl ?_
  have lp_4 : ∀ (k_4 : Nat) (i : Nat), (i ≤ 2 ^ n) → (2 ^ n - i) < k_4 → J 4 [(0, .ref (h)), (1, .int (nI (sn to i))), (2, .int (nI (i)))] [] [((h), .inr (3, [.int (nI (n)), .int (nI (2 ^ n)), .ref (a1), .ref (a2), .ref (a3), .int (nI (fc))])), kI E (a1) (16) (to)] (0) (0) := by
    intro k_4
    induction k_4 with
    | zero => intro i hi hk_4; exact absurd hk_4 (Nat.not_lt_zero _)
    | succ k_4 ih_4 =>
      intro i hi hk_4
      refine J_iload_n C 2 dT_isPermutation_4 rfl rfl ?_
      refine J_aload_n C 0 dT_isPermutation_5 rfl rfl ?_
      refine J_get C 0 1 hinT rfl rfl (by decide) fkT_25 rfl dT_isPermutation_6 ?_
      refine J_icmp_ge C 29 (nI_toInt (n := i) (by omega)) (nI_toInt (n := 2 ^ n) (by omega)) dT_isPermutation_9 (by decide) (fun h9 => ?_) (fun h9 => ?_)
      · obtain rfl : 2 ^ n = i := by omega
        refine J_iload_n C 1 dT_isPermutation_29 rfl rfl ?_
        refine J_iconst C (v := nI (1)) dT_isPermutation_30 (by decide) ?_
        refine J_aload_n C 0 dT_isPermutation_31 rfl rfl ?_
        refine J_get C 0 1 hinT rfl rfl (by decide) fkT_25 rfl dT_isPermutation_32 ?_
        refine J_ishl1 C dT_isPermutation_35 (by omega) ?_
        refine J_iconst C (v := nI (1)) dT_isPermutation_36 (by decide) ?_
        refine J_isubN C dT_isPermutation_37 (by omega) ?_
        refine J_icmp_ne C 45 (nI_toInt (n := sn to (2 ^ n)) (by omega)) (nI_toInt (n := (2 ^ (2 ^ n)) - 1) (by omega)) dT_isPermutation_38 (by decide) (fun h38 => ?_) (fun h38 => ?_)
        · exfalso; omega
        · refine J_iconst C (v := nI (1)) dT_isPermutation_41 (by decide) ?_
          refine J_goto C 46 dT_isPermutation_42 (by decide) ?_
          exact hret _ _ _ _ _ _ dT_isPermutation_46 (by decide) (by decide) (by decide) (⟨rfl, rfl⟩)
      · refine J_iload_n C 1 dT_isPermutation_12 rfl rfl ?_
        refine J_iconst C (v := nI (1)) dT_isPermutation_13 (by decide) ?_
        refine J_aload_n C 0 dT_isPermutation_14 rfl rfl ?_
        refine J_get C 0 2 hinT rfl rfl (by decide) fkT_9 rfl dT_isPermutation_15 ?_
        refine J_iload_n C 2 dT_isPermutation_18 rfl rfl ?_
        refine J_iald C 1 rfl (by omega) (by omega) dT_isPermutation_19 ?_
        refine J_ishl1 C dT_isPermutation_20 (by have := ht i (by omega); omega) ?_
        refine J_iorN C dT_isPermutation_21 ?_
        refine J_istore_n C (lv' := [(0, .ref (h)), (1, .int (nI ((sn to i) ||| (2 ^ (to i))))), (2, .int (nI (i)))]) [1, 0, 2] dT_isPermutation_22 rfl (by decide) rfl ?_
        refine J_iinc C (lv' := [(0, .ref (h)), (1, .int (nI ((sn to i) ||| (2 ^ (to i))))), (2, .int (nI (i + 1)))]) 2 [1, 2, 0] dT_isPermutation_23 rfl (jn_inc _) (by decide) rfl ?_
        refine J_goto C 4 dT_isPermutation_26 (by decide) ?_
        exact ih_4 (i + 1) (by omega) (by omega)
  exact lp_4 (2 ^ n + 1) 0 (by omega) (by omega)
set_option maxHeartbeats 4000000 in
set_option maxRecDepth 100000 in
theorem c_T_isPerm_f (E : jE) (l : Launch) (h : Nat) (n : Nat) (a1 : Nat) (a2 : Nat) (a3 : Nat) (fc : Nat) (to : Nat → Nat) (hn1 : 1 ≤ n) (hn4 : n ≤ 4) (ht : ∀ v, v < 2 ^ n → to v < 2 ^ n) (hq : sn to (2 ^ n) ≠ 2 ^ 2 ^ n - 1) : Con E l yT_isPermutation bT_isPermutation 3 (some .boolean) { frames := 0, cells := 0, slots := 0, locals := 0 } [.ref (h)] [((h), .inr (3, [.int (nI (n)), .int (nI (2 ^ n)), .ref (a1), .ref (a2), .ref (a3), .int (nI (fc))])), kI E (a1) (16) (to)] (fun r w => r = some (.int (nI 0)) ∧ w = [((h), .inr (3, [.int (nI (n)), .int (nI (2 ^ n)), .ref (a1), .ref (a2), .ref (a3), .int (nI (fc))])), kI E (a1) (16) (to)]) := by
  refine Con.ofZ (by decide) (Nat.le_of_ble_eq_true rfl) ?_
  intro J C hret
  show J 0 [(0, .ref (h))] [] [((h), .inr (3, [.int (nI (n)), .int (nI (2 ^ n)), .ref (a1), .ref (a2), .ref (a3), .int (nI (fc))])), kI E (a1) (16) (to)] 0 0
  have hp16 := p16 hn4
  have hp1 := p1 n
  have hp65 := p65 hn4
  have hpp := p1 (2 ^ n)
  have hsn := sn_lt (t := to) (2 ^ n) (fun j hj => by have := ht j hj; omega)
  refine J_iconst C (v := nI (0)) dT_isPermutation_0 (by decide) ?_
  refine J_istore_n C (lv' := [(0, .ref (h)), (1, .int (nI (0)))]) [1, 0] dT_isPermutation_1 rfl (by decide) rfl ?_
  refine J_iconst C (v := nI (0)) dT_isPermutation_2 (by decide) ?_
  refine J_istore_n C (lv' := [(0, .ref (h)), (1, .int (nI (0))), (2, .int (nI (0)))]) [1, 2, 0] dT_isPermutation_3 rfl (by decide) rfl ?_
  have lp_4 : ∀ (k_4 : Nat) (i : Nat), (i ≤ 2 ^ n) → (2 ^ n - i) < k_4 → J 4 [(0, .ref (h)), (1, .int (nI (sn to i))), (2, .int (nI (i)))] [] [((h), .inr (3, [.int (nI (n)), .int (nI (2 ^ n)), .ref (a1), .ref (a2), .ref (a3), .int (nI (fc))])), kI E (a1) (16) (to)] (0) (0) := by
    intro k_4
    induction k_4 with
    | zero => intro i hi hk_4; exact absurd hk_4 (Nat.not_lt_zero _)
    | succ k_4 ih_4 =>
      intro i hi hk_4
      refine J_iload_n C 2 dT_isPermutation_4 rfl rfl ?_
      refine J_aload_n C 0 dT_isPermutation_5 rfl rfl ?_
      refine J_get C 0 1 hinT rfl rfl (by decide) fkT_25 rfl dT_isPermutation_6 ?_
      refine J_icmp_ge C 29 (nI_toInt (n := i) (by omega)) (nI_toInt (n := 2 ^ n) (by omega)) dT_isPermutation_9 (by decide) (fun h9 => ?_) (fun h9 => ?_)
      · obtain rfl : 2 ^ n = i := by omega
        refine J_iload_n C 1 dT_isPermutation_29 rfl rfl ?_
        refine J_iconst C (v := nI (1)) dT_isPermutation_30 (by decide) ?_
        refine J_aload_n C 0 dT_isPermutation_31 rfl rfl ?_
        refine J_get C 0 1 hinT rfl rfl (by decide) fkT_25 rfl dT_isPermutation_32 ?_
        refine J_ishl1 C dT_isPermutation_35 (by omega) ?_
        refine J_iconst C (v := nI (1)) dT_isPermutation_36 (by decide) ?_
        refine J_isubN C dT_isPermutation_37 (by omega) ?_
        refine J_icmp_ne C 45 (nI_toInt (n := sn to (2 ^ n)) (by omega)) (nI_toInt (n := (2 ^ (2 ^ n)) - 1) (by omega)) dT_isPermutation_38 (by decide) (fun h38 => ?_) (fun h38 => ?_)
        · refine J_iconst C (v := nI (0)) dT_isPermutation_45 (by decide) ?_
          exact hret _ _ _ _ _ _ dT_isPermutation_46 (by decide) (by decide) (by decide) (⟨rfl, rfl⟩)
        · exfalso; omega
      · refine J_iload_n C 1 dT_isPermutation_12 rfl rfl ?_
        refine J_iconst C (v := nI (1)) dT_isPermutation_13 (by decide) ?_
        refine J_aload_n C 0 dT_isPermutation_14 rfl rfl ?_
        refine J_get C 0 2 hinT rfl rfl (by decide) fkT_9 rfl dT_isPermutation_15 ?_
        refine J_iload_n C 2 dT_isPermutation_18 rfl rfl ?_
        refine J_iald C 1 rfl (by omega) (by omega) dT_isPermutation_19 ?_
        refine J_ishl1 C dT_isPermutation_20 (by have := ht i (by omega); omega) ?_
        refine J_iorN C dT_isPermutation_21 ?_
        refine J_istore_n C (lv' := [(0, .ref (h)), (1, .int (nI ((sn to i) ||| (2 ^ (to i))))), (2, .int (nI (i)))]) [1, 0, 2] dT_isPermutation_22 rfl (by decide) rfl ?_
        refine J_iinc C (lv' := [(0, .ref (h)), (1, .int (nI ((sn to i) ||| (2 ^ (to i))))), (2, .int (nI (i + 1)))]) 2 [1, 2, 0] dT_isPermutation_23 rfl (jn_inc _) (by decide) rfl ?_
        refine J_goto C 4 dT_isPermutation_26 (by decide) ?_
        exact ih_4 (i + 1) (by omega) (by omega)
  exact lp_4 (2 ^ n + 1) 0 (by omega) (by omega)
set_option maxHeartbeats 4000000 in
set_option maxRecDepth 100000 in
theorem c_T_useGate (E : jE) (l : Launch) (h : Nat) (n : Nat) (a1 : Nat) (a2 : Nat) (a3 : Nat) (s : gS) (F : Nat → Nat) (a : Nat) (c : Nat) (hn1 : 1 ≤ n) (hn4 : n ≤ 4) (hok : gOk n s.1) (hF : gL F s.2) (ha : a < n) (hc : c < 2 ^ n) (hlen : s.2.length < 64) : Con E l yT_useGate bT_useGate 2 none { frames := 1, cells := 0, slots := 0, locals := 25 } [.ref (h), .int (nI (16 * a + c))] [((h), .inr (3, [.int (nI (n)), .int (nI (2 ^ n)), .ref (a1), .ref (a2), .ref (a3), .int (nI (s.2.length))])), kI E (a2) (16) (s.1), kI E (a3) (64) (F)] (fun r w => ∃ F' : Nat → Nat, r = none ∧ gL F' (gU n s a c).2 ∧ w = [((h), .inr (3, [.int (nI (n)), .int (nI (2 ^ n)), .ref (a1), .ref (a2), .ref (a3), .int (nI ((gU n s a c).2.length))])), kI E (a2) (16) ((gU n s a c).1), kI E (a3) (64) (F')]) := by
  refine Con.ofV (by decide) (Nat.le_of_ble_eq_true rfl) ?_
  intro J C hret
  show J 0 [(0, .ref (h)), (1, .int (nI (16 * a + c)))] [] [((h), .inr (3, [.int (nI (n)), .int (nI (2 ^ n)), .ref (a1), .ref (a2), .ref (a3), .int (nI (s.2.length))])), kI E (a2) (16) (s.1), kI E (a3) (64) (F)] 0 0
  have hp16 := p16 hn4
  have hp1 := p1 n
  refine J_aload_n C 0 dT_useGate_0 rfl rfl ?_
  refine J_aload_n C 0 dT_useGate_1 rfl rfl ?_
  refine J_get C 0 3 hinT rfl rfl (by decide) fkT_15 rfl dT_useGate_2 ?_
  refine J_iload_n C 1 dT_useGate_5 rfl rfl ?_
  refine J_callV C (rest := []) [] [((h), .inr (3, [.int (nI (n)), .int (nI (2 ^ n)), .ref (a1), .ref (a2), .ref (a3), .int (nI (s.2.length))])), kI E (a2) (16) (s.1)] [kI E (a3) (64) (F)] 0 (c_T_changeAll E l h n a1 a2 a3 s.2.length a2 s.1 a c (by omega) (by omega) (by omega) (by omega) (hok)) mmT_changeAll msT_changeAll lkT_35 rfl rfl (rfl) rfl rfl ⟨by decide, by decide⟩ ⟨by decide, by decide⟩ (Nat.le_of_ble_eq_true rfl) dT_useGate_6 (fun r_c w_c hp => ?_)
  obtain ⟨rfl, rfl⟩ := hp
  refine J_norm C (st' := []) (ws' := [((h), .inr (3, [.int (nI (n)), .int (nI (2 ^ n)), .ref (a1), .ref (a2), .ref (a3), .int (nI (s.2.length))])), kI E (a2) (16) (gAp n s.1 a c), kI E (a3) (64) (F)]) (cs' := 0) (ss' := 0) rfl (rfl) rfl rfl ?_
  refine J_aload_n C 0 dT_useGate_9 rfl rfl ?_
  refine J_get C 0 5 hinT rfl rfl (by decide) fkT_39 rfl dT_useGate_10 ?_
  refine J_bipush C (v := nI (64)) dT_useGate_13 (by decide) ?_
  refine J_icmp_ge C 38 (nI_toInt (n := s.2.length) (by omega)) (nI_toInt (n := 64) (by decide)) dT_useGate_15 (by decide) (fun h15 => ?_) (fun h15 => ?_)
  · exfalso; omega
  · refine J_aload_n C 0 dT_useGate_18 rfl rfl ?_
    refine J_get C 0 4 hinT rfl rfl (by decide) fkT_18 rfl dT_useGate_19 ?_
    refine J_aload_n C 0 dT_useGate_22 rfl rfl ?_
    refine J_get C 0 5 hinT rfl rfl (by decide) fkT_39 rfl dT_useGate_23 ?_
    refine J_iload_n C 1 dT_useGate_26 rfl rfl ?_
    refine J_iastN C (ws' := [((h), .inr (3, [.int (nI (n)), .int (nI (2 ^ n)), .ref (a1), .ref (a2), .ref (a3), .int (nI (s.2.length))])), kI E (a2) (16) (gAp n s.1 a c), kI E (a3) (64) (upN F s.2.length (16 * a + c))]) 2 rfl (by omega) (by omega) dT_useGate_27 rfl ?_
    refine J_aload_n C 0 dT_useGate_28 rfl rfl ?_
    refine J_dup C dT_useGate_29 rfl ?_
    refine J_get C 0 5 hinT rfl rfl (by decide) fkT_39 rfl dT_useGate_30 ?_
    refine J_iconst C (v := nI (1)) dT_useGate_33 (by decide) ?_
    refine J_iaddN C dT_useGate_34 ?_
    refine J_put C (ws' := [((h), .inr (3, [.int (nI (n)), .int (nI (2 ^ n)), .ref (a1), .ref (a2), .ref (a3), .int (nI (s.2.length + 1))])), kI E (a2) (16) (gAp n s.1 a c), kI E (a3) (64) (upN F s.2.length (16 * a + c))]) 0 5 tyT hinT tyokT nmT rfl rfl (by decide) fkT_39 rfl rfl rfl (Nat.le_of_ble_eq_true rfl) dT_useGate_35 rfl ?_
    exact hret _ _ _ _ _ dT_useGate_38 (by decide) (by decide) (⟨_, rfl, gL_push hF, by simp [gU]⟩)
set_option maxHeartbeats 4000000 in
set_option maxRecDepth 100000 in
theorem c_T_settleRow (E : jE) (l : Launch) (h : Nat) (n : Nat) (a1 : Nat) (a2 : Nat) (a3 : Nat) (s : gS) (F : Nat → Nat) (v : Nat) (hn1 : 1 ≤ n) (hn4 : n ≤ 4) (hok : gOk n s.1) (hF : gL F s.2) (hv : v < 2 ^ n) (hlen : s.2.length + n ≤ 64) : Con E l yT_settleRow bT_settleRow 3 none { frames := 2, cells := 0, slots := 0, locals := 46 } [.ref (h), .int (nI (v))] [((h), .inr (3, [.int (nI (n)), .int (nI (2 ^ n)), .ref (a1), .ref (a2), .ref (a3), .int (nI (s.2.length))])), kI E (a2) (16) (s.1), kI E (a3) (64) (F)] (fun r w => ∃ F' : Nat → Nat, r = none ∧ gL F' (gRow n v s).2 ∧ w = [((h), .inr (3, [.int (nI (n)), .int (nI (2 ^ n)), .ref (a1), .ref (a2), .ref (a3), .int (nI ((gRow n v s).2.length))])), kI E (a2) (16) ((gRow n v s).1), kI E (a3) (64) (F')]) := by
  refine Con.ofV (by decide) (Nat.le_of_ble_eq_true rfl) ?_
  intro J C hret
  show J 0 [(0, .ref (h)), (1, .int (nI (v)))] [] [((h), .inr (3, [.int (nI (n)), .int (nI (2 ^ n)), .ref (a1), .ref (a2), .ref (a3), .int (nI (s.2.length))])), kI E (a2) (16) (s.1), kI E (a3) (64) (F)] 0 0
  have hp16 := p16 hn4
  have hp1 := p1 n
  refine J_iconst C (v := nI (0)) dT_settleRow_0 (by decide) ?_
  refine J_istore_n C (lv' := [(0, .ref (h)), (1, .int (nI (v))), (2, .int (nI (0)))]) [1, 2, 0] dT_settleRow_1 rfl (by decide) rfl ?_
  have lp_2 : ∀ (k_2 : Nat) (a : Nat) (F2 : Nat → Nat), (a ≤ n) → (gL F2 (g1 n v a s).2) → (n - a) < k_2 → J 2 [(0, .ref (h)), (1, .int (nI (v))), (2, .int (nI (a)))] [] [((h), .inr (3, [.int (nI (n)), .int (nI (2 ^ n)), .ref (a1), .ref (a2), .ref (a3), .int (nI ((g1 n v a s).2.length))])), kI E (a2) (16) ((g1 n v a s).1), kI E (a3) (64) (F2)] (0) (0) := by
    intro k_2
    induction k_2 with
    | zero => intro a F2 hi hF2 hk_2; exact absurd hk_2 (Nat.not_lt_zero _)
    | succ k_2 ih_2 =>
      intro a F2 hi hF2 hk_2
      have ok1 := g1_ok (v := v) hok a hi
      have ln1 := g1_len (n := n) (v := v) (s := s) a
      have bl1 := bcn_le a v
      refine J_iload_n C 2 dT_settleRow_2 rfl rfl ?_
      refine J_aload_n C 0 dT_settleRow_3 rfl rfl ?_
      refine J_get C 0 0 hinT rfl rfl (by decide) fkT_21 rfl dT_settleRow_4 ?_
      refine J_icmp_ge C 47 (nI_toInt (n := a) (by omega)) (nI_toInt (n := n) (by omega)) dT_settleRow_7 (by decide) (fun h7 => ?_) (fun h7 => ?_)
      · obtain rfl : n = a := by omega
        refine J_iconst C (v := nI (0)) dT_settleRow_47 (by decide) ?_
        refine J_istore_n C (lv' := [(0, .ref (h)), (1, .int (nI (v))), (2, .int (nI (0)))]) [1, 2, 0] dT_settleRow_48 rfl (by decide) rfl ?_
        have lp_49 : ∀ (k_49 : Nat) (a : Nat) (F2 : Nat → Nat), (a ≤ n) → (gL F2 (g2 n v a (g1 n v n s)).2) → (n - a) < k_49 → J 49 [(0, .ref (h)), (1, .int (nI (v))), (2, .int (nI (a)))] [] [((h), .inr (3, [.int (nI (n)), .int (nI (2 ^ n)), .ref (a1), .ref (a2), .ref (a3), .int (nI ((g2 n v a (g1 n v n s)).2.length))])), kI E (a2) (16) ((g2 n v a (g1 n v n s)).1), kI E (a3) (64) (F2)] (0) (0) := by
          intro k_49
          induction k_49 with
          | zero => intro a F2 hi hF2 hk_49; exact absurd hk_49 (Nat.not_lt_zero _)
          | succ k_49 ih_49 =>
            intro a F2 hi hF2 hk_49
            have ok1 := g2_ok (v := v) (g1_ok (v := v) hok n (Nat.le_refl n)) a hi
            have ln2 := g2_len (n := n) (v := v) (s := g1 n v n s) a
            have ln1 := g1_len (n := n) (v := v) (s := s) n
            have bl1 := bcn_le a v
            refine J_iload_n C 2 dT_settleRow_49 rfl rfl ?_
            refine J_aload_n C 0 dT_settleRow_50 rfl rfl ?_
            refine J_get C 0 0 hinT rfl rfl (by decide) fkT_21 rfl dT_settleRow_51 ?_
            refine J_icmp_ge C 89 (nI_toInt (n := a) (by omega)) (nI_toInt (n := n) (by omega)) dT_settleRow_54 (by decide) (fun h54 => ?_) (fun h54 => ?_)
            · obtain rfl : n = a := by omega
              exact hret _ _ _ _ _ dT_settleRow_89 (by decide) (by decide) (⟨F2, rfl, hF2, rfl⟩)
            · refine J_aload_n C 0 dT_settleRow_57 rfl rfl ?_
              refine J_get C 0 3 hinT rfl rfl (by decide) fkT_15 rfl dT_settleRow_58 ?_
              refine J_iload_n C 1 dT_settleRow_61 rfl rfl ?_
              refine J_iald C 1 rfl (by omega) (by omega) dT_settleRow_62 ?_
              refine J_iload_n C 1 dT_settleRow_63 rfl rfl ?_
              refine J_iconst C (v := -1) dT_settleRow_64 (by decide) ?_
              refine J_ixor C dT_settleRow_65 ?_
              refine J_iand C dT_settleRow_66 ?_
              refine J_iconst C (v := nI (1)) dT_settleRow_67 (by decide) ?_
              refine J_iload_n C 2 dT_settleRow_68 rfl rfl ?_
              refine J_ishl1 C dT_settleRow_69 (by omega) ?_
              refine J_iand C dT_settleRow_70 ?_
              refine J_topX C (x' := nI (if ((g2 n v a (g1 n v n s)).1 v).testBit a = true ∧ v.testBit a = false then 2 ^ a else 0)) (bit_not _ (by have := ok1 v hv; omega) v (by omega) a (by omega)) ?_
              refine J_if_eq C 83 (nI_toInt (n := if ((g2 n v a (g1 n v n s)).1 v).testBit a = true ∧ v.testBit a = false then 2 ^ a else 0) (if_two_lt (by omega))) dT_settleRow_71 (by decide) (fun h71 => ?_) (fun h71 => ?_)
              · have e := g2_f (if_two_eq h71)
                refine J_iinc C (lv' := [(0, .ref (h)), (1, .int (nI (v))), (2, .int (nI (a + 1)))]) 2 [1, 2, 0] dT_settleRow_83 rfl (jn_inc _) (by decide) rfl ?_
                refine J_goto C 49 dT_settleRow_86 (by decide) ?_
                rw [← e]
                rw [← e] at hF2
                exact ih_49 (a + 1) F2 (by omega) (hF2) (by omega)
              · have hc71 := if_two_ne h71
                refine J_aload_n C 0 dT_settleRow_74 rfl rfl ?_
                refine J_iload_n C 2 dT_settleRow_75 rfl rfl ?_
                refine J_iconst C (v := nI (4)) dT_settleRow_76 (by decide) ?_
                refine J_ishlN C dT_settleRow_77 (by omega) ?_
                refine J_iload_n C 1 dT_settleRow_78 rfl rfl ?_
                refine J_iorN C dT_settleRow_79 ?_
                refine J_topN C (n' := 16 * a + v) ((gate_num a (by omega) v (by omega)).1) ?_
                refine J_callV C (rest := []) [] [((h), .inr (3, [.int (nI (n)), .int (nI (2 ^ n)), .ref (a1), .ref (a2), .ref (a3), .int (nI ((g2 n v a (g1 n v n s)).2.length))])), kI E (a2) (16) ((g2 n v a (g1 n v n s)).1), kI E (a3) (64) (F2)] [] 0 (c_T_useGate E l h n a1 a2 a3 (g2 n v a (g1 n v n s)) F2 a v (by omega) (by omega) (ok1) (hF2) (by omega) (by omega) (by have := bcn_gap (v := v) (n := n) (a := a) (by omega) hc71.2; omega)) mmT_useGate msT_useGate lkT_46 rfl rfl (rfl) rfl rfl ⟨by decide, by decide⟩ ⟨by decide, by decide⟩ (Nat.le_of_ble_eq_true rfl) dT_settleRow_80 (fun r_c w_c hp => ?_)
                obtain ⟨F1_1, rfl, hF1, rfl⟩ := hp
                refine J_norm C (st' := []) (ws' := [((h), .inr (3, [.int (nI (n)), .int (nI (2 ^ n)), .ref (a1), .ref (a2), .ref (a3), .int (nI ((gU n (g2 n v a (g1 n v n s)) a v).2.length))])), kI E (a2) (16) ((gU n (g2 n v a (g1 n v n s)) a v).1), kI E (a3) (64) (F1_1)]) (cs' := 0) (ss' := 0) rfl (rfl) rfl rfl ?_
                have e := g2_t hc71
                refine J_iinc C (lv' := [(0, .ref (h)), (1, .int (nI (v))), (2, .int (nI (a + 1)))]) 2 [1, 2, 0] dT_settleRow_83 rfl (jn_inc _) (by decide) rfl ?_
                refine J_goto C 49 dT_settleRow_86 (by decide) ?_
                rw [← e]
                rw [← e] at hF1
                exact ih_49 (a + 1) F1_1 (by omega) (hF1) (by omega)
        exact lp_49 (n + 1) 0 F2 (by omega) (hF2) (by omega)
      · refine J_iload_n C 1 dT_settleRow_10 rfl rfl ?_
        refine J_aload_n C 0 dT_settleRow_11 rfl rfl ?_
        refine J_get C 0 3 hinT rfl rfl (by decide) fkT_15 rfl dT_settleRow_12 ?_
        refine J_iload_n C 1 dT_settleRow_15 rfl rfl ?_
        refine J_iald C 1 rfl (by omega) (by omega) dT_settleRow_16 ?_
        refine J_iconst C (v := -1) dT_settleRow_17 (by decide) ?_
        refine J_ixor C dT_settleRow_18 ?_
        refine J_iand C dT_settleRow_19 ?_
        refine J_iconst C (v := nI (1)) dT_settleRow_20 (by decide) ?_
        refine J_iload_n C 2 dT_settleRow_21 rfl rfl ?_
        refine J_ishl1 C dT_settleRow_22 (by omega) ?_
        refine J_iand C dT_settleRow_23 ?_
        refine J_topX C (x' := nI (if v.testBit a = true ∧ ((g1 n v a s).1 v).testBit a = false then 2 ^ a else 0)) (bit_not v (by omega) _ (by have := ok1 v hv; omega) a (by omega)) ?_
        refine J_if_eq C 41 (nI_toInt (n := if v.testBit a = true ∧ ((g1 n v a s).1 v).testBit a = false then 2 ^ a else 0) (if_two_lt (by omega))) dT_settleRow_24 (by decide) (fun h24 => ?_) (fun h24 => ?_)
        · have e := g1_f (if_two_eq h24)
          refine J_iinc C (lv' := [(0, .ref (h)), (1, .int (nI (v))), (2, .int (nI (a + 1)))]) 2 [1, 2, 0] dT_settleRow_41 rfl (jn_inc _) (by decide) rfl ?_
          refine J_goto C 2 dT_settleRow_44 (by decide) ?_
          rw [← e]
          rw [← e] at hF2
          exact ih_2 (a + 1) F2 (by omega) (hF2) (by omega)
        · have hc24 := if_two_ne h24
          refine J_aload_n C 0 dT_settleRow_27 rfl rfl ?_
          refine J_iload_n C 2 dT_settleRow_28 rfl rfl ?_
          refine J_iconst C (v := nI (4)) dT_settleRow_29 (by decide) ?_
          refine J_ishlN C dT_settleRow_30 (by omega) ?_
          refine J_aload_n C 0 dT_settleRow_31 rfl rfl ?_
          refine J_get C 0 3 hinT rfl rfl (by decide) fkT_15 rfl dT_settleRow_32 ?_
          refine J_iload_n C 1 dT_settleRow_35 rfl rfl ?_
          refine J_iald C 1 rfl (by omega) (by omega) dT_settleRow_36 ?_
          refine J_iorN C dT_settleRow_37 ?_
          refine J_topN C (n' := 16 * a + (g1 n v a s).1 v) ((gate_num a (by omega) _ (by have := ok1 v hv; omega)).1) ?_
          refine J_callV C (rest := []) [] [((h), .inr (3, [.int (nI (n)), .int (nI (2 ^ n)), .ref (a1), .ref (a2), .ref (a3), .int (nI ((g1 n v a s).2.length))])), kI E (a2) (16) ((g1 n v a s).1), kI E (a3) (64) (F2)] [] 0 (c_T_useGate E l h n a1 a2 a3 (g1 n v a s) F2 a ((g1 n v a s).1 v) (by omega) (by omega) (ok1) (hF2) (by omega) (ok1 v hv) (by omega)) mmT_useGate msT_useGate lkT_46 rfl rfl (rfl) rfl rfl ⟨by decide, by decide⟩ ⟨by decide, by decide⟩ (Nat.le_of_ble_eq_true rfl) dT_settleRow_38 (fun r_c w_c hp => ?_)
          obtain ⟨F1_2, rfl, hF1, rfl⟩ := hp
          refine J_norm C (st' := []) (ws' := [((h), .inr (3, [.int (nI (n)), .int (nI (2 ^ n)), .ref (a1), .ref (a2), .ref (a3), .int (nI ((gU n (g1 n v a s) a ((g1 n v a s).1 v)).2.length))])), kI E (a2) (16) ((gU n (g1 n v a s) a ((g1 n v a s).1 v)).1), kI E (a3) (64) (F1_2)]) (cs' := 0) (ss' := 0) rfl (rfl) rfl rfl ?_
          have e := g1_t hc24
          refine J_iinc C (lv' := [(0, .ref (h)), (1, .int (nI (v))), (2, .int (nI (a + 1)))]) 2 [1, 2, 0] dT_settleRow_41 rfl (jn_inc _) (by decide) rfl ?_
          refine J_goto C 2 dT_settleRow_44 (by decide) ?_
          rw [← e]
          rw [← e] at hF1
          exact ih_2 (a + 1) F1_2 (by omega) (hF1) (by omega)
  exact lp_2 (n + 1) 0 F (by omega) (hF) (by omega)
set_option maxHeartbeats 4000000 in
set_option maxRecDepth 100000 in
theorem c_T_findGates (E : jE) (l : Launch) (h : Nat) (n : Nat) (a1 : Nat) (a2 : Nat) (a3 : Nat) (fc : Nat) (to : Nat → Nat) (rs : Nat → Nat) (fd : Nat → Nat) (hn1 : 1 ≤ n) (hn4 : n ≤ 4) (ht : ∀ v, v < 2 ^ n → to v < 2 ^ n) : Con E l yT_findGates bT_findGates 2 (some .int) { frames := 3, cells := 0, slots := 0, locals := 68 } [.ref (h)] [((h), .inr (3, [.int (nI (n)), .int (nI (2 ^ n)), .ref (a1), .ref (a2), .ref (a3), .int (nI (fc))])), kI E (a1) (16) (to), kI E (a2) (16) (rs), kI E (a3) (64) (fd)] (fun r w => ∃ (f F : Nat → Nat), r = some (.int (nI (gts n to).length)) ∧ gL F (gts n to) ∧ w = [((h), .inr (3, [.int (nI (n)), .int (nI (2 ^ n)), .ref (a1), .ref (a2), .ref (a3), .int (nI ((gts n to).length))])), kI E (a1) (16) (to), kI E (a2) (16) (f), kI E (a3) (64) (F)]) := by
  refine Con.ofI (by decide) (Nat.le_of_ble_eq_true rfl) ?_
  intro J C hret
  show J 0 [(0, .ref (h))] [] [((h), .inr (3, [.int (nI (n)), .int (nI (2 ^ n)), .ref (a1), .ref (a2), .ref (a3), .int (nI (fc))])), kI E (a1) (16) (to), kI E (a2) (16) (rs), kI E (a3) (64) (fd)] 0 0
  have hp16 := p16 hn4
  have hp1 := p1 n
  refine J_aload_n C 0 dT_findGates_0 rfl rfl ?_
  refine J_iconst C (v := nI (0)) dT_findGates_1 (by decide) ?_
  refine J_put C (ws' := [((h), .inr (3, [.int (nI (n)), .int (nI (2 ^ n)), .ref (a1), .ref (a2), .ref (a3), .int (nI (0))])), kI E (a1) (16) (to), kI E (a2) (16) (rs), kI E (a3) (64) (fd)]) 0 5 tyT hinT tyokT nmT rfl rfl (by decide) fkT_39 rfl rfl rfl (Nat.le_of_ble_eq_true rfl) dT_findGates_2 rfl ?_
  refine J_iconst C (v := nI (0)) dT_findGates_5 (by decide) ?_
  refine J_istore_n C (lv' := [(0, .ref (h)), (1, .int (nI (0)))]) [1, 0] dT_findGates_6 rfl (by decide) rfl ?_
  have lp_7 : ∀ (k_7 : Nat) (i : Nat) (f : Nat → Nat), (i ≤ 2 ^ n) → (∀ j, f j = if j < i then to j else rs j) → (2 ^ n - i) < k_7 → J 7 [(0, .ref (h)), (1, .int (nI (i)))] [] [((h), .inr (3, [.int (nI (n)), .int (nI (2 ^ n)), .ref (a1), .ref (a2), .ref (a3), .int (nI (0))])), kI E (a1) (16) (to), kI E (a2) (16) (f), kI E (a3) (64) (fd)] (0) (0) := by
    intro k_7
    induction k_7 with
    | zero => intro i f hi hf hk_7; exact absurd hk_7 (Nat.not_lt_zero _)
    | succ k_7 ih_7 =>
      intro i f hi hf hk_7
      refine J_iload_n C 1 dT_findGates_7 rfl rfl ?_
      refine J_aload_n C 0 dT_findGates_8 rfl rfl ?_
      refine J_get C 0 1 hinT rfl rfl (by decide) fkT_25 rfl dT_findGates_9 ?_
      refine J_icmp_ge C 33 (nI_toInt (n := i) (by omega)) (nI_toInt (n := 2 ^ n) (by omega)) dT_findGates_12 (by decide) (fun h12 => ?_) (fun h12 => ?_)
      · obtain rfl : 2 ^ n = i := by omega
        refine J_iconst C (v := nI (0)) dT_findGates_33 (by decide) ?_
        refine J_istore_n C (lv' := [(0, .ref (h)), (1, .int (nI (0)))]) [1, 0] dT_findGates_34 rfl (by decide) rfl ?_
        have lp_35 : ∀ (k_35 : Nat) (v : Nat) (F2 : Nat → Nat), (v ≤ 2 ^ n) → (gL F2 (gRows n v (f, [])).2) → (2 ^ n - v) < k_35 → J 35 [(0, .ref (h)), (1, .int (nI (v)))] [] [((h), .inr (3, [.int (nI (n)), .int (nI (2 ^ n)), .ref (a1), .ref (a2), .ref (a3), .int (nI ((gRows n v (f, [])).2.length))])), kI E (a1) (16) (to), kI E (a2) (16) ((gRows n v (f, [])).1), kI E (a3) (64) (F2)] (0) (0) := by
          intro k_35
          induction k_35 with
          | zero => intro v F2 hv hF2 hk_35; exact absurd hk_35 (Nat.not_lt_zero _)
          | succ k_35 ih_35 =>
            intro v F2 hv hF2 hk_35
            have okr := gRows_ok (n := n) (s := (f, [])) (fun j hj => by have q := hf j; rw [if_pos hj] at q; show f j < _; rw [q]; exact ht j hj) v
            have lnr := gRows_len (n := n) (s := (f, [])) v
            have ml := Nat.mul_le_mul hn4 hp16
            refine J_iload_n C 1 dT_findGates_35 rfl rfl ?_
            refine J_aload_n C 0 dT_findGates_36 rfl rfl ?_
            refine J_get C 0 1 hinT rfl rfl (by decide) fkT_25 rfl dT_findGates_37 ?_
            refine J_icmp_ge C 54 (nI_toInt (n := v) (by omega)) (nI_toInt (n := 2 ^ n) (by omega)) dT_findGates_40 (by decide) (fun h40 => ?_) (fun h40 => ?_)
            · obtain rfl : 2 ^ n = v := by omega
              have eg := gts_of (n := n) (t := to) (f := f) (fun j hj => by rw [hf j, if_pos hj])
              refine J_aload_n C 0 dT_findGates_54 rfl rfl ?_
              refine J_get C 0 5 hinT rfl rfl (by decide) fkT_39 rfl dT_findGates_55 ?_
              exact hret _ _ _ _ _ _ dT_findGates_58 (by decide) (by decide) (⟨_, F2, by rw [← eg], by rw [← eg]; exact hF2, by rw [← eg]⟩)
            · have m2 : n * v + n ≤ n * 2 ^ n := by rw [← Nat.mul_succ]; exact Nat.mul_le_mul_left n (by omega)
              simp only [List.length_nil] at lnr
              refine J_aload_n C 0 dT_findGates_43 rfl rfl ?_
              refine J_iload_n C 1 dT_findGates_44 rfl rfl ?_
              refine J_pick C (ws' := [((h), .inr (3, [.int (nI (n)), .int (nI (2 ^ n)), .ref (a1), .ref (a2), .ref (a3), .int (nI ((gRows n v (f, [])).2.length))])), kI E (a2) (16) ((gRows n v (f, [])).1), kI E (a3) (64) (F2), kI E (a1) (16) (to)]) [0, 2, 3, 1] (by decide) rfl ?_
              refine J_callV C (rest := []) [] [((h), .inr (3, [.int (nI (n)), .int (nI (2 ^ n)), .ref (a1), .ref (a2), .ref (a3), .int (nI ((gRows n v (f, [])).2.length))])), kI E (a2) (16) ((gRows n v (f, [])).1), kI E (a3) (64) (F2)] [kI E (a1) (16) (to)] 0 (c_T_settleRow E l h n a1 a2 a3 (gRows n v (f, [])) F2 v (by omega) (by omega) (okr) (hF2) (by omega) (by omega)) mmT_settleRow msT_settleRow lkT_42 rfl rfl (rfl) rfl rfl ⟨by decide, by decide⟩ ⟨by decide, by decide⟩ (Nat.le_of_ble_eq_true rfl) dT_findGates_45 (fun r_c w_c hp => ?_)
              obtain ⟨F1, rfl, hF1, rfl⟩ := hp
              refine J_norm C (st' := []) (ws' := [((h), .inr (3, [.int (nI (n)), .int (nI (2 ^ n)), .ref (a1), .ref (a2), .ref (a3), .int (nI ((gRow n v (gRows n v (f, []))).2.length))])), kI E (a2) (16) ((gRow n v (gRows n v (f, []))).1), kI E (a3) (64) (F1), kI E (a1) (16) (to)]) (cs' := 0) (ss' := 0) rfl (rfl) rfl rfl ?_
              refine J_pick C (ws' := [((h), .inr (3, [.int (nI (n)), .int (nI (2 ^ n)), .ref (a1), .ref (a2), .ref (a3), .int (nI ((gRow n v (gRows n v (f, []))).2.length))])), kI E (a1) (16) (to), kI E (a2) (16) ((gRow n v (gRows n v (f, []))).1), kI E (a3) (64) (F1)]) [0, 3, 1, 2] (by decide) rfl ?_
              refine J_iinc C (lv' := [(0, .ref (h)), (1, .int (nI (v + 1)))]) 1 [1, 0] dT_findGates_48 rfl (jn_inc _) (by decide) rfl ?_
              refine J_goto C 35 dT_findGates_51 (by decide) ?_
              exact ih_35 (v + 1) F1 (by omega) (hF1) (by omega)
        exact lp_35 (2 ^ n + 1) 0 fd (by omega) (gL_nil _) (by omega)
      · refine J_aload_n C 0 dT_findGates_15 rfl rfl ?_
        refine J_get C 0 3 hinT rfl rfl (by decide) fkT_15 rfl dT_findGates_16 ?_
        refine J_iload_n C 1 dT_findGates_19 rfl rfl ?_
        refine J_aload_n C 0 dT_findGates_20 rfl rfl ?_
        refine J_get C 0 2 hinT rfl rfl (by decide) fkT_9 rfl dT_findGates_21 ?_
        refine J_iload_n C 1 dT_findGates_24 rfl rfl ?_
        refine J_iald C 1 rfl (by omega) (by omega) dT_findGates_25 ?_
        refine J_iastN C (ws' := [((h), .inr (3, [.int (nI (n)), .int (nI (2 ^ n)), .ref (a1), .ref (a2), .ref (a3), .int (nI (0))])), kI E (a1) (16) (to), kI E (a2) (16) (upN f i (to i)), kI E (a3) (64) (fd)]) 2 rfl (by omega) (by omega) dT_findGates_26 rfl ?_
        refine J_iinc C (lv' := [(0, .ref (h)), (1, .int (nI (i + 1)))]) 1 [1, 0] dT_findGates_27 rfl (jn_inc _) (by decide) rfl ?_
        refine J_goto C 7 dT_findGates_30 (by decide) ?_
        exact ih_7 (i + 1) (upN f i (to i)) (by omega) (cp_s hf) (by omega)
  exact lp_7 (2 ^ n + 1) 0 rs (by omega) (by intro j; simp) (by omega)
set_option maxHeartbeats 4000000 in
set_option maxRecDepth 100000 in
theorem c_T_ffl_t (E : jE) (l : Launch) (h : Nat) (n : Nat) (a1 : Nat) (a2 : Nat) (a3 : Nat) (fc : Nat) (fd : Nat → Nat) (k : Nat) (hfc : fc ≤ 64) (hk : k < fc) : Con E l yT_foundFromLast bT_foundFromLast 2 (some .int) { frames := 0, cells := 0, slots := 0, locals := 0 } [.ref (h), .int (nI (k))] [((h), .inr (3, [.int (nI (n)), .int (nI (2 ^ n)), .ref (a1), .ref (a2), .ref (a3), .int (nI (fc))])), kI E (a3) (64) (fd)] (fun r w => r = some (.int (nI (fd (fc - 1 - k)))) ∧ w = [((h), .inr (3, [.int (nI (n)), .int (nI (2 ^ n)), .ref (a1), .ref (a2), .ref (a3), .int (nI (fc))])), kI E (a3) (64) (fd)]) := by
  refine Con.ofI (by decide) (Nat.le_of_ble_eq_true rfl) ?_
  intro J C hret
  show J 0 [(0, .ref (h)), (1, .int (nI (k)))] [] [((h), .inr (3, [.int (nI (n)), .int (nI (2 ^ n)), .ref (a1), .ref (a2), .ref (a3), .int (nI (fc))])), kI E (a3) (64) (fd)] 0 0
  refine J_iload_n C 1 dT_foundFromLast_0 rfl rfl ?_
  refine J_if_lt C 28 (nI_toInt (n := k) (by omega)) dT_foundFromLast_1 (by decide) (fun h1 => ?_) (fun h1 => ?_)
  · exfalso; omega
  · refine J_iload_n C 1 dT_foundFromLast_4 rfl rfl ?_
    refine J_aload_n C 0 dT_foundFromLast_5 rfl rfl ?_
    refine J_get C 0 5 hinT rfl rfl (by decide) fkT_39 rfl dT_foundFromLast_6 ?_
    refine J_icmp_ge C 28 (nI_toInt (n := k) (by omega)) (nI_toInt (n := fc) (by omega)) dT_foundFromLast_9 (by decide) (fun h9 => ?_) (fun h9 => ?_)
    · exfalso; omega
    · refine J_aload_n C 0 dT_foundFromLast_12 rfl rfl ?_
      refine J_get C 0 4 hinT rfl rfl (by decide) fkT_18 rfl dT_foundFromLast_13 ?_
      refine J_aload_n C 0 dT_foundFromLast_16 rfl rfl ?_
      refine J_get C 0 5 hinT rfl rfl (by decide) fkT_39 rfl dT_foundFromLast_17 ?_
      refine J_iconst C (v := nI (1)) dT_foundFromLast_20 (by decide) ?_
      refine J_isubN C dT_foundFromLast_21 (by omega) ?_
      refine J_iload_n C 1 dT_foundFromLast_22 rfl rfl ?_
      refine J_isubN C dT_foundFromLast_23 (by omega) ?_
      refine J_iald C 1 rfl (by omega) (by omega) dT_foundFromLast_24 ?_
      refine J_goto C 29 dT_foundFromLast_25 (by decide) ?_
      exact hret _ _ _ _ _ _ dT_foundFromLast_29 (by decide) (by decide) (⟨rfl, rfl⟩)
set_option maxHeartbeats 4000000 in
set_option maxRecDepth 100000 in
theorem c_T_ffl_f (E : jE) (l : Launch) (h : Nat) (n : Nat) (a1 : Nat) (a2 : Nat) (a3 : Nat) (fc : Nat) (fd : Nat → Nat) (x : Int32) (hfc : fc ≤ 64) (hx : x.toInt < 0 ∨ (fc : Int) ≤ x.toInt) : Con E l yT_foundFromLast bT_foundFromLast 2 (some .int) { frames := 0, cells := 0, slots := 0, locals := 0 } [.ref (h), .int (x)] [((h), .inr (3, [.int (nI (n)), .int (nI (2 ^ n)), .ref (a1), .ref (a2), .ref (a3), .int (nI (fc))])), kI E (a3) (64) (fd)] (fun r w => r = some (.int (-1)) ∧ w = [((h), .inr (3, [.int (nI (n)), .int (nI (2 ^ n)), .ref (a1), .ref (a2), .ref (a3), .int (nI (fc))])), kI E (a3) (64) (fd)]) := by
  refine Con.ofI (by decide) (Nat.le_of_ble_eq_true rfl) ?_
  intro J C hret
  show J 0 [(0, .ref (h)), (1, .int (x))] [] [((h), .inr (3, [.int (nI (n)), .int (nI (2 ^ n)), .ref (a1), .ref (a2), .ref (a3), .int (nI (fc))])), kI E (a3) (64) (fd)] 0 0
  refine J_iload_n C 1 dT_foundFromLast_0 rfl rfl ?_
  refine J_if_lt C 28 rfl dT_foundFromLast_1 (by decide) (fun h1 => ?_) (fun h1 => ?_)
  · refine J_iconst C (v := -1) dT_foundFromLast_28 (by decide) ?_
    exact hret _ _ _ _ _ _ dT_foundFromLast_29 (by decide) (by decide) (⟨rfl, rfl⟩)
  · refine J_iload_n C 1 dT_foundFromLast_4 rfl rfl ?_
    refine J_aload_n C 0 dT_foundFromLast_5 rfl rfl ?_
    refine J_get C 0 5 hinT rfl rfl (by decide) fkT_39 rfl dT_foundFromLast_6 ?_
    refine J_icmp_ge C 28 rfl (nI_toInt (n := fc) (by omega)) dT_foundFromLast_9 (by decide) (fun h9 => ?_) (fun h9 => ?_)
    · refine J_iconst C (v := -1) dT_foundFromLast_28 (by decide) ?_
      exact hret _ _ _ _ _ _ dT_foundFromLast_29 (by decide) (by decide) (⟨rfl, rfl⟩)
    · exfalso; omega
set_option maxHeartbeats 4000000 in
set_option maxRecDepth 100000 in
theorem c_T_start_t (E : jE) (l : Launch) (h : Nat) (n : Nat) (a1 : Nat) (a2 : Nat) (a3 : Nat) (fc : Nat) (to : Nat → Nat) (k : Nat) (hk1 : 1 ≤ k) (hk4 : k ≤ 4) : Con E l yT_startWith bT_startWith 3 (some .boolean) { frames := 0, cells := 0, slots := 0, locals := 0 } [.ref (h), .int (nI (k))] [((h), .inr (3, [.int (nI (n)), .int (nI (2 ^ n)), .ref (a1), .ref (a2), .ref (a3), .int (nI (fc))])), kI E (a1) (16) (to)] (fun r w => r = some (.int (nI 1)) ∧ w = [((h), .inr (3, [.int (nI (k)), .int (nI (2 ^ k)), .ref (a1), .ref (a2), .ref (a3), .int (nI (fc))])), kI E (a1) (16) (fun j => j)]) := by
  refine Con.ofZ (by decide) (Nat.le_of_ble_eq_true rfl) ?_
  intro J C hret
  show J 0 [(0, .ref (h)), (1, .int (nI (k)))] [] [((h), .inr (3, [.int (nI (n)), .int (nI (2 ^ n)), .ref (a1), .ref (a2), .ref (a3), .int (nI (fc))])), kI E (a1) (16) (to)] 0 0
  refine J_iload_n C 1 dT_startWith_0 rfl rfl ?_
  refine J_iconst C (v := nI (1)) dT_startWith_1 (by decide) ?_
  refine J_icmp_lt C 10 (nI_toInt (n := k) (by omega)) (nI_toInt (n := 1) (by decide)) dT_startWith_2 (by decide) (fun h2 => ?_) (fun h2 => ?_)
  · exfalso; omega
  · refine J_iload_n C 1 dT_startWith_5 rfl rfl ?_
    refine J_iconst C (v := nI (4)) dT_startWith_6 (by decide) ?_
    refine J_icmp_le C 12 (nI_toInt (n := k) (by omega)) (nI_toInt (n := 4) (by decide)) dT_startWith_7 (by decide) (fun h7 => ?_) (fun h7 => ?_)
    · refine J_aload_n C 0 dT_startWith_12 rfl rfl ?_
      refine J_iload_n C 1 dT_startWith_13 rfl rfl ?_
      refine J_put C (ws' := [((h), .inr (3, [.int (nI (k)), .int (nI (2 ^ n)), .ref (a1), .ref (a2), .ref (a3), .int (nI (fc))])), kI E (a1) (16) (to)]) 0 0 tyT hinT tyokT nmT rfl rfl (by decide) fkT_21 rfl rfl rfl (Nat.le_of_ble_eq_true rfl) dT_startWith_14 rfl ?_
      refine J_aload_n C 0 dT_startWith_17 rfl rfl ?_
      refine J_iconst C (v := nI (1)) dT_startWith_18 (by decide) ?_
      refine J_iload_n C 1 dT_startWith_19 rfl rfl ?_
      refine J_ishl1 C dT_startWith_20 (by omega) ?_
      refine J_put C (ws' := [((h), .inr (3, [.int (nI (k)), .int (nI (2 ^ k)), .ref (a1), .ref (a2), .ref (a3), .int (nI (fc))])), kI E (a1) (16) (to)]) 0 1 tyT hinT tyokT nmT rfl rfl (by decide) fkT_25 rfl rfl rfl (Nat.le_of_ble_eq_true rfl) dT_startWith_21 rfl ?_
      refine J_iconst C (v := nI (0)) dT_startWith_24 (by decide) ?_
      refine J_istore_n C (lv' := [(0, .ref (h)), (1, .int (nI (k))), (2, .int (nI (0)))]) [1, 2, 0] dT_startWith_25 rfl (by decide) rfl ?_
      have lp_26 : ∀ (k_26 : Nat) (i : Nat) (f : Nat → Nat), (i ≤ 16) → (∀ j, f j = if j < i then j else to j) → (16 - i) < k_26 → J 26 [(0, .ref (h)), (1, .int (nI (k))), (2, .int (nI (i)))] [] [((h), .inr (3, [.int (nI (k)), .int (nI (2 ^ k)), .ref (a1), .ref (a2), .ref (a3), .int (nI (fc))])), kI E (a1) (16) (f)] (0) (0) := by
        intro k_26
        induction k_26 with
        | zero => intro i f hi hf hk_26; exact absurd hk_26 (Nat.not_lt_zero _)
        | succ k_26 ih_26 =>
          intro i f hi hf hk_26
          refine J_iload_n C 2 dT_startWith_26 rfl rfl ?_
          refine J_bipush C (v := nI (16)) dT_startWith_27 (by decide) ?_
          refine J_icmp_ge C 45 (nI_toInt (n := i) (by omega)) (nI_toInt (n := 16) (by decide)) dT_startWith_29 (by decide) (fun h29 => ?_) (fun h29 => ?_)
          · refine J_cell C (ws' := [((h), .inr (3, [.int (nI (k)), .int (nI (2 ^ k)), .ref (a1), .ref (a2), .ref (a3), .int (nI (fc))])), kI E (a1) (16) (fun j => j)]) 1 rfl (fun H => kI_congr (fun j hj => by rw [hf j, if_pos (by omega)])) rfl ?_
            refine J_iconst C (v := nI (1)) dT_startWith_45 (by decide) ?_
            exact hret _ _ _ _ _ _ dT_startWith_46 (by decide) (by decide) (by decide) (⟨rfl, rfl⟩)
          · refine J_aload_n C 0 dT_startWith_32 rfl rfl ?_
            refine J_get C 0 2 hinT rfl rfl (by decide) fkT_9 rfl dT_startWith_33 ?_
            refine J_iload_n C 2 dT_startWith_36 rfl rfl ?_
            refine J_iload_n C 2 dT_startWith_37 rfl rfl ?_
            refine J_iastN C (ws' := [((h), .inr (3, [.int (nI (k)), .int (nI (2 ^ k)), .ref (a1), .ref (a2), .ref (a3), .int (nI (fc))])), kI E (a1) (16) (upN f i i)]) 1 rfl (by omega) (by omega) dT_startWith_38 rfl ?_
            refine J_iinc C (lv' := [(0, .ref (h)), (1, .int (nI (k))), (2, .int (nI (i + 1)))]) 2 [1, 2, 0] dT_startWith_39 rfl (jn_inc _) (by decide) rfl ?_
            refine J_goto C 26 dT_startWith_42 (by decide) ?_
            exact ih_26 (i + 1) (upN f i i) (by omega) (cp_s (t := fun j => j) hf) (by omega)
      exact lp_26 (17) 0 to (by omega) (by intro j; simp) (by omega)
    · exfalso; omega
set_option maxHeartbeats 4000000 in
set_option maxRecDepth 100000 in
theorem c_T_start_f (E : jE) (l : Launch) (h : Nat) (n : Nat) (a1 : Nat) (a2 : Nat) (a3 : Nat) (fc : Nat) (to : Nat → Nat) (x : Int32) (hx : x.toInt < 1 ∨ 4 < x.toInt) : Con E l yT_startWith bT_startWith 3 (some .boolean) { frames := 0, cells := 0, slots := 0, locals := 0 } [.ref (h), .int (x)] [((h), .inr (3, [.int (nI (n)), .int (nI (2 ^ n)), .ref (a1), .ref (a2), .ref (a3), .int (nI (fc))])), kI E (a1) (16) (to)] (fun r w => r = some (.int (nI 0)) ∧ w = [((h), .inr (3, [.int (nI (n)), .int (nI (2 ^ n)), .ref (a1), .ref (a2), .ref (a3), .int (nI (fc))])), kI E (a1) (16) (to)]) := by
  refine Con.ofZ (by decide) (Nat.le_of_ble_eq_true rfl) ?_
  intro J C hret
  show J 0 [(0, .ref (h)), (1, .int (x))] [] [((h), .inr (3, [.int (nI (n)), .int (nI (2 ^ n)), .ref (a1), .ref (a2), .ref (a3), .int (nI (fc))])), kI E (a1) (16) (to)] 0 0
  refine J_iload_n C 1 dT_startWith_0 rfl rfl ?_
  refine J_iconst C (v := nI (1)) dT_startWith_1 (by decide) ?_
  refine J_icmp_lt C 10 rfl (nI_toInt (n := 1) (by decide)) dT_startWith_2 (by decide) (fun h2 => ?_) (fun h2 => ?_)
  · refine J_iconst C (v := nI (0)) dT_startWith_10 (by decide) ?_
    exact hret _ _ _ _ _ _ dT_startWith_11 (by decide) (by decide) (by decide) (⟨rfl, rfl⟩)
  · refine J_iload_n C 1 dT_startWith_5 rfl rfl ?_
    refine J_iconst C (v := nI (4)) dT_startWith_6 (by decide) ?_
    refine J_icmp_le C 12 rfl (nI_toInt (n := 4) (by decide)) dT_startWith_7 (by decide) (fun h7 => ?_) (fun h7 => ?_)
    · exfalso; omega
    · refine J_iconst C (v := nI (0)) dT_startWith_10 (by decide) ?_
      exact hret _ _ _ _ _ _ dT_startWith_11 (by decide) (by decide) (by decide) (⟨rfl, rfl⟩)
set_option maxHeartbeats 4000000 in
set_option maxRecDepth 100000 in
theorem c_T_init (E : jE) (l : Launch) (h : Nat) : Con E l yT_init bT_init 2 none { frames := 1, cells := 3, slots := 96, locals := 12 } [.ref (h)] [((h), .inr (3, [.int (nI (0)), .int (nI (0)), .null, .null, .null, .int (nI (0))]))] (fun r w => ∃ a1 a2 a3 : Nat, r = none ∧ w = [((h), .inr (3, [.int (nI (1)), .int (nI (2 ^ 1)), .ref (a1), .ref (a2), .ref (a3), .int (nI (0))])), kI E (a1) (16) (fun j => j), kI E (a2) (16) (fun _ => 0), kI E (a3) (64) (fun _ => 0)]) := by
  refine Con.ofN rfl (by decide) (Nat.le_of_ble_eq_true rfl) ?_
  intro J C hinit hret
  show J 0 [(0, .ref (h))] [] [((h), .inr (3, [.int (nI (0)), .int (nI (0)), .null, .null, .null, .int (nI (0))]))] 0 0
  refine J_aload_n C 0 dT_init_0 rfl rfl ?_
  refine J_objInit C lkT_3 k_objI k_objC dT_init_1 (by decide) (Nat.le_of_ble_eq_true rfl) ?_
  refine J_aload_n C 0 dT_init_4 rfl rfl ?_
  refine J_bipush C (v := nI (16)) dT_init_5 (by decide) ?_
  refine J_newaI C ar_int (by omega) (by decide) (by decide) dT_init_7 (fun b1 => ?_)
  refine hinit (ws' := [((h), .inr (3, [.int (nI (0)), .int (nI (0)), .ref (b1), .null, .null, .int (nI (0))])), kI E (b1) (16) (fun _ => 0)]) _ _ _ _ _ _ _ _ _ _ _ _ 0 _ 2 tyT _ hinT tyokT nmT rfl rfl (by decide) fkT_9 rfl rfl rfl rfl (Nat.le_of_ble_eq_true rfl) dT_init_9 rfl ?_
  refine J_aload_n C 0 dT_init_12 rfl rfl ?_
  refine J_bipush C (v := nI (16)) dT_init_13 (by decide) ?_
  refine J_newaI C ar_int (by omega) (by decide) (by decide) dT_init_15 (fun b2 => ?_)
  refine hinit (ws' := [((h), .inr (3, [.int (nI (0)), .int (nI (0)), .ref (b1), .ref (b2), .null, .int (nI (0))])), kI E (b1) (16) (fun _ => 0), kI E (b2) (16) (fun _ => 0)]) _ _ _ _ _ _ _ _ _ _ _ _ 0 _ 3 tyT _ hinT tyokT nmT rfl rfl (by decide) fkT_15 rfl rfl rfl rfl (Nat.le_of_ble_eq_true rfl) dT_init_17 rfl ?_
  refine J_aload_n C 0 dT_init_20 rfl rfl ?_
  refine J_bipush C (v := nI (64)) dT_init_21 (by decide) ?_
  refine J_newaI C ar_int (by omega) (by decide) (by decide) dT_init_23 (fun b3 => ?_)
  refine hinit (ws' := [((h), .inr (3, [.int (nI (0)), .int (nI (0)), .ref (b1), .ref (b2), .ref (b3), .int (nI (0))])), kI E (b1) (16) (fun _ => 0), kI E (b2) (16) (fun _ => 0), kI E (b3) (64) (fun _ => 0)]) _ _ _ _ _ _ _ _ _ _ _ _ 0 _ 4 tyT _ hinT tyokT nmT rfl rfl (by decide) fkT_18 rfl rfl rfl rfl (Nat.le_of_ble_eq_true rfl) dT_init_25 rfl ?_
  refine J_aload_n C 0 dT_init_28 rfl rfl ?_
  refine J_iconst C (v := nI (1)) dT_init_29 (by decide) ?_
  refine J_put C (ws' := [((h), .inr (3, [.int (nI (1)), .int (nI (0)), .ref (b1), .ref (b2), .ref (b3), .int (nI (0))])), kI E (b1) (16) (fun _ => 0), kI E (b2) (16) (fun _ => 0), kI E (b3) (64) (fun _ => 0)]) 0 0 tyT hinT tyokT nmT rfl rfl (by decide) fkT_21 rfl rfl rfl (Nat.le_of_ble_eq_true rfl) dT_init_30 rfl ?_
  refine J_aload_n C 0 dT_init_33 rfl rfl ?_
  refine J_iconst C (v := nI (2)) dT_init_34 (by decide) ?_
  refine J_put C (ws' := [((h), .inr (3, [.int (nI (1)), .int (nI (2)), .ref (b1), .ref (b2), .ref (b3), .int (nI (0))])), kI E (b1) (16) (fun _ => 0), kI E (b2) (16) (fun _ => 0), kI E (b3) (64) (fun _ => 0)]) 0 1 tyT hinT tyokT nmT rfl rfl (by decide) fkT_25 rfl rfl rfl (Nat.le_of_ble_eq_true rfl) dT_init_35 rfl ?_
  refine J_iconst C (v := nI (0)) dT_init_38 (by decide) ?_
  refine J_istore_n C (lv' := [(0, .ref (h)), (1, .int (nI (0)))]) [1, 0] dT_init_39 rfl (by decide) rfl ?_
  have lp_40 : ∀ (k_40 : Nat) (i : Nat) (f : Nat → Nat), (i ≤ 16) → (∀ j, f j = if j < i then j else 0) → (16 - i) < k_40 → J 40 [(0, .ref (h)), (1, .int (nI (i)))] [] [((h), .inr (3, [.int (nI (1)), .int (nI (2)), .ref (b1), .ref (b2), .ref (b3), .int (nI (0))])), kI E (b1) (16) (f), kI E (b2) (16) (fun _ => 0), kI E (b3) (64) (fun _ => 0)] (3) (96) := by
    intro k_40
    induction k_40 with
    | zero => intro i f hi hf hk_40; exact absurd hk_40 (Nat.not_lt_zero _)
    | succ k_40 ih_40 =>
      intro i f hi hf hk_40
      refine J_iload_n C 1 dT_init_40 rfl rfl ?_
      refine J_bipush C (v := nI (16)) dT_init_41 (by decide) ?_
      refine J_icmp_ge C 59 (nI_toInt (n := i) (by omega)) (nI_toInt (n := 16) (by decide)) dT_init_43 (by decide) (fun h43 => ?_) (fun h43 => ?_)
      · refine J_cell C (ws' := [((h), .inr (3, [.int (nI (1)), .int (nI (2)), .ref (b1), .ref (b2), .ref (b3), .int (nI (0))])), kI E (b1) (16) (fun j => j), kI E (b2) (16) (fun _ => 0), kI E (b3) (64) (fun _ => 0)]) 1 rfl (fun H => kI_congr (fun j hj => by rw [hf j, if_pos (by omega)])) rfl ?_
        exact hret _ _ _ _ _ dT_init_59 (by decide) (by decide) (⟨b1, b2, b3, rfl, rfl⟩)
      · refine J_aload_n C 0 dT_init_46 rfl rfl ?_
        refine J_get C 0 2 hinT rfl rfl (by decide) fkT_9 rfl dT_init_47 ?_
        refine J_iload_n C 1 dT_init_50 rfl rfl ?_
        refine J_iload_n C 1 dT_init_51 rfl rfl ?_
        refine J_iastN C (ws' := [((h), .inr (3, [.int (nI (1)), .int (nI (2)), .ref (b1), .ref (b2), .ref (b3), .int (nI (0))])), kI E (b1) (16) (upN f i i), kI E (b2) (16) (fun _ => 0), kI E (b3) (64) (fun _ => 0)]) 1 rfl (by omega) (by omega) dT_init_52 rfl ?_
        refine J_iinc C (lv' := [(0, .ref (h)), (1, .int (nI (i + 1)))]) 1 [1, 0] dT_init_53 rfl (jn_inc _) (by decide) rfl ?_
        refine J_goto C 40 dT_init_56 (by decide) ?_
        exact ih_40 (i + 1) (upN f i i) (by omega) (cp_s (t := fun j => j) (g := fun _ => 0) hf) (by omega)
  exact lp_40 (17) 0 (fun _ => 0) (by omega) (by intro j; simp) (by omega)
end
section
set_option maxHeartbeats 4000000 in
set_option maxRecDepth 100000 in
theorem c_M_values (E : jE) (l : Launch) (h : Nat) (n : Nat) (st : Nat) (mn : Nat) (m1 : Nat) (m2 : Nat) (m3 : Nat) (m4 : Nat) (m5 : Nat) (m6 : Nat) (m7 : Nat) (m8 : Nat) (m9 : Nat) (ma : Nat) (mb : Nat) (hn1 : 1 ≤ n) (hn4 : n ≤ 4) : Con E l yM_values bM_values 1 (some .int) { frames := 0, cells := 0, slots := 0, locals := 0 } [.ref (h)] [((h), .inr (5, [.int (nI (0)), .int (nI (n)), .ref (m1), .int (nI (st)), .ref (m2), .ref (m3), .ref (m4), .int (nI (mn)), .ref (m5), .ref (m6), .ref (m7), .ref (m8), .ref (m9), .ref (ma), .ref (mb)]))] (fun r w => r = some (.int (nI (2 ^ n))) ∧ w = [((h), .inr (5, [.int (nI (0)), .int (nI (n)), .ref (m1), .int (nI (st)), .ref (m2), .ref (m3), .ref (m4), .int (nI (mn)), .ref (m5), .ref (m6), .ref (m7), .ref (m8), .ref (m9), .ref (ma), .ref (mb)]))]) := by
  refine Con.ofI (by decide) (Nat.le_of_ble_eq_true rfl) ?_
  intro J C hret
  show J 0 [(0, .ref (h))] [] [((h), .inr (5, [.int (nI (0)), .int (nI (n)), .ref (m1), .int (nI (st)), .ref (m2), .ref (m3), .ref (m4), .int (nI (mn)), .ref (m5), .ref (m6), .ref (m7), .ref (m8), .ref (m9), .ref (ma), .ref (mb)]))] 0 0
  have hp16 := p16 hn4
  have hp1 := p1 n
  refine J_iconst C (v := nI (1)) dM_values_0 (by decide) ?_
  refine J_aload_n C 0 dM_values_1 rfl rfl ?_
  refine J_get C 0 1 hinM rfl rfl (by decide) fkM_56 rfl dM_values_2 ?_
  refine J_ishl1 C dM_values_5 (by omega) ?_
  exact hret _ _ _ _ _ _ dM_values_6 (by decide) (by decide) (⟨rfl, rfl⟩)
set_option maxHeartbeats 4000000 in
set_option maxRecDepth 100000 in
theorem c_M_isValue_t (E : jE) (l : Launch) (h : Nat) (n : Nat) (st : Nat) (mn : Nat) (m1 : Nat) (m2 : Nat) (m3 : Nat) (m4 : Nat) (m5 : Nat) (m6 : Nat) (m7 : Nat) (m8 : Nat) (m9 : Nat) (ma : Nat) (mb : Nat) (k : Nat) (hn1 : 1 ≤ n) (hn4 : n ≤ 4) (hk : k < 2 ^ n) : Con E l yM_isValue bM_isValue 2 (some .boolean) { frames := 1, cells := 0, slots := 0, locals := 20 } [.ref (h), .int (nI (k))] [((h), .inr (5, [.int (nI (0)), .int (nI (n)), .ref (m1), .int (nI (st)), .ref (m2), .ref (m3), .ref (m4), .int (nI (mn)), .ref (m5), .ref (m6), .ref (m7), .ref (m8), .ref (m9), .ref (ma), .ref (mb)]))] (fun r w => r = some (.int (nI 1)) ∧ w = [((h), .inr (5, [.int (nI (0)), .int (nI (n)), .ref (m1), .int (nI (st)), .ref (m2), .ref (m3), .ref (m4), .int (nI (mn)), .ref (m5), .ref (m6), .ref (m7), .ref (m8), .ref (m9), .ref (ma), .ref (mb)]))]) := by
  refine Con.ofZ (by decide) (Nat.le_of_ble_eq_true rfl) ?_
  intro J C hret
  show J 0 [(0, .ref (h)), (1, .int (nI (k)))] [] [((h), .inr (5, [.int (nI (0)), .int (nI (n)), .ref (m1), .int (nI (st)), .ref (m2), .ref (m3), .ref (m4), .int (nI (mn)), .ref (m5), .ref (m6), .ref (m7), .ref (m8), .ref (m9), .ref (ma), .ref (mb)]))] 0 0
  have hp16 := p16 hn4
  have hp1 := p1 n
  refine J_iload_n C 1 dM_isValue_0 rfl rfl ?_
  refine J_if_lt C 16 (nI_toInt (n := k) (by omega)) dM_isValue_1 (by decide) (fun h1 => ?_) (fun h1 => ?_)
  · exfalso; omega
  · refine J_iload_n C 1 dM_isValue_4 rfl rfl ?_
    refine J_aload_n C 0 dM_isValue_5 rfl rfl ?_
    refine J_callV C (rest := [.int (nI (k))]) [] [((h), .inr (5, [.int (nI (0)), .int (nI (n)), .ref (m1), .int (nI (st)), .ref (m2), .ref (m3), .ref (m4), .int (nI (mn)), .ref (m5), .ref (m6), .ref (m7), .ref (m8), .ref (m9), .ref (ma), .ref (mb)]))] [] 0 (c_M_values E l h n st mn m1 m2 m3 m4 m5 m6 m7 m8 m9 ma mb (by omega) (by omega)) mmM_values msM_values lkM_59 rfl rfl (rfl) rfl rfl ⟨by decide, by decide⟩ ⟨by decide, by decide⟩ (Nat.le_of_ble_eq_true rfl) dM_isValue_6 (fun r_c w_c hp => ?_)
    obtain ⟨rfl, rfl⟩ := hp
    refine J_norm C (st' := [.int (nI (2 ^ n)), .int (nI (k))]) (ws' := [((h), .inr (5, [.int (nI (0)), .int (nI (n)), .ref (m1), .int (nI (st)), .ref (m2), .ref (m3), .ref (m4), .int (nI (mn)), .ref (m5), .ref (m6), .ref (m7), .ref (m8), .ref (m9), .ref (ma), .ref (mb)]))]) (cs' := 0) (ss' := 0) rfl (rfl) rfl rfl ?_
    refine J_icmp_ge C 16 (nI_toInt (n := k) (by omega)) (nI_toInt (n := 2 ^ n) (by omega)) dM_isValue_9 (by decide) (fun h9 => ?_) (fun h9 => ?_)
    · exfalso; omega
    · refine J_iconst C (v := nI (1)) dM_isValue_12 (by decide) ?_
      refine J_goto C 17 dM_isValue_13 (by decide) ?_
      exact hret _ _ _ _ _ _ dM_isValue_17 (by decide) (by decide) (by decide) (⟨rfl, rfl⟩)
set_option maxHeartbeats 4000000 in
set_option maxRecDepth 100000 in
theorem c_M_isValue_f (E : jE) (l : Launch) (h : Nat) (n : Nat) (st : Nat) (mn : Nat) (m1 : Nat) (m2 : Nat) (m3 : Nat) (m4 : Nat) (m5 : Nat) (m6 : Nat) (m7 : Nat) (m8 : Nat) (m9 : Nat) (ma : Nat) (mb : Nat) (x : Int32) (hn1 : 1 ≤ n) (hn4 : n ≤ 4) (hx : x.toInt < 0 ∨ ((2 ^ n : Nat) : Int) ≤ x.toInt) : Con E l yM_isValue bM_isValue 2 (some .boolean) { frames := 1, cells := 0, slots := 0, locals := 20 } [.ref (h), .int (x)] [((h), .inr (5, [.int (nI (0)), .int (nI (n)), .ref (m1), .int (nI (st)), .ref (m2), .ref (m3), .ref (m4), .int (nI (mn)), .ref (m5), .ref (m6), .ref (m7), .ref (m8), .ref (m9), .ref (ma), .ref (mb)]))] (fun r w => r = some (.int (nI 0)) ∧ w = [((h), .inr (5, [.int (nI (0)), .int (nI (n)), .ref (m1), .int (nI (st)), .ref (m2), .ref (m3), .ref (m4), .int (nI (mn)), .ref (m5), .ref (m6), .ref (m7), .ref (m8), .ref (m9), .ref (ma), .ref (mb)]))]) := by
  refine Con.ofZ (by decide) (Nat.le_of_ble_eq_true rfl) ?_
  intro J C hret
  show J 0 [(0, .ref (h)), (1, .int (x))] [] [((h), .inr (5, [.int (nI (0)), .int (nI (n)), .ref (m1), .int (nI (st)), .ref (m2), .ref (m3), .ref (m4), .int (nI (mn)), .ref (m5), .ref (m6), .ref (m7), .ref (m8), .ref (m9), .ref (ma), .ref (mb)]))] 0 0
  have hp16 := p16 hn4
  have hp1 := p1 n
  refine J_iload_n C 1 dM_isValue_0 rfl rfl ?_
  refine J_if_lt C 16 rfl dM_isValue_1 (by decide) (fun h1 => ?_) (fun h1 => ?_)
  · refine J_iconst C (v := nI (0)) dM_isValue_16 (by decide) ?_
    exact hret _ _ _ _ _ _ dM_isValue_17 (by decide) (by decide) (by decide) (⟨rfl, rfl⟩)
  · refine J_iload_n C 1 dM_isValue_4 rfl rfl ?_
    refine J_aload_n C 0 dM_isValue_5 rfl rfl ?_
    refine J_callV C (rest := [.int (x)]) [] [((h), .inr (5, [.int (nI (0)), .int (nI (n)), .ref (m1), .int (nI (st)), .ref (m2), .ref (m3), .ref (m4), .int (nI (mn)), .ref (m5), .ref (m6), .ref (m7), .ref (m8), .ref (m9), .ref (ma), .ref (mb)]))] [] 0 (c_M_values E l h n st mn m1 m2 m3 m4 m5 m6 m7 m8 m9 ma mb (by omega) (by omega)) mmM_values msM_values lkM_59 rfl rfl (rfl) rfl rfl ⟨by decide, by decide⟩ ⟨by decide, by decide⟩ (Nat.le_of_ble_eq_true rfl) dM_isValue_6 (fun r_c w_c hp => ?_)
    obtain ⟨rfl, rfl⟩ := hp
    refine J_norm C (st' := [.int (nI (2 ^ n)), .int (x)]) (ws' := [((h), .inr (5, [.int (nI (0)), .int (nI (n)), .ref (m1), .int (nI (st)), .ref (m2), .ref (m3), .ref (m4), .int (nI (mn)), .ref (m5), .ref (m6), .ref (m7), .ref (m8), .ref (m9), .ref (ma), .ref (mb)]))]) (cs' := 0) (ss' := 0) rfl (rfl) rfl rfl ?_
    refine J_icmp_ge C 16 rfl (nI_toInt (n := 2 ^ n) (by omega)) dM_isValue_9 (by decide) (fun h9 => ?_) (fun h9 => ?_)
    · refine J_iconst C (v := nI (0)) dM_isValue_16 (by decide) ?_
      exact hret _ _ _ _ _ _ dM_isValue_17 (by decide) (by decide) (by decide) (⟨rfl, rfl⟩)
    · exfalso; omega
set_option maxHeartbeats 4000000 in
set_option maxRecDepth 100000 in
theorem c_M_start (E : jE) (l : Launch) (h : Nat) (n : Nat) (st : Nat) (mn : Nat) (m1 : Nat) (m2 : Nat) (m3 : Nat) (m4 : Nat) (m5 : Nat) (m6 : Nat) (m7 : Nat) (m8 : Nat) (m9 : Nat) (ma : Nat) (mb : Nat) (to : Nat → Nat) (k : Nat) : Con E l yM_start bM_start 3 none { frames := 0, cells := 0, slots := 0, locals := 0 } [.ref (h), .int (nI (k))] [((h), .inr (5, [.int (nI (0)), .int (nI (n)), .ref (m1), .int (nI (st)), .ref (m2), .ref (m3), .ref (m4), .int (nI (mn)), .ref (m5), .ref (m6), .ref (m7), .ref (m8), .ref (m9), .ref (ma), .ref (mb)])), kI E (m1) (16) (to)] (fun r w => r = none ∧ w = [((h), .inr (5, [.int (nI (0)), .int (nI (k)), .ref (m1), .int (nI (st)), .ref (m2), .ref (m3), .ref (m4), .int (nI (mn)), .ref (m5), .ref (m6), .ref (m7), .ref (m8), .ref (m9), .ref (ma), .ref (mb)])), kI E (m1) (16) (fun j => j)]) := by
  refine Con.ofV (by decide) (Nat.le_of_ble_eq_true rfl) ?_
  intro J C hret
  show J 0 [(0, .ref (h)), (1, .int (nI (k)))] [] [((h), .inr (5, [.int (nI (0)), .int (nI (n)), .ref (m1), .int (nI (st)), .ref (m2), .ref (m3), .ref (m4), .int (nI (mn)), .ref (m5), .ref (m6), .ref (m7), .ref (m8), .ref (m9), .ref (ma), .ref (mb)])), kI E (m1) (16) (to)] 0 0
  refine J_aload_n C 0 dM_start_0 rfl rfl ?_
  refine J_iload_n C 1 dM_start_1 rfl rfl ?_
  refine J_put C (ws' := [((h), .inr (5, [.int (nI (0)), .int (nI (k)), .ref (m1), .int (nI (st)), .ref (m2), .ref (m3), .ref (m4), .int (nI (mn)), .ref (m5), .ref (m6), .ref (m7), .ref (m8), .ref (m9), .ref (ma), .ref (mb)])), kI E (m1) (16) (to)]) 0 1 tyM hinM tyokM nmM rfl rfl (by decide) fkM_56 rfl rfl rfl (Nat.le_of_ble_eq_true rfl) dM_start_2 rfl ?_
  refine J_iconst C (v := nI (0)) dM_start_5 (by decide) ?_
  refine J_istore_n C (lv' := [(0, .ref (h)), (1, .int (nI (k))), (2, .int (nI (0)))]) [1, 2, 0] dM_start_6 rfl (by decide) rfl ?_
  have lp_7 : ∀ (k_7 : Nat) (i : Nat) (f : Nat → Nat), (i ≤ 16) → (∀ j, f j = if j < i then j else to j) → (16 - i) < k_7 → J 7 [(0, .ref (h)), (1, .int (nI (k))), (2, .int (nI (i)))] [] [((h), .inr (5, [.int (nI (0)), .int (nI (k)), .ref (m1), .int (nI (st)), .ref (m2), .ref (m3), .ref (m4), .int (nI (mn)), .ref (m5), .ref (m6), .ref (m7), .ref (m8), .ref (m9), .ref (ma), .ref (mb)])), kI E (m1) (16) (f)] (0) (0) := by
    intro k_7
    induction k_7 with
    | zero => intro i f hi hf hk_7; exact absurd hk_7 (Nat.not_lt_zero _)
    | succ k_7 ih_7 =>
      intro i f hi hf hk_7
      refine J_iload_n C 2 dM_start_7 rfl rfl ?_
      refine J_bipush C (v := nI (16)) dM_start_8 (by decide) ?_
      refine J_icmp_ge C 26 (nI_toInt (n := i) (by omega)) (nI_toInt (n := 16) (by decide)) dM_start_10 (by decide) (fun h10 => ?_) (fun h10 => ?_)
      · refine J_cell C (ws' := [((h), .inr (5, [.int (nI (0)), .int (nI (k)), .ref (m1), .int (nI (st)), .ref (m2), .ref (m3), .ref (m4), .int (nI (mn)), .ref (m5), .ref (m6), .ref (m7), .ref (m8), .ref (m9), .ref (ma), .ref (mb)])), kI E (m1) (16) (fun j => j)]) 1 rfl (fun H => kI_congr (fun j hj => by rw [hf j, if_pos (by omega)])) rfl ?_
        exact hret _ _ _ _ _ dM_start_26 (by decide) (by decide) (⟨rfl, rfl⟩)
      · refine J_aload_n C 0 dM_start_13 rfl rfl ?_
        refine J_get C 0 2 hinM rfl rfl (by decide) fkM_7 rfl dM_start_14 ?_
        refine J_iload_n C 2 dM_start_17 rfl rfl ?_
        refine J_iload_n C 2 dM_start_18 rfl rfl ?_
        refine J_iastN C (ws' := [((h), .inr (5, [.int (nI (0)), .int (nI (k)), .ref (m1), .int (nI (st)), .ref (m2), .ref (m3), .ref (m4), .int (nI (mn)), .ref (m5), .ref (m6), .ref (m7), .ref (m8), .ref (m9), .ref (ma), .ref (mb)])), kI E (m1) (16) (upN f i i)]) 1 rfl (by omega) (by omega) dM_start_19 rfl ?_
        refine J_iinc C (lv' := [(0, .ref (h)), (1, .int (nI (k))), (2, .int (nI (i + 1)))]) 2 [1, 2, 0] dM_start_20 rfl (jn_inc _) (by decide) rfl ?_
        refine J_goto C 7 dM_start_23 (by decide) ?_
        exact ih_7 (i + 1) (upN f i i) (by omega) (cp_s (t := fun j => j) hf) (by omega)
  exact lp_7 (17) 0 to (by omega) (by intro j; simp) (by omega)
set_option maxHeartbeats 4000000 in
set_option maxRecDepth 100000 in
theorem c_M_begin_t (E : jE) (l : Launch) (h : Nat) (n : Nat) (st : Nat) (mn : Nat) (m1 : Nat) (m2 : Nat) (m3 : Nat) (m4 : Nat) (m5 : Nat) (m6 : Nat) (m7 : Nat) (m8 : Nat) (m9 : Nat) (ma : Nat) (mb : Nat) (to : Nat → Nat) (k : Nat) (hk1 : 1 ≤ k) (hk4 : k ≤ 4) : Con E l yM_begin bM_begin 2 (some .boolean) { frames := 1, cells := 0, slots := 0, locals := 22 } [.ref (h), .int (nI (k))] [((h), .inr (5, [.int (nI (0)), .int (nI (n)), .ref (m1), .int (nI (st)), .ref (m2), .ref (m3), .ref (m4), .int (nI (mn)), .ref (m5), .ref (m6), .ref (m7), .ref (m8), .ref (m9), .ref (ma), .ref (mb)])), kI E (m1) (16) (to)] (fun r w => r = some (.int (nI 1)) ∧ w = [((h), .inr (5, [.int (nI (0)), .int (nI (k)), .ref (m1), .int (nI (st)), .ref (m2), .ref (m3), .ref (m4), .int (nI (mn)), .ref (m5), .ref (m6), .ref (m7), .ref (m8), .ref (m9), .ref (ma), .ref (mb)])), kI E (m1) (16) (fun j => j)]) := by
  refine Con.ofZ (by decide) (Nat.le_of_ble_eq_true rfl) ?_
  intro J C hret
  show J 0 [(0, .ref (h)), (1, .int (nI (k)))] [] [((h), .inr (5, [.int (nI (0)), .int (nI (n)), .ref (m1), .int (nI (st)), .ref (m2), .ref (m3), .ref (m4), .int (nI (mn)), .ref (m5), .ref (m6), .ref (m7), .ref (m8), .ref (m9), .ref (ma), .ref (mb)])), kI E (m1) (16) (to)] 0 0
  refine J_aload_n C 0 dM_begin_0 rfl rfl ?_
  refine J_iconst C (v := nI (0)) dM_begin_1 (by decide) ?_
  refine J_put C (ws' := [((h), .inr (5, [.int (nI (0)), .int (nI (n)), .ref (m1), .int (nI (st)), .ref (m2), .ref (m3), .ref (m4), .int (nI (mn)), .ref (m5), .ref (m6), .ref (m7), .ref (m8), .ref (m9), .ref (ma), .ref (mb)])), kI E (m1) (16) (to)]) 0 0 tyM hinM tyokM nmM rfl rfl (by decide) fkM_53 rfl rfl rfl (Nat.le_of_ble_eq_true rfl) dM_begin_2 rfl ?_
  refine J_iload_n C 1 dM_begin_5 rfl rfl ?_
  refine J_iconst C (v := nI (1)) dM_begin_6 (by decide) ?_
  refine J_icmp_lt C 15 (nI_toInt (n := k) (by omega)) (nI_toInt (n := 1) (by decide)) dM_begin_7 (by decide) (fun h7 => ?_) (fun h7 => ?_)
  · exfalso; omega
  · refine J_iload_n C 1 dM_begin_10 rfl rfl ?_
    refine J_iconst C (v := nI (4)) dM_begin_11 (by decide) ?_
    refine J_icmp_le C 17 (nI_toInt (n := k) (by omega)) (nI_toInt (n := 4) (by decide)) dM_begin_12 (by decide) (fun h12 => ?_) (fun h12 => ?_)
    · refine J_aload_n C 0 dM_begin_17 rfl rfl ?_
      refine J_iload_n C 1 dM_begin_18 rfl rfl ?_
      refine J_callV C (rest := []) [] [((h), .inr (5, [.int (nI (0)), .int (nI (n)), .ref (m1), .int (nI (st)), .ref (m2), .ref (m3), .ref (m4), .int (nI (mn)), .ref (m5), .ref (m6), .ref (m7), .ref (m8), .ref (m9), .ref (ma), .ref (mb)])), kI E (m1) (16) (to)] [] 0 (c_M_start E l h n st mn m1 m2 m3 m4 m5 m6 m7 m8 m9 ma mb to k) mmM_start msM_start lkM_45 rfl rfl (rfl) rfl rfl ⟨by decide, by decide⟩ ⟨by decide, by decide⟩ (Nat.le_of_ble_eq_true rfl) dM_begin_19 (fun r_c w_c hp => ?_)
      obtain ⟨rfl, rfl⟩ := hp
      refine J_norm C (st' := []) (ws' := [((h), .inr (5, [.int (nI (0)), .int (nI (k)), .ref (m1), .int (nI (st)), .ref (m2), .ref (m3), .ref (m4), .int (nI (mn)), .ref (m5), .ref (m6), .ref (m7), .ref (m8), .ref (m9), .ref (ma), .ref (mb)])), kI E (m1) (16) (fun j => j)]) (cs' := 0) (ss' := 0) rfl (rfl) rfl rfl ?_
      refine J_iconst C (v := nI (1)) dM_begin_22 (by decide) ?_
      exact hret _ _ _ _ _ _ dM_begin_23 (by decide) (by decide) (by decide) (⟨rfl, rfl⟩)
    · exfalso; omega
set_option maxHeartbeats 4000000 in
set_option maxRecDepth 100000 in
theorem c_M_begin_f (E : jE) (l : Launch) (h : Nat) (n : Nat) (st : Nat) (mn : Nat) (m1 : Nat) (m2 : Nat) (m3 : Nat) (m4 : Nat) (m5 : Nat) (m6 : Nat) (m7 : Nat) (m8 : Nat) (m9 : Nat) (ma : Nat) (mb : Nat) (x : Int32) (hx : x.toInt < 1 ∨ 4 < x.toInt) : Con E l yM_begin bM_begin 2 (some .boolean) { frames := 0, cells := 0, slots := 0, locals := 0 } [.ref (h), .int (x)] [((h), .inr (5, [.int (nI (0)), .int (nI (n)), .ref (m1), .int (nI (st)), .ref (m2), .ref (m3), .ref (m4), .int (nI (mn)), .ref (m5), .ref (m6), .ref (m7), .ref (m8), .ref (m9), .ref (ma), .ref (mb)]))] (fun r w => r = some (.int (nI 0)) ∧ w = [((h), .inr (5, [.int (nI (0)), .int (nI (n)), .ref (m1), .int (nI (st)), .ref (m2), .ref (m3), .ref (m4), .int (nI (mn)), .ref (m5), .ref (m6), .ref (m7), .ref (m8), .ref (m9), .ref (ma), .ref (mb)]))]) := by
  refine Con.ofZ (by decide) (Nat.le_of_ble_eq_true rfl) ?_
  intro J C hret
  show J 0 [(0, .ref (h)), (1, .int (x))] [] [((h), .inr (5, [.int (nI (0)), .int (nI (n)), .ref (m1), .int (nI (st)), .ref (m2), .ref (m3), .ref (m4), .int (nI (mn)), .ref (m5), .ref (m6), .ref (m7), .ref (m8), .ref (m9), .ref (ma), .ref (mb)]))] 0 0
  refine J_aload_n C 0 dM_begin_0 rfl rfl ?_
  refine J_iconst C (v := nI (0)) dM_begin_1 (by decide) ?_
  refine J_put C (ws' := [((h), .inr (5, [.int (nI (0)), .int (nI (n)), .ref (m1), .int (nI (st)), .ref (m2), .ref (m3), .ref (m4), .int (nI (mn)), .ref (m5), .ref (m6), .ref (m7), .ref (m8), .ref (m9), .ref (ma), .ref (mb)]))]) 0 0 tyM hinM tyokM nmM rfl rfl (by decide) fkM_53 rfl rfl rfl (Nat.le_of_ble_eq_true rfl) dM_begin_2 rfl ?_
  refine J_iload_n C 1 dM_begin_5 rfl rfl ?_
  refine J_iconst C (v := nI (1)) dM_begin_6 (by decide) ?_
  refine J_icmp_lt C 15 rfl (nI_toInt (n := 1) (by decide)) dM_begin_7 (by decide) (fun h7 => ?_) (fun h7 => ?_)
  · refine J_iconst C (v := nI (0)) dM_begin_15 (by decide) ?_
    exact hret _ _ _ _ _ _ dM_begin_16 (by decide) (by decide) (by decide) (⟨rfl, rfl⟩)
  · refine J_iload_n C 1 dM_begin_10 rfl rfl ?_
    refine J_iconst C (v := nI (4)) dM_begin_11 (by decide) ?_
    refine J_icmp_le C 17 rfl (nI_toInt (n := 4) (by decide)) dM_begin_12 (by decide) (fun h12 => ?_) (fun h12 => ?_)
    · exfalso; omega
    · refine J_iconst C (v := nI (0)) dM_begin_15 (by decide) ?_
      exact hret _ _ _ _ _ _ dM_begin_16 (by decide) (by decide) (by decide) (⟨rfl, rfl⟩)
set_option maxHeartbeats 4000000 in
set_option maxRecDepth 100000 in
theorem c_M_put_t (E : jE) (l : Launch) (h : Nat) (n : Nat) (st : Nat) (mn : Nat) (m1 : Nat) (m2 : Nat) (m3 : Nat) (m4 : Nat) (m5 : Nat) (m6 : Nat) (m7 : Nat) (m8 : Nat) (m9 : Nat) (ma : Nat) (mb : Nat) (to : Nat → Nat) (k : Nat) (u : Nat) (hn1 : 1 ≤ n) (hn4 : n ≤ 4) (hk : k < 2 ^ n) (hu : u < 2 ^ n) : Con E l yM_put bM_put 3 (some .boolean) { frames := 2, cells := 0, slots := 0, locals := 41 } [.ref (h), .int (nI (k)), .int (nI (u))] [((h), .inr (5, [.int (nI (0)), .int (nI (n)), .ref (m1), .int (nI (st)), .ref (m2), .ref (m3), .ref (m4), .int (nI (mn)), .ref (m5), .ref (m6), .ref (m7), .ref (m8), .ref (m9), .ref (ma), .ref (mb)])), kI E (m1) (16) (to)] (fun r w => r = some (.int (nI 1)) ∧ w = [((h), .inr (5, [.int (nI (0)), .int (nI (n)), .ref (m1), .int (nI (st)), .ref (m2), .ref (m3), .ref (m4), .int (nI (mn)), .ref (m5), .ref (m6), .ref (m7), .ref (m8), .ref (m9), .ref (ma), .ref (mb)])), kI E (m1) (16) (upN to k u)]) := by
  refine Con.ofZ (by decide) (Nat.le_of_ble_eq_true rfl) ?_
  intro J C hret
  show J 0 [(0, .ref (h)), (1, .int (nI (k))), (2, .int (nI (u)))] [] [((h), .inr (5, [.int (nI (0)), .int (nI (n)), .ref (m1), .int (nI (st)), .ref (m2), .ref (m3), .ref (m4), .int (nI (mn)), .ref (m5), .ref (m6), .ref (m7), .ref (m8), .ref (m9), .ref (ma), .ref (mb)])), kI E (m1) (16) (to)] 0 0
  have hp16 := p16 hn4
  have hp1 := p1 n
  refine J_aload_n C 0 dM_put_0 rfl rfl ?_
  refine J_iconst C (v := nI (0)) dM_put_1 (by decide) ?_
  refine J_put C (ws' := [((h), .inr (5, [.int (nI (0)), .int (nI (n)), .ref (m1), .int (nI (st)), .ref (m2), .ref (m3), .ref (m4), .int (nI (mn)), .ref (m5), .ref (m6), .ref (m7), .ref (m8), .ref (m9), .ref (ma), .ref (mb)])), kI E (m1) (16) (to)]) 0 0 tyM hinM tyokM nmM rfl rfl (by decide) fkM_53 rfl rfl rfl (Nat.le_of_ble_eq_true rfl) dM_put_2 rfl ?_
  refine J_aload_n C 0 dM_put_5 rfl rfl ?_
  refine J_iload_n C 1 dM_put_6 rfl rfl ?_
  refine J_callV C (rest := []) [] [((h), .inr (5, [.int (nI (0)), .int (nI (n)), .ref (m1), .int (nI (st)), .ref (m2), .ref (m3), .ref (m4), .int (nI (mn)), .ref (m5), .ref (m6), .ref (m7), .ref (m8), .ref (m9), .ref (ma), .ref (mb)]))] [kI E (m1) (16) (to)] 0 (c_M_isValue_t E l h n st mn m1 m2 m3 m4 m5 m6 m7 m8 m9 ma mb k (by omega) (by omega) (by omega)) mmM_isValue msM_isValue lkM_63 rfl rfl (rfl) rfl rfl ⟨by decide, by decide⟩ ⟨by decide, by decide⟩ (Nat.le_of_ble_eq_true rfl) dM_put_7 (fun r_c w_c hp => ?_)
  obtain ⟨rfl, rfl⟩ := hp
  refine J_norm C (st' := [.int (nI (1))]) (ws' := [((h), .inr (5, [.int (nI (0)), .int (nI (n)), .ref (m1), .int (nI (st)), .ref (m2), .ref (m3), .ref (m4), .int (nI (mn)), .ref (m5), .ref (m6), .ref (m7), .ref (m8), .ref (m9), .ref (ma), .ref (mb)])), kI E (m1) (16) (to)]) (cs' := 0) (ss' := 0) rfl (rfl) rfl rfl ?_
  refine J_if_eq C 21 (nI_toInt (n := 1) (by decide)) dM_put_10 (by decide) (fun h10 => ?_) (fun h10 => ?_)
  · exfalso; omega
  · refine J_aload_n C 0 dM_put_13 rfl rfl ?_
    refine J_iload_n C 2 dM_put_14 rfl rfl ?_
    refine J_callV C (rest := []) [] [((h), .inr (5, [.int (nI (0)), .int (nI (n)), .ref (m1), .int (nI (st)), .ref (m2), .ref (m3), .ref (m4), .int (nI (mn)), .ref (m5), .ref (m6), .ref (m7), .ref (m8), .ref (m9), .ref (ma), .ref (mb)]))] [kI E (m1) (16) (to)] 0 (c_M_isValue_t E l h n st mn m1 m2 m3 m4 m5 m6 m7 m8 m9 ma mb u (by omega) (by omega) (by omega)) mmM_isValue msM_isValue lkM_63 rfl rfl (rfl) rfl rfl ⟨by decide, by decide⟩ ⟨by decide, by decide⟩ (Nat.le_of_ble_eq_true rfl) dM_put_15 (fun r_c w_c hp => ?_)
    obtain ⟨rfl, rfl⟩ := hp
    refine J_norm C (st' := [.int (nI (1))]) (ws' := [((h), .inr (5, [.int (nI (0)), .int (nI (n)), .ref (m1), .int (nI (st)), .ref (m2), .ref (m3), .ref (m4), .int (nI (mn)), .ref (m5), .ref (m6), .ref (m7), .ref (m8), .ref (m9), .ref (ma), .ref (mb)])), kI E (m1) (16) (to)]) (cs' := 0) (ss' := 0) rfl (rfl) rfl rfl ?_
    refine J_if_ne C 23 (nI_toInt (n := 1) (by decide)) dM_put_18 (by decide) (fun h18 => ?_) (fun h18 => ?_)
    · refine J_aload_n C 0 dM_put_23 rfl rfl ?_
      refine J_get C 0 2 hinM rfl rfl (by decide) fkM_7 rfl dM_put_24 ?_
      refine J_iload_n C 1 dM_put_27 rfl rfl ?_
      refine J_iload_n C 2 dM_put_28 rfl rfl ?_
      refine J_iastN C (ws' := [((h), .inr (5, [.int (nI (0)), .int (nI (n)), .ref (m1), .int (nI (st)), .ref (m2), .ref (m3), .ref (m4), .int (nI (mn)), .ref (m5), .ref (m6), .ref (m7), .ref (m8), .ref (m9), .ref (ma), .ref (mb)])), kI E (m1) (16) (upN to k u)]) 1 rfl (by omega) (by omega) dM_put_29 rfl ?_
      refine J_iconst C (v := nI (1)) dM_put_30 (by decide) ?_
      exact hret _ _ _ _ _ _ dM_put_31 (by decide) (by decide) (by decide) (⟨rfl, rfl⟩)
    · exfalso; omega
set_option maxHeartbeats 4000000 in
set_option maxRecDepth 100000 in
theorem c_M_put_f1 (E : jE) (l : Launch) (h : Nat) (n : Nat) (st : Nat) (mn : Nat) (m1 : Nat) (m2 : Nat) (m3 : Nat) (m4 : Nat) (m5 : Nat) (m6 : Nat) (m7 : Nat) (m8 : Nat) (m9 : Nat) (ma : Nat) (mb : Nat) (x : Int32) (z : Int32) (hn1 : 1 ≤ n) (hn4 : n ≤ 4) (hx : x.toInt < 0 ∨ ((2 ^ n : Nat) : Int) ≤ x.toInt) : Con E l yM_put bM_put 3 (some .boolean) { frames := 2, cells := 0, slots := 0, locals := 41 } [.ref (h), .int (x), .int (z)] [((h), .inr (5, [.int (nI (0)), .int (nI (n)), .ref (m1), .int (nI (st)), .ref (m2), .ref (m3), .ref (m4), .int (nI (mn)), .ref (m5), .ref (m6), .ref (m7), .ref (m8), .ref (m9), .ref (ma), .ref (mb)]))] (fun r w => r = some (.int (nI 0)) ∧ w = [((h), .inr (5, [.int (nI (0)), .int (nI (n)), .ref (m1), .int (nI (st)), .ref (m2), .ref (m3), .ref (m4), .int (nI (mn)), .ref (m5), .ref (m6), .ref (m7), .ref (m8), .ref (m9), .ref (ma), .ref (mb)]))]) := by
  refine Con.ofZ (by decide) (Nat.le_of_ble_eq_true rfl) ?_
  intro J C hret
  show J 0 [(0, .ref (h)), (1, .int (x)), (2, .int (z))] [] [((h), .inr (5, [.int (nI (0)), .int (nI (n)), .ref (m1), .int (nI (st)), .ref (m2), .ref (m3), .ref (m4), .int (nI (mn)), .ref (m5), .ref (m6), .ref (m7), .ref (m8), .ref (m9), .ref (ma), .ref (mb)]))] 0 0
  have hp16 := p16 hn4
  have hp1 := p1 n
  refine J_aload_n C 0 dM_put_0 rfl rfl ?_
  refine J_iconst C (v := nI (0)) dM_put_1 (by decide) ?_
  refine J_put C (ws' := [((h), .inr (5, [.int (nI (0)), .int (nI (n)), .ref (m1), .int (nI (st)), .ref (m2), .ref (m3), .ref (m4), .int (nI (mn)), .ref (m5), .ref (m6), .ref (m7), .ref (m8), .ref (m9), .ref (ma), .ref (mb)]))]) 0 0 tyM hinM tyokM nmM rfl rfl (by decide) fkM_53 rfl rfl rfl (Nat.le_of_ble_eq_true rfl) dM_put_2 rfl ?_
  refine J_aload_n C 0 dM_put_5 rfl rfl ?_
  refine J_iload_n C 1 dM_put_6 rfl rfl ?_
  refine J_callV C (rest := []) [] [((h), .inr (5, [.int (nI (0)), .int (nI (n)), .ref (m1), .int (nI (st)), .ref (m2), .ref (m3), .ref (m4), .int (nI (mn)), .ref (m5), .ref (m6), .ref (m7), .ref (m8), .ref (m9), .ref (ma), .ref (mb)]))] [] 0 (c_M_isValue_f E l h n st mn m1 m2 m3 m4 m5 m6 m7 m8 m9 ma mb x (by omega) (by omega) (by omega)) mmM_isValue msM_isValue lkM_63 rfl rfl (rfl) rfl rfl ⟨by decide, by decide⟩ ⟨by decide, by decide⟩ (Nat.le_of_ble_eq_true rfl) dM_put_7 (fun r_c w_c hp => ?_)
  obtain ⟨rfl, rfl⟩ := hp
  refine J_norm C (st' := [.int (nI (0))]) (ws' := [((h), .inr (5, [.int (nI (0)), .int (nI (n)), .ref (m1), .int (nI (st)), .ref (m2), .ref (m3), .ref (m4), .int (nI (mn)), .ref (m5), .ref (m6), .ref (m7), .ref (m8), .ref (m9), .ref (ma), .ref (mb)]))]) (cs' := 0) (ss' := 0) rfl (rfl) rfl rfl ?_
  refine J_if_eq C 21 (nI_toInt (n := 0) (by decide)) dM_put_10 (by decide) (fun h10 => ?_) (fun h10 => ?_)
  · refine J_iconst C (v := nI (0)) dM_put_21 (by decide) ?_
    exact hret _ _ _ _ _ _ dM_put_22 (by decide) (by decide) (by decide) (⟨rfl, rfl⟩)
  · exfalso; omega
set_option maxHeartbeats 4000000 in
set_option maxRecDepth 100000 in
theorem c_M_put_f2 (E : jE) (l : Launch) (h : Nat) (n : Nat) (st : Nat) (mn : Nat) (m1 : Nat) (m2 : Nat) (m3 : Nat) (m4 : Nat) (m5 : Nat) (m6 : Nat) (m7 : Nat) (m8 : Nat) (m9 : Nat) (ma : Nat) (mb : Nat) (k : Nat) (z : Int32) (hn1 : 1 ≤ n) (hn4 : n ≤ 4) (hk : k < 2 ^ n) (hx : z.toInt < 0 ∨ ((2 ^ n : Nat) : Int) ≤ z.toInt) : Con E l yM_put bM_put 3 (some .boolean) { frames := 2, cells := 0, slots := 0, locals := 41 } [.ref (h), .int (nI (k)), .int (z)] [((h), .inr (5, [.int (nI (0)), .int (nI (n)), .ref (m1), .int (nI (st)), .ref (m2), .ref (m3), .ref (m4), .int (nI (mn)), .ref (m5), .ref (m6), .ref (m7), .ref (m8), .ref (m9), .ref (ma), .ref (mb)]))] (fun r w => r = some (.int (nI 0)) ∧ w = [((h), .inr (5, [.int (nI (0)), .int (nI (n)), .ref (m1), .int (nI (st)), .ref (m2), .ref (m3), .ref (m4), .int (nI (mn)), .ref (m5), .ref (m6), .ref (m7), .ref (m8), .ref (m9), .ref (ma), .ref (mb)]))]) := by
  refine Con.ofZ (by decide) (Nat.le_of_ble_eq_true rfl) ?_
  intro J C hret
  show J 0 [(0, .ref (h)), (1, .int (nI (k))), (2, .int (z))] [] [((h), .inr (5, [.int (nI (0)), .int (nI (n)), .ref (m1), .int (nI (st)), .ref (m2), .ref (m3), .ref (m4), .int (nI (mn)), .ref (m5), .ref (m6), .ref (m7), .ref (m8), .ref (m9), .ref (ma), .ref (mb)]))] 0 0
  have hp16 := p16 hn4
  have hp1 := p1 n
  refine J_aload_n C 0 dM_put_0 rfl rfl ?_
  refine J_iconst C (v := nI (0)) dM_put_1 (by decide) ?_
  refine J_put C (ws' := [((h), .inr (5, [.int (nI (0)), .int (nI (n)), .ref (m1), .int (nI (st)), .ref (m2), .ref (m3), .ref (m4), .int (nI (mn)), .ref (m5), .ref (m6), .ref (m7), .ref (m8), .ref (m9), .ref (ma), .ref (mb)]))]) 0 0 tyM hinM tyokM nmM rfl rfl (by decide) fkM_53 rfl rfl rfl (Nat.le_of_ble_eq_true rfl) dM_put_2 rfl ?_
  refine J_aload_n C 0 dM_put_5 rfl rfl ?_
  refine J_iload_n C 1 dM_put_6 rfl rfl ?_
  refine J_callV C (rest := []) [] [((h), .inr (5, [.int (nI (0)), .int (nI (n)), .ref (m1), .int (nI (st)), .ref (m2), .ref (m3), .ref (m4), .int (nI (mn)), .ref (m5), .ref (m6), .ref (m7), .ref (m8), .ref (m9), .ref (ma), .ref (mb)]))] [] 0 (c_M_isValue_t E l h n st mn m1 m2 m3 m4 m5 m6 m7 m8 m9 ma mb k (by omega) (by omega) (by omega)) mmM_isValue msM_isValue lkM_63 rfl rfl (rfl) rfl rfl ⟨by decide, by decide⟩ ⟨by decide, by decide⟩ (Nat.le_of_ble_eq_true rfl) dM_put_7 (fun r_c w_c hp => ?_)
  obtain ⟨rfl, rfl⟩ := hp
  refine J_norm C (st' := [.int (nI (1))]) (ws' := [((h), .inr (5, [.int (nI (0)), .int (nI (n)), .ref (m1), .int (nI (st)), .ref (m2), .ref (m3), .ref (m4), .int (nI (mn)), .ref (m5), .ref (m6), .ref (m7), .ref (m8), .ref (m9), .ref (ma), .ref (mb)]))]) (cs' := 0) (ss' := 0) rfl (rfl) rfl rfl ?_
  refine J_if_eq C 21 (nI_toInt (n := 1) (by decide)) dM_put_10 (by decide) (fun h10 => ?_) (fun h10 => ?_)
  · exfalso; omega
  · refine J_aload_n C 0 dM_put_13 rfl rfl ?_
    refine J_iload_n C 2 dM_put_14 rfl rfl ?_
    refine J_callV C (rest := []) [] [((h), .inr (5, [.int (nI (0)), .int (nI (n)), .ref (m1), .int (nI (st)), .ref (m2), .ref (m3), .ref (m4), .int (nI (mn)), .ref (m5), .ref (m6), .ref (m7), .ref (m8), .ref (m9), .ref (ma), .ref (mb)]))] [] 0 (c_M_isValue_f E l h n st mn m1 m2 m3 m4 m5 m6 m7 m8 m9 ma mb z (by omega) (by omega) (by omega)) mmM_isValue msM_isValue lkM_63 rfl rfl (rfl) rfl rfl ⟨by decide, by decide⟩ ⟨by decide, by decide⟩ (Nat.le_of_ble_eq_true rfl) dM_put_15 (fun r_c w_c hp => ?_)
    obtain ⟨rfl, rfl⟩ := hp
    refine J_norm C (st' := [.int (nI (0))]) (ws' := [((h), .inr (5, [.int (nI (0)), .int (nI (n)), .ref (m1), .int (nI (st)), .ref (m2), .ref (m3), .ref (m4), .int (nI (mn)), .ref (m5), .ref (m6), .ref (m7), .ref (m8), .ref (m9), .ref (ma), .ref (mb)]))]) (cs' := 0) (ss' := 0) rfl (rfl) rfl rfl ?_
    refine J_if_ne C 23 (nI_toInt (n := 0) (by decide)) dM_put_18 (by decide) (fun h18 => ?_) (fun h18 => ?_)
    · exfalso; omega
    · refine J_iconst C (v := nI (0)) dM_put_21 (by decide) ?_
      exact hret _ _ _ _ _ _ dM_put_22 (by decide) (by decide) (by decide) (⟨rfl, rfl⟩)
set_option maxHeartbeats 4000000 in
set_option maxRecDepth 100000 in
theorem c_M_changed (E : jE) (l : Launch) (x : Nat) (a : Nat) (c : Nat) (hx : x < 16) (ha : a < 4) (hc : c < 16) : Con E l yM_changed bM_changed 3 (some .int) { frames := 0, cells := 0, slots := 0, locals := 0 } [.int (nI (x)), .int (nI (a)), .int (nI (c))] [] (fun r w => r = some (.int (nI (chg x a c))) ∧ w = []) := by
  refine Con.ofI (by decide) (Nat.le_of_ble_eq_true rfl) ?_
  intro J C hret
  show J 0 [(0, .int (nI (x))), (1, .int (nI (a))), (2, .int (nI (c)))] [] [] 0 0
  refine J_iload_n C 0 dM_changed_0 rfl rfl ?_
  refine J_iload_n C 2 dM_changed_1 rfl rfl ?_
  refine J_iandN C dM_changed_2 ?_
  refine J_iload_n C 2 dM_changed_3 rfl rfl ?_
  refine J_icmp_ne C 15 (nI_toInt (n := x &&& c) (by have := Nat.and_le_right (n := x) (m := c); omega)) (nI_toInt (n := c) (by omega)) dM_changed_4 (by decide) (fun h4 => ?_) (fun h4 => ?_)
  · have e : chg x a c = x := by unfold chg; rw [if_neg (by omega)]
    refine J_iload_n C 0 dM_changed_15 rfl rfl ?_
    exact hret _ _ _ _ _ _ dM_changed_16 (by decide) (by decide) (⟨by rw [e], rfl⟩)
  · have e : chg x a c = x ^^^ 2 ^ a := by unfold chg; rw [if_pos (by omega)]
    refine J_iload_n C 0 dM_changed_7 rfl rfl ?_
    refine J_iconst C (v := nI (1)) dM_changed_8 (by decide) ?_
    refine J_iload_n C 1 dM_changed_9 rfl rfl ?_
    refine J_ishl1 C dM_changed_10 (by omega) ?_
    refine J_ixorN C dM_changed_11 ?_
    refine J_goto C 16 dM_changed_12 (by decide) ?_
    exact hret _ _ _ _ _ _ dM_changed_16 (by decide) (by decide) (⟨by rw [e], rfl⟩)
set_option maxHeartbeats 4000000 in
set_option maxRecDepth 100000 in
theorem c_M_look_t (E : jE) (l : Launch) (h : Nat) (n : Nat) (st : Nat) (mn : Nat) (m1 : Nat) (m2 : Nat) (m3 : Nat) (m4 : Nat) (m5 : Nat) (m6 : Nat) (m7 : Nat) (m8 : Nat) (m9 : Nat) (ma : Nat) (mb : Nat) (to : Nat → Nat) (k : Nat) (hn1 : 1 ≤ n) (hn4 : n ≤ 4) (hk : k < 2 ^ n) : Con E l yM_look bM_look 2 (some .int) { frames := 2, cells := 0, slots := 0, locals := 41 } [.ref (h), .int (nI (k))] [((h), .inr (5, [.int (nI (0)), .int (nI (n)), .ref (m1), .int (nI (st)), .ref (m2), .ref (m3), .ref (m4), .int (nI (mn)), .ref (m5), .ref (m6), .ref (m7), .ref (m8), .ref (m9), .ref (ma), .ref (mb)])), kI E (m1) (16) (to)] (fun r w => r = some (.int (nI (to k))) ∧ w = [((h), .inr (5, [.int (nI (0)), .int (nI (n)), .ref (m1), .int (nI (st)), .ref (m2), .ref (m3), .ref (m4), .int (nI (mn)), .ref (m5), .ref (m6), .ref (m7), .ref (m8), .ref (m9), .ref (ma), .ref (mb)])), kI E (m1) (16) (to)]) := by
  refine Con.ofI (by decide) (Nat.le_of_ble_eq_true rfl) ?_
  intro J C hret
  show J 0 [(0, .ref (h)), (1, .int (nI (k)))] [] [((h), .inr (5, [.int (nI (0)), .int (nI (n)), .ref (m1), .int (nI (st)), .ref (m2), .ref (m3), .ref (m4), .int (nI (mn)), .ref (m5), .ref (m6), .ref (m7), .ref (m8), .ref (m9), .ref (ma), .ref (mb)])), kI E (m1) (16) (to)] 0 0
  have hp16 := p16 hn4
  have hp1 := p1 n
  refine J_aload_n C 0 dM_look_0 rfl rfl ?_
  refine J_iconst C (v := nI (0)) dM_look_1 (by decide) ?_
  refine J_put C (ws' := [((h), .inr (5, [.int (nI (0)), .int (nI (n)), .ref (m1), .int (nI (st)), .ref (m2), .ref (m3), .ref (m4), .int (nI (mn)), .ref (m5), .ref (m6), .ref (m7), .ref (m8), .ref (m9), .ref (ma), .ref (mb)])), kI E (m1) (16) (to)]) 0 0 tyM hinM tyokM nmM rfl rfl (by decide) fkM_53 rfl rfl rfl (Nat.le_of_ble_eq_true rfl) dM_look_2 rfl ?_
  refine J_aload_n C 0 dM_look_5 rfl rfl ?_
  refine J_iload_n C 1 dM_look_6 rfl rfl ?_
  refine J_callV C (rest := []) [] [((h), .inr (5, [.int (nI (0)), .int (nI (n)), .ref (m1), .int (nI (st)), .ref (m2), .ref (m3), .ref (m4), .int (nI (mn)), .ref (m5), .ref (m6), .ref (m7), .ref (m8), .ref (m9), .ref (ma), .ref (mb)]))] [kI E (m1) (16) (to)] 0 (c_M_isValue_t E l h n st mn m1 m2 m3 m4 m5 m6 m7 m8 m9 ma mb k (by omega) (by omega) (by omega)) mmM_isValue msM_isValue lkM_63 rfl rfl (rfl) rfl rfl ⟨by decide, by decide⟩ ⟨by decide, by decide⟩ (Nat.le_of_ble_eq_true rfl) dM_look_7 (fun r_c w_c hp => ?_)
  obtain ⟨rfl, rfl⟩ := hp
  refine J_norm C (st' := [.int (nI (1))]) (ws' := [((h), .inr (5, [.int (nI (0)), .int (nI (n)), .ref (m1), .int (nI (st)), .ref (m2), .ref (m3), .ref (m4), .int (nI (mn)), .ref (m5), .ref (m6), .ref (m7), .ref (m8), .ref (m9), .ref (ma), .ref (mb)])), kI E (m1) (16) (to)]) (cs' := 0) (ss' := 0) rfl (rfl) rfl rfl ?_
  refine J_if_eq C 22 (nI_toInt (n := 1) (by decide)) dM_look_10 (by decide) (fun h10 => ?_) (fun h10 => ?_)
  · exfalso; omega
  · refine J_aload_n C 0 dM_look_13 rfl rfl ?_
    refine J_get C 0 2 hinM rfl rfl (by decide) fkM_7 rfl dM_look_14 ?_
    refine J_iload_n C 1 dM_look_17 rfl rfl ?_
    refine J_iald C 1 rfl (by omega) (by omega) dM_look_18 ?_
    refine J_goto C 23 dM_look_19 (by decide) ?_
    exact hret _ _ _ _ _ _ dM_look_23 (by decide) (by decide) (⟨rfl, rfl⟩)
set_option maxHeartbeats 4000000 in
set_option maxRecDepth 100000 in
theorem c_M_look_f (E : jE) (l : Launch) (h : Nat) (n : Nat) (st : Nat) (mn : Nat) (m1 : Nat) (m2 : Nat) (m3 : Nat) (m4 : Nat) (m5 : Nat) (m6 : Nat) (m7 : Nat) (m8 : Nat) (m9 : Nat) (ma : Nat) (mb : Nat) (to : Nat → Nat) (x : Int32) (hn1 : 1 ≤ n) (hn4 : n ≤ 4) (hx : x.toInt < 0 ∨ ((2 ^ n : Nat) : Int) ≤ x.toInt) : Con E l yM_look bM_look 2 (some .int) { frames := 2, cells := 0, slots := 0, locals := 41 } [.ref (h), .int (x)] [((h), .inr (5, [.int (nI (0)), .int (nI (n)), .ref (m1), .int (nI (st)), .ref (m2), .ref (m3), .ref (m4), .int (nI (mn)), .ref (m5), .ref (m6), .ref (m7), .ref (m8), .ref (m9), .ref (ma), .ref (mb)])), kI E (m1) (16) (to)] (fun r w => r = some (.int (-1)) ∧ w = [((h), .inr (5, [.int (nI (0)), .int (nI (n)), .ref (m1), .int (nI (st)), .ref (m2), .ref (m3), .ref (m4), .int (nI (mn)), .ref (m5), .ref (m6), .ref (m7), .ref (m8), .ref (m9), .ref (ma), .ref (mb)])), kI E (m1) (16) (to)]) := by
  refine Con.ofI (by decide) (Nat.le_of_ble_eq_true rfl) ?_
  intro J C hret
  show J 0 [(0, .ref (h)), (1, .int (x))] [] [((h), .inr (5, [.int (nI (0)), .int (nI (n)), .ref (m1), .int (nI (st)), .ref (m2), .ref (m3), .ref (m4), .int (nI (mn)), .ref (m5), .ref (m6), .ref (m7), .ref (m8), .ref (m9), .ref (ma), .ref (mb)])), kI E (m1) (16) (to)] 0 0
  have hp16 := p16 hn4
  have hp1 := p1 n
  refine J_aload_n C 0 dM_look_0 rfl rfl ?_
  refine J_iconst C (v := nI (0)) dM_look_1 (by decide) ?_
  refine J_put C (ws' := [((h), .inr (5, [.int (nI (0)), .int (nI (n)), .ref (m1), .int (nI (st)), .ref (m2), .ref (m3), .ref (m4), .int (nI (mn)), .ref (m5), .ref (m6), .ref (m7), .ref (m8), .ref (m9), .ref (ma), .ref (mb)])), kI E (m1) (16) (to)]) 0 0 tyM hinM tyokM nmM rfl rfl (by decide) fkM_53 rfl rfl rfl (Nat.le_of_ble_eq_true rfl) dM_look_2 rfl ?_
  refine J_aload_n C 0 dM_look_5 rfl rfl ?_
  refine J_iload_n C 1 dM_look_6 rfl rfl ?_
  refine J_callV C (rest := []) [] [((h), .inr (5, [.int (nI (0)), .int (nI (n)), .ref (m1), .int (nI (st)), .ref (m2), .ref (m3), .ref (m4), .int (nI (mn)), .ref (m5), .ref (m6), .ref (m7), .ref (m8), .ref (m9), .ref (ma), .ref (mb)]))] [kI E (m1) (16) (to)] 0 (c_M_isValue_f E l h n st mn m1 m2 m3 m4 m5 m6 m7 m8 m9 ma mb x (by omega) (by omega) (by omega)) mmM_isValue msM_isValue lkM_63 rfl rfl (rfl) rfl rfl ⟨by decide, by decide⟩ ⟨by decide, by decide⟩ (Nat.le_of_ble_eq_true rfl) dM_look_7 (fun r_c w_c hp => ?_)
  obtain ⟨rfl, rfl⟩ := hp
  refine J_norm C (st' := [.int (nI (0))]) (ws' := [((h), .inr (5, [.int (nI (0)), .int (nI (n)), .ref (m1), .int (nI (st)), .ref (m2), .ref (m3), .ref (m4), .int (nI (mn)), .ref (m5), .ref (m6), .ref (m7), .ref (m8), .ref (m9), .ref (ma), .ref (mb)])), kI E (m1) (16) (to)]) (cs' := 0) (ss' := 0) rfl (rfl) rfl rfl ?_
  refine J_if_eq C 22 (nI_toInt (n := 0) (by decide)) dM_look_10 (by decide) (fun h10 => ?_) (fun h10 => ?_)
  · refine J_iconst C (v := -1) dM_look_22 (by decide) ?_
    exact hret _ _ _ _ _ _ dM_look_23 (by decide) (by decide) (⟨rfl, rfl⟩)
  · exfalso; omega
set_option maxHeartbeats 4000000 in
set_option maxRecDepth 100000 in
theorem c_M_isPerm_t (E : jE) (l : Launch) (h : Nat) (n : Nat) (st : Nat) (mn : Nat) (m1 : Nat) (m2 : Nat) (m3 : Nat) (m4 : Nat) (m5 : Nat) (m6 : Nat) (m7 : Nat) (m8 : Nat) (m9 : Nat) (ma : Nat) (mb : Nat) (to : Nat → Nat) (hn1 : 1 ≤ n) (hn4 : n ≤ 4) (ht : ∀ v, v < 2 ^ n → to v < 2 ^ n) (hq : sn to (2 ^ n) = 2 ^ 2 ^ n - 1) : Con E l yM_isPermutation bM_isPermutation 3 (some .boolean) { frames := 1, cells := 0, slots := 0, locals := 20 } [.ref (h)] [((h), .inr (5, [.int (nI (0)), .int (nI (n)), .ref (m1), .int (nI (st)), .ref (m2), .ref (m3), .ref (m4), .int (nI (mn)), .ref (m5), .ref (m6), .ref (m7), .ref (m8), .ref (m9), .ref (ma), .ref (mb)])), kI E (m1) (16) (to)] (fun r w => r = some (.int (nI 1)) ∧ w = [((h), .inr (5, [.int (nI (0)), .int (nI (n)), .ref (m1), .int (nI (st)), .ref (m2), .ref (m3), .ref (m4), .int (nI (mn)), .ref (m5), .ref (m6), .ref (m7), .ref (m8), .ref (m9), .ref (ma), .ref (mb)])), kI E (m1) (16) (to)]) := by
  refine Con.ofZ (by decide) (Nat.le_of_ble_eq_true rfl) ?_
  intro J C hret
  show J 0 [(0, .ref (h))] [] [((h), .inr (5, [.int (nI (0)), .int (nI (n)), .ref (m1), .int (nI (st)), .ref (m2), .ref (m3), .ref (m4), .int (nI (mn)), .ref (m5), .ref (m6), .ref (m7), .ref (m8), .ref (m9), .ref (ma), .ref (mb)])), kI E (m1) (16) (to)] 0 0
  have hp16 := p16 hn4
  have hp1 := p1 n
  have hp65 := p65 hn4
  have hpp := p1 (2 ^ n)
  have hsn := sn_lt (t := to) (2 ^ n) (fun j hj => by have := ht j hj; omega)
  refine J_iconst C (v := nI (0)) dM_isPermutation_0 (by decide) ?_
  refine J_istore_n C (lv' := [(0, .ref (h)), (1, .int (nI (0)))]) [1, 0] dM_isPermutation_1 rfl (by decide) rfl ?_
  refine J_iconst C (v := nI (0)) dM_isPermutation_2 (by decide) ?_
  refine J_istore_n C (lv' := [(0, .ref (h)), (1, .int (nI (0))), (2, .int (nI (0)))]) [1, 2, 0] dM_isPermutation_3 rfl (by decide) rfl ?_
  have lp_4 : ∀ (k_4 : Nat) (i : Nat), (i ≤ 2 ^ n) → (2 ^ n - i) < k_4 → J 4 [(0, .ref (h)), (1, .int (nI (sn to i))), (2, .int (nI (i)))] [] [((h), .inr (5, [.int (nI (0)), .int (nI (n)), .ref (m1), .int (nI (st)), .ref (m2), .ref (m3), .ref (m4), .int (nI (mn)), .ref (m5), .ref (m6), .ref (m7), .ref (m8), .ref (m9), .ref (ma), .ref (mb)])), kI E (m1) (16) (to)] (0) (0) := by
    intro k_4
    induction k_4 with
    | zero => intro i hi hk_4; exact absurd hk_4 (Nat.not_lt_zero _)
    | succ k_4 ih_4 =>
      intro i hi hk_4
      refine J_iload_n C 2 dM_isPermutation_4 rfl rfl ?_
      refine J_aload_n C 0 dM_isPermutation_5 rfl rfl ?_
      refine J_callV C (rest := [.int (nI (i))]) [] [((h), .inr (5, [.int (nI (0)), .int (nI (n)), .ref (m1), .int (nI (st)), .ref (m2), .ref (m3), .ref (m4), .int (nI (mn)), .ref (m5), .ref (m6), .ref (m7), .ref (m8), .ref (m9), .ref (ma), .ref (mb)]))] [kI E (m1) (16) (to)] 0 (c_M_values E l h n st mn m1 m2 m3 m4 m5 m6 m7 m8 m9 ma mb (by omega) (by omega)) mmM_values msM_values lkM_59 rfl rfl (rfl) rfl rfl ⟨by decide, by decide⟩ ⟨by decide, by decide⟩ (Nat.le_of_ble_eq_true rfl) dM_isPermutation_6 (fun r_c w_c hp => ?_)
      obtain ⟨rfl, rfl⟩ := hp
      refine J_norm C (st' := [.int (nI (2 ^ n)), .int (nI (i))]) (ws' := [((h), .inr (5, [.int (nI (0)), .int (nI (n)), .ref (m1), .int (nI (st)), .ref (m2), .ref (m3), .ref (m4), .int (nI (mn)), .ref (m5), .ref (m6), .ref (m7), .ref (m8), .ref (m9), .ref (ma), .ref (mb)])), kI E (m1) (16) (to)]) (cs' := 0) (ss' := 0) rfl (rfl) rfl rfl ?_
      refine J_icmp_ge C 29 (nI_toInt (n := i) (by omega)) (nI_toInt (n := 2 ^ n) (by omega)) dM_isPermutation_9 (by decide) (fun h9 => ?_) (fun h9 => ?_)
      · obtain rfl : 2 ^ n = i := by omega
        refine J_iload_n C 1 dM_isPermutation_29 rfl rfl ?_
        refine J_iconst C (v := nI (1)) dM_isPermutation_30 (by decide) ?_
        refine J_aload_n C 0 dM_isPermutation_31 rfl rfl ?_
        refine J_callV C (rest := [.int (nI (1)), .int (nI (sn to (2 ^ n)))]) [] [((h), .inr (5, [.int (nI (0)), .int (nI (n)), .ref (m1), .int (nI (st)), .ref (m2), .ref (m3), .ref (m4), .int (nI (mn)), .ref (m5), .ref (m6), .ref (m7), .ref (m8), .ref (m9), .ref (ma), .ref (mb)]))] [kI E (m1) (16) (to)] 0 (c_M_values E l h n st mn m1 m2 m3 m4 m5 m6 m7 m8 m9 ma mb (by omega) (by omega)) mmM_values msM_values lkM_59 rfl rfl (rfl) rfl rfl ⟨by decide, by decide⟩ ⟨by decide, by decide⟩ (Nat.le_of_ble_eq_true rfl) dM_isPermutation_32 (fun r_c w_c hp => ?_)
        obtain ⟨rfl, rfl⟩ := hp
        refine J_norm C (st' := [.int (nI (2 ^ n)), .int (nI (1)), .int (nI (sn to (2 ^ n)))]) (ws' := [((h), .inr (5, [.int (nI (0)), .int (nI (n)), .ref (m1), .int (nI (st)), .ref (m2), .ref (m3), .ref (m4), .int (nI (mn)), .ref (m5), .ref (m6), .ref (m7), .ref (m8), .ref (m9), .ref (ma), .ref (mb)])), kI E (m1) (16) (to)]) (cs' := 0) (ss' := 0) rfl (rfl) rfl rfl ?_
        refine J_ishl1 C dM_isPermutation_35 (by omega) ?_
        refine J_iconst C (v := nI (1)) dM_isPermutation_36 (by decide) ?_
        refine J_isubN C dM_isPermutation_37 (by omega) ?_
        refine J_icmp_ne C 45 (nI_toInt (n := sn to (2 ^ n)) (by omega)) (nI_toInt (n := (2 ^ (2 ^ n)) - 1) (by omega)) dM_isPermutation_38 (by decide) (fun h38 => ?_) (fun h38 => ?_)
        · exfalso; omega
        · refine J_iconst C (v := nI (1)) dM_isPermutation_41 (by decide) ?_
          refine J_goto C 46 dM_isPermutation_42 (by decide) ?_
          exact hret _ _ _ _ _ _ dM_isPermutation_46 (by decide) (by decide) (by decide) (⟨rfl, rfl⟩)
      · refine J_iload_n C 1 dM_isPermutation_12 rfl rfl ?_
        refine J_iconst C (v := nI (1)) dM_isPermutation_13 (by decide) ?_
        refine J_aload_n C 0 dM_isPermutation_14 rfl rfl ?_
        refine J_get C 0 2 hinM rfl rfl (by decide) fkM_7 rfl dM_isPermutation_15 ?_
        refine J_iload_n C 2 dM_isPermutation_18 rfl rfl ?_
        refine J_iald C 1 rfl (by omega) (by omega) dM_isPermutation_19 ?_
        refine J_ishl1 C dM_isPermutation_20 (by have := ht i (by omega); omega) ?_
        refine J_iorN C dM_isPermutation_21 ?_
        refine J_istore_n C (lv' := [(0, .ref (h)), (1, .int (nI ((sn to i) ||| (2 ^ (to i))))), (2, .int (nI (i)))]) [1, 0, 2] dM_isPermutation_22 rfl (by decide) rfl ?_
        refine J_iinc C (lv' := [(0, .ref (h)), (1, .int (nI ((sn to i) ||| (2 ^ (to i))))), (2, .int (nI (i + 1)))]) 2 [1, 2, 0] dM_isPermutation_23 rfl (jn_inc _) (by decide) rfl ?_
        refine J_goto C 4 dM_isPermutation_26 (by decide) ?_
        exact ih_4 (i + 1) (by omega) (by omega)
  exact lp_4 (2 ^ n + 1) 0 (by omega) (by omega)
set_option maxHeartbeats 4000000 in
set_option maxRecDepth 100000 in
theorem c_M_isPerm_f (E : jE) (l : Launch) (h : Nat) (n : Nat) (st : Nat) (mn : Nat) (m1 : Nat) (m2 : Nat) (m3 : Nat) (m4 : Nat) (m5 : Nat) (m6 : Nat) (m7 : Nat) (m8 : Nat) (m9 : Nat) (ma : Nat) (mb : Nat) (to : Nat → Nat) (hn1 : 1 ≤ n) (hn4 : n ≤ 4) (ht : ∀ v, v < 2 ^ n → to v < 2 ^ n) (hq : sn to (2 ^ n) ≠ 2 ^ 2 ^ n - 1) : Con E l yM_isPermutation bM_isPermutation 3 (some .boolean) { frames := 1, cells := 0, slots := 0, locals := 20 } [.ref (h)] [((h), .inr (5, [.int (nI (0)), .int (nI (n)), .ref (m1), .int (nI (st)), .ref (m2), .ref (m3), .ref (m4), .int (nI (mn)), .ref (m5), .ref (m6), .ref (m7), .ref (m8), .ref (m9), .ref (ma), .ref (mb)])), kI E (m1) (16) (to)] (fun r w => r = some (.int (nI 0)) ∧ w = [((h), .inr (5, [.int (nI (0)), .int (nI (n)), .ref (m1), .int (nI (st)), .ref (m2), .ref (m3), .ref (m4), .int (nI (mn)), .ref (m5), .ref (m6), .ref (m7), .ref (m8), .ref (m9), .ref (ma), .ref (mb)])), kI E (m1) (16) (to)]) := by
  refine Con.ofZ (by decide) (Nat.le_of_ble_eq_true rfl) ?_
  intro J C hret
  show J 0 [(0, .ref (h))] [] [((h), .inr (5, [.int (nI (0)), .int (nI (n)), .ref (m1), .int (nI (st)), .ref (m2), .ref (m3), .ref (m4), .int (nI (mn)), .ref (m5), .ref (m6), .ref (m7), .ref (m8), .ref (m9), .ref (ma), .ref (mb)])), kI E (m1) (16) (to)] 0 0
  have hp16 := p16 hn4
  have hp1 := p1 n
  have hp65 := p65 hn4
  have hpp := p1 (2 ^ n)
  have hsn := sn_lt (t := to) (2 ^ n) (fun j hj => by have := ht j hj; omega)
  refine J_iconst C (v := nI (0)) dM_isPermutation_0 (by decide) ?_
  refine J_istore_n C (lv' := [(0, .ref (h)), (1, .int (nI (0)))]) [1, 0] dM_isPermutation_1 rfl (by decide) rfl ?_
  refine J_iconst C (v := nI (0)) dM_isPermutation_2 (by decide) ?_
  refine J_istore_n C (lv' := [(0, .ref (h)), (1, .int (nI (0))), (2, .int (nI (0)))]) [1, 2, 0] dM_isPermutation_3 rfl (by decide) rfl ?_
  have lp_4 : ∀ (k_4 : Nat) (i : Nat), (i ≤ 2 ^ n) → (2 ^ n - i) < k_4 → J 4 [(0, .ref (h)), (1, .int (nI (sn to i))), (2, .int (nI (i)))] [] [((h), .inr (5, [.int (nI (0)), .int (nI (n)), .ref (m1), .int (nI (st)), .ref (m2), .ref (m3), .ref (m4), .int (nI (mn)), .ref (m5), .ref (m6), .ref (m7), .ref (m8), .ref (m9), .ref (ma), .ref (mb)])), kI E (m1) (16) (to)] (0) (0) := by
    intro k_4
    induction k_4 with
    | zero => intro i hi hk_4; exact absurd hk_4 (Nat.not_lt_zero _)
    | succ k_4 ih_4 =>
      intro i hi hk_4
      refine J_iload_n C 2 dM_isPermutation_4 rfl rfl ?_
      refine J_aload_n C 0 dM_isPermutation_5 rfl rfl ?_
      refine J_callV C (rest := [.int (nI (i))]) [] [((h), .inr (5, [.int (nI (0)), .int (nI (n)), .ref (m1), .int (nI (st)), .ref (m2), .ref (m3), .ref (m4), .int (nI (mn)), .ref (m5), .ref (m6), .ref (m7), .ref (m8), .ref (m9), .ref (ma), .ref (mb)]))] [kI E (m1) (16) (to)] 0 (c_M_values E l h n st mn m1 m2 m3 m4 m5 m6 m7 m8 m9 ma mb (by omega) (by omega)) mmM_values msM_values lkM_59 rfl rfl (rfl) rfl rfl ⟨by decide, by decide⟩ ⟨by decide, by decide⟩ (Nat.le_of_ble_eq_true rfl) dM_isPermutation_6 (fun r_c w_c hp => ?_)
      obtain ⟨rfl, rfl⟩ := hp
      refine J_norm C (st' := [.int (nI (2 ^ n)), .int (nI (i))]) (ws' := [((h), .inr (5, [.int (nI (0)), .int (nI (n)), .ref (m1), .int (nI (st)), .ref (m2), .ref (m3), .ref (m4), .int (nI (mn)), .ref (m5), .ref (m6), .ref (m7), .ref (m8), .ref (m9), .ref (ma), .ref (mb)])), kI E (m1) (16) (to)]) (cs' := 0) (ss' := 0) rfl (rfl) rfl rfl ?_
      refine J_icmp_ge C 29 (nI_toInt (n := i) (by omega)) (nI_toInt (n := 2 ^ n) (by omega)) dM_isPermutation_9 (by decide) (fun h9 => ?_) (fun h9 => ?_)
      · obtain rfl : 2 ^ n = i := by omega
        refine J_iload_n C 1 dM_isPermutation_29 rfl rfl ?_
        refine J_iconst C (v := nI (1)) dM_isPermutation_30 (by decide) ?_
        refine J_aload_n C 0 dM_isPermutation_31 rfl rfl ?_
        refine J_callV C (rest := [.int (nI (1)), .int (nI (sn to (2 ^ n)))]) [] [((h), .inr (5, [.int (nI (0)), .int (nI (n)), .ref (m1), .int (nI (st)), .ref (m2), .ref (m3), .ref (m4), .int (nI (mn)), .ref (m5), .ref (m6), .ref (m7), .ref (m8), .ref (m9), .ref (ma), .ref (mb)]))] [kI E (m1) (16) (to)] 0 (c_M_values E l h n st mn m1 m2 m3 m4 m5 m6 m7 m8 m9 ma mb (by omega) (by omega)) mmM_values msM_values lkM_59 rfl rfl (rfl) rfl rfl ⟨by decide, by decide⟩ ⟨by decide, by decide⟩ (Nat.le_of_ble_eq_true rfl) dM_isPermutation_32 (fun r_c w_c hp => ?_)
        obtain ⟨rfl, rfl⟩ := hp
        refine J_norm C (st' := [.int (nI (2 ^ n)), .int (nI (1)), .int (nI (sn to (2 ^ n)))]) (ws' := [((h), .inr (5, [.int (nI (0)), .int (nI (n)), .ref (m1), .int (nI (st)), .ref (m2), .ref (m3), .ref (m4), .int (nI (mn)), .ref (m5), .ref (m6), .ref (m7), .ref (m8), .ref (m9), .ref (ma), .ref (mb)])), kI E (m1) (16) (to)]) (cs' := 0) (ss' := 0) rfl (rfl) rfl rfl ?_
        refine J_ishl1 C dM_isPermutation_35 (by omega) ?_
        refine J_iconst C (v := nI (1)) dM_isPermutation_36 (by decide) ?_
        refine J_isubN C dM_isPermutation_37 (by omega) ?_
        refine J_icmp_ne C 45 (nI_toInt (n := sn to (2 ^ n)) (by omega)) (nI_toInt (n := (2 ^ (2 ^ n)) - 1) (by omega)) dM_isPermutation_38 (by decide) (fun h38 => ?_) (fun h38 => ?_)
        · refine J_iconst C (v := nI (0)) dM_isPermutation_45 (by decide) ?_
          exact hret _ _ _ _ _ _ dM_isPermutation_46 (by decide) (by decide) (by decide) (⟨rfl, rfl⟩)
        · exfalso; omega
      · refine J_iload_n C 1 dM_isPermutation_12 rfl rfl ?_
        refine J_iconst C (v := nI (1)) dM_isPermutation_13 (by decide) ?_
        refine J_aload_n C 0 dM_isPermutation_14 rfl rfl ?_
        refine J_get C 0 2 hinM rfl rfl (by decide) fkM_7 rfl dM_isPermutation_15 ?_
        refine J_iload_n C 2 dM_isPermutation_18 rfl rfl ?_
        refine J_iald C 1 rfl (by omega) (by omega) dM_isPermutation_19 ?_
        refine J_ishl1 C dM_isPermutation_20 (by have := ht i (by omega); omega) ?_
        refine J_iorN C dM_isPermutation_21 ?_
        refine J_istore_n C (lv' := [(0, .ref (h)), (1, .int (nI ((sn to i) ||| (2 ^ (to i))))), (2, .int (nI (i)))]) [1, 0, 2] dM_isPermutation_22 rfl (by decide) rfl ?_
        refine J_iinc C (lv' := [(0, .ref (h)), (1, .int (nI ((sn to i) ||| (2 ^ (to i))))), (2, .int (nI (i + 1)))]) 2 [1, 2, 0] dM_isPermutation_23 rfl (jn_inc _) (by decide) rfl ?_
        refine J_goto C 4 dM_isPermutation_26 (by decide) ?_
        exact ih_4 (i + 1) (by omega) (by omega)
  exact lp_4 (2 ^ n + 1) 0 (by omega) (by omega)
set_option maxHeartbeats 4000000 in
set_option maxRecDepth 100000 in
theorem c_M_apply_t (E : jE) (l : Launch) (h : Nat) (n : Nat) (st : Nat) (mn : Nat) (m1 : Nat) (m2 : Nat) (m3 : Nat) (m4 : Nat) (m5 : Nat) (m6 : Nat) (m7 : Nat) (m8 : Nat) (m9 : Nat) (ma : Nat) (mb : Nat) (to : Nat → Nat) (a : Nat) (c : Nat) (hn1 : 1 ≤ n) (hn4 : n ≤ 4) (ha : a < n) (hc : c < 2 ^ n) (hb : c.testBit a = false) (ht : ∀ v, v < 2 ^ n → to v < 2 ^ n) : Con E l yM_apply bM_apply 5 (some .boolean) { frames := 2, cells := 0, slots := 0, locals := 41 } [.ref (h), .int (nI (16 * a + c))] [((h), .inr (5, [.int (nI (0)), .int (nI (n)), .ref (m1), .int (nI (st)), .ref (m2), .ref (m3), .ref (m4), .int (nI (mn)), .ref (m5), .ref (m6), .ref (m7), .ref (m8), .ref (m9), .ref (ma), .ref (mb)])), kI E (m1) (16) (to)] (fun r w => r = some (.int (nI 1)) ∧ w = [((h), .inr (5, [.int (nI (0)), .int (nI (n)), .ref (m1), .int (nI (st)), .ref (m2), .ref (m3), .ref (m4), .int (nI (mn)), .ref (m5), .ref (m6), .ref (m7), .ref (m8), .ref (m9), .ref (ma), .ref (mb)])), kI E (m1) (16) (gAp n to a c)]) := by
  refine Con.ofZ (by decide) (Nat.le_of_ble_eq_true rfl) ?_
  intro J C hret
  show J 0 [(0, .ref (h)), (1, .int (nI (16 * a + c)))] [] [((h), .inr (5, [.int (nI (0)), .int (nI (n)), .ref (m1), .int (nI (st)), .ref (m2), .ref (m3), .ref (m4), .int (nI (mn)), .ref (m5), .ref (m6), .ref (m7), .ref (m8), .ref (m9), .ref (ma), .ref (mb)])), kI E (m1) (16) (to)] 0 0
  have hp16 := p16 hn4
  have hp1 := p1 n
  refine J_aload_n C 0 dM_apply_0 rfl rfl ?_
  refine J_iconst C (v := nI (0)) dM_apply_1 (by decide) ?_
  refine J_put C (ws' := [((h), .inr (5, [.int (nI (0)), .int (nI (n)), .ref (m1), .int (nI (st)), .ref (m2), .ref (m3), .ref (m4), .int (nI (mn)), .ref (m5), .ref (m6), .ref (m7), .ref (m8), .ref (m9), .ref (ma), .ref (mb)])), kI E (m1) (16) (to)]) 0 0 tyM hinM tyokM nmM rfl rfl (by decide) fkM_53 rfl rfl rfl (Nat.le_of_ble_eq_true rfl) dM_apply_2 rfl ?_
  refine J_iload_n C 1 dM_apply_5 rfl rfl ?_
  refine J_if_ge C 11 (nI_toInt (n := 16 * a + c) (by omega)) dM_apply_6 (by decide) (fun h6 => ?_) (fun h6 => ?_)
  · refine J_iload_n C 1 dM_apply_11 rfl rfl ?_
    refine J_bipush C (v := nI (16)) dM_apply_12 (by decide) ?_
    refine J_idivN C dM_apply_14 (by omega) (by omega) (by omega) ?_
    refine J_topN C (n' := a) (by omega) ?_
    refine J_istore_n C (lv' := [(0, .ref (h)), (1, .int (nI (16 * a + c))), (2, .int (nI (a)))]) [1, 2, 0] dM_apply_15 rfl (by decide) rfl ?_
    refine J_iload_n C 1 dM_apply_16 rfl rfl ?_
    refine J_bipush C (v := nI (16)) dM_apply_17 (by decide) ?_
    refine J_iremN C dM_apply_19 (by omega) (by omega) (by omega) ?_
    refine J_topN C (n' := c) (by omega) ?_
    refine J_istore_n C (lv' := [(0, .ref (h)), (1, .int (nI (16 * a + c))), (2, .int (nI (a))), (3, .int (nI (c)))]) [1, 2, 3, 0] dM_apply_20 rfl (by decide) rfl ?_
    refine J_iload_n C 2 dM_apply_21 rfl rfl ?_
    refine J_aload_n C 0 dM_apply_22 rfl rfl ?_
    refine J_get C 0 1 hinM rfl rfl (by decide) fkM_56 rfl dM_apply_23 ?_
    refine J_icmp_ge C 46 (nI_toInt (n := a) (by omega)) (nI_toInt (n := n) (by omega)) dM_apply_26 (by decide) (fun h26 => ?_) (fun h26 => ?_)
    · exfalso; omega
    · refine J_aload_n C 0 dM_apply_29 rfl rfl ?_
      refine J_iload_n C 3 dM_apply_30 rfl rfl ?_
      refine J_callV C (rest := []) [] [((h), .inr (5, [.int (nI (0)), .int (nI (n)), .ref (m1), .int (nI (st)), .ref (m2), .ref (m3), .ref (m4), .int (nI (mn)), .ref (m5), .ref (m6), .ref (m7), .ref (m8), .ref (m9), .ref (ma), .ref (mb)]))] [kI E (m1) (16) (to)] 0 (c_M_isValue_t E l h n st mn m1 m2 m3 m4 m5 m6 m7 m8 m9 ma mb c (by omega) (by omega) (by omega)) mmM_isValue msM_isValue lkM_63 rfl rfl (rfl) rfl rfl ⟨by decide, by decide⟩ ⟨by decide, by decide⟩ (Nat.le_of_ble_eq_true rfl) dM_apply_31 (fun r_c w_c hp => ?_)
      obtain ⟨rfl, rfl⟩ := hp
      refine J_norm C (st' := [.int (nI (1))]) (ws' := [((h), .inr (5, [.int (nI (0)), .int (nI (n)), .ref (m1), .int (nI (st)), .ref (m2), .ref (m3), .ref (m4), .int (nI (mn)), .ref (m5), .ref (m6), .ref (m7), .ref (m8), .ref (m9), .ref (ma), .ref (mb)])), kI E (m1) (16) (to)]) (cs' := 0) (ss' := 0) rfl (rfl) rfl rfl ?_
      refine J_if_eq C 46 (nI_toInt (n := 1) (by decide)) dM_apply_34 (by decide) (fun h34 => ?_) (fun h34 => ?_)
      · exfalso; omega
      · refine J_iload_n C 3 dM_apply_37 rfl rfl ?_
        refine J_iload_n C 2 dM_apply_38 rfl rfl ?_
        refine J_ishrN C dM_apply_39 (by omega) (by omega) ?_
        refine J_iconst C (v := nI (1)) dM_apply_40 (by decide) ?_
        refine J_iandN C dM_apply_41 ?_
        refine J_topN C (n' := 0) (by rw [tb_and1, hb]; rfl) ?_
        refine J_iconst C (v := nI (1)) dM_apply_42 (by decide) ?_
        refine J_icmp_ne C 48 (nI_toInt (n := 0) (by decide)) (nI_toInt (n := 1) (by decide)) dM_apply_43 (by decide) (fun h43 => ?_) (fun h43 => ?_)
        · refine J_iconst C (v := nI (0)) dM_apply_48 (by decide) ?_
          refine J_istore C (lv' := [(0, .ref (h)), (1, .int (nI (16 * a + c))), (2, .int (nI (a))), (3, .int (nI (c))), (4, .int (nI (0)))]) [1, 2, 3, 4, 0] dM_apply_49 (by decide) rfl ?_
          have lp_51 : ∀ (k_51 : Nat) (i : Nat) (f : Nat → Nat), (i ≤ 2 ^ n) → (∀ j, f j = if j < i then chg (to j) a c else to j) → (2 ^ n - i) < k_51 → J 51 [(0, .ref (h)), (1, .int (nI (16 * a + c))), (2, .int (nI (a))), (3, .int (nI (c))), (4, .int (nI (i)))] [] [((h), .inr (5, [.int (nI (0)), .int (nI (n)), .ref (m1), .int (nI (st)), .ref (m2), .ref (m3), .ref (m4), .int (nI (mn)), .ref (m5), .ref (m6), .ref (m7), .ref (m8), .ref (m9), .ref (ma), .ref (mb)])), kI E (m1) (16) (f)] (0) (0) := by
            intro k_51
            induction k_51 with
            | zero => intro i f hi hf hk_51; exact absurd hk_51 (Nat.not_lt_zero _)
            | succ k_51 ih_51 =>
              intro i f hi hf hk_51
              refine J_iload C 4 dM_apply_51 rfl ?_
              refine J_aload_n C 0 dM_apply_53 rfl rfl ?_
              refine J_callV C (rest := [.int (nI (i))]) [] [((h), .inr (5, [.int (nI (0)), .int (nI (n)), .ref (m1), .int (nI (st)), .ref (m2), .ref (m3), .ref (m4), .int (nI (mn)), .ref (m5), .ref (m6), .ref (m7), .ref (m8), .ref (m9), .ref (ma), .ref (mb)]))] [kI E (m1) (16) (f)] 0 (c_M_values E l h n st mn m1 m2 m3 m4 m5 m6 m7 m8 m9 ma mb (by omega) (by omega)) mmM_values msM_values lkM_59 rfl rfl (rfl) rfl rfl ⟨by decide, by decide⟩ ⟨by decide, by decide⟩ (Nat.le_of_ble_eq_true rfl) dM_apply_54 (fun r_c w_c hp => ?_)
              obtain ⟨rfl, rfl⟩ := hp
              refine J_norm C (st' := [.int (nI (2 ^ n)), .int (nI (i))]) (ws' := [((h), .inr (5, [.int (nI (0)), .int (nI (n)), .ref (m1), .int (nI (st)), .ref (m2), .ref (m3), .ref (m4), .int (nI (mn)), .ref (m5), .ref (m6), .ref (m7), .ref (m8), .ref (m9), .ref (ma), .ref (mb)])), kI E (m1) (16) (f)]) (cs' := 0) (ss' := 0) rfl (rfl) rfl rfl ?_
              refine J_icmp_ge C 85 (nI_toInt (n := i) (by omega)) (nI_toInt (n := 2 ^ n) (by omega)) dM_apply_57 (by decide) (fun h57 => ?_) (fun h57 => ?_)
              · have ef : f = gAp n to a c := by
                  funext j
                  rw [hf j]
                  unfold gAp
                  rw [show i = 2 ^ n by omega]
                subst ef
                refine J_iconst C (v := nI (1)) dM_apply_85 (by decide) ?_
                exact hret _ _ _ _ _ _ dM_apply_86 (by decide) (by decide) (by decide) (⟨rfl, rfl⟩)
              · refine J_aload_n C 0 dM_apply_60 rfl rfl ?_
                refine J_get C 0 2 hinM rfl rfl (by decide) fkM_7 rfl dM_apply_61 ?_
                refine J_iload C 4 dM_apply_64 rfl ?_
                refine J_aload_n C 0 dM_apply_66 rfl rfl ?_
                refine J_get C 0 2 hinM rfl rfl (by decide) fkM_7 rfl dM_apply_67 ?_
                refine J_iload C 4 dM_apply_70 rfl ?_
                refine J_iald C 1 rfl (by omega) (by omega) dM_apply_72 ?_
                refine J_topN C (n' := to i) (by rw [hf]; simp) ?_
                refine J_iload_n C 2 dM_apply_73 rfl rfl ?_
                refine J_iload_n C 3 dM_apply_74 rfl rfl ?_
                refine J_callS C (rest := [.int (nI (i)), .ref (m1)]) [] [] [((h), .inr (5, [.int (nI (0)), .int (nI (n)), .ref (m1), .int (nI (st)), .ref (m2), .ref (m3), .ref (m4), .int (nI (mn)), .ref (m5), .ref (m6), .ref (m7), .ref (m8), .ref (m9), .ref (ma), .ref (mb)])), kI E (m1) (16) (f)] (c_M_changed E l (to i) a c (by have := ht i (by omega); omega) (by omega) (by omega)) mmM_changed lkM_67 (rfl) rfl rfl ⟨by decide, by decide⟩ ⟨by decide, by decide⟩ (Nat.le_of_ble_eq_true rfl) dM_apply_75 (fun r_c w_c hp => ?_)
                obtain ⟨rfl, rfl⟩ := hp
                refine J_norm C (st' := [.int (nI (chg (to i) a c)), .int (nI (i)), .ref (m1)]) (ws' := [((h), .inr (5, [.int (nI (0)), .int (nI (n)), .ref (m1), .int (nI (st)), .ref (m2), .ref (m3), .ref (m4), .int (nI (mn)), .ref (m5), .ref (m6), .ref (m7), .ref (m8), .ref (m9), .ref (ma), .ref (mb)])), kI E (m1) (16) (f)]) (cs' := 0) (ss' := 0) rfl (rfl) rfl rfl ?_
                refine J_iastN C (ws' := [((h), .inr (5, [.int (nI (0)), .int (nI (n)), .ref (m1), .int (nI (st)), .ref (m2), .ref (m3), .ref (m4), .int (nI (mn)), .ref (m5), .ref (m6), .ref (m7), .ref (m8), .ref (m9), .ref (ma), .ref (mb)])), kI E (m1) (16) (upN f i (chg (to i) a c))]) 1 rfl (by omega) (by omega) dM_apply_78 rfl ?_
                refine J_iinc C (lv' := [(0, .ref (h)), (1, .int (nI (16 * a + c))), (2, .int (nI (a))), (3, .int (nI (c))), (4, .int (nI (i + 1)))]) 4 [1, 2, 3, 4, 0] dM_apply_79 rfl (jn_inc _) (by decide) rfl ?_
                refine J_goto C 51 dM_apply_82 (by decide) ?_
                exact ih_51 (i + 1) (upN f i (chg (to i) a c)) (by omega) (cp_s (t := fun j => chg (to j) a c) hf) (by omega)
          exact lp_51 (2 ^ n + 1) 0 to (by omega) (by intro j; simp) (by omega)
        · exfalso; omega
  · exfalso; omega
set_option maxHeartbeats 4000000 in
set_option maxRecDepth 100000 in
theorem c_M_apply_n (E : jE) (l : Launch) (h : Nat) (n : Nat) (st : Nat) (mn : Nat) (m1 : Nat) (m2 : Nat) (m3 : Nat) (m4 : Nat) (m5 : Nat) (m6 : Nat) (m7 : Nat) (m8 : Nat) (m9 : Nat) (ma : Nat) (mb : Nat) (x : Int32) (hn1 : 1 ≤ n) (hn4 : n ≤ 4) (hx : x.toInt < 0) : Con E l yM_apply bM_apply 5 (some .boolean) { frames := 0, cells := 0, slots := 0, locals := 0 } [.ref (h), .int (x)] [((h), .inr (5, [.int (nI (0)), .int (nI (n)), .ref (m1), .int (nI (st)), .ref (m2), .ref (m3), .ref (m4), .int (nI (mn)), .ref (m5), .ref (m6), .ref (m7), .ref (m8), .ref (m9), .ref (ma), .ref (mb)]))] (fun r w => r = some (.int (nI 0)) ∧ w = [((h), .inr (5, [.int (nI (0)), .int (nI (n)), .ref (m1), .int (nI (st)), .ref (m2), .ref (m3), .ref (m4), .int (nI (mn)), .ref (m5), .ref (m6), .ref (m7), .ref (m8), .ref (m9), .ref (ma), .ref (mb)]))]) := by
  refine Con.ofZ (by decide) (Nat.le_of_ble_eq_true rfl) ?_
  intro J C hret
  show J 0 [(0, .ref (h)), (1, .int (x))] [] [((h), .inr (5, [.int (nI (0)), .int (nI (n)), .ref (m1), .int (nI (st)), .ref (m2), .ref (m3), .ref (m4), .int (nI (mn)), .ref (m5), .ref (m6), .ref (m7), .ref (m8), .ref (m9), .ref (ma), .ref (mb)]))] 0 0
  have hp16 := p16 hn4
  have hp1 := p1 n
  refine J_aload_n C 0 dM_apply_0 rfl rfl ?_
  refine J_iconst C (v := nI (0)) dM_apply_1 (by decide) ?_
  refine J_put C (ws' := [((h), .inr (5, [.int (nI (0)), .int (nI (n)), .ref (m1), .int (nI (st)), .ref (m2), .ref (m3), .ref (m4), .int (nI (mn)), .ref (m5), .ref (m6), .ref (m7), .ref (m8), .ref (m9), .ref (ma), .ref (mb)]))]) 0 0 tyM hinM tyokM nmM rfl rfl (by decide) fkM_53 rfl rfl rfl (Nat.le_of_ble_eq_true rfl) dM_apply_2 rfl ?_
  refine J_iload_n C 1 dM_apply_5 rfl rfl ?_
  refine J_if_ge C 11 rfl dM_apply_6 (by decide) (fun h6 => ?_) (fun h6 => ?_)
  · exfalso; omega
  · refine J_iconst C (v := nI (0)) dM_apply_9 (by decide) ?_
    exact hret _ _ _ _ _ _ dM_apply_10 (by decide) (by decide) (by decide) (⟨rfl, rfl⟩)
set_option maxHeartbeats 4000000 in
set_option maxRecDepth 100000 in
theorem c_M_apply_v (E : jE) (l : Launch) (h : Nat) (n : Nat) (st : Nat) (mn : Nat) (m1 : Nat) (m2 : Nat) (m3 : Nat) (m4 : Nat) (m5 : Nat) (m6 : Nat) (m7 : Nat) (m8 : Nat) (m9 : Nat) (ma : Nat) (mb : Nat) (g : Nat) (hn1 : 1 ≤ n) (hn4 : n ≤ 4) (hg : g < 2 ^ 31) (hv : g % 16 < 2 ^ n) (hx : ¬ (g / 16 < n ∧ g % 16 < 2 ^ n ∧ (g % 16).testBit (g / 16) = false)) : Con E l yM_apply bM_apply 5 (some .boolean) { frames := 2, cells := 0, slots := 0, locals := 41 } [.ref (h), .int (nI (g))] [((h), .inr (5, [.int (nI (0)), .int (nI (n)), .ref (m1), .int (nI (st)), .ref (m2), .ref (m3), .ref (m4), .int (nI (mn)), .ref (m5), .ref (m6), .ref (m7), .ref (m8), .ref (m9), .ref (ma), .ref (mb)]))] (fun r w => r = some (.int (nI 0)) ∧ w = [((h), .inr (5, [.int (nI (0)), .int (nI (n)), .ref (m1), .int (nI (st)), .ref (m2), .ref (m3), .ref (m4), .int (nI (mn)), .ref (m5), .ref (m6), .ref (m7), .ref (m8), .ref (m9), .ref (ma), .ref (mb)]))]) := by
  refine Con.ofZ (by decide) (Nat.le_of_ble_eq_true rfl) ?_
  intro J C hret
  show J 0 [(0, .ref (h)), (1, .int (nI (g)))] [] [((h), .inr (5, [.int (nI (0)), .int (nI (n)), .ref (m1), .int (nI (st)), .ref (m2), .ref (m3), .ref (m4), .int (nI (mn)), .ref (m5), .ref (m6), .ref (m7), .ref (m8), .ref (m9), .ref (ma), .ref (mb)]))] 0 0
  have hp16 := p16 hn4
  have hp1 := p1 n
  have ex : (nI (g % 16)).toInt = ((g % 16 : Nat) : Int) := nI_toInt (by omega)
  refine J_aload_n C 0 dM_apply_0 rfl rfl ?_
  refine J_iconst C (v := nI (0)) dM_apply_1 (by decide) ?_
  refine J_put C (ws' := [((h), .inr (5, [.int (nI (0)), .int (nI (n)), .ref (m1), .int (nI (st)), .ref (m2), .ref (m3), .ref (m4), .int (nI (mn)), .ref (m5), .ref (m6), .ref (m7), .ref (m8), .ref (m9), .ref (ma), .ref (mb)]))]) 0 0 tyM hinM tyokM nmM rfl rfl (by decide) fkM_53 rfl rfl rfl (Nat.le_of_ble_eq_true rfl) dM_apply_2 rfl ?_
  refine J_iload_n C 1 dM_apply_5 rfl rfl ?_
  refine J_if_ge C 11 (nI_toInt (n := g) (by omega)) dM_apply_6 (by decide) (fun h6 => ?_) (fun h6 => ?_)
  · refine J_iload_n C 1 dM_apply_11 rfl rfl ?_
    refine J_bipush C (v := nI (16)) dM_apply_12 (by decide) ?_
    refine J_idivN C dM_apply_14 (by omega) (by omega) (by omega) ?_
    refine J_istore_n C (lv' := [(0, .ref (h)), (1, .int (nI (g))), (2, .int (nI (g / 16)))]) [1, 2, 0] dM_apply_15 rfl (by decide) rfl ?_
    refine J_iload_n C 1 dM_apply_16 rfl rfl ?_
    refine J_bipush C (v := nI (16)) dM_apply_17 (by decide) ?_
    refine J_iremN C dM_apply_19 (by omega) (by omega) (by omega) ?_
    refine J_istore_n C (lv' := [(0, .ref (h)), (1, .int (nI (g))), (2, .int (nI (g / 16))), (3, .int (nI (g % 16)))]) [1, 2, 3, 0] dM_apply_20 rfl (by decide) rfl ?_
    refine J_iload_n C 2 dM_apply_21 rfl rfl ?_
    refine J_aload_n C 0 dM_apply_22 rfl rfl ?_
    refine J_get C 0 1 hinM rfl rfl (by decide) fkM_56 rfl dM_apply_23 ?_
    refine J_icmp_ge C 46 (nI_toInt (n := g / 16) (by omega)) (nI_toInt (n := n) (by omega)) dM_apply_26 (by decide) (fun h26 => ?_) (fun h26 => ?_)
    · refine J_iconst C (v := nI (0)) dM_apply_46 (by decide) ?_
      exact hret _ _ _ _ _ _ dM_apply_47 (by decide) (by decide) (by decide) (⟨rfl, rfl⟩)
    · refine J_aload_n C 0 dM_apply_29 rfl rfl ?_
      refine J_iload_n C 3 dM_apply_30 rfl rfl ?_
      refine J_callV C (rest := []) [] [((h), .inr (5, [.int (nI (0)), .int (nI (n)), .ref (m1), .int (nI (st)), .ref (m2), .ref (m3), .ref (m4), .int (nI (mn)), .ref (m5), .ref (m6), .ref (m7), .ref (m8), .ref (m9), .ref (ma), .ref (mb)]))] [] 0 (c_M_isValue_t E l h n st mn m1 m2 m3 m4 m5 m6 m7 m8 m9 ma mb (g % 16) (by omega) (by omega) (by omega)) mmM_isValue msM_isValue lkM_63 rfl rfl (rfl) rfl rfl ⟨by decide, by decide⟩ ⟨by decide, by decide⟩ (Nat.le_of_ble_eq_true rfl) dM_apply_31 (fun r_c w_c hp => ?_)
      obtain ⟨rfl, rfl⟩ := hp
      refine J_norm C (st' := [.int (nI (1))]) (ws' := [((h), .inr (5, [.int (nI (0)), .int (nI (n)), .ref (m1), .int (nI (st)), .ref (m2), .ref (m3), .ref (m4), .int (nI (mn)), .ref (m5), .ref (m6), .ref (m7), .ref (m8), .ref (m9), .ref (ma), .ref (mb)]))]) (cs' := 0) (ss' := 0) rfl (rfl) rfl rfl ?_
      refine J_if_eq C 46 (nI_toInt (n := 1) (by decide)) dM_apply_34 (by decide) (fun h34 => ?_) (fun h34 => ?_)
      · exfalso; omega
      · refine J_iload_n C 3 dM_apply_37 rfl rfl ?_
        refine J_iload_n C 2 dM_apply_38 rfl rfl ?_
        refine J_ishrN C dM_apply_39 (by omega) (by omega) ?_
        refine J_iconst C (v := nI (1)) dM_apply_40 (by decide) ?_
        refine J_iandN C dM_apply_41 ?_
        refine J_iconst C (v := nI (1)) dM_apply_42 (by decide) ?_
        refine J_icmp_ne C 48 (nI_toInt (n := ((g % 16) / 2 ^ (g / 16)) &&& 1) (by have := Nat.and_le_right (n := g % 16 / 2 ^ (g / 16)) (m := 1); omega)) (nI_toInt (n := 1) (by decide)) dM_apply_43 (by decide) (fun h43 => ?_) (fun h43 => ?_)
        · exfalso
          refine hx ⟨by omega, by omega, ?_⟩
          rw [tb_and1] at h43
          cases hq : (g % 16).testBit (g / 16) with
          | false => rfl
          | true => simp [hq] at h43
        · refine J_iconst C (v := nI (0)) dM_apply_46 (by decide) ?_
          exact hret _ _ _ _ _ _ dM_apply_47 (by decide) (by decide) (by decide) (⟨rfl, rfl⟩)
  · exfalso; omega
set_option maxHeartbeats 4000000 in
set_option maxRecDepth 100000 in
theorem c_M_apply_f (E : jE) (l : Launch) (h : Nat) (n : Nat) (st : Nat) (mn : Nat) (m1 : Nat) (m2 : Nat) (m3 : Nat) (m4 : Nat) (m5 : Nat) (m6 : Nat) (m7 : Nat) (m8 : Nat) (m9 : Nat) (ma : Nat) (mb : Nat) (g : Nat) (hn1 : 1 ≤ n) (hn4 : n ≤ 4) (hg : g < 2 ^ 31) (hv : 2 ^ n ≤ g % 16) (hx : ¬ (g / 16 < n ∧ g % 16 < 2 ^ n ∧ (g % 16).testBit (g / 16) = false)) : Con E l yM_apply bM_apply 5 (some .boolean) { frames := 2, cells := 0, slots := 0, locals := 41 } [.ref (h), .int (nI (g))] [((h), .inr (5, [.int (nI (0)), .int (nI (n)), .ref (m1), .int (nI (st)), .ref (m2), .ref (m3), .ref (m4), .int (nI (mn)), .ref (m5), .ref (m6), .ref (m7), .ref (m8), .ref (m9), .ref (ma), .ref (mb)]))] (fun r w => r = some (.int (nI 0)) ∧ w = [((h), .inr (5, [.int (nI (0)), .int (nI (n)), .ref (m1), .int (nI (st)), .ref (m2), .ref (m3), .ref (m4), .int (nI (mn)), .ref (m5), .ref (m6), .ref (m7), .ref (m8), .ref (m9), .ref (ma), .ref (mb)]))]) := by
  refine Con.ofZ (by decide) (Nat.le_of_ble_eq_true rfl) ?_
  intro J C hret
  show J 0 [(0, .ref (h)), (1, .int (nI (g)))] [] [((h), .inr (5, [.int (nI (0)), .int (nI (n)), .ref (m1), .int (nI (st)), .ref (m2), .ref (m3), .ref (m4), .int (nI (mn)), .ref (m5), .ref (m6), .ref (m7), .ref (m8), .ref (m9), .ref (ma), .ref (mb)]))] 0 0
  have hp16 := p16 hn4
  have hp1 := p1 n
  have ex : (nI (g % 16)).toInt = ((g % 16 : Nat) : Int) := nI_toInt (by omega)
  refine J_aload_n C 0 dM_apply_0 rfl rfl ?_
  refine J_iconst C (v := nI (0)) dM_apply_1 (by decide) ?_
  refine J_put C (ws' := [((h), .inr (5, [.int (nI (0)), .int (nI (n)), .ref (m1), .int (nI (st)), .ref (m2), .ref (m3), .ref (m4), .int (nI (mn)), .ref (m5), .ref (m6), .ref (m7), .ref (m8), .ref (m9), .ref (ma), .ref (mb)]))]) 0 0 tyM hinM tyokM nmM rfl rfl (by decide) fkM_53 rfl rfl rfl (Nat.le_of_ble_eq_true rfl) dM_apply_2 rfl ?_
  refine J_iload_n C 1 dM_apply_5 rfl rfl ?_
  refine J_if_ge C 11 (nI_toInt (n := g) (by omega)) dM_apply_6 (by decide) (fun h6 => ?_) (fun h6 => ?_)
  · refine J_iload_n C 1 dM_apply_11 rfl rfl ?_
    refine J_bipush C (v := nI (16)) dM_apply_12 (by decide) ?_
    refine J_idivN C dM_apply_14 (by omega) (by omega) (by omega) ?_
    refine J_istore_n C (lv' := [(0, .ref (h)), (1, .int (nI (g))), (2, .int (nI (g / 16)))]) [1, 2, 0] dM_apply_15 rfl (by decide) rfl ?_
    refine J_iload_n C 1 dM_apply_16 rfl rfl ?_
    refine J_bipush C (v := nI (16)) dM_apply_17 (by decide) ?_
    refine J_iremN C dM_apply_19 (by omega) (by omega) (by omega) ?_
    refine J_istore_n C (lv' := [(0, .ref (h)), (1, .int (nI (g))), (2, .int (nI (g / 16))), (3, .int (nI (g % 16)))]) [1, 2, 3, 0] dM_apply_20 rfl (by decide) rfl ?_
    refine J_iload_n C 2 dM_apply_21 rfl rfl ?_
    refine J_aload_n C 0 dM_apply_22 rfl rfl ?_
    refine J_get C 0 1 hinM rfl rfl (by decide) fkM_56 rfl dM_apply_23 ?_
    refine J_icmp_ge C 46 (nI_toInt (n := g / 16) (by omega)) (nI_toInt (n := n) (by omega)) dM_apply_26 (by decide) (fun h26 => ?_) (fun h26 => ?_)
    · refine J_iconst C (v := nI (0)) dM_apply_46 (by decide) ?_
      exact hret _ _ _ _ _ _ dM_apply_47 (by decide) (by decide) (by decide) (⟨rfl, rfl⟩)
    · refine J_aload_n C 0 dM_apply_29 rfl rfl ?_
      refine J_iload_n C 3 dM_apply_30 rfl rfl ?_
      refine J_callV C (rest := []) [] [((h), .inr (5, [.int (nI (0)), .int (nI (n)), .ref (m1), .int (nI (st)), .ref (m2), .ref (m3), .ref (m4), .int (nI (mn)), .ref (m5), .ref (m6), .ref (m7), .ref (m8), .ref (m9), .ref (ma), .ref (mb)]))] [] 0 (c_M_isValue_f E l h n st mn m1 m2 m3 m4 m5 m6 m7 m8 m9 ma mb (nI (g % 16)) (by omega) (by omega) (by omega)) mmM_isValue msM_isValue lkM_63 rfl rfl (rfl) rfl rfl ⟨by decide, by decide⟩ ⟨by decide, by decide⟩ (Nat.le_of_ble_eq_true rfl) dM_apply_31 (fun r_c w_c hp => ?_)
      obtain ⟨rfl, rfl⟩ := hp
      refine J_norm C (st' := [.int (nI (0))]) (ws' := [((h), .inr (5, [.int (nI (0)), .int (nI (n)), .ref (m1), .int (nI (st)), .ref (m2), .ref (m3), .ref (m4), .int (nI (mn)), .ref (m5), .ref (m6), .ref (m7), .ref (m8), .ref (m9), .ref (ma), .ref (mb)]))]) (cs' := 0) (ss' := 0) rfl (rfl) rfl rfl ?_
      refine J_if_eq C 46 (nI_toInt (n := 0) (by decide)) dM_apply_34 (by decide) (fun h34 => ?_) (fun h34 => ?_)
      · refine J_iconst C (v := nI (0)) dM_apply_46 (by decide) ?_
        exact hret _ _ _ _ _ _ dM_apply_47 (by decide) (by decide) (by decide) (⟨rfl, rfl⟩)
      · exfalso; omega
  · exfalso; omega
set_option maxHeartbeats 4000000 in
set_option maxRecDepth 100000 in
theorem c_M_doGate (E : jE) (l : Launch) (h : Nat) (n : Nat) (st : Nat) (m1 : Nat) (m2 : Nat) (m3 : Nat) (m4 : Nat) (m5 : Nat) (m6 : Nat) (m7 : Nat) (m8 : Nat) (m9 : Nat) (ma : Nat) (mb : Nat) (s : gS) (F : Nat → Nat) (a : Nat) (c : Nat) (hn1 : 1 ≤ n) (hn4 : n ≤ 4) (hok : gOk n s.1) (hF : gL F s.2) (ha : a < n) (hc : c < 2 ^ n) (hlen : s.2.length < 64) : Con E l yM_doGate bM_doGate 4 none { frames := 1, cells := 0, slots := 0, locals := 22 } [.ref (h), .int (nI (a)), .int (nI (c))] [((h), .inr (5, [.int (nI (0)), .int (nI (n)), .ref (m1), .int (nI (st)), .ref (m2), .ref (m3), .ref (m4), .int (nI (s.2.length)), .ref (m5), .ref (m6), .ref (m7), .ref (m8), .ref (m9), .ref (ma), .ref (mb)])), kI E (m3) (16) (s.1), kI E (m4) (64) (F)] (fun r w => ∃ F' : Nat → Nat, r = none ∧ gL F' (gU n s a c).2 ∧ w = [((h), .inr (5, [.int (nI (0)), .int (nI (n)), .ref (m1), .int (nI (st)), .ref (m2), .ref (m3), .ref (m4), .int (nI ((gU n s a c).2.length)), .ref (m5), .ref (m6), .ref (m7), .ref (m8), .ref (m9), .ref (ma), .ref (mb)])), kI E (m3) (16) ((gU n s a c).1), kI E (m4) (64) (F')]) := by
  refine Con.ofV (by decide) (Nat.le_of_ble_eq_true rfl) ?_
  intro J C hret
  show J 0 [(0, .ref (h)), (1, .int (nI (a))), (2, .int (nI (c)))] [] [((h), .inr (5, [.int (nI (0)), .int (nI (n)), .ref (m1), .int (nI (st)), .ref (m2), .ref (m3), .ref (m4), .int (nI (s.2.length)), .ref (m5), .ref (m6), .ref (m7), .ref (m8), .ref (m9), .ref (ma), .ref (mb)])), kI E (m3) (16) (s.1), kI E (m4) (64) (F)] 0 0
  have hp16 := p16 hn4
  have hp1 := p1 n
  refine J_iconst C (v := nI (0)) dM_doGate_0 (by decide) ?_
  refine J_istore_n C (lv' := [(0, .ref (h)), (1, .int (nI (a))), (2, .int (nI (c))), (3, .int (nI (0)))]) [1, 2, 3, 0] dM_doGate_1 rfl (by decide) rfl ?_
  have lp_2 : ∀ (k_2 : Nat) (i : Nat) (f : Nat → Nat), (i ≤ 2 ^ n) → (∀ j, f j = if j < i then chg (s.1 j) a c else s.1 j) → (2 ^ n - i) < k_2 → J 2 [(0, .ref (h)), (1, .int (nI (a))), (2, .int (nI (c))), (3, .int (nI (i)))] [] [((h), .inr (5, [.int (nI (0)), .int (nI (n)), .ref (m1), .int (nI (st)), .ref (m2), .ref (m3), .ref (m4), .int (nI (s.2.length)), .ref (m5), .ref (m6), .ref (m7), .ref (m8), .ref (m9), .ref (ma), .ref (mb)])), kI E (m3) (16) (f), kI E (m4) (64) (F)] (0) (0) := by
    intro k_2
    induction k_2 with
    | zero => intro i f hi hf hk_2; exact absurd hk_2 (Nat.not_lt_zero _)
    | succ k_2 ih_2 =>
      intro i f hi hf hk_2
      refine J_iload_n C 3 dM_doGate_2 rfl rfl ?_
      refine J_aload_n C 0 dM_doGate_3 rfl rfl ?_
      refine J_callV C (rest := [.int (nI (i))]) [] [((h), .inr (5, [.int (nI (0)), .int (nI (n)), .ref (m1), .int (nI (st)), .ref (m2), .ref (m3), .ref (m4), .int (nI (s.2.length)), .ref (m5), .ref (m6), .ref (m7), .ref (m8), .ref (m9), .ref (ma), .ref (mb)]))] [kI E (m3) (16) (f), kI E (m4) (64) (F)] 0 (c_M_values E l h n st s.2.length m1 m2 m3 m4 m5 m6 m7 m8 m9 ma mb (by omega) (by omega)) mmM_values msM_values lkM_59 rfl rfl (rfl) rfl rfl ⟨by decide, by decide⟩ ⟨by decide, by decide⟩ (Nat.le_of_ble_eq_true rfl) dM_doGate_4 (fun r_c w_c hp => ?_)
      obtain ⟨rfl, rfl⟩ := hp
      refine J_norm C (st' := [.int (nI (2 ^ n)), .int (nI (i))]) (ws' := [((h), .inr (5, [.int (nI (0)), .int (nI (n)), .ref (m1), .int (nI (st)), .ref (m2), .ref (m3), .ref (m4), .int (nI (s.2.length)), .ref (m5), .ref (m6), .ref (m7), .ref (m8), .ref (m9), .ref (ma), .ref (mb)])), kI E (m3) (16) (f), kI E (m4) (64) (F)]) (cs' := 0) (ss' := 0) rfl (rfl) rfl rfl ?_
      refine J_icmp_ge C 33 (nI_toInt (n := i) (by omega)) (nI_toInt (n := 2 ^ n) (by omega)) dM_doGate_7 (by decide) (fun h7 => ?_) (fun h7 => ?_)
      · have ef : f = gAp n s.1 a c := by
          funext j
          rw [hf j]
          unfold gAp
          rw [show i = 2 ^ n by omega]
        subst ef
        refine J_aload_n C 0 dM_doGate_33 rfl rfl ?_
        refine J_get C 0 6 hinM rfl rfl (by decide) fkM_19 rfl dM_doGate_34 ?_
        refine J_aload_n C 0 dM_doGate_37 rfl rfl ?_
        refine J_get C 0 7 hinM rfl rfl (by decide) fkM_71 rfl dM_doGate_38 ?_
        refine J_bipush C (v := nI (16)) dM_doGate_41 (by decide) ?_
        refine J_iload_n C 1 dM_doGate_43 rfl rfl ?_
        refine J_imulN C dM_doGate_44 ?_
        refine J_iload_n C 2 dM_doGate_45 rfl rfl ?_
        refine J_iaddN C dM_doGate_46 ?_
        refine J_iastN C (ws' := [((h), .inr (5, [.int (nI (0)), .int (nI (n)), .ref (m1), .int (nI (st)), .ref (m2), .ref (m3), .ref (m4), .int (nI (s.2.length)), .ref (m5), .ref (m6), .ref (m7), .ref (m8), .ref (m9), .ref (ma), .ref (mb)])), kI E (m3) (16) ((gAp n s.1 a c)), kI E (m4) (64) (upN F s.2.length ((16 * a) + c))]) 2 rfl (by omega) (by omega) dM_doGate_47 rfl ?_
        refine J_aload_n C 0 dM_doGate_48 rfl rfl ?_
        refine J_dup C dM_doGate_49 rfl ?_
        refine J_get C 0 7 hinM rfl rfl (by decide) fkM_71 rfl dM_doGate_50 ?_
        refine J_iconst C (v := nI (1)) dM_doGate_53 (by decide) ?_
        refine J_iaddN C dM_doGate_54 ?_
        refine J_put C (ws' := [((h), .inr (5, [.int (nI (0)), .int (nI (n)), .ref (m1), .int (nI (st)), .ref (m2), .ref (m3), .ref (m4), .int (nI (s.2.length + 1)), .ref (m5), .ref (m6), .ref (m7), .ref (m8), .ref (m9), .ref (ma), .ref (mb)])), kI E (m3) (16) ((gAp n s.1 a c)), kI E (m4) (64) (upN F s.2.length ((16 * a) + c))]) 0 7 tyM hinM tyokM nmM rfl rfl (by decide) fkM_71 rfl rfl rfl (Nat.le_of_ble_eq_true rfl) dM_doGate_55 rfl ?_
        exact hret _ _ _ _ _ dM_doGate_58 (by decide) (by decide) (⟨_, rfl, gL_push hF, by simp [gU]⟩)
      · refine J_aload_n C 0 dM_doGate_10 rfl rfl ?_
        refine J_get C 0 5 hinM rfl rfl (by decide) fkM_16 rfl dM_doGate_11 ?_
        refine J_iload_n C 3 dM_doGate_14 rfl rfl ?_
        refine J_aload_n C 0 dM_doGate_15 rfl rfl ?_
        refine J_get C 0 5 hinM rfl rfl (by decide) fkM_16 rfl dM_doGate_16 ?_
        refine J_iload_n C 3 dM_doGate_19 rfl rfl ?_
        refine J_iald C 1 rfl (by omega) (by omega) dM_doGate_20 ?_
        refine J_topN C (n' := s.1 i) (by rw [hf]; simp) ?_
        refine J_iload_n C 1 dM_doGate_21 rfl rfl ?_
        refine J_iload_n C 2 dM_doGate_22 rfl rfl ?_
        refine J_callS C (rest := [.int (nI (i)), .ref (m3)]) [] [] [((h), .inr (5, [.int (nI (0)), .int (nI (n)), .ref (m1), .int (nI (st)), .ref (m2), .ref (m3), .ref (m4), .int (nI (s.2.length)), .ref (m5), .ref (m6), .ref (m7), .ref (m8), .ref (m9), .ref (ma), .ref (mb)])), kI E (m3) (16) (f), kI E (m4) (64) (F)] (c_M_changed E l (s.1 i) a c (by have := hok i (by omega); omega) (by omega) (by omega)) mmM_changed lkM_67 (rfl) rfl rfl ⟨by decide, by decide⟩ ⟨by decide, by decide⟩ (Nat.le_of_ble_eq_true rfl) dM_doGate_23 (fun r_c w_c hp => ?_)
        obtain ⟨rfl, rfl⟩ := hp
        refine J_norm C (st' := [.int (nI (chg (s.1 i) a c)), .int (nI (i)), .ref (m3)]) (ws' := [((h), .inr (5, [.int (nI (0)), .int (nI (n)), .ref (m1), .int (nI (st)), .ref (m2), .ref (m3), .ref (m4), .int (nI (s.2.length)), .ref (m5), .ref (m6), .ref (m7), .ref (m8), .ref (m9), .ref (ma), .ref (mb)])), kI E (m3) (16) (f), kI E (m4) (64) (F)]) (cs' := 0) (ss' := 0) rfl (rfl) rfl rfl ?_
        refine J_iastN C (ws' := [((h), .inr (5, [.int (nI (0)), .int (nI (n)), .ref (m1), .int (nI (st)), .ref (m2), .ref (m3), .ref (m4), .int (nI (s.2.length)), .ref (m5), .ref (m6), .ref (m7), .ref (m8), .ref (m9), .ref (ma), .ref (mb)])), kI E (m3) (16) (upN f i (chg (s.1 i) a c)), kI E (m4) (64) (F)]) 1 rfl (by omega) (by omega) dM_doGate_26 rfl ?_
        refine J_iinc C (lv' := [(0, .ref (h)), (1, .int (nI (a))), (2, .int (nI (c))), (3, .int (nI (i + 1)))]) 3 [1, 2, 3, 0] dM_doGate_27 rfl (jn_inc _) (by decide) rfl ?_
        refine J_goto C 2 dM_doGate_30 (by decide) ?_
        exact ih_2 (i + 1) (upN f i (chg (s.1 i) a c)) (by omega) (cp_s (t := fun j => chg (s.1 j) a c) hf) (by omega)
  exact lp_2 (2 ^ n + 1) 0 s.1 (by omega) (by intro j; simp) (by omega)
set_option maxHeartbeats 4000000 in
set_option maxRecDepth 100000 in
theorem c_M_findGates (E : jE) (l : Launch) (h : Nat) (n : Nat) (st : Nat) (mn : Nat) (m1 : Nat) (m2 : Nat) (m3 : Nat) (m4 : Nat) (m5 : Nat) (m6 : Nat) (m7 : Nat) (m8 : Nat) (m9 : Nat) (ma : Nat) (mb : Nat) (to : Nat → Nat) (wk : Nat → Nat) (md : Nat → Nat) (hn1 : 1 ≤ n) (hn4 : n ≤ 4) (ht : ∀ v, v < 2 ^ n → to v < 2 ^ n) : Con E l yM_findGates bM_findGates 3 none { frames := 2, cells := 0, slots := 0, locals := 45 } [.ref (h)] [((h), .inr (5, [.int (nI (0)), .int (nI (n)), .ref (m1), .int (nI (st)), .ref (m2), .ref (m3), .ref (m4), .int (nI (mn)), .ref (m5), .ref (m6), .ref (m7), .ref (m8), .ref (m9), .ref (ma), .ref (mb)])), kI E (m1) (16) (to), kI E (m3) (16) (wk), kI E (m4) (64) (md)] (fun r w => ∃ (f F : Nat → Nat), r = none ∧ gL F (gts n to) ∧ w = [((h), .inr (5, [.int (nI (0)), .int (nI (n)), .ref (m1), .int (nI (st)), .ref (m2), .ref (m3), .ref (m4), .int (nI ((gts n to).length)), .ref (m5), .ref (m6), .ref (m7), .ref (m8), .ref (m9), .ref (ma), .ref (mb)])), kI E (m1) (16) (to), kI E (m3) (16) (f), kI E (m4) (64) (F)]) := by
  refine Con.ofV (by decide) (Nat.le_of_ble_eq_true rfl) ?_
  intro J C hret
  show J 0 [(0, .ref (h))] [] [((h), .inr (5, [.int (nI (0)), .int (nI (n)), .ref (m1), .int (nI (st)), .ref (m2), .ref (m3), .ref (m4), .int (nI (mn)), .ref (m5), .ref (m6), .ref (m7), .ref (m8), .ref (m9), .ref (ma), .ref (mb)])), kI E (m1) (16) (to), kI E (m3) (16) (wk), kI E (m4) (64) (md)] 0 0
  have hp16 := p16 hn4
  have hp1 := p1 n
  refine J_aload_n C 0 dM_findGates_0 rfl rfl ?_
  refine J_iconst C (v := nI (0)) dM_findGates_1 (by decide) ?_
  refine J_put C (ws' := [((h), .inr (5, [.int (nI (0)), .int (nI (n)), .ref (m1), .int (nI (st)), .ref (m2), .ref (m3), .ref (m4), .int (nI (0)), .ref (m5), .ref (m6), .ref (m7), .ref (m8), .ref (m9), .ref (ma), .ref (mb)])), kI E (m1) (16) (to), kI E (m3) (16) (wk), kI E (m4) (64) (md)]) 0 7 tyM hinM tyokM nmM rfl rfl (by decide) fkM_71 rfl rfl rfl (Nat.le_of_ble_eq_true rfl) dM_findGates_2 rfl ?_
  refine J_iconst C (v := nI (0)) dM_findGates_5 (by decide) ?_
  refine J_istore_n C (lv' := [(0, .ref (h)), (1, .int (nI (0)))]) [1, 0] dM_findGates_6 rfl (by decide) rfl ?_
  have lp_7 : ∀ (k_7 : Nat) (i : Nat) (f : Nat → Nat), (i ≤ 2 ^ n) → (∀ j, f j = if j < i then to j else wk j) → (2 ^ n - i) < k_7 → J 7 [(0, .ref (h)), (1, .int (nI (i)))] [] [((h), .inr (5, [.int (nI (0)), .int (nI (n)), .ref (m1), .int (nI (st)), .ref (m2), .ref (m3), .ref (m4), .int (nI (0)), .ref (m5), .ref (m6), .ref (m7), .ref (m8), .ref (m9), .ref (ma), .ref (mb)])), kI E (m1) (16) (to), kI E (m3) (16) (f), kI E (m4) (64) (md)] (0) (0) := by
    intro k_7
    induction k_7 with
    | zero => intro i f hi hf hk_7; exact absurd hk_7 (Nat.not_lt_zero _)
    | succ k_7 ih_7 =>
      intro i f hi hf hk_7
      refine J_iload_n C 1 dM_findGates_7 rfl rfl ?_
      refine J_aload_n C 0 dM_findGates_8 rfl rfl ?_
      refine J_callV C (rest := [.int (nI (i))]) [] [((h), .inr (5, [.int (nI (0)), .int (nI (n)), .ref (m1), .int (nI (st)), .ref (m2), .ref (m3), .ref (m4), .int (nI (0)), .ref (m5), .ref (m6), .ref (m7), .ref (m8), .ref (m9), .ref (ma), .ref (mb)]))] [kI E (m1) (16) (to), kI E (m3) (16) (f), kI E (m4) (64) (md)] 0 (c_M_values E l h n st 0 m1 m2 m3 m4 m5 m6 m7 m8 m9 ma mb (by omega) (by omega)) mmM_values msM_values lkM_59 rfl rfl (rfl) rfl rfl ⟨by decide, by decide⟩ ⟨by decide, by decide⟩ (Nat.le_of_ble_eq_true rfl) dM_findGates_9 (fun r_c w_c hp => ?_)
      obtain ⟨rfl, rfl⟩ := hp
      refine J_norm C (st' := [.int (nI (2 ^ n)), .int (nI (i))]) (ws' := [((h), .inr (5, [.int (nI (0)), .int (nI (n)), .ref (m1), .int (nI (st)), .ref (m2), .ref (m3), .ref (m4), .int (nI (0)), .ref (m5), .ref (m6), .ref (m7), .ref (m8), .ref (m9), .ref (ma), .ref (mb)])), kI E (m1) (16) (to), kI E (m3) (16) (f), kI E (m4) (64) (md)]) (cs' := 0) (ss' := 0) rfl (rfl) rfl rfl ?_
      refine J_icmp_ge C 33 (nI_toInt (n := i) (by omega)) (nI_toInt (n := 2 ^ n) (by omega)) dM_findGates_12 (by decide) (fun h12 => ?_) (fun h12 => ?_)
      · obtain rfl : 2 ^ n = i := by omega
        refine J_iconst C (v := nI (0)) dM_findGates_33 (by decide) ?_
        refine J_istore_n C (lv' := [(0, .ref (h)), (1, .int (nI (0)))]) [1, 0] dM_findGates_34 rfl (by decide) rfl ?_
        have lp_35 : ∀ (k_35 : Nat) (v : Nat) (F2 : Nat → Nat), (v ≤ 2 ^ n) → (gL F2 (gRows n v (f, [])).2) → (2 ^ n - v) < k_35 → J 35 [(0, .ref (h)), (1, .int (nI (v)))] [] [((h), .inr (5, [.int (nI (0)), .int (nI (n)), .ref (m1), .int (nI (st)), .ref (m2), .ref (m3), .ref (m4), .int (nI ((gRows n v (f, [])).2.length)), .ref (m5), .ref (m6), .ref (m7), .ref (m8), .ref (m9), .ref (ma), .ref (mb)])), kI E (m1) (16) (to), kI E (m3) (16) ((gRows n v (f, [])).1), kI E (m4) (64) (F2)] (0) (0) := by
          intro k_35
          induction k_35 with
          | zero => intro v F2 hv hF2 hk_35; exact absurd hk_35 (Nat.not_lt_zero _)
          | succ k_35 ih_35 =>
            intro v F2 hv hF2 hk_35
            have okr := gRows_ok (n := n) (s := (f, [])) (fun j hj => by have q := hf j; rw [if_pos hj] at q; show f j < _; rw [q]; exact ht j hj) v
            have lnr := gRows_len (n := n) (s := (f, [])) v
            have ml := Nat.mul_le_mul hn4 hp16
            refine J_iload_n C 1 dM_findGates_35 rfl rfl ?_
            refine J_aload_n C 0 dM_findGates_36 rfl rfl ?_
            refine J_callV C (rest := [.int (nI (v))]) [] [((h), .inr (5, [.int (nI (0)), .int (nI (n)), .ref (m1), .int (nI (st)), .ref (m2), .ref (m3), .ref (m4), .int (nI ((gRows n v (f, [])).2.length)), .ref (m5), .ref (m6), .ref (m7), .ref (m8), .ref (m9), .ref (ma), .ref (mb)]))] [kI E (m1) (16) (to), kI E (m3) (16) ((gRows n v (f, [])).1), kI E (m4) (64) (F2)] 0 (c_M_values E l h n st ((gRows n v (f, [])).2.length) m1 m2 m3 m4 m5 m6 m7 m8 m9 ma mb (by omega) (by omega)) mmM_values msM_values lkM_59 rfl rfl (rfl) rfl rfl ⟨by decide, by decide⟩ ⟨by decide, by decide⟩ (Nat.le_of_ble_eq_true rfl) dM_findGates_37 (fun r_c w_c hp => ?_)
            obtain ⟨rfl, rfl⟩ := hp
            refine J_norm C (st' := [.int (nI (2 ^ n)), .int (nI (v))]) (ws' := [((h), .inr (5, [.int (nI (0)), .int (nI (n)), .ref (m1), .int (nI (st)), .ref (m2), .ref (m3), .ref (m4), .int (nI (((gRows n v (f, [])).2.length))), .ref (m5), .ref (m6), .ref (m7), .ref (m8), .ref (m9), .ref (ma), .ref (mb)])), kI E (m1) (16) (to), kI E (m3) (16) ((gRows n v (f, [])).1), kI E (m4) (64) (F2)]) (cs' := 0) (ss' := 0) rfl (rfl) rfl rfl ?_
            refine J_icmp_ge C 132 (nI_toInt (n := v) (by omega)) (nI_toInt (n := 2 ^ n) (by omega)) dM_findGates_40 (by decide) (fun h40 => ?_) (fun h40 => ?_)
            · obtain rfl : 2 ^ n = v := by omega
              have eg := gts_of (n := n) (t := to) (f := f) (fun j hj => by rw [hf j, if_pos hj])
              exact hret _ _ _ _ _ dM_findGates_132 (by decide) (by decide) (⟨_, F2, rfl, by rw [← eg]; exact hF2, by rw [← eg]⟩)
            · have hm2x : n * v + n ≤ n * 2 ^ n := by rw [← Nat.mul_succ]; exact Nat.mul_le_mul_left n (by omega)
              simp only [List.length_nil] at lnr
              refine J_iconst C (v := nI (0)) dM_findGates_43 (by decide) ?_
              refine J_istore_n C (lv' := [(0, .ref (h)), (1, .int (nI (v))), (2, .int (nI (0)))]) [1, 2, 0] dM_findGates_44 rfl (by decide) rfl ?_
              have lp_45 : ∀ (k_45 : Nat) (a : Nat) (F3 : Nat → Nat), (a ≤ n) → (gL F3 (g1 n v a (gRows n v (f, []))).2) → (n - a) < k_45 → J 45 [(0, .ref (h)), (1, .int (nI (v))), (2, .int (nI (a)))] [] [((h), .inr (5, [.int (nI (0)), .int (nI (n)), .ref (m1), .int (nI (st)), .ref (m2), .ref (m3), .ref (m4), .int (nI ((g1 n v a (gRows n v (f, []))).2.length)), .ref (m5), .ref (m6), .ref (m7), .ref (m8), .ref (m9), .ref (ma), .ref (mb)])), kI E (m1) (16) (to), kI E (m3) (16) ((g1 n v a (gRows n v (f, []))).1), kI E (m4) (64) (F3)] (0) (0) := by
                intro k_45
                induction k_45 with
                | zero => intro a F3 hi3 hF3 hk_45; exact absurd hk_45 (Nat.not_lt_zero _)
                | succ k_45 ih_45 =>
                  intro a F3 hi3 hF3 hk_45
                  have ok1 := g1_ok (v := v) okr a hi3
                  have ln1 := g1_len (n := n) (v := v) (s := (gRows n v (f, []))) a
                  have bl1 := bcn_le a v
                  refine J_iload_n C 2 dM_findGates_45 rfl rfl ?_
                  refine J_aload_n C 0 dM_findGates_46 rfl rfl ?_
                  refine J_get C 0 1 hinM rfl rfl (by decide) fkM_56 rfl dM_findGates_47 ?_
                  refine J_icmp_ge C 87 (nI_toInt (n := a) (by omega)) (nI_toInt (n := n) (by omega)) dM_findGates_50 (by decide) (fun h50 => ?_) (fun h50 => ?_)
                  · obtain rfl : n = a := by omega
                    refine J_iconst C (v := nI (0)) dM_findGates_87 (by decide) ?_
                    refine J_istore_n C (lv' := [(0, .ref (h)), (1, .int (nI (v))), (2, .int (nI (0)))]) [1, 2, 0] dM_findGates_88 rfl (by decide) rfl ?_
                    have lp_89 : ∀ (k_89 : Nat) (a : Nat) (F4 : Nat → Nat), (a ≤ n) → (gL F4 (g2 n v a (g1 n v n (gRows n v (f, [])))).2) → (n - a) < k_89 → J 89 [(0, .ref (h)), (1, .int (nI (v))), (2, .int (nI (a)))] [] [((h), .inr (5, [.int (nI (0)), .int (nI (n)), .ref (m1), .int (nI (st)), .ref (m2), .ref (m3), .ref (m4), .int (nI ((g2 n v a (g1 n v n (gRows n v (f, [])))).2.length)), .ref (m5), .ref (m6), .ref (m7), .ref (m8), .ref (m9), .ref (ma), .ref (mb)])), kI E (m1) (16) (to), kI E (m3) (16) ((g2 n v a (g1 n v n (gRows n v (f, [])))).1), kI E (m4) (64) (F4)] (0) (0) := by
                      intro k_89
                      induction k_89 with
                      | zero => intro a F4 hi4 hF4 hk_89; exact absurd hk_89 (Nat.not_lt_zero _)
                      | succ k_89 ih_89 =>
                        intro a F4 hi4 hF4 hk_89
                        have ok1 := g2_ok (v := v) (g1_ok (v := v) okr n (Nat.le_refl n)) a hi4
                        have ln2 := g2_len (n := n) (v := v) (s := g1 n v n (gRows n v (f, []))) a
                        have ln1 := g1_len (n := n) (v := v) (s := (gRows n v (f, []))) n
                        have bl1 := bcn_le a v
                        refine J_iload_n C 2 dM_findGates_89 rfl rfl ?_
                        refine J_aload_n C 0 dM_findGates_90 rfl rfl ?_
                        refine J_get C 0 1 hinM rfl rfl (by decide) fkM_56 rfl dM_findGates_91 ?_
                        refine J_icmp_ge C 126 (nI_toInt (n := a) (by omega)) (nI_toInt (n := n) (by omega)) dM_findGates_94 (by decide) (fun h94 => ?_) (fun h94 => ?_)
                        · obtain rfl : n = a := by omega
                          refine J_iinc C (lv' := [(0, .ref (h)), (1, .int (nI (v + 1))), (2, .int (nI (n)))]) 1 [1, 0, 2] dM_findGates_126 rfl (jn_inc _) (by decide) rfl ?_
                          refine J_goto C 35 dM_findGates_129 (by decide) ?_
                          refine J_lv C (lv' := [(0, .ref h), (1, .int (nI (v + 1)))]) [0, 1] rfl ?_
                          exact ih_35 (v + 1) F4 (by omega) (hF4) (by omega)
                        · refine J_aload_n C 0 dM_findGates_97 rfl rfl ?_
                          refine J_get C 0 5 hinM rfl rfl (by decide) fkM_16 rfl dM_findGates_98 ?_
                          refine J_iload_n C 1 dM_findGates_101 rfl rfl ?_
                          refine J_iald C 2 rfl (by omega) (by omega) dM_findGates_102 ?_
                          refine J_iload_n C 1 dM_findGates_103 rfl rfl ?_
                          refine J_iconst C (v := -1) dM_findGates_104 (by decide) ?_
                          refine J_ixor C dM_findGates_105 ?_
                          refine J_iand C dM_findGates_106 ?_
                          refine J_iconst C (v := nI (1)) dM_findGates_107 (by decide) ?_
                          refine J_iload_n C 2 dM_findGates_108 rfl rfl ?_
                          refine J_ishl1 C dM_findGates_109 (by omega) ?_
                          refine J_iand C dM_findGates_110 ?_
                          refine J_topX C (x' := nI (if ((g2 n v a (g1 n v n (gRows n v (f, [])))).1 v).testBit a = true ∧ v.testBit a = false then 2 ^ a else 0)) (bit_not _ (by have := ok1 v (by omega); omega) v (by omega) a (by omega)) ?_
                          refine J_if_eq C 120 (nI_toInt (n := if ((g2 n v a (g1 n v n (gRows n v (f, [])))).1 v).testBit a = true ∧ v.testBit a = false then 2 ^ a else 0) (if_two_lt (by omega))) dM_findGates_111 (by decide) (fun h111 => ?_) (fun h111 => ?_)
                          · have e := g2_f (if_two_eq h111)
                            refine J_iinc C (lv' := [(0, .ref (h)), (1, .int (nI (v))), (2, .int (nI (a + 1)))]) 2 [1, 2, 0] dM_findGates_120 rfl (jn_inc _) (by decide) rfl ?_
                            refine J_goto C 89 dM_findGates_123 (by decide) ?_
                            rw [← e]
                            rw [← e] at hF4
                            exact ih_89 (a + 1) F4 (by omega) (hF4) (by omega)
                          · have hc111 := if_two_ne h111
                            refine J_aload_n C 0 dM_findGates_114 rfl rfl ?_
                            refine J_iload_n C 2 dM_findGates_115 rfl rfl ?_
                            refine J_iload_n C 1 dM_findGates_116 rfl rfl ?_
                            refine J_pick C (ws' := [((h), .inr (5, [.int (nI (0)), .int (nI (n)), .ref (m1), .int (nI (st)), .ref (m2), .ref (m3), .ref (m4), .int (nI ((g2 n v a (g1 n v n (gRows n v (f, [])))).2.length)), .ref (m5), .ref (m6), .ref (m7), .ref (m8), .ref (m9), .ref (ma), .ref (mb)])), kI E (m3) (16) ((g2 n v a (g1 n v n (gRows n v (f, [])))).1), kI E (m4) (64) (F4), kI E (m1) (16) (to)]) [0, 2, 3, 1] (by decide) rfl ?_
                            refine J_callV C (rest := []) [] [((h), .inr (5, [.int (nI (0)), .int (nI (n)), .ref (m1), .int (nI (st)), .ref (m2), .ref (m3), .ref (m4), .int (nI ((g2 n v a (g1 n v n (gRows n v (f, [])))).2.length)), .ref (m5), .ref (m6), .ref (m7), .ref (m8), .ref (m9), .ref (ma), .ref (mb)])), kI E (m3) (16) ((g2 n v a (g1 n v n (gRows n v (f, [])))).1), kI E (m4) (64) (F4)] [kI E (m1) (16) (to)] 0 (c_M_doGate E l h n st m1 m2 m3 m4 m5 m6 m7 m8 m9 ma mb (g2 n v a (g1 n v n (gRows n v (f, [])))) F4 a v (by omega) (by omega) (ok1) (hF4) (by omega) (by omega) (by have := bcn_gap (v := v) (n := n) (a := a) (by omega) hc111.2; omega)) mmM_doGate msM_doGate lkM_74 rfl rfl (rfl) rfl rfl ⟨by decide, by decide⟩ ⟨by decide, by decide⟩ (Nat.le_of_ble_eq_true rfl) dM_findGates_117 (fun r_c w_c hp => ?_)
                            obtain ⟨F1_1, rfl, hF1, rfl⟩ := hp
                            refine J_norm C (st' := []) (ws' := [((h), .inr (5, [.int (nI (0)), .int (nI (n)), .ref (m1), .int (nI (st)), .ref (m2), .ref (m3), .ref (m4), .int (nI ((gU n (g2 n v a (g1 n v n (gRows n v (f, [])))) a v).2.length)), .ref (m5), .ref (m6), .ref (m7), .ref (m8), .ref (m9), .ref (ma), .ref (mb)])), kI E (m3) (16) ((gU n (g2 n v a (g1 n v n (gRows n v (f, [])))) a v).1), kI E (m4) (64) (F1_1), kI E (m1) (16) (to)]) (cs' := 0) (ss' := 0) rfl (rfl) rfl rfl ?_
                            refine J_pick C (ws' := [((h), .inr (5, [.int (nI (0)), .int (nI (n)), .ref (m1), .int (nI (st)), .ref (m2), .ref (m3), .ref (m4), .int (nI ((gU n (g2 n v a (g1 n v n (gRows n v (f, [])))) a v).2.length)), .ref (m5), .ref (m6), .ref (m7), .ref (m8), .ref (m9), .ref (ma), .ref (mb)])), kI E (m1) (16) (to), kI E (m3) (16) ((gU n (g2 n v a (g1 n v n (gRows n v (f, [])))) a v).1), kI E (m4) (64) (F1_1)]) [0, 3, 1, 2] (by decide) rfl ?_
                            have e := g2_t hc111
                            refine J_iinc C (lv' := [(0, .ref (h)), (1, .int (nI (v))), (2, .int (nI (a + 1)))]) 2 [1, 2, 0] dM_findGates_120 rfl (jn_inc _) (by decide) rfl ?_
                            refine J_goto C 89 dM_findGates_123 (by decide) ?_
                            rw [← e]
                            rw [← e] at hF1
                            exact ih_89 (a + 1) F1_1 (by omega) (hF1) (by omega)
                    exact lp_89 (n + 1) 0 F3 (by omega) (hF3) (by omega)
                  · refine J_iload_n C 1 dM_findGates_53 rfl rfl ?_
                    refine J_aload_n C 0 dM_findGates_54 rfl rfl ?_
                    refine J_get C 0 5 hinM rfl rfl (by decide) fkM_16 rfl dM_findGates_55 ?_
                    refine J_iload_n C 1 dM_findGates_58 rfl rfl ?_
                    refine J_iald C 2 rfl (by omega) (by omega) dM_findGates_59 ?_
                    refine J_iconst C (v := -1) dM_findGates_60 (by decide) ?_
                    refine J_ixor C dM_findGates_61 ?_
                    refine J_iand C dM_findGates_62 ?_
                    refine J_iconst C (v := nI (1)) dM_findGates_63 (by decide) ?_
                    refine J_iload_n C 2 dM_findGates_64 rfl rfl ?_
                    refine J_ishl1 C dM_findGates_65 (by omega) ?_
                    refine J_iand C dM_findGates_66 ?_
                    refine J_topX C (x' := nI (if v.testBit a = true ∧ ((g1 n v a (gRows n v (f, []))).1 v).testBit a = false then 2 ^ a else 0)) (bit_not v (by omega) _ (by have := ok1 v (by omega); omega) a (by omega)) ?_
                    refine J_if_eq C 81 (nI_toInt (n := if v.testBit a = true ∧ ((g1 n v a (gRows n v (f, []))).1 v).testBit a = false then 2 ^ a else 0) (if_two_lt (by omega))) dM_findGates_67 (by decide) (fun h67 => ?_) (fun h67 => ?_)
                    · have e := g1_f (if_two_eq h67)
                      refine J_iinc C (lv' := [(0, .ref (h)), (1, .int (nI (v))), (2, .int (nI (a + 1)))]) 2 [1, 2, 0] dM_findGates_81 rfl (jn_inc _) (by decide) rfl ?_
                      refine J_goto C 45 dM_findGates_84 (by decide) ?_
                      rw [← e]
                      rw [← e] at hF3
                      exact ih_45 (a + 1) F3 (by omega) (hF3) (by omega)
                    · have hc67 := if_two_ne h67
                      refine J_aload_n C 0 dM_findGates_70 rfl rfl ?_
                      refine J_iload_n C 2 dM_findGates_71 rfl rfl ?_
                      refine J_aload_n C 0 dM_findGates_72 rfl rfl ?_
                      refine J_get C 0 5 hinM rfl rfl (by decide) fkM_16 rfl dM_findGates_73 ?_
                      refine J_iload_n C 1 dM_findGates_76 rfl rfl ?_
                      refine J_iald C 2 rfl (by omega) (by omega) dM_findGates_77 ?_
                      refine J_pick C (ws' := [((h), .inr (5, [.int (nI (0)), .int (nI (n)), .ref (m1), .int (nI (st)), .ref (m2), .ref (m3), .ref (m4), .int (nI ((g1 n v a (gRows n v (f, []))).2.length)), .ref (m5), .ref (m6), .ref (m7), .ref (m8), .ref (m9), .ref (ma), .ref (mb)])), kI E (m3) (16) ((g1 n v a (gRows n v (f, []))).1), kI E (m4) (64) (F3), kI E (m1) (16) (to)]) [0, 2, 3, 1] (by decide) rfl ?_
                      refine J_callV C (rest := []) [] [((h), .inr (5, [.int (nI (0)), .int (nI (n)), .ref (m1), .int (nI (st)), .ref (m2), .ref (m3), .ref (m4), .int (nI ((g1 n v a (gRows n v (f, []))).2.length)), .ref (m5), .ref (m6), .ref (m7), .ref (m8), .ref (m9), .ref (ma), .ref (mb)])), kI E (m3) (16) ((g1 n v a (gRows n v (f, []))).1), kI E (m4) (64) (F3)] [kI E (m1) (16) (to)] 0 (c_M_doGate E l h n st m1 m2 m3 m4 m5 m6 m7 m8 m9 ma mb (g1 n v a (gRows n v (f, []))) F3 a (((g1 n v a (gRows n v (f, []))).1) v) (by omega) (by omega) (ok1) (hF3) (by omega) (ok1 v (by omega)) (by omega)) mmM_doGate msM_doGate lkM_74 rfl rfl (rfl) rfl rfl ⟨by decide, by decide⟩ ⟨by decide, by decide⟩ (Nat.le_of_ble_eq_true rfl) dM_findGates_78 (fun r_c w_c hp => ?_)
                      obtain ⟨F1_2, rfl, hF1, rfl⟩ := hp
                      refine J_norm C (st' := []) (ws' := [((h), .inr (5, [.int (nI (0)), .int (nI (n)), .ref (m1), .int (nI (st)), .ref (m2), .ref (m3), .ref (m4), .int (nI ((gU n (g1 n v a (gRows n v (f, []))) a (((g1 n v a (gRows n v (f, []))).1) v)).2.length)), .ref (m5), .ref (m6), .ref (m7), .ref (m8), .ref (m9), .ref (ma), .ref (mb)])), kI E (m3) (16) ((gU n (g1 n v a (gRows n v (f, []))) a (((g1 n v a (gRows n v (f, []))).1) v)).1), kI E (m4) (64) (F1_2), kI E (m1) (16) (to)]) (cs' := 0) (ss' := 0) rfl (rfl) rfl rfl ?_
                      refine J_pick C (ws' := [((h), .inr (5, [.int (nI (0)), .int (nI (n)), .ref (m1), .int (nI (st)), .ref (m2), .ref (m3), .ref (m4), .int (nI ((gU n (g1 n v a (gRows n v (f, []))) a (((g1 n v a (gRows n v (f, []))).1) v)).2.length)), .ref (m5), .ref (m6), .ref (m7), .ref (m8), .ref (m9), .ref (ma), .ref (mb)])), kI E (m1) (16) (to), kI E (m3) (16) ((gU n (g1 n v a (gRows n v (f, []))) a (((g1 n v a (gRows n v (f, []))).1) v)).1), kI E (m4) (64) (F1_2)]) [0, 3, 1, 2] (by decide) rfl ?_
                      have e := g1_t hc67
                      refine J_iinc C (lv' := [(0, .ref (h)), (1, .int (nI (v))), (2, .int (nI (a + 1)))]) 2 [1, 2, 0] dM_findGates_81 rfl (jn_inc _) (by decide) rfl ?_
                      refine J_goto C 45 dM_findGates_84 (by decide) ?_
                      rw [← e]
                      rw [← e] at hF1
                      exact ih_45 (a + 1) F1_2 (by omega) (hF1) (by omega)
              exact lp_45 (n + 1) 0 F2 (by omega) (hF2) (by omega)
        exact lp_35 (2 ^ n + 1) 0 md (by omega) (gL_nil _) (by omega)
      · refine J_aload_n C 0 dM_findGates_15 rfl rfl ?_
        refine J_get C 0 5 hinM rfl rfl (by decide) fkM_16 rfl dM_findGates_16 ?_
        refine J_iload_n C 1 dM_findGates_19 rfl rfl ?_
        refine J_aload_n C 0 dM_findGates_20 rfl rfl ?_
        refine J_get C 0 2 hinM rfl rfl (by decide) fkM_7 rfl dM_findGates_21 ?_
        refine J_iload_n C 1 dM_findGates_24 rfl rfl ?_
        refine J_iald C 1 rfl (by omega) (by omega) dM_findGates_25 ?_
        refine J_iastN C (ws' := [((h), .inr (5, [.int (nI (0)), .int (nI (n)), .ref (m1), .int (nI (st)), .ref (m2), .ref (m3), .ref (m4), .int (nI (0)), .ref (m5), .ref (m6), .ref (m7), .ref (m8), .ref (m9), .ref (ma), .ref (mb)])), kI E (m1) (16) (to), kI E (m3) (16) (upN f i (to i)), kI E (m4) (64) (md)]) 2 rfl (by omega) (by omega) dM_findGates_26 rfl ?_
        refine J_iinc C (lv' := [(0, .ref (h)), (1, .int (nI (i + 1)))]) 1 [1, 0] dM_findGates_27 rfl (jn_inc _) (by decide) rfl ?_
        refine J_goto C 7 dM_findGates_30 (by decide) ?_
        exact ih_7 (i + 1) (upN f i (to i)) (by omega) (cp_s hf) (by omega)
  exact lp_7 (2 ^ n + 1) 0 wk (by omega) (by intro j; simp) (by omega)
set_option maxHeartbeats 4000000 in
set_option maxRecDepth 100000 in
theorem c_M_gate_f (E : jE) (l : Launch) (h : Nat) (n : Nat) (st : Nat) (mn : Nat) (m1 : Nat) (m2 : Nat) (m3 : Nat) (m4 : Nat) (m5 : Nat) (m6 : Nat) (m7 : Nat) (m8 : Nat) (m9 : Nat) (ma : Nat) (mb : Nat) (to : Nat → Nat) (x : Int32) (hn1 : 1 ≤ n) (hn4 : n ≤ 4) (ht : ∀ v, v < 2 ^ n → to v < 2 ^ n) (hq : sn to (2 ^ n) ≠ 2 ^ 2 ^ n - 1) : Con E l yM_gate bM_gate 2 (some .int) { frames := 2, cells := 0, slots := 0, locals := 42 } [.ref (h), .int (x)] [((h), .inr (5, [.int (nI (0)), .int (nI (n)), .ref (m1), .int (nI (st)), .ref (m2), .ref (m3), .ref (m4), .int (nI (mn)), .ref (m5), .ref (m6), .ref (m7), .ref (m8), .ref (m9), .ref (ma), .ref (mb)])), kI E (m1) (16) (to)] (fun r w => r = some (.int (-1)) ∧ w = [((h), .inr (5, [.int (nI (0)), .int (nI (n)), .ref (m1), .int (nI (st)), .ref (m2), .ref (m3), .ref (m4), .int (nI (mn)), .ref (m5), .ref (m6), .ref (m7), .ref (m8), .ref (m9), .ref (ma), .ref (mb)])), kI E (m1) (16) (to)]) := by
  refine Con.ofI (by decide) (Nat.le_of_ble_eq_true rfl) ?_
  intro J C hret
  show J 0 [(0, .ref (h)), (1, .int (x))] [] [((h), .inr (5, [.int (nI (0)), .int (nI (n)), .ref (m1), .int (nI (st)), .ref (m2), .ref (m3), .ref (m4), .int (nI (mn)), .ref (m5), .ref (m6), .ref (m7), .ref (m8), .ref (m9), .ref (ma), .ref (mb)])), kI E (m1) (16) (to)] 0 0
  have hp16 := p16 hn4
  have hp1 := p1 n
  refine J_aload_n C 0 dM_gate_0 rfl rfl ?_
  refine J_iconst C (v := nI (0)) dM_gate_1 (by decide) ?_
  refine J_put C (ws' := [((h), .inr (5, [.int (nI (0)), .int (nI (n)), .ref (m1), .int (nI (st)), .ref (m2), .ref (m3), .ref (m4), .int (nI (mn)), .ref (m5), .ref (m6), .ref (m7), .ref (m8), .ref (m9), .ref (ma), .ref (mb)])), kI E (m1) (16) (to)]) 0 0 tyM hinM tyokM nmM rfl rfl (by decide) fkM_53 rfl rfl rfl (Nat.le_of_ble_eq_true rfl) dM_gate_2 rfl ?_
  refine J_aload_n C 0 dM_gate_5 rfl rfl ?_
  refine J_callV C (rest := []) [] [((h), .inr (5, [.int (nI (0)), .int (nI (n)), .ref (m1), .int (nI (st)), .ref (m2), .ref (m3), .ref (m4), .int (nI (mn)), .ref (m5), .ref (m6), .ref (m7), .ref (m8), .ref (m9), .ref (ma), .ref (mb)])), kI E (m1) (16) (to)] [] 0 (c_M_isPerm_f E l h n st mn m1 m2 m3 m4 m5 m6 m7 m8 m9 ma mb to (by omega) (by omega) (by assumption) (by assumption)) mmM_isPermutation msM_isPermutation lkM_78 rfl rfl (rfl) rfl rfl ⟨by decide, by decide⟩ ⟨by decide, by decide⟩ (Nat.le_of_ble_eq_true rfl) dM_gate_6 (fun r_c w_c hp => ?_)
  obtain ⟨rfl, rfl⟩ := hp
  refine J_norm C (st' := [.int (nI (0))]) (ws' := [((h), .inr (5, [.int (nI (0)), .int (nI (n)), .ref (m1), .int (nI (st)), .ref (m2), .ref (m3), .ref (m4), .int (nI (mn)), .ref (m5), .ref (m6), .ref (m7), .ref (m8), .ref (m9), .ref (ma), .ref (mb)])), kI E (m1) (16) (to)]) (cs' := 0) (ss' := 0) rfl (rfl) rfl rfl ?_
  refine J_if_ne C 14 (nI_toInt (n := 0) (by decide)) dM_gate_9 (by decide) (fun h9 => ?_) (fun h9 => ?_)
  · exfalso; omega
  · refine J_iconst C (v := -1) dM_gate_12 (by decide) ?_
    exact hret _ _ _ _ _ _ dM_gate_13 (by decide) (by decide) (⟨rfl, rfl⟩)
set_option maxHeartbeats 4000000 in
set_option maxRecDepth 100000 in
theorem c_M_gate_m (E : jE) (l : Launch) (h : Nat) (n : Nat) (st : Nat) (mn : Nat) (m1 : Nat) (m2 : Nat) (m3 : Nat) (m4 : Nat) (m5 : Nat) (m6 : Nat) (m7 : Nat) (m8 : Nat) (m9 : Nat) (ma : Nat) (mb : Nat) (to : Nat → Nat) (wk : Nat → Nat) (md : Nat → Nat) (hn1 : 1 ≤ n) (hn4 : n ≤ 4) (ht : ∀ v, v < 2 ^ n → to v < 2 ^ n) (hq : sn to (2 ^ n) = 2 ^ 2 ^ n - 1) : Con E l yM_gate bM_gate 2 (some .int) { frames := 3, cells := 0, slots := 0, locals := 67 } [.ref (h), .int (-1)] [((h), .inr (5, [.int (nI (0)), .int (nI (n)), .ref (m1), .int (nI (st)), .ref (m2), .ref (m3), .ref (m4), .int (nI (mn)), .ref (m5), .ref (m6), .ref (m7), .ref (m8), .ref (m9), .ref (ma), .ref (mb)])), kI E (m1) (16) (to), kI E (m3) (16) (wk), kI E (m4) (64) (md)] (fun r w => ∃ f1 F1 : Nat → Nat, r = some (.int (nI (gts n to).length)) ∧ w = [((h), .inr (5, [.int (nI (0)), .int (nI (n)), .ref (m1), .int (nI (st)), .ref (m2), .ref (m3), .ref (m4), .int (nI ((gts n to).length)), .ref (m5), .ref (m6), .ref (m7), .ref (m8), .ref (m9), .ref (ma), .ref (mb)])), kI E (m1) (16) (to), kI E (m3) (16) (f1), kI E (m4) (64) (F1)]) := by
  refine Con.ofI (by decide) (Nat.le_of_ble_eq_true rfl) ?_
  intro J C hret
  show J 0 [(0, .ref (h)), (1, .int (-1))] [] [((h), .inr (5, [.int (nI (0)), .int (nI (n)), .ref (m1), .int (nI (st)), .ref (m2), .ref (m3), .ref (m4), .int (nI (mn)), .ref (m5), .ref (m6), .ref (m7), .ref (m8), .ref (m9), .ref (ma), .ref (mb)])), kI E (m1) (16) (to), kI E (m3) (16) (wk), kI E (m4) (64) (md)] 0 0
  have hp16 := p16 hn4
  have hp1 := p1 n
  have gl := gts_len hn4 to
  refine J_aload_n C 0 dM_gate_0 rfl rfl ?_
  refine J_iconst C (v := nI (0)) dM_gate_1 (by decide) ?_
  refine J_put C (ws' := [((h), .inr (5, [.int (nI (0)), .int (nI (n)), .ref (m1), .int (nI (st)), .ref (m2), .ref (m3), .ref (m4), .int (nI (mn)), .ref (m5), .ref (m6), .ref (m7), .ref (m8), .ref (m9), .ref (ma), .ref (mb)])), kI E (m1) (16) (to), kI E (m3) (16) (wk), kI E (m4) (64) (md)]) 0 0 tyM hinM tyokM nmM rfl rfl (by decide) fkM_53 rfl rfl rfl (Nat.le_of_ble_eq_true rfl) dM_gate_2 rfl ?_
  refine J_aload_n C 0 dM_gate_5 rfl rfl ?_
  refine J_callV C (rest := []) [] [((h), .inr (5, [.int (nI (0)), .int (nI (n)), .ref (m1), .int (nI (st)), .ref (m2), .ref (m3), .ref (m4), .int (nI (mn)), .ref (m5), .ref (m6), .ref (m7), .ref (m8), .ref (m9), .ref (ma), .ref (mb)])), kI E (m1) (16) (to)] [kI E (m3) (16) (wk), kI E (m4) (64) (md)] 0 (c_M_isPerm_t E l h n st mn m1 m2 m3 m4 m5 m6 m7 m8 m9 ma mb to (by omega) (by omega) (by assumption) (by assumption)) mmM_isPermutation msM_isPermutation lkM_78 rfl rfl (rfl) rfl rfl ⟨by decide, by decide⟩ ⟨by decide, by decide⟩ (Nat.le_of_ble_eq_true rfl) dM_gate_6 (fun r_c w_c hp => ?_)
  obtain ⟨rfl, rfl⟩ := hp
  refine J_norm C (st' := [.int (nI (1))]) (ws' := [((h), .inr (5, [.int (nI (0)), .int (nI (n)), .ref (m1), .int (nI (st)), .ref (m2), .ref (m3), .ref (m4), .int (nI (mn)), .ref (m5), .ref (m6), .ref (m7), .ref (m8), .ref (m9), .ref (ma), .ref (mb)])), kI E (m1) (16) (to), kI E (m3) (16) (wk), kI E (m4) (64) (md)]) (cs' := 0) (ss' := 0) rfl (rfl) rfl rfl ?_
  refine J_if_ne C 14 (nI_toInt (n := 1) (by decide)) dM_gate_9 (by decide) (fun h9 => ?_) (fun h9 => ?_)
  · refine J_aload_n C 0 dM_gate_14 rfl rfl ?_
    refine J_callV C (rest := []) [] [((h), .inr (5, [.int (nI (0)), .int (nI (n)), .ref (m1), .int (nI (st)), .ref (m2), .ref (m3), .ref (m4), .int (nI (mn)), .ref (m5), .ref (m6), .ref (m7), .ref (m8), .ref (m9), .ref (ma), .ref (mb)])), kI E (m1) (16) (to), kI E (m3) (16) (wk), kI E (m4) (64) (md)] [] 0 (c_M_findGates E l h n st mn m1 m2 m3 m4 m5 m6 m7 m8 m9 ma mb to wk md (by omega) (by omega) (by assumption)) mmM_findGates msM_findGates lkM_82 rfl rfl (rfl) rfl rfl ⟨by decide, by decide⟩ ⟨by decide, by decide⟩ (Nat.le_of_ble_eq_true rfl) dM_gate_15 (fun r_c w_c hp => ?_)
    obtain ⟨f1, F1, rfl, hF1, rfl⟩ := hp
    refine J_norm C (st' := []) (ws' := [((h), .inr (5, [.int (nI (0)), .int (nI (n)), .ref (m1), .int (nI (st)), .ref (m2), .ref (m3), .ref (m4), .int (nI ((gts n to).length)), .ref (m5), .ref (m6), .ref (m7), .ref (m8), .ref (m9), .ref (ma), .ref (mb)])), kI E (m1) (16) (to), kI E (m3) (16) (f1), kI E (m4) (64) (F1)]) (cs' := 0) (ss' := 0) rfl (rfl) rfl rfl ?_
    refine J_iload_n C 1 dM_gate_18 rfl rfl ?_
    refine J_iconst C (v := -1) dM_gate_19 (by decide) ?_
    refine J_icmp_ne C 28 j_m1 j_m1 dM_gate_20 (by decide) (fun h20 => ?_) (fun h20 => ?_)
    · exfalso; omega
    · refine J_aload_n C 0 dM_gate_23 rfl rfl ?_
      refine J_get C 0 7 hinM rfl rfl (by decide) fkM_71 rfl dM_gate_24 ?_
      exact hret _ _ _ _ _ _ dM_gate_27 (by decide) (by decide) (⟨f1, F1, rfl, rfl⟩)
  · exfalso; omega
set_option maxHeartbeats 4000000 in
set_option maxRecDepth 100000 in
theorem c_M_gate_k (E : jE) (l : Launch) (h : Nat) (n : Nat) (st : Nat) (mn : Nat) (m1 : Nat) (m2 : Nat) (m3 : Nat) (m4 : Nat) (m5 : Nat) (m6 : Nat) (m7 : Nat) (m8 : Nat) (m9 : Nat) (ma : Nat) (mb : Nat) (to : Nat → Nat) (wk : Nat → Nat) (md : Nat → Nat) (k : Nat) (hn1 : 1 ≤ n) (hn4 : n ≤ 4) (ht : ∀ v, v < 2 ^ n → to v < 2 ^ n) (hq : sn to (2 ^ n) = 2 ^ 2 ^ n - 1) (hk : k < (gts n to).length) : Con E l yM_gate bM_gate 2 (some .int) { frames := 3, cells := 0, slots := 0, locals := 67 } [.ref (h), .int (nI (k))] [((h), .inr (5, [.int (nI (0)), .int (nI (n)), .ref (m1), .int (nI (st)), .ref (m2), .ref (m3), .ref (m4), .int (nI (mn)), .ref (m5), .ref (m6), .ref (m7), .ref (m8), .ref (m9), .ref (ma), .ref (mb)])), kI E (m1) (16) (to), kI E (m3) (16) (wk), kI E (m4) (64) (md)] (fun r w => ∃ f1 F1 : Nat → Nat, r = some (.int (nI ((gts n to).getD ((gts n to).length - 1 - k) 0))) ∧ w = [((h), .inr (5, [.int (nI (0)), .int (nI (n)), .ref (m1), .int (nI (st)), .ref (m2), .ref (m3), .ref (m4), .int (nI ((gts n to).length)), .ref (m5), .ref (m6), .ref (m7), .ref (m8), .ref (m9), .ref (ma), .ref (mb)])), kI E (m1) (16) (to), kI E (m3) (16) (f1), kI E (m4) (64) (F1)]) := by
  refine Con.ofI (by decide) (Nat.le_of_ble_eq_true rfl) ?_
  intro J C hret
  show J 0 [(0, .ref (h)), (1, .int (nI (k)))] [] [((h), .inr (5, [.int (nI (0)), .int (nI (n)), .ref (m1), .int (nI (st)), .ref (m2), .ref (m3), .ref (m4), .int (nI (mn)), .ref (m5), .ref (m6), .ref (m7), .ref (m8), .ref (m9), .ref (ma), .ref (mb)])), kI E (m1) (16) (to), kI E (m3) (16) (wk), kI E (m4) (64) (md)] 0 0
  have hp16 := p16 hn4
  have hp1 := p1 n
  have gl := gts_len hn4 to
  refine J_aload_n C 0 dM_gate_0 rfl rfl ?_
  refine J_iconst C (v := nI (0)) dM_gate_1 (by decide) ?_
  refine J_put C (ws' := [((h), .inr (5, [.int (nI (0)), .int (nI (n)), .ref (m1), .int (nI (st)), .ref (m2), .ref (m3), .ref (m4), .int (nI (mn)), .ref (m5), .ref (m6), .ref (m7), .ref (m8), .ref (m9), .ref (ma), .ref (mb)])), kI E (m1) (16) (to), kI E (m3) (16) (wk), kI E (m4) (64) (md)]) 0 0 tyM hinM tyokM nmM rfl rfl (by decide) fkM_53 rfl rfl rfl (Nat.le_of_ble_eq_true rfl) dM_gate_2 rfl ?_
  refine J_aload_n C 0 dM_gate_5 rfl rfl ?_
  refine J_callV C (rest := []) [] [((h), .inr (5, [.int (nI (0)), .int (nI (n)), .ref (m1), .int (nI (st)), .ref (m2), .ref (m3), .ref (m4), .int (nI (mn)), .ref (m5), .ref (m6), .ref (m7), .ref (m8), .ref (m9), .ref (ma), .ref (mb)])), kI E (m1) (16) (to)] [kI E (m3) (16) (wk), kI E (m4) (64) (md)] 0 (c_M_isPerm_t E l h n st mn m1 m2 m3 m4 m5 m6 m7 m8 m9 ma mb to (by omega) (by omega) (by assumption) (by assumption)) mmM_isPermutation msM_isPermutation lkM_78 rfl rfl (rfl) rfl rfl ⟨by decide, by decide⟩ ⟨by decide, by decide⟩ (Nat.le_of_ble_eq_true rfl) dM_gate_6 (fun r_c w_c hp => ?_)
  obtain ⟨rfl, rfl⟩ := hp
  refine J_norm C (st' := [.int (nI (1))]) (ws' := [((h), .inr (5, [.int (nI (0)), .int (nI (n)), .ref (m1), .int (nI (st)), .ref (m2), .ref (m3), .ref (m4), .int (nI (mn)), .ref (m5), .ref (m6), .ref (m7), .ref (m8), .ref (m9), .ref (ma), .ref (mb)])), kI E (m1) (16) (to), kI E (m3) (16) (wk), kI E (m4) (64) (md)]) (cs' := 0) (ss' := 0) rfl (rfl) rfl rfl ?_
  refine J_if_ne C 14 (nI_toInt (n := 1) (by decide)) dM_gate_9 (by decide) (fun h9 => ?_) (fun h9 => ?_)
  · refine J_aload_n C 0 dM_gate_14 rfl rfl ?_
    refine J_callV C (rest := []) [] [((h), .inr (5, [.int (nI (0)), .int (nI (n)), .ref (m1), .int (nI (st)), .ref (m2), .ref (m3), .ref (m4), .int (nI (mn)), .ref (m5), .ref (m6), .ref (m7), .ref (m8), .ref (m9), .ref (ma), .ref (mb)])), kI E (m1) (16) (to), kI E (m3) (16) (wk), kI E (m4) (64) (md)] [] 0 (c_M_findGates E l h n st mn m1 m2 m3 m4 m5 m6 m7 m8 m9 ma mb to wk md (by omega) (by omega) (by assumption)) mmM_findGates msM_findGates lkM_82 rfl rfl (rfl) rfl rfl ⟨by decide, by decide⟩ ⟨by decide, by decide⟩ (Nat.le_of_ble_eq_true rfl) dM_gate_15 (fun r_c w_c hp => ?_)
    obtain ⟨f1, F1, rfl, hF1, rfl⟩ := hp
    refine J_norm C (st' := []) (ws' := [((h), .inr (5, [.int (nI (0)), .int (nI (n)), .ref (m1), .int (nI (st)), .ref (m2), .ref (m3), .ref (m4), .int (nI ((gts n to).length)), .ref (m5), .ref (m6), .ref (m7), .ref (m8), .ref (m9), .ref (ma), .ref (mb)])), kI E (m1) (16) (to), kI E (m3) (16) (f1), kI E (m4) (64) (F1)]) (cs' := 0) (ss' := 0) rfl (rfl) rfl rfl ?_
    refine J_iload_n C 1 dM_gate_18 rfl rfl ?_
    refine J_iconst C (v := -1) dM_gate_19 (by decide) ?_
    refine J_icmp_ne C 28 (nI_toInt (n := k) (by omega)) j_m1 dM_gate_20 (by decide) (fun h20 => ?_) (fun h20 => ?_)
    · refine J_iload_n C 1 dM_gate_28 rfl rfl ?_
      refine J_if_lt C 56 (nI_toInt (n := k) (by omega)) dM_gate_29 (by decide) (fun h29 => ?_) (fun h29 => ?_)
      · exfalso; omega
      · refine J_iload_n C 1 dM_gate_32 rfl rfl ?_
        refine J_aload_n C 0 dM_gate_33 rfl rfl ?_
        refine J_get C 0 7 hinM rfl rfl (by decide) fkM_71 rfl dM_gate_34 ?_
        refine J_icmp_ge C 56 (nI_toInt (n := k) (by omega)) (nI_toInt (n := (gts n to).length) (by omega)) dM_gate_37 (by decide) (fun h37 => ?_) (fun h37 => ?_)
        · exfalso; omega
        · refine J_aload_n C 0 dM_gate_40 rfl rfl ?_
          refine J_get C 0 6 hinM rfl rfl (by decide) fkM_19 rfl dM_gate_41 ?_
          refine J_aload_n C 0 dM_gate_44 rfl rfl ?_
          refine J_get C 0 7 hinM rfl rfl (by decide) fkM_71 rfl dM_gate_45 ?_
          refine J_iconst C (v := nI (1)) dM_gate_48 (by decide) ?_
          refine J_isubN C dM_gate_49 (by omega) ?_
          refine J_iload_n C 1 dM_gate_50 rfl rfl ?_
          refine J_isubN C dM_gate_51 (by omega) ?_
          refine J_iald C 3 rfl (by omega) (by omega) dM_gate_52 ?_
          refine J_goto C 57 dM_gate_53 (by decide) ?_
          exact hret _ _ _ _ _ _ dM_gate_57 (by decide) (by decide) (⟨f1, F1, by rw [hF1 _ (by omega)], rfl⟩)
    · exfalso; omega
  · exfalso; omega
set_option maxHeartbeats 4000000 in
set_option maxRecDepth 100000 in
theorem c_M_gate_x (E : jE) (l : Launch) (h : Nat) (n : Nat) (st : Nat) (mn : Nat) (m1 : Nat) (m2 : Nat) (m3 : Nat) (m4 : Nat) (m5 : Nat) (m6 : Nat) (m7 : Nat) (m8 : Nat) (m9 : Nat) (ma : Nat) (mb : Nat) (to : Nat → Nat) (wk : Nat → Nat) (md : Nat → Nat) (x : Int32) (hn1 : 1 ≤ n) (hn4 : n ≤ 4) (ht : ∀ v, v < 2 ^ n → to v < 2 ^ n) (hq : sn to (2 ^ n) = 2 ^ 2 ^ n - 1) (hx : x.toInt < -1 ∨ ((gts n to).length : Int) ≤ x.toInt) : Con E l yM_gate bM_gate 2 (some .int) { frames := 3, cells := 0, slots := 0, locals := 67 } [.ref (h), .int (x)] [((h), .inr (5, [.int (nI (0)), .int (nI (n)), .ref (m1), .int (nI (st)), .ref (m2), .ref (m3), .ref (m4), .int (nI (mn)), .ref (m5), .ref (m6), .ref (m7), .ref (m8), .ref (m9), .ref (ma), .ref (mb)])), kI E (m1) (16) (to), kI E (m3) (16) (wk), kI E (m4) (64) (md)] (fun r w => ∃ f1 F1 : Nat → Nat, r = some (.int (-1)) ∧ w = [((h), .inr (5, [.int (nI (0)), .int (nI (n)), .ref (m1), .int (nI (st)), .ref (m2), .ref (m3), .ref (m4), .int (nI ((gts n to).length)), .ref (m5), .ref (m6), .ref (m7), .ref (m8), .ref (m9), .ref (ma), .ref (mb)])), kI E (m1) (16) (to), kI E (m3) (16) (f1), kI E (m4) (64) (F1)]) := by
  refine Con.ofI (by decide) (Nat.le_of_ble_eq_true rfl) ?_
  intro J C hret
  show J 0 [(0, .ref (h)), (1, .int (x))] [] [((h), .inr (5, [.int (nI (0)), .int (nI (n)), .ref (m1), .int (nI (st)), .ref (m2), .ref (m3), .ref (m4), .int (nI (mn)), .ref (m5), .ref (m6), .ref (m7), .ref (m8), .ref (m9), .ref (ma), .ref (mb)])), kI E (m1) (16) (to), kI E (m3) (16) (wk), kI E (m4) (64) (md)] 0 0
  have hp16 := p16 hn4
  have hp1 := p1 n
  have gl := gts_len hn4 to
  refine J_aload_n C 0 dM_gate_0 rfl rfl ?_
  refine J_iconst C (v := nI (0)) dM_gate_1 (by decide) ?_
  refine J_put C (ws' := [((h), .inr (5, [.int (nI (0)), .int (nI (n)), .ref (m1), .int (nI (st)), .ref (m2), .ref (m3), .ref (m4), .int (nI (mn)), .ref (m5), .ref (m6), .ref (m7), .ref (m8), .ref (m9), .ref (ma), .ref (mb)])), kI E (m1) (16) (to), kI E (m3) (16) (wk), kI E (m4) (64) (md)]) 0 0 tyM hinM tyokM nmM rfl rfl (by decide) fkM_53 rfl rfl rfl (Nat.le_of_ble_eq_true rfl) dM_gate_2 rfl ?_
  refine J_aload_n C 0 dM_gate_5 rfl rfl ?_
  refine J_callV C (rest := []) [] [((h), .inr (5, [.int (nI (0)), .int (nI (n)), .ref (m1), .int (nI (st)), .ref (m2), .ref (m3), .ref (m4), .int (nI (mn)), .ref (m5), .ref (m6), .ref (m7), .ref (m8), .ref (m9), .ref (ma), .ref (mb)])), kI E (m1) (16) (to)] [kI E (m3) (16) (wk), kI E (m4) (64) (md)] 0 (c_M_isPerm_t E l h n st mn m1 m2 m3 m4 m5 m6 m7 m8 m9 ma mb to (by omega) (by omega) (by assumption) (by assumption)) mmM_isPermutation msM_isPermutation lkM_78 rfl rfl (rfl) rfl rfl ⟨by decide, by decide⟩ ⟨by decide, by decide⟩ (Nat.le_of_ble_eq_true rfl) dM_gate_6 (fun r_c w_c hp => ?_)
  obtain ⟨rfl, rfl⟩ := hp
  refine J_norm C (st' := [.int (nI (1))]) (ws' := [((h), .inr (5, [.int (nI (0)), .int (nI (n)), .ref (m1), .int (nI (st)), .ref (m2), .ref (m3), .ref (m4), .int (nI (mn)), .ref (m5), .ref (m6), .ref (m7), .ref (m8), .ref (m9), .ref (ma), .ref (mb)])), kI E (m1) (16) (to), kI E (m3) (16) (wk), kI E (m4) (64) (md)]) (cs' := 0) (ss' := 0) rfl (rfl) rfl rfl ?_
  refine J_if_ne C 14 (nI_toInt (n := 1) (by decide)) dM_gate_9 (by decide) (fun h9 => ?_) (fun h9 => ?_)
  · refine J_aload_n C 0 dM_gate_14 rfl rfl ?_
    refine J_callV C (rest := []) [] [((h), .inr (5, [.int (nI (0)), .int (nI (n)), .ref (m1), .int (nI (st)), .ref (m2), .ref (m3), .ref (m4), .int (nI (mn)), .ref (m5), .ref (m6), .ref (m7), .ref (m8), .ref (m9), .ref (ma), .ref (mb)])), kI E (m1) (16) (to), kI E (m3) (16) (wk), kI E (m4) (64) (md)] [] 0 (c_M_findGates E l h n st mn m1 m2 m3 m4 m5 m6 m7 m8 m9 ma mb to wk md (by omega) (by omega) (by assumption)) mmM_findGates msM_findGates lkM_82 rfl rfl (rfl) rfl rfl ⟨by decide, by decide⟩ ⟨by decide, by decide⟩ (Nat.le_of_ble_eq_true rfl) dM_gate_15 (fun r_c w_c hp => ?_)
    obtain ⟨f1, F1, rfl, hF1, rfl⟩ := hp
    refine J_norm C (st' := []) (ws' := [((h), .inr (5, [.int (nI (0)), .int (nI (n)), .ref (m1), .int (nI (st)), .ref (m2), .ref (m3), .ref (m4), .int (nI ((gts n to).length)), .ref (m5), .ref (m6), .ref (m7), .ref (m8), .ref (m9), .ref (ma), .ref (mb)])), kI E (m1) (16) (to), kI E (m3) (16) (f1), kI E (m4) (64) (F1)]) (cs' := 0) (ss' := 0) rfl (rfl) rfl rfl ?_
    refine J_iload_n C 1 dM_gate_18 rfl rfl ?_
    refine J_iconst C (v := -1) dM_gate_19 (by decide) ?_
    refine J_icmp_ne C 28 rfl j_m1 dM_gate_20 (by decide) (fun h20 => ?_) (fun h20 => ?_)
    · refine J_iload_n C 1 dM_gate_28 rfl rfl ?_
      refine J_if_lt C 56 rfl dM_gate_29 (by decide) (fun h29 => ?_) (fun h29 => ?_)
      · refine J_iconst C (v := -1) dM_gate_56 (by decide) ?_
        exact hret _ _ _ _ _ _ dM_gate_57 (by decide) (by decide) (⟨f1, F1, rfl, rfl⟩)
      · refine J_iload_n C 1 dM_gate_32 rfl rfl ?_
        refine J_aload_n C 0 dM_gate_33 rfl rfl ?_
        refine J_get C 0 7 hinM rfl rfl (by decide) fkM_71 rfl dM_gate_34 ?_
        refine J_icmp_ge C 56 rfl (nI_toInt (n := (gts n to).length) (by omega)) dM_gate_37 (by decide) (fun h37 => ?_) (fun h37 => ?_)
        · refine J_iconst C (v := -1) dM_gate_56 (by decide) ?_
          exact hret _ _ _ _ _ _ dM_gate_57 (by decide) (by decide) (⟨f1, F1, rfl, rfl⟩)
        · exfalso; omega
    · exfalso; omega
  · exfalso; omega
end
section
set_option maxHeartbeats 4000000 in
set_option maxRecDepth 100000 in
theorem c_P_count (E : jE) (l : Launch) (n : Nat) (hn4 : n ≤ 4) : Con E l yP_count bP_count 3 (some .int) { frames := 0, cells := 0, slots := 0, locals := 0 } [.int (nI (n))] [] (fun r w => r = some (.int (nI (3 ^ n))) ∧ w = []) := by
  refine Con.ofI (by decide) (Nat.le_of_ble_eq_true rfl) ?_
  intro J C hret
  show J 0 [(0, .int (nI (n)))] [] [] 0 0
  refine J_iconst C (v := nI (1)) dP_count_0 (by decide) ?_
  refine J_istore_n C (lv' := [(0, .int (nI (n))), (1, .int (nI (1)))]) [1, 0] dP_count_1 rfl (by decide) rfl ?_
  refine J_iconst C (v := nI (0)) dP_count_2 (by decide) ?_
  refine J_istore_n C (lv' := [(0, .int (nI (n))), (1, .int (nI (1))), (2, .int (nI (0)))]) [1, 2, 0] dP_count_3 rfl (by decide) rfl ?_
  have lp_4 : ∀ (k_4 : Nat) (i : Nat), (i ≤ n) → (n - i) < k_4 → J 4 [(0, .int (nI (n))), (1, .int (nI (3 ^ i))), (2, .int (nI (i)))] [] [] (0) (0) := by
    intro k_4
    induction k_4 with
    | zero => intro i hi hk_4; exact absurd hk_4 (Nat.not_lt_zero _)
    | succ k_4 ih_4 =>
      intro i hi hk_4
      refine J_iload_n C 2 dP_count_4 rfl rfl ?_
      refine J_iload_n C 0 dP_count_5 rfl rfl ?_
      refine J_icmp_ge C 19 (nI_toInt (n := i) (by omega)) (nI_toInt (n := n) (by omega)) dP_count_6 (by decide) (fun h6 => ?_) (fun h6 => ?_)
      · obtain rfl : n = i := by omega
        refine J_iload_n C 1 dP_count_19 rfl rfl ?_
        exact hret _ _ _ _ _ _ dP_count_20 (by decide) (by decide) (⟨rfl, rfl⟩)
      · refine J_iload_n C 1 dP_count_9 rfl rfl ?_
        refine J_iconst C (v := nI (3)) dP_count_10 (by decide) ?_
        refine J_imulN C dP_count_11 ?_
        refine J_topN C (n' := 3 ^ (i + 1)) ((Nat.pow_succ 3 i).symm) ?_
        refine J_istore_n C (lv' := [(0, .int (nI (n))), (1, .int (nI (3 ^ (i + 1)))), (2, .int (nI (i)))]) [1, 0, 2] dP_count_12 rfl (by decide) rfl ?_
        refine J_iinc C (lv' := [(0, .int (nI (n))), (1, .int (nI (3 ^ (i + 1)))), (2, .int (nI (i + 1)))]) 2 [1, 2, 0] dP_count_13 rfl (jn_inc _) (by decide) rfl ?_
        refine J_goto C 4 dP_count_16 (by decide) ?_
        exact ih_4 (i + 1) (by omega) (by omega)
  exact lp_4 (n + 1) 0 (by omega) (by omega)
set_option maxHeartbeats 4000000 in
set_option maxRecDepth 100000 in
theorem c_P_holds_t (E : jE) (l : Launch) (n : Nat) (p : Nat) (v : Nat) (hn4 : n ≤ 4) (hp : p < 81) (hv : v < 16) (hq : hb p v n = true) : Con E l yP_holds bP_holds 7 (some .boolean) { frames := 0, cells := 0, slots := 0, locals := 0 } [.int (nI (n)), .int (nI (p)), .int (nI (v))] [] (fun r w => r = some (.int (nI 1)) ∧ w = []) := by
  refine Con.ofZ (by decide) (Nat.le_of_ble_eq_true rfl) ?_
  intro J C hret
  show J 0 [(0, .int (nI (n))), (1, .int (nI (p))), (2, .int (nI (v)))] [] [] 0 0
  refine J_iload_n C 1 dP_holds_0 rfl rfl ?_
  refine J_istore_n C (lv' := [(0, .int (nI (n))), (1, .int (nI (p))), (2, .int (nI (v))), (3, .int (nI (p)))]) [1, 2, 3, 0] dP_holds_1 rfl (by decide) rfl ?_
  refine J_iconst C (v := nI (0)) dP_holds_2 (by decide) ?_
  refine J_istore C (lv' := [(0, .int (nI (n))), (1, .int (nI (p))), (2, .int (nI (v))), (3, .int (nI (p))), (4, .int (nI (0)))]) [1, 2, 3, 4, 0] dP_holds_3 (by decide) rfl ?_
  have lp_5 : ∀ (k_5 : Nat) (b : Nat), (b ≤ n) → (hb p v b = true) → (n - b) < k_5 → J 5 [(0, .int (nI (n))), (1, .int (nI (p))), (2, .int (nI (v))), (3, .int (nI (p / 3 ^ b))), (4, .int (nI (b)))] [] [] (0) (0) := by
    intro k_5
    induction k_5 with
    | zero => intro b hi hbt hk_5; exact absurd hk_5 (Nat.not_lt_zero _)
    | succ k_5 ih_5 =>
      intro b hi hbt hk_5
      have hd := pdiv_lt hp b
      have he := and1_le (v / 2 ^ b)
      have hd3 := Nat.mod_lt (p / 3 ^ b) (show 0 < 3 by omega)
      refine J_iload C 4 dP_holds_5 rfl ?_
      refine J_iload_n C 0 dP_holds_7 rfl rfl ?_
      refine J_icmp_ge C 59 (nI_toInt (n := b) (by omega)) (nI_toInt (n := n) (by omega)) dP_holds_8 (by decide) (fun h8 => ?_) (fun h8 => ?_)
      · obtain rfl : n = b := by omega
        refine J_iconst C (v := nI (1)) dP_holds_59 (by decide) ?_
        exact hret _ _ _ _ _ _ dP_holds_60 (by decide) (by decide) (by decide) (⟨rfl, rfl⟩)
      · refine J_iload_n C 3 dP_holds_11 rfl rfl ?_
        refine J_iconst C (v := nI (3)) dP_holds_12 (by decide) ?_
        refine J_iremN C dP_holds_13 (by omega) (by omega) (by omega) ?_
        refine J_istore C (lv' := [(0, .int (nI (n))), (1, .int (nI (p))), (2, .int (nI (v))), (3, .int (nI (p / 3 ^ b))), (4, .int (nI (b))), (5, .int (nI ((p / 3 ^ b) % 3)))]) [1, 2, 3, 4, 5, 0] dP_holds_14 (by decide) rfl ?_
        refine J_iload_n C 2 dP_holds_16 rfl rfl ?_
        refine J_iload C 4 dP_holds_17 rfl ?_
        refine J_ishrN C dP_holds_19 (by omega) (by omega) ?_
        refine J_iconst C (v := nI (1)) dP_holds_20 (by decide) ?_
        refine J_iandN C dP_holds_21 ?_
        refine J_istore C (lv' := [(0, .int (nI (n))), (1, .int (nI (p))), (2, .int (nI (v))), (3, .int (nI (p / 3 ^ b))), (4, .int (nI (b))), (5, .int (nI ((p / 3 ^ b) % 3))), (6, .int (nI ((v / 2 ^ b) &&& 1)))]) [1, 2, 3, 4, 5, 6, 0] dP_holds_22 (by decide) rfl ?_
        refine J_iload C 5 dP_holds_24 rfl ?_
        refine J_iconst C (v := nI (1)) dP_holds_26 (by decide) ?_
        refine J_icmp_ne C 35 (nI_toInt (n := (p / 3 ^ b) % 3) (by omega)) (nI_toInt (n := 1) (by decide)) dP_holds_27 (by decide) (fun h27 => ?_) (fun h27 => ?_)
        · refine J_iload C 5 dP_holds_35 rfl ?_
          refine J_iconst C (v := nI (2)) dP_holds_37 (by decide) ?_
          refine J_icmp_ne C 49 (nI_toInt (n := (p / 3 ^ b) % 3) (by omega)) (nI_toInt (n := 2) (by decide)) dP_holds_38 (by decide) (fun h38 => ?_) (fun h38 => ?_)
          · refine J_iload_n C 3 dP_holds_49 rfl rfl ?_
            refine J_iconst C (v := nI (3)) dP_holds_50 (by decide) ?_
            refine J_idivN C dP_holds_51 (by omega) (by omega) (by omega) ?_
            refine J_topN C (n' := p / 3 ^ (b + 1)) (pdiv3 p b) ?_
            refine J_istore_n C (lv' := [(0, .int (nI (n))), (1, .int (nI (p))), (2, .int (nI (v))), (3, .int (nI (p / 3 ^ (b + 1)))), (4, .int (nI (b))), (5, .int (nI ((p / 3 ^ b) % 3))), (6, .int (nI ((v / 2 ^ b) &&& 1)))]) [1, 2, 3, 0, 4, 5, 6] dP_holds_52 rfl (by decide) rfl ?_
            refine J_iinc C (lv' := [(0, .int (nI (n))), (1, .int (nI (p))), (2, .int (nI (v))), (3, .int (nI (p / 3 ^ (b + 1)))), (4, .int (nI (b + 1))), (5, .int (nI ((p / 3 ^ b) % 3))), (6, .int (nI ((v / 2 ^ b) &&& 1)))]) 4 [1, 2, 3, 4, 0, 5, 6] dP_holds_53 rfl (jn_inc _) (by decide) rfl ?_
            refine J_goto C 5 dP_holds_56 (by decide) ?_
            refine J_lv C (lv' := [(0, .int (nI (n))), (1, .int (nI (p))), (2, .int (nI (v))), (3, .int (nI (p / 3 ^ (b + 1)))), (4, .int (nI (b + 1)))]) [0, 1, 2, 3, 4] rfl ?_
            exact ih_5 (b + 1) (by omega) (hb_s hbt (okd_of (Nat.mod_lt _ (by omega)) (tb_and1 v b) (by omega) (by omega))) (by omega)
          · refine J_iload C 6 dP_holds_41 rfl ?_
            refine J_iconst C (v := nI (1)) dP_holds_43 (by decide) ?_
            refine J_icmp_ne C 49 (nI_toInt (n := (v / 2 ^ b) &&& 1) (by omega)) (nI_toInt (n := 1) (by decide)) dP_holds_44 (by decide) (fun h44 => ?_) (fun h44 => ?_)
            · refine J_iload_n C 3 dP_holds_49 rfl rfl ?_
              refine J_iconst C (v := nI (3)) dP_holds_50 (by decide) ?_
              refine J_idivN C dP_holds_51 (by omega) (by omega) (by omega) ?_
              refine J_topN C (n' := p / 3 ^ (b + 1)) (pdiv3 p b) ?_
              refine J_istore_n C (lv' := [(0, .int (nI (n))), (1, .int (nI (p))), (2, .int (nI (v))), (3, .int (nI (p / 3 ^ (b + 1)))), (4, .int (nI (b))), (5, .int (nI ((p / 3 ^ b) % 3))), (6, .int (nI ((v / 2 ^ b) &&& 1)))]) [1, 2, 3, 0, 4, 5, 6] dP_holds_52 rfl (by decide) rfl ?_
              refine J_iinc C (lv' := [(0, .int (nI (n))), (1, .int (nI (p))), (2, .int (nI (v))), (3, .int (nI (p / 3 ^ (b + 1)))), (4, .int (nI (b + 1))), (5, .int (nI ((p / 3 ^ b) % 3))), (6, .int (nI ((v / 2 ^ b) &&& 1)))]) 4 [1, 2, 3, 4, 0, 5, 6] dP_holds_53 rfl (jn_inc _) (by decide) rfl ?_
              refine J_goto C 5 dP_holds_56 (by decide) ?_
              refine J_lv C (lv' := [(0, .int (nI (n))), (1, .int (nI (p))), (2, .int (nI (v))), (3, .int (nI (p / 3 ^ (b + 1)))), (4, .int (nI (b + 1)))]) [0, 1, 2, 3, 4] rfl ?_
              exact ih_5 (b + 1) (by omega) (hb_s hbt (okd_of (Nat.mod_lt _ (by omega)) (tb_and1 v b) (by omega) (by omega))) (by omega)
            · refine J_iconst C (v := nI (0)) dP_holds_47 (by decide) ?_
              exfalso
              have q0 : okd (p / 3 ^ b % 3) (v.testBit b) = false := okd_no (d := p / 3 ^ b % 3) (e := v / 2 ^ b &&& 1) (tb_and1 v b) (by omega)
              have q := hb_le (show b + 1 ≤ n by omega) (hb_n q0)
              rw [hq] at q; cases q
        · refine J_iload C 6 dP_holds_30 rfl ?_
          refine J_if_eq C 47 (nI_toInt (n := (v / 2 ^ b) &&& 1) (by omega)) dP_holds_32 (by decide) (fun h32 => ?_) (fun h32 => ?_)
          · refine J_iconst C (v := nI (0)) dP_holds_47 (by decide) ?_
            exfalso
            have q0 : okd (p / 3 ^ b % 3) (v.testBit b) = false := okd_no (d := p / 3 ^ b % 3) (e := v / 2 ^ b &&& 1) (tb_and1 v b) (by omega)
            have q := hb_le (show b + 1 ≤ n by omega) (hb_n q0)
            rw [hq] at q; cases q
          · refine J_iload C 5 dP_holds_35 rfl ?_
            refine J_iconst C (v := nI (2)) dP_holds_37 (by decide) ?_
            refine J_icmp_ne C 49 (nI_toInt (n := (p / 3 ^ b) % 3) (by omega)) (nI_toInt (n := 2) (by decide)) dP_holds_38 (by decide) (fun h38 => ?_) (fun h38 => ?_)
            · refine J_iload_n C 3 dP_holds_49 rfl rfl ?_
              refine J_iconst C (v := nI (3)) dP_holds_50 (by decide) ?_
              refine J_idivN C dP_holds_51 (by omega) (by omega) (by omega) ?_
              refine J_topN C (n' := p / 3 ^ (b + 1)) (pdiv3 p b) ?_
              refine J_istore_n C (lv' := [(0, .int (nI (n))), (1, .int (nI (p))), (2, .int (nI (v))), (3, .int (nI (p / 3 ^ (b + 1)))), (4, .int (nI (b))), (5, .int (nI ((p / 3 ^ b) % 3))), (6, .int (nI ((v / 2 ^ b) &&& 1)))]) [1, 2, 3, 0, 4, 5, 6] dP_holds_52 rfl (by decide) rfl ?_
              refine J_iinc C (lv' := [(0, .int (nI (n))), (1, .int (nI (p))), (2, .int (nI (v))), (3, .int (nI (p / 3 ^ (b + 1)))), (4, .int (nI (b + 1))), (5, .int (nI ((p / 3 ^ b) % 3))), (6, .int (nI ((v / 2 ^ b) &&& 1)))]) 4 [1, 2, 3, 4, 0, 5, 6] dP_holds_53 rfl (jn_inc _) (by decide) rfl ?_
              refine J_goto C 5 dP_holds_56 (by decide) ?_
              refine J_lv C (lv' := [(0, .int (nI (n))), (1, .int (nI (p))), (2, .int (nI (v))), (3, .int (nI (p / 3 ^ (b + 1)))), (4, .int (nI (b + 1)))]) [0, 1, 2, 3, 4] rfl ?_
              exact ih_5 (b + 1) (by omega) (hb_s hbt (okd_of (Nat.mod_lt _ (by omega)) (tb_and1 v b) (by omega) (by omega))) (by omega)
            · refine J_iload C 6 dP_holds_41 rfl ?_
              refine J_iconst C (v := nI (1)) dP_holds_43 (by decide) ?_
              refine J_icmp_ne C 49 (nI_toInt (n := (v / 2 ^ b) &&& 1) (by omega)) (nI_toInt (n := 1) (by decide)) dP_holds_44 (by decide) (fun h44 => ?_) (fun h44 => ?_)
              · refine J_iload_n C 3 dP_holds_49 rfl rfl ?_
                refine J_iconst C (v := nI (3)) dP_holds_50 (by decide) ?_
                refine J_idivN C dP_holds_51 (by omega) (by omega) (by omega) ?_
                refine J_topN C (n' := p / 3 ^ (b + 1)) (pdiv3 p b) ?_
                refine J_istore_n C (lv' := [(0, .int (nI (n))), (1, .int (nI (p))), (2, .int (nI (v))), (3, .int (nI (p / 3 ^ (b + 1)))), (4, .int (nI (b))), (5, .int (nI ((p / 3 ^ b) % 3))), (6, .int (nI ((v / 2 ^ b) &&& 1)))]) [1, 2, 3, 0, 4, 5, 6] dP_holds_52 rfl (by decide) rfl ?_
                refine J_iinc C (lv' := [(0, .int (nI (n))), (1, .int (nI (p))), (2, .int (nI (v))), (3, .int (nI (p / 3 ^ (b + 1)))), (4, .int (nI (b + 1))), (5, .int (nI ((p / 3 ^ b) % 3))), (6, .int (nI ((v / 2 ^ b) &&& 1)))]) 4 [1, 2, 3, 4, 0, 5, 6] dP_holds_53 rfl (jn_inc _) (by decide) rfl ?_
                refine J_goto C 5 dP_holds_56 (by decide) ?_
                refine J_lv C (lv' := [(0, .int (nI (n))), (1, .int (nI (p))), (2, .int (nI (v))), (3, .int (nI (p / 3 ^ (b + 1)))), (4, .int (nI (b + 1)))]) [0, 1, 2, 3, 4] rfl ?_
                exact ih_5 (b + 1) (by omega) (hb_s hbt (okd_of (Nat.mod_lt _ (by omega)) (tb_and1 v b) (by omega) (by omega))) (by omega)
              · refine J_iconst C (v := nI (0)) dP_holds_47 (by decide) ?_
                exfalso
                have q0 : okd (p / 3 ^ b % 3) (v.testBit b) = false := okd_no (d := p / 3 ^ b % 3) (e := v / 2 ^ b &&& 1) (tb_and1 v b) (by omega)
                have q := hb_le (show b + 1 ≤ n by omega) (hb_n q0)
                rw [hq] at q; cases q
  have q_5 := lp_5 (n + 1) 0 (by omega) (rfl) (by omega)
  rw [show p / 3 ^ 0 = p by simp] at q_5
  exact q_5
set_option maxHeartbeats 4000000 in
set_option maxRecDepth 100000 in
theorem c_P_holds_f (E : jE) (l : Launch) (n : Nat) (p : Nat) (v : Nat) (hn4 : n ≤ 4) (hp : p < 81) (hv : v < 16) (hq : hb p v n = false) : Con E l yP_holds bP_holds 7 (some .boolean) { frames := 0, cells := 0, slots := 0, locals := 0 } [.int (nI (n)), .int (nI (p)), .int (nI (v))] [] (fun r w => r = some (.int (nI 0)) ∧ w = []) := by
  refine Con.ofZ (by decide) (Nat.le_of_ble_eq_true rfl) ?_
  intro J C hret
  show J 0 [(0, .int (nI (n))), (1, .int (nI (p))), (2, .int (nI (v)))] [] [] 0 0
  refine J_iload_n C 1 dP_holds_0 rfl rfl ?_
  refine J_istore_n C (lv' := [(0, .int (nI (n))), (1, .int (nI (p))), (2, .int (nI (v))), (3, .int (nI (p)))]) [1, 2, 3, 0] dP_holds_1 rfl (by decide) rfl ?_
  refine J_iconst C (v := nI (0)) dP_holds_2 (by decide) ?_
  refine J_istore C (lv' := [(0, .int (nI (n))), (1, .int (nI (p))), (2, .int (nI (v))), (3, .int (nI (p))), (4, .int (nI (0)))]) [1, 2, 3, 4, 0] dP_holds_3 (by decide) rfl ?_
  have lp_5 : ∀ (k_5 : Nat) (b : Nat), (b ≤ n) → (hb p v b = true) → (n - b) < k_5 → J 5 [(0, .int (nI (n))), (1, .int (nI (p))), (2, .int (nI (v))), (3, .int (nI (p / 3 ^ b))), (4, .int (nI (b)))] [] [] (0) (0) := by
    intro k_5
    induction k_5 with
    | zero => intro b hi hbt hk_5; exact absurd hk_5 (Nat.not_lt_zero _)
    | succ k_5 ih_5 =>
      intro b hi hbt hk_5
      have hd := pdiv_lt hp b
      have he := and1_le (v / 2 ^ b)
      have hd3 := Nat.mod_lt (p / 3 ^ b) (show 0 < 3 by omega)
      refine J_iload C 4 dP_holds_5 rfl ?_
      refine J_iload_n C 0 dP_holds_7 rfl rfl ?_
      refine J_icmp_ge C 59 (nI_toInt (n := b) (by omega)) (nI_toInt (n := n) (by omega)) dP_holds_8 (by decide) (fun h8 => ?_) (fun h8 => ?_)
      · obtain rfl : n = b := by omega
        refine J_iconst C (v := nI (1)) dP_holds_59 (by decide) ?_
        exfalso
        rw [hq] at hbt; cases hbt
      · refine J_iload_n C 3 dP_holds_11 rfl rfl ?_
        refine J_iconst C (v := nI (3)) dP_holds_12 (by decide) ?_
        refine J_iremN C dP_holds_13 (by omega) (by omega) (by omega) ?_
        refine J_istore C (lv' := [(0, .int (nI (n))), (1, .int (nI (p))), (2, .int (nI (v))), (3, .int (nI (p / 3 ^ b))), (4, .int (nI (b))), (5, .int (nI ((p / 3 ^ b) % 3)))]) [1, 2, 3, 4, 5, 0] dP_holds_14 (by decide) rfl ?_
        refine J_iload_n C 2 dP_holds_16 rfl rfl ?_
        refine J_iload C 4 dP_holds_17 rfl ?_
        refine J_ishrN C dP_holds_19 (by omega) (by omega) ?_
        refine J_iconst C (v := nI (1)) dP_holds_20 (by decide) ?_
        refine J_iandN C dP_holds_21 ?_
        refine J_istore C (lv' := [(0, .int (nI (n))), (1, .int (nI (p))), (2, .int (nI (v))), (3, .int (nI (p / 3 ^ b))), (4, .int (nI (b))), (5, .int (nI ((p / 3 ^ b) % 3))), (6, .int (nI ((v / 2 ^ b) &&& 1)))]) [1, 2, 3, 4, 5, 6, 0] dP_holds_22 (by decide) rfl ?_
        refine J_iload C 5 dP_holds_24 rfl ?_
        refine J_iconst C (v := nI (1)) dP_holds_26 (by decide) ?_
        refine J_icmp_ne C 35 (nI_toInt (n := (p / 3 ^ b) % 3) (by omega)) (nI_toInt (n := 1) (by decide)) dP_holds_27 (by decide) (fun h27 => ?_) (fun h27 => ?_)
        · refine J_iload C 5 dP_holds_35 rfl ?_
          refine J_iconst C (v := nI (2)) dP_holds_37 (by decide) ?_
          refine J_icmp_ne C 49 (nI_toInt (n := (p / 3 ^ b) % 3) (by omega)) (nI_toInt (n := 2) (by decide)) dP_holds_38 (by decide) (fun h38 => ?_) (fun h38 => ?_)
          · refine J_iload_n C 3 dP_holds_49 rfl rfl ?_
            refine J_iconst C (v := nI (3)) dP_holds_50 (by decide) ?_
            refine J_idivN C dP_holds_51 (by omega) (by omega) (by omega) ?_
            refine J_topN C (n' := p / 3 ^ (b + 1)) (pdiv3 p b) ?_
            refine J_istore_n C (lv' := [(0, .int (nI (n))), (1, .int (nI (p))), (2, .int (nI (v))), (3, .int (nI (p / 3 ^ (b + 1)))), (4, .int (nI (b))), (5, .int (nI ((p / 3 ^ b) % 3))), (6, .int (nI ((v / 2 ^ b) &&& 1)))]) [1, 2, 3, 0, 4, 5, 6] dP_holds_52 rfl (by decide) rfl ?_
            refine J_iinc C (lv' := [(0, .int (nI (n))), (1, .int (nI (p))), (2, .int (nI (v))), (3, .int (nI (p / 3 ^ (b + 1)))), (4, .int (nI (b + 1))), (5, .int (nI ((p / 3 ^ b) % 3))), (6, .int (nI ((v / 2 ^ b) &&& 1)))]) 4 [1, 2, 3, 4, 0, 5, 6] dP_holds_53 rfl (jn_inc _) (by decide) rfl ?_
            refine J_goto C 5 dP_holds_56 (by decide) ?_
            refine J_lv C (lv' := [(0, .int (nI (n))), (1, .int (nI (p))), (2, .int (nI (v))), (3, .int (nI (p / 3 ^ (b + 1)))), (4, .int (nI (b + 1)))]) [0, 1, 2, 3, 4] rfl ?_
            exact ih_5 (b + 1) (by omega) (hb_s hbt (okd_of (Nat.mod_lt _ (by omega)) (tb_and1 v b) (by omega) (by omega))) (by omega)
          · refine J_iload C 6 dP_holds_41 rfl ?_
            refine J_iconst C (v := nI (1)) dP_holds_43 (by decide) ?_
            refine J_icmp_ne C 49 (nI_toInt (n := (v / 2 ^ b) &&& 1) (by omega)) (nI_toInt (n := 1) (by decide)) dP_holds_44 (by decide) (fun h44 => ?_) (fun h44 => ?_)
            · refine J_iload_n C 3 dP_holds_49 rfl rfl ?_
              refine J_iconst C (v := nI (3)) dP_holds_50 (by decide) ?_
              refine J_idivN C dP_holds_51 (by omega) (by omega) (by omega) ?_
              refine J_topN C (n' := p / 3 ^ (b + 1)) (pdiv3 p b) ?_
              refine J_istore_n C (lv' := [(0, .int (nI (n))), (1, .int (nI (p))), (2, .int (nI (v))), (3, .int (nI (p / 3 ^ (b + 1)))), (4, .int (nI (b))), (5, .int (nI ((p / 3 ^ b) % 3))), (6, .int (nI ((v / 2 ^ b) &&& 1)))]) [1, 2, 3, 0, 4, 5, 6] dP_holds_52 rfl (by decide) rfl ?_
              refine J_iinc C (lv' := [(0, .int (nI (n))), (1, .int (nI (p))), (2, .int (nI (v))), (3, .int (nI (p / 3 ^ (b + 1)))), (4, .int (nI (b + 1))), (5, .int (nI ((p / 3 ^ b) % 3))), (6, .int (nI ((v / 2 ^ b) &&& 1)))]) 4 [1, 2, 3, 4, 0, 5, 6] dP_holds_53 rfl (jn_inc _) (by decide) rfl ?_
              refine J_goto C 5 dP_holds_56 (by decide) ?_
              refine J_lv C (lv' := [(0, .int (nI (n))), (1, .int (nI (p))), (2, .int (nI (v))), (3, .int (nI (p / 3 ^ (b + 1)))), (4, .int (nI (b + 1)))]) [0, 1, 2, 3, 4] rfl ?_
              exact ih_5 (b + 1) (by omega) (hb_s hbt (okd_of (Nat.mod_lt _ (by omega)) (tb_and1 v b) (by omega) (by omega))) (by omega)
            · refine J_iconst C (v := nI (0)) dP_holds_47 (by decide) ?_
              exact hret _ _ _ _ _ _ dP_holds_48 (by decide) (by decide) (by decide) (⟨rfl, rfl⟩)
        · refine J_iload C 6 dP_holds_30 rfl ?_
          refine J_if_eq C 47 (nI_toInt (n := (v / 2 ^ b) &&& 1) (by omega)) dP_holds_32 (by decide) (fun h32 => ?_) (fun h32 => ?_)
          · refine J_iconst C (v := nI (0)) dP_holds_47 (by decide) ?_
            exact hret _ _ _ _ _ _ dP_holds_48 (by decide) (by decide) (by decide) (⟨rfl, rfl⟩)
          · refine J_iload C 5 dP_holds_35 rfl ?_
            refine J_iconst C (v := nI (2)) dP_holds_37 (by decide) ?_
            refine J_icmp_ne C 49 (nI_toInt (n := (p / 3 ^ b) % 3) (by omega)) (nI_toInt (n := 2) (by decide)) dP_holds_38 (by decide) (fun h38 => ?_) (fun h38 => ?_)
            · refine J_iload_n C 3 dP_holds_49 rfl rfl ?_
              refine J_iconst C (v := nI (3)) dP_holds_50 (by decide) ?_
              refine J_idivN C dP_holds_51 (by omega) (by omega) (by omega) ?_
              refine J_topN C (n' := p / 3 ^ (b + 1)) (pdiv3 p b) ?_
              refine J_istore_n C (lv' := [(0, .int (nI (n))), (1, .int (nI (p))), (2, .int (nI (v))), (3, .int (nI (p / 3 ^ (b + 1)))), (4, .int (nI (b))), (5, .int (nI ((p / 3 ^ b) % 3))), (6, .int (nI ((v / 2 ^ b) &&& 1)))]) [1, 2, 3, 0, 4, 5, 6] dP_holds_52 rfl (by decide) rfl ?_
              refine J_iinc C (lv' := [(0, .int (nI (n))), (1, .int (nI (p))), (2, .int (nI (v))), (3, .int (nI (p / 3 ^ (b + 1)))), (4, .int (nI (b + 1))), (5, .int (nI ((p / 3 ^ b) % 3))), (6, .int (nI ((v / 2 ^ b) &&& 1)))]) 4 [1, 2, 3, 4, 0, 5, 6] dP_holds_53 rfl (jn_inc _) (by decide) rfl ?_
              refine J_goto C 5 dP_holds_56 (by decide) ?_
              refine J_lv C (lv' := [(0, .int (nI (n))), (1, .int (nI (p))), (2, .int (nI (v))), (3, .int (nI (p / 3 ^ (b + 1)))), (4, .int (nI (b + 1)))]) [0, 1, 2, 3, 4] rfl ?_
              exact ih_5 (b + 1) (by omega) (hb_s hbt (okd_of (Nat.mod_lt _ (by omega)) (tb_and1 v b) (by omega) (by omega))) (by omega)
            · refine J_iload C 6 dP_holds_41 rfl ?_
              refine J_iconst C (v := nI (1)) dP_holds_43 (by decide) ?_
              refine J_icmp_ne C 49 (nI_toInt (n := (v / 2 ^ b) &&& 1) (by omega)) (nI_toInt (n := 1) (by decide)) dP_holds_44 (by decide) (fun h44 => ?_) (fun h44 => ?_)
              · refine J_iload_n C 3 dP_holds_49 rfl rfl ?_
                refine J_iconst C (v := nI (3)) dP_holds_50 (by decide) ?_
                refine J_idivN C dP_holds_51 (by omega) (by omega) (by omega) ?_
                refine J_topN C (n' := p / 3 ^ (b + 1)) (pdiv3 p b) ?_
                refine J_istore_n C (lv' := [(0, .int (nI (n))), (1, .int (nI (p))), (2, .int (nI (v))), (3, .int (nI (p / 3 ^ (b + 1)))), (4, .int (nI (b))), (5, .int (nI ((p / 3 ^ b) % 3))), (6, .int (nI ((v / 2 ^ b) &&& 1)))]) [1, 2, 3, 0, 4, 5, 6] dP_holds_52 rfl (by decide) rfl ?_
                refine J_iinc C (lv' := [(0, .int (nI (n))), (1, .int (nI (p))), (2, .int (nI (v))), (3, .int (nI (p / 3 ^ (b + 1)))), (4, .int (nI (b + 1))), (5, .int (nI ((p / 3 ^ b) % 3))), (6, .int (nI ((v / 2 ^ b) &&& 1)))]) 4 [1, 2, 3, 4, 0, 5, 6] dP_holds_53 rfl (jn_inc _) (by decide) rfl ?_
                refine J_goto C 5 dP_holds_56 (by decide) ?_
                refine J_lv C (lv' := [(0, .int (nI (n))), (1, .int (nI (p))), (2, .int (nI (v))), (3, .int (nI (p / 3 ^ (b + 1)))), (4, .int (nI (b + 1)))]) [0, 1, 2, 3, 4] rfl ?_
                exact ih_5 (b + 1) (by omega) (hb_s hbt (okd_of (Nat.mod_lt _ (by omega)) (tb_and1 v b) (by omega) (by omega))) (by omega)
              · refine J_iconst C (v := nI (0)) dP_holds_47 (by decide) ?_
                exact hret _ _ _ _ _ _ dP_holds_48 (by decide) (by decide) (by decide) (⟨rfl, rfl⟩)
  have q_5 := lp_5 (n + 1) 0 (by omega) (rfl) (by omega)
  rw [show p / 3 ^ 0 = p by simp] at q_5
  exact q_5
set_option maxHeartbeats 4000000 in
set_option maxRecDepth 100000 in
theorem c_P_function (E : jE) (l : Launch) (n : Nat) (p : Nat) (hn4 : n ≤ 4) (hp : p < 3 ^ n) : Con E l yP_function bP_function 4 (some .int) { frames := 1, cells := 0, slots := 0, locals := 26 } [.int (nI (n)), .int (nI (p))] [] (fun r w => r = some (.int (nI (pfn n p))) ∧ w = []) := by
  refine Con.ofI (by decide) (Nat.le_of_ble_eq_true rfl) ?_
  intro J C hret
  show J 0 [(0, .int (nI (n))), (1, .int (nI (p)))] [] [] 0 0
  have hp16 := p16 hn4
  have hp81 := p81 hn4
  have hp1 := p1 n
  refine J_iconst C (v := nI (0)) dP_function_0 (by decide) ?_
  refine J_istore_n C (lv' := [(0, .int (nI (n))), (1, .int (nI (p))), (2, .int (nI (0)))]) [1, 2, 0] dP_function_1 rfl (by decide) rfl ?_
  refine J_iconst C (v := nI (0)) dP_function_2 (by decide) ?_
  refine J_istore_n C (lv' := [(0, .int (nI (n))), (1, .int (nI (p))), (2, .int (nI (0))), (3, .int (nI (0)))]) [1, 2, 3, 0] dP_function_3 rfl (by decide) rfl ?_
  have lp_4 : ∀ (k_4 : Nat) (v : Nat), (v ≤ 2 ^ n) → (2 ^ n - v) < k_4 → J 4 [(0, .int (nI (n))), (1, .int (nI (p))), (2, .int (nI (fnv n p v))), (3, .int (nI (v)))] [] [] (0) (0) := by
    intro k_4
    induction k_4 with
    | zero => intro v hv hk_4; exact absurd hk_4 (Nat.not_lt_zero _)
    | succ k_4 ih_4 =>
      intro v hv hk_4
      refine J_iload_n C 3 dP_function_4 rfl rfl ?_
      refine J_iconst C (v := nI (1)) dP_function_5 (by decide) ?_
      refine J_iload_n C 0 dP_function_6 rfl rfl ?_
      refine J_ishl1 C dP_function_7 (by omega) ?_
      refine J_icmp_ge C 32 (nI_toInt (n := v) (by omega)) (nI_toInt (n := 2 ^ n) (by omega)) dP_function_8 (by decide) (fun h8 => ?_) (fun h8 => ?_)
      · obtain rfl : 2 ^ n = v := by omega
        refine J_iload_n C 2 dP_function_32 rfl rfl ?_
        exact hret _ _ _ _ _ _ dP_function_33 (by decide) (by decide) (⟨by rw [fnv_pfn n (by omega) p hp], rfl⟩)
      · refine J_iload_n C 0 dP_function_11 rfl rfl ?_
        refine J_iload_n C 1 dP_function_12 rfl rfl ?_
        refine J_iload_n C 3 dP_function_13 rfl rfl ?_
        cases hq : hb p v n with
        | false =>
          refine J_callS C (rest := []) [] [] [] (c_P_holds_f E l n p v (by omega) (by omega) (by omega) (hq)) mmP_holds lkP_7 (rfl) rfl rfl ⟨by decide, by decide⟩ ⟨by decide, by decide⟩ (Nat.le_of_ble_eq_true rfl) dP_function_14 (fun r_c w_c hp => ?_)
          obtain ⟨rfl, rfl⟩ := hp
          refine J_norm C (st' := [.int (nI (0))]) (ws' := []) (cs' := 0) (ss' := 0) rfl (rfl) rfl rfl ?_
          refine J_if_eq C 26 (nI_toInt (n := 0) (by decide)) dP_function_17 (by decide) (fun h17 => ?_) (fun h17 => ?_)
          · refine J_iinc C (lv' := [(0, .int (nI (n))), (1, .int (nI (p))), (2, .int (nI (fnv n p v))), (3, .int (nI (v + 1)))]) 3 [1, 2, 3, 0] dP_function_26 rfl (jn_inc _) (by decide) rfl ?_
            refine J_goto C 4 dP_function_29 (by decide) ?_
            rw [← fnv_f hq]
            exact ih_4 (v + 1) (by omega) (by omega)
          · exfalso; omega
        | true =>
          refine J_callS C (rest := []) [] [] [] (c_P_holds_t E l n p v (by omega) (by omega) (by omega) (hq)) mmP_holds lkP_7 (rfl) rfl rfl ⟨by decide, by decide⟩ ⟨by decide, by decide⟩ (Nat.le_of_ble_eq_true rfl) dP_function_14 (fun r_c w_c hp => ?_)
          obtain ⟨rfl, rfl⟩ := hp
          refine J_norm C (st' := [.int (nI (1))]) (ws' := []) (cs' := 0) (ss' := 0) rfl (rfl) rfl rfl ?_
          refine J_if_eq C 26 (nI_toInt (n := 1) (by decide)) dP_function_17 (by decide) (fun h17 => ?_) (fun h17 => ?_)
          · exfalso; omega
          · refine J_iload_n C 2 dP_function_20 rfl rfl ?_
            refine J_iconst C (v := nI (1)) dP_function_21 (by decide) ?_
            refine J_iload_n C 3 dP_function_22 rfl rfl ?_
            refine J_ishl1 C dP_function_23 (by omega) ?_
            refine J_iorN C dP_function_24 ?_
            refine J_istore_n C (lv' := [(0, .int (nI (n))), (1, .int (nI (p))), (2, .int (nI ((fnv n p v) ||| (2 ^ v)))), (3, .int (nI (v)))]) [1, 2, 0, 3] dP_function_25 rfl (by decide) rfl ?_
            refine J_iinc C (lv' := [(0, .int (nI (n))), (1, .int (nI (p))), (2, .int (nI ((fnv n p v) ||| (2 ^ v)))), (3, .int (nI (v + 1)))]) 3 [1, 2, 3, 0] dP_function_26 rfl (jn_inc _) (by decide) rfl ?_
            refine J_goto C 4 dP_function_29 (by decide) ?_
            rw [← fnv_t hq]
            exact ih_4 (v + 1) (by omega) (by omega)
  exact lp_4 (2 ^ n + 1) 0 (by omega) (by omega)
set_option maxHeartbeats 4000000 in
set_option maxRecDepth 100000 in
theorem c_M_products (E : jE) (l : Launch) (h : Nat) (n : Nat) (st : Nat) (mn : Nat) (m1 : Nat) (m2 : Nat) (m3 : Nat) (m4 : Nat) (m5 : Nat) (m6 : Nat) (m7 : Nat) (m8 : Nat) (m9 : Nat) (ma : Nat) (mb : Nat) (hn1 : 1 ≤ n) (hn4 : n ≤ 4) : Con E l yM_products bM_products 3 (some .int) { frames := 0, cells := 0, slots := 0, locals := 0 } [.ref (h)] [((h), .inr (5, [.int (nI (0)), .int (nI (n)), .ref (m1), .int (nI (st)), .ref (m2), .ref (m3), .ref (m4), .int (nI (mn)), .ref (m5), .ref (m6), .ref (m7), .ref (m8), .ref (m9), .ref (ma), .ref (mb)]))] (fun r w => r = some (.int (nI (3 ^ n))) ∧ w = [((h), .inr (5, [.int (nI (0)), .int (nI (n)), .ref (m1), .int (nI (st)), .ref (m2), .ref (m3), .ref (m4), .int (nI (mn)), .ref (m5), .ref (m6), .ref (m7), .ref (m8), .ref (m9), .ref (ma), .ref (mb)]))]) := by
  refine Con.ofI (by decide) (Nat.le_of_ble_eq_true rfl) ?_
  intro J C hret
  show J 0 [(0, .ref (h))] [] [((h), .inr (5, [.int (nI (0)), .int (nI (n)), .ref (m1), .int (nI (st)), .ref (m2), .ref (m3), .ref (m4), .int (nI (mn)), .ref (m5), .ref (m6), .ref (m7), .ref (m8), .ref (m9), .ref (ma), .ref (mb)]))] 0 0
  refine J_iconst C (v := nI (1)) dM_products_0 (by decide) ?_
  refine J_istore_n C (lv' := [(0, .ref (h)), (1, .int (nI (1)))]) [1, 0] dM_products_1 rfl (by decide) rfl ?_
  refine J_iconst C (v := nI (0)) dM_products_2 (by decide) ?_
  refine J_istore_n C (lv' := [(0, .ref (h)), (1, .int (nI (1))), (2, .int (nI (0)))]) [1, 2, 0] dM_products_3 rfl (by decide) rfl ?_
  have lp_4 : ∀ (k_4 : Nat) (i : Nat), (i ≤ n) → (n - i) < k_4 → J 4 [(0, .ref (h)), (1, .int (nI (3 ^ i))), (2, .int (nI (i)))] [] [((h), .inr (5, [.int (nI (0)), .int (nI (n)), .ref (m1), .int (nI (st)), .ref (m2), .ref (m3), .ref (m4), .int (nI (mn)), .ref (m5), .ref (m6), .ref (m7), .ref (m8), .ref (m9), .ref (ma), .ref (mb)]))] (0) (0) := by
    intro k_4
    induction k_4 with
    | zero => intro i hi hk_4; exact absurd hk_4 (Nat.not_lt_zero _)
    | succ k_4 ih_4 =>
      intro i hi hk_4
      refine J_iload_n C 2 dM_products_4 rfl rfl ?_
      refine J_aload_n C 0 dM_products_5 rfl rfl ?_
      refine J_get C 0 1 hinM rfl rfl (by decide) fkM_56 rfl dM_products_6 ?_
      refine J_icmp_ge C 22 (nI_toInt (n := i) (by omega)) (nI_toInt (n := n) (by omega)) dM_products_9 (by decide) (fun h9 => ?_) (fun h9 => ?_)
      · obtain rfl : n = i := by omega
        refine J_iload_n C 1 dM_products_22 rfl rfl ?_
        exact hret _ _ _ _ _ _ dM_products_23 (by decide) (by decide) (⟨rfl, rfl⟩)
      · refine J_iconst C (v := nI (3)) dM_products_12 (by decide) ?_
        refine J_iload_n C 1 dM_products_13 rfl rfl ?_
        refine J_imulN C dM_products_14 ?_
        refine J_topN C (n' := 3 ^ (i + 1)) (by rw [Nat.pow_succ, Nat.mul_comm]) ?_
        refine J_istore_n C (lv' := [(0, .ref (h)), (1, .int (nI (3 ^ (i + 1)))), (2, .int (nI (i)))]) [1, 0, 2] dM_products_15 rfl (by decide) rfl ?_
        refine J_iinc C (lv' := [(0, .ref (h)), (1, .int (nI (3 ^ (i + 1)))), (2, .int (nI (i + 1)))]) 2 [1, 2, 0] dM_products_16 rfl (jn_inc _) (by decide) rfl ?_
        refine J_goto C 4 dM_products_19 (by decide) ?_
        exact ih_4 (i + 1) (by omega) (by omega)
  exact lp_4 (n + 1) 0 (by omega) (by omega)
set_option maxHeartbeats 4000000 in
set_option maxRecDepth 100000 in
theorem c_M_functions (E : jE) (l : Launch) (h : Nat) (n : Nat) (st : Nat) (mn : Nat) (m1 : Nat) (m2 : Nat) (m3 : Nat) (m4 : Nat) (m5 : Nat) (m6 : Nat) (m7 : Nat) (m8 : Nat) (m9 : Nat) (ma : Nat) (mb : Nat) (hn1 : 1 ≤ n) (hn4 : n ≤ 4) : Con E l yM_functions bM_functions 1 (some .int) { frames := 1, cells := 0, slots := 0, locals := 20 } [.ref (h)] [((h), .inr (5, [.int (nI (0)), .int (nI (n)), .ref (m1), .int (nI (st)), .ref (m2), .ref (m3), .ref (m4), .int (nI (mn)), .ref (m5), .ref (m6), .ref (m7), .ref (m8), .ref (m9), .ref (ma), .ref (mb)]))] (fun r w => r = some (.int (nI (2 ^ 2 ^ n))) ∧ w = [((h), .inr (5, [.int (nI (0)), .int (nI (n)), .ref (m1), .int (nI (st)), .ref (m2), .ref (m3), .ref (m4), .int (nI (mn)), .ref (m5), .ref (m6), .ref (m7), .ref (m8), .ref (m9), .ref (ma), .ref (mb)]))]) := by
  refine Con.ofI (by decide) (Nat.le_of_ble_eq_true rfl) ?_
  intro J C hret
  show J 0 [(0, .ref (h))] [] [((h), .inr (5, [.int (nI (0)), .int (nI (n)), .ref (m1), .int (nI (st)), .ref (m2), .ref (m3), .ref (m4), .int (nI (mn)), .ref (m5), .ref (m6), .ref (m7), .ref (m8), .ref (m9), .ref (ma), .ref (mb)]))] 0 0
  have hp16 := p16 hn4
  have hp1 := p1 n
  refine J_iconst C (v := nI (1)) dM_functions_0 (by decide) ?_
  refine J_aload_n C 0 dM_functions_1 rfl rfl ?_
  refine J_callV C (rest := [.int (nI (1))]) [] [((h), .inr (5, [.int (nI (0)), .int (nI (n)), .ref (m1), .int (nI (st)), .ref (m2), .ref (m3), .ref (m4), .int (nI (mn)), .ref (m5), .ref (m6), .ref (m7), .ref (m8), .ref (m9), .ref (ma), .ref (mb)]))] [] 0 (c_M_values E l h n st mn m1 m2 m3 m4 m5 m6 m7 m8 m9 ma mb (by omega) (by omega)) mmM_values msM_values lkM_59 rfl rfl (rfl) rfl rfl ⟨by decide, by decide⟩ ⟨by decide, by decide⟩ (Nat.le_of_ble_eq_true rfl) dM_functions_2 (fun r_c w_c hp => ?_)
  obtain ⟨rfl, rfl⟩ := hp
  refine J_norm C (st' := [.int (nI (2 ^ n)), .int (nI (1))]) (ws' := [((h), .inr (5, [.int (nI (0)), .int (nI (n)), .ref (m1), .int (nI (st)), .ref (m2), .ref (m3), .ref (m4), .int (nI (mn)), .ref (m5), .ref (m6), .ref (m7), .ref (m8), .ref (m9), .ref (ma), .ref (mb)]))]) (cs' := 0) (ss' := 0) rfl (rfl) rfl rfl ?_
  refine J_ishl1 C dM_functions_5 (by omega) ?_
  exact hret _ _ _ _ _ _ dM_functions_6 (by decide) (by decide) (⟨rfl, rfl⟩)
set_option maxHeartbeats 4000000 in
set_option maxRecDepth 100000 in
theorem c_M_costAt (E : jE) (l : Launch) (h : Nat) (n : Nat) (st : Nat) (mn : Nat) (m1 : Nat) (m2 : Nat) (m3 : Nat) (m4 : Nat) (m5 : Nat) (m6 : Nat) (m7 : Nat) (m8 : Nat) (m9 : Nat) (ma : Nat) (mb : Nat) (k : Nat) (hn1 : 1 ≤ n) (hn4 : n ≤ 4) : Con E l yM_costAt bM_costAt 2 (some .int) { frames := 0, cells := 0, slots := 0, locals := 0 } [.ref (h), .int (nI (k))] [((h), .inr (5, [.int (nI (0)), .int (nI (n)), .ref (m1), .int (nI (st)), .ref (m2), .ref (m3), .ref (m4), .int (nI (mn)), .ref (m5), .ref (m6), .ref (m7), .ref (m8), .ref (m9), .ref (ma), .ref (mb)]))] (fun r w => r = some (.int (nI (k + coff n))) ∧ w = [((h), .inr (5, [.int (nI (0)), .int (nI (n)), .ref (m1), .int (nI (st)), .ref (m2), .ref (m3), .ref (m4), .int (nI (mn)), .ref (m5), .ref (m6), .ref (m7), .ref (m8), .ref (m9), .ref (ma), .ref (mb)]))]) := by
  refine Con.ofI (by decide) (Nat.le_of_ble_eq_true rfl) ?_
  intro J C hret
  show J 0 [(0, .ref (h)), (1, .int (nI (k)))] [] [((h), .inr (5, [.int (nI (0)), .int (nI (n)), .ref (m1), .int (nI (st)), .ref (m2), .ref (m3), .ref (m4), .int (nI (mn)), .ref (m5), .ref (m6), .ref (m7), .ref (m8), .ref (m9), .ref (ma), .ref (mb)]))] 0 0
  refine J_iload_n C 1 dM_costAt_0 rfl rfl ?_
  refine J_aload_n C 0 dM_costAt_1 rfl rfl ?_
  refine J_get C 0 1 hinM rfl rfl (by decide) fkM_56 rfl dM_costAt_2 ?_
  refine J_iconst C (v := nI (1)) dM_costAt_5 (by decide) ?_
  refine J_icmp_ne C 13 (nI_toInt (n := n) (by omega)) (nI_toInt (n := 1) (by decide)) dM_costAt_6 (by decide) (fun h6 => ?_) (fun h6 => ?_)
  · refine J_aload_n C 0 dM_costAt_13 rfl rfl ?_
    refine J_get C 0 1 hinM rfl rfl (by decide) fkM_56 rfl dM_costAt_14 ?_
    refine J_iconst C (v := nI (2)) dM_costAt_17 (by decide) ?_
    refine J_icmp_ne C 25 (nI_toInt (n := n) (by omega)) (nI_toInt (n := 2) (by decide)) dM_costAt_18 (by decide) (fun h18 => ?_) (fun h18 => ?_)
    · refine J_aload_n C 0 dM_costAt_25 rfl rfl ?_
      refine J_get C 0 1 hinM rfl rfl (by decide) fkM_56 rfl dM_costAt_26 ?_
      refine J_iconst C (v := nI (3)) dM_costAt_29 (by decide) ?_
      refine J_icmp_ne C 38 (nI_toInt (n := n) (by omega)) (nI_toInt (n := 3) (by decide)) dM_costAt_30 (by decide) (fun h30 => ?_) (fun h30 => ?_)
      · have e : coff n = 276 := by rw [show n = 4 by omega]; rfl
        refine J_sipush C (v := nI (276)) dM_costAt_38 (by decide) ?_
        refine J_iaddN C dM_costAt_41 ?_
        exact hret _ _ _ _ _ _ dM_costAt_42 (by decide) (by decide) (⟨by rw [e], rfl⟩)
      · have e : coff n = 20 := by rw [show n = 3 by omega]; rfl
        refine J_bipush C (v := nI (20)) dM_costAt_33 (by decide) ?_
        refine J_goto C 41 dM_costAt_35 (by decide) ?_
        refine J_iaddN C dM_costAt_41 ?_
        exact hret _ _ _ _ _ _ dM_costAt_42 (by decide) (by decide) (⟨by rw [e], rfl⟩)
    · have e : coff n = 4 := by rw [show n = 2 by omega]; rfl
      refine J_iconst C (v := nI (4)) dM_costAt_21 (by decide) ?_
      refine J_goto C 41 dM_costAt_22 (by decide) ?_
      refine J_iaddN C dM_costAt_41 ?_
      exact hret _ _ _ _ _ _ dM_costAt_42 (by decide) (by decide) (⟨by rw [e], rfl⟩)
  · have e : coff n = 0 := by rw [show n = 1 by omega]; rfl
    refine J_iconst C (v := nI (0)) dM_costAt_9 (by decide) ?_
    refine J_goto C 41 dM_costAt_10 (by decide) ?_
    refine J_iaddN C dM_costAt_41 ?_
    exact hret _ _ _ _ _ _ dM_costAt_42 (by decide) (by decide) (⟨by rw [e], rfl⟩)
set_option maxHeartbeats 4000000 in
set_option maxRecDepth 100000 in
theorem c_M_productAt (E : jE) (l : Launch) (h : Nat) (n : Nat) (st : Nat) (mn : Nat) (m1 : Nat) (m2 : Nat) (m3 : Nat) (m4 : Nat) (m5 : Nat) (m6 : Nat) (m7 : Nat) (m8 : Nat) (m9 : Nat) (ma : Nat) (mb : Nat) (k : Nat) (hn1 : 1 ≤ n) (hn4 : n ≤ 4) : Con E l yM_productAt bM_productAt 2 (some .int) { frames := 0, cells := 0, slots := 0, locals := 0 } [.ref (h), .int (nI (k))] [((h), .inr (5, [.int (nI (0)), .int (nI (n)), .ref (m1), .int (nI (st)), .ref (m2), .ref (m3), .ref (m4), .int (nI (mn)), .ref (m5), .ref (m6), .ref (m7), .ref (m8), .ref (m9), .ref (ma), .ref (mb)]))] (fun r w => r = some (.int (nI (k + poff n))) ∧ w = [((h), .inr (5, [.int (nI (0)), .int (nI (n)), .ref (m1), .int (nI (st)), .ref (m2), .ref (m3), .ref (m4), .int (nI (mn)), .ref (m5), .ref (m6), .ref (m7), .ref (m8), .ref (m9), .ref (ma), .ref (mb)]))]) := by
  refine Con.ofI (by decide) (Nat.le_of_ble_eq_true rfl) ?_
  intro J C hret
  show J 0 [(0, .ref (h)), (1, .int (nI (k)))] [] [((h), .inr (5, [.int (nI (0)), .int (nI (n)), .ref (m1), .int (nI (st)), .ref (m2), .ref (m3), .ref (m4), .int (nI (mn)), .ref (m5), .ref (m6), .ref (m7), .ref (m8), .ref (m9), .ref (ma), .ref (mb)]))] 0 0
  refine J_iload_n C 1 dM_productAt_0 rfl rfl ?_
  refine J_aload_n C 0 dM_productAt_1 rfl rfl ?_
  refine J_get C 0 1 hinM rfl rfl (by decide) fkM_56 rfl dM_productAt_2 ?_
  refine J_iconst C (v := nI (1)) dM_productAt_5 (by decide) ?_
  refine J_icmp_ne C 13 (nI_toInt (n := n) (by omega)) (nI_toInt (n := 1) (by decide)) dM_productAt_6 (by decide) (fun h6 => ?_) (fun h6 => ?_)
  · refine J_aload_n C 0 dM_productAt_13 rfl rfl ?_
    refine J_get C 0 1 hinM rfl rfl (by decide) fkM_56 rfl dM_productAt_14 ?_
    refine J_iconst C (v := nI (2)) dM_productAt_17 (by decide) ?_
    refine J_icmp_ne C 25 (nI_toInt (n := n) (by omega)) (nI_toInt (n := 2) (by decide)) dM_productAt_18 (by decide) (fun h18 => ?_) (fun h18 => ?_)
    · refine J_aload_n C 0 dM_productAt_25 rfl rfl ?_
      refine J_get C 0 1 hinM rfl rfl (by decide) fkM_56 rfl dM_productAt_26 ?_
      refine J_iconst C (v := nI (3)) dM_productAt_29 (by decide) ?_
      refine J_icmp_ne C 38 (nI_toInt (n := n) (by omega)) (nI_toInt (n := 3) (by decide)) dM_productAt_30 (by decide) (fun h30 => ?_) (fun h30 => ?_)
      · have e : poff n = 39 := by rw [show n = 4 by omega]; rfl
        refine J_bipush C (v := nI (39)) dM_productAt_38 (by decide) ?_
        refine J_iaddN C dM_productAt_40 ?_
        exact hret _ _ _ _ _ _ dM_productAt_41 (by decide) (by decide) (⟨by rw [e], rfl⟩)
      · have e : poff n = 12 := by rw [show n = 3 by omega]; rfl
        refine J_bipush C (v := nI (12)) dM_productAt_33 (by decide) ?_
        refine J_goto C 40 dM_productAt_35 (by decide) ?_
        refine J_iaddN C dM_productAt_40 ?_
        exact hret _ _ _ _ _ _ dM_productAt_41 (by decide) (by decide) (⟨by rw [e], rfl⟩)
    · have e : poff n = 3 := by rw [show n = 2 by omega]; rfl
      refine J_iconst C (v := nI (3)) dM_productAt_21 (by decide) ?_
      refine J_goto C 40 dM_productAt_22 (by decide) ?_
      refine J_iaddN C dM_productAt_40 ?_
      exact hret _ _ _ _ _ _ dM_productAt_41 (by decide) (by decide) (⟨by rw [e], rfl⟩)
  · have e : poff n = 0 := by rw [show n = 1 by omega]; rfl
    refine J_iconst C (v := nI (0)) dM_productAt_9 (by decide) ?_
    refine J_goto C 40 dM_productAt_10 (by decide) ?_
    refine J_iaddN C dM_productAt_40 ?_
    exact hret _ _ _ _ _ _ dM_productAt_41 (by decide) (by decide) (⟨by rw [e], rfl⟩)
set_option maxHeartbeats 4000000 in
set_option maxRecDepth 100000 in
theorem c_M_functionFor (E : jE) (l : Launch) (h : Nat) (n : Nat) (st : Nat) (mn : Nat) (m1 : Nat) (m2 : Nat) (m3 : Nat) (m4 : Nat) (m5 : Nat) (m6 : Nat) (m7 : Nat) (m8 : Nat) (m9 : Nat) (ma : Nat) (mb : Nat) (p : Nat) (hn1 : 1 ≤ n) (hn4 : n ≤ 4) (hp : p < 3 ^ n) : Con E l yM_functionFor bM_functionFor 8 (some .int) { frames := 1, cells := 0, slots := 0, locals := 20 } [.ref (h), .int (nI (p))] [((h), .inr (5, [.int (nI (0)), .int (nI (n)), .ref (m1), .int (nI (st)), .ref (m2), .ref (m3), .ref (m4), .int (nI (mn)), .ref (m5), .ref (m6), .ref (m7), .ref (m8), .ref (m9), .ref (ma), .ref (mb)]))] (fun r w => r = some (.int (nI (pfn n p))) ∧ w = [((h), .inr (5, [.int (nI (0)), .int (nI (n)), .ref (m1), .int (nI (st)), .ref (m2), .ref (m3), .ref (m4), .int (nI (mn)), .ref (m5), .ref (m6), .ref (m7), .ref (m8), .ref (m9), .ref (ma), .ref (mb)]))]) := by
  refine Con.ofI (by decide) (Nat.le_of_ble_eq_true rfl) ?_
  intro J C hret
  show J 0 [(0, .ref (h)), (1, .int (nI (p)))] [] [((h), .inr (5, [.int (nI (0)), .int (nI (n)), .ref (m1), .int (nI (st)), .ref (m2), .ref (m3), .ref (m4), .int (nI (mn)), .ref (m5), .ref (m6), .ref (m7), .ref (m8), .ref (m9), .ref (ma), .ref (mb)]))] 0 0
  have hp16 := p16 hn4
  have hp1 := p1 n
  have hp81 := p81 hn4
  refine J_iconst C (v := nI (0)) dM_functionFor_0 (by decide) ?_
  refine J_istore_n C (lv' := [(0, .ref (h)), (1, .int (nI (p))), (2, .int (nI (0)))]) [1, 2, 0] dM_functionFor_1 rfl (by decide) rfl ?_
  refine J_iconst C (v := nI (0)) dM_functionFor_2 (by decide) ?_
  refine J_istore_n C (lv' := [(0, .ref (h)), (1, .int (nI (p))), (2, .int (nI (0))), (3, .int (nI (0)))]) [1, 2, 3, 0] dM_functionFor_3 rfl (by decide) rfl ?_
  have lp_4 : ∀ (k_4 : Nat) (v : Nat), (v ≤ 2 ^ n) → (2 ^ n - v) < k_4 → J 4 [(0, .ref (h)), (1, .int (nI (p))), (2, .int (nI (fnv n p v))), (3, .int (nI (v)))] [] [((h), .inr (5, [.int (nI (0)), .int (nI (n)), .ref (m1), .int (nI (st)), .ref (m2), .ref (m3), .ref (m4), .int (nI (mn)), .ref (m5), .ref (m6), .ref (m7), .ref (m8), .ref (m9), .ref (ma), .ref (mb)]))] (0) (0) := by
    intro k_4
    induction k_4 with
    | zero => intro v hv hk_4; exact absurd hk_4 (Nat.not_lt_zero _)
    | succ k_4 ih_4 =>
      intro v hv hk_4
      refine J_iload_n C 3 dM_functionFor_4 rfl rfl ?_
      refine J_aload_n C 0 dM_functionFor_5 rfl rfl ?_
      refine J_callV C (rest := [.int (nI (v))]) [] [((h), .inr (5, [.int (nI (0)), .int (nI (n)), .ref (m1), .int (nI (st)), .ref (m2), .ref (m3), .ref (m4), .int (nI (mn)), .ref (m5), .ref (m6), .ref (m7), .ref (m8), .ref (m9), .ref (ma), .ref (mb)]))] [] 0 (c_M_values E l h n st mn m1 m2 m3 m4 m5 m6 m7 m8 m9 ma mb (by omega) (by omega)) mmM_values msM_values lkM_59 rfl rfl (rfl) rfl rfl ⟨by decide, by decide⟩ ⟨by decide, by decide⟩ (Nat.le_of_ble_eq_true rfl) dM_functionFor_6 (fun r_c w_c hp => ?_)
      obtain ⟨rfl, rfl⟩ := hp
      refine J_norm C (st' := [.int (nI (2 ^ n)), .int (nI (v))]) (ws' := [((h), .inr (5, [.int (nI (0)), .int (nI (n)), .ref (m1), .int (nI (st)), .ref (m2), .ref (m3), .ref (m4), .int (nI (mn)), .ref (m5), .ref (m6), .ref (m7), .ref (m8), .ref (m9), .ref (ma), .ref (mb)]))]) (cs' := 0) (ss' := 0) rfl (rfl) rfl rfl ?_
      refine J_icmp_ge C 115 (nI_toInt (n := v) (by omega)) (nI_toInt (n := 2 ^ n) (by omega)) dM_functionFor_9 (by decide) (fun h9 => ?_) (fun h9 => ?_)
      · obtain rfl : 2 ^ n = v := by omega
        refine J_iload_n C 2 dM_functionFor_115 rfl rfl ?_
        exact hret _ _ _ _ _ _ dM_functionFor_116 (by decide) (by decide) (⟨by rw [fnv_pfn n (by omega) p hp], rfl⟩)
      · refine J_iconst C (v := nI (1)) dM_functionFor_12 (by decide) ?_
        refine J_istore C (lv' := [(0, .ref (h)), (1, .int (nI (p))), (2, .int (nI (fnv n p v))), (3, .int (nI (v))), (4, .int (nI (1)))]) [1, 2, 3, 4, 0] dM_functionFor_13 (by decide) rfl ?_
        refine J_iload_n C 1 dM_functionFor_15 rfl rfl ?_
        refine J_istore C (lv' := [(0, .ref (h)), (1, .int (nI (p))), (2, .int (nI (fnv n p v))), (3, .int (nI (v))), (4, .int (nI (1))), (5, .int (nI (p)))]) [1, 2, 3, 4, 5, 0] dM_functionFor_16 (by decide) rfl ?_
        refine J_iconst C (v := nI (0)) dM_functionFor_18 (by decide) ?_
        refine J_istore C (lv' := [(0, .ref (h)), (1, .int (nI (p))), (2, .int (nI (fnv n p v))), (3, .int (nI (v))), (4, .int (nI (1))), (5, .int (nI (p))), (6, .int (nI (0)))]) [1, 2, 3, 4, 5, 6, 0] dM_functionFor_19 (by decide) rfl ?_
        have lp_21 : ∀ (k_21 : Nat) (k z : Nat), (k ≤ n) → (z = (hb p v k).toNat) → (n - k) < k_21 → J 21 [(0, .ref (h)), (1, .int (nI (p))), (2, .int (nI (fnv n p v))), (3, .int (nI (v))), (4, .int (nI (z))), (5, .int (nI (p / 3 ^ k))), (6, .int (nI (k)))] [] [((h), .inr (5, [.int (nI (0)), .int (nI (n)), .ref (m1), .int (nI (st)), .ref (m2), .ref (m3), .ref (m4), .int (nI (mn)), .ref (m5), .ref (m6), .ref (m7), .ref (m8), .ref (m9), .ref (ma), .ref (mb)]))] (0) (0) := by
          intro k_21
          induction k_21 with
          | zero => intro k z hk hz hk_21; exact absurd hk_21 (Nat.not_lt_zero _)
          | succ k_21 ih_21 =>
            intro k z hk hz hk_21
            have hd := pdiv_lt (show p < 81 by omega) k
            have he := and1_le (v / 2 ^ k)
            have hd3 := Nat.mod_lt (p / 3 ^ k) (show 0 < 3 by omega)
            have hz1 : z ≤ 1 := by rw [hz]; cases hb p v k <;> decide
            refine J_iload C 6 dM_functionFor_21 rfl ?_
            refine J_aload_n C 0 dM_functionFor_23 rfl rfl ?_
            refine J_get C 0 1 hinM rfl rfl (by decide) fkM_56 rfl dM_functionFor_24 ?_
            refine J_icmp_ge C 94 (nI_toInt (n := k) (by omega)) (nI_toInt (n := n) (by omega)) dM_functionFor_27 (by decide) (fun h27 => ?_) (fun h27 => ?_)
            · obtain rfl : n = k := by omega
              refine J_iload_n C 2 dM_functionFor_94 rfl rfl ?_
              refine J_iload C 4 dM_functionFor_95 rfl ?_
              refine J_if_eq C 106 (nI_toInt (n := z) (by omega)) dM_functionFor_97 (by decide) (fun h97 => ?_) (fun h97 => ?_)
              · have hq := toNat_eq (b := hb p v n) (by omega)
                refine J_iconst C (v := nI (0)) dM_functionFor_106 (by decide) ?_
                refine J_iorN C dM_functionFor_107 ?_
                refine J_istore_n C (lv' := [(0, .ref (h)), (1, .int (nI (p))), (2, .int (nI ((fnv n p v) ||| 0))), (3, .int (nI (v))), (4, .int (nI (z))), (5, .int (nI (p / 3 ^ n))), (6, .int (nI (n)))]) [1, 2, 0, 3, 4, 5, 6] dM_functionFor_108 rfl (by decide) rfl ?_
                refine J_iinc C (lv' := [(0, .ref (h)), (1, .int (nI (p))), (2, .int (nI ((fnv n p v) ||| 0))), (3, .int (nI (v + 1))), (4, .int (nI (z))), (5, .int (nI (p / 3 ^ n))), (6, .int (nI (n)))]) 3 [1, 2, 3, 0, 4, 5, 6] dM_functionFor_109 rfl (jn_inc _) (by decide) rfl ?_
                refine J_goto C 4 dM_functionFor_112 (by decide) ?_
                rw [Nat.or_zero, ← fnv_f hq]
                refine J_lv C (lv' := [(0, .ref (h)), (1, .int (nI (p))), (2, .int (nI (fnv n p (v + 1)))), (3, .int (nI (v + 1)))]) [0, 1, 2, 3] rfl ?_
                exact ih_4 (v + 1) (by omega) (by omega)
              · have hq := toNat_ne (b := hb p v n) (by omega)
                refine J_iconst C (v := nI (1)) dM_functionFor_100 (by decide) ?_
                refine J_iload_n C 3 dM_functionFor_101 rfl rfl ?_
                refine J_ishl1 C dM_functionFor_102 (by omega) ?_
                refine J_goto C 107 dM_functionFor_103 (by decide) ?_
                refine J_iorN C dM_functionFor_107 ?_
                refine J_istore_n C (lv' := [(0, .ref (h)), (1, .int (nI (p))), (2, .int (nI ((fnv n p v) ||| (2 ^ v)))), (3, .int (nI (v))), (4, .int (nI (z))), (5, .int (nI (p / 3 ^ n))), (6, .int (nI (n)))]) [1, 2, 0, 3, 4, 5, 6] dM_functionFor_108 rfl (by decide) rfl ?_
                refine J_iinc C (lv' := [(0, .ref (h)), (1, .int (nI (p))), (2, .int (nI ((fnv n p v) ||| (2 ^ v)))), (3, .int (nI (v + 1))), (4, .int (nI (z))), (5, .int (nI (p / 3 ^ n))), (6, .int (nI (n)))]) 3 [1, 2, 3, 0, 4, 5, 6] dM_functionFor_109 rfl (jn_inc _) (by decide) rfl ?_
                refine J_goto C 4 dM_functionFor_112 (by decide) ?_
                rw [← fnv_t hq]
                refine J_lv C (lv' := [(0, .ref (h)), (1, .int (nI (p))), (2, .int (nI (fnv n p (v + 1)))), (3, .int (nI (v + 1)))]) [0, 1, 2, 3] rfl ?_
                exact ih_4 (v + 1) (by omega) (by omega)
            · refine J_iload C 5 dM_functionFor_30 rfl ?_
              refine J_iconst C (v := nI (3)) dM_functionFor_32 (by decide) ?_
              refine J_iremN C dM_functionFor_33 (by omega) (by omega) (by omega) ?_
              refine J_istore C (lv' := [(0, .ref (h)), (1, .int (nI (p))), (2, .int (nI (fnv n p v))), (3, .int (nI (v))), (4, .int (nI (z))), (5, .int (nI (p / 3 ^ k))), (6, .int (nI (k))), (7, .int (nI ((p / 3 ^ k) % 3)))]) [1, 2, 3, 4, 5, 6, 7, 0] dM_functionFor_34 (by decide) rfl ?_
              refine J_iload C 5 dM_functionFor_36 rfl ?_
              refine J_iconst C (v := nI (3)) dM_functionFor_38 (by decide) ?_
              refine J_idivN C dM_functionFor_39 (by omega) (by omega) (by omega) ?_
              refine J_topN C (n' := p / 3 ^ (k + 1)) (pdiv3 p k) ?_
              refine J_istore C (lv' := [(0, .ref (h)), (1, .int (nI (p))), (2, .int (nI (fnv n p v))), (3, .int (nI (v))), (4, .int (nI (z))), (5, .int (nI (p / 3 ^ (k + 1)))), (6, .int (nI (k))), (7, .int (nI ((p / 3 ^ k) % 3)))]) [1, 2, 3, 4, 5, 0, 6, 7] dM_functionFor_40 (by decide) rfl ?_
              refine J_iload C 4 dM_functionFor_42 rfl ?_
              refine J_if_eq C 85 (nI_toInt (n := z) (by omega)) dM_functionFor_44 (by decide) (fun h44 => ?_) (fun h44 => ?_)
              · refine J_iconst C (v := nI (0)) dM_functionFor_85 (by decide) ?_
                refine J_istore C (lv' := [(0, .ref (h)), (1, .int (nI (p))), (2, .int (nI (fnv n p v))), (3, .int (nI (v))), (4, .int (nI (0))), (5, .int (nI (p / 3 ^ (k + 1)))), (6, .int (nI (k))), (7, .int (nI ((p / 3 ^ k) % 3)))]) [1, 2, 3, 4, 0, 5, 6, 7] dM_functionFor_86 (by decide) rfl ?_
                refine J_iinc C (lv' := [(0, .ref (h)), (1, .int (nI (p))), (2, .int (nI (fnv n p v))), (3, .int (nI (v))), (4, .int (nI (0))), (5, .int (nI (p / 3 ^ (k + 1)))), (6, .int (nI (k + 1))), (7, .int (nI ((p / 3 ^ k) % 3)))]) 6 [1, 2, 3, 4, 5, 6, 0, 7] dM_functionFor_88 rfl (jn_inc _) (by decide) rfl ?_
                refine J_goto C 21 dM_functionFor_91 (by decide) ?_
                refine J_lv C (lv' := [(0, .ref (h)), (1, .int (nI (p))), (2, .int (nI (fnv n p v))), (3, .int (nI (v))), (4, .int (nI (0))), (5, .int (nI (p / 3 ^ (k + 1)))), (6, .int (nI (k + 1)))]) [0, 1, 2, 3, 4, 5, 6] rfl ?_
                exact ih_21 (k + 1) 0 (by omega) (by have q := fn_step (v := v) (p := p) (k := k) hz; omega) (by omega)
              · refine J_iload C 7 dM_functionFor_47 rfl ?_
                refine J_if_eq C 81 (nI_toInt (n := (p / 3 ^ k) % 3) (by omega)) dM_functionFor_49 (by decide) (fun h49 => ?_) (fun h49 => ?_)
                · refine J_iconst C (v := nI (1)) dM_functionFor_81 (by decide) ?_
                  refine J_goto C 86 dM_functionFor_82 (by decide) ?_
                  refine J_istore C (lv' := [(0, .ref (h)), (1, .int (nI (p))), (2, .int (nI (fnv n p v))), (3, .int (nI (v))), (4, .int (nI (1))), (5, .int (nI (p / 3 ^ (k + 1)))), (6, .int (nI (k))), (7, .int (nI ((p / 3 ^ k) % 3)))]) [1, 2, 3, 4, 0, 5, 6, 7] dM_functionFor_86 (by decide) rfl ?_
                  refine J_iinc C (lv' := [(0, .ref (h)), (1, .int (nI (p))), (2, .int (nI (fnv n p v))), (3, .int (nI (v))), (4, .int (nI (1))), (5, .int (nI (p / 3 ^ (k + 1)))), (6, .int (nI (k + 1))), (7, .int (nI ((p / 3 ^ k) % 3)))]) 6 [1, 2, 3, 4, 5, 6, 0, 7] dM_functionFor_88 rfl (jn_inc _) (by decide) rfl ?_
                  refine J_goto C 21 dM_functionFor_91 (by decide) ?_
                  refine J_lv C (lv' := [(0, .ref (h)), (1, .int (nI (p))), (2, .int (nI (fnv n p v))), (3, .int (nI (v))), (4, .int (nI (1))), (5, .int (nI (p / 3 ^ (k + 1)))), (6, .int (nI (k + 1)))]) [0, 1, 2, 3, 4, 5, 6] rfl ?_
                  exact ih_21 (k + 1) 1 (by omega) (by have q := fn_step (v := v) (p := p) (k := k) hz; omega) (by omega)
                · refine J_iload C 7 dM_functionFor_52 rfl ?_
                  refine J_iconst C (v := nI (1)) dM_functionFor_54 (by decide) ?_
                  refine J_icmp_ne C 62 (nI_toInt (n := (p / 3 ^ k) % 3) (by omega)) (nI_toInt (n := 1) (by decide)) dM_functionFor_55 (by decide) (fun h55 => ?_) (fun h55 => ?_)
                  · refine J_iconst C (v := nI (0)) dM_functionFor_62 (by decide) ?_
                    refine J_iload_n C 3 dM_functionFor_63 rfl rfl ?_
                    refine J_iload C 6 dM_functionFor_64 rfl ?_
                    refine J_ishrN C dM_functionFor_66 (by omega) (by omega) ?_
                    refine J_iconst C (v := nI (1)) dM_functionFor_67 (by decide) ?_
                    refine J_iandN C dM_functionFor_68 ?_
                    refine J_iconst C (v := nI (1)) dM_functionFor_69 (by decide) ?_
                    refine J_icmp_ne C 77 (nI_toInt (n := (v / 2 ^ k) &&& 1) (by omega)) (nI_toInt (n := 1) (by decide)) dM_functionFor_70 (by decide) (fun h70 => ?_) (fun h70 => ?_)
                    · refine J_iconst C (v := nI (0)) dM_functionFor_77 (by decide) ?_
                      refine J_icmp_ne C 85 (nI_toInt (n := 0) (by decide)) (nI_toInt (n := 0) (by decide)) dM_functionFor_78 (by decide) (fun h78 => ?_) (fun h78 => ?_)
                      · exfalso; omega
                      · refine J_iconst C (v := nI (1)) dM_functionFor_81 (by decide) ?_
                        refine J_goto C 86 dM_functionFor_82 (by decide) ?_
                        refine J_istore C (lv' := [(0, .ref (h)), (1, .int (nI (p))), (2, .int (nI (fnv n p v))), (3, .int (nI (v))), (4, .int (nI (1))), (5, .int (nI (p / 3 ^ (k + 1)))), (6, .int (nI (k))), (7, .int (nI ((p / 3 ^ k) % 3)))]) [1, 2, 3, 4, 0, 5, 6, 7] dM_functionFor_86 (by decide) rfl ?_
                        refine J_iinc C (lv' := [(0, .ref (h)), (1, .int (nI (p))), (2, .int (nI (fnv n p v))), (3, .int (nI (v))), (4, .int (nI (1))), (5, .int (nI (p / 3 ^ (k + 1)))), (6, .int (nI (k + 1))), (7, .int (nI ((p / 3 ^ k) % 3)))]) 6 [1, 2, 3, 4, 5, 6, 0, 7] dM_functionFor_88 rfl (jn_inc _) (by decide) rfl ?_
                        refine J_goto C 21 dM_functionFor_91 (by decide) ?_
                        refine J_lv C (lv' := [(0, .ref (h)), (1, .int (nI (p))), (2, .int (nI (fnv n p v))), (3, .int (nI (v))), (4, .int (nI (1))), (5, .int (nI (p / 3 ^ (k + 1)))), (6, .int (nI (k + 1)))]) [0, 1, 2, 3, 4, 5, 6] rfl ?_
                        exact ih_21 (k + 1) 1 (by omega) (by have q := fn_step (v := v) (p := p) (k := k) hz; omega) (by omega)
                    · refine J_iconst C (v := nI (1)) dM_functionFor_73 (by decide) ?_
                      refine J_goto C 78 dM_functionFor_74 (by decide) ?_
                      refine J_icmp_ne C 85 (nI_toInt (n := 0) (by decide)) (nI_toInt (n := 1) (by decide)) dM_functionFor_78 (by decide) (fun h78 => ?_) (fun h78 => ?_)
                      · refine J_iconst C (v := nI (0)) dM_functionFor_85 (by decide) ?_
                        refine J_istore C (lv' := [(0, .ref (h)), (1, .int (nI (p))), (2, .int (nI (fnv n p v))), (3, .int (nI (v))), (4, .int (nI (0))), (5, .int (nI (p / 3 ^ (k + 1)))), (6, .int (nI (k))), (7, .int (nI ((p / 3 ^ k) % 3)))]) [1, 2, 3, 4, 0, 5, 6, 7] dM_functionFor_86 (by decide) rfl ?_
                        refine J_iinc C (lv' := [(0, .ref (h)), (1, .int (nI (p))), (2, .int (nI (fnv n p v))), (3, .int (nI (v))), (4, .int (nI (0))), (5, .int (nI (p / 3 ^ (k + 1)))), (6, .int (nI (k + 1))), (7, .int (nI ((p / 3 ^ k) % 3)))]) 6 [1, 2, 3, 4, 5, 6, 0, 7] dM_functionFor_88 rfl (jn_inc _) (by decide) rfl ?_
                        refine J_goto C 21 dM_functionFor_91 (by decide) ?_
                        refine J_lv C (lv' := [(0, .ref (h)), (1, .int (nI (p))), (2, .int (nI (fnv n p v))), (3, .int (nI (v))), (4, .int (nI (0))), (5, .int (nI (p / 3 ^ (k + 1)))), (6, .int (nI (k + 1)))]) [0, 1, 2, 3, 4, 5, 6] rfl ?_
                        exact ih_21 (k + 1) 0 (by omega) (by have q := fn_step (v := v) (p := p) (k := k) hz; omega) (by omega)
                      · exfalso; omega
                  · refine J_iconst C (v := nI (1)) dM_functionFor_58 (by decide) ?_
                    refine J_goto C 63 dM_functionFor_59 (by decide) ?_
                    refine J_iload_n C 3 dM_functionFor_63 rfl rfl ?_
                    refine J_iload C 6 dM_functionFor_64 rfl ?_
                    refine J_ishrN C dM_functionFor_66 (by omega) (by omega) ?_
                    refine J_iconst C (v := nI (1)) dM_functionFor_67 (by decide) ?_
                    refine J_iandN C dM_functionFor_68 ?_
                    refine J_iconst C (v := nI (1)) dM_functionFor_69 (by decide) ?_
                    refine J_icmp_ne C 77 (nI_toInt (n := (v / 2 ^ k) &&& 1) (by omega)) (nI_toInt (n := 1) (by decide)) dM_functionFor_70 (by decide) (fun h70 => ?_) (fun h70 => ?_)
                    · refine J_iconst C (v := nI (0)) dM_functionFor_77 (by decide) ?_
                      refine J_icmp_ne C 85 (nI_toInt (n := 1) (by decide)) (nI_toInt (n := 0) (by decide)) dM_functionFor_78 (by decide) (fun h78 => ?_) (fun h78 => ?_)
                      · refine J_iconst C (v := nI (0)) dM_functionFor_85 (by decide) ?_
                        refine J_istore C (lv' := [(0, .ref (h)), (1, .int (nI (p))), (2, .int (nI (fnv n p v))), (3, .int (nI (v))), (4, .int (nI (0))), (5, .int (nI (p / 3 ^ (k + 1)))), (6, .int (nI (k))), (7, .int (nI ((p / 3 ^ k) % 3)))]) [1, 2, 3, 4, 0, 5, 6, 7] dM_functionFor_86 (by decide) rfl ?_
                        refine J_iinc C (lv' := [(0, .ref (h)), (1, .int (nI (p))), (2, .int (nI (fnv n p v))), (3, .int (nI (v))), (4, .int (nI (0))), (5, .int (nI (p / 3 ^ (k + 1)))), (6, .int (nI (k + 1))), (7, .int (nI ((p / 3 ^ k) % 3)))]) 6 [1, 2, 3, 4, 5, 6, 0, 7] dM_functionFor_88 rfl (jn_inc _) (by decide) rfl ?_
                        refine J_goto C 21 dM_functionFor_91 (by decide) ?_
                        refine J_lv C (lv' := [(0, .ref (h)), (1, .int (nI (p))), (2, .int (nI (fnv n p v))), (3, .int (nI (v))), (4, .int (nI (0))), (5, .int (nI (p / 3 ^ (k + 1)))), (6, .int (nI (k + 1)))]) [0, 1, 2, 3, 4, 5, 6] rfl ?_
                        exact ih_21 (k + 1) 0 (by omega) (by have q := fn_step (v := v) (p := p) (k := k) hz; omega) (by omega)
                      · exfalso; omega
                    · refine J_iconst C (v := nI (1)) dM_functionFor_73 (by decide) ?_
                      refine J_goto C 78 dM_functionFor_74 (by decide) ?_
                      refine J_icmp_ne C 85 (nI_toInt (n := 1) (by decide)) (nI_toInt (n := 1) (by decide)) dM_functionFor_78 (by decide) (fun h78 => ?_) (fun h78 => ?_)
                      · exfalso; omega
                      · refine J_iconst C (v := nI (1)) dM_functionFor_81 (by decide) ?_
                        refine J_goto C 86 dM_functionFor_82 (by decide) ?_
                        refine J_istore C (lv' := [(0, .ref (h)), (1, .int (nI (p))), (2, .int (nI (fnv n p v))), (3, .int (nI (v))), (4, .int (nI (1))), (5, .int (nI (p / 3 ^ (k + 1)))), (6, .int (nI (k))), (7, .int (nI ((p / 3 ^ k) % 3)))]) [1, 2, 3, 4, 0, 5, 6, 7] dM_functionFor_86 (by decide) rfl ?_
                        refine J_iinc C (lv' := [(0, .ref (h)), (1, .int (nI (p))), (2, .int (nI (fnv n p v))), (3, .int (nI (v))), (4, .int (nI (1))), (5, .int (nI (p / 3 ^ (k + 1)))), (6, .int (nI (k + 1))), (7, .int (nI ((p / 3 ^ k) % 3)))]) 6 [1, 2, 3, 4, 5, 6, 0, 7] dM_functionFor_88 rfl (jn_inc _) (by decide) rfl ?_
                        refine J_goto C 21 dM_functionFor_91 (by decide) ?_
                        refine J_lv C (lv' := [(0, .ref (h)), (1, .int (nI (p))), (2, .int (nI (fnv n p v))), (3, .int (nI (v))), (4, .int (nI (1))), (5, .int (nI (p / 3 ^ (k + 1)))), (6, .int (nI (k + 1)))]) [0, 1, 2, 3, 4, 5, 6] rfl ?_
                        exact ih_21 (k + 1) 1 (by omega) (by have q := fn_step (v := v) (p := p) (k := k) hz; omega) (by omega)
        have q_21 := lp_21 (n + 1) 0 1 (by omega) (rfl) (by omega)
        rw [show p / 3 ^ 0 = p by simp] at q_21
        exact q_21
  exact lp_4 (2 ^ n + 1) 0 (by omega) (by omega)
set_option maxHeartbeats 4000000 in
set_option maxRecDepth 100000 in
theorem c_M_product_t (E : jE) (l : Launch) (h : Nat) (n : Nat) (st : Nat) (mn : Nat) (m1 : Nat) (m2 : Nat) (m3 : Nat) (m4 : Nat) (m5 : Nat) (m6 : Nat) (m7 : Nat) (m8 : Nat) (m9 : Nat) (ma : Nat) (mb : Nat) (p : Nat) (hn1 : 1 ≤ n) (hn4 : n ≤ 4) (hp : p < 3 ^ n) : Con E l yM_product bM_product 2 (some .int) { frames := 2, cells := 0, slots := 0, locals := 47 } [.ref (h), .int (nI (p))] [((h), .inr (5, [.int (nI (0)), .int (nI (n)), .ref (m1), .int (nI (st)), .ref (m2), .ref (m3), .ref (m4), .int (nI (mn)), .ref (m5), .ref (m6), .ref (m7), .ref (m8), .ref (m9), .ref (ma), .ref (mb)]))] (fun r w => r = some (.int (nI (pfn n p))) ∧ w = [((h), .inr (5, [.int (nI (0)), .int (nI (n)), .ref (m1), .int (nI (st)), .ref (m2), .ref (m3), .ref (m4), .int (nI (mn)), .ref (m5), .ref (m6), .ref (m7), .ref (m8), .ref (m9), .ref (ma), .ref (mb)]))]) := by
  refine Con.ofI (by decide) (Nat.le_of_ble_eq_true rfl) ?_
  intro J C hret
  show J 0 [(0, .ref (h)), (1, .int (nI (p)))] [] [((h), .inr (5, [.int (nI (0)), .int (nI (n)), .ref (m1), .int (nI (st)), .ref (m2), .ref (m3), .ref (m4), .int (nI (mn)), .ref (m5), .ref (m6), .ref (m7), .ref (m8), .ref (m9), .ref (ma), .ref (mb)]))] 0 0
  have hp16 := p16 hn4
  have hp1 := p1 n
  have hp81 := p81 hn4
  refine J_aload_n C 0 dM_product_0 rfl rfl ?_
  refine J_iconst C (v := nI (0)) dM_product_1 (by decide) ?_
  refine J_put C (ws' := [((h), .inr (5, [.int (nI (0)), .int (nI (n)), .ref (m1), .int (nI (st)), .ref (m2), .ref (m3), .ref (m4), .int (nI (mn)), .ref (m5), .ref (m6), .ref (m7), .ref (m8), .ref (m9), .ref (ma), .ref (mb)]))]) 0 0 tyM hinM tyokM nmM rfl rfl (by decide) fkM_53 rfl rfl rfl (Nat.le_of_ble_eq_true rfl) dM_product_2 rfl ?_
  refine J_iload_n C 1 dM_product_5 rfl rfl ?_
  refine J_if_lt C 25 (nI_toInt (n := p) (by omega)) dM_product_6 (by decide) (fun h6 => ?_) (fun h6 => ?_)
  · exfalso; omega
  · refine J_iload_n C 1 dM_product_9 rfl rfl ?_
    refine J_aload_n C 0 dM_product_10 rfl rfl ?_
    refine J_callV C (rest := [.int (nI (p))]) [] [((h), .inr (5, [.int (nI (0)), .int (nI (n)), .ref (m1), .int (nI (st)), .ref (m2), .ref (m3), .ref (m4), .int (nI (mn)), .ref (m5), .ref (m6), .ref (m7), .ref (m8), .ref (m9), .ref (ma), .ref (mb)]))] [] 0 (c_M_products E l h n st mn m1 m2 m3 m4 m5 m6 m7 m8 m9 ma mb (by omega) (by omega)) mmM_products msM_products lkM_85 rfl rfl (rfl) rfl rfl ⟨by decide, by decide⟩ ⟨by decide, by decide⟩ (Nat.le_of_ble_eq_true rfl) dM_product_11 (fun r_c w_c hp => ?_)
    obtain ⟨rfl, rfl⟩ := hp
    refine J_norm C (st' := [.int (nI (3 ^ n)), .int (nI (p))]) (ws' := [((h), .inr (5, [.int (nI (0)), .int (nI (n)), .ref (m1), .int (nI (st)), .ref (m2), .ref (m3), .ref (m4), .int (nI (mn)), .ref (m5), .ref (m6), .ref (m7), .ref (m8), .ref (m9), .ref (ma), .ref (mb)]))]) (cs' := 0) (ss' := 0) rfl (rfl) rfl rfl ?_
    refine J_icmp_ge C 25 (nI_toInt (n := p) (by omega)) (nI_toInt (n := 3 ^ n) (by omega)) dM_product_14 (by decide) (fun h14 => ?_) (fun h14 => ?_)
    · exfalso; omega
    · refine J_aload_n C 0 dM_product_17 rfl rfl ?_
      refine J_iload_n C 1 dM_product_18 rfl rfl ?_
      refine J_callV C (rest := []) [] [((h), .inr (5, [.int (nI (0)), .int (nI (n)), .ref (m1), .int (nI (st)), .ref (m2), .ref (m3), .ref (m4), .int (nI (mn)), .ref (m5), .ref (m6), .ref (m7), .ref (m8), .ref (m9), .ref (ma), .ref (mb)]))] [] 0 (c_M_functionFor E l h n st mn m1 m2 m3 m4 m5 m6 m7 m8 m9 ma mb p (by omega) (by omega) (by omega)) mmM_functionFor msM_functionFor lkM_92 rfl rfl (rfl) rfl rfl ⟨by decide, by decide⟩ ⟨by decide, by decide⟩ (Nat.le_of_ble_eq_true rfl) dM_product_19 (fun r_c w_c hp => ?_)
      obtain ⟨rfl, rfl⟩ := hp
      refine J_norm C (st' := [.int (nI (pfn n p))]) (ws' := [((h), .inr (5, [.int (nI (0)), .int (nI (n)), .ref (m1), .int (nI (st)), .ref (m2), .ref (m3), .ref (m4), .int (nI (mn)), .ref (m5), .ref (m6), .ref (m7), .ref (m8), .ref (m9), .ref (ma), .ref (mb)]))]) (cs' := 0) (ss' := 0) rfl (rfl) rfl rfl ?_
      refine J_goto C 26 dM_product_22 (by decide) ?_
      exact hret _ _ _ _ _ _ dM_product_26 (by decide) (by decide) (⟨rfl, rfl⟩)
set_option maxHeartbeats 4000000 in
set_option maxRecDepth 100000 in
theorem c_M_product_f (E : jE) (l : Launch) (h : Nat) (n : Nat) (st : Nat) (mn : Nat) (m1 : Nat) (m2 : Nat) (m3 : Nat) (m4 : Nat) (m5 : Nat) (m6 : Nat) (m7 : Nat) (m8 : Nat) (m9 : Nat) (ma : Nat) (mb : Nat) (x : Int32) (hn1 : 1 ≤ n) (hn4 : n ≤ 4) (hx : x.toInt < 0 ∨ ((3 ^ n : Nat) : Int) ≤ x.toInt) : Con E l yM_product bM_product 2 (some .int) { frames := 1, cells := 0, slots := 0, locals := 22 } [.ref (h), .int (x)] [((h), .inr (5, [.int (nI (0)), .int (nI (n)), .ref (m1), .int (nI (st)), .ref (m2), .ref (m3), .ref (m4), .int (nI (mn)), .ref (m5), .ref (m6), .ref (m7), .ref (m8), .ref (m9), .ref (ma), .ref (mb)]))] (fun r w => r = some (.int (-1)) ∧ w = [((h), .inr (5, [.int (nI (0)), .int (nI (n)), .ref (m1), .int (nI (st)), .ref (m2), .ref (m3), .ref (m4), .int (nI (mn)), .ref (m5), .ref (m6), .ref (m7), .ref (m8), .ref (m9), .ref (ma), .ref (mb)]))]) := by
  refine Con.ofI (by decide) (Nat.le_of_ble_eq_true rfl) ?_
  intro J C hret
  show J 0 [(0, .ref (h)), (1, .int (x))] [] [((h), .inr (5, [.int (nI (0)), .int (nI (n)), .ref (m1), .int (nI (st)), .ref (m2), .ref (m3), .ref (m4), .int (nI (mn)), .ref (m5), .ref (m6), .ref (m7), .ref (m8), .ref (m9), .ref (ma), .ref (mb)]))] 0 0
  have hp16 := p16 hn4
  have hp1 := p1 n
  have hp81 := p81 hn4
  refine J_aload_n C 0 dM_product_0 rfl rfl ?_
  refine J_iconst C (v := nI (0)) dM_product_1 (by decide) ?_
  refine J_put C (ws' := [((h), .inr (5, [.int (nI (0)), .int (nI (n)), .ref (m1), .int (nI (st)), .ref (m2), .ref (m3), .ref (m4), .int (nI (mn)), .ref (m5), .ref (m6), .ref (m7), .ref (m8), .ref (m9), .ref (ma), .ref (mb)]))]) 0 0 tyM hinM tyokM nmM rfl rfl (by decide) fkM_53 rfl rfl rfl (Nat.le_of_ble_eq_true rfl) dM_product_2 rfl ?_
  refine J_iload_n C 1 dM_product_5 rfl rfl ?_
  refine J_if_lt C 25 rfl dM_product_6 (by decide) (fun h6 => ?_) (fun h6 => ?_)
  · refine J_iconst C (v := -1) dM_product_25 (by decide) ?_
    exact hret _ _ _ _ _ _ dM_product_26 (by decide) (by decide) (⟨rfl, rfl⟩)
  · refine J_iload_n C 1 dM_product_9 rfl rfl ?_
    refine J_aload_n C 0 dM_product_10 rfl rfl ?_
    refine J_callV C (rest := [.int (x)]) [] [((h), .inr (5, [.int (nI (0)), .int (nI (n)), .ref (m1), .int (nI (st)), .ref (m2), .ref (m3), .ref (m4), .int (nI (mn)), .ref (m5), .ref (m6), .ref (m7), .ref (m8), .ref (m9), .ref (ma), .ref (mb)]))] [] 0 (c_M_products E l h n st mn m1 m2 m3 m4 m5 m6 m7 m8 m9 ma mb (by omega) (by omega)) mmM_products msM_products lkM_85 rfl rfl (rfl) rfl rfl ⟨by decide, by decide⟩ ⟨by decide, by decide⟩ (Nat.le_of_ble_eq_true rfl) dM_product_11 (fun r_c w_c hp => ?_)
    obtain ⟨rfl, rfl⟩ := hp
    refine J_norm C (st' := [.int (nI (3 ^ n)), .int (x)]) (ws' := [((h), .inr (5, [.int (nI (0)), .int (nI (n)), .ref (m1), .int (nI (st)), .ref (m2), .ref (m3), .ref (m4), .int (nI (mn)), .ref (m5), .ref (m6), .ref (m7), .ref (m8), .ref (m9), .ref (ma), .ref (mb)]))]) (cs' := 0) (ss' := 0) rfl (rfl) rfl rfl ?_
    refine J_icmp_ge C 25 rfl (nI_toInt (n := 3 ^ n) (by omega)) dM_product_14 (by decide) (fun h14 => ?_) (fun h14 => ?_)
    · refine J_iconst C (v := -1) dM_product_25 (by decide) ?_
      exact hret _ _ _ _ _ _ dM_product_26 (by decide) (by decide) (⟨rfl, rfl⟩)
    · exfalso; omega
end
section
set_option maxHeartbeats 4000000 in
set_option maxRecDepth 100000 in
theorem c_F_sizeOf (E : jE) (l : Launch) (a : Nat) (ha : a < 2 ^ 63) : Con E l yF_sizeOf bF_sizeOf 2 (some .int) { frames := 0, cells := 0, slots := 0, locals := 0 } [.long (lN (a))] [] (fun r w => r = some (.int (nI (a / 2 ^ 48))) ∧ w = []) := by
  refine Con.ofI (by decide) (Nat.le_of_ble_eq_true rfl) ?_
  intro J C hret
  show J 0 [(0, .long (lN (a)))] [] [] 0 0
  refine J_lload_n C 0 dF_sizeOf_0 rfl rfl ?_
  refine J_bipush C (v := nI (48)) dF_sizeOf_1 (by decide) ?_
  refine J_lushr C (v := lN (a / 2 ^ 48)) dF_sizeOf_3 (jl_ushr a 48 (by omega) (by omega)) ?_
  refine J_l2i C (v := nI (a / 2 ^ 48)) dF_sizeOf_4 (lN_i _) ?_
  exact hret _ _ _ _ _ _ dF_sizeOf_5 (by decide) (by decide) (⟨rfl, rfl⟩)
set_option maxHeartbeats 4000000 in
set_option maxRecDepth 100000 in
theorem c_F_numberAt_t (E : jE) (l : Launch) (ps : List Nat) (k : Nat) (hl : ps.length ≤ 6) (hp : ∀ p ∈ ps, p < 128) (hk : k < ps.length) : Con E l yF_numberAt bF_numberAt 4 (some .int) { frames := 1, cells := 0, slots := 0, locals := 21 } [.long (lN (fcode ps)), .int (nI (k))] [] (fun r w => r = some (.int (nI (ps.getD k 0))) ∧ w = []) := by
  refine Con.ofI (by decide) (Nat.le_of_ble_eq_true rfl) ?_
  intro J C hret
  show J 0 [(0, .long (lN (fcode ps))), (2, .int (nI (k)))] [] [] 0 0
  have flt := fcode_lt hl hp
  have fsz := fcode_size hl hp
  refine J_lload_n C 0 dF_numberAt_0 rfl rfl ?_
  refine J_callS C (rest := []) [] [] [] (c_F_sizeOf E l (fcode ps) (by omega)) mmF_sizeOf lkF_21 (rfl) rfl rfl ⟨by decide, by decide⟩ ⟨by decide, by decide⟩ (Nat.le_of_ble_eq_true rfl) dF_numberAt_1 (fun r_c w_c hp => ?_)
  obtain ⟨rfl, rfl⟩ := hp
  refine J_norm C (st' := [.int (nI ((fcode ps) / 2 ^ 48))]) (ws' := []) (cs' := 0) (ss' := 0) rfl (rfl) rfl rfl ?_
  refine J_topN C (n' := ps.length) (fsz) ?_
  refine J_istore_n C (lv' := [(0, .long (lN (fcode ps))), (2, .int (nI (k))), (3, .int (nI (ps.length)))]) [1, 2, 0] dF_numberAt_4 rfl (by decide) rfl ?_
  refine J_iload_n C 1 dF_numberAt_5 rfl rfl ?_
  refine J_if_lt C 14 (nI_toInt (n := k) (by omega)) dF_numberAt_6 (by decide) (fun h6 => ?_) (fun h6 => ?_)
  · exfalso; omega
  · refine J_iload_n C 1 dF_numberAt_9 rfl rfl ?_
    refine J_iload_n C 2 dF_numberAt_10 rfl rfl ?_
    refine J_icmp_lt C 16 (nI_toInt (n := k) (by omega)) (nI_toInt (n := ps.length) (by omega)) dF_numberAt_11 (by decide) (fun h11 => ?_) (fun h11 => ?_)
    · refine J_lload_n C 0 dF_numberAt_16 rfl rfl ?_
      refine J_bipush C (v := nI (7)) dF_numberAt_17 (by decide) ?_
      refine J_iload_n C 2 dF_numberAt_19 rfl rfl ?_
      refine J_iconst C (v := nI (1)) dF_numberAt_20 (by decide) ?_
      refine J_isubN C dF_numberAt_21 (by omega) ?_
      refine J_iload_n C 1 dF_numberAt_22 rfl rfl ?_
      refine J_isubN C dF_numberAt_23 (by omega) ?_
      refine J_imulN C dF_numberAt_24 ?_
      refine J_lushr C (v := lN (fcode ps / 2 ^ (7 * (ps.length - 1 - k)))) dF_numberAt_25 (jl_ushr _ _ (by omega) (by omega)) ?_
      refine J_l2i C (v := nI (fcode ps / 2 ^ (7 * (ps.length - 1 - k)))) dF_numberAt_26 (lN_i _) ?_
      refine J_bipush C (v := nI (127)) dF_numberAt_27 (by decide) ?_
      refine J_iandN C dF_numberAt_29 ?_
      refine J_topN C (n' := ps.getD k 0) (fcode_num hl hp hk) ?_
      exact hret _ _ _ _ _ _ dF_numberAt_30 (by decide) (by decide) (⟨rfl, rfl⟩)
    · exfalso; omega
set_option maxHeartbeats 4000000 in
set_option maxRecDepth 100000 in
theorem c_F_numberAt_f (E : jE) (l : Launch) (ps : List Nat) (x : Int32) (hl : ps.length ≤ 6) (hp : ∀ p ∈ ps, p < 128) (hx : x.toInt < 0 ∨ (ps.length : Int) ≤ x.toInt) : Con E l yF_numberAt bF_numberAt 4 (some .int) { frames := 1, cells := 0, slots := 0, locals := 21 } [.long (lN (fcode ps)), .int (x)] [] (fun r w => r = some (.int (-1)) ∧ w = []) := by
  refine Con.ofI (by decide) (Nat.le_of_ble_eq_true rfl) ?_
  intro J C hret
  show J 0 [(0, .long (lN (fcode ps))), (2, .int (x))] [] [] 0 0
  have flt := fcode_lt hl hp
  have fsz := fcode_size hl hp
  refine J_lload_n C 0 dF_numberAt_0 rfl rfl ?_
  refine J_callS C (rest := []) [] [] [] (c_F_sizeOf E l (fcode ps) (by omega)) mmF_sizeOf lkF_21 (rfl) rfl rfl ⟨by decide, by decide⟩ ⟨by decide, by decide⟩ (Nat.le_of_ble_eq_true rfl) dF_numberAt_1 (fun r_c w_c hp => ?_)
  obtain ⟨rfl, rfl⟩ := hp
  refine J_norm C (st' := [.int (nI ((fcode ps) / 2 ^ 48))]) (ws' := []) (cs' := 0) (ss' := 0) rfl (rfl) rfl rfl ?_
  refine J_topN C (n' := ps.length) (fsz) ?_
  refine J_istore_n C (lv' := [(0, .long (lN (fcode ps))), (2, .int (x)), (3, .int (nI (ps.length)))]) [1, 2, 0] dF_numberAt_4 rfl (by decide) rfl ?_
  refine J_iload_n C 1 dF_numberAt_5 rfl rfl ?_
  refine J_if_lt C 14 rfl dF_numberAt_6 (by decide) (fun h6 => ?_) (fun h6 => ?_)
  · refine J_iconst C (v := -1) dF_numberAt_14 (by decide) ?_
    exact hret _ _ _ _ _ _ dF_numberAt_15 (by decide) (by decide) (⟨rfl, rfl⟩)
  · refine J_iload_n C 1 dF_numberAt_9 rfl rfl ?_
    refine J_iload_n C 2 dF_numberAt_10 rfl rfl ?_
    refine J_icmp_lt C 16 rfl (nI_toInt (n := ps.length) (by omega)) dF_numberAt_11 (by decide) (fun h11 => ?_) (fun h11 => ?_)
    · exfalso; omega
    · refine J_iconst C (v := -1) dF_numberAt_14 (by decide) ?_
      exact hret _ _ _ _ _ _ dF_numberAt_15 (by decide) (by decide) (⟨rfl, rfl⟩)
set_option maxHeartbeats 4000000 in
set_option maxRecDepth 100000 in
theorem c_F_join (E : jE) (l : Launch) (A : List Nat) (B : List Nat) (ad : Nat) (hA : ∀ p ∈ A, p < 128) (hB : ∀ p ∈ B, p + ad < 128) (hB3 : B.length ≤ 3) (hl : A.length + B.length ≤ 6) (had : ad < 128) : Con E l yF_join bF_join 11 (some .long) { frames := 1, cells := 0, slots := 0, locals := 21 } [.long (lN (fcode A)), .long (lN (fcode B)), .int (nI (ad))] [] (fun r w => r = some (.long (lN (fcode (A ++ B.map (· + ad))))) ∧ w = []) := by
  refine Con.ofL (by decide) (Nat.le_of_ble_eq_true rfl) ?_
  intro J C hret
  show J 0 [(0, .long (lN (fcode A))), (2, .long (lN (fcode B))), (4, .int (nI (ad)))] [] [] 0 0
  have hB' : ∀ p ∈ B, p < 128 := fun p hp => by have := hB p hp; omega
  have fa := fcode_lt (ps := A) (by omega) hA
  have fb := fcode_lt (ps := B) (by omega) hB'
  have sa := fcode_size (ps := A) (by omega) hA
  have sb := fcode_size (ps := B) (by omega) hB'
  have na := fcode_nums (ps := A) (by omega) hA
  have nb := fcode_nums (ps := B) (by omega) hB'
  refine J_lload_n C 1 dF_join_0 rfl rfl ?_
  refine J_callS C (rest := []) [] [] [] (c_F_sizeOf E l (fcode B) (by omega)) mmF_sizeOf lkF_21 (rfl) rfl rfl ⟨by decide, by decide⟩ ⟨by decide, by decide⟩ (Nat.le_of_ble_eq_true rfl) dF_join_1 (fun r_c w_c hp => ?_)
  obtain ⟨rfl, rfl⟩ := hp
  refine J_norm C (st' := [.int (nI ((fcode B) / 2 ^ 48))]) (ws' := []) (cs' := 0) (ss' := 0) rfl (rfl) rfl rfl ?_
  refine J_topN C (n' := B.length) (sb) ?_
  refine J_istore C (lv' := [(0, .long (lN (fcode A))), (2, .long (lN (fcode B))), (4, .int (nI (ad))), (5, .int (nI (B.length)))]) [1, 2, 3, 0] dF_join_4 (by decide) rfl ?_
  refine J_bipush C (v := nI (7)) dF_join_6 (by decide) ?_
  refine J_iload C 3 dF_join_8 rfl ?_
  refine J_imulN C dF_join_10 ?_
  refine J_istore C (lv' := [(0, .long (lN (fcode A))), (2, .long (lN (fcode B))), (4, .int (nI (ad))), (5, .int (nI (B.length))), (6, .int (nI (7 * B.length)))]) [1, 2, 3, 4, 0] dF_join_11 (by decide) rfl ?_
  refine J_ldc2 C (v := lN (16513)) kkF_55 dF_join_13 ?_
  refine J_lconst C (v := lN (1)) dF_join_16 rfl ?_
  refine J_iload C 4 dF_join_17 rfl ?_
  refine J_lshl C (v := lN (1 * 2 ^ (7 * B.length))) dF_join_19 (jl_shl 1 _ (by omega)) ?_
  refine J_lconst C (v := lN (1)) dF_join_20 rfl ?_
  refine J_lsub C dF_join_21 ?_
  refine J_topL C (x' := lN (2 ^ (7 * B.length) - 1)) (by rw [Nat.one_mul]; exact lN_sub (Nat.two_pow_pos _)) ?_
  refine J_land C dF_join_22 ?_
  refine J_topL C (x' := lN (on1 B.length)) (by rw [jl_and, on1_is _ (by omega)]) ?_
  refine J_lstore C (lv' := [(0, .long (lN (fcode A))), (2, .long (lN (fcode B))), (4, .int (nI (ad))), (5, .int (nI (B.length))), (6, .int (nI (7 * B.length))), (7, .long (lN (on1 B.length)))]) [1, 2, 3, 4, 5, 0] dF_join_23 (by decide) rfl ?_
  refine J_lload_n C 0 dF_join_25 rfl rfl ?_
  refine J_ldc2 C (v := lN (281474976710655)) kkF_57 dF_join_26 ?_
  refine J_land C dF_join_29 ?_
  refine J_topL C (x' := lN (jval A)) (by rw [jl_and, mod48, na]) ?_
  refine J_iload C 4 dF_join_30 rfl ?_
  refine J_lshl C (v := lN (jval A * 2 ^ (7 * B.length))) dF_join_32 (jl_shl _ _ (by omega)) ?_
  refine J_lload_n C 1 dF_join_33 rfl rfl ?_
  refine J_ldc2 C (v := lN (281474976710655)) kkF_57 dF_join_34 ?_
  refine J_land C dF_join_37 ?_
  refine J_topL C (x' := lN (jval B)) (by rw [jl_and, mod48, nb]) ?_
  refine J_iload C 2 dF_join_38 rfl ?_
  refine J_i2l C (v := lN (ad)) dF_join_40 (nI_l (by omega)) ?_
  refine J_lload C 5 dF_join_41 rfl ?_
  refine J_lmul C dF_join_43 ?_
  refine J_topL C (x' := lN (ad * on1 B.length)) (lN_mul _ _) ?_
  refine J_ladd C dF_join_44 ?_
  refine J_topL C (x' := lN (jval B + ad * on1 B.length)) (lN_add _ _) ?_
  refine J_lor C dF_join_45 ?_
  refine J_topL C (x' := lN (jval A * 2 ^ (7 * B.length) ||| (jval B + ad * on1 B.length))) (jl_or _ _) ?_
  refine J_lstore C (lv' := [(0, .long (lN (fcode A))), (2, .long (lN (fcode B))), (4, .int (nI (ad))), (5, .int (nI (B.length))), (6, .int (nI (7 * B.length))), (7, .long (lN (on1 B.length))), (9, .long (lN (jval A * 2 ^ (7 * B.length) ||| (jval B + ad * on1 B.length))))]) [1, 2, 3, 4, 5, 6, 0] dF_join_46 (by decide) rfl ?_
  refine J_lload_n C 0 dF_join_48 rfl rfl ?_
  refine J_callS C (rest := []) [] [] [] (c_F_sizeOf E l (fcode A) (by omega)) mmF_sizeOf lkF_21 (rfl) rfl rfl ⟨by decide, by decide⟩ ⟨by decide, by decide⟩ (Nat.le_of_ble_eq_true rfl) dF_join_49 (fun r_c w_c hp => ?_)
  obtain ⟨rfl, rfl⟩ := hp
  refine J_norm C (st' := [.int (nI ((fcode A) / 2 ^ 48))]) (ws' := []) (cs' := 0) (ss' := 0) rfl (rfl) rfl rfl ?_
  refine J_topN C (n' := A.length) (sa) ?_
  refine J_iload C 3 dF_join_52 rfl ?_
  refine J_iaddN C dF_join_54 ?_
  refine J_i2l C (v := lN (A.length + B.length)) dF_join_55 (nI_l (by omega)) ?_
  refine J_bipush C (v := nI (48)) dF_join_56 (by decide) ?_
  refine J_lshl C (v := lN ((A.length + B.length) * 2 ^ 48)) dF_join_58 (jl_shl _ 48 (by omega)) ?_
  refine J_lload C 6 dF_join_59 rfl ?_
  refine J_lor C dF_join_61 ?_
  refine J_topL C (x' := lN (fcode (A ++ B.map (· + ad)))) (by rw [jl_or, join_is hA hB hB3 hl]) ?_
  exact hret _ _ _ _ _ _ dF_join_62 (by decide) (by decide) (⟨rfl, rfl⟩)
set_option maxHeartbeats 4000000 in
set_option maxRecDepth 100000 in
theorem c_F_leastFrom (E : jE) (l : Launch) (h : Nat) (b : Nat) (fl : Nat) (rw : Nat → Int64) (n : Nat) (f : Nat) (hn3 : n ≤ 3) (hf : f < 2 ^ 2 ^ (n + 1)) (hfl : n < fl) (hr : fRow fl rw) : Con E l yF_leastFrom bF_leastFrom 20 (some .long) { frames := 2, cells := 0, slots := 0, locals := 51 } [.ref (h), .int (nI (n + 1)), .int (nI (f))] [((h), .inr (0, [.ref (b), .int (nI (fl))])), kL E (b) (278) (rw)] (fun r w => r = some (.long (lN (fcode (pF (n + 1) f)))) ∧ w = [((h), .inr (0, [.ref (b), .int (nI (fl))])), kL E (b) (278) (rw)]) := by
  refine Con.ofL (by decide) (Nat.le_of_ble_eq_true rfl) ?_
  intro J C hret
  show J 0 [(0, .ref (h)), (1, .int (nI (n + 1))), (2, .int (nI (f)))] [] [((h), .inr (0, [.ref (b), .int (nI (fl))])), kL E (b) (278) (rw)] 0 0
  have hp16 : 2 ^ n ≤ 8 := Nat.pow_le_pow_right (by omega) hn3
  have hF : 2 ^ 2 ^ n ≤ 256 := Nat.pow_le_pow_right (n := 2) (by omega) hp16
  have hF0 := p1 (2 ^ n)
  have hf65 : f < 65536 := Nat.lt_of_lt_of_le hf (p65 (show n + 1 ≤ 4 by omega))
  have hs := jsT_fit hn3
  have hh := p_half hf
  have h81 := p81 (show n ≤ 4 by omega)
  have h27 := p27 hn3
  refine J_iconst C (v := nI (1)) dF_leastFrom_0 (by decide) ?_
  refine J_iload_n C 1 dF_leastFrom_1 rfl rfl ?_
  refine J_iconst C (v := nI (1)) dF_leastFrom_2 (by decide) ?_
  refine J_isubN C dF_leastFrom_3 (by omega) ?_
  refine J_topN C (n' := n) (by omega) ?_
  refine J_ishl1 C dF_leastFrom_4 (by omega) ?_
  refine J_istore_n C (lv' := [(0, .ref (h)), (1, .int (nI (n + 1))), (2, .int (nI (f))), (3, .int (nI (2 ^ n)))]) [1, 2, 3, 0] dF_leastFrom_5 rfl (by decide) rfl ?_
  refine J_iconst C (v := nI (1)) dF_leastFrom_6 (by decide) ?_
  refine J_iload_n C 3 dF_leastFrom_7 rfl rfl ?_
  refine J_ishl1 C dF_leastFrom_8 (by omega) ?_
  refine J_istore C (lv' := [(0, .ref (h)), (1, .int (nI (n + 1))), (2, .int (nI (f))), (3, .int (nI (2 ^ n))), (4, .int (nI (2 ^ (2 ^ n))))]) [1, 2, 3, 4, 0] dF_leastFrom_9 (by decide) rfl ?_
  refine J_iload_n C 2 dF_leastFrom_11 rfl rfl ?_
  refine J_iload C 4 dF_leastFrom_12 rfl ?_
  refine J_iconst C (v := nI (1)) dF_leastFrom_14 (by decide) ?_
  refine J_isubN C dF_leastFrom_15 (by omega) ?_
  refine J_iandN C dF_leastFrom_16 ?_
  refine J_topN C (n' := f % 2 ^ 2 ^ n) (Nat.and_two_pow_sub_one_eq_mod f (2 ^ n)) ?_
  refine J_istore C (lv' := [(0, .ref (h)), (1, .int (nI (n + 1))), (2, .int (nI (f))), (3, .int (nI (2 ^ n))), (4, .int (nI (2 ^ (2 ^ n)))), (5, .int (nI (f % 2 ^ 2 ^ n)))]) [1, 2, 3, 4, 5, 0] dF_leastFrom_17 (by decide) rfl ?_
  refine J_iload_n C 2 dF_leastFrom_19 rfl rfl ?_
  refine J_iload_n C 3 dF_leastFrom_20 rfl rfl ?_
  refine J_ishrN C dF_leastFrom_21 (by omega) (by omega) ?_
  refine J_iload C 4 dF_leastFrom_22 rfl ?_
  refine J_iconst C (v := nI (1)) dF_leastFrom_24 (by decide) ?_
  refine J_isubN C dF_leastFrom_25 (by omega) ?_
  refine J_iandN C dF_leastFrom_26 ?_
  refine J_topN C (n' := f / 2 ^ 2 ^ n) (by rw [Nat.and_two_pow_sub_one_eq_mod, Nat.mod_eq_of_lt hh.1]) ?_
  refine J_istore C (lv' := [(0, .ref (h)), (1, .int (nI (n + 1))), (2, .int (nI (f))), (3, .int (nI (2 ^ n))), (4, .int (nI (2 ^ (2 ^ n)))), (5, .int (nI (f % 2 ^ 2 ^ n))), (6, .int (nI (f / 2 ^ 2 ^ n)))]) [1, 2, 3, 4, 5, 6, 0] dF_leastFrom_27 (by decide) rfl ?_
  refine J_gets C fkF_33 dF_leastFrom_29 ?_
  refine J_iload_n C 1 dF_leastFrom_32 rfl rfl ?_
  refine J_iconst C (v := nI (1)) dF_leastFrom_33 (by decide) ?_
  refine J_isubN C dF_leastFrom_34 (by omega) ?_
  refine J_topN C (n' := n) (by omega) ?_
  refine J_tald C (by omega) dF_leastFrom_35 ?_
  refine J_istore C (lv' := [(0, .ref (h)), (1, .int (nI (n + 1))), (2, .int (nI (f))), (3, .int (nI (2 ^ n))), (4, .int (nI (2 ^ (2 ^ n)))), (5, .int (nI (f % 2 ^ 2 ^ n))), (6, .int (nI (f / 2 ^ 2 ^ n))), (7, .int (nI (jsT n)))]) [1, 2, 3, 4, 5, 6, 7, 0] dF_leastFrom_36 (by decide) rfl ?_
  refine J_iload_n C 1 dF_leastFrom_38 rfl rfl ?_
  refine J_iconst C (v := nI (1)) dF_leastFrom_39 (by decide) ?_
  refine J_isubN C dF_leastFrom_40 (by omega) ?_
  refine J_topN C (n' := n) (by omega) ?_
  refine J_callS C (rest := []) [] [] [((h), .inr (0, [.ref (b), .int (nI (fl))])), kL E (b) (278) (rw)] (c_P_count E l n (by omega)) mmP_count lkF_37 (rfl) rfl rfl ⟨by decide, by decide⟩ ⟨by decide, by decide⟩ (Nat.le_of_ble_eq_true rfl) dF_leastFrom_41 (fun r_c w_c hp => ?_)
  obtain ⟨rfl, rfl⟩ := hp
  refine J_norm C (st' := [.int (nI (3 ^ n))]) (ws' := [((h), .inr (0, [.ref (b), .int (nI (fl))])), kL E (b) (278) (rw)]) (cs' := 0) (ss' := 0) rfl (rfl) rfl rfl ?_
  refine J_istore C (lv' := [(0, .ref (h)), (1, .int (nI (n + 1))), (2, .int (nI (f))), (3, .int (nI (2 ^ n))), (4, .int (nI (2 ^ (2 ^ n)))), (5, .int (nI (f % 2 ^ 2 ^ n))), (6, .int (nI (f / 2 ^ 2 ^ n))), (7, .int (nI (jsT n))), (8, .int (nI (3 ^ n)))]) [1, 2, 3, 4, 5, 6, 7, 8, 0] dF_leastFrom_44 (by decide) rfl ?_
  refine J_ldc2 C (v := lN (1970324836974591)) kkF_43 dF_leastFrom_46 ?_
  refine J_lstore C (lv' := [(0, .ref (h)), (1, .int (nI (n + 1))), (2, .int (nI (f))), (3, .int (nI (2 ^ n))), (4, .int (nI (2 ^ (2 ^ n)))), (5, .int (nI (f % 2 ^ 2 ^ n))), (6, .int (nI (f / 2 ^ 2 ^ n))), (7, .int (nI (jsT n))), (8, .int (nI (3 ^ n))), (9, .long (lN (1970324836974591)))]) [1, 2, 3, 4, 5, 6, 7, 8, 9, 0] dF_leastFrom_49 (by decide) rfl ?_
  refine J_iconst C (v := nI (0)) dF_leastFrom_51 (by decide) ?_
  refine J_istore C (lv' := [(0, .ref (h)), (1, .int (nI (n + 1))), (2, .int (nI (f))), (3, .int (nI (2 ^ n))), (4, .int (nI (2 ^ (2 ^ n)))), (5, .int (nI (f % 2 ^ 2 ^ n))), (6, .int (nI (f / 2 ^ 2 ^ n))), (7, .int (nI (jsT n))), (8, .int (nI (3 ^ n))), (9, .long (lN (1970324836974591))), (11, .int (nI (0)))]) [1, 2, 3, 4, 5, 6, 7, 8, 9, 10, 0] dF_leastFrom_52 (by decide) rfl ?_
  have lp_54 : ∀ (k_54 : Nat) (g m : Nat), (g ≤ 2 ^ 2 ^ n) → (∀ g', g' < g → pCand n f g' = pF (n + 1) f → m ≤ fcode (pF (n + 1) f)) → (m = 1970324836974591 ∨ ∃ g', g' < g ∧ g' < 2 ^ 2 ^ n ∧ (pCand n f g').length ≤ 6 ∧ m = fcode (pCand n f g')) → (m < 2 ^ 52) → (2 ^ 2 ^ n - g) < k_54 → J 54 [(0, .ref (h)), (1, .int (nI (n + 1))), (2, .int (nI (f))), (3, .int (nI (2 ^ n))), (4, .int (nI (2 ^ (2 ^ n)))), (5, .int (nI (f % 2 ^ 2 ^ n))), (6, .int (nI (f / 2 ^ 2 ^ n))), (7, .int (nI (jsT n))), (8, .int (nI (3 ^ n))), (9, .long (lN (m))), (11, .int (nI (g)))] [] [((h), .inr (0, [.ref (b), .int (nI (fl))])), kL E (b) (278) (rw)] (0) (0) := by
    intro k_54
    induction k_54 with
    | zero => intro g m hg h1 h2 hm hk_54; exact absurd hk_54 (Nat.not_lt_zero _)
    | succ k_54 ih_54 =>
      intro g m hg h1 h2 hm hk_54
      refine J_iload C 10 dF_leastFrom_54 rfl ?_
      refine J_iload C 4 dF_leastFrom_56 rfl ?_
      refine J_icmp_ge C 163 (nI_toInt (n := g) (by omega)) (nI_toInt (n := 2 ^ (2 ^ n)) (by omega)) dF_leastFrom_58 (by decide) (fun h58 => ?_) (fun h58 => ?_)
      · obtain rfl : 2 ^ 2 ^ n = g := by omega
        have em := lf_end (show n + 1 ≤ 4 by omega) hf h1 h2
        subst em
        refine J_lload C 9 dF_leastFrom_163 rfl ?_
        exact hret _ _ _ _ _ _ dF_leastFrom_165 (by decide) (by decide) (⟨rfl, rfl⟩)
      · have gl : g < 2 ^ 2 ^ n := by omega
        have xh := Nat.xor_lt_two_pow hh.1 gl
        have xl := Nat.xor_lt_two_pow hh.2 gl
        have e1 := pF_128 (show n ≤ 4 by omega) gl
        have e2 := pF_128 (show n ≤ 4 by omega) xh
        have e3 := pF_128 (show n ≤ 4 by omega) xl
        have l1 : (pF n g).length ≤ 3 := pc_le3 hn3 gl
        have l2 : (pF n (f / 2 ^ 2 ^ n ^^^ g)).length ≤ 3 := pc_le3 hn3 xh
        have l3 : (pF n (f % 2 ^ 2 ^ n ^^^ g)).length ≤ 3 := pc_le3 hn3 xl
        have lc : (pCand n f g).length = (pF n g).length + (pF n (f / 2 ^ 2 ^ n ^^^ g)).length + (pF n (f % 2 ^ 2 ^ n ^^^ g)).length := pJ_len _ _ _ _
        refine J_aload_n C 0 dF_leastFrom_61 rfl rfl ?_
        refine J_get C 0 0 hinF rfl rfl (by decide) fkF_11 rfl dF_leastFrom_62 ?_
        refine J_iload C 7 dF_leastFrom_65 rfl ?_
        refine J_iload C 10 dF_leastFrom_67 rfl ?_
        refine J_iaddN C dF_leastFrom_69 ?_
        refine J_lald C 1 rfl (by omega) (by omega) dF_leastFrom_70 ?_
        refine J_topL C (x' := lN (fcode (pF n g))) (hr n hfl g (by omega)) ?_
        refine J_lstore C (lv' := [(0, .ref (h)), (1, .int (nI (n + 1))), (2, .int (nI (f))), (3, .int (nI (2 ^ n))), (4, .int (nI (2 ^ (2 ^ n)))), (5, .int (nI (f % 2 ^ 2 ^ n))), (6, .int (nI (f / 2 ^ 2 ^ n))), (7, .int (nI (jsT n))), (8, .int (nI (3 ^ n))), (9, .long (lN (m))), (11, .int (nI (g))), (12, .long (lN (fcode (pF n g))))]) [1, 2, 3, 4, 5, 6, 7, 8, 9, 10, 11, 0] dF_leastFrom_71 (by decide) rfl ?_
        refine J_aload_n C 0 dF_leastFrom_73 rfl rfl ?_
        refine J_get C 0 0 hinF rfl rfl (by decide) fkF_11 rfl dF_leastFrom_74 ?_
        refine J_iload C 7 dF_leastFrom_77 rfl ?_
        refine J_iload C 6 dF_leastFrom_79 rfl ?_
        refine J_iload C 10 dF_leastFrom_81 rfl ?_
        refine J_ixorN C dF_leastFrom_83 ?_
        refine J_topN C (n' := f / 2 ^ 2 ^ n ^^^ g) (rfl) ?_
        refine J_iaddN C dF_leastFrom_84 ?_
        refine J_lald C 1 rfl (by omega) (by omega) dF_leastFrom_85 ?_
        refine J_topL C (x' := lN (fcode (pF n (f / 2 ^ 2 ^ n ^^^ g)))) (hr n hfl _ xh) ?_
        refine J_lstore C (lv' := [(0, .ref (h)), (1, .int (nI (n + 1))), (2, .int (nI (f))), (3, .int (nI (2 ^ n))), (4, .int (nI (2 ^ (2 ^ n)))), (5, .int (nI (f % 2 ^ 2 ^ n))), (6, .int (nI (f / 2 ^ 2 ^ n))), (7, .int (nI (jsT n))), (8, .int (nI (3 ^ n))), (9, .long (lN (m))), (11, .int (nI (g))), (12, .long (lN (fcode (pF n g)))), (14, .long (lN (fcode (pF n (f / 2 ^ 2 ^ n ^^^ g)))))]) [1, 2, 3, 4, 5, 6, 7, 8, 9, 10, 11, 12, 0] dF_leastFrom_86 (by decide) rfl ?_
        refine J_aload_n C 0 dF_leastFrom_88 rfl rfl ?_
        refine J_get C 0 0 hinF rfl rfl (by decide) fkF_11 rfl dF_leastFrom_89 ?_
        refine J_iload C 7 dF_leastFrom_92 rfl ?_
        refine J_iload C 5 dF_leastFrom_94 rfl ?_
        refine J_iload C 10 dF_leastFrom_96 rfl ?_
        refine J_ixorN C dF_leastFrom_98 ?_
        refine J_iaddN C dF_leastFrom_99 ?_
        refine J_lald C 1 rfl (by omega) (by omega) dF_leastFrom_100 ?_
        refine J_topL C (x' := lN (fcode (pF n (f % 2 ^ 2 ^ n ^^^ g)))) (hr n hfl _ xl) ?_
        refine J_lstore C (lv' := [(0, .ref (h)), (1, .int (nI (n + 1))), (2, .int (nI (f))), (3, .int (nI (2 ^ n))), (4, .int (nI (2 ^ (2 ^ n)))), (5, .int (nI (f % 2 ^ 2 ^ n))), (6, .int (nI (f / 2 ^ 2 ^ n))), (7, .int (nI (jsT n))), (8, .int (nI (3 ^ n))), (9, .long (lN (m))), (11, .int (nI (g))), (12, .long (lN (fcode (pF n g)))), (14, .long (lN (fcode (pF n (f / 2 ^ 2 ^ n ^^^ g))))), (16, .long (lN (fcode (pF n (f % 2 ^ 2 ^ n ^^^ g)))))]) [1, 2, 3, 4, 5, 6, 7, 8, 9, 10, 11, 12, 13, 0] dF_leastFrom_101 (by decide) rfl ?_
        refine J_lload C 11 dF_leastFrom_103 rfl ?_
        refine J_callS C (rest := []) [] [] [((h), .inr (0, [.ref (b), .int (nI (fl))])), kL E (b) (278) (rw)] (c_F_sizeOf E l (fcode (pF n g)) (by have := fcode_lt (ps := pF n g) (by omega) e1; omega)) mmF_sizeOf lkF_21 (rfl) rfl rfl ⟨by decide, by decide⟩ ⟨by decide, by decide⟩ (Nat.le_of_ble_eq_true rfl) dF_leastFrom_105 (fun r_c w_c hp => ?_)
        obtain ⟨rfl, rfl⟩ := hp
        refine J_norm C (st' := [.int (nI ((fcode (pF n g)) / 2 ^ 48))]) (ws' := [((h), .inr (0, [.ref (b), .int (nI (fl))])), kL E (b) (278) (rw)]) (cs' := 0) (ss' := 0) rfl (rfl) rfl rfl ?_
        refine J_topN C (n' := (pF n g).length) (fcode_size (by omega) e1) ?_
        refine J_lload C 12 dF_leastFrom_108 rfl ?_
        refine J_callS C (rest := [.int (nI ((pF n g).length))]) [] [] [((h), .inr (0, [.ref (b), .int (nI (fl))])), kL E (b) (278) (rw)] (c_F_sizeOf E l (fcode (pF n (f / 2 ^ 2 ^ n ^^^ g))) (by have := fcode_lt (ps := pF n (f / 2 ^ 2 ^ n ^^^ g)) (by omega) e2; omega)) mmF_sizeOf lkF_21 (rfl) rfl rfl ⟨by decide, by decide⟩ ⟨by decide, by decide⟩ (Nat.le_of_ble_eq_true rfl) dF_leastFrom_110 (fun r_c w_c hp => ?_)
        obtain ⟨rfl, rfl⟩ := hp
        refine J_norm C (st' := [.int (nI ((fcode (pF n (f / 2 ^ 2 ^ n ^^^ g))) / 2 ^ 48)), .int (nI ((pF n g).length))]) (ws' := [((h), .inr (0, [.ref (b), .int (nI (fl))])), kL E (b) (278) (rw)]) (cs' := 0) (ss' := 0) rfl (rfl) rfl rfl ?_
        refine J_topN C (n' := (pF n (f / 2 ^ 2 ^ n ^^^ g)).length) (fcode_size (by omega) e2) ?_
        refine J_iaddN C dF_leastFrom_113 ?_
        refine J_lload C 13 dF_leastFrom_114 rfl ?_
        refine J_callS C (rest := [.int (nI (((pF n g).length) + ((pF n (f / 2 ^ 2 ^ n ^^^ g)).length)))]) [] [] [((h), .inr (0, [.ref (b), .int (nI (fl))])), kL E (b) (278) (rw)] (c_F_sizeOf E l (fcode (pF n (f % 2 ^ 2 ^ n ^^^ g))) (by have := fcode_lt (ps := pF n (f % 2 ^ 2 ^ n ^^^ g)) (by omega) e3; omega)) mmF_sizeOf lkF_21 (rfl) rfl rfl ⟨by decide, by decide⟩ ⟨by decide, by decide⟩ (Nat.le_of_ble_eq_true rfl) dF_leastFrom_116 (fun r_c w_c hp => ?_)
        obtain ⟨rfl, rfl⟩ := hp
        refine J_norm C (st' := [.int (nI ((fcode (pF n (f % 2 ^ 2 ^ n ^^^ g))) / 2 ^ 48)), .int (nI (((pF n g).length) + ((pF n (f / 2 ^ 2 ^ n ^^^ g)).length)))]) (ws' := [((h), .inr (0, [.ref (b), .int (nI (fl))])), kL E (b) (278) (rw)]) (cs' := 0) (ss' := 0) rfl (rfl) rfl rfl ?_
        refine J_topN C (n' := (pF n (f % 2 ^ 2 ^ n ^^^ g)).length) (fcode_size (by omega) e3) ?_
        refine J_iaddN C dF_leastFrom_119 ?_
        refine J_lload C 9 dF_leastFrom_120 rfl ?_
        refine J_callS C (rest := [.int (nI ((((pF n g).length) + ((pF n (f / 2 ^ 2 ^ n ^^^ g)).length)) + ((pF n (f % 2 ^ 2 ^ n ^^^ g)).length)))]) [] [] [((h), .inr (0, [.ref (b), .int (nI (fl))])), kL E (b) (278) (rw)] (c_F_sizeOf E l m (by omega)) mmF_sizeOf lkF_21 (rfl) rfl rfl ⟨by decide, by decide⟩ ⟨by decide, by decide⟩ (Nat.le_of_ble_eq_true rfl) dF_leastFrom_122 (fun r_c w_c hp => ?_)
        obtain ⟨rfl, rfl⟩ := hp
        refine J_norm C (st' := [.int (nI (m / 2 ^ 48)), .int (nI ((((pF n g).length) + ((pF n (f / 2 ^ 2 ^ n ^^^ g)).length)) + ((pF n (f % 2 ^ 2 ^ n ^^^ g)).length)))]) (ws' := [((h), .inr (0, [.ref (b), .int (nI (fl))])), kL E (b) (278) (rw)]) (cs' := 0) (ss' := 0) rfl (rfl) rfl rfl ?_
        refine J_icmp_gt C 157 (nI_toInt (n := (((pF n g).length) + ((pF n (f / 2 ^ 2 ^ n ^^^ g)).length)) + ((pF n (f % 2 ^ 2 ^ n ^^^ g)).length)) (by omega)) (nI_toInt (n := m / 2 ^ 48) (by omega)) dF_leastFrom_125 (by decide) (fun h125 => ?_) (fun h125 => ?_)
        · refine J_iinc C (lv' := [(0, .ref (h)), (1, .int (nI (n + 1))), (2, .int (nI (f))), (3, .int (nI (2 ^ n))), (4, .int (nI (2 ^ (2 ^ n)))), (5, .int (nI (f % 2 ^ 2 ^ n))), (6, .int (nI (f / 2 ^ 2 ^ n))), (7, .int (nI (jsT n))), (8, .int (nI (3 ^ n))), (9, .long (lN (m))), (11, .int (nI (g + 1))), (12, .long (lN (fcode (pF n g)))), (14, .long (lN (fcode (pF n (f / 2 ^ 2 ^ n ^^^ g))))), (16, .long (lN (fcode (pF n (f % 2 ^ 2 ^ n ^^^ g)))))]) 10 [1, 2, 3, 4, 5, 6, 7, 8, 9, 10, 0, 11, 12, 13] dF_leastFrom_157 rfl (jn_inc _) (by decide) rfl ?_
          refine J_goto C 54 dF_leastFrom_160 (by decide) ?_
          refine J_lv C (lv' := [(0, .ref (h)), (1, .int (nI (n + 1))), (2, .int (nI (f))), (3, .int (nI (2 ^ n))), (4, .int (nI (2 ^ (2 ^ n)))), (5, .int (nI (f % 2 ^ 2 ^ n))), (6, .int (nI (f / 2 ^ 2 ^ n))), (7, .int (nI (jsT n))), (8, .int (nI (3 ^ n))), (9, .long (lN (m))), (11, .int (nI (g + 1)))]) [0, 1, 2, 3, 4, 5, 6, 7, 8, 9, 10] rfl ?_
          exact ih_54 (g + 1) m (by omega) (lf_skip h1 (by omega)) (lf_more h2) (hm) (by omega)
        · have hm6 : m / 2 ^ 48 ≤ 6 := lf_six h2
          have hcl : (pCand n f g).length ≤ 6 ∧ (∀ p ∈ pCand n f g, p < 128) ∧ g < 2 ^ 2 ^ n := ⟨by omega, fun p hp => p3_128 (show n + 1 ≤ 4 by omega) ((pCand_bt hf gl).1 p hp), gl⟩
          have e4 : ∀ p ∈ pF n g ++ (pF n (f / 2 ^ 2 ^ n ^^^ g)).map (· + 3 ^ n), p < 128 := fun p hp => by
            rcases List.mem_append.mp hp with q | q
            · exact e1 p q
            · obtain ⟨z, hz, rfl⟩ := List.mem_map.mp q
              have := pF_in xh z hz
              omega
          refine J_lload C 11 dF_leastFrom_128 rfl ?_
          refine J_lload C 12 dF_leastFrom_130 rfl ?_
          refine J_iload C 8 dF_leastFrom_132 rfl ?_
          refine J_callS C (rest := []) [] [] [((h), .inr (0, [.ref (b), .int (nI (fl))])), kL E (b) (278) (rw)] (c_F_join E l (pF n g) (pF n (f / 2 ^ 2 ^ n ^^^ g)) (3 ^ n) (e1) (fun p hp => by have := pF_in xh p hp; omega) (by omega) (by omega) (by omega)) mmF_join lkF_45 (rfl) rfl rfl ⟨by decide, by decide⟩ ⟨by decide, by decide⟩ (Nat.le_of_ble_eq_true rfl) dF_leastFrom_134 (fun r_c w_c hp => ?_)
          obtain ⟨rfl, rfl⟩ := hp
          refine J_norm C (st' := [.long (lN (fcode ((pF n g) ++ (pF n (f / 2 ^ 2 ^ n ^^^ g)).map (· + (3 ^ n)))))]) (ws' := [((h), .inr (0, [.ref (b), .int (nI (fl))])), kL E (b) (278) (rw)]) (cs' := 0) (ss' := 0) rfl (rfl) rfl rfl ?_
          refine J_lload C 13 dF_leastFrom_137 rfl ?_
          refine J_iconst C (v := nI (2)) dF_leastFrom_139 (by decide) ?_
          refine J_iload C 8 dF_leastFrom_140 rfl ?_
          refine J_imulN C dF_leastFrom_142 ?_
          refine J_callS C (rest := []) [] [] [((h), .inr (0, [.ref (b), .int (nI (fl))])), kL E (b) (278) (rw)] (c_F_join E l ((pF n g) ++ (pF n (f / 2 ^ 2 ^ n ^^^ g)).map (· + 3 ^ n)) (pF n (f % 2 ^ 2 ^ n ^^^ g)) (2 * (3 ^ n)) (e4) (fun p hp => by have := pF_in xl p hp; omega) (by omega) (by rw [List.length_append, List.length_map]; omega) (by omega)) mmF_join lkF_45 (rfl) rfl rfl ⟨by decide, by decide⟩ ⟨by decide, by decide⟩ (Nat.le_of_ble_eq_true rfl) dF_leastFrom_143 (fun r_c w_c hp => ?_)
          obtain ⟨rfl, rfl⟩ := hp
          refine J_norm C (st' := [.long (lN (fcode (((pF n g) ++ (pF n (f / 2 ^ 2 ^ n ^^^ g)).map (· + 3 ^ n)) ++ (pF n (f % 2 ^ 2 ^ n ^^^ g)).map (· + (2 * (3 ^ n))))))]) (ws' := [((h), .inr (0, [.ref (b), .int (nI (fl))])), kL E (b) (278) (rw)]) (cs' := 0) (ss' := 0) rfl (rfl) rfl rfl ?_
          refine J_topL C (x' := lN (fcode (pCand n f g))) (by rw [List.append_assoc]; rfl) ?_
          refine J_lstore C (lv' := [(0, .ref (h)), (1, .int (nI (n + 1))), (2, .int (nI (f))), (3, .int (nI (2 ^ n))), (4, .int (nI (2 ^ (2 ^ n)))), (5, .int (nI (f % 2 ^ 2 ^ n))), (6, .int (nI (f / 2 ^ 2 ^ n))), (7, .int (nI (jsT n))), (8, .int (nI (3 ^ n))), (9, .long (lN (m))), (11, .int (nI (g))), (12, .long (lN (fcode (pF n g)))), (14, .long (lN (fcode (pF n (f / 2 ^ 2 ^ n ^^^ g))))), (16, .long (lN (fcode (pF n (f % 2 ^ 2 ^ n ^^^ g))))), (18, .long (lN (fcode (pCand n f g))))]) [1, 2, 3, 4, 5, 6, 7, 8, 9, 10, 11, 12, 13, 14, 0] dF_leastFrom_146 (by decide) rfl ?_
          refine J_lload C 9 dF_leastFrom_148 rfl ?_
          refine J_lload C 14 dF_leastFrom_150 rfl ?_
          refine J_mminL C lkF_49 k_mminLS k_MathI k_mminLC (by decide) (Nat.le_of_ble_eq_true rfl) (by decide) (by decide) dF_leastFrom_152 ?_
          refine J_topL C (x' := lN (if fcode (pCand n f g) < m then fcode (pCand n f g) else m)) (lf_if hcl (by omega)) ?_
          refine J_lstore C (lv' := [(0, .ref (h)), (1, .int (nI (n + 1))), (2, .int (nI (f))), (3, .int (nI (2 ^ n))), (4, .int (nI (2 ^ (2 ^ n)))), (5, .int (nI (f % 2 ^ 2 ^ n))), (6, .int (nI (f / 2 ^ 2 ^ n))), (7, .int (nI (jsT n))), (8, .int (nI (3 ^ n))), (9, .long (lN (if fcode (pCand n f g) < m then fcode (pCand n f g) else m))), (11, .int (nI (g))), (12, .long (lN (fcode (pF n g)))), (14, .long (lN (fcode (pF n (f / 2 ^ 2 ^ n ^^^ g))))), (16, .long (lN (fcode (pF n (f % 2 ^ 2 ^ n ^^^ g))))), (18, .long (lN (fcode (pCand n f g))))]) [1, 2, 3, 4, 5, 6, 7, 8, 9, 0, 10, 11, 12, 13, 14] dF_leastFrom_155 (by decide) rfl ?_
          refine J_iinc C (lv' := [(0, .ref (h)), (1, .int (nI (n + 1))), (2, .int (nI (f))), (3, .int (nI (2 ^ n))), (4, .int (nI (2 ^ (2 ^ n)))), (5, .int (nI (f % 2 ^ 2 ^ n))), (6, .int (nI (f / 2 ^ 2 ^ n))), (7, .int (nI (jsT n))), (8, .int (nI (3 ^ n))), (9, .long (lN (if fcode (pCand n f g) < m then fcode (pCand n f g) else m))), (11, .int (nI (g + 1))), (12, .long (lN (fcode (pF n g)))), (14, .long (lN (fcode (pF n (f / 2 ^ 2 ^ n ^^^ g))))), (16, .long (lN (fcode (pF n (f % 2 ^ 2 ^ n ^^^ g))))), (18, .long (lN (fcode (pCand n f g))))]) 10 [1, 2, 3, 4, 5, 6, 7, 8, 9, 10, 0, 11, 12, 13, 14] dF_leastFrom_157 rfl (jn_inc _) (by decide) rfl ?_
          refine J_goto C 54 dF_leastFrom_160 (by decide) ?_
          refine J_lv C (lv' := [(0, .ref (h)), (1, .int (nI (n + 1))), (2, .int (nI (f))), (3, .int (nI (2 ^ n))), (4, .int (nI (2 ^ (2 ^ n)))), (5, .int (nI (f % 2 ^ 2 ^ n))), (6, .int (nI (f / 2 ^ 2 ^ n))), (7, .int (nI (jsT n))), (8, .int (nI (3 ^ n))), (9, .long (lN (if fcode (pCand n f g) < m then fcode (pCand n f g) else m))), (11, .int (nI (g + 1)))]) [0, 1, 2, 3, 4, 5, 6, 7, 8, 9, 10] rfl ?_
          exact ih_54 (g + 1) (if fcode (pCand n f g) < m then fcode (pCand n f g) else m) (by omega) (lf_min1 h1) (lf_min2 hcl h2) (lf_min3 hcl hm) (by omega)
  exact lp_54 (2 ^ 2 ^ n + 1) 0 1970324836974591 (by omega) (by intro g' q; omega) (Or.inl rfl) (by decide) (by omega)
end
section
set_option maxHeartbeats 4000000 in
set_option maxRecDepth 100000 in
theorem c_F_fillLevel (E : jE) (l : Launch) (h : Nat) (b : Nat) (rw : Nat → Int64) (n : Nat) (hn2 : n ≤ 2) (hr : fRow (n + 1) rw) : Con E l yF_fillLevel bF_fillLevel 4 none { frames := 3, cells := 0, slots := 0, locals := 90 } [.ref (h), .int (nI (n + 1))] [((h), .inr (0, [.ref (b), .int (nI (n + 1))])), kL E (b) (278) (rw)] (fun r w => ∃ rw' : Nat → Int64, r = none ∧ fRow (n + 2) rw' ∧ w = [((h), .inr (0, [.ref (b), .int (nI (n + 2))])), kL E (b) (278) (rw')]) := by
  refine Con.ofV (by decide) (Nat.le_of_ble_eq_true rfl) ?_
  intro J C hret
  show J 0 [(0, .ref (h)), (1, .int (nI (n + 1)))] [] [((h), .inr (0, [.ref (b), .int (nI (n + 1))])), kL E (b) (278) (rw)] 0 0
  have hp8 : 2 ^ (n + 1) ≤ 8 := Nat.pow_le_pow_right (n := 2) (by omega) (show n + 1 ≤ 3 by omega)
  have hF : 2 ^ 2 ^ (n + 1) ≤ 256 := Nat.pow_le_pow_right (n := 2) (by omega) hp8
  have hF0 := p1 (2 ^ (n + 1))
  have hs := jsT_fit (show n + 1 ≤ 3 by omega)
  refine J_iconst C (v := nI (1)) dF_fillLevel_0 (by decide) ?_
  refine J_iconst C (v := nI (1)) dF_fillLevel_1 (by decide) ?_
  refine J_iload_n C 1 dF_fillLevel_2 rfl rfl ?_
  refine J_ishl1 C dF_fillLevel_3 (by omega) ?_
  refine J_ishl1 C dF_fillLevel_4 (by omega) ?_
  refine J_istore_n C (lv' := [(0, .ref (h)), (1, .int (nI (n + 1))), (2, .int (nI (2 ^ (2 ^ (n + 1)))))]) [1, 2, 0] dF_fillLevel_5 rfl (by decide) rfl ?_
  refine J_iconst C (v := nI (0)) dF_fillLevel_6 (by decide) ?_
  refine J_istore_n C (lv' := [(0, .ref (h)), (1, .int (nI (n + 1))), (2, .int (nI (2 ^ (2 ^ (n + 1))))), (3, .int (nI (0)))]) [1, 2, 3, 0] dF_fillLevel_7 rfl (by decide) rfl ?_
  have lp_8 : ∀ (k_8 : Nat) (f : Nat) (r2 : Nat → Int64), (f ≤ 2 ^ 2 ^ (n + 1)) → (fRow (n + 1) r2) → (∀ f', f' < f → r2 (jsT (n + 1) + f') = lN (fcode (pF (n + 1) f'))) → (2 ^ 2 ^ (n + 1) - f) < k_8 → J 8 [(0, .ref (h)), (1, .int (nI (n + 1))), (2, .int (nI (2 ^ (2 ^ (n + 1))))), (3, .int (nI (f)))] [] [((h), .inr (0, [.ref (b), .int (nI (n + 1))])), kL E (b) (278) (r2)] (0) (0) := by
    intro k_8
    induction k_8 with
    | zero => intro f r2 hf h1 h2 hk_8; exact absurd hk_8 (Nat.not_lt_zero _)
    | succ k_8 ih_8 =>
      intro f r2 hf h1 h2 hk_8
      refine J_iload_n C 3 dF_fillLevel_8 rfl rfl ?_
      refine J_iload_n C 2 dF_fillLevel_9 rfl rfl ?_
      refine J_icmp_ge C 37 (nI_toInt (n := f) (by omega)) (nI_toInt (n := 2 ^ (2 ^ (n + 1))) (by omega)) dF_fillLevel_10 (by decide) (fun h10 => ?_) (fun h10 => ?_)
      · obtain rfl : 2 ^ 2 ^ (n + 1) = f := by omega
        refine J_aload_n C 0 dF_fillLevel_37 rfl rfl ?_
        refine J_iload_n C 1 dF_fillLevel_38 rfl rfl ?_
        refine J_iconst C (v := nI (1)) dF_fillLevel_39 (by decide) ?_
        refine J_iaddN C dF_fillLevel_40 ?_
        refine J_put C (ws' := [((h), .inr (0, [.ref (b), .int (nI ((n + 1) + 1))])), kL E (b) (278) (r2)]) 0 1 tyF hinF tyokF nmF rfl rfl (by decide) fkF_17 rfl rfl rfl (Nat.le_of_ble_eq_true rfl) dF_fillLevel_41 rfl ?_
        exact hret _ _ _ _ _ dF_fillLevel_44 (by decide) (by decide) (⟨r2, rfl, fr_done h1 h2, rfl⟩)
      · refine J_aload_n C 0 dF_fillLevel_13 rfl rfl ?_
        refine J_get C 0 0 hinF rfl rfl (by decide) fkF_11 rfl dF_fillLevel_14 ?_
        refine J_gets C fkF_33 dF_fillLevel_17 ?_
        refine J_iload_n C 1 dF_fillLevel_20 rfl rfl ?_
        refine J_tald C (by omega) dF_fillLevel_21 ?_
        refine J_iload_n C 3 dF_fillLevel_22 rfl rfl ?_
        refine J_iaddN C dF_fillLevel_23 ?_
        refine J_aload_n C 0 dF_fillLevel_24 rfl rfl ?_
        refine J_iload_n C 1 dF_fillLevel_25 rfl rfl ?_
        refine J_iload_n C 3 dF_fillLevel_26 rfl rfl ?_
        refine J_callV C (rest := [.int (nI ((jsT (n + 1)) + f)), .ref (b)]) [] [((h), .inr (0, [.ref (b), .int (nI (n + 1))])), kL E (b) (278) (r2)] [] 0 (c_F_leastFrom E l h b (n + 1) r2 n f (by omega) (by omega) (by omega) (h1)) mmF_leastFrom msF_leastFrom lkF_29 rfl rfl (rfl) rfl rfl ⟨by decide, by decide⟩ ⟨by decide, by decide⟩ (Nat.le_of_ble_eq_true rfl) dF_fillLevel_27 (fun r_c w_c hp => ?_)
        obtain ⟨rfl, rfl⟩ := hp
        refine J_norm C (st' := [.long (lN (fcode (pF (n + 1) f))), .int (nI ((jsT (n + 1)) + f)), .ref (b)]) (ws' := [((h), .inr (0, [.ref (b), .int (nI ((n + 1)))])), kL E (b) (278) (r2)]) (cs' := 0) (ss' := 0) rfl (rfl) rfl rfl ?_
        refine J_last C (ws' := [((h), .inr (0, [.ref (b), .int (nI ((n + 1)))])), kL E (b) (278) (vp_updL r2 ((jsT (n + 1)) + f) (lN (fcode (pF (n + 1) f))))]) 1 rfl (by omega) (by omega) dF_fillLevel_30 rfl ?_
        refine J_iinc C (lv' := [(0, .ref (h)), (1, .int (nI (n + 1))), (2, .int (nI (2 ^ (2 ^ (n + 1))))), (3, .int (nI (f + 1)))]) 3 [1, 2, 3, 0] dF_fillLevel_31 rfl (jn_inc _) (by decide) rfl ?_
        refine J_goto C 8 dF_fillLevel_34 (by decide) ?_
        exact ih_8 (f + 1) (vp_updL r2 ((jsT (n + 1)) + f) (lN (fcode (pF (n + 1) f)))) (by omega) (fr_keep (by omega) h1) (fr_add h2) (by omega)
  exact lp_8 (2 ^ 2 ^ (n + 1) + 1) 0 rw (by omega) (hr) (fun f' q => by omega) (by omega)
set_option maxHeartbeats 4000000 in
set_option maxRecDepth 100000 in
theorem c_F_least (E : jE) (l : Launch) (h : Nat) (b : Nat) (rw : Nat → Int64) (u0 : Nat) (k : Nat) (f : Nat) (hk3 : k ≤ 3) (hu3 : u0 ≤ 3) (hf : f < 2 ^ 2 ^ (k + 1)) (hr : fRow (u0 + 1) rw) : Con E l yF_least bF_least 4 (some .long) { frames := 4, cells := 0, slots := 0, locals := 113 } [.ref (h), .int (nI (k + 1)), .int (nI (f))] [((h), .inr (0, [.ref (b), .int (nI (u0 + 1))])), kL E (b) (278) (rw)] (fun r w => ∃ (u1 : Nat) (rw' : Nat → Int64), r = some (.long (lN (fcode (pF (k + 1) f)))) ∧ u1 ≤ 3 ∧ fRow (u1 + 1) rw' ∧ w = [((h), .inr (0, [.ref (b), .int (nI (u1 + 1))])), kL E (b) (278) (rw')]) := by
  refine Con.ofL (by decide) (Nat.le_of_ble_eq_true rfl) ?_
  intro J C hret
  show J 0 [(0, .ref (h)), (1, .int (nI (k + 1))), (2, .int (nI (f)))] [] [((h), .inr (0, [.ref (b), .int (nI (u0 + 1))])), kL E (b) (278) (rw)] 0 0
  refine J_aload_n C 0 dF_least_0 rfl rfl ?_
  refine J_get C 0 1 hinF rfl rfl (by decide) fkF_17 rfl dF_least_1 ?_
  refine J_istore_n C (lv' := [(0, .ref (h)), (1, .int (nI (k + 1))), (2, .int (nI (f))), (3, .int (nI (u0 + 1)))]) [1, 2, 3, 0] dF_least_4 rfl (by decide) rfl ?_
  have lp_5 : ∀ (k_5 : Nat) (u : Nat) (r2 : Nat → Int64), (u ≤ 3) → (fRow (u + 1) r2) → (4 - u) < k_5 → J 5 [(0, .ref (h)), (1, .int (nI (k + 1))), (2, .int (nI (f))), (3, .int (nI (u + 1)))] [] [((h), .inr (0, [.ref (b), .int (nI (u + 1))])), kL E (b) (278) (r2)] (0) (0) := by
    intro k_5
    induction k_5 with
    | zero => intro u r2 hu h1 hk_5; exact absurd hk_5 (Nat.not_lt_zero _)
    | succ k_5 ih_5 =>
      intro u r2 hu h1 hk_5
      refine J_iload_n C 3 dF_least_5 rfl rfl ?_
      refine J_iload_n C 1 dF_least_6 rfl rfl ?_
      refine J_icmp_ge C 21 (nI_toInt (n := u + 1) (by omega)) (nI_toInt (n := k + 1) (by omega)) dF_least_7 (by decide) (fun h7 => ?_) (fun h7 => ?_)
      · refine J_aload_n C 0 dF_least_21 rfl rfl ?_
        refine J_iload_n C 1 dF_least_22 rfl rfl ?_
        refine J_iload_n C 2 dF_least_23 rfl rfl ?_
        refine J_callV C (rest := []) [] [((h), .inr (0, [.ref (b), .int (nI (u + 1))])), kL E (b) (278) (r2)] [] 0 (c_F_leastFrom E l h b (u + 1) r2 k f (by omega) (hf) (by omega) (h1)) mmF_leastFrom msF_leastFrom lkF_29 rfl rfl (rfl) rfl rfl ⟨by decide, by decide⟩ ⟨by decide, by decide⟩ (Nat.le_of_ble_eq_true rfl) dF_least_24 (fun r_c w_c hp => ?_)
        obtain ⟨rfl, rfl⟩ := hp
        refine J_norm C (st' := [.long (lN (fcode (pF (k + 1) f)))]) (ws' := [((h), .inr (0, [.ref (b), .int (nI ((u + 1)))])), kL E (b) (278) (r2)]) (cs' := 0) (ss' := 0) rfl (rfl) rfl rfl ?_
        exact hret _ _ _ _ _ _ dF_least_27 (by decide) (by decide) (⟨u, r2, rfl, hu, h1, rfl⟩)
      · refine J_aload_n C 0 dF_least_10 rfl rfl ?_
        refine J_iload_n C 3 dF_least_11 rfl rfl ?_
        refine J_callV C (rest := []) [] [((h), .inr (0, [.ref (b), .int (nI (u + 1))])), kL E (b) (278) (r2)] [] 0 (c_F_fillLevel E l h b r2 u (by omega) (h1)) mmF_fillLevel msF_fillLevel lkF_25 rfl rfl (rfl) rfl rfl ⟨by decide, by decide⟩ ⟨by decide, by decide⟩ (Nat.le_of_ble_eq_true rfl) dF_least_12 (fun r_c w_c hp => ?_)
        obtain ⟨rw1_1, rfl, hrw1, rfl⟩ := hp
        refine J_norm C (st' := []) (ws' := [((h), .inr (0, [.ref (b), .int (nI (u + 2))])), kL E (b) (278) (rw1_1)]) (cs' := 0) (ss' := 0) rfl (rfl) rfl rfl ?_
        refine J_iinc C (lv' := [(0, .ref (h)), (1, .int (nI (k + 1))), (2, .int (nI (f))), (3, .int (nI (u + 1 + 1)))]) 3 [1, 2, 3, 0] dF_least_15 rfl (jn_inc _) (by decide) rfl ?_
        refine J_goto C 5 dF_least_18 (by decide) ?_
        exact ih_5 (u + 1) rw1_1 (by omega) (hrw1) (by omega)
  exact lp_5 (5) u0 rw (hu3) (hr) (by omega)
set_option maxHeartbeats 4000000 in
set_option maxRecDepth 100000 in
theorem c_F_init (E : jE) (l : Launch) (h : Nat) : Con E l yF_init bF_init 1 none { frames := 1, cells := 1, slots := 278, locals := 12 } [.ref (h)] [((h), .inr (0, [.null, .int (nI (0))]))] (fun r w => ∃ (b : Nat) (rw : Nat → Int64), r = none ∧ fRow (0 + 1) rw ∧ w = [((h), .inr (0, [.ref (b), .int (nI (0 + 1))])), kL E (b) (278) (rw)]) := by
  refine Con.ofN rfl (by decide) (Nat.le_of_ble_eq_true rfl) ?_
  intro J C hinit hret
  show J 0 [(0, .ref (h))] [] [((h), .inr (0, [.null, .int (nI (0))]))] 0 0
  refine J_aload_n C 0 dF_init_0 rfl rfl ?_
  refine J_objInit C lkF_5 k_objI k_objC dF_init_1 (by decide) (Nat.le_of_ble_eq_true rfl) ?_
  refine J_aload_n C 0 dF_init_4 rfl rfl ?_
  refine J_sipush C (v := nI (278)) dF_init_5 (by decide) ?_
  refine J_newaL C ar_long (by omega) (by decide) (by decide) dF_init_8 (fun b1 => ?_)
  refine hinit (ws' := [((h), .inr (0, [.ref (b1), .int (nI (0))])), kL E (b1) (278) (fun _ => 0)]) _ _ _ _ _ _ _ _ _ _ _ _ 0 _ 0 tyF _ hinF tyokF nmF rfl rfl (by decide) fkF_11 rfl rfl rfl rfl (Nat.le_of_ble_eq_true rfl) dF_init_10 rfl ?_
  refine J_aload_n C 0 dF_init_13 rfl rfl ?_
  refine J_get C 0 0 hinF rfl rfl (by decide) fkF_11 rfl dF_init_14 ?_
  refine J_iconst C (v := nI (1)) dF_init_17 (by decide) ?_
  refine J_ldc2 C (v := lN (281474976710656)) kkF_15 dF_init_18 ?_
  refine J_last C (ws' := [((h), .inr (0, [.ref (b1), .int (nI (0))])), kL E (b1) (278) (vp_updL (fun _ => 0) 1 (lN (281474976710656)))]) 1 rfl (by omega) (by omega) dF_init_21 rfl ?_
  refine J_aload_n C 0 dF_init_22 rfl rfl ?_
  refine J_iconst C (v := nI (1)) dF_init_23 (by decide) ?_
  refine J_put C (ws' := [((h), .inr (0, [.ref (b1), .int (nI (1))])), kL E (b1) (278) (vp_updL (fun _ => 0) 1 (lN (281474976710656)))]) 0 1 tyF hinF tyokF nmF rfl rfl (by decide) fkF_17 rfl rfl rfl (Nat.le_of_ble_eq_true rfl) dF_init_24 rfl ?_
  exact hret _ _ _ _ _ dF_init_27 (by decide) (by decide) (⟨b1, _, rfl, fr_init, rfl⟩)
end
section
set_option maxHeartbeats 4000000 in
set_option maxRecDepth 100000 in
theorem c_M_findCosts (E : jE) (l : Launch) (h : Nat) (n : Nat) (st : Nat) (mn : Nat) (m1 : Nat) (m2 : Nat) (m3 : Nat) (m4 : Nat) (m5 : Nat) (m6 : Nat) (m7 : Nat) (m8 : Nat) (m9 : Nat) (ma : Nat) (mb : Nat) (kn : Nat → Nat) (d : Nat → Nat) (fo : Nat → Nat) (hn1 : 1 ≤ n) (hn4 : n ≤ 4) (hk1 : ∀ j, kn j ≤ 1) (hC : mC kn d fo) : Con E l yM_findCosts bM_findCosts 6 none { frames := 2, cells := 0, slots := 0, locals := 47 } [.ref (h)] [((h), .inr (5, [.int (nI (0)), .int (nI (n)), .ref (m1), .int (nI (st)), .ref (m2), .ref (m3), .ref (m4), .int (nI (mn)), .ref (m5), .ref (m6), .ref (m7), .ref (m8), .ref (m9), .ref (ma), .ref (mb)])), kB E (m5) (5) (kn), kM E (m6) (65812) (d), kI E (m7) (120) (fo)] (fun r w => ∃ kn' d' fo' : Nat → Nat, r = none ∧ (∀ j, kn' j ≤ 1) ∧ mC kn' d' fo' ∧ kn' n ≠ 0 ∧ w = [((h), .inr (5, [.int (nI (0)), .int (nI (n)), .ref (m1), .int (nI (st)), .ref (m2), .ref (m3), .ref (m4), .int (nI (mn)), .ref (m5), .ref (m6), .ref (m7), .ref (m8), .ref (m9), .ref (ma), .ref (mb)])), kB E (m5) (5) (kn'), kM E (m6) (65812) (d'), kI E (m7) (120) (fo')]) := by
  refine Con.ofV (by decide) (Nat.le_of_ble_eq_true rfl) ?_
  intro J C hret
  show J 0 [(0, .ref (h))] [] [((h), .inr (5, [.int (nI (0)), .int (nI (n)), .ref (m1), .int (nI (st)), .ref (m2), .ref (m3), .ref (m4), .int (nI (mn)), .ref (m5), .ref (m6), .ref (m7), .ref (m8), .ref (m9), .ref (ma), .ref (mb)])), kB E (m5) (5) (kn), kM E (m6) (65812) (d), kI E (m7) (120) (fo)] 0 0
  have hp16 := p16 hn4
  have hp1 := p1 n
  have hF := p65 hn4
  have hF0 := p1 (2 ^ n)
  have h81 := p81 hn4
  have hc := coff_fit hn1 hn4
  have hq := poff_fit hn1 hn4
  have h30 := p3_pos n
  refine J_aload_n C 0 dM_findCosts_0 rfl rfl ?_
  refine J_get C 0 8 hinM rfl rfl (by decide) fkM_22 rfl dM_findCosts_1 ?_
  refine J_aload_n C 0 dM_findCosts_4 rfl rfl ?_
  refine J_get C 0 1 hinM rfl rfl (by decide) fkM_56 rfl dM_findCosts_5 ?_
  refine J_zald C 1 rfl (by omega) (by omega) dM_findCosts_8 ?_
  refine J_if_eq C 13 (nI_toInt (n := kn n) (by have := hk1 n; omega)) dM_findCosts_9 (by decide) (fun h9 => ?_) (fun h9 => ?_)
  · refine J_aload_n C 0 dM_findCosts_13 rfl rfl ?_
    refine J_get C 0 8 hinM rfl rfl (by decide) fkM_22 rfl dM_findCosts_14 ?_
    refine J_aload_n C 0 dM_findCosts_17 rfl rfl ?_
    refine J_get C 0 1 hinM rfl rfl (by decide) fkM_56 rfl dM_findCosts_18 ?_
    refine J_iconst C (v := nI (1)) dM_findCosts_21 (by decide) ?_
    refine J_zastN C (ws' := [((h), .inr (5, [.int (nI (0)), .int (nI (n)), .ref (m1), .int (nI (st)), .ref (m2), .ref (m3), .ref (m4), .int (nI (mn)), .ref (m5), .ref (m6), .ref (m7), .ref (m8), .ref (m9), .ref (ma), .ref (mb)])), kB E (m5) (5) (upN kn n 1), kM E (m6) (65812) (d), kI E (m7) (120) (fo)]) 1 rfl (by omega) (by omega) dM_findCosts_22 (by decide) rfl ?_
    refine J_iconst C (v := nI (0)) dM_findCosts_23 (by decide) ?_
    refine J_istore_n C (lv' := [(0, .ref (h)), (1, .int (nI (0)))]) [1, 0] dM_findCosts_24 rfl (by decide) rfl ?_
    have lp_25 : ∀ (k_25 : Nat) (p : Nat) (fo1 : Nat → Nat), (p ≤ 3 ^ n) → (mF n p fo1 fo) → (3 ^ n - p) < k_25 → J 25 [(0, .ref (h)), (1, .int (nI (p)))] [] [((h), .inr (5, [.int (nI (0)), .int (nI (n)), .ref (m1), .int (nI (st)), .ref (m2), .ref (m3), .ref (m4), .int (nI (mn)), .ref (m5), .ref (m6), .ref (m7), .ref (m8), .ref (m9), .ref (ma), .ref (mb)])), kB E (m5) (5) (upN kn n 1), kM E (m6) (65812) (d), kI E (m7) (120) (fo1)] (0) (0) := by
      intro k_25
      induction k_25 with
      | zero => intro p fo1 hp hf1 hk_25; exact absurd hk_25 (Nat.not_lt_zero _)
      | succ k_25 ih_25 =>
        intro p fo1 hp hf1 hk_25
        refine J_iload_n C 1 dM_findCosts_25 rfl rfl ?_
        refine J_aload_n C 0 dM_findCosts_26 rfl rfl ?_
        refine J_callV C (rest := [.int (nI (p))]) [] [((h), .inr (5, [.int (nI (0)), .int (nI (n)), .ref (m1), .int (nI (st)), .ref (m2), .ref (m3), .ref (m4), .int (nI (mn)), .ref (m5), .ref (m6), .ref (m7), .ref (m8), .ref (m9), .ref (ma), .ref (mb)]))] [kB E (m5) (5) (upN kn n 1), kM E (m6) (65812) (d), kI E (m7) (120) (fo1)] 0 (c_M_products E l h n st mn m1 m2 m3 m4 m5 m6 m7 m8 m9 ma mb (by omega) (by omega)) mmM_products msM_products lkM_85 rfl rfl (rfl) rfl rfl ⟨by decide, by decide⟩ ⟨by decide, by decide⟩ (Nat.le_of_ble_eq_true rfl) dM_findCosts_27 (fun r_c w_c hp => ?_)
        obtain ⟨rfl, rfl⟩ := hp
        refine J_norm C (st' := [.int (nI (3 ^ n)), .int (nI (p))]) (ws' := [((h), .inr (5, [.int (nI (0)), .int (nI (n)), .ref (m1), .int (nI (st)), .ref (m2), .ref (m3), .ref (m4), .int (nI (mn)), .ref (m5), .ref (m6), .ref (m7), .ref (m8), .ref (m9), .ref (ma), .ref (mb)])), kB E (m5) (5) (upN kn n 1), kM E (m6) (65812) (d), kI E (m7) (120) (fo1)]) (cs' := 0) (ss' := 0) rfl (rfl) rfl rfl ?_
        refine J_icmp_ge C 54 (nI_toInt (n := p) (by omega)) (nI_toInt (n := 3 ^ n) (by omega)) dM_findCosts_30 (by decide) (fun h30 => ?_) (fun h30 => ?_)
        · obtain rfl : 3 ^ n = p := by omega
          refine J_iconst C (v := nI (0)) dM_findCosts_54 (by decide) ?_
          refine J_istore_n C (lv' := [(0, .ref (h)), (1, .int (nI (0)))]) [1, 0] dM_findCosts_55 rfl (by decide) rfl ?_
          have lp_56 : ∀ (k_56 : Nat) (f : Nat) (d1 : Nat → Nat), (f ≤ 2 ^ 2 ^ n) → (mZ n f d1 d) → (2 ^ 2 ^ n - f) < k_56 → J 56 [(0, .ref (h)), (1, .int (nI (f)))] [] [((h), .inr (5, [.int (nI (0)), .int (nI (n)), .ref (m1), .int (nI (st)), .ref (m2), .ref (m3), .ref (m4), .int (nI (mn)), .ref (m5), .ref (m6), .ref (m7), .ref (m8), .ref (m9), .ref (ma), .ref (mb)])), kB E (m5) (5) (upN kn n 1), kM E (m6) (65812) (d1), kI E (m7) (120) (fo1)] (0) (0) := by
            intro k_56
            induction k_56 with
            | zero => intro f d1 hf hd1 hk_56; exact absurd hk_56 (Nat.not_lt_zero _)
            | succ k_56 ih_56 =>
              intro f d1 hf hd1 hk_56
              refine J_iload_n C 1 dM_findCosts_56 rfl rfl ?_
              refine J_aload_n C 0 dM_findCosts_57 rfl rfl ?_
              refine J_callV C (rest := [.int (nI (f))]) [] [((h), .inr (5, [.int (nI (0)), .int (nI (n)), .ref (m1), .int (nI (st)), .ref (m2), .ref (m3), .ref (m4), .int (nI (mn)), .ref (m5), .ref (m6), .ref (m7), .ref (m8), .ref (m9), .ref (ma), .ref (mb)]))] [kB E (m5) (5) (upN kn n 1), kM E (m6) (65812) (d1), kI E (m7) (120) (fo1)] 0 (c_M_functions E l h n st mn m1 m2 m3 m4 m5 m6 m7 m8 m9 ma mb (by omega) (by omega)) mmM_functions msM_functions lkM_95 rfl rfl (rfl) rfl rfl ⟨by decide, by decide⟩ ⟨by decide, by decide⟩ (Nat.le_of_ble_eq_true rfl) dM_findCosts_58 (fun r_c w_c hp => ?_)
              obtain ⟨rfl, rfl⟩ := hp
              refine J_norm C (st' := [.int (nI (2 ^ 2 ^ n)), .int (nI (f))]) (ws' := [((h), .inr (5, [.int (nI (0)), .int (nI (n)), .ref (m1), .int (nI (st)), .ref (m2), .ref (m3), .ref (m4), .int (nI (mn)), .ref (m5), .ref (m6), .ref (m7), .ref (m8), .ref (m9), .ref (ma), .ref (mb)])), kB E (m5) (5) (upN kn n 1), kM E (m6) (65812) (d1), kI E (m7) (120) (fo1)]) (cs' := 0) (ss' := 0) rfl (rfl) rfl rfl ?_
              refine J_icmp_ge C 81 (nI_toInt (n := f) (by omega)) (nI_toInt (n := 2 ^ 2 ^ n) (by omega)) dM_findCosts_61 (by decide) (fun h61 => ?_) (fun h61 => ?_)
              · obtain rfl : 2 ^ 2 ^ n = f := by omega
                refine J_aload_n C 0 dM_findCosts_81 rfl rfl ?_
                refine J_get C 0 9 hinM rfl rfl (by decide) fkM_27 rfl dM_findCosts_82 ?_
                refine J_aload_n C 0 dM_findCosts_85 rfl rfl ?_
                refine J_iconst C (v := nI (0)) dM_findCosts_86 (by decide) ?_
                refine J_callV C (rest := [.ref (m6)]) [] [((h), .inr (5, [.int (nI (0)), .int (nI (n)), .ref (m1), .int (nI (st)), .ref (m2), .ref (m3), .ref (m4), .int (nI (mn)), .ref (m5), .ref (m6), .ref (m7), .ref (m8), .ref (m9), .ref (ma), .ref (mb)]))] [kB E (m5) (5) (upN kn n 1), kM E (m6) (65812) (d1), kI E (m7) (120) (fo1)] 0 (c_M_costAt E l h n st mn m1 m2 m3 m4 m5 m6 m7 m8 m9 ma mb 0 (by omega) (by omega)) mmM_costAt msM_costAt lkM_98 rfl rfl (rfl) rfl rfl ⟨by decide, by decide⟩ ⟨by decide, by decide⟩ (Nat.le_of_ble_eq_true rfl) dM_findCosts_87 (fun r_c w_c hp => ?_)
                obtain ⟨rfl, rfl⟩ := hp
                refine J_norm C (st' := [.int (nI (0 + coff n)), .ref (m6)]) (ws' := [((h), .inr (5, [.int (nI (0)), .int (nI (n)), .ref (m1), .int (nI (st)), .ref (m2), .ref (m3), .ref (m4), .int (nI (mn)), .ref (m5), .ref (m6), .ref (m7), .ref (m8), .ref (m9), .ref (ma), .ref (mb)])), kB E (m5) (5) (upN kn n 1), kM E (m6) (65812) (d1), kI E (m7) (120) (fo1)]) (cs' := 0) (ss' := 0) rfl (rfl) rfl rfl ?_
                refine J_iconst C (v := nI (0)) dM_findCosts_90 (by decide) ?_
                refine J_iastM C (ws' := [((h), .inr (5, [.int (nI (0)), .int (nI (n)), .ref (m1), .int (nI (st)), .ref (m2), .ref (m3), .ref (m4), .int (nI (mn)), .ref (m5), .ref (m6), .ref (m7), .ref (m8), .ref (m9), .ref (ma), .ref (mb)])), kB E (m5) (5) (upN kn n 1), kM E (m6) (65812) (upN d1 (0 + coff n) (0 + 1)), kI E (m7) (120) (fo1)]) 2 rfl (by omega) (by omega) ((mI_s 0).symm) dM_findCosts_91 rfl ?_
                refine J_iconst C (v := nI (1)) dM_findCosts_92 (by decide) ?_
                refine J_istore_n C (lv' := [(0, .ref (h)), (1, .int (nI (1)))]) [1, 0] dM_findCosts_93 rfl (by decide) rfl ?_
                refine J_iconst C (v := nI (0)) dM_findCosts_94 (by decide) ?_
                refine J_istore_n C (lv' := [(0, .ref (h)), (1, .int (nI (1))), (2, .int (nI (0)))]) [1, 2, 0] dM_findCosts_95 rfl (by decide) rfl ?_
                have lp_96 : ∀ (k_96 : Nat) (mo rr : Nat) (d3 : Nat → Nat), (cH n rr mo d3 d) → (8 - rr) < k_96 → J 96 [(0, .ref (h)), (1, .int (nI (mo))), (2, .int (nI (rr)))] [] [((h), .inr (5, [.int (nI (0)), .int (nI (n)), .ref (m1), .int (nI (st)), .ref (m2), .ref (m3), .ref (m4), .int (nI (mn)), .ref (m5), .ref (m6), .ref (m7), .ref (m8), .ref (m9), .ref (ma), .ref (mb)])), kB E (m5) (5) (upN kn n 1), kM E (m6) (65812) (d3), kI E (m7) (120) (fo1)] (0) (0) := by
                  intro k_96
                  induction k_96 with
                  | zero => intro mo rr d3 h3 hk_96; exact absurd hk_96 (Nat.not_lt_zero _)
                  | succ k_96 ih_96 =>
                    intro mo rr d3 h3 hk_96
                    refine J_iload_n C 1 dM_findCosts_96 rfl rfl ?_
                    refine J_if_eq C 204 (nI_toInt (n := mo) (by have := h3.1; omega)) dM_findCosts_97 (by decide) (fun h97 => ?_) (fun h97 => ?_)
                    · obtain rfl : 0 = mo := by omega
                      exact hret _ _ _ _ _ dM_findCosts_204 (by decide) (by decide) (⟨_, d3, fo1, rfl, fun j => by unfold upN; split; omega; exact hk1 j, mC_new hn1 hn4 hC (Or.inr ⟨rr, h3⟩) hf1, by rw [upN_s]; omega, rfl⟩)
                    · obtain ⟨hr6, hcb⟩ := h3.2.2.1 (by omega)
                      refine J_iconst C (v := nI (0)) dM_findCosts_100 (by decide) ?_
                      refine J_istore_n C (lv' := [(0, .ref (h)), (1, .int (nI (0))), (2, .int (nI (rr)))]) [1, 0, 2] dM_findCosts_101 rfl (by decide) rfl ?_
                      refine J_iconst C (v := nI (0)) dM_findCosts_102 (by decide) ?_
                      refine J_istore_n C (lv' := [(0, .ref (h)), (1, .int (nI (0))), (2, .int (nI (rr))), (3, .int (nI (0)))]) [1, 2, 3, 0] dM_findCosts_103 rfl (by decide) rfl ?_
                      have lp_104 : ∀ (k_104 : Nat) (f mo2 : Nat) (d4 : Nat → Nat), (f ≤ 2 ^ 2 ^ n) → (mo2 ≤ 1) → (cR n rr f 0 mo2 d4 d) → (2 ^ 2 ^ n - f) < k_104 → J 104 [(0, .ref (h)), (1, .int (nI (mo2))), (2, .int (nI (rr))), (3, .int (nI (f)))] [] [((h), .inr (5, [.int (nI (0)), .int (nI (n)), .ref (m1), .int (nI (st)), .ref (m2), .ref (m3), .ref (m4), .int (nI (mn)), .ref (m5), .ref (m6), .ref (m7), .ref (m8), .ref (m9), .ref (ma), .ref (mb)])), kB E (m5) (5) (upN kn n 1), kM E (m6) (65812) (d4), kI E (m7) (120) (fo1)] (0) (0) := by
                        intro k_104
                        induction k_104 with
                        | zero => intro f mo2 d4 hf hmo2 h4 hk_104; exact absurd hk_104 (Nat.not_lt_zero _)
                        | succ k_104 ih_104 =>
                          intro f mo2 d4 hf hmo2 h4 hk_104
                          refine J_iload_n C 3 dM_findCosts_104 rfl rfl ?_
                          refine J_aload_n C 0 dM_findCosts_105 rfl rfl ?_
                          refine J_callV C (rest := [.int (nI (f))]) [] [((h), .inr (5, [.int (nI (0)), .int (nI (n)), .ref (m1), .int (nI (st)), .ref (m2), .ref (m3), .ref (m4), .int (nI (mn)), .ref (m5), .ref (m6), .ref (m7), .ref (m8), .ref (m9), .ref (ma), .ref (mb)]))] [kB E (m5) (5) (upN kn n 1), kM E (m6) (65812) (d4), kI E (m7) (120) (fo1)] 0 (c_M_functions E l h n st mn m1 m2 m3 m4 m5 m6 m7 m8 m9 ma mb (by omega) (by omega)) mmM_functions msM_functions lkM_95 rfl rfl (rfl) rfl rfl ⟨by decide, by decide⟩ ⟨by decide, by decide⟩ (Nat.le_of_ble_eq_true rfl) dM_findCosts_106 (fun r_c w_c hp => ?_)
                          obtain ⟨rfl, rfl⟩ := hp
                          refine J_norm C (st' := [.int (nI (2 ^ 2 ^ n)), .int (nI (f))]) (ws' := [((h), .inr (5, [.int (nI (0)), .int (nI (n)), .ref (m1), .int (nI (st)), .ref (m2), .ref (m3), .ref (m4), .int (nI (mn)), .ref (m5), .ref (m6), .ref (m7), .ref (m8), .ref (m9), .ref (ma), .ref (mb)])), kB E (m5) (5) (upN kn n 1), kM E (m6) (65812) (d4), kI E (m7) (120) (fo1)]) (cs' := 0) (ss' := 0) rfl (rfl) rfl rfl ?_
                          refine J_icmp_ge C 198 (nI_toInt (n := f) (by omega)) (nI_toInt (n := 2 ^ 2 ^ n) (by omega)) dM_findCosts_109 (by decide) (fun h109 => ?_) (fun h109 => ?_)
                          · obtain rfl : 2 ^ 2 ^ n = f := by omega
                            refine J_iinc C (lv' := [(0, .ref (h)), (1, .int (nI (mo2))), (2, .int (nI (rr + 1))), (3, .int (nI ((2 ^ 2 ^ n))))]) 2 [1, 2, 0, 3] dM_findCosts_198 rfl (jn_inc _) (by decide) rfl ?_
                            refine J_goto C 96 dM_findCosts_201 (by decide) ?_
                            refine J_lv C (lv' := [(0, .ref (h)), (1, .int (nI (mo2))), (2, .int (nI (rr + 1)))]) [0, 1, 2] rfl ?_
                            exact ih_96 mo2 (rr + 1) d4 (cH_next hn4 hmo2 hr6 h4) (by have := h3.2.1; omega)
                          · refine J_aload_n C 0 dM_findCosts_112 rfl rfl ?_
                            refine J_get C 0 9 hinM rfl rfl (by decide) fkM_27 rfl dM_findCosts_113 ?_
                            refine J_aload_n C 0 dM_findCosts_116 rfl rfl ?_
                            refine J_iload_n C 3 dM_findCosts_117 rfl rfl ?_
                            refine J_callV C (rest := [.ref (m6)]) [] [((h), .inr (5, [.int (nI (0)), .int (nI (n)), .ref (m1), .int (nI (st)), .ref (m2), .ref (m3), .ref (m4), .int (nI (mn)), .ref (m5), .ref (m6), .ref (m7), .ref (m8), .ref (m9), .ref (ma), .ref (mb)]))] [kB E (m5) (5) (upN kn n 1), kM E (m6) (65812) (d4), kI E (m7) (120) (fo1)] 0 (c_M_costAt E l h n st mn m1 m2 m3 m4 m5 m6 m7 m8 m9 ma mb f (by omega) (by omega)) mmM_costAt msM_costAt lkM_98 rfl rfl (rfl) rfl rfl ⟨by decide, by decide⟩ ⟨by decide, by decide⟩ (Nat.le_of_ble_eq_true rfl) dM_findCosts_118 (fun r_c w_c hp => ?_)
                            obtain ⟨rfl, rfl⟩ := hp
                            refine J_norm C (st' := [.int (nI (f + coff n)), .ref (m6)]) (ws' := [((h), .inr (5, [.int (nI (0)), .int (nI (n)), .ref (m1), .int (nI (st)), .ref (m2), .ref (m3), .ref (m4), .int (nI (mn)), .ref (m5), .ref (m6), .ref (m7), .ref (m8), .ref (m9), .ref (ma), .ref (mb)])), kB E (m5) (5) (upN kn n 1), kM E (m6) (65812) (d4), kI E (m7) (120) (fo1)]) (cs' := 0) (ss' := 0) rfl (rfl) rfl rfl ?_
                            refine J_iald C 2 rfl (by omega) (by omega) dM_findCosts_121 ?_
                            refine J_iload_n C 2 dM_findCosts_122 rfl rfl ?_
                            refine J_icmp_eq C 129 (mI_toInt (d := d4 (f + coff n)) (by have := cR_le h4 (show f < 2 ^ 2 ^ n by omega); omega)) (nI_toInt (n := rr) (by omega)) dM_findCosts_123 (by decide) (fun h123 => ?_) (fun h123 => ?_)
                            · have hpr := (cR_at h4 (show f < 2 ^ 2 ^ n by omega)).mp (by omega)
                              refine J_iconst C (v := nI (0)) dM_findCosts_129 (by decide) ?_
                              refine J_istore C (lv' := [(0, .ref (h)), (1, .int (nI (mo2))), (2, .int (nI (rr))), (3, .int (nI (f))), (4, .int (nI (0)))]) [1, 2, 3, 4, 0] dM_findCosts_130 (by decide) rfl ?_
                              have lp_132 : ∀ (k_132 : Nat) (p mo3 : Nat) (d5 : Nat → Nat), (p ≤ 3 ^ n) → (mo3 ≤ 1) → (cR n rr f p mo3 d5 d) → (3 ^ n - p) < k_132 → J 132 [(0, .ref (h)), (1, .int (nI (mo3))), (2, .int (nI (rr))), (3, .int (nI (f))), (4, .int (nI (p)))] [] [((h), .inr (5, [.int (nI (0)), .int (nI (n)), .ref (m1), .int (nI (st)), .ref (m2), .ref (m3), .ref (m4), .int (nI (mn)), .ref (m5), .ref (m6), .ref (m7), .ref (m8), .ref (m9), .ref (ma), .ref (mb)])), kB E (m5) (5) (upN kn n 1), kM E (m6) (65812) (d5), kI E (m7) (120) (fo1)] (0) (0) := by
                                intro k_132
                                induction k_132 with
                                | zero => intro p mo3 d5 hp hmo3 h5 hk_132; exact absurd hk_132 (Nat.not_lt_zero _)
                                | succ k_132 ih_132 =>
                                  intro p mo3 d5 hp hmo3 h5 hk_132
                                  refine J_iload C 4 dM_findCosts_132 rfl ?_
                                  refine J_aload_n C 0 dM_findCosts_134 rfl rfl ?_
                                  refine J_callV C (rest := [.int (nI (p))]) [] [((h), .inr (5, [.int (nI (0)), .int (nI (n)), .ref (m1), .int (nI (st)), .ref (m2), .ref (m3), .ref (m4), .int (nI (mn)), .ref (m5), .ref (m6), .ref (m7), .ref (m8), .ref (m9), .ref (ma), .ref (mb)]))] [kB E (m5) (5) (upN kn n 1), kM E (m6) (65812) (d5), kI E (m7) (120) (fo1)] 0 (c_M_products E l h n st mn m1 m2 m3 m4 m5 m6 m7 m8 m9 ma mb (by omega) (by omega)) mmM_products msM_products lkM_85 rfl rfl (rfl) rfl rfl ⟨by decide, by decide⟩ ⟨by decide, by decide⟩ (Nat.le_of_ble_eq_true rfl) dM_findCosts_135 (fun r_c w_c hp => ?_)
                                  obtain ⟨rfl, rfl⟩ := hp
                                  refine J_norm C (st' := [.int (nI (3 ^ n)), .int (nI (p))]) (ws' := [((h), .inr (5, [.int (nI (0)), .int (nI (n)), .ref (m1), .int (nI (st)), .ref (m2), .ref (m3), .ref (m4), .int (nI (mn)), .ref (m5), .ref (m6), .ref (m7), .ref (m8), .ref (m9), .ref (ma), .ref (mb)])), kB E (m5) (5) (upN kn n 1), kM E (m6) (65812) (d5), kI E (m7) (120) (fo1)]) (cs' := 0) (ss' := 0) rfl (rfl) rfl rfl ?_
                                  refine J_icmp_ge C 192 (nI_toInt (n := p) (by omega)) (nI_toInt (n := 3 ^ n) (by omega)) dM_findCosts_138 (by decide) (fun h138 => ?_) (fun h138 => ?_)
                                  · obtain rfl : 3 ^ n = p := by omega
                                    refine J_iinc C (lv' := [(0, .ref (h)), (1, .int (nI (mo3))), (2, .int (nI (rr))), (3, .int (nI (f + 1))), (4, .int (nI ((3 ^ n))))]) 3 [1, 2, 3, 0, 4] dM_findCosts_192 rfl (jn_inc _) (by decide) rfl ?_
                                    refine J_goto C 104 dM_findCosts_195 (by decide) ?_
                                    refine J_lv C (lv' := [(0, .ref (h)), (1, .int (nI (mo3))), (2, .int (nI (rr))), (3, .int (nI (f + 1)))]) [0, 1, 2, 3] rfl ?_
                                    exact ih_104 (f + 1) mo3 d5 (by omega) (hmo3) (cR_nextF h5) (by omega)
                                  · have xg := Nat.xor_lt_two_pow (show f < 2 ^ 2 ^ n by omega) (pfn_lt n p)
                                    refine J_aload_n C 0 dM_findCosts_141 rfl rfl ?_
                                    refine J_iload_n C 3 dM_findCosts_142 rfl rfl ?_
                                    refine J_aload_n C 0 dM_findCosts_143 rfl rfl ?_
                                    refine J_get C 0 10 hinM rfl rfl (by decide) fkM_30 rfl dM_findCosts_144 ?_
                                    refine J_aload_n C 0 dM_findCosts_147 rfl rfl ?_
                                    refine J_iload C 4 dM_findCosts_148 rfl ?_
                                    refine J_callV C (rest := [.ref (m7), .int (nI (f)), .ref (h)]) [] [((h), .inr (5, [.int (nI (0)), .int (nI (n)), .ref (m1), .int (nI (st)), .ref (m2), .ref (m3), .ref (m4), .int (nI (mn)), .ref (m5), .ref (m6), .ref (m7), .ref (m8), .ref (m9), .ref (ma), .ref (mb)]))] [kB E (m5) (5) (upN kn n 1), kM E (m6) (65812) (d5), kI E (m7) (120) (fo1)] 0 (c_M_productAt E l h n st mn m1 m2 m3 m4 m5 m6 m7 m8 m9 ma mb p (by omega) (by omega)) mmM_productAt msM_productAt lkM_88 rfl rfl (rfl) rfl rfl ⟨by decide, by decide⟩ ⟨by decide, by decide⟩ (Nat.le_of_ble_eq_true rfl) dM_findCosts_150 (fun r_c w_c hp => ?_)
                                    obtain ⟨rfl, rfl⟩ := hp
                                    refine J_norm C (st' := [.int (nI (p + poff n)), .ref (m7), .int (nI (f)), .ref (h)]) (ws' := [((h), .inr (5, [.int (nI (0)), .int (nI (n)), .ref (m1), .int (nI (st)), .ref (m2), .ref (m3), .ref (m4), .int (nI (mn)), .ref (m5), .ref (m6), .ref (m7), .ref (m8), .ref (m9), .ref (ma), .ref (mb)])), kB E (m5) (5) (upN kn n 1), kM E (m6) (65812) (d5), kI E (m7) (120) (fo1)]) (cs' := 0) (ss' := 0) rfl (rfl) rfl rfl ?_
                                    refine J_iald C 3 rfl (by omega) (by omega) dM_findCosts_153 ?_
                                    refine J_topN C (n' := pfn n p) (hf1.2 p (by omega)) ?_
                                    refine J_ixorN C dM_findCosts_154 ?_
                                    refine J_callV C (rest := []) [] [((h), .inr (5, [.int (nI (0)), .int (nI (n)), .ref (m1), .int (nI (st)), .ref (m2), .ref (m3), .ref (m4), .int (nI (mn)), .ref (m5), .ref (m6), .ref (m7), .ref (m8), .ref (m9), .ref (ma), .ref (mb)]))] [kB E (m5) (5) (upN kn n 1), kM E (m6) (65812) (d5), kI E (m7) (120) (fo1)] 0 (c_M_costAt E l h n st mn m1 m2 m3 m4 m5 m6 m7 m8 m9 ma mb (f ^^^ (pfn n p)) (by omega) (by omega)) mmM_costAt msM_costAt lkM_98 rfl rfl (rfl) rfl rfl ⟨by decide, by decide⟩ ⟨by decide, by decide⟩ (Nat.le_of_ble_eq_true rfl) dM_findCosts_155 (fun r_c w_c hp => ?_)
                                    obtain ⟨rfl, rfl⟩ := hp
                                    refine J_norm C (st' := [.int (nI ((f ^^^ (pfn n p)) + coff n))]) (ws' := [((h), .inr (5, [.int (nI (0)), .int (nI (n)), .ref (m1), .int (nI (st)), .ref (m2), .ref (m3), .ref (m4), .int (nI (mn)), .ref (m5), .ref (m6), .ref (m7), .ref (m8), .ref (m9), .ref (ma), .ref (mb)])), kB E (m5) (5) (upN kn n 1), kM E (m6) (65812) (d5), kI E (m7) (120) (fo1)]) (cs' := 0) (ss' := 0) rfl (rfl) rfl rfl ?_
                                    refine J_istore C (lv' := [(0, .ref (h)), (1, .int (nI (mo3))), (2, .int (nI (rr))), (3, .int (nI (f))), (4, .int (nI (p))), (5, .int (nI ((f ^^^ (pfn n p)) + coff n)))]) [1, 2, 3, 4, 5, 0] dM_findCosts_158 (by decide) rfl ?_
                                    refine J_aload_n C 0 dM_findCosts_160 rfl rfl ?_
                                    refine J_get C 0 9 hinM rfl rfl (by decide) fkM_27 rfl dM_findCosts_161 ?_
                                    refine J_iload C 5 dM_findCosts_164 rfl ?_
                                    refine J_iald C 2 rfl (by omega) (by omega) dM_findCosts_166 ?_
                                    refine J_iconst C (v := -1) dM_findCosts_167 (by decide) ?_
                                    refine J_icmp_eq C 174 (mI_toInt (d := d5 ((f ^^^ (pfn n p)) + coff n)) (by have := cR_le h5 xg; omega)) j_m1 dM_findCosts_168 (by decide) (fun h168 => ?_) (fun h168 => ?_)
                                    · refine J_aload_n C 0 dM_findCosts_174 rfl rfl ?_
                                      refine J_get C 0 9 hinM rfl rfl (by decide) fkM_27 rfl dM_findCosts_175 ?_
                                      refine J_iload C 5 dM_findCosts_178 rfl ?_
                                      refine J_iload_n C 2 dM_findCosts_180 rfl rfl ?_
                                      refine J_iconst C (v := nI (1)) dM_findCosts_181 (by decide) ?_
                                      refine J_iaddN C dM_findCosts_182 ?_
                                      refine J_iastM C (ws' := [((h), .inr (5, [.int (nI (0)), .int (nI (n)), .ref (m1), .int (nI (st)), .ref (m2), .ref (m3), .ref (m4), .int (nI (mn)), .ref (m5), .ref (m6), .ref (m7), .ref (m8), .ref (m9), .ref (ma), .ref (mb)])), kB E (m5) (5) (upN kn n 1), kM E (m6) (65812) (upN d5 ((f ^^^ (pfn n p)) + coff n) ((rr + 1) + 1)), kI E (m7) (120) (fo1)]) 2 rfl (by omega) (by omega) ((mI_s (rr + 1)).symm) dM_findCosts_183 rfl ?_
                                      refine J_iconst C (v := nI (1)) dM_findCosts_184 (by decide) ?_
                                      refine J_istore_n C (lv' := [(0, .ref (h)), (1, .int (nI (1))), (2, .int (nI (rr))), (3, .int (nI (f))), (4, .int (nI (p))), (5, .int (nI ((f ^^^ (pfn n p)) + coff n)))]) [1, 0, 2, 3, 4, 5] dM_findCosts_185 rfl (by decide) rfl ?_
                                      refine J_iinc C (lv' := [(0, .ref (h)), (1, .int (nI (1))), (2, .int (nI (rr))), (3, .int (nI (f))), (4, .int (nI (p + 1))), (5, .int (nI ((f ^^^ (pfn n p)) + coff n)))]) 4 [1, 2, 3, 4, 0, 5] dM_findCosts_186 rfl (jn_inc _) (by decide) rfl ?_
                                      refine J_goto C 132 dM_findCosts_189 (by decide) ?_
                                      refine J_lv C (lv' := [(0, .ref (h)), (1, .int (nI (1))), (2, .int (nI (rr))), (3, .int (nI (f))), (4, .int (nI (p + 1)))]) [0, 1, 2, 3, 4] rfl ?_
                                      exact ih_132 (p + 1) 1 (upN d5 ((f ^^^ (pfn n p)) + coff n) ((rr + 1) + 1)) (by omega) (by omega) (cR_new h5 (by omega) (by omega) hpr (by omega)) (by omega)
                                    · refine J_goto C 186 dM_findCosts_171 (by decide) ?_
                                      refine J_iinc C (lv' := [(0, .ref (h)), (1, .int (nI (mo3))), (2, .int (nI (rr))), (3, .int (nI (f))), (4, .int (nI (p + 1))), (5, .int (nI ((f ^^^ (pfn n p)) + coff n)))]) 4 [1, 2, 3, 4, 0, 5] dM_findCosts_186 rfl (jn_inc _) (by decide) rfl ?_
                                      refine J_goto C 132 dM_findCosts_189 (by decide) ?_
                                      refine J_lv C (lv' := [(0, .ref (h)), (1, .int (nI (mo3))), (2, .int (nI (rr))), (3, .int (nI (f))), (4, .int (nI (p + 1)))]) [0, 1, 2, 3, 4] rfl ?_
                                      exact ih_132 (p + 1) mo3 d5 (by omega) (hmo3) (cR_skipP h5 (by omega)) (by omega)
                              exact lp_132 (3 ^ n + 1) 0 mo2 d4 (by omega) (hmo2) (h4) (by omega)
                            · refine J_goto C 192 dM_findCosts_126 (by decide) ?_
                              refine J_iinc C (lv' := [(0, .ref (h)), (1, .int (nI (mo2))), (2, .int (nI (rr))), (3, .int (nI (f + 1)))]) 3 [1, 2, 3, 0] dM_findCosts_192 rfl (jn_inc _) (by decide) rfl ?_
                              refine J_goto C 104 dM_findCosts_195 (by decide) ?_
                              exact ih_104 (f + 1) mo2 d4 (by omega) (hmo2) (cR_skipF h4 (fun q => by have := (cR_at h4 (by omega)).mpr q; omega)) (by omega)
                      exact lp_104 (2 ^ 2 ^ n + 1) 0 0 d3 (by omega) (by omega) (cR_0 hcb) (by omega)
                exact lp_96 (9) 1 0 (upN d1 (0 + coff n) (0 + 1)) (⟨by omega, by omega, fun _ => ⟨by omega, cB_0 hd1⟩, fun q => by omega⟩) (by omega)
              · refine J_aload_n C 0 dM_findCosts_64 rfl rfl ?_
                refine J_get C 0 9 hinM rfl rfl (by decide) fkM_27 rfl dM_findCosts_65 ?_
                refine J_aload_n C 0 dM_findCosts_68 rfl rfl ?_
                refine J_iload_n C 1 dM_findCosts_69 rfl rfl ?_
                refine J_callV C (rest := [.ref (m6)]) [] [((h), .inr (5, [.int (nI (0)), .int (nI (n)), .ref (m1), .int (nI (st)), .ref (m2), .ref (m3), .ref (m4), .int (nI (mn)), .ref (m5), .ref (m6), .ref (m7), .ref (m8), .ref (m9), .ref (ma), .ref (mb)]))] [kB E (m5) (5) (upN kn n 1), kM E (m6) (65812) (d1), kI E (m7) (120) (fo1)] 0 (c_M_costAt E l h n st mn m1 m2 m3 m4 m5 m6 m7 m8 m9 ma mb f (by omega) (by omega)) mmM_costAt msM_costAt lkM_98 rfl rfl (rfl) rfl rfl ⟨by decide, by decide⟩ ⟨by decide, by decide⟩ (Nat.le_of_ble_eq_true rfl) dM_findCosts_70 (fun r_c w_c hp => ?_)
                obtain ⟨rfl, rfl⟩ := hp
                refine J_norm C (st' := [.int (nI (f + coff n)), .ref (m6)]) (ws' := [((h), .inr (5, [.int (nI (0)), .int (nI (n)), .ref (m1), .int (nI (st)), .ref (m2), .ref (m3), .ref (m4), .int (nI (mn)), .ref (m5), .ref (m6), .ref (m7), .ref (m8), .ref (m9), .ref (ma), .ref (mb)])), kB E (m5) (5) (upN kn n 1), kM E (m6) (65812) (d1), kI E (m7) (120) (fo1)]) (cs' := 0) (ss' := 0) rfl (rfl) rfl rfl ?_
                refine J_iconst C (v := -1) dM_findCosts_73 (by decide) ?_
                refine J_iastM C (ws' := [((h), .inr (5, [.int (nI (0)), .int (nI (n)), .ref (m1), .int (nI (st)), .ref (m2), .ref (m3), .ref (m4), .int (nI (mn)), .ref (m5), .ref (m6), .ref (m7), .ref (m8), .ref (m9), .ref (ma), .ref (mb)])), kB E (m5) (5) (upN kn n 1), kM E (m6) (65812) (upN d1 (f + coff n) 0), kI E (m7) (120) (fo1)]) 2 rfl (by omega) (by omega) (mI_0.symm) dM_findCosts_74 rfl ?_
                refine J_iinc C (lv' := [(0, .ref (h)), (1, .int (nI (f + 1)))]) 1 [1, 0] dM_findCosts_75 rfl (jn_inc _) (by decide) rfl ?_
                refine J_goto C 56 dM_findCosts_78 (by decide) ?_
                exact ih_56 (f + 1) (upN d1 (f + coff n) 0) (by omega) (mZ_s hd1 (by omega)) (by omega)
          exact lp_56 (2 ^ 2 ^ n + 1) 0 d (by omega) (⟨fun _ _ => rfl, fun p' q => by omega⟩) (by omega)
        · refine J_aload_n C 0 dM_findCosts_33 rfl rfl ?_
          refine J_get C 0 10 hinM rfl rfl (by decide) fkM_30 rfl dM_findCosts_34 ?_
          refine J_aload_n C 0 dM_findCosts_37 rfl rfl ?_
          refine J_iload_n C 1 dM_findCosts_38 rfl rfl ?_
          refine J_callV C (rest := [.ref (m7)]) [] [((h), .inr (5, [.int (nI (0)), .int (nI (n)), .ref (m1), .int (nI (st)), .ref (m2), .ref (m3), .ref (m4), .int (nI (mn)), .ref (m5), .ref (m6), .ref (m7), .ref (m8), .ref (m9), .ref (ma), .ref (mb)]))] [kB E (m5) (5) (upN kn n 1), kM E (m6) (65812) (d), kI E (m7) (120) (fo1)] 0 (c_M_productAt E l h n st mn m1 m2 m3 m4 m5 m6 m7 m8 m9 ma mb p (by omega) (by omega)) mmM_productAt msM_productAt lkM_88 rfl rfl (rfl) rfl rfl ⟨by decide, by decide⟩ ⟨by decide, by decide⟩ (Nat.le_of_ble_eq_true rfl) dM_findCosts_39 (fun r_c w_c hp => ?_)
          obtain ⟨rfl, rfl⟩ := hp
          refine J_norm C (st' := [.int (nI (p + poff n)), .ref (m7)]) (ws' := [((h), .inr (5, [.int (nI (0)), .int (nI (n)), .ref (m1), .int (nI (st)), .ref (m2), .ref (m3), .ref (m4), .int (nI (mn)), .ref (m5), .ref (m6), .ref (m7), .ref (m8), .ref (m9), .ref (ma), .ref (mb)])), kB E (m5) (5) (upN kn n 1), kM E (m6) (65812) (d), kI E (m7) (120) (fo1)]) (cs' := 0) (ss' := 0) rfl (rfl) rfl rfl ?_
          refine J_aload_n C 0 dM_findCosts_42 rfl rfl ?_
          refine J_iload_n C 1 dM_findCosts_43 rfl rfl ?_
          refine J_callV C (rest := [.int (nI (p + poff n)), .ref (m7)]) [] [((h), .inr (5, [.int (nI (0)), .int (nI (n)), .ref (m1), .int (nI (st)), .ref (m2), .ref (m3), .ref (m4), .int (nI (mn)), .ref (m5), .ref (m6), .ref (m7), .ref (m8), .ref (m9), .ref (ma), .ref (mb)]))] [kB E (m5) (5) (upN kn n 1), kM E (m6) (65812) (d), kI E (m7) (120) (fo1)] 0 (c_M_functionFor E l h n st mn m1 m2 m3 m4 m5 m6 m7 m8 m9 ma mb p (by omega) (by omega) (by omega)) mmM_functionFor msM_functionFor lkM_92 rfl rfl (rfl) rfl rfl ⟨by decide, by decide⟩ ⟨by decide, by decide⟩ (Nat.le_of_ble_eq_true rfl) dM_findCosts_44 (fun r_c w_c hp => ?_)
          obtain ⟨rfl, rfl⟩ := hp
          refine J_norm C (st' := [.int (nI (pfn n p)), .int (nI (p + poff n)), .ref (m7)]) (ws' := [((h), .inr (5, [.int (nI (0)), .int (nI (n)), .ref (m1), .int (nI (st)), .ref (m2), .ref (m3), .ref (m4), .int (nI (mn)), .ref (m5), .ref (m6), .ref (m7), .ref (m8), .ref (m9), .ref (ma), .ref (mb)])), kB E (m5) (5) (upN kn n 1), kM E (m6) (65812) (d), kI E (m7) (120) (fo1)]) (cs' := 0) (ss' := 0) rfl (rfl) rfl rfl ?_
          refine J_iastN C (ws' := [((h), .inr (5, [.int (nI (0)), .int (nI (n)), .ref (m1), .int (nI (st)), .ref (m2), .ref (m3), .ref (m4), .int (nI (mn)), .ref (m5), .ref (m6), .ref (m7), .ref (m8), .ref (m9), .ref (ma), .ref (mb)])), kB E (m5) (5) (upN kn n 1), kM E (m6) (65812) (d), kI E (m7) (120) (upN fo1 (p + poff n) (pfn n p))]) 3 rfl (by omega) (by omega) dM_findCosts_47 rfl ?_
          refine J_iinc C (lv' := [(0, .ref (h)), (1, .int (nI (p + 1)))]) 1 [1, 0] dM_findCosts_48 rfl (jn_inc _) (by decide) rfl ?_
          refine J_goto C 25 dM_findCosts_51 (by decide) ?_
          exact ih_25 (p + 1) (upN fo1 (p + poff n) (pfn n p)) (by omega) (mF_s hf1 (by omega)) (by omega)
    exact lp_25 (3 ^ n + 1) 0 fo (by omega) (⟨fun _ _ => rfl, fun p' q => by omega⟩) (by omega)
  · have hkz : kn n ≠ 0 := by omega
    exact hret _ _ _ _ _ dM_findCosts_12 (by decide) (by decide) (⟨kn, d, fo, rfl, hk1, hC, hkz, rfl⟩)
set_option maxHeartbeats 4000000 in
set_option maxRecDepth 100000 in
theorem c_M_form_f (E : jE) (l : Launch) (h : Nat) (n : Nat) (st : Nat) (mn : Nat) (m1 : Nat) (m2 : Nat) (m3 : Nat) (m4 : Nat) (m5 : Nat) (m6 : Nat) (m7 : Nat) (m8 : Nat) (m9 : Nat) (ma : Nat) (mb : Nat) (x : Int32) (z : Int32) (hn1 : 1 ≤ n) (hn4 : n ≤ 4) (hx : x.toInt < 0 ∨ ((2 ^ 2 ^ n : Nat) : Int) ≤ x.toInt ∨ z.toInt < -1) : Con E l yM_form bM_form 6 (some .int) { frames := 2, cells := 0, slots := 0, locals := 40 } [.ref (h), .int (x), .int (z)] [((h), .inr (5, [.int (nI (0)), .int (nI (n)), .ref (m1), .int (nI (st)), .ref (m2), .ref (m3), .ref (m4), .int (nI (mn)), .ref (m5), .ref (m6), .ref (m7), .ref (m8), .ref (m9), .ref (ma), .ref (mb)]))] (fun r w => r = some (.int (-1)) ∧ w = [((h), .inr (5, [.int (nI (0)), .int (nI (n)), .ref (m1), .int (nI (st)), .ref (m2), .ref (m3), .ref (m4), .int (nI (mn)), .ref (m5), .ref (m6), .ref (m7), .ref (m8), .ref (m9), .ref (ma), .ref (mb)]))]) := by
  refine Con.ofI (by decide) (Nat.le_of_ble_eq_true rfl) ?_
  intro J C hret
  show J 0 [(0, .ref (h)), (1, .int (x)), (2, .int (z))] [] [((h), .inr (5, [.int (nI (0)), .int (nI (n)), .ref (m1), .int (nI (st)), .ref (m2), .ref (m3), .ref (m4), .int (nI (mn)), .ref (m5), .ref (m6), .ref (m7), .ref (m8), .ref (m9), .ref (ma), .ref (mb)]))] 0 0
  have hp16 := p16 hn4
  have hp1 := p1 n
  have hF := p65 hn4
  have hF0 := p1 (2 ^ n)
  have h81 := p81 hn4
  have hc := coff_fit hn1 hn4
  have hq := poff_fit hn1 hn4
  have h30 := p3_pos n
  refine J_aload_n C 0 dM_form_0 rfl rfl ?_
  refine J_iconst C (v := nI (0)) dM_form_1 (by decide) ?_
  refine J_put C (ws' := [((h), .inr (5, [.int (nI (0)), .int (nI (n)), .ref (m1), .int (nI (st)), .ref (m2), .ref (m3), .ref (m4), .int (nI (mn)), .ref (m5), .ref (m6), .ref (m7), .ref (m8), .ref (m9), .ref (ma), .ref (mb)]))]) 0 0 tyM hinM tyokM nmM rfl rfl (by decide) fkM_53 rfl rfl rfl (Nat.le_of_ble_eq_true rfl) dM_form_2 rfl ?_
  refine J_iload_n C 1 dM_form_5 rfl rfl ?_
  refine J_if_lt C 22 rfl dM_form_6 (by decide) (fun h6 => ?_) (fun h6 => ?_)
  · refine J_iconst C (v := -1) dM_form_22 (by decide) ?_
    exact hret _ _ _ _ _ _ dM_form_23 (by decide) (by decide) (⟨rfl, rfl⟩)
  · refine J_iload_n C 1 dM_form_9 rfl rfl ?_
    refine J_aload_n C 0 dM_form_10 rfl rfl ?_
    refine J_callV C (rest := [.int (x)]) [] [((h), .inr (5, [.int (nI (0)), .int (nI (n)), .ref (m1), .int (nI (st)), .ref (m2), .ref (m3), .ref (m4), .int (nI (mn)), .ref (m5), .ref (m6), .ref (m7), .ref (m8), .ref (m9), .ref (ma), .ref (mb)]))] [] 0 (c_M_functions E l h n st mn m1 m2 m3 m4 m5 m6 m7 m8 m9 ma mb (by omega) (by omega)) mmM_functions msM_functions lkM_95 rfl rfl (rfl) rfl rfl ⟨by decide, by decide⟩ ⟨by decide, by decide⟩ (Nat.le_of_ble_eq_true rfl) dM_form_11 (fun r_c w_c hp => ?_)
    obtain ⟨rfl, rfl⟩ := hp
    refine J_norm C (st' := [.int (nI (2 ^ 2 ^ n)), .int (x)]) (ws' := [((h), .inr (5, [.int (nI (0)), .int (nI (n)), .ref (m1), .int (nI (st)), .ref (m2), .ref (m3), .ref (m4), .int (nI (mn)), .ref (m5), .ref (m6), .ref (m7), .ref (m8), .ref (m9), .ref (ma), .ref (mb)]))]) (cs' := 0) (ss' := 0) rfl (rfl) rfl rfl ?_
    refine J_icmp_ge C 22 rfl (nI_toInt (n := 2 ^ 2 ^ n) (by omega)) dM_form_14 (by decide) (fun h14 => ?_) (fun h14 => ?_)
    · refine J_iconst C (v := -1) dM_form_22 (by decide) ?_
      exact hret _ _ _ _ _ _ dM_form_23 (by decide) (by decide) (⟨rfl, rfl⟩)
    · refine J_iload_n C 2 dM_form_17 rfl rfl ?_
      refine J_iconst C (v := -1) dM_form_18 (by decide) ?_
      refine J_icmp_ge C 24 rfl j_m1 dM_form_19 (by decide) (fun h19 => ?_) (fun h19 => ?_)
      · exfalso; omega
      · refine J_iconst C (v := -1) dM_form_22 (by decide) ?_
        exact hret _ _ _ _ _ _ dM_form_23 (by decide) (by decide) (⟨rfl, rfl⟩)
set_option maxHeartbeats 4000000 in
set_option maxRecDepth 100000 in
theorem c_M_form_m (E : jE) (l : Launch) (h : Nat) (n : Nat) (st : Nat) (mn : Nat) (m1 : Nat) (m2 : Nat) (m3 : Nat) (m4 : Nat) (m5 : Nat) (m6 : Nat) (m7 : Nat) (m8 : Nat) (m9 : Nat) (ma : Nat) (mb : Nat) (kn : Nat → Nat) (d : Nat → Nat) (fo : Nat → Nat) (f : Nat) (hn1 : 1 ≤ n) (hn4 : n ≤ 4) (hfn : f < 2 ^ 2 ^ n) (hk1 : ∀ j, kn j ≤ 1) (hC : mC kn d fo) : Con E l yM_form bM_form 6 (some .int) { frames := 3, cells := 0, slots := 0, locals := 72 } [.ref (h), .int (nI (f)), .int (-1)] [((h), .inr (5, [.int (nI (0)), .int (nI (n)), .ref (m1), .int (nI (st)), .ref (m2), .ref (m3), .ref (m4), .int (nI (mn)), .ref (m5), .ref (m6), .ref (m7), .ref (m8), .ref (m9), .ref (ma), .ref (mb)])), kB E (m5) (5) (kn), kM E (m6) (65812) (d), kI E (m7) (120) (fo)] (fun r w => ∃ kn1 d1 fo1 : Nat → Nat, r = some (.int (nI (pF n f).length)) ∧ (∀ j, kn1 j ≤ 1) ∧ mC kn1 d1 fo1 ∧ w = [((h), .inr (5, [.int (nI (0)), .int (nI (n)), .ref (m1), .int (nI (st)), .ref (m2), .ref (m3), .ref (m4), .int (nI (mn)), .ref (m5), .ref (m6), .ref (m7), .ref (m8), .ref (m9), .ref (ma), .ref (mb)])), kB E (m5) (5) (kn1), kM E (m6) (65812) (d1), kI E (m7) (120) (fo1)]) := by
  refine Con.ofI (by decide) (Nat.le_of_ble_eq_true rfl) ?_
  intro J C hret
  show J 0 [(0, .ref (h)), (1, .int (nI (f))), (2, .int (-1))] [] [((h), .inr (5, [.int (nI (0)), .int (nI (n)), .ref (m1), .int (nI (st)), .ref (m2), .ref (m3), .ref (m4), .int (nI (mn)), .ref (m5), .ref (m6), .ref (m7), .ref (m8), .ref (m9), .ref (ma), .ref (mb)])), kB E (m5) (5) (kn), kM E (m6) (65812) (d), kI E (m7) (120) (fo)] 0 0
  have hp16 := p16 hn4
  have hp1 := p1 n
  have hF := p65 hn4
  have hF0 := p1 (2 ^ n)
  have h81 := p81 hn4
  have hc := coff_fit hn1 hn4
  have hq := poff_fit hn1 hn4
  have h30 := p3_pos n
  have l6 := pF_6 hn4 hfn
  refine J_aload_n C 0 dM_form_0 rfl rfl ?_
  refine J_iconst C (v := nI (0)) dM_form_1 (by decide) ?_
  refine J_put C (ws' := [((h), .inr (5, [.int (nI (0)), .int (nI (n)), .ref (m1), .int (nI (st)), .ref (m2), .ref (m3), .ref (m4), .int (nI (mn)), .ref (m5), .ref (m6), .ref (m7), .ref (m8), .ref (m9), .ref (ma), .ref (mb)])), kB E (m5) (5) (kn), kM E (m6) (65812) (d), kI E (m7) (120) (fo)]) 0 0 tyM hinM tyokM nmM rfl rfl (by decide) fkM_53 rfl rfl rfl (Nat.le_of_ble_eq_true rfl) dM_form_2 rfl ?_
  refine J_iload_n C 1 dM_form_5 rfl rfl ?_
  refine J_if_lt C 22 (nI_toInt (n := f) (by omega)) dM_form_6 (by decide) (fun h6 => ?_) (fun h6 => ?_)
  · exfalso; omega
  · refine J_iload_n C 1 dM_form_9 rfl rfl ?_
    refine J_aload_n C 0 dM_form_10 rfl rfl ?_
    refine J_callV C (rest := [.int (nI (f))]) [] [((h), .inr (5, [.int (nI (0)), .int (nI (n)), .ref (m1), .int (nI (st)), .ref (m2), .ref (m3), .ref (m4), .int (nI (mn)), .ref (m5), .ref (m6), .ref (m7), .ref (m8), .ref (m9), .ref (ma), .ref (mb)]))] [kB E (m5) (5) (kn), kM E (m6) (65812) (d), kI E (m7) (120) (fo)] 0 (c_M_functions E l h n st mn m1 m2 m3 m4 m5 m6 m7 m8 m9 ma mb (by omega) (by omega)) mmM_functions msM_functions lkM_95 rfl rfl (rfl) rfl rfl ⟨by decide, by decide⟩ ⟨by decide, by decide⟩ (Nat.le_of_ble_eq_true rfl) dM_form_11 (fun r_c w_c hp => ?_)
    obtain ⟨rfl, rfl⟩ := hp
    refine J_norm C (st' := [.int (nI (2 ^ 2 ^ n)), .int (nI (f))]) (ws' := [((h), .inr (5, [.int (nI (0)), .int (nI (n)), .ref (m1), .int (nI (st)), .ref (m2), .ref (m3), .ref (m4), .int (nI (mn)), .ref (m5), .ref (m6), .ref (m7), .ref (m8), .ref (m9), .ref (ma), .ref (mb)])), kB E (m5) (5) (kn), kM E (m6) (65812) (d), kI E (m7) (120) (fo)]) (cs' := 0) (ss' := 0) rfl (rfl) rfl rfl ?_
    refine J_icmp_ge C 22 (nI_toInt (n := f) (by omega)) (nI_toInt (n := 2 ^ 2 ^ n) (by omega)) dM_form_14 (by decide) (fun h14 => ?_) (fun h14 => ?_)
    · exfalso; omega
    · refine J_iload_n C 2 dM_form_17 rfl rfl ?_
      refine J_iconst C (v := -1) dM_form_18 (by decide) ?_
      refine J_icmp_ge C 24 j_m1 j_m1 dM_form_19 (by decide) (fun h19 => ?_) (fun h19 => ?_)
      · refine J_aload_n C 0 dM_form_24 rfl rfl ?_
        refine J_callV C (rest := []) [] [((h), .inr (5, [.int (nI (0)), .int (nI (n)), .ref (m1), .int (nI (st)), .ref (m2), .ref (m3), .ref (m4), .int (nI (mn)), .ref (m5), .ref (m6), .ref (m7), .ref (m8), .ref (m9), .ref (ma), .ref (mb)])), kB E (m5) (5) (kn), kM E (m6) (65812) (d), kI E (m7) (120) (fo)] [] 0 (c_M_findCosts E l h n st mn m1 m2 m3 m4 m5 m6 m7 m8 m9 ma mb kn d fo (by omega) (by omega) (by assumption) (by assumption)) mmM_findCosts msM_findCosts lkM_101 rfl rfl (rfl) rfl rfl ⟨by decide, by decide⟩ ⟨by decide, by decide⟩ (Nat.le_of_ble_eq_true rfl) dM_form_25 (fun r_c w_c hp => ?_)
        obtain ⟨kn1, d1, fo1, rfl, hkn1, hC1, hkz1, rfl⟩ := hp
        refine J_norm C (st' := []) (ws' := [((h), .inr (5, [.int (nI (0)), .int (nI (n)), .ref (m1), .int (nI (st)), .ref (m2), .ref (m3), .ref (m4), .int (nI (mn)), .ref (m5), .ref (m6), .ref (m7), .ref (m8), .ref (m9), .ref (ma), .ref (mb)])), kB E (m5) (5) (kn1), kM E (m6) (65812) (d1), kI E (m7) (120) (fo1)]) (cs' := 0) (ss' := 0) rfl (rfl) rfl rfl ?_
        obtain ⟨hcs, hfs⟩ := hC1 n hn1 hn4 hkz1
        refine J_iload_n C 2 dM_form_28 rfl rfl ?_
        refine J_iconst C (v := -1) dM_form_29 (by decide) ?_
        refine J_icmp_ne C 44 j_m1 j_m1 dM_form_30 (by decide) (fun h30 => ?_) (fun h30 => ?_)
        · exfalso; omega
        · refine J_aload_n C 0 dM_form_33 rfl rfl ?_
          refine J_get C 0 9 hinM rfl rfl (by decide) fkM_27 rfl dM_form_34 ?_
          refine J_aload_n C 0 dM_form_37 rfl rfl ?_
          refine J_iload_n C 1 dM_form_38 rfl rfl ?_
          refine J_callV C (rest := [.ref (m6)]) [] [((h), .inr (5, [.int (nI (0)), .int (nI (n)), .ref (m1), .int (nI (st)), .ref (m2), .ref (m3), .ref (m4), .int (nI (mn)), .ref (m5), .ref (m6), .ref (m7), .ref (m8), .ref (m9), .ref (ma), .ref (mb)]))] [kB E (m5) (5) (kn1), kM E (m6) (65812) (d1), kI E (m7) (120) (fo1)] 0 (c_M_costAt E l h n st mn m1 m2 m3 m4 m5 m6 m7 m8 m9 ma mb f (by omega) (by omega)) mmM_costAt msM_costAt lkM_98 rfl rfl (rfl) rfl rfl ⟨by decide, by decide⟩ ⟨by decide, by decide⟩ (Nat.le_of_ble_eq_true rfl) dM_form_39 (fun r_c w_c hp => ?_)
          obtain ⟨rfl, rfl⟩ := hp
          refine J_norm C (st' := [.int (nI (f + coff n)), .ref (m6)]) (ws' := [((h), .inr (5, [.int (nI (0)), .int (nI (n)), .ref (m1), .int (nI (st)), .ref (m2), .ref (m3), .ref (m4), .int (nI (mn)), .ref (m5), .ref (m6), .ref (m7), .ref (m8), .ref (m9), .ref (ma), .ref (mb)])), kB E (m5) (5) (kn1), kM E (m6) (65812) (d1), kI E (m7) (120) (fo1)]) (cs' := 0) (ss' := 0) rfl (rfl) rfl rfl ?_
          refine J_iald C 2 rfl (by omega) (by omega) dM_form_42 ?_
          refine J_topX C (x' := nI ((pF n f).length)) (by rw [hcs f hfn, mI_s]; rfl) ?_
          exact hret _ _ _ _ _ _ dM_form_43 (by decide) (by decide) (⟨_, _, _, rfl, hkn1, hC1, rfl⟩)
      · exfalso; omega
set_option maxHeartbeats 4000000 in
set_option maxRecDepth 100000 in
theorem c_M_form_k (E : jE) (l : Launch) (h : Nat) (n : Nat) (st : Nat) (mn : Nat) (m1 : Nat) (m2 : Nat) (m3 : Nat) (m4 : Nat) (m5 : Nat) (m6 : Nat) (m7 : Nat) (m8 : Nat) (m9 : Nat) (ma : Nat) (mb : Nat) (kn : Nat → Nat) (d : Nat → Nat) (fo : Nat → Nat) (f : Nat) (k : Nat) (hn1 : 1 ≤ n) (hn4 : n ≤ 4) (hfn : f < 2 ^ 2 ^ n) (hk1 : ∀ j, kn j ≤ 1) (hC : mC kn d fo) (hk : k < (pF n f).length) : Con E l yM_form bM_form 6 (some .int) { frames := 3, cells := 0, slots := 0, locals := 72 } [.ref (h), .int (nI (f)), .int (nI (k))] [((h), .inr (5, [.int (nI (0)), .int (nI (n)), .ref (m1), .int (nI (st)), .ref (m2), .ref (m3), .ref (m4), .int (nI (mn)), .ref (m5), .ref (m6), .ref (m7), .ref (m8), .ref (m9), .ref (ma), .ref (mb)])), kB E (m5) (5) (kn), kM E (m6) (65812) (d), kI E (m7) (120) (fo)] (fun r w => ∃ kn1 d1 fo1 : Nat → Nat, r = some (.int (nI ((pF n f).getD k 0))) ∧ (∀ j, kn1 j ≤ 1) ∧ mC kn1 d1 fo1 ∧ w = [((h), .inr (5, [.int (nI (0)), .int (nI (n)), .ref (m1), .int (nI (st)), .ref (m2), .ref (m3), .ref (m4), .int (nI (mn)), .ref (m5), .ref (m6), .ref (m7), .ref (m8), .ref (m9), .ref (ma), .ref (mb)])), kB E (m5) (5) (kn1), kM E (m6) (65812) (d1), kI E (m7) (120) (fo1)]) := by
  refine Con.ofI (by decide) (Nat.le_of_ble_eq_true rfl) ?_
  intro J C hret
  show J 0 [(0, .ref (h)), (1, .int (nI (f))), (2, .int (nI (k)))] [] [((h), .inr (5, [.int (nI (0)), .int (nI (n)), .ref (m1), .int (nI (st)), .ref (m2), .ref (m3), .ref (m4), .int (nI (mn)), .ref (m5), .ref (m6), .ref (m7), .ref (m8), .ref (m9), .ref (ma), .ref (mb)])), kB E (m5) (5) (kn), kM E (m6) (65812) (d), kI E (m7) (120) (fo)] 0 0
  have hp16 := p16 hn4
  have hp1 := p1 n
  have hF := p65 hn4
  have hF0 := p1 (2 ^ n)
  have h81 := p81 hn4
  have hc := coff_fit hn1 hn4
  have hq := poff_fit hn1 hn4
  have h30 := p3_pos n
  have l6 := pF_6 hn4 hfn
  refine J_aload_n C 0 dM_form_0 rfl rfl ?_
  refine J_iconst C (v := nI (0)) dM_form_1 (by decide) ?_
  refine J_put C (ws' := [((h), .inr (5, [.int (nI (0)), .int (nI (n)), .ref (m1), .int (nI (st)), .ref (m2), .ref (m3), .ref (m4), .int (nI (mn)), .ref (m5), .ref (m6), .ref (m7), .ref (m8), .ref (m9), .ref (ma), .ref (mb)])), kB E (m5) (5) (kn), kM E (m6) (65812) (d), kI E (m7) (120) (fo)]) 0 0 tyM hinM tyokM nmM rfl rfl (by decide) fkM_53 rfl rfl rfl (Nat.le_of_ble_eq_true rfl) dM_form_2 rfl ?_
  refine J_iload_n C 1 dM_form_5 rfl rfl ?_
  refine J_if_lt C 22 (nI_toInt (n := f) (by omega)) dM_form_6 (by decide) (fun h6 => ?_) (fun h6 => ?_)
  · exfalso; omega
  · refine J_iload_n C 1 dM_form_9 rfl rfl ?_
    refine J_aload_n C 0 dM_form_10 rfl rfl ?_
    refine J_callV C (rest := [.int (nI (f))]) [] [((h), .inr (5, [.int (nI (0)), .int (nI (n)), .ref (m1), .int (nI (st)), .ref (m2), .ref (m3), .ref (m4), .int (nI (mn)), .ref (m5), .ref (m6), .ref (m7), .ref (m8), .ref (m9), .ref (ma), .ref (mb)]))] [kB E (m5) (5) (kn), kM E (m6) (65812) (d), kI E (m7) (120) (fo)] 0 (c_M_functions E l h n st mn m1 m2 m3 m4 m5 m6 m7 m8 m9 ma mb (by omega) (by omega)) mmM_functions msM_functions lkM_95 rfl rfl (rfl) rfl rfl ⟨by decide, by decide⟩ ⟨by decide, by decide⟩ (Nat.le_of_ble_eq_true rfl) dM_form_11 (fun r_c w_c hp => ?_)
    obtain ⟨rfl, rfl⟩ := hp
    refine J_norm C (st' := [.int (nI (2 ^ 2 ^ n)), .int (nI (f))]) (ws' := [((h), .inr (5, [.int (nI (0)), .int (nI (n)), .ref (m1), .int (nI (st)), .ref (m2), .ref (m3), .ref (m4), .int (nI (mn)), .ref (m5), .ref (m6), .ref (m7), .ref (m8), .ref (m9), .ref (ma), .ref (mb)])), kB E (m5) (5) (kn), kM E (m6) (65812) (d), kI E (m7) (120) (fo)]) (cs' := 0) (ss' := 0) rfl (rfl) rfl rfl ?_
    refine J_icmp_ge C 22 (nI_toInt (n := f) (by omega)) (nI_toInt (n := 2 ^ 2 ^ n) (by omega)) dM_form_14 (by decide) (fun h14 => ?_) (fun h14 => ?_)
    · exfalso; omega
    · refine J_iload_n C 2 dM_form_17 rfl rfl ?_
      refine J_iconst C (v := -1) dM_form_18 (by decide) ?_
      refine J_icmp_ge C 24 (nI_toInt (n := k) (by omega)) j_m1 dM_form_19 (by decide) (fun h19 => ?_) (fun h19 => ?_)
      · refine J_aload_n C 0 dM_form_24 rfl rfl ?_
        refine J_callV C (rest := []) [] [((h), .inr (5, [.int (nI (0)), .int (nI (n)), .ref (m1), .int (nI (st)), .ref (m2), .ref (m3), .ref (m4), .int (nI (mn)), .ref (m5), .ref (m6), .ref (m7), .ref (m8), .ref (m9), .ref (ma), .ref (mb)])), kB E (m5) (5) (kn), kM E (m6) (65812) (d), kI E (m7) (120) (fo)] [] 0 (c_M_findCosts E l h n st mn m1 m2 m3 m4 m5 m6 m7 m8 m9 ma mb kn d fo (by omega) (by omega) (by assumption) (by assumption)) mmM_findCosts msM_findCosts lkM_101 rfl rfl (rfl) rfl rfl ⟨by decide, by decide⟩ ⟨by decide, by decide⟩ (Nat.le_of_ble_eq_true rfl) dM_form_25 (fun r_c w_c hp => ?_)
        obtain ⟨kn1, d1, fo1, rfl, hkn1, hC1, hkz1, rfl⟩ := hp
        refine J_norm C (st' := []) (ws' := [((h), .inr (5, [.int (nI (0)), .int (nI (n)), .ref (m1), .int (nI (st)), .ref (m2), .ref (m3), .ref (m4), .int (nI (mn)), .ref (m5), .ref (m6), .ref (m7), .ref (m8), .ref (m9), .ref (ma), .ref (mb)])), kB E (m5) (5) (kn1), kM E (m6) (65812) (d1), kI E (m7) (120) (fo1)]) (cs' := 0) (ss' := 0) rfl (rfl) rfl rfl ?_
        obtain ⟨hcs, hfs⟩ := hC1 n hn1 hn4 hkz1
        refine J_iload_n C 2 dM_form_28 rfl rfl ?_
        refine J_iconst C (v := -1) dM_form_29 (by decide) ?_
        refine J_icmp_ne C 44 (nI_toInt (n := k) (by omega)) j_m1 dM_form_30 (by decide) (fun h30 => ?_) (fun h30 => ?_)
        · refine J_iload_n C 1 dM_form_44 rfl rfl ?_
          refine J_istore_n C (lv' := [(0, .ref (h)), (1, .int (nI (f))), (2, .int (nI (k))), (3, .int (nI (f)))]) [1, 2, 3, 0] dM_form_45 rfl (by decide) rfl ?_
          refine J_iconst C (v := -1) dM_form_46 (by decide) ?_
          refine J_istore C (lv' := [(0, .ref (h)), (1, .int (nI (f))), (2, .int (nI (k))), (3, .int (nI (f))), (4, .int (-1))]) [1, 2, 3, 4, 0] dM_form_47 (by decide) rfl ?_
          refine J_iconst C (v := nI (0)) dM_form_49 (by decide) ?_
          refine J_istore C (lv' := [(0, .ref (h)), (1, .int (nI (f))), (2, .int (nI (k))), (3, .int (nI (f))), (4, .int (-1)), (5, .int (nI (0)))]) [1, 2, 3, 4, 5, 0] dM_form_50 (by decide) rfl ?_
          have lp_52 : ∀ (k_52 : Nat) (g : Nat) (tl : Int32) (j : Nat), (j ≤ k + 1) → (g < 2 ^ 2 ^ n) → (pF n g = (pF n f).drop j) → (j = 0 ∨ tl = nI ((pF n f).getD (j - 1) 0)) → (k + 1 - j) < k_52 → J 52 [(0, .ref (h)), (1, .int (nI (f))), (2, .int (nI (k))), (3, .int (nI (g))), (4, .int (tl)), (5, .int (nI (j)))] [] [((h), .inr (5, [.int (nI (0)), .int (nI (n)), .ref (m1), .int (nI (st)), .ref (m2), .ref (m3), .ref (m4), .int (nI (mn)), .ref (m5), .ref (m6), .ref (m7), .ref (m8), .ref (m9), .ref (ma), .ref (mb)])), kB E (m5) (5) (kn1), kM E (m6) (65812) (d1), kI E (m7) (120) (fo1)] (0) (0) := by
            intro k_52
            induction k_52 with
            | zero => intro g tl j hj hg hdr htl hk_52; exact absurd hk_52 (Nat.not_lt_zero _)
            | succ k_52 ih_52 =>
              intro g tl j hj hg hdr htl hk_52
              refine J_iload C 5 dM_form_52 rfl ?_
              refine J_iload_n C 2 dM_form_54 rfl rfl ?_
              refine J_icmp_gt C 130 (nI_toInt (n := j) (by omega)) (nI_toInt (n := k) (by omega)) dM_form_55 (by decide) (fun h55 => ?_) (fun h55 => ?_)
              · have hjk : j = k + 1 := by omega
                refine J_iload C 4 dM_form_130 rfl ?_
                exact hret _ _ _ _ _ _ dM_form_132 (by decide) (by decide) (⟨_, _, _, by rcases htl with q | q; (exact absurd q (by omega)); (rw [q, show j - 1 = k by omega]), hkn1, hC1, rfl⟩)
              · refine J_iload_n C 3 dM_form_58 rfl rfl ?_
                refine J_if_ne C 64 (nI_toInt (n := g) (by omega)) dM_form_59 (by decide) (fun h59 => ?_) (fun h59 => ?_)
                · have hne : g ≠ 0 := by omega
                  have hjl : j < (pF n f).length := by
                    rcases Nat.lt_or_ge j (pF n f).length with q | q
                    · exact q
                    · rw [List.drop_eq_nil_of_le q] at hdr
                      exact absurd (pc_eq0 hg (by unfold pc; rw [hdr]; rfl)) hne
                  rw [drop_cons hjl] at hdr
                  obtain ⟨hp3, hpc, hps, hpl⟩ := pF_cons hn4 hg hdr
                  have hpos : 1 ≤ pc n g := by omega
                  refine J_iconst C (v := nI (0)) dM_form_64 (by decide) ?_
                  refine J_istore C (lv' := [(0, .ref (h)), (1, .int (nI (f))), (2, .int (nI (k))), (3, .int (nI (g))), (4, .int (nI (0))), (5, .int (nI (j)))]) [1, 2, 3, 4, 0, 5] dM_form_65 (by decide) rfl ?_
                  have lp_67 : ∀ (k_67 : Nat) (t : Nat), (t ≤ (pF n f).getD j 0) → (∀ q, q < t → pc n (g ^^^ pfn n q) + 1 ≠ pc n g) → ((pF n f).getD j 0 - t) < k_67 → J 67 [(0, .ref (h)), (1, .int (nI (f))), (2, .int (nI (k))), (3, .int (nI (g))), (4, .int (nI (t))), (5, .int (nI (j)))] [] [((h), .inr (5, [.int (nI (0)), .int (nI (n)), .ref (m1), .int (nI (st)), .ref (m2), .ref (m3), .ref (m4), .int (nI (mn)), .ref (m5), .ref (m6), .ref (m7), .ref (m8), .ref (m9), .ref (ma), .ref (mb)])), kB E (m5) (5) (kn1), kM E (m6) (65812) (d1), kI E (m7) (120) (fo1)] (0) (0) := by
                    intro k_67
                    induction k_67 with
                    | zero => intro t ht hno hk_67; exact absurd hk_67 (Nat.not_lt_zero _)
                    | succ k_67 ih_67 =>
                      intro t ht hno hk_67
                      have ht3 : t < 3 ^ n := by omega
                      have xt := Nat.xor_lt_two_pow hg (pfn_lt n t)
                      refine J_aload_n C 0 dM_form_67 rfl rfl ?_
                      refine J_get C 0 9 hinM rfl rfl (by decide) fkM_27 rfl dM_form_68 ?_
                      refine J_aload_n C 0 dM_form_71 rfl rfl ?_
                      refine J_iload_n C 3 dM_form_72 rfl rfl ?_
                      refine J_aload_n C 0 dM_form_73 rfl rfl ?_
                      refine J_get C 0 10 hinM rfl rfl (by decide) fkM_30 rfl dM_form_74 ?_
                      refine J_aload_n C 0 dM_form_77 rfl rfl ?_
                      refine J_iload C 4 dM_form_78 rfl ?_
                      refine J_callV C (rest := [.ref (m7), .int (nI (g)), .ref (h), .ref (m6)]) [] [((h), .inr (5, [.int (nI (0)), .int (nI (n)), .ref (m1), .int (nI (st)), .ref (m2), .ref (m3), .ref (m4), .int (nI (mn)), .ref (m5), .ref (m6), .ref (m7), .ref (m8), .ref (m9), .ref (ma), .ref (mb)]))] [kB E (m5) (5) (kn1), kM E (m6) (65812) (d1), kI E (m7) (120) (fo1)] 0 (c_M_productAt E l h n st mn m1 m2 m3 m4 m5 m6 m7 m8 m9 ma mb t (by omega) (by omega)) mmM_productAt msM_productAt lkM_88 rfl rfl (rfl) rfl rfl ⟨by decide, by decide⟩ ⟨by decide, by decide⟩ (Nat.le_of_ble_eq_true rfl) dM_form_80 (fun r_c w_c hp => ?_)
                      obtain ⟨rfl, rfl⟩ := hp
                      refine J_norm C (st' := [.int (nI (t + poff n)), .ref (m7), .int (nI (g)), .ref (h), .ref (m6)]) (ws' := [((h), .inr (5, [.int (nI (0)), .int (nI (n)), .ref (m1), .int (nI (st)), .ref (m2), .ref (m3), .ref (m4), .int (nI (mn)), .ref (m5), .ref (m6), .ref (m7), .ref (m8), .ref (m9), .ref (ma), .ref (mb)])), kB E (m5) (5) (kn1), kM E (m6) (65812) (d1), kI E (m7) (120) (fo1)]) (cs' := 0) (ss' := 0) rfl (rfl) rfl rfl ?_
                      refine J_iald C 3 rfl (by omega) (by omega) dM_form_83 ?_
                      refine J_topN C (n' := pfn n t) (hfs t (by omega)) ?_
                      refine J_ixorN C dM_form_84 ?_
                      refine J_callV C (rest := [.ref (m6)]) [] [((h), .inr (5, [.int (nI (0)), .int (nI (n)), .ref (m1), .int (nI (st)), .ref (m2), .ref (m3), .ref (m4), .int (nI (mn)), .ref (m5), .ref (m6), .ref (m7), .ref (m8), .ref (m9), .ref (ma), .ref (mb)]))] [kB E (m5) (5) (kn1), kM E (m6) (65812) (d1), kI E (m7) (120) (fo1)] 0 (c_M_costAt E l h n st mn m1 m2 m3 m4 m5 m6 m7 m8 m9 ma mb (g ^^^ (pfn n t)) (by omega) (by omega)) mmM_costAt msM_costAt lkM_98 rfl rfl (rfl) rfl rfl ⟨by decide, by decide⟩ ⟨by decide, by decide⟩ (Nat.le_of_ble_eq_true rfl) dM_form_85 (fun r_c w_c hp => ?_)
                      obtain ⟨rfl, rfl⟩ := hp
                      refine J_norm C (st' := [.int (nI ((g ^^^ (pfn n t)) + coff n)), .ref (m6)]) (ws' := [((h), .inr (5, [.int (nI (0)), .int (nI (n)), .ref (m1), .int (nI (st)), .ref (m2), .ref (m3), .ref (m4), .int (nI (mn)), .ref (m5), .ref (m6), .ref (m7), .ref (m8), .ref (m9), .ref (ma), .ref (mb)])), kB E (m5) (5) (kn1), kM E (m6) (65812) (d1), kI E (m7) (120) (fo1)]) (cs' := 0) (ss' := 0) rfl (rfl) rfl rfl ?_
                      refine J_iald C 2 rfl (by omega) (by omega) dM_form_88 ?_
                      refine J_topX C (x' := nI (pc n (g ^^^ pfn n t))) (by rw [hcs _ xt, mI_s]) ?_
                      refine J_aload_n C 0 dM_form_89 rfl rfl ?_
                      refine J_get C 0 9 hinM rfl rfl (by decide) fkM_27 rfl dM_form_90 ?_
                      refine J_aload_n C 0 dM_form_93 rfl rfl ?_
                      refine J_iload_n C 3 dM_form_94 rfl rfl ?_
                      refine J_callV C (rest := [.ref (m6), .int (nI (pc n (g ^^^ pfn n t)))]) [] [((h), .inr (5, [.int (nI (0)), .int (nI (n)), .ref (m1), .int (nI (st)), .ref (m2), .ref (m3), .ref (m4), .int (nI (mn)), .ref (m5), .ref (m6), .ref (m7), .ref (m8), .ref (m9), .ref (ma), .ref (mb)]))] [kB E (m5) (5) (kn1), kM E (m6) (65812) (d1), kI E (m7) (120) (fo1)] 0 (c_M_costAt E l h n st mn m1 m2 m3 m4 m5 m6 m7 m8 m9 ma mb g (by omega) (by omega)) mmM_costAt msM_costAt lkM_98 rfl rfl (rfl) rfl rfl ⟨by decide, by decide⟩ ⟨by decide, by decide⟩ (Nat.le_of_ble_eq_true rfl) dM_form_95 (fun r_c w_c hp => ?_)
                      obtain ⟨rfl, rfl⟩ := hp
                      refine J_norm C (st' := [.int (nI (g + coff n)), .ref (m6), .int (nI (pc n (g ^^^ pfn n t)))]) (ws' := [((h), .inr (5, [.int (nI (0)), .int (nI (n)), .ref (m1), .int (nI (st)), .ref (m2), .ref (m3), .ref (m4), .int (nI (mn)), .ref (m5), .ref (m6), .ref (m7), .ref (m8), .ref (m9), .ref (ma), .ref (mb)])), kB E (m5) (5) (kn1), kM E (m6) (65812) (d1), kI E (m7) (120) (fo1)]) (cs' := 0) (ss' := 0) rfl (rfl) rfl rfl ?_
                      refine J_iald C 2 rfl (by omega) (by omega) dM_form_98 ?_
                      refine J_topX C (x' := nI (pc n g)) (by rw [hcs g hg, mI_s]) ?_
                      refine J_iconst C (v := nI (1)) dM_form_99 (by decide) ?_
                      refine J_isubN C dM_form_100 (by omega) ?_
                      refine J_icmp_eq C 110 (nI_toInt (n := pc n (g ^^^ pfn n t)) (by have := pc_le6 hn4 xt; omega)) (nI_toInt (n := (pc n g) - 1) (by have := pc_le6 hn4 hg; omega)) dM_form_101 (by decide) (fun h101 => ?_) (fun h101 => ?_)
                      · have htp : t = (pF n f).getD j 0 := by
                          rcases Nat.lt_or_ge t ((pF n f).getD j 0) with q | q
                          · exact absurd (by omega) (hpl t q)
                          · omega
                        have hdr2 : pF n (g ^^^ pfn n t) = (pF n f).drop (j + 1) := by rw [hps, htp]
                        refine J_iload_n C 3 dM_form_110 rfl rfl ?_
                        refine J_aload_n C 0 dM_form_111 rfl rfl ?_
                        refine J_get C 0 10 hinM rfl rfl (by decide) fkM_30 rfl dM_form_112 ?_
                        refine J_aload_n C 0 dM_form_115 rfl rfl ?_
                        refine J_iload C 4 dM_form_116 rfl ?_
                        refine J_callV C (rest := [.ref (m7), .int (nI (g))]) [] [((h), .inr (5, [.int (nI (0)), .int (nI (n)), .ref (m1), .int (nI (st)), .ref (m2), .ref (m3), .ref (m4), .int (nI (mn)), .ref (m5), .ref (m6), .ref (m7), .ref (m8), .ref (m9), .ref (ma), .ref (mb)]))] [kB E (m5) (5) (kn1), kM E (m6) (65812) (d1), kI E (m7) (120) (fo1)] 0 (c_M_productAt E l h n st mn m1 m2 m3 m4 m5 m6 m7 m8 m9 ma mb t (by omega) (by omega)) mmM_productAt msM_productAt lkM_88 rfl rfl (rfl) rfl rfl ⟨by decide, by decide⟩ ⟨by decide, by decide⟩ (Nat.le_of_ble_eq_true rfl) dM_form_118 (fun r_c w_c hp => ?_)
                        obtain ⟨rfl, rfl⟩ := hp
                        refine J_norm C (st' := [.int (nI (t + poff n)), .ref (m7), .int (nI (g))]) (ws' := [((h), .inr (5, [.int (nI (0)), .int (nI (n)), .ref (m1), .int (nI (st)), .ref (m2), .ref (m3), .ref (m4), .int (nI (mn)), .ref (m5), .ref (m6), .ref (m7), .ref (m8), .ref (m9), .ref (ma), .ref (mb)])), kB E (m5) (5) (kn1), kM E (m6) (65812) (d1), kI E (m7) (120) (fo1)]) (cs' := 0) (ss' := 0) rfl (rfl) rfl rfl ?_
                        refine J_iald C 3 rfl (by omega) (by omega) dM_form_121 ?_
                        refine J_topN C (n' := pfn n t) (hfs t (by omega)) ?_
                        refine J_ixorN C dM_form_122 ?_
                        refine J_istore_n C (lv' := [(0, .ref (h)), (1, .int (nI (f))), (2, .int (nI (k))), (3, .int (nI (g ^^^ (pfn n t)))), (4, .int (nI (t))), (5, .int (nI (j)))]) [1, 2, 3, 0, 4, 5] dM_form_123 rfl (by decide) rfl ?_
                        refine J_iinc C (lv' := [(0, .ref (h)), (1, .int (nI (f))), (2, .int (nI (k))), (3, .int (nI (g ^^^ (pfn n t)))), (4, .int (nI (t))), (5, .int (nI (j + 1)))]) 5 [1, 2, 3, 4, 5, 0] dM_form_124 rfl (jn_inc _) (by decide) rfl ?_
                        refine J_goto C 52 dM_form_127 (by decide) ?_
                        exact ih_52 (g ^^^ (pfn n t)) (nI (t)) (j + 1) (by omega) (Nat.xor_lt_two_pow hg (pfn_lt n t)) (hdr2) (Or.inr (by rw [show j + 1 - 1 = j by omega, ← htp])) (by omega)
                      · have htn : t ≠ (pF n f).getD j 0 := by
                          intro q
                          rw [← q] at hpc
                          omega
                        refine J_iinc C (lv' := [(0, .ref (h)), (1, .int (nI (f))), (2, .int (nI (k))), (3, .int (nI (g))), (4, .int (nI (t + 1))), (5, .int (nI (j)))]) 4 [1, 2, 3, 4, 0, 5] dM_form_104 rfl (jn_inc _) (by decide) rfl ?_
                        refine J_goto C 67 dM_form_107 (by decide) ?_
                        exact ih_67 (t + 1) (by omega) (fun q hq => by by_cases e : q = t; (rw [e]; omega); exact hno q (by omega)) (by omega)
                  exact lp_67 ((pF n f).getD j 0 + 1) 0 (by omega) (fun q hq => by omega) (by omega)
                · exfalso
                  obtain rfl : 0 = g := by omega
                  rw [pF_0] at hdr
                  have := congrArg List.length hdr
                  simp at this
                  omega
          exact lp_52 (k + 1 + 1) f (-1) 0 (by omega) (hfn) (rfl) (Or.inl rfl) (by omega)
        · exfalso; omega
      · exfalso; omega
set_option maxHeartbeats 4000000 in
set_option maxRecDepth 100000 in
theorem c_M_form_x (E : jE) (l : Launch) (h : Nat) (n : Nat) (st : Nat) (mn : Nat) (m1 : Nat) (m2 : Nat) (m3 : Nat) (m4 : Nat) (m5 : Nat) (m6 : Nat) (m7 : Nat) (m8 : Nat) (m9 : Nat) (ma : Nat) (mb : Nat) (kn : Nat → Nat) (d : Nat → Nat) (fo : Nat → Nat) (f : Nat) (x : Int32) (hn1 : 1 ≤ n) (hn4 : n ≤ 4) (hfn : f < 2 ^ 2 ^ n) (hk1 : ∀ j, kn j ≤ 1) (hC : mC kn d fo) (hx : ((pF n f).length : Int) ≤ x.toInt) : Con E l yM_form bM_form 6 (some .int) { frames := 3, cells := 0, slots := 0, locals := 72 } [.ref (h), .int (nI (f)), .int (x)] [((h), .inr (5, [.int (nI (0)), .int (nI (n)), .ref (m1), .int (nI (st)), .ref (m2), .ref (m3), .ref (m4), .int (nI (mn)), .ref (m5), .ref (m6), .ref (m7), .ref (m8), .ref (m9), .ref (ma), .ref (mb)])), kB E (m5) (5) (kn), kM E (m6) (65812) (d), kI E (m7) (120) (fo)] (fun r w => ∃ kn1 d1 fo1 : Nat → Nat, r = some (.int (-1)) ∧ (∀ j, kn1 j ≤ 1) ∧ mC kn1 d1 fo1 ∧ w = [((h), .inr (5, [.int (nI (0)), .int (nI (n)), .ref (m1), .int (nI (st)), .ref (m2), .ref (m3), .ref (m4), .int (nI (mn)), .ref (m5), .ref (m6), .ref (m7), .ref (m8), .ref (m9), .ref (ma), .ref (mb)])), kB E (m5) (5) (kn1), kM E (m6) (65812) (d1), kI E (m7) (120) (fo1)]) := by
  refine Con.ofI (by decide) (Nat.le_of_ble_eq_true rfl) ?_
  intro J C hret
  show J 0 [(0, .ref (h)), (1, .int (nI (f))), (2, .int (x))] [] [((h), .inr (5, [.int (nI (0)), .int (nI (n)), .ref (m1), .int (nI (st)), .ref (m2), .ref (m3), .ref (m4), .int (nI (mn)), .ref (m5), .ref (m6), .ref (m7), .ref (m8), .ref (m9), .ref (ma), .ref (mb)])), kB E (m5) (5) (kn), kM E (m6) (65812) (d), kI E (m7) (120) (fo)] 0 0
  have hp16 := p16 hn4
  have hp1 := p1 n
  have hF := p65 hn4
  have hF0 := p1 (2 ^ n)
  have h81 := p81 hn4
  have hc := coff_fit hn1 hn4
  have hq := poff_fit hn1 hn4
  have h30 := p3_pos n
  have l6 := pF_6 hn4 hfn
  refine J_aload_n C 0 dM_form_0 rfl rfl ?_
  refine J_iconst C (v := nI (0)) dM_form_1 (by decide) ?_
  refine J_put C (ws' := [((h), .inr (5, [.int (nI (0)), .int (nI (n)), .ref (m1), .int (nI (st)), .ref (m2), .ref (m3), .ref (m4), .int (nI (mn)), .ref (m5), .ref (m6), .ref (m7), .ref (m8), .ref (m9), .ref (ma), .ref (mb)])), kB E (m5) (5) (kn), kM E (m6) (65812) (d), kI E (m7) (120) (fo)]) 0 0 tyM hinM tyokM nmM rfl rfl (by decide) fkM_53 rfl rfl rfl (Nat.le_of_ble_eq_true rfl) dM_form_2 rfl ?_
  refine J_iload_n C 1 dM_form_5 rfl rfl ?_
  refine J_if_lt C 22 (nI_toInt (n := f) (by omega)) dM_form_6 (by decide) (fun h6 => ?_) (fun h6 => ?_)
  · exfalso; omega
  · refine J_iload_n C 1 dM_form_9 rfl rfl ?_
    refine J_aload_n C 0 dM_form_10 rfl rfl ?_
    refine J_callV C (rest := [.int (nI (f))]) [] [((h), .inr (5, [.int (nI (0)), .int (nI (n)), .ref (m1), .int (nI (st)), .ref (m2), .ref (m3), .ref (m4), .int (nI (mn)), .ref (m5), .ref (m6), .ref (m7), .ref (m8), .ref (m9), .ref (ma), .ref (mb)]))] [kB E (m5) (5) (kn), kM E (m6) (65812) (d), kI E (m7) (120) (fo)] 0 (c_M_functions E l h n st mn m1 m2 m3 m4 m5 m6 m7 m8 m9 ma mb (by omega) (by omega)) mmM_functions msM_functions lkM_95 rfl rfl (rfl) rfl rfl ⟨by decide, by decide⟩ ⟨by decide, by decide⟩ (Nat.le_of_ble_eq_true rfl) dM_form_11 (fun r_c w_c hp => ?_)
    obtain ⟨rfl, rfl⟩ := hp
    refine J_norm C (st' := [.int (nI (2 ^ 2 ^ n)), .int (nI (f))]) (ws' := [((h), .inr (5, [.int (nI (0)), .int (nI (n)), .ref (m1), .int (nI (st)), .ref (m2), .ref (m3), .ref (m4), .int (nI (mn)), .ref (m5), .ref (m6), .ref (m7), .ref (m8), .ref (m9), .ref (ma), .ref (mb)])), kB E (m5) (5) (kn), kM E (m6) (65812) (d), kI E (m7) (120) (fo)]) (cs' := 0) (ss' := 0) rfl (rfl) rfl rfl ?_
    refine J_icmp_ge C 22 (nI_toInt (n := f) (by omega)) (nI_toInt (n := 2 ^ 2 ^ n) (by omega)) dM_form_14 (by decide) (fun h14 => ?_) (fun h14 => ?_)
    · exfalso; omega
    · refine J_iload_n C 2 dM_form_17 rfl rfl ?_
      refine J_iconst C (v := -1) dM_form_18 (by decide) ?_
      refine J_icmp_ge C 24 rfl j_m1 dM_form_19 (by decide) (fun h19 => ?_) (fun h19 => ?_)
      · refine J_aload_n C 0 dM_form_24 rfl rfl ?_
        refine J_callV C (rest := []) [] [((h), .inr (5, [.int (nI (0)), .int (nI (n)), .ref (m1), .int (nI (st)), .ref (m2), .ref (m3), .ref (m4), .int (nI (mn)), .ref (m5), .ref (m6), .ref (m7), .ref (m8), .ref (m9), .ref (ma), .ref (mb)])), kB E (m5) (5) (kn), kM E (m6) (65812) (d), kI E (m7) (120) (fo)] [] 0 (c_M_findCosts E l h n st mn m1 m2 m3 m4 m5 m6 m7 m8 m9 ma mb kn d fo (by omega) (by omega) (by assumption) (by assumption)) mmM_findCosts msM_findCosts lkM_101 rfl rfl (rfl) rfl rfl ⟨by decide, by decide⟩ ⟨by decide, by decide⟩ (Nat.le_of_ble_eq_true rfl) dM_form_25 (fun r_c w_c hp => ?_)
        obtain ⟨kn1, d1, fo1, rfl, hkn1, hC1, hkz1, rfl⟩ := hp
        refine J_norm C (st' := []) (ws' := [((h), .inr (5, [.int (nI (0)), .int (nI (n)), .ref (m1), .int (nI (st)), .ref (m2), .ref (m3), .ref (m4), .int (nI (mn)), .ref (m5), .ref (m6), .ref (m7), .ref (m8), .ref (m9), .ref (ma), .ref (mb)])), kB E (m5) (5) (kn1), kM E (m6) (65812) (d1), kI E (m7) (120) (fo1)]) (cs' := 0) (ss' := 0) rfl (rfl) rfl rfl ?_
        obtain ⟨hcs, hfs⟩ := hC1 n hn1 hn4 hkz1
        refine J_iload_n C 2 dM_form_28 rfl rfl ?_
        refine J_iconst C (v := -1) dM_form_29 (by decide) ?_
        refine J_icmp_ne C 44 rfl j_m1 dM_form_30 (by decide) (fun h30 => ?_) (fun h30 => ?_)
        · refine J_iload_n C 1 dM_form_44 rfl rfl ?_
          refine J_istore_n C (lv' := [(0, .ref (h)), (1, .int (nI (f))), (2, .int (x)), (3, .int (nI (f)))]) [1, 2, 3, 0] dM_form_45 rfl (by decide) rfl ?_
          refine J_iconst C (v := -1) dM_form_46 (by decide) ?_
          refine J_istore C (lv' := [(0, .ref (h)), (1, .int (nI (f))), (2, .int (x)), (3, .int (nI (f))), (4, .int (-1))]) [1, 2, 3, 4, 0] dM_form_47 (by decide) rfl ?_
          refine J_iconst C (v := nI (0)) dM_form_49 (by decide) ?_
          refine J_istore C (lv' := [(0, .ref (h)), (1, .int (nI (f))), (2, .int (x)), (3, .int (nI (f))), (4, .int (-1)), (5, .int (nI (0)))]) [1, 2, 3, 4, 5, 0] dM_form_50 (by decide) rfl ?_
          have lp_52 : ∀ (k_52 : Nat) (g : Nat) (tl : Int32) (j : Nat), (j ≤ (pF n f).length) → (g < 2 ^ 2 ^ n) → (pF n g = (pF n f).drop j) → (j = 0 ∨ tl = nI ((pF n f).getD (j - 1) 0)) → ((pF n f).length - j) < k_52 → J 52 [(0, .ref (h)), (1, .int (nI (f))), (2, .int (x)), (3, .int (nI (g))), (4, .int (tl)), (5, .int (nI (j)))] [] [((h), .inr (5, [.int (nI (0)), .int (nI (n)), .ref (m1), .int (nI (st)), .ref (m2), .ref (m3), .ref (m4), .int (nI (mn)), .ref (m5), .ref (m6), .ref (m7), .ref (m8), .ref (m9), .ref (ma), .ref (mb)])), kB E (m5) (5) (kn1), kM E (m6) (65812) (d1), kI E (m7) (120) (fo1)] (0) (0) := by
            intro k_52
            induction k_52 with
            | zero => intro g tl j hj hg hdr htl hk_52; exact absurd hk_52 (Nat.not_lt_zero _)
            | succ k_52 ih_52 =>
              intro g tl j hj hg hdr htl hk_52
              refine J_iload C 5 dM_form_52 rfl ?_
              refine J_iload_n C 2 dM_form_54 rfl rfl ?_
              refine J_icmp_gt C 130 (nI_toInt (n := j) (by omega)) rfl dM_form_55 (by decide) (fun h55 => ?_) (fun h55 => ?_)
              · exfalso; omega
              · refine J_iload_n C 3 dM_form_58 rfl rfl ?_
                refine J_if_ne C 64 (nI_toInt (n := g) (by omega)) dM_form_59 (by decide) (fun h59 => ?_) (fun h59 => ?_)
                · have hne : g ≠ 0 := by omega
                  have hjl : j < (pF n f).length := by
                    rcases Nat.lt_or_ge j (pF n f).length with q | q
                    · exact q
                    · rw [List.drop_eq_nil_of_le q] at hdr
                      exact absurd (pc_eq0 hg (by unfold pc; rw [hdr]; rfl)) hne
                  rw [drop_cons hjl] at hdr
                  obtain ⟨hp3, hpc, hps, hpl⟩ := pF_cons hn4 hg hdr
                  have hpos : 1 ≤ pc n g := by omega
                  refine J_iconst C (v := nI (0)) dM_form_64 (by decide) ?_
                  refine J_istore C (lv' := [(0, .ref (h)), (1, .int (nI (f))), (2, .int (x)), (3, .int (nI (g))), (4, .int (nI (0))), (5, .int (nI (j)))]) [1, 2, 3, 4, 0, 5] dM_form_65 (by decide) rfl ?_
                  have lp_67 : ∀ (k_67 : Nat) (t : Nat), (t ≤ (pF n f).getD j 0) → (∀ q, q < t → pc n (g ^^^ pfn n q) + 1 ≠ pc n g) → ((pF n f).getD j 0 - t) < k_67 → J 67 [(0, .ref (h)), (1, .int (nI (f))), (2, .int (x)), (3, .int (nI (g))), (4, .int (nI (t))), (5, .int (nI (j)))] [] [((h), .inr (5, [.int (nI (0)), .int (nI (n)), .ref (m1), .int (nI (st)), .ref (m2), .ref (m3), .ref (m4), .int (nI (mn)), .ref (m5), .ref (m6), .ref (m7), .ref (m8), .ref (m9), .ref (ma), .ref (mb)])), kB E (m5) (5) (kn1), kM E (m6) (65812) (d1), kI E (m7) (120) (fo1)] (0) (0) := by
                    intro k_67
                    induction k_67 with
                    | zero => intro t ht hno hk_67; exact absurd hk_67 (Nat.not_lt_zero _)
                    | succ k_67 ih_67 =>
                      intro t ht hno hk_67
                      have ht3 : t < 3 ^ n := by omega
                      have xt := Nat.xor_lt_two_pow hg (pfn_lt n t)
                      refine J_aload_n C 0 dM_form_67 rfl rfl ?_
                      refine J_get C 0 9 hinM rfl rfl (by decide) fkM_27 rfl dM_form_68 ?_
                      refine J_aload_n C 0 dM_form_71 rfl rfl ?_
                      refine J_iload_n C 3 dM_form_72 rfl rfl ?_
                      refine J_aload_n C 0 dM_form_73 rfl rfl ?_
                      refine J_get C 0 10 hinM rfl rfl (by decide) fkM_30 rfl dM_form_74 ?_
                      refine J_aload_n C 0 dM_form_77 rfl rfl ?_
                      refine J_iload C 4 dM_form_78 rfl ?_
                      refine J_callV C (rest := [.ref (m7), .int (nI (g)), .ref (h), .ref (m6)]) [] [((h), .inr (5, [.int (nI (0)), .int (nI (n)), .ref (m1), .int (nI (st)), .ref (m2), .ref (m3), .ref (m4), .int (nI (mn)), .ref (m5), .ref (m6), .ref (m7), .ref (m8), .ref (m9), .ref (ma), .ref (mb)]))] [kB E (m5) (5) (kn1), kM E (m6) (65812) (d1), kI E (m7) (120) (fo1)] 0 (c_M_productAt E l h n st mn m1 m2 m3 m4 m5 m6 m7 m8 m9 ma mb t (by omega) (by omega)) mmM_productAt msM_productAt lkM_88 rfl rfl (rfl) rfl rfl ⟨by decide, by decide⟩ ⟨by decide, by decide⟩ (Nat.le_of_ble_eq_true rfl) dM_form_80 (fun r_c w_c hp => ?_)
                      obtain ⟨rfl, rfl⟩ := hp
                      refine J_norm C (st' := [.int (nI (t + poff n)), .ref (m7), .int (nI (g)), .ref (h), .ref (m6)]) (ws' := [((h), .inr (5, [.int (nI (0)), .int (nI (n)), .ref (m1), .int (nI (st)), .ref (m2), .ref (m3), .ref (m4), .int (nI (mn)), .ref (m5), .ref (m6), .ref (m7), .ref (m8), .ref (m9), .ref (ma), .ref (mb)])), kB E (m5) (5) (kn1), kM E (m6) (65812) (d1), kI E (m7) (120) (fo1)]) (cs' := 0) (ss' := 0) rfl (rfl) rfl rfl ?_
                      refine J_iald C 3 rfl (by omega) (by omega) dM_form_83 ?_
                      refine J_topN C (n' := pfn n t) (hfs t (by omega)) ?_
                      refine J_ixorN C dM_form_84 ?_
                      refine J_callV C (rest := [.ref (m6)]) [] [((h), .inr (5, [.int (nI (0)), .int (nI (n)), .ref (m1), .int (nI (st)), .ref (m2), .ref (m3), .ref (m4), .int (nI (mn)), .ref (m5), .ref (m6), .ref (m7), .ref (m8), .ref (m9), .ref (ma), .ref (mb)]))] [kB E (m5) (5) (kn1), kM E (m6) (65812) (d1), kI E (m7) (120) (fo1)] 0 (c_M_costAt E l h n st mn m1 m2 m3 m4 m5 m6 m7 m8 m9 ma mb (g ^^^ (pfn n t)) (by omega) (by omega)) mmM_costAt msM_costAt lkM_98 rfl rfl (rfl) rfl rfl ⟨by decide, by decide⟩ ⟨by decide, by decide⟩ (Nat.le_of_ble_eq_true rfl) dM_form_85 (fun r_c w_c hp => ?_)
                      obtain ⟨rfl, rfl⟩ := hp
                      refine J_norm C (st' := [.int (nI ((g ^^^ (pfn n t)) + coff n)), .ref (m6)]) (ws' := [((h), .inr (5, [.int (nI (0)), .int (nI (n)), .ref (m1), .int (nI (st)), .ref (m2), .ref (m3), .ref (m4), .int (nI (mn)), .ref (m5), .ref (m6), .ref (m7), .ref (m8), .ref (m9), .ref (ma), .ref (mb)])), kB E (m5) (5) (kn1), kM E (m6) (65812) (d1), kI E (m7) (120) (fo1)]) (cs' := 0) (ss' := 0) rfl (rfl) rfl rfl ?_
                      refine J_iald C 2 rfl (by omega) (by omega) dM_form_88 ?_
                      refine J_topX C (x' := nI (pc n (g ^^^ pfn n t))) (by rw [hcs _ xt, mI_s]) ?_
                      refine J_aload_n C 0 dM_form_89 rfl rfl ?_
                      refine J_get C 0 9 hinM rfl rfl (by decide) fkM_27 rfl dM_form_90 ?_
                      refine J_aload_n C 0 dM_form_93 rfl rfl ?_
                      refine J_iload_n C 3 dM_form_94 rfl rfl ?_
                      refine J_callV C (rest := [.ref (m6), .int (nI (pc n (g ^^^ pfn n t)))]) [] [((h), .inr (5, [.int (nI (0)), .int (nI (n)), .ref (m1), .int (nI (st)), .ref (m2), .ref (m3), .ref (m4), .int (nI (mn)), .ref (m5), .ref (m6), .ref (m7), .ref (m8), .ref (m9), .ref (ma), .ref (mb)]))] [kB E (m5) (5) (kn1), kM E (m6) (65812) (d1), kI E (m7) (120) (fo1)] 0 (c_M_costAt E l h n st mn m1 m2 m3 m4 m5 m6 m7 m8 m9 ma mb g (by omega) (by omega)) mmM_costAt msM_costAt lkM_98 rfl rfl (rfl) rfl rfl ⟨by decide, by decide⟩ ⟨by decide, by decide⟩ (Nat.le_of_ble_eq_true rfl) dM_form_95 (fun r_c w_c hp => ?_)
                      obtain ⟨rfl, rfl⟩ := hp
                      refine J_norm C (st' := [.int (nI (g + coff n)), .ref (m6), .int (nI (pc n (g ^^^ pfn n t)))]) (ws' := [((h), .inr (5, [.int (nI (0)), .int (nI (n)), .ref (m1), .int (nI (st)), .ref (m2), .ref (m3), .ref (m4), .int (nI (mn)), .ref (m5), .ref (m6), .ref (m7), .ref (m8), .ref (m9), .ref (ma), .ref (mb)])), kB E (m5) (5) (kn1), kM E (m6) (65812) (d1), kI E (m7) (120) (fo1)]) (cs' := 0) (ss' := 0) rfl (rfl) rfl rfl ?_
                      refine J_iald C 2 rfl (by omega) (by omega) dM_form_98 ?_
                      refine J_topX C (x' := nI (pc n g)) (by rw [hcs g hg, mI_s]) ?_
                      refine J_iconst C (v := nI (1)) dM_form_99 (by decide) ?_
                      refine J_isubN C dM_form_100 (by omega) ?_
                      refine J_icmp_eq C 110 (nI_toInt (n := pc n (g ^^^ pfn n t)) (by have := pc_le6 hn4 xt; omega)) (nI_toInt (n := (pc n g) - 1) (by have := pc_le6 hn4 hg; omega)) dM_form_101 (by decide) (fun h101 => ?_) (fun h101 => ?_)
                      · have htp : t = (pF n f).getD j 0 := by
                          rcases Nat.lt_or_ge t ((pF n f).getD j 0) with q | q
                          · exact absurd (by omega) (hpl t q)
                          · omega
                        have hdr2 : pF n (g ^^^ pfn n t) = (pF n f).drop (j + 1) := by rw [hps, htp]
                        refine J_iload_n C 3 dM_form_110 rfl rfl ?_
                        refine J_aload_n C 0 dM_form_111 rfl rfl ?_
                        refine J_get C 0 10 hinM rfl rfl (by decide) fkM_30 rfl dM_form_112 ?_
                        refine J_aload_n C 0 dM_form_115 rfl rfl ?_
                        refine J_iload C 4 dM_form_116 rfl ?_
                        refine J_callV C (rest := [.ref (m7), .int (nI (g))]) [] [((h), .inr (5, [.int (nI (0)), .int (nI (n)), .ref (m1), .int (nI (st)), .ref (m2), .ref (m3), .ref (m4), .int (nI (mn)), .ref (m5), .ref (m6), .ref (m7), .ref (m8), .ref (m9), .ref (ma), .ref (mb)]))] [kB E (m5) (5) (kn1), kM E (m6) (65812) (d1), kI E (m7) (120) (fo1)] 0 (c_M_productAt E l h n st mn m1 m2 m3 m4 m5 m6 m7 m8 m9 ma mb t (by omega) (by omega)) mmM_productAt msM_productAt lkM_88 rfl rfl (rfl) rfl rfl ⟨by decide, by decide⟩ ⟨by decide, by decide⟩ (Nat.le_of_ble_eq_true rfl) dM_form_118 (fun r_c w_c hp => ?_)
                        obtain ⟨rfl, rfl⟩ := hp
                        refine J_norm C (st' := [.int (nI (t + poff n)), .ref (m7), .int (nI (g))]) (ws' := [((h), .inr (5, [.int (nI (0)), .int (nI (n)), .ref (m1), .int (nI (st)), .ref (m2), .ref (m3), .ref (m4), .int (nI (mn)), .ref (m5), .ref (m6), .ref (m7), .ref (m8), .ref (m9), .ref (ma), .ref (mb)])), kB E (m5) (5) (kn1), kM E (m6) (65812) (d1), kI E (m7) (120) (fo1)]) (cs' := 0) (ss' := 0) rfl (rfl) rfl rfl ?_
                        refine J_iald C 3 rfl (by omega) (by omega) dM_form_121 ?_
                        refine J_topN C (n' := pfn n t) (hfs t (by omega)) ?_
                        refine J_ixorN C dM_form_122 ?_
                        refine J_istore_n C (lv' := [(0, .ref (h)), (1, .int (nI (f))), (2, .int (x)), (3, .int (nI (g ^^^ (pfn n t)))), (4, .int (nI (t))), (5, .int (nI (j)))]) [1, 2, 3, 0, 4, 5] dM_form_123 rfl (by decide) rfl ?_
                        refine J_iinc C (lv' := [(0, .ref (h)), (1, .int (nI (f))), (2, .int (x)), (3, .int (nI (g ^^^ (pfn n t)))), (4, .int (nI (t))), (5, .int (nI (j + 1)))]) 5 [1, 2, 3, 4, 5, 0] dM_form_124 rfl (jn_inc _) (by decide) rfl ?_
                        refine J_goto C 52 dM_form_127 (by decide) ?_
                        exact ih_52 (g ^^^ (pfn n t)) (nI (t)) (j + 1) (by omega) (Nat.xor_lt_two_pow hg (pfn_lt n t)) (hdr2) (Or.inr (by rw [show j + 1 - 1 = j by omega, ← htp])) (by omega)
                      · have htn : t ≠ (pF n f).getD j 0 := by
                          intro q
                          rw [← q] at hpc
                          omega
                        refine J_iinc C (lv' := [(0, .ref (h)), (1, .int (nI (f))), (2, .int (x)), (3, .int (nI (g))), (4, .int (nI (t + 1))), (5, .int (nI (j)))]) 4 [1, 2, 3, 4, 0, 5] dM_form_104 rfl (jn_inc _) (by decide) rfl ?_
                        refine J_goto C 67 dM_form_107 (by decide) ?_
                        exact ih_67 (t + 1) (by omega) (fun q hq => by by_cases e : q = t; (rw [e]; omega); exact hno q (by omega)) (by omega)
                  exact lp_67 ((pF n f).getD j 0 + 1) 0 (by omega) (fun q hq => by omega) (by omega)
                · refine J_iconst C (v := -1) dM_form_62 (by decide) ?_
                  exact hret _ _ _ _ _ _ dM_form_63 (by decide) (by decide) (⟨_, _, _, rfl, hkn1, hC1, rfl⟩)
          exact lp_52 ((pF n f).length + 1) f (-1) 0 (by omega) (hfn) (rfl) (Or.inl rfl) (by omega)
        · exfalso; omega
      · exfalso; omega
end
section
set_option maxHeartbeats 4000000 in
set_option maxRecDepth 100000 in
theorem c_J_bitCount (E : jE) (l : Launch) (S : Nat) (hS : S < 4096) : Con E l yJ_bitCount bJ_bitCount 1 (some .int) { frames := 0, cells := 0, slots := 0, locals := 0 } [.int (nI (S))] [] (fun r w => r = some (.int (nI (bc S))) ∧ w = []) := by
  refine Con.ofI (by decide) (Nat.le_of_ble_eq_true rfl) ?_
  intro J C hret
  show J 0 [(0, .int (nI (S)))] [] [] 0 0
  refine J_iload_n C 0 dJ_bitCount_0 rfl rfl ?_
  refine J_iload_n C 0 dJ_bitCount_1 rfl rfl ?_
  refine J_iconst C (v := nI (1)) dJ_bitCount_2 (by decide) ?_
  refine J_iushr C dJ_bitCount_3 ?_
  refine J_ldcw C (v := nI (1431655765)) kkJ_265 dJ_bitCount_4 ?_
  refine J_iand C dJ_bitCount_7 ?_
  refine J_isub C dJ_bitCount_8 ?_
  refine J_istore_n C (lv' := [(0, .int ((nI (S)) - ((((nI (S)).toUInt32 >>> ((nI (1)).toUInt32 &&& Int32.toUInt32 31)).toInt32) &&& (nI (1431655765)))))]) [0] dJ_bitCount_9 rfl (by decide) rfl ?_
  refine J_iload_n C 0 dJ_bitCount_10 rfl rfl ?_
  refine J_ldcw C (v := nI (858993459)) kkJ_266 dJ_bitCount_11 ?_
  refine J_iand C dJ_bitCount_14 ?_
  refine J_iload_n C 0 dJ_bitCount_15 rfl rfl ?_
  refine J_iconst C (v := nI (2)) dJ_bitCount_16 (by decide) ?_
  refine J_iushr C dJ_bitCount_17 ?_
  refine J_ldcw C (v := nI (858993459)) kkJ_266 dJ_bitCount_18 ?_
  refine J_iand C dJ_bitCount_21 ?_
  refine J_iadd C dJ_bitCount_22 ?_
  refine J_istore_n C (lv' := [(0, .int ((((nI (S)) - ((((nI (S)).toUInt32 >>> ((nI (1)).toUInt32 &&& Int32.toUInt32 31)).toInt32) &&& (nI (1431655765)))) &&& (nI (858993459))) + (((((nI (S)) - ((((nI (S)).toUInt32 >>> ((nI (1)).toUInt32 &&& Int32.toUInt32 31)).toInt32) &&& (nI (1431655765)))).toUInt32 >>> ((nI (2)).toUInt32 &&& Int32.toUInt32 31)).toInt32) &&& (nI (858993459)))))]) [0] dJ_bitCount_23 rfl (by decide) rfl ?_
  refine J_iload_n C 0 dJ_bitCount_24 rfl rfl ?_
  refine J_iload_n C 0 dJ_bitCount_25 rfl rfl ?_
  refine J_iconst C (v := nI (4)) dJ_bitCount_26 (by decide) ?_
  refine J_iushr C dJ_bitCount_27 ?_
  refine J_iadd C dJ_bitCount_28 ?_
  refine J_ldcw C (v := nI (252645135)) kkJ_267 dJ_bitCount_29 ?_
  refine J_iand C dJ_bitCount_32 ?_
  refine J_istore_n C (lv' := [(0, .int ((((((nI (S)) - ((((nI (S)).toUInt32 >>> ((nI (1)).toUInt32 &&& Int32.toUInt32 31)).toInt32) &&& (nI (1431655765)))) &&& (nI (858993459))) + (((((nI (S)) - ((((nI (S)).toUInt32 >>> ((nI (1)).toUInt32 &&& Int32.toUInt32 31)).toInt32) &&& (nI (1431655765)))).toUInt32 >>> ((nI (2)).toUInt32 &&& Int32.toUInt32 31)).toInt32) &&& (nI (858993459)))) + ((((((nI (S)) - ((((nI (S)).toUInt32 >>> ((nI (1)).toUInt32 &&& Int32.toUInt32 31)).toInt32) &&& (nI (1431655765)))) &&& (nI (858993459))) + (((((nI (S)) - ((((nI (S)).toUInt32 >>> ((nI (1)).toUInt32 &&& Int32.toUInt32 31)).toInt32) &&& (nI (1431655765)))).toUInt32 >>> ((nI (2)).toUInt32 &&& Int32.toUInt32 31)).toInt32) &&& (nI (858993459)))).toUInt32 >>> ((nI (4)).toUInt32 &&& Int32.toUInt32 31)).toInt32)) &&& (nI (252645135))))]) [0] dJ_bitCount_33 rfl (by decide) rfl ?_
  refine J_iload_n C 0 dJ_bitCount_34 rfl rfl ?_
  refine J_iload_n C 0 dJ_bitCount_35 rfl rfl ?_
  refine J_bipush C (v := nI (8)) dJ_bitCount_36 (by decide) ?_
  refine J_iushr C dJ_bitCount_38 ?_
  refine J_iadd C dJ_bitCount_39 ?_
  refine J_istore_n C (lv' := [(0, .int (((((((nI (S)) - ((((nI (S)).toUInt32 >>> ((nI (1)).toUInt32 &&& Int32.toUInt32 31)).toInt32) &&& (nI (1431655765)))) &&& (nI (858993459))) + (((((nI (S)) - ((((nI (S)).toUInt32 >>> ((nI (1)).toUInt32 &&& Int32.toUInt32 31)).toInt32) &&& (nI (1431655765)))).toUInt32 >>> ((nI (2)).toUInt32 &&& Int32.toUInt32 31)).toInt32) &&& (nI (858993459)))) + ((((((nI (S)) - ((((nI (S)).toUInt32 >>> ((nI (1)).toUInt32 &&& Int32.toUInt32 31)).toInt32) &&& (nI (1431655765)))) &&& (nI (858993459))) + (((((nI (S)) - ((((nI (S)).toUInt32 >>> ((nI (1)).toUInt32 &&& Int32.toUInt32 31)).toInt32) &&& (nI (1431655765)))).toUInt32 >>> ((nI (2)).toUInt32 &&& Int32.toUInt32 31)).toInt32) &&& (nI (858993459)))).toUInt32 >>> ((nI (4)).toUInt32 &&& Int32.toUInt32 31)).toInt32)) &&& (nI (252645135))) + ((((((((nI (S)) - ((((nI (S)).toUInt32 >>> ((nI (1)).toUInt32 &&& Int32.toUInt32 31)).toInt32) &&& (nI (1431655765)))) &&& (nI (858993459))) + (((((nI (S)) - ((((nI (S)).toUInt32 >>> ((nI (1)).toUInt32 &&& Int32.toUInt32 31)).toInt32) &&& (nI (1431655765)))).toUInt32 >>> ((nI (2)).toUInt32 &&& Int32.toUInt32 31)).toInt32) &&& (nI (858993459)))) + ((((((nI (S)) - ((((nI (S)).toUInt32 >>> ((nI (1)).toUInt32 &&& Int32.toUInt32 31)).toInt32) &&& (nI (1431655765)))) &&& (nI (858993459))) + (((((nI (S)) - ((((nI (S)).toUInt32 >>> ((nI (1)).toUInt32 &&& Int32.toUInt32 31)).toInt32) &&& (nI (1431655765)))).toUInt32 >>> ((nI (2)).toUInt32 &&& Int32.toUInt32 31)).toInt32) &&& (nI (858993459)))).toUInt32 >>> ((nI (4)).toUInt32 &&& Int32.toUInt32 31)).toInt32)) &&& (nI (252645135))).toUInt32 >>> ((nI (8)).toUInt32 &&& Int32.toUInt32 31)).toInt32)))]) [0] dJ_bitCount_40 rfl (by decide) rfl ?_
  refine J_iload_n C 0 dJ_bitCount_41 rfl rfl ?_
  refine J_iload_n C 0 dJ_bitCount_42 rfl rfl ?_
  refine J_bipush C (v := nI (16)) dJ_bitCount_43 (by decide) ?_
  refine J_iushr C dJ_bitCount_45 ?_
  refine J_iadd C dJ_bitCount_46 ?_
  refine J_istore_n C (lv' := [(0, .int ((((((((nI (S)) - ((((nI (S)).toUInt32 >>> ((nI (1)).toUInt32 &&& Int32.toUInt32 31)).toInt32) &&& (nI (1431655765)))) &&& (nI (858993459))) + (((((nI (S)) - ((((nI (S)).toUInt32 >>> ((nI (1)).toUInt32 &&& Int32.toUInt32 31)).toInt32) &&& (nI (1431655765)))).toUInt32 >>> ((nI (2)).toUInt32 &&& Int32.toUInt32 31)).toInt32) &&& (nI (858993459)))) + ((((((nI (S)) - ((((nI (S)).toUInt32 >>> ((nI (1)).toUInt32 &&& Int32.toUInt32 31)).toInt32) &&& (nI (1431655765)))) &&& (nI (858993459))) + (((((nI (S)) - ((((nI (S)).toUInt32 >>> ((nI (1)).toUInt32 &&& Int32.toUInt32 31)).toInt32) &&& (nI (1431655765)))).toUInt32 >>> ((nI (2)).toUInt32 &&& Int32.toUInt32 31)).toInt32) &&& (nI (858993459)))).toUInt32 >>> ((nI (4)).toUInt32 &&& Int32.toUInt32 31)).toInt32)) &&& (nI (252645135))) + ((((((((nI (S)) - ((((nI (S)).toUInt32 >>> ((nI (1)).toUInt32 &&& Int32.toUInt32 31)).toInt32) &&& (nI (1431655765)))) &&& (nI (858993459))) + (((((nI (S)) - ((((nI (S)).toUInt32 >>> ((nI (1)).toUInt32 &&& Int32.toUInt32 31)).toInt32) &&& (nI (1431655765)))).toUInt32 >>> ((nI (2)).toUInt32 &&& Int32.toUInt32 31)).toInt32) &&& (nI (858993459)))) + ((((((nI (S)) - ((((nI (S)).toUInt32 >>> ((nI (1)).toUInt32 &&& Int32.toUInt32 31)).toInt32) &&& (nI (1431655765)))) &&& (nI (858993459))) + (((((nI (S)) - ((((nI (S)).toUInt32 >>> ((nI (1)).toUInt32 &&& Int32.toUInt32 31)).toInt32) &&& (nI (1431655765)))).toUInt32 >>> ((nI (2)).toUInt32 &&& Int32.toUInt32 31)).toInt32) &&& (nI (858993459)))).toUInt32 >>> ((nI (4)).toUInt32 &&& Int32.toUInt32 31)).toInt32)) &&& (nI (252645135))).toUInt32 >>> ((nI (8)).toUInt32 &&& Int32.toUInt32 31)).toInt32)) + (((((((((nI (S)) - ((((nI (S)).toUInt32 >>> ((nI (1)).toUInt32 &&& Int32.toUInt32 31)).toInt32) &&& (nI (1431655765)))) &&& (nI (858993459))) + (((((nI (S)) - ((((nI (S)).toUInt32 >>> ((nI (1)).toUInt32 &&& Int32.toUInt32 31)).toInt32) &&& (nI (1431655765)))).toUInt32 >>> ((nI (2)).toUInt32 &&& Int32.toUInt32 31)).toInt32) &&& (nI (858993459)))) + ((((((nI (S)) - ((((nI (S)).toUInt32 >>> ((nI (1)).toUInt32 &&& Int32.toUInt32 31)).toInt32) &&& (nI (1431655765)))) &&& (nI (858993459))) + (((((nI (S)) - ((((nI (S)).toUInt32 >>> ((nI (1)).toUInt32 &&& Int32.toUInt32 31)).toInt32) &&& (nI (1431655765)))).toUInt32 >>> ((nI (2)).toUInt32 &&& Int32.toUInt32 31)).toInt32) &&& (nI (858993459)))).toUInt32 >>> ((nI (4)).toUInt32 &&& Int32.toUInt32 31)).toInt32)) &&& (nI (252645135))) + ((((((((nI (S)) - ((((nI (S)).toUInt32 >>> ((nI (1)).toUInt32 &&& Int32.toUInt32 31)).toInt32) &&& (nI (1431655765)))) &&& (nI (858993459))) + (((((nI (S)) - ((((nI (S)).toUInt32 >>> ((nI (1)).toUInt32 &&& Int32.toUInt32 31)).toInt32) &&& (nI (1431655765)))).toUInt32 >>> ((nI (2)).toUInt32 &&& Int32.toUInt32 31)).toInt32) &&& (nI (858993459)))) + ((((((nI (S)) - ((((nI (S)).toUInt32 >>> ((nI (1)).toUInt32 &&& Int32.toUInt32 31)).toInt32) &&& (nI (1431655765)))) &&& (nI (858993459))) + (((((nI (S)) - ((((nI (S)).toUInt32 >>> ((nI (1)).toUInt32 &&& Int32.toUInt32 31)).toInt32) &&& (nI (1431655765)))).toUInt32 >>> ((nI (2)).toUInt32 &&& Int32.toUInt32 31)).toInt32) &&& (nI (858993459)))).toUInt32 >>> ((nI (4)).toUInt32 &&& Int32.toUInt32 31)).toInt32)) &&& (nI (252645135))).toUInt32 >>> ((nI (8)).toUInt32 &&& Int32.toUInt32 31)).toInt32)).toUInt32 >>> ((nI (16)).toUInt32 &&& Int32.toUInt32 31)).toInt32)))]) [0] dJ_bitCount_47 rfl (by decide) rfl ?_
  refine J_iload_n C 0 dJ_bitCount_48 rfl rfl ?_
  refine J_bipush C (v := nI (63)) dJ_bitCount_49 (by decide) ?_
  refine J_iand C dJ_bitCount_51 ?_
  exact hret _ _ _ _ _ _ dJ_bitCount_52 (by decide) (by decide) (⟨by rw [← bcJ_is hS]; rfl, rfl⟩)
set_option maxHeartbeats 4000000 in
set_option maxRecDepth 100000 in
theorem c_M_program_t (E : jE) (l : Launch) (h : Nat) (n : Nat) (st : Nat) (mn : Nat) (m1 : Nat) (m2 : Nat) (m3 : Nat) (m4 : Nat) (m5 : Nat) (m6 : Nat) (m7 : Nat) (m8 : Nat) (m9 : Nat) (ma : Nat) (mb : Nat) (nd : Nat → Nat) (k : Nat) (hk1 : 1 ≤ k) (hk12 : k ≤ 12) : Con E l yM_program bM_program 3 (some .boolean) { frames := 0, cells := 0, slots := 0, locals := 0 } [.ref (h), .int (nI (k))] [((h), .inr (5, [.int (nI (0)), .int (nI (n)), .ref (m1), .int (nI (st)), .ref (m2), .ref (m3), .ref (m4), .int (nI (mn)), .ref (m5), .ref (m6), .ref (m7), .ref (m8), .ref (m9), .ref (ma), .ref (mb)])), kI E (m2) (12) (nd)] (fun r w => r = some (.int (nI 1)) ∧ w = [((h), .inr (5, [.int (nI (0)), .int (nI (n)), .ref (m1), .int (nI (k)), .ref (m2), .ref (m3), .ref (m4), .int (nI (mn)), .ref (m5), .ref (m6), .ref (m7), .ref (m8), .ref (m9), .ref (ma), .ref (mb)])), kI E (m2) (12) (fun _ => 0)]) := by
  refine Con.ofZ (by decide) (Nat.le_of_ble_eq_true rfl) ?_
  intro J C hret
  show J 0 [(0, .ref (h)), (1, .int (nI (k)))] [] [((h), .inr (5, [.int (nI (0)), .int (nI (n)), .ref (m1), .int (nI (st)), .ref (m2), .ref (m3), .ref (m4), .int (nI (mn)), .ref (m5), .ref (m6), .ref (m7), .ref (m8), .ref (m9), .ref (ma), .ref (mb)])), kI E (m2) (12) (nd)] 0 0
  refine J_aload_n C 0 dM_program_0 rfl rfl ?_
  refine J_iconst C (v := nI (0)) dM_program_1 (by decide) ?_
  refine J_put C (ws' := [((h), .inr (5, [.int (nI (0)), .int (nI (n)), .ref (m1), .int (nI (st)), .ref (m2), .ref (m3), .ref (m4), .int (nI (mn)), .ref (m5), .ref (m6), .ref (m7), .ref (m8), .ref (m9), .ref (ma), .ref (mb)])), kI E (m2) (12) (nd)]) 0 0 tyM hinM tyokM nmM rfl rfl (by decide) fkM_53 rfl rfl rfl (Nat.le_of_ble_eq_true rfl) dM_program_2 rfl ?_
  refine J_iload_n C 1 dM_program_5 rfl rfl ?_
  refine J_iconst C (v := nI (1)) dM_program_6 (by decide) ?_
  refine J_icmp_lt C 16 (nI_toInt (n := k) (by omega)) (nI_toInt (n := 1) (by decide)) dM_program_7 (by decide) (fun h7 => ?_) (fun h7 => ?_)
  · exfalso; omega
  · refine J_iload_n C 1 dM_program_10 rfl rfl ?_
    refine J_bipush C (v := nI (12)) dM_program_11 (by decide) ?_
    refine J_icmp_le C 18 (nI_toInt (n := k) (by omega)) (nI_toInt (n := 12) (by decide)) dM_program_13 (by decide) (fun h13 => ?_) (fun h13 => ?_)
    · refine J_aload_n C 0 dM_program_18 rfl rfl ?_
      refine J_iload_n C 1 dM_program_19 rfl rfl ?_
      refine J_put C (ws' := [((h), .inr (5, [.int (nI (0)), .int (nI (n)), .ref (m1), .int (nI (k)), .ref (m2), .ref (m3), .ref (m4), .int (nI (mn)), .ref (m5), .ref (m6), .ref (m7), .ref (m8), .ref (m9), .ref (ma), .ref (mb)])), kI E (m2) (12) (nd)]) 0 3 tyM hinM tyokM nmM rfl rfl (by decide) fkM_49 rfl rfl rfl (Nat.le_of_ble_eq_true rfl) dM_program_20 rfl ?_
      refine J_iconst C (v := nI (0)) dM_program_23 (by decide) ?_
      refine J_istore_n C (lv' := [(0, .ref (h)), (1, .int (nI (k))), (2, .int (nI (0)))]) [1, 2, 0] dM_program_24 rfl (by decide) rfl ?_
      have lp_25 : ∀ (k_25 : Nat) (i : Nat) (f : Nat → Nat), (i ≤ 12) → (∀ j, f j = if j < i then 0 else nd j) → (12 - i) < k_25 → J 25 [(0, .ref (h)), (1, .int (nI (k))), (2, .int (nI (i)))] [] [((h), .inr (5, [.int (nI (0)), .int (nI (n)), .ref (m1), .int (nI (k)), .ref (m2), .ref (m3), .ref (m4), .int (nI (mn)), .ref (m5), .ref (m6), .ref (m7), .ref (m8), .ref (m9), .ref (ma), .ref (mb)])), kI E (m2) (12) (f)] (0) (0) := by
        intro k_25
        induction k_25 with
        | zero => intro i f hi hf hk_25; exact absurd hk_25 (Nat.not_lt_zero _)
        | succ k_25 ih_25 =>
          intro i f hi hf hk_25
          refine J_iload_n C 2 dM_program_25 rfl rfl ?_
          refine J_bipush C (v := nI (12)) dM_program_26 (by decide) ?_
          refine J_icmp_ge C 44 (nI_toInt (n := i) (by omega)) (nI_toInt (n := 12) (by decide)) dM_program_28 (by decide) (fun h28 => ?_) (fun h28 => ?_)
          · refine J_cell C (ws' := [((h), .inr (5, [.int (nI (0)), .int (nI (n)), .ref (m1), .int (nI (k)), .ref (m2), .ref (m3), .ref (m4), .int (nI (mn)), .ref (m5), .ref (m6), .ref (m7), .ref (m8), .ref (m9), .ref (ma), .ref (mb)])), kI E (m2) (12) (fun _ => 0)]) 1 rfl (fun H => kI_congr (fun j hj => by rw [hf j, if_pos (by omega)])) rfl ?_
            refine J_iconst C (v := nI (1)) dM_program_44 (by decide) ?_
            exact hret _ _ _ _ _ _ dM_program_45 (by decide) (by decide) (by decide) (⟨rfl, rfl⟩)
          · refine J_aload_n C 0 dM_program_31 rfl rfl ?_
            refine J_get C 0 4 hinM rfl rfl (by decide) fkM_13 rfl dM_program_32 ?_
            refine J_iload_n C 2 dM_program_35 rfl rfl ?_
            refine J_iconst C (v := nI (0)) dM_program_36 (by decide) ?_
            refine J_iastN C (ws' := [((h), .inr (5, [.int (nI (0)), .int (nI (n)), .ref (m1), .int (nI (k)), .ref (m2), .ref (m3), .ref (m4), .int (nI (mn)), .ref (m5), .ref (m6), .ref (m7), .ref (m8), .ref (m9), .ref (ma), .ref (mb)])), kI E (m2) (12) (upN f i 0)]) 1 rfl (by omega) (by omega) dM_program_37 rfl ?_
            refine J_iinc C (lv' := [(0, .ref (h)), (1, .int (nI (k))), (2, .int (nI (i + 1)))]) 2 [1, 2, 0] dM_program_38 rfl (jn_inc _) (by decide) rfl ?_
            refine J_goto C 25 dM_program_41 (by decide) ?_
            exact ih_25 (i + 1) (upN f i 0) (by omega) (cp_s (t := fun _ => 0) hf) (by omega)
      exact lp_25 (13) 0 nd (by omega) (by intro j; simp) (by omega)
    · exfalso; omega
set_option maxHeartbeats 4000000 in
set_option maxRecDepth 100000 in
theorem c_M_program_f (E : jE) (l : Launch) (h : Nat) (n : Nat) (st : Nat) (mn : Nat) (m1 : Nat) (m2 : Nat) (m3 : Nat) (m4 : Nat) (m5 : Nat) (m6 : Nat) (m7 : Nat) (m8 : Nat) (m9 : Nat) (ma : Nat) (mb : Nat) (x : Int32) (hx : x.toInt < 1 ∨ 12 < x.toInt) : Con E l yM_program bM_program 3 (some .boolean) { frames := 0, cells := 0, slots := 0, locals := 0 } [.ref (h), .int (x)] [((h), .inr (5, [.int (nI (0)), .int (nI (n)), .ref (m1), .int (nI (st)), .ref (m2), .ref (m3), .ref (m4), .int (nI (mn)), .ref (m5), .ref (m6), .ref (m7), .ref (m8), .ref (m9), .ref (ma), .ref (mb)]))] (fun r w => r = some (.int (nI 0)) ∧ w = [((h), .inr (5, [.int (nI (0)), .int (nI (n)), .ref (m1), .int (nI (st)), .ref (m2), .ref (m3), .ref (m4), .int (nI (mn)), .ref (m5), .ref (m6), .ref (m7), .ref (m8), .ref (m9), .ref (ma), .ref (mb)]))]) := by
  refine Con.ofZ (by decide) (Nat.le_of_ble_eq_true rfl) ?_
  intro J C hret
  show J 0 [(0, .ref (h)), (1, .int (x))] [] [((h), .inr (5, [.int (nI (0)), .int (nI (n)), .ref (m1), .int (nI (st)), .ref (m2), .ref (m3), .ref (m4), .int (nI (mn)), .ref (m5), .ref (m6), .ref (m7), .ref (m8), .ref (m9), .ref (ma), .ref (mb)]))] 0 0
  refine J_aload_n C 0 dM_program_0 rfl rfl ?_
  refine J_iconst C (v := nI (0)) dM_program_1 (by decide) ?_
  refine J_put C (ws' := [((h), .inr (5, [.int (nI (0)), .int (nI (n)), .ref (m1), .int (nI (st)), .ref (m2), .ref (m3), .ref (m4), .int (nI (mn)), .ref (m5), .ref (m6), .ref (m7), .ref (m8), .ref (m9), .ref (ma), .ref (mb)]))]) 0 0 tyM hinM tyokM nmM rfl rfl (by decide) fkM_53 rfl rfl rfl (Nat.le_of_ble_eq_true rfl) dM_program_2 rfl ?_
  refine J_iload_n C 1 dM_program_5 rfl rfl ?_
  refine J_iconst C (v := nI (1)) dM_program_6 (by decide) ?_
  refine J_icmp_lt C 16 rfl (nI_toInt (n := 1) (by decide)) dM_program_7 (by decide) (fun h7 => ?_) (fun h7 => ?_)
  · refine J_iconst C (v := nI (0)) dM_program_16 (by decide) ?_
    exact hret _ _ _ _ _ _ dM_program_17 (by decide) (by decide) (by decide) (⟨rfl, rfl⟩)
  · refine J_iload_n C 1 dM_program_10 rfl rfl ?_
    refine J_bipush C (v := nI (12)) dM_program_11 (by decide) ?_
    refine J_icmp_le C 18 rfl (nI_toInt (n := 12) (by decide)) dM_program_13 (by decide) (fun h13 => ?_) (fun h13 => ?_)
    · exfalso; omega
    · refine J_iconst C (v := nI (0)) dM_program_16 (by decide) ?_
      exact hret _ _ _ _ _ _ dM_program_17 (by decide) (by decide) (by decide) (⟨rfl, rfl⟩)
set_option maxHeartbeats 4000000 in
set_option maxRecDepth 100000 in
theorem c_M_need_t (E : jE) (l : Launch) (h : Nat) (n : Nat) (st : Nat) (mn : Nat) (m1 : Nat) (m2 : Nat) (m3 : Nat) (m4 : Nat) (m5 : Nat) (m6 : Nat) (m7 : Nat) (m8 : Nat) (m9 : Nat) (ma : Nat) (mb : Nat) (nd : Nat → Nat) (s : Nat) (t : Nat) (hs12 : st ≤ 12) (hs : s < st) (ht : t < 2 ^ s) : Con E l yM_need bM_need 3 (some .boolean) { frames := 0, cells := 0, slots := 0, locals := 0 } [.ref (h), .int (nI (s)), .int (nI (t))] [((h), .inr (5, [.int (nI (0)), .int (nI (n)), .ref (m1), .int (nI (st)), .ref (m2), .ref (m3), .ref (m4), .int (nI (mn)), .ref (m5), .ref (m6), .ref (m7), .ref (m8), .ref (m9), .ref (ma), .ref (mb)])), kI E (m2) (12) (nd)] (fun r w => r = some (.int (nI 1)) ∧ w = [((h), .inr (5, [.int (nI (0)), .int (nI (n)), .ref (m1), .int (nI (st)), .ref (m2), .ref (m3), .ref (m4), .int (nI (mn)), .ref (m5), .ref (m6), .ref (m7), .ref (m8), .ref (m9), .ref (ma), .ref (mb)])), kI E (m2) (12) (upN nd s t)]) := by
  refine Con.ofZ (by decide) (Nat.le_of_ble_eq_true rfl) ?_
  intro J C hret
  show J 0 [(0, .ref (h)), (1, .int (nI (s))), (2, .int (nI (t)))] [] [((h), .inr (5, [.int (nI (0)), .int (nI (n)), .ref (m1), .int (nI (st)), .ref (m2), .ref (m3), .ref (m4), .int (nI (mn)), .ref (m5), .ref (m6), .ref (m7), .ref (m8), .ref (m9), .ref (ma), .ref (mb)])), kI E (m2) (12) (nd)] 0 0
  have hp := p4096 (show s ≤ 12 by omega)
  refine J_aload_n C 0 dM_need_0 rfl rfl ?_
  refine J_iconst C (v := nI (0)) dM_need_1 (by decide) ?_
  refine J_put C (ws' := [((h), .inr (5, [.int (nI (0)), .int (nI (n)), .ref (m1), .int (nI (st)), .ref (m2), .ref (m3), .ref (m4), .int (nI (mn)), .ref (m5), .ref (m6), .ref (m7), .ref (m8), .ref (m9), .ref (ma), .ref (mb)])), kI E (m2) (12) (nd)]) 0 0 tyM hinM tyokM nmM rfl rfl (by decide) fkM_53 rfl rfl rfl (Nat.le_of_ble_eq_true rfl) dM_need_2 rfl ?_
  refine J_iload_n C 1 dM_need_5 rfl rfl ?_
  refine J_if_lt C 28 (nI_toInt (n := s) (by omega)) dM_need_6 (by decide) (fun h6 => ?_) (fun h6 => ?_)
  · exfalso; omega
  · refine J_iload_n C 1 dM_need_9 rfl rfl ?_
    refine J_aload_n C 0 dM_need_10 rfl rfl ?_
    refine J_get C 0 3 hinM rfl rfl (by decide) fkM_49 rfl dM_need_11 ?_
    refine J_icmp_ge C 28 (nI_toInt (n := s) (by omega)) (nI_toInt (n := st) (by omega)) dM_need_14 (by decide) (fun h14 => ?_) (fun h14 => ?_)
    · exfalso; omega
    · refine J_iload_n C 2 dM_need_17 rfl rfl ?_
      refine J_if_lt C 28 (nI_toInt (n := t) (by omega)) dM_need_18 (by decide) (fun h18 => ?_) (fun h18 => ?_)
      · exfalso; omega
      · refine J_iload_n C 2 dM_need_21 rfl rfl ?_
        refine J_iconst C (v := nI (1)) dM_need_22 (by decide) ?_
        refine J_iload_n C 1 dM_need_23 rfl rfl ?_
        refine J_ishl1 C dM_need_24 (by omega) ?_
        refine J_icmp_lt C 30 (nI_toInt (n := t) (by omega)) (nI_toInt (n := 2 ^ s) (by omega)) dM_need_25 (by decide) (fun h25 => ?_) (fun h25 => ?_)
        · refine J_aload_n C 0 dM_need_30 rfl rfl ?_
          refine J_get C 0 4 hinM rfl rfl (by decide) fkM_13 rfl dM_need_31 ?_
          refine J_iload_n C 1 dM_need_34 rfl rfl ?_
          refine J_iload_n C 2 dM_need_35 rfl rfl ?_
          refine J_iastN C (ws' := [((h), .inr (5, [.int (nI (0)), .int (nI (n)), .ref (m1), .int (nI (st)), .ref (m2), .ref (m3), .ref (m4), .int (nI (mn)), .ref (m5), .ref (m6), .ref (m7), .ref (m8), .ref (m9), .ref (ma), .ref (mb)])), kI E (m2) (12) (upN nd s t)]) 1 rfl (by omega) (by omega) dM_need_36 rfl ?_
          refine J_iconst C (v := nI (1)) dM_need_37 (by decide) ?_
          exact hret _ _ _ _ _ _ dM_need_38 (by decide) (by decide) (by decide) (⟨rfl, rfl⟩)
        · exfalso; omega
set_option maxHeartbeats 4000000 in
set_option maxRecDepth 100000 in
theorem c_M_need_f1 (E : jE) (l : Launch) (h : Nat) (n : Nat) (st : Nat) (mn : Nat) (m1 : Nat) (m2 : Nat) (m3 : Nat) (m4 : Nat) (m5 : Nat) (m6 : Nat) (m7 : Nat) (m8 : Nat) (m9 : Nat) (ma : Nat) (mb : Nat) (x : Int32) (z : Int32) (hs12 : st ≤ 12) (hx : x.toInt < 0 ∨ (st : Int) ≤ x.toInt) : Con E l yM_need bM_need 3 (some .boolean) { frames := 0, cells := 0, slots := 0, locals := 0 } [.ref (h), .int (x), .int (z)] [((h), .inr (5, [.int (nI (0)), .int (nI (n)), .ref (m1), .int (nI (st)), .ref (m2), .ref (m3), .ref (m4), .int (nI (mn)), .ref (m5), .ref (m6), .ref (m7), .ref (m8), .ref (m9), .ref (ma), .ref (mb)]))] (fun r w => r = some (.int (nI 0)) ∧ w = [((h), .inr (5, [.int (nI (0)), .int (nI (n)), .ref (m1), .int (nI (st)), .ref (m2), .ref (m3), .ref (m4), .int (nI (mn)), .ref (m5), .ref (m6), .ref (m7), .ref (m8), .ref (m9), .ref (ma), .ref (mb)]))]) := by
  refine Con.ofZ (by decide) (Nat.le_of_ble_eq_true rfl) ?_
  intro J C hret
  show J 0 [(0, .ref (h)), (1, .int (x)), (2, .int (z))] [] [((h), .inr (5, [.int (nI (0)), .int (nI (n)), .ref (m1), .int (nI (st)), .ref (m2), .ref (m3), .ref (m4), .int (nI (mn)), .ref (m5), .ref (m6), .ref (m7), .ref (m8), .ref (m9), .ref (ma), .ref (mb)]))] 0 0
  refine J_aload_n C 0 dM_need_0 rfl rfl ?_
  refine J_iconst C (v := nI (0)) dM_need_1 (by decide) ?_
  refine J_put C (ws' := [((h), .inr (5, [.int (nI (0)), .int (nI (n)), .ref (m1), .int (nI (st)), .ref (m2), .ref (m3), .ref (m4), .int (nI (mn)), .ref (m5), .ref (m6), .ref (m7), .ref (m8), .ref (m9), .ref (ma), .ref (mb)]))]) 0 0 tyM hinM tyokM nmM rfl rfl (by decide) fkM_53 rfl rfl rfl (Nat.le_of_ble_eq_true rfl) dM_need_2 rfl ?_
  refine J_iload_n C 1 dM_need_5 rfl rfl ?_
  refine J_if_lt C 28 rfl dM_need_6 (by decide) (fun h6 => ?_) (fun h6 => ?_)
  · refine J_iconst C (v := nI (0)) dM_need_28 (by decide) ?_
    exact hret _ _ _ _ _ _ dM_need_29 (by decide) (by decide) (by decide) (⟨rfl, rfl⟩)
  · refine J_iload_n C 1 dM_need_9 rfl rfl ?_
    refine J_aload_n C 0 dM_need_10 rfl rfl ?_
    refine J_get C 0 3 hinM rfl rfl (by decide) fkM_49 rfl dM_need_11 ?_
    refine J_icmp_ge C 28 rfl (nI_toInt (n := st) (by omega)) dM_need_14 (by decide) (fun h14 => ?_) (fun h14 => ?_)
    · refine J_iconst C (v := nI (0)) dM_need_28 (by decide) ?_
      exact hret _ _ _ _ _ _ dM_need_29 (by decide) (by decide) (by decide) (⟨rfl, rfl⟩)
    · exfalso; omega
set_option maxHeartbeats 4000000 in
set_option maxRecDepth 100000 in
theorem c_M_need_f2 (E : jE) (l : Launch) (h : Nat) (n : Nat) (st : Nat) (mn : Nat) (m1 : Nat) (m2 : Nat) (m3 : Nat) (m4 : Nat) (m5 : Nat) (m6 : Nat) (m7 : Nat) (m8 : Nat) (m9 : Nat) (ma : Nat) (mb : Nat) (s : Nat) (z : Int32) (hs12 : st ≤ 12) (hs : s < st) (hx : z.toInt < 0 ∨ ((2 ^ s : Nat) : Int) ≤ z.toInt) : Con E l yM_need bM_need 3 (some .boolean) { frames := 0, cells := 0, slots := 0, locals := 0 } [.ref (h), .int (nI (s)), .int (z)] [((h), .inr (5, [.int (nI (0)), .int (nI (n)), .ref (m1), .int (nI (st)), .ref (m2), .ref (m3), .ref (m4), .int (nI (mn)), .ref (m5), .ref (m6), .ref (m7), .ref (m8), .ref (m9), .ref (ma), .ref (mb)]))] (fun r w => r = some (.int (nI 0)) ∧ w = [((h), .inr (5, [.int (nI (0)), .int (nI (n)), .ref (m1), .int (nI (st)), .ref (m2), .ref (m3), .ref (m4), .int (nI (mn)), .ref (m5), .ref (m6), .ref (m7), .ref (m8), .ref (m9), .ref (ma), .ref (mb)]))]) := by
  refine Con.ofZ (by decide) (Nat.le_of_ble_eq_true rfl) ?_
  intro J C hret
  show J 0 [(0, .ref (h)), (1, .int (nI (s))), (2, .int (z))] [] [((h), .inr (5, [.int (nI (0)), .int (nI (n)), .ref (m1), .int (nI (st)), .ref (m2), .ref (m3), .ref (m4), .int (nI (mn)), .ref (m5), .ref (m6), .ref (m7), .ref (m8), .ref (m9), .ref (ma), .ref (mb)]))] 0 0
  have hp := p4096 (show s ≤ 12 by omega)
  refine J_aload_n C 0 dM_need_0 rfl rfl ?_
  refine J_iconst C (v := nI (0)) dM_need_1 (by decide) ?_
  refine J_put C (ws' := [((h), .inr (5, [.int (nI (0)), .int (nI (n)), .ref (m1), .int (nI (st)), .ref (m2), .ref (m3), .ref (m4), .int (nI (mn)), .ref (m5), .ref (m6), .ref (m7), .ref (m8), .ref (m9), .ref (ma), .ref (mb)]))]) 0 0 tyM hinM tyokM nmM rfl rfl (by decide) fkM_53 rfl rfl rfl (Nat.le_of_ble_eq_true rfl) dM_need_2 rfl ?_
  refine J_iload_n C 1 dM_need_5 rfl rfl ?_
  refine J_if_lt C 28 (nI_toInt (n := s) (by omega)) dM_need_6 (by decide) (fun h6 => ?_) (fun h6 => ?_)
  · exfalso; omega
  · refine J_iload_n C 1 dM_need_9 rfl rfl ?_
    refine J_aload_n C 0 dM_need_10 rfl rfl ?_
    refine J_get C 0 3 hinM rfl rfl (by decide) fkM_49 rfl dM_need_11 ?_
    refine J_icmp_ge C 28 (nI_toInt (n := s) (by omega)) (nI_toInt (n := st) (by omega)) dM_need_14 (by decide) (fun h14 => ?_) (fun h14 => ?_)
    · exfalso; omega
    · refine J_iload_n C 2 dM_need_17 rfl rfl ?_
      refine J_if_lt C 28 rfl dM_need_18 (by decide) (fun h18 => ?_) (fun h18 => ?_)
      · refine J_iconst C (v := nI (0)) dM_need_28 (by decide) ?_
        exact hret _ _ _ _ _ _ dM_need_29 (by decide) (by decide) (by decide) (⟨rfl, rfl⟩)
      · refine J_iload_n C 2 dM_need_21 rfl rfl ?_
        refine J_iconst C (v := nI (1)) dM_need_22 (by decide) ?_
        refine J_iload_n C 1 dM_need_23 rfl rfl ?_
        refine J_ishl1 C dM_need_24 (by omega) ?_
        refine J_icmp_lt C 30 rfl (nI_toInt (n := 2 ^ s) (by omega)) dM_need_25 (by decide) (fun h25 => ?_) (fun h25 => ?_)
        · exfalso; omega
        · refine J_iconst C (v := nI (0)) dM_need_28 (by decide) ?_
          exact hret _ _ _ _ _ _ dM_need_29 (by decide) (by decide) (by decide) (⟨rfl, rfl⟩)
set_option maxHeartbeats 4000000 in
set_option maxRecDepth 100000 in
theorem c_M_count (E : jE) (l : Launch) (S : Nat) (hS : S < 4096) : Con E l yM_count bM_count 3 (some .int) { frames := 0, cells := 0, slots := 0, locals := 0 } [.int (nI (S))] [] (fun r w => r = some (.int (nI (bc S))) ∧ w = []) := by
  refine Con.ofI (by decide) (Nat.le_of_ble_eq_true rfl) ?_
  intro J C hret
  show J 0 [(0, .int (nI (S)))] [] [] 0 0
  refine J_iconst C (v := nI (0)) dM_count_0 (by decide) ?_
  refine J_istore_n C (lv' := [(0, .int (nI (S))), (1, .int (nI (0)))]) [1, 0] dM_count_1 rfl (by decide) rfl ?_
  refine J_iconst C (v := nI (0)) dM_count_2 (by decide) ?_
  refine J_istore_n C (lv' := [(0, .int (nI (S))), (1, .int (nI (0))), (2, .int (nI (0)))]) [1, 2, 0] dM_count_3 rfl (by decide) rfl ?_
  have lp_4 : ∀ (k_4 : Nat) (k : Nat), (k ≤ 12) → (12 - k) < k_4 → J 4 [(0, .int (nI (S))), (1, .int (nI (bcn k S))), (2, .int (nI (k)))] [] [] (0) (0) := by
    intro k_4
    induction k_4 with
    | zero => intro k hk hk_4; exact absurd hk_4 (Nat.not_lt_zero _)
    | succ k_4 ih_4 =>
      intro k hk hk_4
      refine J_iload_n C 2 dM_count_4 rfl rfl ?_
      refine J_bipush C (v := nI (12)) dM_count_5 (by decide) ?_
      refine J_icmp_ge C 24 (nI_toInt (n := k) (by omega)) (nI_toInt (n := 12) (by decide)) dM_count_7 (by decide) (fun h7 => ?_) (fun h7 => ?_)
      · obtain rfl : 12 = k := by omega
        refine J_iload_n C 1 dM_count_24 rfl rfl ?_
        exact hret _ _ _ _ _ _ dM_count_25 (by decide) (by decide) (⟨rfl, rfl⟩)
      · refine J_iload_n C 1 dM_count_10 rfl rfl ?_
        refine J_iload_n C 0 dM_count_11 rfl rfl ?_
        refine J_iload_n C 2 dM_count_12 rfl rfl ?_
        refine J_ishrN C dM_count_13 (by omega) (by omega) ?_
        refine J_iconst C (v := nI (1)) dM_count_14 (by decide) ?_
        refine J_iandN C dM_count_15 ?_
        refine J_iaddN C dM_count_16 ?_
        refine J_topN C (n' := bcn (k + 1) S) (bcn_add k S) ?_
        refine J_istore_n C (lv' := [(0, .int (nI (S))), (1, .int (nI (bcn (k + 1) S))), (2, .int (nI (k)))]) [1, 0, 2] dM_count_17 rfl (by decide) rfl ?_
        refine J_iinc C (lv' := [(0, .int (nI (S))), (1, .int (nI (bcn (k + 1) S))), (2, .int (nI (k + 1)))]) 2 [1, 2, 0] dM_count_18 rfl (jn_inc _) (by decide) rfl ?_
        refine J_goto C 4 dM_count_21 (by decide) ?_
        exact ih_4 (k + 1) (by omega) (by omega)
  exact lp_4 (13) 0 (by omega) (by omega)
set_option maxHeartbeats 4000000 in
set_option maxRecDepth 100000 in
theorem c_M_findEnd_n (E : jE) (l : Launch) (h : Nat) (n : Nat) (st : Nat) (mn : Nat) (m1 : Nat) (m2 : Nat) (m3 : Nat) (m4 : Nat) (m5 : Nat) (m6 : Nat) (m7 : Nat) (m8 : Nat) (m9 : Nat) (ma : Nat) (mb : Nat) (nd : Nat → Nat) (co : Nat → Nat) (qq : Nat → Nat) (sr : Nat → Nat) (bw : Nat → Nat) (b : Nat) (hg : mG st nd) (hb : b < 2 ^ 31) (hco : ∀ j, co j ≤ 1) (hno0 : ∀ qs, ¬ mP st nd b 0 qs (2 ^ (st - 1))) : Con E l yM_findEnd bM_findEnd 7 (some .int) { frames := 1, cells := 0, slots := 0, locals := 22 } [.ref (h), .int (nI (b))] [((h), .inr (5, [.int (nI (0)), .int (nI (n)), .ref (m1), .int (nI (st)), .ref (m2), .ref (m3), .ref (m4), .int (nI (mn)), .ref (m5), .ref (m6), .ref (m7), .ref (m8), .ref (m9), .ref (ma), .ref (mb)])), kI E (m2) (12) (nd), kB E (m8) (4096) (co), kI E (m9) (4096) (qq), kM E (ma) (4096) (sr), kI E (mb) (4096) (bw)] (fun r w => ∃ c1 q1 s1 b1 : Nat → Nat, r = some (.int (-1)) ∧ (∀ j, c1 j ≤ 1) ∧ w = [((h), .inr (5, [.int (nI (0)), .int (nI (n)), .ref (m1), .int (nI (st)), .ref (m2), .ref (m3), .ref (m4), .int (nI (mn)), .ref (m5), .ref (m6), .ref (m7), .ref (m8), .ref (m9), .ref (ma), .ref (mb)])), kI E (m2) (12) (nd), kB E (m8) (4096) (c1), kI E (m9) (4096) (q1), kM E (ma) (4096) (s1), kI E (mb) (4096) (b1)]) := by
  refine Con.ofI (by decide) (Nat.le_of_ble_eq_true rfl) ?_
  intro J C hret
  show J 0 [(0, .ref (h)), (1, .int (nI (b)))] [] [((h), .inr (5, [.int (nI (0)), .int (nI (n)), .ref (m1), .int (nI (st)), .ref (m2), .ref (m3), .ref (m4), .int (nI (mn)), .ref (m5), .ref (m6), .ref (m7), .ref (m8), .ref (m9), .ref (ma), .ref (mb)])), kI E (m2) (12) (nd), kB E (m8) (4096) (co), kI E (m9) (4096) (qq), kM E (ma) (4096) (sr), kI E (mb) (4096) (bw)] 0 0
  have hm1 := hg.1
  have hm12 := hg.2.1
  have hp12 := p4096 hm12
  have hpm := Nat.two_pow_pos st
  have hpg : 2 ^ (st - 1) < 2 ^ st := Nat.pow_lt_pow_right (by omega) (by omega)
  refine J_iconst C (v := nI (0)) dM_findEnd_0 (by decide) ?_
  refine J_istore_n C (lv' := [(0, .ref (h)), (1, .int (nI (b))), (2, .int (nI (0)))]) [1, 2, 0] dM_findEnd_1 rfl (by decide) rfl ?_
  have lp_2 : ∀ (k_2 : Nat) (i : Nat) (f : Nat → Nat), (i ≤ 4096) → (∀ j, f j = if j < i then 0 else co j) → (4096 - i) < k_2 → J 2 [(0, .ref (h)), (1, .int (nI (b))), (2, .int (nI (i)))] [] [((h), .inr (5, [.int (nI (0)), .int (nI (n)), .ref (m1), .int (nI (st)), .ref (m2), .ref (m3), .ref (m4), .int (nI (mn)), .ref (m5), .ref (m6), .ref (m7), .ref (m8), .ref (m9), .ref (ma), .ref (mb)])), kI E (m2) (12) (nd), kB E (m8) (4096) (f), kI E (m9) (4096) (qq), kM E (ma) (4096) (sr), kI E (mb) (4096) (bw)] (0) (0) := by
    intro k_2
    induction k_2 with
    | zero => intro i f hi hf hk_2; exact absurd hk_2 (Nat.not_lt_zero _)
    | succ k_2 ih_2 =>
      intro i f hi hf hk_2
      refine J_iload_n C 2 dM_findEnd_2 rfl rfl ?_
      refine J_sipush C (v := nI (4096)) dM_findEnd_3 (by decide) ?_
      refine J_icmp_ge C 22 (nI_toInt (n := i) (by omega)) (nI_toInt (n := 4096) (by decide)) dM_findEnd_6 (by decide) (fun h6 => ?_) (fun h6 => ?_)
      · obtain rfl : 4096 = i := by omega
        refine J_aload_n C 0 dM_findEnd_22 rfl rfl ?_
        refine J_get C 0 11 hinM rfl rfl (by decide) fkM_33 rfl dM_findEnd_23 ?_
        refine J_iconst C (v := nI (0)) dM_findEnd_26 (by decide) ?_
        refine J_iconst C (v := nI (1)) dM_findEnd_27 (by decide) ?_
        refine J_zastN C (ws' := [((h), .inr (5, [.int (nI (0)), .int (nI (n)), .ref (m1), .int (nI (st)), .ref (m2), .ref (m3), .ref (m4), .int (nI (mn)), .ref (m5), .ref (m6), .ref (m7), .ref (m8), .ref (m9), .ref (ma), .ref (mb)])), kI E (m2) (12) (nd), kB E (m8) (4096) (upN f 0 1), kI E (m9) (4096) (qq), kM E (ma) (4096) (sr), kI E (mb) (4096) (bw)]) 2 rfl (by omega) (by omega) dM_findEnd_28 (by decide) rfl ?_
        refine J_aload_n C 0 dM_findEnd_29 rfl rfl ?_
        refine J_get C 0 12 hinM rfl rfl (by decide) fkM_36 rfl dM_findEnd_30 ?_
        refine J_iconst C (v := nI (0)) dM_findEnd_33 (by decide) ?_
        refine J_iconst C (v := nI (0)) dM_findEnd_34 (by decide) ?_
        refine J_iastN C (ws' := [((h), .inr (5, [.int (nI (0)), .int (nI (n)), .ref (m1), .int (nI (st)), .ref (m2), .ref (m3), .ref (m4), .int (nI (mn)), .ref (m5), .ref (m6), .ref (m7), .ref (m8), .ref (m9), .ref (ma), .ref (mb)])), kI E (m2) (12) (nd), kB E (m8) (4096) (upN f 0 1), kI E (m9) (4096) (upN qq 0 0), kM E (ma) (4096) (sr), kI E (mb) (4096) (bw)]) 3 rfl (by omega) (by omega) dM_findEnd_35 rfl ?_
        refine J_aload_n C 0 dM_findEnd_36 rfl rfl ?_
        refine J_get C 0 13 hinM rfl rfl (by decide) fkM_39 rfl dM_findEnd_37 ?_
        refine J_iconst C (v := nI (0)) dM_findEnd_40 (by decide) ?_
        refine J_iconst C (v := -1) dM_findEnd_41 (by decide) ?_
        refine J_iastM C (ws' := [((h), .inr (5, [.int (nI (0)), .int (nI (n)), .ref (m1), .int (nI (st)), .ref (m2), .ref (m3), .ref (m4), .int (nI (mn)), .ref (m5), .ref (m6), .ref (m7), .ref (m8), .ref (m9), .ref (ma), .ref (mb)])), kI E (m2) (12) (nd), kB E (m8) (4096) (upN f 0 1), kI E (m9) (4096) (upN qq 0 0), kM E (ma) (4096) (upN sr 0 0), kI E (mb) (4096) (bw)]) 4 rfl (by omega) (by omega) (mI_0.symm) dM_findEnd_42 rfl ?_
        refine J_iconst C (v := nI (1)) dM_findEnd_43 (by decide) ?_
        refine J_istore_n C (lv' := [(0, .ref (h)), (1, .int (nI (b))), (2, .int (nI (1)))]) [1, 2, 0] dM_findEnd_44 rfl (by decide) rfl ?_
        refine J_iconst C (v := nI (0)) dM_findEnd_45 (by decide) ?_
        refine J_istore_n C (lv' := [(0, .ref (h)), (1, .int (nI (b))), (2, .int (nI (1))), (3, .int (nI (0)))]) [1, 2, 3, 0] dM_findEnd_46 rfl (by decide) rfl ?_
        have lp_47 : ∀ (k_47 : Nat) (fd k : Nat) (c2 q2 s2 b2 : Nat → Nat) (π2 : Nat → List Nat), (k ≤ fd) → (fS st nd b k 0 fd c2 q2 s2 b2 π2) → (4097 - k) < k_47 → J 47 [(0, .ref (h)), (1, .int (nI (b))), (2, .int (nI (fd))), (3, .int (nI (k)))] [] [((h), .inr (5, [.int (nI (0)), .int (nI (n)), .ref (m1), .int (nI (st)), .ref (m2), .ref (m3), .ref (m4), .int (nI (mn)), .ref (m5), .ref (m6), .ref (m7), .ref (m8), .ref (m9), .ref (ma), .ref (mb)])), kI E (m2) (12) (nd), kB E (m8) (4096) (c2), kI E (m9) (4096) (q2), kM E (ma) (4096) (s2), kI E (mb) (4096) (b2)] (0) (0) := by
          intro k_47
          induction k_47 with
          | zero => intro fd k c2 q2 s2 b2 π2 hkf h2 hk_47; exact absurd hk_47 (Nat.not_lt_zero _)
          | succ k_47 ih_47 =>
            intro fd k c2 q2 s2 b2 π2 hkf h2 hk_47
            have hfd := fS_found hm12 h2
            refine J_iload_n C 3 dM_findEnd_47 rfl rfl ?_
            refine J_iload_n C 2 dM_findEnd_48 rfl rfl ?_
            refine J_icmp_ge C 179 (nI_toInt (n := k) (by omega)) (nI_toInt (n := fd) (by omega)) dM_findEnd_49 (by decide) (fun h49 => ?_) (fun h49 => ?_)
            · refine J_iconst C (v := -1) dM_findEnd_179 (by decide) ?_
              exact hret _ _ _ _ _ _ dM_findEnd_180 (by decide) (by decide) (⟨_, _, _, _, rfl, h2.2.2.2.2, rfl⟩)
            · refine J_aload_n C 0 dM_findEnd_52 rfl rfl ?_
              refine J_get C 0 12 hinM rfl rfl (by decide) fkM_36 rfl dM_findEnd_53 ?_
              refine J_iload_n C 3 dM_findEnd_56 rfl rfl ?_
              refine J_iald C 3 rfl (by omega) (by omega) dM_findEnd_57 ?_
              refine J_istore C (lv' := [(0, .ref (h)), (1, .int (nI (b))), (2, .int (nI (fd))), (3, .int (nI (k))), (4, .int (nI (q2 k)))]) [1, 2, 3, 4, 0] dM_findEnd_58 (by decide) rfl ?_
              refine J_iload C 4 dM_findEnd_60 rfl ?_
              refine J_iconst C (v := nI (1)) dM_findEnd_62 (by decide) ?_
              refine J_aload_n C 0 dM_findEnd_63 rfl rfl ?_
              refine J_get C 0 3 hinM rfl rfl (by decide) fkM_49 rfl dM_findEnd_64 ?_
              refine J_iconst C (v := nI (1)) dM_findEnd_67 (by decide) ?_
              refine J_isubN C dM_findEnd_68 (by omega) ?_
              refine J_ishl1 C dM_findEnd_69 (by omega) ?_
              refine J_icmp_ne C 75 (nI_toInt (n := q2 k) (by have := fI_lt h2.1 k (by omega); omega)) (nI_toInt (n := 2 ^ (st - 1)) (by omega)) dM_findEnd_70 (by decide) (fun h70 => ?_) (fun h70 => ?_)
              · have hne : q2 k ≠ 2 ^ (st - 1) := by omega
                refine J_iconst C (v := nI (0)) dM_findEnd_75 (by decide) ?_
                refine J_istore C (lv' := [(0, .ref (h)), (1, .int (nI (b))), (2, .int (nI (fd))), (3, .int (nI (k))), (4, .int (nI (q2 k))), (5, .int (nI (0)))]) [1, 2, 3, 4, 5, 0] dM_findEnd_76 (by decide) rfl ?_
                have lp_78 : ∀ (k_78 : Nat) (fd3 s : Nat) (c3 q3 s3 b3 : Nat → Nat) (π3 : Nat → List Nat), (k < fd3) → (s ≤ st) → (q3 k = q2 k) → (fS st nd b k s fd3 c3 q3 s3 b3 π3) → (st - s) < k_78 → J 78 [(0, .ref (h)), (1, .int (nI (b))), (2, .int (nI (fd3))), (3, .int (nI (k))), (4, .int (nI (q2 k))), (5, .int (nI (s)))] [] [((h), .inr (5, [.int (nI (0)), .int (nI (n)), .ref (m1), .int (nI (st)), .ref (m2), .ref (m3), .ref (m4), .int (nI (mn)), .ref (m5), .ref (m6), .ref (m7), .ref (m8), .ref (m9), .ref (ma), .ref (mb)])), kI E (m2) (12) (nd), kB E (m8) (4096) (c3), kI E (m9) (4096) (q3), kM E (ma) (4096) (s3), kI E (mb) (4096) (b3)] (0) (0) := by
                  intro k_78
                  induction k_78 with
                  | zero => intro fd3 s c3 q3 s3 b3 π3 hk3 hs hqk h3 hk_78; exact absurd hk_78 (Nat.not_lt_zero _)
                  | succ k_78 ih_78 =>
                    intro fd3 s c3 q3 s3 b3 π3 hk3 hs hqk h3 hk_78
                    have hfd3 := fS_found hm12 h3
                    have hqlt := fI_lt h3.1 k hk3
                    rw [hqk] at hqlt
                    refine J_iload C 5 dM_findEnd_78 rfl ?_
                    refine J_aload_n C 0 dM_findEnd_80 rfl rfl ?_
                    refine J_get C 0 3 hinM rfl rfl (by decide) fkM_49 rfl dM_findEnd_81 ?_
                    refine J_icmp_ge C 173 (nI_toInt (n := s) (by omega)) (nI_toInt (n := st) (by omega)) dM_findEnd_84 (by decide) (fun h84 => ?_) (fun h84 => ?_)
                    · obtain rfl : st = s := by omega
                      refine J_iinc C (lv' := [(0, .ref (h)), (1, .int (nI (b))), (2, .int (nI (fd3))), (3, .int (nI (k + 1))), (4, .int (nI (q2 k))), (5, .int (nI (st)))]) 3 [1, 2, 3, 0, 4, 5] dM_findEnd_173 rfl (jn_inc _) (by decide) rfl ?_
                      refine J_goto C 47 dM_findEnd_176 (by decide) ?_
                      refine J_lv C (lv' := [(0, .ref (h)), (1, .int (nI (b))), (2, .int (nI (fd3))), (3, .int (nI (k + 1)))]) [0, 1, 2, 3] rfl ?_
                      exact ih_47 fd3 (k + 1) c3 q3 s3 b3 π3 (by omega) (fS_next h3 (by rw [hqk]; exact hne)) (by omega)
                    · have hnl := flip_lt hqlt (show s < st by omega)
                      have hnds := hg.2.2 s (by omega)
                      have hnd12 : nd s < 2 ^ st := Nat.lt_trans hnds (Nat.pow_lt_pow_right (by omega) (by omega))
                      have hxx := Nat.xor_lt_two_pow hnd12 (Nat.and_lt_two_pow (nd s) hqlt)
                      refine J_iload C 4 dM_findEnd_87 rfl ?_
                      refine J_iconst C (v := nI (1)) dM_findEnd_89 (by decide) ?_
                      refine J_iload C 5 dM_findEnd_90 rfl ?_
                      refine J_ishl1 C dM_findEnd_92 (by omega) ?_
                      refine J_ixorN C dM_findEnd_93 ?_
                      refine J_istore C (lv' := [(0, .ref (h)), (1, .int (nI (b))), (2, .int (nI (fd3))), (3, .int (nI (k))), (4, .int (nI (q2 k))), (5, .int (nI (s))), (6, .int (nI ((q2 k) ^^^ (2 ^ s))))]) [1, 2, 3, 4, 5, 6, 0] dM_findEnd_94 (by decide) rfl ?_
                      refine J_aload_n C 0 dM_findEnd_96 rfl rfl ?_
                      refine J_get C 0 4 hinM rfl rfl (by decide) fkM_13 rfl dM_findEnd_97 ?_
                      refine J_iload C 5 dM_findEnd_100 rfl ?_
                      refine J_iald C 1 rfl (by omega) (by omega) dM_findEnd_102 ?_
                      refine J_iload C 4 dM_findEnd_103 rfl ?_
                      refine J_iconst C (v := -1) dM_findEnd_105 (by decide) ?_
                      refine J_ixor C dM_findEnd_106 ?_
                      refine J_iand C dM_findEnd_107 ?_
                      refine J_topX C (x' := nI (nd s ^^^ (nd s &&& q2 k))) (jn_notandN _ _) ?_
                      refine J_if_ne C 167 (nI_toInt (n := nd s ^^^ (nd s &&& q2 k)) (by omega)) dM_findEnd_108 (by decide) (fun h108 => ?_) (fun h108 => ?_)
                      · have hno : mok st nd b (q3 k) s → c3 (q3 k ^^^ 2 ^ s) ≠ 0 := by
                          intro q
                          have e1 := (notand_0 (a := nd s) (b := q2 k)).mpr (by rw [← hqk]; exact q.2.1); exfalso; omega
                        refine J_iinc C (lv' := [(0, .ref (h)), (1, .int (nI (b))), (2, .int (nI (fd3))), (3, .int (nI (k))), (4, .int (nI (q2 k))), (5, .int (nI (s + 1))), (6, .int (nI ((q2 k) ^^^ (2 ^ s))))]) 5 [1, 2, 3, 4, 5, 0, 6] dM_findEnd_167 rfl (jn_inc _) (by decide) rfl ?_
                        refine J_goto C 78 dM_findEnd_170 (by decide) ?_
                        refine J_lv C (lv' := [(0, .ref (h)), (1, .int (nI (b))), (2, .int (nI (fd3))), (3, .int (nI (k))), (4, .int (nI (q2 k))), (5, .int (nI (s + 1)))]) [0, 1, 2, 3, 4, 5] rfl ?_
                        exact ih_78 fd3 (s + 1) c3 q3 s3 b3 π3 (hk3) (by omega) (hqk) (fS_skip hg.2.1 h3 hk3 (by omega) hno) (by omega)
                      · have hsub : nd s &&& q2 k = nd s := notand_0.mp (by omega)
                        refine J_iload C 6 dM_findEnd_111 rfl ?_
                        refine J_callS C (rest := []) [] [] [((h), .inr (5, [.int (nI (0)), .int (nI (n)), .ref (m1), .int (nI (st)), .ref (m2), .ref (m3), .ref (m4), .int (nI (mn)), .ref (m5), .ref (m6), .ref (m7), .ref (m8), .ref (m9), .ref (ma), .ref (mb)])), kI E (m2) (12) (nd), kB E (m8) (4096) (c3), kI E (m9) (4096) (q3), kM E (ma) (4096) (s3), kI E (mb) (4096) (b3)] (c_M_count E l ((q2 k) ^^^ (2 ^ s)) (by omega)) mmM_count lkM_104 (rfl) rfl rfl ⟨by decide, by decide⟩ ⟨by decide, by decide⟩ (Nat.le_of_ble_eq_true rfl) dM_findEnd_113 (fun r_c w_c hp => ?_)
                        obtain ⟨rfl, rfl⟩ := hp
                        refine J_norm C (st' := [.int (nI (bc ((q2 k) ^^^ (2 ^ s))))]) (ws' := [((h), .inr (5, [.int (nI (0)), .int (nI (n)), .ref (m1), .int (nI (st)), .ref (m2), .ref (m3), .ref (m4), .int (nI (mn)), .ref (m5), .ref (m6), .ref (m7), .ref (m8), .ref (m9), .ref (ma), .ref (mb)])), kI E (m2) (12) (nd), kB E (m8) (4096) (c3), kI E (m9) (4096) (q3), kM E (ma) (4096) (s3), kI E (mb) (4096) (b3)]) (cs' := 0) (ss' := 0) rfl (rfl) rfl rfl ?_
                        refine J_iload_n C 1 dM_findEnd_116 rfl rfl ?_
                        refine J_icmp_gt C 167 (nI_toInt (n := bc ((q2 k) ^^^ (2 ^ s))) (by have := bc_12 (q2 k ^^^ 2 ^ s); omega)) (nI_toInt (n := b) (hb)) dM_findEnd_117 (by decide) (fun h117 => ?_) (fun h117 => ?_)
                        · have hno : mok st nd b (q3 k) s → c3 (q3 k ^^^ 2 ^ s) ≠ 0 := by
                            intro q
                            have := q.2.2; rw [hqk] at this; omega
                          refine J_iinc C (lv' := [(0, .ref (h)), (1, .int (nI (b))), (2, .int (nI (fd3))), (3, .int (nI (k))), (4, .int (nI (q2 k))), (5, .int (nI (s + 1))), (6, .int (nI ((q2 k) ^^^ (2 ^ s))))]) 5 [1, 2, 3, 4, 5, 0, 6] dM_findEnd_167 rfl (jn_inc _) (by decide) rfl ?_
                          refine J_goto C 78 dM_findEnd_170 (by decide) ?_
                          refine J_lv C (lv' := [(0, .ref (h)), (1, .int (nI (b))), (2, .int (nI (fd3))), (3, .int (nI (k))), (4, .int (nI (q2 k))), (5, .int (nI (s + 1)))]) [0, 1, 2, 3, 4, 5] rfl ?_
                          exact ih_78 fd3 (s + 1) c3 q3 s3 b3 π3 (hk3) (by omega) (hqk) (fS_skip hg.2.1 h3 hk3 (by omega) hno) (by omega)
                        · have hok : mok st nd b (q3 k) s := ⟨by omega, by rw [hqk]; exact hsub, by rw [hqk]; omega⟩
                          refine J_aload_n C 0 dM_findEnd_120 rfl rfl ?_
                          refine J_get C 0 11 hinM rfl rfl (by decide) fkM_33 rfl dM_findEnd_121 ?_
                          refine J_iload C 6 dM_findEnd_124 rfl ?_
                          refine J_zald C 2 rfl (by omega) (by omega) dM_findEnd_126 ?_
                          refine J_if_eq C 133 (nI_toInt (n := c3 ((q2 k) ^^^ (2 ^ s))) (by have := h3.2.2.2.2 (q2 k ^^^ 2 ^ s); omega)) dM_findEnd_127 (by decide) (fun h127 => ?_) (fun h127 => ?_)
                          · have hz : c3 (q3 k ^^^ 2 ^ s) = 0 := by rw [hqk]; omega
                            obtain ⟨π4, h4⟩ := fS_new hg.2.1 h3 hk3 (by omega) hok hz
                            have hfd4 := fS_found hm12 h4
                            refine J_aload_n C 0 dM_findEnd_133 rfl rfl ?_
                            refine J_get C 0 11 hinM rfl rfl (by decide) fkM_33 rfl dM_findEnd_134 ?_
                            refine J_iload C 6 dM_findEnd_137 rfl ?_
                            refine J_iconst C (v := nI (1)) dM_findEnd_139 (by decide) ?_
                            refine J_zastN C (ws' := [((h), .inr (5, [.int (nI (0)), .int (nI (n)), .ref (m1), .int (nI (st)), .ref (m2), .ref (m3), .ref (m4), .int (nI (mn)), .ref (m5), .ref (m6), .ref (m7), .ref (m8), .ref (m9), .ref (ma), .ref (mb)])), kI E (m2) (12) (nd), kB E (m8) (4096) (upN c3 ((q2 k) ^^^ (2 ^ s)) 1), kI E (m9) (4096) (q3), kM E (ma) (4096) (s3), kI E (mb) (4096) (b3)]) 2 rfl (by omega) (by omega) dM_findEnd_140 (by decide) rfl ?_
                            refine J_aload_n C 0 dM_findEnd_141 rfl rfl ?_
                            refine J_get C 0 12 hinM rfl rfl (by decide) fkM_36 rfl dM_findEnd_142 ?_
                            refine J_iload_n C 2 dM_findEnd_145 rfl rfl ?_
                            refine J_iload C 6 dM_findEnd_146 rfl ?_
                            refine J_iastN C (ws' := [((h), .inr (5, [.int (nI (0)), .int (nI (n)), .ref (m1), .int (nI (st)), .ref (m2), .ref (m3), .ref (m4), .int (nI (mn)), .ref (m5), .ref (m6), .ref (m7), .ref (m8), .ref (m9), .ref (ma), .ref (mb)])), kI E (m2) (12) (nd), kB E (m8) (4096) (upN c3 ((q2 k) ^^^ (2 ^ s)) 1), kI E (m9) (4096) (upN q3 fd3 ((q2 k) ^^^ (2 ^ s))), kM E (ma) (4096) (s3), kI E (mb) (4096) (b3)]) 3 rfl (by omega) (by omega) dM_findEnd_148 rfl ?_
                            refine J_aload_n C 0 dM_findEnd_149 rfl rfl ?_
                            refine J_get C 0 13 hinM rfl rfl (by decide) fkM_39 rfl dM_findEnd_150 ?_
                            refine J_iload_n C 2 dM_findEnd_153 rfl rfl ?_
                            refine J_iload_n C 3 dM_findEnd_154 rfl rfl ?_
                            refine J_iastM C (ws' := [((h), .inr (5, [.int (nI (0)), .int (nI (n)), .ref (m1), .int (nI (st)), .ref (m2), .ref (m3), .ref (m4), .int (nI (mn)), .ref (m5), .ref (m6), .ref (m7), .ref (m8), .ref (m9), .ref (ma), .ref (mb)])), kI E (m2) (12) (nd), kB E (m8) (4096) (upN c3 ((q2 k) ^^^ (2 ^ s)) 1), kI E (m9) (4096) (upN q3 fd3 ((q2 k) ^^^ (2 ^ s))), kM E (ma) (4096) (upN s3 fd3 (k + 1)), kI E (mb) (4096) (b3)]) 4 rfl (by omega) (by omega) ((mI_s k).symm) dM_findEnd_155 rfl ?_
                            refine J_aload_n C 0 dM_findEnd_156 rfl rfl ?_
                            refine J_get C 0 14 hinM rfl rfl (by decide) fkM_42 rfl dM_findEnd_157 ?_
                            refine J_iload_n C 2 dM_findEnd_160 rfl rfl ?_
                            refine J_iload C 5 dM_findEnd_161 rfl ?_
                            refine J_iastN C (ws' := [((h), .inr (5, [.int (nI (0)), .int (nI (n)), .ref (m1), .int (nI (st)), .ref (m2), .ref (m3), .ref (m4), .int (nI (mn)), .ref (m5), .ref (m6), .ref (m7), .ref (m8), .ref (m9), .ref (ma), .ref (mb)])), kI E (m2) (12) (nd), kB E (m8) (4096) (upN c3 ((q2 k) ^^^ (2 ^ s)) 1), kI E (m9) (4096) (upN q3 fd3 ((q2 k) ^^^ (2 ^ s))), kM E (ma) (4096) (upN s3 fd3 (k + 1)), kI E (mb) (4096) (upN b3 fd3 s)]) 5 rfl (by omega) (by omega) dM_findEnd_163 rfl ?_
                            refine J_iinc C (lv' := [(0, .ref (h)), (1, .int (nI (b))), (2, .int (nI (fd3 + 1))), (3, .int (nI (k))), (4, .int (nI (q2 k))), (5, .int (nI (s))), (6, .int (nI ((q2 k) ^^^ (2 ^ s))))]) 2 [1, 2, 0, 3, 4, 5, 6] dM_findEnd_164 rfl (jn_inc _) (by decide) rfl ?_
                            refine J_iinc C (lv' := [(0, .ref (h)), (1, .int (nI (b))), (2, .int (nI (fd3 + 1))), (3, .int (nI (k))), (4, .int (nI (q2 k))), (5, .int (nI (s + 1))), (6, .int (nI ((q2 k) ^^^ (2 ^ s))))]) 5 [1, 2, 3, 4, 5, 0, 6] dM_findEnd_167 rfl (jn_inc _) (by decide) rfl ?_
                            refine J_goto C 78 dM_findEnd_170 (by decide) ?_
                            refine J_lv C (lv' := [(0, .ref (h)), (1, .int (nI (b))), (2, .int (nI (fd3 + 1))), (3, .int (nI (k))), (4, .int (nI (q2 k))), (5, .int (nI (s + 1)))]) [0, 1, 2, 3, 4, 5] rfl ?_
                            exact ih_78 (fd3 + 1) (s + 1) (upN c3 (q2 k ^^^ 2 ^ s) 1) (upN q3 fd3 (q2 k ^^^ 2 ^ s)) (upN s3 fd3 (k + 1)) (upN b3 fd3 s) π4 (by omega) (by omega) (by rw [upN_n (by omega)]; exact hqk) (by rw [hqk] at h4; exact h4) (by omega)
                          · have hno : mok st nd b (q3 k) s → c3 (q3 k ^^^ 2 ^ s) ≠ 0 := by
                              intro q
                              rw [hqk]; omega
                            refine J_goto C 167 dM_findEnd_130 (by decide) ?_
                            refine J_iinc C (lv' := [(0, .ref (h)), (1, .int (nI (b))), (2, .int (nI (fd3))), (3, .int (nI (k))), (4, .int (nI (q2 k))), (5, .int (nI (s + 1))), (6, .int (nI ((q2 k) ^^^ (2 ^ s))))]) 5 [1, 2, 3, 4, 5, 0, 6] dM_findEnd_167 rfl (jn_inc _) (by decide) rfl ?_
                            refine J_goto C 78 dM_findEnd_170 (by decide) ?_
                            refine J_lv C (lv' := [(0, .ref (h)), (1, .int (nI (b))), (2, .int (nI (fd3))), (3, .int (nI (k))), (4, .int (nI (q2 k))), (5, .int (nI (s + 1)))]) [0, 1, 2, 3, 4, 5] rfl ?_
                            exact ih_78 fd3 (s + 1) c3 q3 s3 b3 π3 (hk3) (by omega) (hqk) (fS_skip hg.2.1 h3 hk3 (by omega) hno) (by omega)
                exact lp_78 (st + 1) fd 0 c2 q2 s2 b2 π2 (by omega) (by omega) (rfl) (h2) (by omega)
              · refine J_iload_n C 3 dM_findEnd_73 rfl rfl ?_
                exfalso
                exact hno0 _ (fI_found h2.1 (by omega) (by omega)).1
        exact lp_47 (4098) 1 0 (upN f 0 1) (upN qq 0 0) (upN sr 0 0) bw (fun _ => []) (by omega) (fS_0 hm12 (fun j => by rcases Nat.lt_or_ge j 4096 with q | q; (left; rw [hf j, if_pos (by omega)]); (right; exact ⟨q, by rw [hf j, if_neg (by omega)]; exact hco j⟩))) (by omega)
      · refine J_aload_n C 0 dM_findEnd_9 rfl rfl ?_
        refine J_get C 0 11 hinM rfl rfl (by decide) fkM_33 rfl dM_findEnd_10 ?_
        refine J_iload_n C 2 dM_findEnd_13 rfl rfl ?_
        refine J_iconst C (v := nI (0)) dM_findEnd_14 (by decide) ?_
        refine J_zastN C (ws' := [((h), .inr (5, [.int (nI (0)), .int (nI (n)), .ref (m1), .int (nI (st)), .ref (m2), .ref (m3), .ref (m4), .int (nI (mn)), .ref (m5), .ref (m6), .ref (m7), .ref (m8), .ref (m9), .ref (ma), .ref (mb)])), kI E (m2) (12) (nd), kB E (m8) (4096) (upN f i 0), kI E (m9) (4096) (qq), kM E (ma) (4096) (sr), kI E (mb) (4096) (bw)]) 2 rfl (by omega) (by omega) dM_findEnd_15 (by decide) rfl ?_
        refine J_iinc C (lv' := [(0, .ref (h)), (1, .int (nI (b))), (2, .int (nI (i + 1)))]) 2 [1, 2, 0] dM_findEnd_16 rfl (jn_inc _) (by decide) rfl ?_
        refine J_goto C 2 dM_findEnd_19 (by decide) ?_
        exact ih_2 (i + 1) (upN f i 0) (by omega) (cp_s (t := fun _ => 0) hf) (by omega)
  exact lp_2 (4097) 0 co (by omega) (by intro j; simp) (by omega)
set_option maxHeartbeats 4000000 in
set_option maxRecDepth 100000 in
theorem c_M_findEnd_p (E : jE) (l : Launch) (h : Nat) (n : Nat) (st : Nat) (mn : Nat) (m1 : Nat) (m2 : Nat) (m3 : Nat) (m4 : Nat) (m5 : Nat) (m6 : Nat) (m7 : Nat) (m8 : Nat) (m9 : Nat) (ma : Nat) (mb : Nat) (nd : Nat → Nat) (co : Nat → Nat) (qq : Nat → Nat) (sr : Nat → Nat) (bw : Nat → Nat) (b : Nat) (hg : mG st nd) (hb : b < 2 ^ 31) (hco : ∀ j, co j ≤ 1) (hex : ∃ qs, mP st nd b 0 qs (2 ^ (st - 1))) : Con E l yM_findEnd bM_findEnd 7 (some .int) { frames := 1, cells := 0, slots := 0, locals := 22 } [.ref (h), .int (nI (b))] [((h), .inr (5, [.int (nI (0)), .int (nI (n)), .ref (m1), .int (nI (st)), .ref (m2), .ref (m3), .ref (m4), .int (nI (mn)), .ref (m5), .ref (m6), .ref (m7), .ref (m8), .ref (m9), .ref (ma), .ref (mb)])), kI E (m2) (12) (nd), kB E (m8) (4096) (co), kI E (m9) (4096) (qq), kM E (ma) (4096) (sr), kI E (mb) (4096) (bw)] (fun r w => ∃ (c1 q1 s1 b1 : Nat → Nat) (k fd : Nat) (π : Nat → List Nat), r = some (.int (nI k)) ∧ (fS st nd b k 0 fd c1 q1 s1 b1 π ∧ k < fd ∧ q1 k = 2 ^ (st - 1)) ∧ w = [((h), .inr (5, [.int (nI (0)), .int (nI (n)), .ref (m1), .int (nI (st)), .ref (m2), .ref (m3), .ref (m4), .int (nI (mn)), .ref (m5), .ref (m6), .ref (m7), .ref (m8), .ref (m9), .ref (ma), .ref (mb)])), kI E (m2) (12) (nd), kB E (m8) (4096) (c1), kI E (m9) (4096) (q1), kM E (ma) (4096) (s1), kI E (mb) (4096) (b1)]) := by
  refine Con.ofI (by decide) (Nat.le_of_ble_eq_true rfl) ?_
  intro J C hret
  show J 0 [(0, .ref (h)), (1, .int (nI (b)))] [] [((h), .inr (5, [.int (nI (0)), .int (nI (n)), .ref (m1), .int (nI (st)), .ref (m2), .ref (m3), .ref (m4), .int (nI (mn)), .ref (m5), .ref (m6), .ref (m7), .ref (m8), .ref (m9), .ref (ma), .ref (mb)])), kI E (m2) (12) (nd), kB E (m8) (4096) (co), kI E (m9) (4096) (qq), kM E (ma) (4096) (sr), kI E (mb) (4096) (bw)] 0 0
  have hm1 := hg.1
  have hm12 := hg.2.1
  have hp12 := p4096 hm12
  have hpm := Nat.two_pow_pos st
  have hpg : 2 ^ (st - 1) < 2 ^ st := Nat.pow_lt_pow_right (by omega) (by omega)
  refine J_iconst C (v := nI (0)) dM_findEnd_0 (by decide) ?_
  refine J_istore_n C (lv' := [(0, .ref (h)), (1, .int (nI (b))), (2, .int (nI (0)))]) [1, 2, 0] dM_findEnd_1 rfl (by decide) rfl ?_
  have lp_2 : ∀ (k_2 : Nat) (i : Nat) (f : Nat → Nat), (i ≤ 4096) → (∀ j, f j = if j < i then 0 else co j) → (4096 - i) < k_2 → J 2 [(0, .ref (h)), (1, .int (nI (b))), (2, .int (nI (i)))] [] [((h), .inr (5, [.int (nI (0)), .int (nI (n)), .ref (m1), .int (nI (st)), .ref (m2), .ref (m3), .ref (m4), .int (nI (mn)), .ref (m5), .ref (m6), .ref (m7), .ref (m8), .ref (m9), .ref (ma), .ref (mb)])), kI E (m2) (12) (nd), kB E (m8) (4096) (f), kI E (m9) (4096) (qq), kM E (ma) (4096) (sr), kI E (mb) (4096) (bw)] (0) (0) := by
    intro k_2
    induction k_2 with
    | zero => intro i f hi hf hk_2; exact absurd hk_2 (Nat.not_lt_zero _)
    | succ k_2 ih_2 =>
      intro i f hi hf hk_2
      refine J_iload_n C 2 dM_findEnd_2 rfl rfl ?_
      refine J_sipush C (v := nI (4096)) dM_findEnd_3 (by decide) ?_
      refine J_icmp_ge C 22 (nI_toInt (n := i) (by omega)) (nI_toInt (n := 4096) (by decide)) dM_findEnd_6 (by decide) (fun h6 => ?_) (fun h6 => ?_)
      · obtain rfl : 4096 = i := by omega
        refine J_aload_n C 0 dM_findEnd_22 rfl rfl ?_
        refine J_get C 0 11 hinM rfl rfl (by decide) fkM_33 rfl dM_findEnd_23 ?_
        refine J_iconst C (v := nI (0)) dM_findEnd_26 (by decide) ?_
        refine J_iconst C (v := nI (1)) dM_findEnd_27 (by decide) ?_
        refine J_zastN C (ws' := [((h), .inr (5, [.int (nI (0)), .int (nI (n)), .ref (m1), .int (nI (st)), .ref (m2), .ref (m3), .ref (m4), .int (nI (mn)), .ref (m5), .ref (m6), .ref (m7), .ref (m8), .ref (m9), .ref (ma), .ref (mb)])), kI E (m2) (12) (nd), kB E (m8) (4096) (upN f 0 1), kI E (m9) (4096) (qq), kM E (ma) (4096) (sr), kI E (mb) (4096) (bw)]) 2 rfl (by omega) (by omega) dM_findEnd_28 (by decide) rfl ?_
        refine J_aload_n C 0 dM_findEnd_29 rfl rfl ?_
        refine J_get C 0 12 hinM rfl rfl (by decide) fkM_36 rfl dM_findEnd_30 ?_
        refine J_iconst C (v := nI (0)) dM_findEnd_33 (by decide) ?_
        refine J_iconst C (v := nI (0)) dM_findEnd_34 (by decide) ?_
        refine J_iastN C (ws' := [((h), .inr (5, [.int (nI (0)), .int (nI (n)), .ref (m1), .int (nI (st)), .ref (m2), .ref (m3), .ref (m4), .int (nI (mn)), .ref (m5), .ref (m6), .ref (m7), .ref (m8), .ref (m9), .ref (ma), .ref (mb)])), kI E (m2) (12) (nd), kB E (m8) (4096) (upN f 0 1), kI E (m9) (4096) (upN qq 0 0), kM E (ma) (4096) (sr), kI E (mb) (4096) (bw)]) 3 rfl (by omega) (by omega) dM_findEnd_35 rfl ?_
        refine J_aload_n C 0 dM_findEnd_36 rfl rfl ?_
        refine J_get C 0 13 hinM rfl rfl (by decide) fkM_39 rfl dM_findEnd_37 ?_
        refine J_iconst C (v := nI (0)) dM_findEnd_40 (by decide) ?_
        refine J_iconst C (v := -1) dM_findEnd_41 (by decide) ?_
        refine J_iastM C (ws' := [((h), .inr (5, [.int (nI (0)), .int (nI (n)), .ref (m1), .int (nI (st)), .ref (m2), .ref (m3), .ref (m4), .int (nI (mn)), .ref (m5), .ref (m6), .ref (m7), .ref (m8), .ref (m9), .ref (ma), .ref (mb)])), kI E (m2) (12) (nd), kB E (m8) (4096) (upN f 0 1), kI E (m9) (4096) (upN qq 0 0), kM E (ma) (4096) (upN sr 0 0), kI E (mb) (4096) (bw)]) 4 rfl (by omega) (by omega) (mI_0.symm) dM_findEnd_42 rfl ?_
        refine J_iconst C (v := nI (1)) dM_findEnd_43 (by decide) ?_
        refine J_istore_n C (lv' := [(0, .ref (h)), (1, .int (nI (b))), (2, .int (nI (1)))]) [1, 2, 0] dM_findEnd_44 rfl (by decide) rfl ?_
        refine J_iconst C (v := nI (0)) dM_findEnd_45 (by decide) ?_
        refine J_istore_n C (lv' := [(0, .ref (h)), (1, .int (nI (b))), (2, .int (nI (1))), (3, .int (nI (0)))]) [1, 2, 3, 0] dM_findEnd_46 rfl (by decide) rfl ?_
        have lp_47 : ∀ (k_47 : Nat) (fd k : Nat) (c2 q2 s2 b2 : Nat → Nat) (π2 : Nat → List Nat), (k ≤ fd) → (fS st nd b k 0 fd c2 q2 s2 b2 π2) → (4097 - k) < k_47 → J 47 [(0, .ref (h)), (1, .int (nI (b))), (2, .int (nI (fd))), (3, .int (nI (k)))] [] [((h), .inr (5, [.int (nI (0)), .int (nI (n)), .ref (m1), .int (nI (st)), .ref (m2), .ref (m3), .ref (m4), .int (nI (mn)), .ref (m5), .ref (m6), .ref (m7), .ref (m8), .ref (m9), .ref (ma), .ref (mb)])), kI E (m2) (12) (nd), kB E (m8) (4096) (c2), kI E (m9) (4096) (q2), kM E (ma) (4096) (s2), kI E (mb) (4096) (b2)] (0) (0) := by
          intro k_47
          induction k_47 with
          | zero => intro fd k c2 q2 s2 b2 π2 hkf h2 hk_47; exact absurd hk_47 (Nat.not_lt_zero _)
          | succ k_47 ih_47 =>
            intro fd k c2 q2 s2 b2 π2 hkf h2 hk_47
            have hfd := fS_found hm12 h2
            refine J_iload_n C 3 dM_findEnd_47 rfl rfl ?_
            refine J_iload_n C 2 dM_findEnd_48 rfl rfl ?_
            refine J_icmp_ge C 179 (nI_toInt (n := k) (by omega)) (nI_toInt (n := fd) (by omega)) dM_findEnd_49 (by decide) (fun h49 => ?_) (fun h49 => ?_)
            · refine J_iconst C (v := -1) dM_findEnd_179 (by decide) ?_
              exfalso
              obtain ⟨qs, hqs⟩ := hex
              exact fI_none h2.1 (by omega) qs hqs
            · refine J_aload_n C 0 dM_findEnd_52 rfl rfl ?_
              refine J_get C 0 12 hinM rfl rfl (by decide) fkM_36 rfl dM_findEnd_53 ?_
              refine J_iload_n C 3 dM_findEnd_56 rfl rfl ?_
              refine J_iald C 3 rfl (by omega) (by omega) dM_findEnd_57 ?_
              refine J_istore C (lv' := [(0, .ref (h)), (1, .int (nI (b))), (2, .int (nI (fd))), (3, .int (nI (k))), (4, .int (nI (q2 k)))]) [1, 2, 3, 4, 0] dM_findEnd_58 (by decide) rfl ?_
              refine J_iload C 4 dM_findEnd_60 rfl ?_
              refine J_iconst C (v := nI (1)) dM_findEnd_62 (by decide) ?_
              refine J_aload_n C 0 dM_findEnd_63 rfl rfl ?_
              refine J_get C 0 3 hinM rfl rfl (by decide) fkM_49 rfl dM_findEnd_64 ?_
              refine J_iconst C (v := nI (1)) dM_findEnd_67 (by decide) ?_
              refine J_isubN C dM_findEnd_68 (by omega) ?_
              refine J_ishl1 C dM_findEnd_69 (by omega) ?_
              refine J_icmp_ne C 75 (nI_toInt (n := q2 k) (by have := fI_lt h2.1 k (by omega); omega)) (nI_toInt (n := 2 ^ (st - 1)) (by omega)) dM_findEnd_70 (by decide) (fun h70 => ?_) (fun h70 => ?_)
              · have hne : q2 k ≠ 2 ^ (st - 1) := by omega
                refine J_iconst C (v := nI (0)) dM_findEnd_75 (by decide) ?_
                refine J_istore C (lv' := [(0, .ref (h)), (1, .int (nI (b))), (2, .int (nI (fd))), (3, .int (nI (k))), (4, .int (nI (q2 k))), (5, .int (nI (0)))]) [1, 2, 3, 4, 5, 0] dM_findEnd_76 (by decide) rfl ?_
                have lp_78 : ∀ (k_78 : Nat) (fd3 s : Nat) (c3 q3 s3 b3 : Nat → Nat) (π3 : Nat → List Nat), (k < fd3) → (s ≤ st) → (q3 k = q2 k) → (fS st nd b k s fd3 c3 q3 s3 b3 π3) → (st - s) < k_78 → J 78 [(0, .ref (h)), (1, .int (nI (b))), (2, .int (nI (fd3))), (3, .int (nI (k))), (4, .int (nI (q2 k))), (5, .int (nI (s)))] [] [((h), .inr (5, [.int (nI (0)), .int (nI (n)), .ref (m1), .int (nI (st)), .ref (m2), .ref (m3), .ref (m4), .int (nI (mn)), .ref (m5), .ref (m6), .ref (m7), .ref (m8), .ref (m9), .ref (ma), .ref (mb)])), kI E (m2) (12) (nd), kB E (m8) (4096) (c3), kI E (m9) (4096) (q3), kM E (ma) (4096) (s3), kI E (mb) (4096) (b3)] (0) (0) := by
                  intro k_78
                  induction k_78 with
                  | zero => intro fd3 s c3 q3 s3 b3 π3 hk3 hs hqk h3 hk_78; exact absurd hk_78 (Nat.not_lt_zero _)
                  | succ k_78 ih_78 =>
                    intro fd3 s c3 q3 s3 b3 π3 hk3 hs hqk h3 hk_78
                    have hfd3 := fS_found hm12 h3
                    have hqlt := fI_lt h3.1 k hk3
                    rw [hqk] at hqlt
                    refine J_iload C 5 dM_findEnd_78 rfl ?_
                    refine J_aload_n C 0 dM_findEnd_80 rfl rfl ?_
                    refine J_get C 0 3 hinM rfl rfl (by decide) fkM_49 rfl dM_findEnd_81 ?_
                    refine J_icmp_ge C 173 (nI_toInt (n := s) (by omega)) (nI_toInt (n := st) (by omega)) dM_findEnd_84 (by decide) (fun h84 => ?_) (fun h84 => ?_)
                    · obtain rfl : st = s := by omega
                      refine J_iinc C (lv' := [(0, .ref (h)), (1, .int (nI (b))), (2, .int (nI (fd3))), (3, .int (nI (k + 1))), (4, .int (nI (q2 k))), (5, .int (nI (st)))]) 3 [1, 2, 3, 0, 4, 5] dM_findEnd_173 rfl (jn_inc _) (by decide) rfl ?_
                      refine J_goto C 47 dM_findEnd_176 (by decide) ?_
                      refine J_lv C (lv' := [(0, .ref (h)), (1, .int (nI (b))), (2, .int (nI (fd3))), (3, .int (nI (k + 1)))]) [0, 1, 2, 3] rfl ?_
                      exact ih_47 fd3 (k + 1) c3 q3 s3 b3 π3 (by omega) (fS_next h3 (by rw [hqk]; exact hne)) (by omega)
                    · have hnl := flip_lt hqlt (show s < st by omega)
                      have hnds := hg.2.2 s (by omega)
                      have hnd12 : nd s < 2 ^ st := Nat.lt_trans hnds (Nat.pow_lt_pow_right (by omega) (by omega))
                      have hxx := Nat.xor_lt_two_pow hnd12 (Nat.and_lt_two_pow (nd s) hqlt)
                      refine J_iload C 4 dM_findEnd_87 rfl ?_
                      refine J_iconst C (v := nI (1)) dM_findEnd_89 (by decide) ?_
                      refine J_iload C 5 dM_findEnd_90 rfl ?_
                      refine J_ishl1 C dM_findEnd_92 (by omega) ?_
                      refine J_ixorN C dM_findEnd_93 ?_
                      refine J_istore C (lv' := [(0, .ref (h)), (1, .int (nI (b))), (2, .int (nI (fd3))), (3, .int (nI (k))), (4, .int (nI (q2 k))), (5, .int (nI (s))), (6, .int (nI ((q2 k) ^^^ (2 ^ s))))]) [1, 2, 3, 4, 5, 6, 0] dM_findEnd_94 (by decide) rfl ?_
                      refine J_aload_n C 0 dM_findEnd_96 rfl rfl ?_
                      refine J_get C 0 4 hinM rfl rfl (by decide) fkM_13 rfl dM_findEnd_97 ?_
                      refine J_iload C 5 dM_findEnd_100 rfl ?_
                      refine J_iald C 1 rfl (by omega) (by omega) dM_findEnd_102 ?_
                      refine J_iload C 4 dM_findEnd_103 rfl ?_
                      refine J_iconst C (v := -1) dM_findEnd_105 (by decide) ?_
                      refine J_ixor C dM_findEnd_106 ?_
                      refine J_iand C dM_findEnd_107 ?_
                      refine J_topX C (x' := nI (nd s ^^^ (nd s &&& q2 k))) (jn_notandN _ _) ?_
                      refine J_if_ne C 167 (nI_toInt (n := nd s ^^^ (nd s &&& q2 k)) (by omega)) dM_findEnd_108 (by decide) (fun h108 => ?_) (fun h108 => ?_)
                      · have hno : mok st nd b (q3 k) s → c3 (q3 k ^^^ 2 ^ s) ≠ 0 := by
                          intro q
                          have e1 := (notand_0 (a := nd s) (b := q2 k)).mpr (by rw [← hqk]; exact q.2.1); exfalso; omega
                        refine J_iinc C (lv' := [(0, .ref (h)), (1, .int (nI (b))), (2, .int (nI (fd3))), (3, .int (nI (k))), (4, .int (nI (q2 k))), (5, .int (nI (s + 1))), (6, .int (nI ((q2 k) ^^^ (2 ^ s))))]) 5 [1, 2, 3, 4, 5, 0, 6] dM_findEnd_167 rfl (jn_inc _) (by decide) rfl ?_
                        refine J_goto C 78 dM_findEnd_170 (by decide) ?_
                        refine J_lv C (lv' := [(0, .ref (h)), (1, .int (nI (b))), (2, .int (nI (fd3))), (3, .int (nI (k))), (4, .int (nI (q2 k))), (5, .int (nI (s + 1)))]) [0, 1, 2, 3, 4, 5] rfl ?_
                        exact ih_78 fd3 (s + 1) c3 q3 s3 b3 π3 (hk3) (by omega) (hqk) (fS_skip hg.2.1 h3 hk3 (by omega) hno) (by omega)
                      · have hsub : nd s &&& q2 k = nd s := notand_0.mp (by omega)
                        refine J_iload C 6 dM_findEnd_111 rfl ?_
                        refine J_callS C (rest := []) [] [] [((h), .inr (5, [.int (nI (0)), .int (nI (n)), .ref (m1), .int (nI (st)), .ref (m2), .ref (m3), .ref (m4), .int (nI (mn)), .ref (m5), .ref (m6), .ref (m7), .ref (m8), .ref (m9), .ref (ma), .ref (mb)])), kI E (m2) (12) (nd), kB E (m8) (4096) (c3), kI E (m9) (4096) (q3), kM E (ma) (4096) (s3), kI E (mb) (4096) (b3)] (c_M_count E l ((q2 k) ^^^ (2 ^ s)) (by omega)) mmM_count lkM_104 (rfl) rfl rfl ⟨by decide, by decide⟩ ⟨by decide, by decide⟩ (Nat.le_of_ble_eq_true rfl) dM_findEnd_113 (fun r_c w_c hp => ?_)
                        obtain ⟨rfl, rfl⟩ := hp
                        refine J_norm C (st' := [.int (nI (bc ((q2 k) ^^^ (2 ^ s))))]) (ws' := [((h), .inr (5, [.int (nI (0)), .int (nI (n)), .ref (m1), .int (nI (st)), .ref (m2), .ref (m3), .ref (m4), .int (nI (mn)), .ref (m5), .ref (m6), .ref (m7), .ref (m8), .ref (m9), .ref (ma), .ref (mb)])), kI E (m2) (12) (nd), kB E (m8) (4096) (c3), kI E (m9) (4096) (q3), kM E (ma) (4096) (s3), kI E (mb) (4096) (b3)]) (cs' := 0) (ss' := 0) rfl (rfl) rfl rfl ?_
                        refine J_iload_n C 1 dM_findEnd_116 rfl rfl ?_
                        refine J_icmp_gt C 167 (nI_toInt (n := bc ((q2 k) ^^^ (2 ^ s))) (by have := bc_12 (q2 k ^^^ 2 ^ s); omega)) (nI_toInt (n := b) (hb)) dM_findEnd_117 (by decide) (fun h117 => ?_) (fun h117 => ?_)
                        · have hno : mok st nd b (q3 k) s → c3 (q3 k ^^^ 2 ^ s) ≠ 0 := by
                            intro q
                            have := q.2.2; rw [hqk] at this; omega
                          refine J_iinc C (lv' := [(0, .ref (h)), (1, .int (nI (b))), (2, .int (nI (fd3))), (3, .int (nI (k))), (4, .int (nI (q2 k))), (5, .int (nI (s + 1))), (6, .int (nI ((q2 k) ^^^ (2 ^ s))))]) 5 [1, 2, 3, 4, 5, 0, 6] dM_findEnd_167 rfl (jn_inc _) (by decide) rfl ?_
                          refine J_goto C 78 dM_findEnd_170 (by decide) ?_
                          refine J_lv C (lv' := [(0, .ref (h)), (1, .int (nI (b))), (2, .int (nI (fd3))), (3, .int (nI (k))), (4, .int (nI (q2 k))), (5, .int (nI (s + 1)))]) [0, 1, 2, 3, 4, 5] rfl ?_
                          exact ih_78 fd3 (s + 1) c3 q3 s3 b3 π3 (hk3) (by omega) (hqk) (fS_skip hg.2.1 h3 hk3 (by omega) hno) (by omega)
                        · have hok : mok st nd b (q3 k) s := ⟨by omega, by rw [hqk]; exact hsub, by rw [hqk]; omega⟩
                          refine J_aload_n C 0 dM_findEnd_120 rfl rfl ?_
                          refine J_get C 0 11 hinM rfl rfl (by decide) fkM_33 rfl dM_findEnd_121 ?_
                          refine J_iload C 6 dM_findEnd_124 rfl ?_
                          refine J_zald C 2 rfl (by omega) (by omega) dM_findEnd_126 ?_
                          refine J_if_eq C 133 (nI_toInt (n := c3 ((q2 k) ^^^ (2 ^ s))) (by have := h3.2.2.2.2 (q2 k ^^^ 2 ^ s); omega)) dM_findEnd_127 (by decide) (fun h127 => ?_) (fun h127 => ?_)
                          · have hz : c3 (q3 k ^^^ 2 ^ s) = 0 := by rw [hqk]; omega
                            obtain ⟨π4, h4⟩ := fS_new hg.2.1 h3 hk3 (by omega) hok hz
                            have hfd4 := fS_found hm12 h4
                            refine J_aload_n C 0 dM_findEnd_133 rfl rfl ?_
                            refine J_get C 0 11 hinM rfl rfl (by decide) fkM_33 rfl dM_findEnd_134 ?_
                            refine J_iload C 6 dM_findEnd_137 rfl ?_
                            refine J_iconst C (v := nI (1)) dM_findEnd_139 (by decide) ?_
                            refine J_zastN C (ws' := [((h), .inr (5, [.int (nI (0)), .int (nI (n)), .ref (m1), .int (nI (st)), .ref (m2), .ref (m3), .ref (m4), .int (nI (mn)), .ref (m5), .ref (m6), .ref (m7), .ref (m8), .ref (m9), .ref (ma), .ref (mb)])), kI E (m2) (12) (nd), kB E (m8) (4096) (upN c3 ((q2 k) ^^^ (2 ^ s)) 1), kI E (m9) (4096) (q3), kM E (ma) (4096) (s3), kI E (mb) (4096) (b3)]) 2 rfl (by omega) (by omega) dM_findEnd_140 (by decide) rfl ?_
                            refine J_aload_n C 0 dM_findEnd_141 rfl rfl ?_
                            refine J_get C 0 12 hinM rfl rfl (by decide) fkM_36 rfl dM_findEnd_142 ?_
                            refine J_iload_n C 2 dM_findEnd_145 rfl rfl ?_
                            refine J_iload C 6 dM_findEnd_146 rfl ?_
                            refine J_iastN C (ws' := [((h), .inr (5, [.int (nI (0)), .int (nI (n)), .ref (m1), .int (nI (st)), .ref (m2), .ref (m3), .ref (m4), .int (nI (mn)), .ref (m5), .ref (m6), .ref (m7), .ref (m8), .ref (m9), .ref (ma), .ref (mb)])), kI E (m2) (12) (nd), kB E (m8) (4096) (upN c3 ((q2 k) ^^^ (2 ^ s)) 1), kI E (m9) (4096) (upN q3 fd3 ((q2 k) ^^^ (2 ^ s))), kM E (ma) (4096) (s3), kI E (mb) (4096) (b3)]) 3 rfl (by omega) (by omega) dM_findEnd_148 rfl ?_
                            refine J_aload_n C 0 dM_findEnd_149 rfl rfl ?_
                            refine J_get C 0 13 hinM rfl rfl (by decide) fkM_39 rfl dM_findEnd_150 ?_
                            refine J_iload_n C 2 dM_findEnd_153 rfl rfl ?_
                            refine J_iload_n C 3 dM_findEnd_154 rfl rfl ?_
                            refine J_iastM C (ws' := [((h), .inr (5, [.int (nI (0)), .int (nI (n)), .ref (m1), .int (nI (st)), .ref (m2), .ref (m3), .ref (m4), .int (nI (mn)), .ref (m5), .ref (m6), .ref (m7), .ref (m8), .ref (m9), .ref (ma), .ref (mb)])), kI E (m2) (12) (nd), kB E (m8) (4096) (upN c3 ((q2 k) ^^^ (2 ^ s)) 1), kI E (m9) (4096) (upN q3 fd3 ((q2 k) ^^^ (2 ^ s))), kM E (ma) (4096) (upN s3 fd3 (k + 1)), kI E (mb) (4096) (b3)]) 4 rfl (by omega) (by omega) ((mI_s k).symm) dM_findEnd_155 rfl ?_
                            refine J_aload_n C 0 dM_findEnd_156 rfl rfl ?_
                            refine J_get C 0 14 hinM rfl rfl (by decide) fkM_42 rfl dM_findEnd_157 ?_
                            refine J_iload_n C 2 dM_findEnd_160 rfl rfl ?_
                            refine J_iload C 5 dM_findEnd_161 rfl ?_
                            refine J_iastN C (ws' := [((h), .inr (5, [.int (nI (0)), .int (nI (n)), .ref (m1), .int (nI (st)), .ref (m2), .ref (m3), .ref (m4), .int (nI (mn)), .ref (m5), .ref (m6), .ref (m7), .ref (m8), .ref (m9), .ref (ma), .ref (mb)])), kI E (m2) (12) (nd), kB E (m8) (4096) (upN c3 ((q2 k) ^^^ (2 ^ s)) 1), kI E (m9) (4096) (upN q3 fd3 ((q2 k) ^^^ (2 ^ s))), kM E (ma) (4096) (upN s3 fd3 (k + 1)), kI E (mb) (4096) (upN b3 fd3 s)]) 5 rfl (by omega) (by omega) dM_findEnd_163 rfl ?_
                            refine J_iinc C (lv' := [(0, .ref (h)), (1, .int (nI (b))), (2, .int (nI (fd3 + 1))), (3, .int (nI (k))), (4, .int (nI (q2 k))), (5, .int (nI (s))), (6, .int (nI ((q2 k) ^^^ (2 ^ s))))]) 2 [1, 2, 0, 3, 4, 5, 6] dM_findEnd_164 rfl (jn_inc _) (by decide) rfl ?_
                            refine J_iinc C (lv' := [(0, .ref (h)), (1, .int (nI (b))), (2, .int (nI (fd3 + 1))), (3, .int (nI (k))), (4, .int (nI (q2 k))), (5, .int (nI (s + 1))), (6, .int (nI ((q2 k) ^^^ (2 ^ s))))]) 5 [1, 2, 3, 4, 5, 0, 6] dM_findEnd_167 rfl (jn_inc _) (by decide) rfl ?_
                            refine J_goto C 78 dM_findEnd_170 (by decide) ?_
                            refine J_lv C (lv' := [(0, .ref (h)), (1, .int (nI (b))), (2, .int (nI (fd3 + 1))), (3, .int (nI (k))), (4, .int (nI (q2 k))), (5, .int (nI (s + 1)))]) [0, 1, 2, 3, 4, 5] rfl ?_
                            exact ih_78 (fd3 + 1) (s + 1) (upN c3 (q2 k ^^^ 2 ^ s) 1) (upN q3 fd3 (q2 k ^^^ 2 ^ s)) (upN s3 fd3 (k + 1)) (upN b3 fd3 s) π4 (by omega) (by omega) (by rw [upN_n (by omega)]; exact hqk) (by rw [hqk] at h4; exact h4) (by omega)
                          · have hno : mok st nd b (q3 k) s → c3 (q3 k ^^^ 2 ^ s) ≠ 0 := by
                              intro q
                              rw [hqk]; omega
                            refine J_goto C 167 dM_findEnd_130 (by decide) ?_
                            refine J_iinc C (lv' := [(0, .ref (h)), (1, .int (nI (b))), (2, .int (nI (fd3))), (3, .int (nI (k))), (4, .int (nI (q2 k))), (5, .int (nI (s + 1))), (6, .int (nI ((q2 k) ^^^ (2 ^ s))))]) 5 [1, 2, 3, 4, 5, 0, 6] dM_findEnd_167 rfl (jn_inc _) (by decide) rfl ?_
                            refine J_goto C 78 dM_findEnd_170 (by decide) ?_
                            refine J_lv C (lv' := [(0, .ref (h)), (1, .int (nI (b))), (2, .int (nI (fd3))), (3, .int (nI (k))), (4, .int (nI (q2 k))), (5, .int (nI (s + 1)))]) [0, 1, 2, 3, 4, 5] rfl ?_
                            exact ih_78 fd3 (s + 1) c3 q3 s3 b3 π3 (hk3) (by omega) (hqk) (fS_skip hg.2.1 h3 hk3 (by omega) hno) (by omega)
                exact lp_78 (st + 1) fd 0 c2 q2 s2 b2 π2 (by omega) (by omega) (rfl) (h2) (by omega)
              · refine J_iload_n C 3 dM_findEnd_73 rfl rfl ?_
                exact hret _ _ _ _ _ _ dM_findEnd_74 (by decide) (by decide) (⟨_, _, _, _, k, fd, π2, rfl, ⟨h2, by omega, by omega⟩, rfl⟩)
        exact lp_47 (4098) 1 0 (upN f 0 1) (upN qq 0 0) (upN sr 0 0) bw (fun _ => []) (by omega) (fS_0 hm12 (fun j => by rcases Nat.lt_or_ge j 4096 with q | q; (left; rw [hf j, if_pos (by omega)]); (right; exact ⟨q, by rw [hf j, if_neg (by omega)]; exact hco j⟩))) (by omega)
      · refine J_aload_n C 0 dM_findEnd_9 rfl rfl ?_
        refine J_get C 0 11 hinM rfl rfl (by decide) fkM_33 rfl dM_findEnd_10 ?_
        refine J_iload_n C 2 dM_findEnd_13 rfl rfl ?_
        refine J_iconst C (v := nI (0)) dM_findEnd_14 (by decide) ?_
        refine J_zastN C (ws' := [((h), .inr (5, [.int (nI (0)), .int (nI (n)), .ref (m1), .int (nI (st)), .ref (m2), .ref (m3), .ref (m4), .int (nI (mn)), .ref (m5), .ref (m6), .ref (m7), .ref (m8), .ref (m9), .ref (ma), .ref (mb)])), kI E (m2) (12) (nd), kB E (m8) (4096) (upN f i 0), kI E (m9) (4096) (qq), kM E (ma) (4096) (sr), kI E (mb) (4096) (bw)]) 2 rfl (by omega) (by omega) dM_findEnd_15 (by decide) rfl ?_
        refine J_iinc C (lv' := [(0, .ref (h)), (1, .int (nI (b))), (2, .int (nI (i + 1)))]) 2 [1, 2, 0] dM_findEnd_16 rfl (jn_inc _) (by decide) rfl ?_
        refine J_goto C 2 dM_findEnd_19 (by decide) ?_
        exact ih_2 (i + 1) (upN f i 0) (by omega) (cp_s (t := fun _ => 0) hf) (by omega)
  exact lp_2 (4097) 0 co (by omega) (by intro j; simp) (by omega)
end
