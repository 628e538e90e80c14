section
-- ===== PART A: goes FIRST, ahead of the names: the tables' words, and 'selects' of the private methods out of them =====
/-- a private method of a class that the tables say can be made, by its rows of tables_1 -/
def lw_okq (q : MethodName × Nat) : Prop := (q.1.cls ≠ "java/lang/invoke/MethodHandle" ∧ q.1.cls ≠ "java/lang/invoke/VarHandle") ∧ Cond.instantiable q.1.cls q.2 ∈ tables_1 ∧ Cond.privateMethod q.1 ∈ tables_1 ∧ Cond.instanceMethod q.1 ∈ tables_1
theorem lw_p0 : lw_okq (⟨"ReversibleParts$Table", "hasValue", "(I)Z"⟩, 6) := ⟨⟨by decide +kernel, by decide +kernel⟩, List.mem_of_getElem? (i := 19) (by decide +kernel), List.mem_of_getElem? (i := 125) (by decide +kernel), List.mem_of_getElem? (i := 126) (by decide +kernel)⟩
theorem lw_p1 : lw_okq (⟨"ReversibleParts$Table", "hasGate", "(I)Z"⟩, 6) := ⟨⟨by decide +kernel, by decide +kernel⟩, List.mem_of_getElem? (i := 19) (by decide +kernel), List.mem_of_getElem? (i := 137) (by decide +kernel), List.mem_of_getElem? (i := 138) (by decide +kernel)⟩
theorem lw_p2 : lw_okq (⟨"ReversibleParts$Table", "changeAll", "([II)V"⟩, 6) := ⟨⟨by decide +kernel, by decide +kernel⟩, List.mem_of_getElem? (i := 19) (by decide +kernel), List.mem_of_getElem? (i := 141) (by decide +kernel), List.mem_of_getElem? (i := 142) (by decide +kernel)⟩
theorem lw_p3 : lw_okq (⟨"ReversibleParts$Table", "settleRow", "(I)V"⟩, 6) := ⟨⟨by decide +kernel, by decide +kernel⟩, List.mem_of_getElem? (i := 19) (by decide +kernel), List.mem_of_getElem? (i := 157) (by decide +kernel), List.mem_of_getElem? (i := 158) (by decide +kernel)⟩
theorem lw_p4 : lw_okq (⟨"ReversibleParts$Table", "useGate", "(I)V"⟩, 6) := ⟨⟨by decide +kernel, by decide +kernel⟩, List.mem_of_getElem? (i := 19) (by decide +kernel), List.mem_of_getElem? (i := 161) (by decide +kernel), List.mem_of_getElem? (i := 162) (by decide +kernel)⟩
theorem lw_p5 : lw_okq (⟨"ReversibleParts$Forms", "fillLevel", "(I)V"⟩, 2) := ⟨⟨by decide +kernel, by decide +kernel⟩, List.mem_of_getElem? (i := 45) (by decide +kernel), List.mem_of_getElem? (i := 189) (by decide +kernel), List.mem_of_getElem? (i := 190) (by decide +kernel)⟩
theorem lw_p6 : lw_okq (⟨"ReversibleParts$Forms", "leastFrom", "(II)J"⟩, 2) := ⟨⟨by decide +kernel, by decide +kernel⟩, List.mem_of_getElem? (i := 45) (by decide +kernel), List.mem_of_getElem? (i := 195) (by decide +kernel), List.mem_of_getElem? (i := 196) (by decide +kernel)⟩
theorem lw_p7 : lw_okq (⟨"ReversibleParts$Steps", "forget", "()V"⟩, 7) := ⟨⟨by decide +kernel, by decide +kernel⟩, List.mem_of_getElem? (i := 60) (by decide +kernel), List.mem_of_getElem? (i := 237) (by decide +kernel), List.mem_of_getElem? (i := 238) (by decide +kernel)⟩
theorem lw_p8 : lw_okq (⟨"ReversibleParts$Steps", "search", "(I)LReversibleParts$Moves;"⟩, 7) := ⟨⟨by decide +kernel, by decide +kernel⟩, List.mem_of_getElem? (i := 60) (by decide +kernel), List.mem_of_getElem? (i := 263) (by decide +kernel), List.mem_of_getElem? (i := 264) (by decide +kernel)⟩
theorem lw_p9 : lw_okq (⟨"ReversibleParts$Steps", "makeRoom", "()V"⟩, 7) := ⟨⟨by decide +kernel, by decide +kernel⟩, List.mem_of_getElem? (i := 60) (by decide +kernel), List.mem_of_getElem? (i := 267) (by decide +kernel), List.mem_of_getElem? (i := 268) (by decide +kernel)⟩
theorem lw_p10 : lw_okq (⟨"ReversibleParts$Steps", "wantedSteps", "()I"⟩, 7) := ⟨⟨by decide +kernel, by decide +kernel⟩, List.mem_of_getElem? (i := 60) (by decide +kernel), List.mem_of_getElem? (i := 271) (by decide +kernel), List.mem_of_getElem? (i := 272) (by decide +kernel)⟩
theorem lw_p11 : lw_okq (⟨"ReversibleParts$Steps", "spreadFromGoal", "(II)V"⟩, 7) := ⟨⟨by decide +kernel, by decide +kernel⟩, List.mem_of_getElem? (i := 60) (by decide +kernel), List.mem_of_getElem? (i := 275) (by decide +kernel), List.mem_of_getElem? (i := 276) (by decide +kernel)⟩
theorem lw_p12 : lw_okq (⟨"ReversibleParts$Steps", "enter", "(II)V"⟩, 7) := ⟨⟨by decide +kernel, by decide +kernel⟩, List.mem_of_getElem? (i := 60) (by decide +kernel), List.mem_of_getElem? (i := 279) (by decide +kernel), List.mem_of_getElem? (i := 280) (by decide +kernel)⟩
theorem lw_p13 : lw_okq (⟨"ReversibleParts$Steps", "spreadFrom", "(III)V"⟩, 7) := ⟨⟨by decide +kernel, by decide +kernel⟩, List.mem_of_getElem? (i := 60) (by decide +kernel), List.mem_of_getElem? (i := 283) (by decide +kernel), List.mem_of_getElem? (i := 284) (by decide +kernel)⟩
theorem lw_p14 : lw_okq (⟨"ReversibleParts$Steps", "firstStepNearer", "(I)I"⟩, 7) := ⟨⟨by decide +kernel, by decide +kernel⟩, List.mem_of_getElem? (i := 60) (by decide +kernel), List.mem_of_getElem? (i := 297) (by decide +kernel), List.mem_of_getElem? (i := 298) (by decide +kernel)⟩
theorem lw_p15 : lw_okq (⟨"ReversibleParts$Steps", "fewestThinkable", "()I"⟩, 7) := ⟨⟨by decide +kernel, by decide +kernel⟩, List.mem_of_getElem? (i := 60) (by decide +kernel), List.mem_of_getElem? (i := 318) (by decide +kernel), List.mem_of_getElem? (i := 319) (by decide +kernel)⟩
def lw_privs_1 : List (MethodName × Nat) := [(⟨"ReversibleParts$Table", "hasValue", "(I)Z"⟩, 6), (⟨"ReversibleParts$Table", "hasGate", "(I)Z"⟩, 6), (⟨"ReversibleParts$Table", "changeAll", "([II)V"⟩, 6), (⟨"ReversibleParts$Table", "settleRow", "(I)V"⟩, 6), (⟨"ReversibleParts$Table", "useGate", "(I)V"⟩, 6), (⟨"ReversibleParts$Forms", "fillLevel", "(I)V"⟩, 2), (⟨"ReversibleParts$Forms", "leastFrom", "(II)J"⟩, 2), (⟨"ReversibleParts$Steps", "forget", "()V"⟩, 7), (⟨"ReversibleParts$Steps", "search", "(I)LReversibleParts$Moves;"⟩, 7), (⟨"ReversibleParts$Steps", "makeRoom", "()V"⟩, 7), (⟨"ReversibleParts$Steps", "wantedSteps", "()I"⟩, 7), (⟨"ReversibleParts$Steps", "spreadFromGoal", "(II)V"⟩, 7), (⟨"ReversibleParts$Steps", "enter", "(II)V"⟩, 7), (⟨"ReversibleParts$Steps", "spreadFrom", "(III)V"⟩, 7), (⟨"ReversibleParts$Steps", "firstStepNearer", "(I)I"⟩, 7), (⟨"ReversibleParts$Steps", "fewestThinkable", "()I"⟩, 7)]
theorem lw_r1 : ∀ q ∈ lw_privs_1, lw_okq q := List.forall_mem_cons.mpr ⟨lw_p0, List.forall_mem_cons.mpr ⟨lw_p1, List.forall_mem_cons.mpr ⟨lw_p2, List.forall_mem_cons.mpr ⟨lw_p3, List.forall_mem_cons.mpr ⟨lw_p4, List.forall_mem_cons.mpr ⟨lw_p5, List.forall_mem_cons.mpr ⟨lw_p6, List.forall_mem_cons.mpr ⟨lw_p7, List.forall_mem_cons.mpr ⟨lw_p8, List.forall_mem_cons.mpr ⟨lw_p9, List.forall_mem_cons.mpr ⟨lw_p10, List.forall_mem_cons.mpr ⟨lw_p11, List.forall_mem_cons.mpr ⟨lw_p12, List.forall_mem_cons.mpr ⟨lw_p13, List.forall_mem_cons.mpr ⟨lw_p14, List.forall_mem_cons.mpr ⟨lw_p15, fun _ h => absurd h List.not_mem_nil⟩⟩⟩⟩⟩⟩⟩⟩⟩⟩⟩⟩⟩⟩⟩⟩
theorem lw_p16 : lw_okq (⟨"ReversiblePartsModel", "start", "(I)V"⟩, 15) := ⟨⟨by decide +kernel, by decide +kernel⟩, List.mem_of_getElem? (i := 331) (by decide +kernel), List.mem_of_getElem? (i := 338) (by decide +kernel), List.mem_of_getElem? (i := 339) (by decide +kernel)⟩
theorem lw_p17 : lw_okq (⟨"ReversiblePartsModel", "isValue", "(I)Z"⟩, 15) := ⟨⟨by decide +kernel, by decide +kernel⟩, List.mem_of_getElem? (i := 331) (by decide +kernel), List.mem_of_getElem? (i := 397) (by decide +kernel), List.mem_of_getElem? (i := 398) (by decide +kernel)⟩
theorem lw_p18 : lw_okq (⟨"ReversiblePartsModel", "values", "()I"⟩, 15) := ⟨⟨by decide +kernel, by decide +kernel⟩, List.mem_of_getElem? (i := 331) (by decide +kernel), List.mem_of_getElem? (i := 401) (by decide +kernel), List.mem_of_getElem? (i := 402) (by decide +kernel)⟩
theorem lw_p19 : lw_okq (⟨"ReversiblePartsModel", "isPermutation", "()Z"⟩, 15) := ⟨⟨by decide +kernel, by decide +kernel⟩, List.mem_of_getElem? (i := 331) (by decide +kernel), List.mem_of_getElem? (i := 416) (by decide +kernel), List.mem_of_getElem? (i := 417) (by decide +kernel)⟩
theorem lw_p20 : lw_okq (⟨"ReversiblePartsModel", "findGates", "()V"⟩, 15) := ⟨⟨by decide +kernel, by decide +kernel⟩, List.mem_of_getElem? (i := 331) (by decide +kernel), List.mem_of_getElem? (i := 420) (by decide +kernel), List.mem_of_getElem? (i := 421) (by decide +kernel)⟩
theorem lw_p21 : lw_okq (⟨"ReversiblePartsModel", "doGate", "(II)V"⟩, 15) := ⟨⟨by decide +kernel, by decide +kernel⟩, List.mem_of_getElem? (i := 331) (by decide +kernel), List.mem_of_getElem? (i := 424) (by decide +kernel), List.mem_of_getElem? (i := 425) (by decide +kernel)⟩
theorem lw_p22 : lw_okq (⟨"ReversiblePartsModel", "functions", "()I"⟩, 15) := ⟨⟨by decide +kernel, by decide +kernel⟩, List.mem_of_getElem? (i := 331) (by decide +kernel), List.mem_of_getElem? (i := 436) (by decide +kernel), List.mem_of_getElem? (i := 437) (by decide +kernel)⟩
theorem lw_p23 : lw_okq (⟨"ReversiblePartsModel", "findCosts", "()V"⟩, 15) := ⟨⟨by decide +kernel, by decide +kernel⟩, List.mem_of_getElem? (i := 331) (by decide +kernel), List.mem_of_getElem? (i := 440) (by decide +kernel), List.mem_of_getElem? (i := 441) (by decide +kernel)⟩
theorem lw_p24 : lw_okq (⟨"ReversiblePartsModel", "products", "()I"⟩, 15) := ⟨⟨by decide +kernel, by decide +kernel⟩, List.mem_of_getElem? (i := 331) (by decide +kernel), List.mem_of_getElem? (i := 444) (by decide +kernel), List.mem_of_getElem? (i := 445) (by decide +kernel)⟩
theorem lw_p25 : lw_okq (⟨"ReversiblePartsModel", "productAt", "(I)I"⟩, 15) := ⟨⟨by decide +kernel, by decide +kernel⟩, List.mem_of_getElem? (i := 331) (by decide +kernel), List.mem_of_getElem? (i := 448) (by decide +kernel), List.mem_of_getElem? (i := 449) (by decide +kernel)⟩
theorem lw_p26 : lw_okq (⟨"ReversiblePartsModel", "functionFor", "(I)I"⟩, 15) := ⟨⟨by decide +kernel, by decide +kernel⟩, List.mem_of_getElem? (i := 331) (by decide +kernel), List.mem_of_getElem? (i := 452) (by decide +kernel), List.mem_of_getElem? (i := 453) (by decide +kernel)⟩
theorem lw_p27 : lw_okq (⟨"ReversiblePartsModel", "costAt", "(I)I"⟩, 15) := ⟨⟨by decide +kernel, by decide +kernel⟩, List.mem_of_getElem? (i := 331) (by decide +kernel), List.mem_of_getElem? (i := 456) (by decide +kernel), List.mem_of_getElem? (i := 457) (by decide +kernel)⟩
theorem lw_p28 : lw_okq (⟨"ReversiblePartsModel", "findEnd", "(I)I"⟩, 15) := ⟨⟨by decide +kernel, by decide +kernel⟩, List.mem_of_getElem? (i := 331) (by decide +kernel), List.mem_of_getElem? (i := 476) (by decide +kernel), List.mem_of_getElem? (i := 477) (by decide +kernel)⟩
theorem lw_p29 : lw_okq (⟨"ReversiblePartsModel", "lengthTo", "(I)I"⟩, 15) := ⟨⟨by decide +kernel, by decide +kernel⟩, List.mem_of_getElem? (i := 331) (by decide +kernel), List.mem_of_getElem? (i := 483) (by decide +kernel), List.mem_of_getElem? (i := 484) (by decide +kernel)⟩
def lw_privs_2 : List (MethodName × Nat) := [(⟨"ReversiblePartsModel", "start", "(I)V"⟩, 15), (⟨"ReversiblePartsModel", "isValue", "(I)Z"⟩, 15), (⟨"ReversiblePartsModel", "values", "()I"⟩, 15), (⟨"ReversiblePartsModel", "isPermutation", "()Z"⟩, 15), (⟨"ReversiblePartsModel", "findGates", "()V"⟩, 15), (⟨"ReversiblePartsModel", "doGate", "(II)V"⟩, 15), (⟨"ReversiblePartsModel", "functions", "()I"⟩, 15), (⟨"ReversiblePartsModel", "findCosts", "()V"⟩, 15), (⟨"ReversiblePartsModel", "products", "()I"⟩, 15), (⟨"ReversiblePartsModel", "productAt", "(I)I"⟩, 15), (⟨"ReversiblePartsModel", "functionFor", "(I)I"⟩, 15), (⟨"ReversiblePartsModel", "costAt", "(I)I"⟩, 15), (⟨"ReversiblePartsModel", "findEnd", "(I)I"⟩, 15), (⟨"ReversiblePartsModel", "lengthTo", "(I)I"⟩, 15)]
theorem lw_r2 : ∀ q ∈ lw_privs_2, lw_okq q := List.forall_mem_cons.mpr ⟨lw_p16, List.forall_mem_cons.mpr ⟨lw_p17, List.forall_mem_cons.mpr ⟨lw_p18, List.forall_mem_cons.mpr ⟨lw_p19, List.forall_mem_cons.mpr ⟨lw_p20, List.forall_mem_cons.mpr ⟨lw_p21, List.forall_mem_cons.mpr ⟨lw_p22, List.forall_mem_cons.mpr ⟨lw_p23, List.forall_mem_cons.mpr ⟨lw_p24, List.forall_mem_cons.mpr ⟨lw_p25, List.forall_mem_cons.mpr ⟨lw_p26, List.forall_mem_cons.mpr ⟨lw_p27, List.forall_mem_cons.mpr ⟨lw_p28, List.forall_mem_cons.mpr ⟨lw_p29, fun _ h => absurd h List.not_mem_nil⟩⟩⟩⟩⟩⟩⟩⟩⟩⟩⟩⟩⟩⟩
def lw_privs : List (MethodName × Nat) := lw_privs_1 ++ (lw_privs_2)
def lw_tbl : List Cond := k2_sels lw_privs ++ tables_1
theorem lw_privs_ok : ∀ q ∈ lw_privs, lw_okq q := by
  show ∀ q ∈ lw_privs_1 ++ (lw_privs_2), lw_okq q
  exact List.forall_mem_append.mpr ⟨lw_r1, lw_r2⟩
end
section
def RF : String := "ReversibleParts$Forms"
def TF : u_T := fun k => match k with
  | 0 => ("ReversibleParts$Forms", "row", "[J", true)
  | _ => ("ReversibleParts$Forms", "filled", "I", false)
def tyF : Nat → FieldType := fun k => match k with
  | 0 => .array .long
  | _ => .int
theorem nmF : ∀ a, a < 2 → ∀ b, b < 2 → a ≠ b → (TF a).2.1 ≠ (TF b).2.1 := by decide +kernel
theorem tyokF : ∀ k, k < 2 → parseFieldDescriptor (TF k).2.2.1 = some (tyF k) := by decide +kernel
def RV : String := "ReversibleParts$Moves"
def TV : u_T := fun k => match k with
  | _ => ("ReversibleParts$Moves", "row", "[I", true)
def tyV : Nat → FieldType := fun k => match k with
  | _ => .array .int
theorem nmV : ∀ a, a < 1 → ∀ b, b < 1 → a ≠ b → (TV a).2.1 ≠ (TV b).2.1 := by decide +kernel
theorem tyokV : ∀ k, k < 1 → parseFieldDescriptor (TV k).2.2.1 = some (tyV k) := by decide +kernel
def RS : String := "ReversibleParts$Steps"
def TS : u_T := fun k => match k with
  | 0 => ("ReversibleParts$Steps", "count", "I", false)
  | 1 => ("ReversibleParts$Steps", "needs", "[I", true)
  | 2 => ("ReversibleParts$Steps", "known", "[LReversibleParts$Moves;", true)
  | 3 => ("ReversibleParts$Steps", "nothing", "LReversibleParts$Moves;", true)
  | 4 => ("ReversibleParts$Steps", "left", "[I", false)
  | 5 => ("ReversibleParts$Steps", "queue", "[I", false)
  | _ => ("ReversibleParts$Steps", "queued", "I", false)
def tyS : Nat → FieldType := fun k => match k with
  | 0 => .int
  | 1 => .array .int
  | 2 => .array (.object "ReversibleParts$Moves")
  | 3 => .object "ReversibleParts$Moves"
  | 4 => .array .int
  | 5 => .array .int
  | _ => .int
theorem nmS : ∀ a, a < 7 → ∀ b, b < 7 → a ≠ b → (TS a).2.1 ≠ (TS b).2.1 := by decide +kernel
theorem tyokS : ∀ k, k < 7 → parseFieldDescriptor (TS k).2.2.1 = some (tyS k) := by decide +kernel
def RT : String := "ReversibleParts$Table"
def TT : u_T := fun k => match k with
  | 0 => ("ReversibleParts$Table", "bits", "I", false)
  | 1 => ("ReversibleParts$Table", "size", "I", false)
  | 2 => ("ReversibleParts$Table", "to", "[I", true)
  | 3 => ("ReversibleParts$Table", "rest", "[I", true)
  | 4 => ("ReversibleParts$Table", "found", "[I", true)
  | _ => ("ReversibleParts$Table", "foundCount", "I", false)
def tyT : Nat → FieldType := fun k => match k with
  | 0 => .int
  | 1 => .int
  | 2 => .array .int
  | 3 => .array .int
  | 4 => .array .int
  | _ => .int
theorem nmT : ∀ a, a < 6 → ∀ b, b < 6 → a ≠ b → (TT a).2.1 ≠ (TT b).2.1 := by decide +kernel
theorem tyokT : ∀ k, k < 6 → parseFieldDescriptor (TT k).2.2.1 = some (tyT k) := by decide +kernel
def RR : String := "ReversibleParts"
def TR : u_T := fun k => match k with
  | 0 => ("ReversibleParts", "table", "LReversibleParts$Table;", true)
  | 1 => ("ReversibleParts", "forms", "LReversibleParts$Forms;", true)
  | _ => ("ReversibleParts", "steps", "LReversibleParts$Steps;", true)
def tyR : Nat → FieldType := fun k => match k with
  | 0 => .object "ReversibleParts$Table"
  | 1 => .object "ReversibleParts$Forms"
  | _ => .object "ReversibleParts$Steps"
theorem nmR : ∀ a, a < 3 → ∀ b, b < 3 → a ≠ b → (TR a).2.1 ≠ (TR b).2.1 := by decide +kernel
theorem tyokR : ∀ k, k < 3 → parseFieldDescriptor (TR k).2.2.1 = some (tyR k) := by decide +kernel
def RM : String := "ReversiblePartsModel"
def TM : u_T := fun k => match k with
  | 0 => ("ReversiblePartsModel", "thrown", "I", false)
  | 1 => ("ReversiblePartsModel", "bits", "I", false)
  | 2 => ("ReversiblePartsModel", "table", "[I", true)
  | 3 => ("ReversiblePartsModel", "steps", "I", false)
  | 4 => ("ReversiblePartsModel", "needs", "[I", true)
  | 5 => ("ReversiblePartsModel", "work", "[I", true)
  | 6 => ("ReversiblePartsModel", "made", "[I", true)
  | 7 => ("ReversiblePartsModel", "many", "I", false)
  | 8 => ("ReversiblePartsModel", "isKnown", "[Z", true)
  | 9 => ("ReversiblePartsModel", "cost", "[I", true)
  | 10 => ("ReversiblePartsModel", "functionOf", "[I", true)
  | 11 => ("ReversiblePartsModel", "isCome", "[Z", true)
  | 12 => ("ReversiblePartsModel", "queue", "[I", true)
  | 13 => ("ReversiblePartsModel", "source", "[I", true)
  | _ => ("ReversiblePartsModel", "by", "[I", true)
def tyM : Nat → FieldType := fun k => match k with
  | 0 => .int
  | 1 => .int
  | 2 => .array .int
  | 3 => .int
  | 4 => .array .int
  | 5 => .array .int
  | 6 => .array .int
  | 7 => .int
  | 8 => .array .boolean
  | 9 => .array .int
  | 10 => .array .int
  | 11 => .array .boolean
  | 12 => .array .int
  | 13 => .array .int
  | _ => .array .int
theorem nmM : ∀ a, a < 15 → ∀ b, b < 15 → a ≠ b → (TM a).2.1 ≠ (TM b).2.1 := by decide +kernel
theorem tyokM : ∀ k, k < 15 → parseFieldDescriptor (TM k).2.2.1 = some (tyM k) := by decide +kernel
abbrev vwCl : List vw_C := [(RF, TF, 2), (RV, TV, 1), (RS, TS, 7), (RT, TT, 6), (RR, TR, 3), (RM, TM, 15)]
abbrev bR_init : ByteArray := prog_1_method_1_code
def yR_init : MethodName := ⟨"ReversibleParts", "<init>", "()V"⟩
abbrev bT_init : ByteArray := prog_6_method_1_code
def yT_init : MethodName := ⟨"ReversibleParts$Table", "<init>", "()V"⟩
abbrev bF_init : ByteArray := prog_2_method_1_code
def yF_init : MethodName := ⟨"ReversibleParts$Forms", "<init>", "()V"⟩
abbrev bS_init : ByteArray := prog_5_method_1_code
def yS_init : MethodName := ⟨"ReversibleParts$Steps", "<init>", "()V"⟩
abbrev bV_init : ByteArray := prog_3_method_1_code
def yV_init : MethodName := ⟨"ReversibleParts$Moves", "<init>", "(I)V"⟩
abbrev bR_begin : ByteArray := prog_1_method_2_code
def yR_begin : MethodName := ⟨"ReversibleParts", "begin", "(I)Z"⟩
abbrev bT_startWith : ByteArray := prog_6_method_2_code
def yT_startWith : MethodName := ⟨"ReversibleParts$Table", "startWith", "(I)Z"⟩
abbrev bR_put : ByteArray := prog_1_method_3_code
def yR_put : MethodName := ⟨"ReversibleParts", "put", "(II)Z"⟩
abbrev bT_set : ByteArray := prog_6_method_7_code
def yT_set : MethodName := ⟨"ReversibleParts$Table", "set", "(II)Z"⟩
abbrev bT_hasValue : ByteArray := prog_6_method_4_code
def yT_hasValue : MethodName := ⟨"ReversibleParts$Table", "hasValue", "(I)Z"⟩
abbrev bR_apply : ByteArray := prog_1_method_4_code
def yR_apply : MethodName := ⟨"ReversibleParts", "apply", "(I)Z"⟩
abbrev bT_change : ByteArray := prog_6_method_8_code
def yT_change : MethodName := ⟨"ReversibleParts$Table", "change", "(I)Z"⟩
abbrev bT_hasGate : ByteArray := prog_6_method_5_code
def yT_hasGate : MethodName := ⟨"ReversibleParts$Table", "hasGate", "(I)Z"⟩
abbrev bT_changeAll : ByteArray := prog_6_method_14_code
def yT_changeAll : MethodName := ⟨"ReversibleParts$Table", "changeAll", "([II)V"⟩
abbrev bR_gate : ByteArray := prog_1_method_5_code
def yR_gate : MethodName := ⟨"ReversibleParts", "gate", "(I)I"⟩
abbrev bT_isPermutation : ByteArray := prog_6_method_9_code
def yT_isPermutation : MethodName := ⟨"ReversibleParts$Table", "isPermutation", "()Z"⟩
abbrev bT_findGates : ByteArray := prog_6_method_10_code
def yT_findGates : MethodName := ⟨"ReversibleParts$Table", "findGates", "()I"⟩
abbrev bT_settleRow : ByteArray := prog_6_method_12_code
def yT_settleRow : MethodName := ⟨"ReversibleParts$Table", "settleRow", "(I)V"⟩
abbrev bT_useGate : ByteArray := prog_6_method_13_code
def yT_useGate : MethodName := ⟨"ReversibleParts$Table", "useGate", "(I)V"⟩
abbrev bT_foundFromLast : ByteArray := prog_6_method_11_code
def yT_foundFromLast : MethodName := ⟨"ReversibleParts$Table", "foundFromLast", "(I)I"⟩
abbrev bR_look : ByteArray := prog_1_method_6_code
def yR_look : MethodName := ⟨"ReversibleParts", "look", "(I)I"⟩
abbrev bT_get : ByteArray := prog_6_method_6_code
def yT_get : MethodName := ⟨"ReversibleParts$Table", "get", "(I)I"⟩
abbrev bR_form : ByteArray := prog_1_method_7_code
def yR_form : MethodName := ⟨"ReversibleParts", "form", "(II)I"⟩
abbrev bT_bitCount : ByteArray := prog_6_method_3_code
def yT_bitCount : MethodName := ⟨"ReversibleParts$Table", "bitCount", "()I"⟩
abbrev bF_least : ByteArray := prog_2_method_4_code
def yF_least : MethodName := ⟨"ReversibleParts$Forms", "least", "(II)J"⟩
abbrev bF_fillLevel : ByteArray := prog_2_method_5_code
def yF_fillLevel : MethodName := ⟨"ReversibleParts$Forms", "fillLevel", "(I)V"⟩
abbrev bF_leastFrom : ByteArray := prog_2_method_6_code
def yF_leastFrom : MethodName := ⟨"ReversibleParts$Forms", "leastFrom", "(II)J"⟩
abbrev bP_count : ByteArray := prog_4_method_2_code
def yP_count : MethodName := ⟨"ReversibleParts$Products", "count", "(I)I"⟩
abbrev bF_sizeOf : ByteArray := prog_2_method_2_code
def yF_sizeOf : MethodName := ⟨"ReversibleParts$Forms", "sizeOf", "(J)I"⟩
abbrev bF_join : ByteArray := prog_2_method_7_code
def yF_join : MethodName := ⟨"ReversibleParts$Forms", "join", "(JJI)J"⟩
abbrev bF_numberAt : ByteArray := prog_2_method_3_code
def yF_numberAt : MethodName := ⟨"ReversibleParts$Forms", "numberAt", "(JI)I"⟩
abbrev bR_product : ByteArray := prog_1_method_8_code
def yR_product : MethodName := ⟨"ReversibleParts", "product", "(I)I"⟩
abbrev bP_function : ByteArray := prog_4_method_3_code
def yP_function : MethodName := ⟨"ReversibleParts$Products", "function", "(II)I"⟩
abbrev bP_holds : ByteArray := prog_4_method_4_code
def yP_holds : MethodName := ⟨"ReversibleParts$Products", "holds", "(III)Z"⟩
abbrev bR_program : ByteArray := prog_1_method_9_code
def yR_program : MethodName := ⟨"ReversibleParts", "program", "(I)Z"⟩
abbrev bS_startWith : ByteArray := prog_5_method_2_code
def yS_startWith : MethodName := ⟨"ReversibleParts$Steps", "startWith", "(I)Z"⟩
abbrev bS_forget : ByteArray := prog_5_method_7_code
def yS_forget : MethodName := ⟨"ReversibleParts$Steps", "forget", "()V"⟩
abbrev bR_need : ByteArray := prog_1_method_10_code
def yR_need : MethodName := ⟨"ReversibleParts", "need", "(II)Z"⟩
abbrev bS_setNeeds : ByteArray := prog_5_method_4_code
def yS_setNeeds : MethodName := ⟨"ReversibleParts$Steps", "setNeeds", "(II)Z"⟩
abbrev bR_move : ByteArray := prog_1_method_11_code
def yR_move : MethodName := ⟨"ReversibleParts", "move", "(II)I"⟩
abbrev bS_movesWithin : ByteArray := prog_5_method_6_code
def yS_movesWithin : MethodName := ⟨"ReversibleParts$Steps", "movesWithin", "(I)LReversibleParts$Moves;"⟩
abbrev bS_search : ByteArray := prog_5_method_10_code
def yS_search : MethodName := ⟨"ReversibleParts$Steps", "search", "(I)LReversibleParts$Moves;"⟩
abbrev bS_makeRoom : ByteArray := prog_5_method_11_code
def yS_makeRoom : MethodName := ⟨"ReversibleParts$Steps", "makeRoom", "()V"⟩
abbrev bS_wantedSteps : ByteArray := prog_5_method_9_code
def yS_wantedSteps : MethodName := ⟨"ReversibleParts$Steps", "wantedSteps", "()I"⟩
abbrev bS_spreadFromGoal : ByteArray := prog_5_method_12_code
def yS_spreadFromGoal : MethodName := ⟨"ReversibleParts$Steps", "spreadFromGoal", "(II)V"⟩
abbrev bS_enter : ByteArray := prog_5_method_14_code
def yS_enter : MethodName := ⟨"ReversibleParts$Steps", "enter", "(II)V"⟩
abbrev bS_spreadFrom : ByteArray := prog_5_method_13_code
def yS_spreadFrom : MethodName := ⟨"ReversibleParts$Steps", "spreadFrom", "(III)V"⟩
abbrev bJ_bitCount : ByteArray := prog_9_method_49_code
def yJ_bitCount : MethodName := ⟨"java/lang/Integer", "bitCount", "(I)I"⟩
abbrev bV_length : ByteArray := prog_3_method_2_code
def yV_length : MethodName := ⟨"ReversibleParts$Moves", "length", "()I"⟩
abbrev bS_firstStepNearer : ByteArray := prog_5_method_15_code
def yS_firstStepNearer : MethodName := ⟨"ReversibleParts$Steps", "firstStepNearer", "(I)I"⟩
abbrev bV_set : ByteArray := prog_3_method_4_code
def yV_set : MethodName := ⟨"ReversibleParts$Moves", "set", "(II)V"⟩
abbrev bV_at : ByteArray := prog_3_method_3_code
def yV_at : MethodName := ⟨"ReversibleParts$Moves", "at", "(I)I"⟩
abbrev bR_marks : ByteArray := prog_1_method_12_code
def yR_marks : MethodName := ⟨"ReversibleParts", "marks", "()I"⟩
abbrev bS_fewestMarks : ByteArray := prog_5_method_5_code
def yS_fewestMarks : MethodName := ⟨"ReversibleParts$Steps", "fewestMarks", "()I"⟩
abbrev bS_fewestThinkable : ByteArray := prog_5_method_8_code
def yS_fewestThinkable : MethodName := ⟨"ReversibleParts$Steps", "fewestThinkable", "()I"⟩
abbrev bR_total : ByteArray := prog_1_method_13_code
def yR_total : MethodName := ⟨"ReversibleParts", "total", "(I)I"⟩
abbrev bS_count : ByteArray := prog_5_method_3_code
def yS_count : MethodName := ⟨"ReversibleParts$Steps", "count", "()I"⟩
abbrev bM_init : ByteArray := prog_8_method_1_code
def yM_init : MethodName := ⟨"ReversiblePartsModel", "<init>", "()V"⟩
abbrev bM_start : ByteArray := prog_8_method_3_code
def yM_start : MethodName := ⟨"ReversiblePartsModel", "start", "(I)V"⟩
abbrev bM_begin : ByteArray := prog_8_method_6_code
def yM_begin : MethodName := ⟨"ReversiblePartsModel", "begin", "(I)Z"⟩
abbrev bM_put : ByteArray := prog_8_method_7_code
def yM_put : MethodName := ⟨"ReversiblePartsModel", "put", "(II)Z"⟩
abbrev bM_isValue : ByteArray := prog_8_method_5_code
def yM_isValue : MethodName := ⟨"ReversiblePartsModel", "isValue", "(I)Z"⟩
abbrev bM_values : ByteArray := prog_8_method_4_code
def yM_values : MethodName := ⟨"ReversiblePartsModel", "values", "()I"⟩
abbrev bM_apply : ByteArray := prog_8_method_9_code
def yM_apply : MethodName := ⟨"ReversiblePartsModel", "apply", "(I)Z"⟩
abbrev bM_changed : ByteArray := prog_8_method_8_code
def yM_changed : MethodName := ⟨"ReversiblePartsModel", "changed", "(III)I"⟩
abbrev bM_gate : ByteArray := prog_8_method_13_code
def yM_gate : MethodName := ⟨"ReversiblePartsModel", "gate", "(I)I"⟩
abbrev bM_isPermutation : ByteArray := prog_8_method_10_code
def yM_isPermutation : MethodName := ⟨"ReversiblePartsModel", "isPermutation", "()Z"⟩
abbrev bM_findGates : ByteArray := prog_8_method_12_code
def yM_findGates : MethodName := ⟨"ReversiblePartsModel", "findGates", "()V"⟩
abbrev bM_doGate : ByteArray := prog_8_method_11_code
def yM_doGate : MethodName := ⟨"ReversiblePartsModel", "doGate", "(II)V"⟩
abbrev bM_look : ByteArray := prog_8_method_14_code
def yM_look : MethodName := ⟨"ReversiblePartsModel", "look", "(I)I"⟩
abbrev bM_form : ByteArray := prog_8_method_21_code
def yM_form : MethodName := ⟨"ReversiblePartsModel", "form", "(II)I"⟩
abbrev bM_functions : ByteArray := prog_8_method_18_code
def yM_functions : MethodName := ⟨"ReversiblePartsModel", "functions", "()I"⟩
abbrev bM_findCosts : ByteArray := prog_8_method_20_code
def yM_findCosts : MethodName := ⟨"ReversiblePartsModel", "findCosts", "()V"⟩
abbrev bM_products : ByteArray := prog_8_method_17_code
def yM_products : MethodName := ⟨"ReversiblePartsModel", "products", "()I"⟩
abbrev bM_productAt : ByteArray := prog_8_method_16_code
def yM_productAt : MethodName := ⟨"ReversiblePartsModel", "productAt", "(I)I"⟩
abbrev bM_functionFor : ByteArray := prog_8_method_19_code
def yM_functionFor : MethodName := ⟨"ReversiblePartsModel", "functionFor", "(I)I"⟩
abbrev bM_costAt : ByteArray := prog_8_method_15_code
def yM_costAt : MethodName := ⟨"ReversiblePartsModel", "costAt", "(I)I"⟩
abbrev bM_product : ByteArray := prog_8_method_22_code
def yM_product : MethodName := ⟨"ReversiblePartsModel", "product", "(I)I"⟩
abbrev bM_program : ByteArray := prog_8_method_23_code
def yM_program : MethodName := ⟨"ReversiblePartsModel", "program", "(I)Z"⟩
abbrev bM_need : ByteArray := prog_8_method_24_code
def yM_need : MethodName := ⟨"ReversiblePartsModel", "need", "(II)Z"⟩
abbrev bM_move : ByteArray := prog_8_method_28_code
def yM_move : MethodName := ⟨"ReversiblePartsModel", "move", "(II)I"⟩
abbrev bM_findEnd : ByteArray := prog_8_method_26_code
def yM_findEnd : MethodName := ⟨"ReversiblePartsModel", "findEnd", "(I)I"⟩
abbrev bM_count : ByteArray := prog_8_method_25_code
def yM_count : MethodName := ⟨"ReversiblePartsModel", "count", "(I)I"⟩
abbrev bM_lengthTo : ByteArray := prog_8_method_27_code
def yM_lengthTo : MethodName := ⟨"ReversiblePartsModel", "lengthTo", "(I)I"⟩
abbrev bM_marks : ByteArray := prog_8_method_29_code
def yM_marks : MethodName := ⟨"ReversiblePartsModel", "marks", "()I"⟩
abbrev bM_total : ByteArray := prog_8_method_30_code
def yM_total : MethodName := ⟨"ReversiblePartsModel", "total", "(I)I"⟩
end
section
section JK0
abbrev jE : Type := va_G × (Nat → Nat)
abbrev jL : Type := List (Nat × Value)
abbrev jJ : Type := Nat → jL → List Value → va_W → Nat → Nat → Prop
def jTys (E : jE) : List (ClassId × FieldType) := [(E.2 0, .int), (E.2 1, .long), (E.2 2, .boolean), (E.2 3, .object "ReversibleParts$Moves")]
def jTW : List Cond := lw_tbl.filter goodWord
/-- the table START, which nobody writes -/
def jsT (j : Nat) : Nat := match j with | 0 => 0 | 1 => 2 | 2 => 6 | _ => 22
def jST (E : jE) (A : Nat → Prop) (U : State) (H : Heap) : Prop := va_Z "ReversibleParts$Forms" "START" "[I" (.ref (E.2 4)) A U H ∧ va_T .int (E.2 4) 4 (fun j => .int (nI (jsT j))) A U H
theorem jST.moved {E : jE} {A : Nat → Prop} {u U : State} {H : Heap} (hvm : u.vm.Alike U.vm) (h : jST E A u H) : jST E A U H := ⟨h.1.moved hvm, h.2.moved hvm⟩
theorem jST.kept {E : jE} {A : Nat → Prop} {U : State} {H H1 : Heap} (h : jST E A U H) (hq : ∀ a : Nat, a < H.size → ¬ A a → H1[a]? = H[a]?) : jST E A U H1 := ⟨h.1.kept hq, h.2.kept hq⟩
theorem jST.narrow {E : jE} {A B : Nat → Prop} {U : State} {H : Heap} (h : jST E A U H) (hAB : ∀ q, B q → A q) : jST E B U H := ⟨h.1.narrow hAB, h.2.narrow hAB⟩
/-- the judgement: from every heap that holds the cells ws, the frame at pc comes to Q -/
def jV (p : Program) (l : Launch) (e : Env) (R : Room) (s : State) (m : MethodId) (args : Array Value) (below : List Frame) (meth : Method) (c : Code) (Q : State → Prop) (A : Nat → Prop) (E : jE) (nL : Nat) : jJ := fun pc lv st ws cells slots =>
  ∀ (H : Heap) (locs : List Loc) (ls : Array Slot), va_P E.1 vwCl ws H → va_D A ws → va_S A s.heap H locs → lv_has ls nL lv → W p l e R s m args below meth c H locs cells slots Q (F0 m pc ls st)
/-- J is such a judgement, of a method of the class own with the bytes cc and nL locals, in the room R -/
def jI (E : jE) (own : String) (cc : ByteArray) (nL : Nat) (p : Program) (s : State) (m : MethodId) (args : Array Value) (meth : Method) (c : Code) (A : Nat → Prop) : Prop :=
  p.tables.exec = Jvm.exec ∧ c.code = cc ∧ c.maxLocals = nL ∧ s.vm.findClass own = some m.cls ∧ (∀ w ∈ jTW, w.before args s = true) ∧ (∀ q, s.heap.size ≤ q → A q) ∧ va_K E.1 vwCl (jTys E) s ∧ jST E A s s.heap ∧ meth.locks = false
def jC (E : jE) (l : Launch) (own : String) (cc : ByteArray) (nL : Nat) (R : Room) (J : jJ) : Prop :=
  ∃ (p : Program) (e : Env) (s : State) (m : MethodId) (args : Array Value) (below : List Frame) (meth : Method) (c : Code) (Q : State → Prop) (A : Nat → Prop),
    jI E own cc nL p s m args meth c A ∧ J = jV p l e R s m args below meth c Q A E nL
theorem jgood : GoodIn jTW jTW := fun w h => ⟨h, good_of_word (List.mem_filter.mp h).2⟩
theorem jgood0 : GoodIn lw_tbl jTW := fun w h => ⟨(List.mem_filter.mp h).1, good_of_word (List.mem_filter.mp h).2⟩
theorem j_in {w : Cond} (h : w ∈ lw_tbl) (g : goodWord w = true) : w ∈ jTW := List.mem_filter.mpr ⟨h, g⟩
theorem j_at {w : Cond} (i : Nat) (h : lw_tbl[i]? = some w) (g : goodWord w = true) : w ∈ jTW := j_in (List.mem_of_getElem? h) g
-- cells
abbrev kI (E : jE) (a n : Nat) (t : Nat → Nat) : Nat × va_E := (a, .inl (E.2 0, n, .inl (fun j => nI (t j))))
abbrev kR (E : jE) (a n : Nat) (f : Nat → Int32) : Nat × va_E := (a, .inl (E.2 0, n, .inl f))
abbrev kL (E : jE) (a n : Nat) (f : Nat → Int64) : Nat × va_E := (a, .inl (E.2 1, n, .inr (.inl f)))
abbrev kZ (E : jE) (a n : Nat) (f : Nat → Int32) : Nat × va_E := (a, .inl (E.2 2, n, .inl f))
abbrev kQ (E : jE) (a n : Nat) (f : Nat → Option Nat) : Nat × va_E := (a, .inl (E.2 3, n, .inr (.inr (.inr (.inr f)))))
def upN (t : Nat → Nat) (k x : Nat) : Nat → Nat := fun j => if j = k then x else t j
theorem upN_nI (t : Nat → Nat) (k x : Nat) : upd (fun j => nI (t j)) k (nI x) = fun j => nI (upN t k x j) := by
  funext j
  unfold upd upN
  split <;> rfl
theorem upN_s {t : Nat → Nat} {k x : Nat} : upN t k x k = x := by simp [upN]
theorem upN_n {t : Nat → Nat} {k x j : Nat} (h : j ≠ k) : upN t k x j = t j := by simp [upN, h]
-- cells as a set
theorem jP_iff {D : va_G} {cl : List vw_C} {ws : va_W} {H : Heap} : va_P D cl ws H ↔ ∀ q ∈ ws, va_at D cl q H :=
  ⟨fun h q hq => by obtain ⟨k, hk⟩ := List.getElem?_of_mem hq; exact h k q hk, fun h k q hk => h q (List.mem_of_getElem? hk)⟩
theorem jD_iff {A : Nat → Prop} {ws : va_W} : va_D A ws ↔ List.Pairwise (fun x y : Nat × va_E => x.1 ≠ y.1) ws ∧ ∀ q ∈ ws, A q.1 := by
  constructor
  · intro h
    refine ⟨List.pairwise_iff_getElem.mpr fun i j hi hj hij he => ?_, fun q hq => ?_⟩
    · have := h.1 i j ws[i] ws[j] (List.getElem?_eq_getElem hi) (List.getElem?_eq_getElem hj) he
      omega
    · obtain ⟨k, hk⟩ := List.getElem?_of_mem hq
      exact h.2 k q hk
  · intro h
    refine ⟨fun i j x y hx hy he => ?_, fun k q hk => h.2 q (List.mem_of_getElem? hk)⟩
    obtain ⟨hi, rfl⟩ := List.getElem?_eq_some_iff.mp hx
    obtain ⟨hj, rfl⟩ := List.getElem?_eq_some_iff.mp hy
    have hp := List.pairwise_iff_getElem.mp h.1
    rcases Nat.lt_trichotomy i j with q | q | q
    · exact absurd he (hp i j hi hj q)
    · exact q
    · exact absurd he.symm (hp j i hj hi q)
theorem jD_app {A : Nat → Prop} {a b : va_W} : va_D A (a ++ b) ↔ va_D A a ∧ va_D A b ∧ ∀ x ∈ a, ∀ y ∈ b, x.1 ≠ y.1 := by
  rw [jD_iff, jD_iff, jD_iff, List.pairwise_append]
  constructor
  · rintro ⟨⟨h1, h2, h3⟩, h4⟩
    exact ⟨⟨h1, fun q hq => h4 q (List.mem_append_left _ hq)⟩, ⟨h2, fun q hq => h4 q (List.mem_append_right _ hq)⟩, h3⟩
  · rintro ⟨⟨h1, h2⟩, ⟨h3, h4⟩, h5⟩
    exact ⟨⟨h1, h3, h5⟩, fun q hq => (List.mem_append.mp hq).elim (h2 q) (h4 q)⟩
theorem jP_app {D : va_G} {cl : List vw_C} {a b : va_W} {H : Heap} : va_P D cl (a ++ b) H ↔ va_P D cl a H ∧ va_P D cl b H := by
  rw [jP_iff, jP_iff, jP_iff]
  exact ⟨fun h => ⟨fun q hq => h q (List.mem_append_left _ hq), fun q hq => h q (List.mem_append_right _ hq)⟩, fun h q hq => (List.mem_append.mp hq).elim (h.1 q) (h.2 q)⟩
/-- behind a call: the callee's cells wc have become w1, what stood before and behind them is as it was -/
theorem j_join {A : Nat → Prop} {D : va_G} {cl : List vw_C} {pre wc po w1 : va_W} {H H1 : Heap} (hP : va_P D cl (pre ++ wc ++ po) H) (hD : va_D A (pre ++ wc ++ po)) (hk : ∀ q : Nat, q < H.size → ¬ va_A wc H.size q → H1[q]? = H[q]?) (hF : ∀ q, va_A wc H.size q → A q) (hP1 : va_P D cl w1 H1) (hD1 : va_D (va_A wc H.size) w1) :
    va_P D cl (pre ++ w1 ++ po) H1 ∧ va_D A (pre ++ w1 ++ po) := by
  have apart : ∀ q ∈ pre ++ po, q.1 < H.size ∧ ¬ va_A wc H.size q.1 := by
    intro q hq
    have hin : q ∈ pre ++ wc ++ po := by
      rcases List.mem_append.mp hq with h | h
      · exact List.mem_append_left _ (List.mem_append_left _ h)
      · exact List.mem_append_right _ h
    have hl := (jP_iff.mp hP q hin).lt
    refine ⟨hl, fun h => ?_⟩
    rcases h with ⟨k, e, h⟩ | h
    · have hw : (q.1, e) ∈ wc := List.mem_of_getElem? h
      rcases List.mem_append.mp hq with h | h
      · exact (jD_app.mp (jD_app.mp hD).1).2.2 q h _ hw rfl
      · exact (jD_app.mp hD).2.2 _ (List.mem_append_right _ hw) q h rfl
    · omega
  have hk' : ∀ q ∈ pre ++ po, va_at D cl q H1 := by
    intro q hq
    have hin : q ∈ pre ++ wc ++ po := by
      rcases List.mem_append.mp hq with h | h
      · exact List.mem_append_left _ (List.mem_append_left _ h)
      · exact List.mem_append_right _ h
    exact (jP_iff.mp hP q hin).kept (hk q.1 (apart q hq).1 (apart q hq).2)
  have hD1' : ∀ q ∈ w1, va_A wc H.size q.1 := (jD_iff.mp hD1).2
  constructor
  · refine jP_app.mpr ⟨jP_app.mpr ⟨jP_iff.mpr fun q hq => hk' q (List.mem_append_left _ hq), hP1⟩, jP_iff.mpr fun q hq => hk' q (List.mem_append_right _ hq)⟩
  · have h1 := jD_app.mp hD
    have h2 := jD_app.mp h1.1
    refine jD_app.mpr ⟨jD_app.mpr ⟨h2.1, hD1.weaken (fun _ q _ h => hF q.1 h), fun x hx y hy he => (apart x (List.mem_append_left _ hx)).2 (by rw [he]; exact hD1' y hy)⟩, h1.2.1, fun x hx y hy he => ?_⟩
    rcases List.mem_append.mp hx with h | h
    · exact h1.2.2 x (List.mem_append_left _ h) y hy he
    · exact (apart y (List.mem_append_right _ hy)).2 (by rw [← he]; exact hD1' x h)
theorem j_freeA {A : Nat → Prop} {pre wc po : va_W} {H0 H : Heap} {locs : List Loc} (hD : va_D A (pre ++ wc ++ po)) (hS : va_S A H0 H locs) (hA : ∀ q, H0.size ≤ q → A q) : ∀ q, va_A wc H.size q → A q := by
  intro q h
  rcases h with ⟨k, e, h⟩ | h
  · exact (jD_iff.mp (jD_app.mp (jD_app.mp hD).1).2.1).2 (q, e) (List.mem_of_getElem? h)
  · exact hA q (Nat.le_trans hS.1 h)
/-- my contract: from the cells ws and the arguments av the method y answers r and leaves w' with 'post r w'' -/
def jPost (E : jE) (ws : va_W) (sz : Nat) (post : Option Value → va_W → Prop) : Array Value → State → Outcome → State → Prop := fun _ st oc t => (∃ (r : Option Value) (w' : va_W), oc = .returned r ∧ post r w' ∧ va_P E.1 vwCl w' t.heap ∧ va_D (va_A ws sz) w') ∧ va_F (va_A ws sz) st t
def jPre (E : jE) (av : List Value) (ws : va_W) (sz : Nat) : Array Value → State → Prop := va_Pc av (fun U => U.heap.size = sz ∧ va_P E.1 vwCl ws U.heap ∧ va_K E.1 vwCl (jTys E) U ∧ va_D (fun _ => True) ws ∧ jST E (va_A ws sz) U U.heap)
def Con (E : jE) (l : Launch) (y : MethodName) (bc : ByteArray) (nL : Nat) (ret : Option FieldType) (rm : Room) (av : List Value) (ws : va_W) (post : Option Value → va_W → Prop) : Prop :=
  ∀ sz : Nat, Met l y (Cond.code y bc nL ret :: jTW) rm (jPre E av ws sz) (jPost E ws sz post) rm.cells rm.slots (va_A ws sz)
theorem jPre_blind {E : jE} {av : List Value} {ws : va_W} {sz : Nat} : FrameBlind (jPre E av ws sz) := by
  intro a U g mk h
  obtain ⟨q0, q1, qP, qK, qD, qS⟩ := h
  exact ⟨q0, q1, qP, va_K.moved (u := U) (U := U.calling g mk a) (Vm.Alike.refl U.vm) qK, qD, jST.moved (u := U) (U := U.calling g mk a) (Vm.Alike.refl U.vm) qS⟩
theorem j_entry {E : jE} {l : Launch} {y : MethodName} {bc : ByteArray} {nL : Nat} {ret : Option FieldType} {rm : Room} {av : List Value} {ws : va_W} {post : Option Value → va_W → Prop} (hy : plainName y.cls = true) (hav : (lg_sl av).length ≤ nL)
    (body : ∀ (p : Program) (e : Env) (s : State) (m : MethodId) (below : List Frame) (meth : Method) (c : Code), meth.sig.returnType = ret → meth.name = y.name → jI E y.cls bc nL p s m av.toArray meth c (va_A ws s.heap.size) →
      jV p l e rm s m av.toArray below meth c (MQ below (jPost E ws s.heap.size post) av.toArray s rm.cells rm.slots (va_A ws s.heap.size)) (va_A ws s.heap.size) E nL 0 (lv_args 0 av) [] ws 0 0) : Con E l y bc nL ret rm av ws post := by
  intro sz
  refine Met.ofW (cc := bc) (maxL := nL) (ret := ret) hy rfl ?_
  intro p e s m args below meth c s₁ B hml hv
  obtain ⟨rfl, rfl, hP, hK, hD, hST⟩ := hv
  have hts := atoms_spec (ws := Cond.code y bc nL ret :: jTW) B.pre
  have hown : s.vm.findClass y.cls = some m.cls := findClass_of_methodNamed B.named
  have h := body p e s m below meth c B.returns (name_of_methodNamed B.named B.method).1 ⟨B.exec, B.bytes, hml, hown, fun w hw => hts w (List.mem_cons_of_mem _ hw), fun q h => Or.inr h, hK, hST, B.notSynchronized⟩
  have hl := lv_entry av (n := nL) hav
  rw [lg_entry_eq]
  exact h s.heap [] _ hP hD.self va_S.rf hl
end JK0
section JKR
variable {E : jE} {l : Launch} {y : MethodName} {bc : ByteArray} {nL : Nat} {rm : Room} {av : List Value} {ws : va_W} {post : Option Value → va_W → Prop}
theorem Con.ofI (hy : plainName y.cls = true) (hav : (lg_sl av).length ≤ nL) (body : ∀ J : jJ, jC E l y.cls bc nL rm J → (∀ (pc : Nat) (lv : jL) (v : Int32) (w' : va_W) (cells slots : Nat), decode bc pc = .ok (.ireturn, 1) → cells ≤ rm.cells → slots ≤ rm.slots → post (some (.int v)) w' → J pc lv [.int v] w' cells slots) → J 0 (lv_args 0 av) [] ws 0 0) : Con E l y bc nL (some .int) rm av ws post := by
  refine j_entry hy hav fun p e s m below meth c hr hname hI => body _ ⟨_, _, _, _, _, _, _, _, _, _, hI, rfl⟩ ?_
  obtain ⟨hx, hb, -, -, -, -, -, -, hlocks⟩ := hI
  intro pc lv v w' cells slots hd hc hs hp H locs ls hP hD hS hl
  exact W.widen hc hs (W.iret (v := v) hx hb hr (fun t ht hW => ⟨⟨_, w', rfl, hp, by rw [ht]; exact hP, hD⟩, hS.F ht⟩) hS.2.2 hd)
theorem Con.ofZ (hy : plainName y.cls = true) (hav : (lg_sl av).length ≤ nL) (body : ∀ J : jJ, jC E l y.cls bc nL rm J → (∀ (pc : Nat) (lv : jL) (v : Int32) (w' : va_W) (cells slots : Nat), decode bc pc = .ok (.ireturn, 1) → narrow .boolean (.int v) = .int v → cells ≤ rm.cells → slots ≤ rm.slots → post (some (.int v)) w' → J pc lv [.int v] w' cells slots) → J 0 (lv_args 0 av) [] ws 0 0) : Con E l y bc nL (some .boolean) rm av ws post := by
  refine j_entry hy hav fun p e s m below meth c hr hname hI => body _ ⟨_, _, _, _, _, _, _, _, _, _, hI, rfl⟩ ?_
  obtain ⟨hx, hb, -, -, -, -, -, -, hlocks⟩ := hI
  intro pc lv v w' cells slots hd hn hc hs hp H locs ls hP hD hS hl
  exact W.widen hc hs (W.zret (v := v) hx hb hr hn (fun t ht hW => ⟨⟨_, w', rfl, hp, by rw [ht]; exact hP, hD⟩, hS.F ht⟩) hS.2.2 hd)
theorem Con.ofL (hy : plainName y.cls = true) (hav : (lg_sl av).length ≤ nL) (body : ∀ J : jJ, jC E l y.cls bc nL rm J → (∀ (pc : Nat) (lv : jL) (v : Int64) (w' : va_W) (cells slots : Nat), decode bc pc = .ok (.lreturn, 1) → cells ≤ rm.cells → slots ≤ rm.slots → post (some (.long v)) w' → J pc lv [.long v] w' cells slots) → J 0 (lv_args 0 av) [] ws 0 0) : Con E l y bc nL (some .long) rm av ws post := by
  refine j_entry hy hav fun p e s m below meth c hr hname hI => body _ ⟨_, _, _, _, _, _, _, _, _, _, hI, rfl⟩ ?_
  obtain ⟨hx, hb, -, -, -, -, -, -, hlocks⟩ := hI
  intro pc lv v w' cells slots hd hc hs hp H locs ls hP hD hS hl
  exact W.widen hc hs (W.lret (v := v) hx hb hr (fun t ht hW => ⟨⟨_, w', rfl, hp, by rw [ht]; exact hP, hD⟩, hS.F ht⟩) hS.2.2 hd)
theorem Con.ofA {cn : String} (hy : plainName y.cls = true) (hav : (lg_sl av).length ≤ nL) (body : ∀ J : jJ, jC E l y.cls bc nL rm J → (∀ (pc : Nat) (lv : jL) (a : Nat) (w' : va_W) (cells slots : Nat), decode bc pc = .ok (.areturn, 1) → cells ≤ rm.cells → slots ≤ rm.slots → post (some (.ref a)) w' → J pc lv [.ref a] w' cells slots) → J 0 (lv_args 0 av) [] ws 0 0) : Con E l y bc nL (some (.object cn)) rm av ws post := by
  refine j_entry hy hav fun p e s m below meth c hr hname hI => body _ ⟨_, _, _, _, _, _, _, _, _, _, hI, rfl⟩ ?_
  obtain ⟨hx, hb, -, -, -, -, -, -, hlocks⟩ := hI
  intro pc lv a w' cells slots hd hc hs hp H locs ls hP hD hS hl
  exact W.widen hc hs (W.aret (v := .ref a) hx hb hr (Or.inl ⟨_, rfl⟩) (Or.inr ⟨_, rfl⟩) (fun t ht hW => ⟨⟨_, w', rfl, hp, by rw [ht]; exact hP, hD⟩, hS.F ht⟩) hS.2.2 hd)
theorem Con.ofV (hy : plainName y.cls = true) (hav : (lg_sl av).length ≤ nL) (body : ∀ J : jJ, jC E l y.cls bc nL rm J → (∀ (pc : Nat) (lv : jL) (w' : va_W) (cells slots : Nat), decode bc pc = .ok (.return_, 1) → cells ≤ rm.cells → slots ≤ rm.slots → post none w' → J pc lv [] w' cells slots) → J 0 (lv_args 0 av) [] ws 0 0) : Con E l y bc nL none rm av ws post := by
  refine j_entry hy hav fun p e s m below meth c hr hname hI => body _ ⟨_, _, _, _, _, _, _, _, _, _, hI, rfl⟩ ?_
  obtain ⟨hx, hb, -, -, -, -, -, -, hlocks⟩ := hI
  intro pc lv w' cells slots hd hc hs hp H locs ls hP hD hS hl
  exact W.widen hc hs (W.vret hx hb hr (fun t ht hW => ⟨⟨_, w', rfl, hp, by rw [ht]; exact hP, hD⟩, hS.F ht⟩) hS.2.2 hd)
/-- a constructor: it may write its final fields -/
def jInit (own : String) (cc : ByteArray) (J : jJ) (E : jE) : Prop := ∀ (pc : Nat) (lv : jL) (st : List Value) (ws ws' : va_W) (cells slots : Nat) (a ci : Nat) (C : String) (T : u_T) (N index q0 : Nat) (fs : List Value) (k : Nat) (ty0 : Nat → FieldType) (v : Value) (ty : FieldType), (∀ w ∈ u_ws C T N, w ∈ jTW) → (∀ k, k < N → parseFieldDescriptor (T k).2.2.1 = some (ty0 k)) → (∀ a, a < N → ∀ b, b < N → a ≠ b → (T a).2.1 ≠ (T b).2.1) → ws[q0]? = some (a, .inr (ci, fs)) → vwCl[ci]? = some (C, T, N) → k < N → Cond.fieldLink own index (T k).1 (T k).2.1 (T k).2.2.1 ∈ jTW → (T k).2.2.2 = true → (T k).1 = own → parseFieldDescriptor (T k).2.2.1 = some ty → narrow ty v = v → fits ty v = true → k < fs.length → decode cc pc = .ok (.putfield index, 3) → ws.set q0 (a, .inr (ci, fs.set k v)) = ws' → J (pc + 3) lv st ws' cells slots → J pc lv (v :: .ref a :: st) ws cells slots
theorem Con.ofN (hin : y.name = "<init>") (hy : plainName y.cls = true) (hav : (lg_sl av).length ≤ nL) (body : ∀ J : jJ, jC E l y.cls bc nL rm J → jInit y.cls bc J E → (∀ (pc : Nat) (lv : jL) (w' : va_W) (cells slots : Nat), decode bc pc = .ok (.return_, 1) → cells ≤ rm.cells → slots ≤ rm.slots → post none w' → J pc lv [] w' cells slots) → J 0 (lv_args 0 av) [] ws 0 0) : Con E l y bc nL none rm av ws post := by
  refine j_entry hy hav fun p e s m below meth c hr hname hI => body _ ⟨_, _, _, _, _, _, _, _, _, _, hI, rfl⟩ ?_ ?_
  · obtain ⟨hx, hb, -, hown, hts, -, hK, -, hlocks⟩ := hI
    intro pc lv st ws ws' cells slots a ci C T N index q0 fs k ty0 v ty h1 h2 h3 h4 h5 h6 h7 h8 h9 h10 h11 h12 h13 hd hw kk H locs ls hP hD hS hl
    subst hw
    exact va_putF hx hb hts h1 ty0 h2 h3 hown hK hP hD hS q0 h4 h5 k h6 (hts _ h7) (fun _ h => h) h8 (by rw [hname, hin]) h9 h10 h11 h12 h13 hd (fun H1 locs1 hP1 hD1 hS1 => kk H1 locs1 ls hP1 hD1 hS1 hl)
  · obtain ⟨hx, hb, -, -, -, -, -, -, hlocks⟩ := hI
    intro pc lv w' cells slots hd hc hs hp H locs ls hP hD hS hl
    exact W.widen hc hs (W.vret hx hb hr (fun t ht hW => ⟨⟨_, w', rfl, hp, by rw [ht]; exact hP, hD⟩, hS.F ht⟩) hS.2.2 hd)
end JKR
section JKW
variable {E : jE} {l : Launch} {own : String} {cc : ByteArray} {nL : Nat} {R : Room} {J : jJ} {pc : Nat} {lv : jL} {st : List Value} {ws : va_W} {cs ss : Nat}
theorem j_le {x y : Int32} {a b : Int} (ha : x.toInt = a) (hb : y.toInt = b) : x ≤ y ↔ a ≤ b := by rw [Int32.le_iff_toInt_le, ha, hb]
theorem j_lt {x y : Int32} {a b : Int} (ha : x.toInt = a) (hb : y.toInt = b) : x < y ↔ a < b := by rw [Int32.lt_iff_toInt_lt, ha, hb]
theorem j_eq {x y : Int32} {a b : Int} (ha : x.toInt = a) (hb : y.toInt = b) : x = y ↔ a = b := by rw [← Int32.toInt_inj, ha, hb]
theorem j_z0 : (0 : Int32).toInt = 0 := rfl

theorem J_iconst (C : jC E l own cc nL R J) {n : Int} {v : Int32} (hdg : decode cc pc = .ok (.iconst n, 1)) (hv : Int32.ofInt n = v) (kk : J (pc + 1) lv (.int v :: st) ws cs ss) : J pc lv (st) ws cs ss := by
  obtain ⟨p, e, s, m, args, below, meth, c, Q, A, ⟨hx, hb, hml, hown, hts, hA, hK, hST, hlocks⟩, rfl⟩ := C
  intro H locs ls hP hD hS hl
  exact lv_iconst hx hb hdg hv (kk H locs ls hP hD hS hl)
theorem J_bipush (C : jC E l own cc nL R J) {n : Int} {v : Int32} (hdg : decode cc pc = .ok (.bipush n, 2)) (hv : (Int8.ofInt n).toInt32 = v) (kk : J (pc + 2) lv (.int v :: st) ws cs ss) : J pc lv (st) ws cs ss := by
  obtain ⟨p, e, s, m, args, below, meth, c, Q, A, ⟨hx, hb, hml, hown, hts, hA, hK, hST, hlocks⟩, rfl⟩ := C
  intro H locs ls hP hD hS hl
  exact lv_bipush hx hb hdg hv (kk H locs ls hP hD hS hl)
theorem J_sipush (C : jC E l own cc nL R J) {n : Int} {v : Int32} (hdg : decode cc pc = .ok (.sipush n, 3)) (hv : (Int16.ofInt n).toInt32 = v) (kk : J (pc + 3) lv (.int v :: st) ws cs ss) : J pc lv (st) ws cs ss := by
  obtain ⟨p, e, s, m, args, below, meth, c, Q, A, ⟨hx, hb, hml, hown, hts, hA, hK, hST, hlocks⟩, rfl⟩ := C
  intro H locs ls hP hD hS hl
  exact lv_sipush hx hb hdg hv (kk H locs ls hP hD hS hl)
theorem J_lconst (C : jC E l own cc nL R J) {n : Fin 2} {v : Int64} (hdg : decode cc pc = .ok (.lconst n, 1)) (hv : Int64.ofNat (n : Nat) = v) (kk : J (pc + 1) lv (.long v :: st) ws cs ss) : J pc lv (st) ws cs ss := by
  obtain ⟨p, e, s, m, args, below, meth, c, Q, A, ⟨hx, hb, hml, hown, hts, hA, hK, hST, hlocks⟩, rfl⟩ := C
  intro H locs ls hP hD hS hl
  exact lv_lconst hx hb hdg hv (kk H locs ls hP hD hS hl)
theorem J_ldc (C : jC E l own cc nL R J) {index : Nat} {v : Int32} (hw : Cond.constant own index v ∈ jTW) (hdg : decode cc pc = .ok (.ldc index, 2)) (kk : J (pc + 2) lv (.int v :: st) ws cs ss) : J pc lv (st) ws cs ss := by
  obtain ⟨p, e, s, m, args, below, meth, c, Q, A, ⟨hx, hb, hml, hown, hts, hA, hK, hST, hlocks⟩, rfl⟩ := C
  intro H locs ls hP hD hS hl
  exact lv_ldc hx hb hown (hts _ hw) hdg (kk H locs ls hP hD hS hl)
theorem J_ldc2 (C : jC E l own cc nL R J) {index : Nat} {v : Int64} (hw : Cond.constantLong own index v ∈ jTW) (hdg : decode cc pc = .ok (.ldc2_w index, 3)) (kk : J (pc + 3) lv (.long v :: st) ws cs ss) : J pc lv (st) ws cs ss := by
  obtain ⟨p, e, s, m, args, below, meth, c, Q, A, ⟨hx, hb, hml, hown, hts, hA, hK, hST, hlocks⟩, rfl⟩ := C
  intro H locs ls hP hD hS hl
  exact lv_ldc2 hx hb hown (hts _ hw) hdg (kk H locs ls hP hD hS hl)
theorem J_null (C : jC E l own cc nL R J) (hdg : decode cc pc = .ok (.aconst_null, 1)) (kk : J (pc + 1) lv (.null :: st) ws cs ss) : J pc lv (st) ws cs ss := by
  obtain ⟨p, e, s, m, args, below, meth, c, Q, A, ⟨hx, hb, hml, hown, hts, hA, hK, hST, hlocks⟩, rfl⟩ := C
  intro H locs ls hP hD hS hl
  exact lv_null hx hb hdg (kk H locs ls hP hD hS hl)
theorem J_iload_n (C : jC E l own cc nL R J) {k : Fin 4} {i : Nat} {x : Int32} (q : Nat) (hdg : decode cc pc = .ok (.iload_n k, 1)) (hi : (k : Nat) = i) (hq : lv[q]? = some (i, .int x)) (kk : J (pc + 1) lv (.int x :: st) ws cs ss) : J pc lv (st) ws cs ss := by
  obtain ⟨p, e, s, m, args, below, meth, c, Q, A, ⟨hx, hb, hml, hown, hts, hA, hK, hST, hlocks⟩, rfl⟩ := C
  intro H locs ls hP hD hS hl
  exact lv_iload_n hx hb hdg hi (lv_at hl q hq) (kk H locs ls hP hD hS hl)
theorem J_iload (C : jC E l own cc nL R J) {i : Nat} {x : Int32} (q : Nat) (hdg : decode cc pc = .ok (.iload i, 2)) (hq : lv[q]? = some (i, .int x)) (kk : J (pc + 2) lv (.int x :: st) ws cs ss) : J pc lv (st) ws cs ss := by
  obtain ⟨p, e, s, m, args, below, meth, c, Q, A, ⟨hx, hb, hml, hown, hts, hA, hK, hST, hlocks⟩, rfl⟩ := C
  intro H locs ls hP hD hS hl
  exact lv_iload hx hb hdg (lv_at hl q hq) (kk H locs ls hP hD hS hl)
theorem J_istore_n (C : jC E l own cc nL R J) {k : Fin 4} {i : Nat} {x : Int32} {lv' : jL} (ks : List Nat) (hdg : decode cc pc = .ok (.istore_n k, 1)) (hi : (k : Nat) = i) (hn : i < nL) (hv : lv_pick ((i, Value.int x) :: lv.filter (fun q => !(q.1 == i) && !(q.1 + 1 == i && q.2.category == 2))) ks = lv') (kk : J (pc + 1) lv' st ws cs ss) : J pc lv (.int x :: st) ws cs ss := by
  obtain ⟨p, e, s, m, args, below, meth, c, Q, A, ⟨hx, hb, hml, hown, hts, hA, hK, hST, hlocks⟩, rfl⟩ := C
  intro H locs ls hP hD hS hl
  exact lv_istore_n hx hb hdg hi hl hn rfl (fun ls' hl' => kk H locs ls' hP hD hS (lv_sub hl' ks hv))
theorem J_istore (C : jC E l own cc nL R J) {i : Nat} {x : Int32} {lv' : jL} (ks : List Nat) (hdg : decode cc pc = .ok (.istore i, 2)) (hn : i < nL) (hv : lv_pick ((i, Value.int x) :: lv.filter (fun q => !(q.1 == i) && !(q.1 + 1 == i && q.2.category == 2))) ks = lv') (kk : J (pc + 2) lv' st ws cs ss) : J pc lv (.int x :: st) ws cs ss := by
  obtain ⟨p, e, s, m, args, below, meth, c, Q, A, ⟨hx, hb, hml, hown, hts, hA, hK, hST, hlocks⟩, rfl⟩ := C
  intro H locs ls hP hD hS hl
  exact lv_istore hx hb hdg hl hn rfl (fun ls' hl' => kk H locs ls' hP hD hS (lv_sub hl' ks hv))
theorem J_lload_n (C : jC E l own cc nL R J) {k : Fin 4} {i : Nat} {x : Int64} (q : Nat) (hdg : decode cc pc = .ok (.lload_n k, 1)) (hi : (k : Nat) = i) (hq : lv[q]? = some (i, .long x)) (kk : J (pc + 1) lv (.long x :: st) ws cs ss) : J pc lv (st) ws cs ss := by
  obtain ⟨p, e, s, m, args, below, meth, c, Q, A, ⟨hx, hb, hml, hown, hts, hA, hK, hST, hlocks⟩, rfl⟩ := C
  intro H locs ls hP hD hS hl
  exact lv_lload_n hx hb hdg hi (lv_at hl q hq) (kk H locs ls hP hD hS hl)
theorem J_lload (C : jC E l own cc nL R J) {i : Nat} {x : Int64} (q : Nat) (hdg : decode cc pc = .ok (.lload i, 2)) (hq : lv[q]? = some (i, .long x)) (kk : J (pc + 2) lv (.long x :: st) ws cs ss) : J pc lv (st) ws cs ss := by
  obtain ⟨p, e, s, m, args, below, meth, c, Q, A, ⟨hx, hb, hml, hown, hts, hA, hK, hST, hlocks⟩, rfl⟩ := C
  intro H locs ls hP hD hS hl
  exact lv_lload hx hb hdg (lv_at hl q hq) (kk H locs ls hP hD hS hl)
theorem J_lstore_n (C : jC E l own cc nL R J) {k : Fin 4} {i : Nat} {x : Int64} {lv' : jL} (ks : List Nat) (hdg : decode cc pc = .ok (.lstore_n k, 1)) (hi : (k : Nat) = i) (hn : i + 1 < nL) (hv : lv_pick ((i, Value.long x) :: lv.filter (fun q => !(q.1 == i) && (!(q.1 == i + 1) && !(q.1 + 1 == i && q.2.category == 2)))) ks = lv') (kk : J (pc + 1) lv' st ws cs ss) : J pc lv (.long x :: st) ws cs ss := by
  obtain ⟨p, e, s, m, args, below, meth, c, Q, A, ⟨hx, hb, hml, hown, hts, hA, hK, hST, hlocks⟩, rfl⟩ := C
  intro H locs ls hP hD hS hl
  exact lv_lstore_n hx hb hdg hi hl hn rfl (fun ls' hl' => kk H locs ls' hP hD hS (lv_sub hl' ks hv))
theorem J_lstore (C : jC E l own cc nL R J) {i : Nat} {x : Int64} {lv' : jL} (ks : List Nat) (hdg : decode cc pc = .ok (.lstore i, 2)) (hn : i + 1 < nL) (hv : lv_pick ((i, Value.long x) :: lv.filter (fun q => !(q.1 == i) && (!(q.1 == i + 1) && !(q.1 + 1 == i && q.2.category == 2)))) ks = lv') (kk : J (pc + 2) lv' st ws cs ss) : J pc lv (.long x :: st) ws cs ss := by
  obtain ⟨p, e, s, m, args, below, meth, c, Q, A, ⟨hx, hb, hml, hown, hts, hA, hK, hST, hlocks⟩, rfl⟩ := C
  intro H locs ls hP hD hS hl
  exact lv_lstore hx hb hdg hl hn rfl (fun ls' hl' => kk H locs ls' hP hD hS (lv_sub hl' ks hv))
theorem J_aload_n (C : jC E l own cc nL R J) {k : Fin 4} {i : Nat} {x : Nat} (q : Nat) (hdg : decode cc pc = .ok (.aload_n k, 1)) (hi : (k : Nat) = i) (hq : lv[q]? = some (i, .ref x)) (kk : J (pc + 1) lv (.ref x :: st) ws cs ss) : J pc lv (st) ws cs ss := by
  obtain ⟨p, e, s, m, args, below, meth, c, Q, A, ⟨hx, hb, hml, hown, hts, hA, hK, hST, hlocks⟩, rfl⟩ := C
  intro H locs ls hP hD hS hl
  exact lv_aload_n hx hb hdg hi (lv_at hl q hq) (kk H locs ls hP hD hS hl)
theorem J_aload (C : jC E l own cc nL R J) {i : Nat} {x : Nat} (q : Nat) (hdg : decode cc pc = .ok (.aload i, 2)) (hq : lv[q]? = some (i, .ref x)) (kk : J (pc + 2) lv (.ref x :: st) ws cs ss) : J pc lv (st) ws cs ss := by
  obtain ⟨p, e, s, m, args, below, meth, c, Q, A, ⟨hx, hb, hml, hown, hts, hA, hK, hST, hlocks⟩, rfl⟩ := C
  intro H locs ls hP hD hS hl
  exact lv_aload hx hb hdg (lv_at hl q hq) (kk H locs ls hP hD hS hl)
theorem J_astore_n (C : jC E l own cc nL R J) {k : Fin 4} {i : Nat} {x : Nat} {lv' : jL} (ks : List Nat) (hdg : decode cc pc = .ok (.astore_n k, 1)) (hi : (k : Nat) = i) (hn : i < nL) (hv : lv_pick ((i, Value.ref x) :: lv.filter (fun q => !(q.1 == i) && !(q.1 + 1 == i && q.2.category == 2))) ks = lv') (kk : J (pc + 1) lv' st ws cs ss) : J pc lv (.ref x :: st) ws cs ss := by
  obtain ⟨p, e, s, m, args, below, meth, c, Q, A, ⟨hx, hb, hml, hown, hts, hA, hK, hST, hlocks⟩, rfl⟩ := C
  intro H locs ls hP hD hS hl
  exact lv_astore_n hx hb hdg hi hl hn rfl (fun ls' hl' => kk H locs ls' hP hD hS (lv_sub hl' ks hv))
theorem J_astore (C : jC E l own cc nL R J) {i : Nat} {x : Nat} {lv' : jL} (ks : List Nat) (hdg : decode cc pc = .ok (.astore i, 2)) (hn : i < nL) (hv : lv_pick ((i, Value.ref x) :: lv.filter (fun q => !(q.1 == i) && !(q.1 + 1 == i && q.2.category == 2))) ks = lv') (kk : J (pc + 2) lv' st ws cs ss) : J pc lv (.ref x :: st) ws cs ss := by
  obtain ⟨p, e, s, m, args, below, meth, c, Q, A, ⟨hx, hb, hml, hown, hts, hA, hK, hST, hlocks⟩, rfl⟩ := C
  intro H locs ls hP hD hS hl
  exact lv_astore hx hb hdg hl hn rfl (fun ls' hl' => kk H locs ls' hP hD hS (lv_sub hl' ks hv))
theorem J_astore_nN (C : jC E l own cc nL R J) {k : Fin 4} {i : Nat} {lv' : jL} (ks : List Nat) (hdg : decode cc pc = .ok (.astore_n k, 1)) (hi : (k : Nat) = i) (hn : i < nL) (hv : lv_pick ((i, Value.null) :: lv.filter (fun q => !(q.1 == i) && !(q.1 + 1 == i && q.2.category == 2))) ks = lv') (kk : J (pc + 1) lv' st ws cs ss) : J pc lv (.null :: st) ws cs ss := by
  obtain ⟨p, e, s, m, args, below, meth, c, Q, A, ⟨hx, hb, hml, hown, hts, hA, hK, hST, hlocks⟩, rfl⟩ := C
  intro H locs ls hP hD hS hl
  exact lv_astore_nN hx hb hdg hi hl hn rfl (fun ls' hl' => kk H locs ls' hP hD hS (lv_sub hl' ks hv))
theorem J_iinc (C : jC E l own cc nL R J) {i : Nat} {n : Int} {x v : Int32} {lv' : jL} (q : Nat) (ks : List Nat) (hdg : decode cc pc = .ok (.iinc i n, 3)) (hq : lv[q]? = some (i, .int x)) (hx1 : x + Int32.ofInt n = v) (hn : i < nL) (hv : lv_pick ((i, Value.int v) :: lv.filter (fun q => !(q.1 == i) && !(q.1 + 1 == i && q.2.category == 2))) ks = lv') (kk : J (pc + 3) lv' st ws cs ss) : J pc lv (st) ws cs ss := by
  obtain ⟨p, e, s, m, args, below, meth, c, Q, A, ⟨hx, hb, hml, hown, hts, hA, hK, hST, hlocks⟩, rfl⟩ := C
  intro H locs ls hP hD hS hl
  exact lv_iinc hx hb hdg hl hq hx1 hn rfl (fun ls' hl' => kk H locs ls' hP hD hS (lv_sub hl' ks hv))
theorem J_iadd (C : jC E l own cc nL R J) {x y : Int32} (hdg : decode cc pc = .ok (.iadd, 1)) (kk : J (pc + 1) lv (.int (x + y) :: st) ws cs ss) : J pc lv (.int y :: .int x :: st) ws cs ss := by
  obtain ⟨p, e, s, m, args, below, meth, c, Q, A, ⟨hx, hb, hml, hown, hts, hA, hK, hST, hlocks⟩, rfl⟩ := C
  intro H locs ls hP hD hS hl
  exact lv_iadd hx hb hdg (kk H locs ls hP hD hS hl)
theorem J_isub (C : jC E l own cc nL R J) {x y : Int32} (hdg : decode cc pc = .ok (.isub, 1)) (kk : J (pc + 1) lv (.int (x - y) :: st) ws cs ss) : J pc lv (.int y :: .int x :: st) ws cs ss := by
  obtain ⟨p, e, s, m, args, below, meth, c, Q, A, ⟨hx, hb, hml, hown, hts, hA, hK, hST, hlocks⟩, rfl⟩ := C
  intro H locs ls hP hD hS hl
  exact lv_isub hx hb hdg (kk H locs ls hP hD hS hl)
theorem J_imul (C : jC E l own cc nL R J) {x y : Int32} (hdg : decode cc pc = .ok (.imul, 1)) (kk : J (pc + 1) lv (.int (x * y) :: st) ws cs ss) : J pc lv (.int y :: .int x :: st) ws cs ss := by
  obtain ⟨p, e, s, m, args, below, meth, c, Q, A, ⟨hx, hb, hml, hown, hts, hA, hK, hST, hlocks⟩, rfl⟩ := C
  intro H locs ls hP hD hS hl
  exact lv_imul hx hb hdg (kk H locs ls hP hD hS hl)
theorem J_iand (C : jC E l own cc nL R J) {x y : Int32} (hdg : decode cc pc = .ok (.iand, 1)) (kk : J (pc + 1) lv (.int (x &&& y) :: st) ws cs ss) : J pc lv (.int y :: .int x :: st) ws cs ss := by
  obtain ⟨p, e, s, m, args, below, meth, c, Q, A, ⟨hx, hb, hml, hown, hts, hA, hK, hST, hlocks⟩, rfl⟩ := C
  intro H locs ls hP hD hS hl
  exact lv_iand hx hb hdg (kk H locs ls hP hD hS hl)
theorem J_ior (C : jC E l own cc nL R J) {x y : Int32} (hdg : decode cc pc = .ok (.ior, 1)) (kk : J (pc + 1) lv (.int (x ||| y) :: st) ws cs ss) : J pc lv (.int y :: .int x :: st) ws cs ss := by
  obtain ⟨p, e, s, m, args, below, meth, c, Q, A, ⟨hx, hb, hml, hown, hts, hA, hK, hST, hlocks⟩, rfl⟩ := C
  intro H locs ls hP hD hS hl
  exact lv_ior hx hb hdg (kk H locs ls hP hD hS hl)
theorem J_ixor (C : jC E l own cc nL R J) {x y : Int32} (hdg : decode cc pc = .ok (.ixor, 1)) (kk : J (pc + 1) lv (.int (x ^^^ y) :: st) ws cs ss) : J pc lv (.int y :: .int x :: st) ws cs ss := by
  obtain ⟨p, e, s, m, args, below, meth, c, Q, A, ⟨hx, hb, hml, hown, hts, hA, hK, hST, hlocks⟩, rfl⟩ := C
  intro H locs ls hP hD hS hl
  exact lv_ixor hx hb hdg (kk H locs ls hP hD hS hl)
theorem J_ishl (C : jC E l own cc nL R J) {x y : Int32} (hdg : decode cc pc = .ok (.ishl, 1)) (kk : J (pc + 1) lv (.int (x <<< (y &&& 31)) :: st) ws cs ss) : J pc lv (.int y :: .int x :: st) ws cs ss := by
  obtain ⟨p, e, s, m, args, below, meth, c, Q, A, ⟨hx, hb, hml, hown, hts, hA, hK, hST, hlocks⟩, rfl⟩ := C
  intro H locs ls hP hD hS hl
  exact lv_ishl hx hb hdg (kk H locs ls hP hD hS hl)
theorem J_ishr (C : jC E l own cc nL R J) {x y : Int32} (hdg : decode cc pc = .ok (.ishr, 1)) (kk : J (pc + 1) lv (.int (x >>> (y &&& 31)) :: st) ws cs ss) : J pc lv (.int y :: .int x :: st) ws cs ss := by
  obtain ⟨p, e, s, m, args, below, meth, c, Q, A, ⟨hx, hb, hml, hown, hts, hA, hK, hST, hlocks⟩, rfl⟩ := C
  intro H locs ls hP hD hS hl
  exact lv_ishr hx hb hdg (kk H locs ls hP hD hS hl)
theorem J_idiv (C : jC E l own cc nL R J) {x y : Int32} (hdg : decode cc pc = .ok (.idiv, 1)) (hne : ¬ y = 0) (kk : J (pc + 1) lv (.int (x / y) :: st) ws cs ss) : J pc lv (.int y :: .int x :: st) ws cs ss := by
  obtain ⟨p, e, s, m, args, below, meth, c, Q, A, ⟨hx, hb, hml, hown, hts, hA, hK, hST, hlocks⟩, rfl⟩ := C
  intro H locs ls hP hD hS hl
  exact lv_idiv hx hb hdg hne (kk H locs ls hP hD hS hl)
theorem J_irem (C : jC E l own cc nL R J) {x y : Int32} (hdg : decode cc pc = .ok (.irem, 1)) (hne : ¬ y = 0) (kk : J (pc + 1) lv (.int (x - x / y * y) :: st) ws cs ss) : J pc lv (.int y :: .int x :: st) ws cs ss := by
  obtain ⟨p, e, s, m, args, below, meth, c, Q, A, ⟨hx, hb, hml, hown, hts, hA, hK, hST, hlocks⟩, rfl⟩ := C
  intro H locs ls hP hD hS hl
  exact lv_irem hx hb hdg hne (kk H locs ls hP hD hS hl)
theorem J_ladd (C : jC E l own cc nL R J) {x y : Int64} (hdg : decode cc pc = .ok (.ladd, 1)) (kk : J (pc + 1) lv (.long (x + y) :: st) ws cs ss) : J pc lv (.long y :: .long x :: st) ws cs ss := by
  obtain ⟨p, e, s, m, args, below, meth, c, Q, A, ⟨hx, hb, hml, hown, hts, hA, hK, hST, hlocks⟩, rfl⟩ := C
  intro H locs ls hP hD hS hl
  exact lv_ladd hx hb hdg (kk H locs ls hP hD hS hl)
theorem J_lsub (C : jC E l own cc nL R J) {x y : Int64} (hdg : decode cc pc = .ok (.lsub, 1)) (kk : J (pc + 1) lv (.long (x - y) :: st) ws cs ss) : J pc lv (.long y :: .long x :: st) ws cs ss := by
  obtain ⟨p, e, s, m, args, below, meth, c, Q, A, ⟨hx, hb, hml, hown, hts, hA, hK, hST, hlocks⟩, rfl⟩ := C
  intro H locs ls hP hD hS hl
  exact lv_lsub hx hb hdg (kk H locs ls hP hD hS hl)
theorem J_lmul (C : jC E l own cc nL R J) {x y : Int64} (hdg : decode cc pc = .ok (.lmul, 1)) (kk : J (pc + 1) lv (.long (x * y) :: st) ws cs ss) : J pc lv (.long y :: .long x :: st) ws cs ss := by
  obtain ⟨p, e, s, m, args, below, meth, c, Q, A, ⟨hx, hb, hml, hown, hts, hA, hK, hST, hlocks⟩, rfl⟩ := C
  intro H locs ls hP hD hS hl
  exact lv_lmul hx hb hdg (kk H locs ls hP hD hS hl)
theorem J_land (C : jC E l own cc nL R J) {x y : Int64} (hdg : decode cc pc = .ok (.land, 1)) (kk : J (pc + 1) lv (.long (x &&& y) :: st) ws cs ss) : J pc lv (.long y :: .long x :: st) ws cs ss := by
  obtain ⟨p, e, s, m, args, below, meth, c, Q, A, ⟨hx, hb, hml, hown, hts, hA, hK, hST, hlocks⟩, rfl⟩ := C
  intro H locs ls hP hD hS hl
  exact lv_land hx hb hdg (kk H locs ls hP hD hS hl)
theorem J_lor (C : jC E l own cc nL R J) {x y : Int64} (hdg : decode cc pc = .ok (.lor, 1)) (kk : J (pc + 1) lv (.long (x ||| y) :: st) ws cs ss) : J pc lv (.long y :: .long x :: st) ws cs ss := by
  obtain ⟨p, e, s, m, args, below, meth, c, Q, A, ⟨hx, hb, hml, hown, hts, hA, hK, hST, hlocks⟩, rfl⟩ := C
  intro H locs ls hP hD hS hl
  exact lv_lor hx hb hdg (kk H locs ls hP hD hS hl)
theorem J_lxor (C : jC E l own cc nL R J) {x y : Int64} (hdg : decode cc pc = .ok (.lxor, 1)) (kk : J (pc + 1) lv (.long (x ^^^ y) :: st) ws cs ss) : J pc lv (.long y :: .long x :: st) ws cs ss := by
  obtain ⟨p, e, s, m, args, below, meth, c, Q, A, ⟨hx, hb, hml, hown, hts, hA, hK, hST, hlocks⟩, rfl⟩ := C
  intro H locs ls hP hD hS hl
  exact lv_lxor hx hb hdg (kk H locs ls hP hD hS hl)
theorem J_i2l (C : jC E l own cc nL R J) {x : Int32} {v : Int64} (hdg : decode cc pc = .ok (.i2l, 1)) (hv : x.toInt64 = v) (kk : J (pc + 1) lv (.long v :: st) ws cs ss) : J pc lv (.int x :: st) ws cs ss := by
  obtain ⟨p, e, s, m, args, below, meth, c, Q, A, ⟨hx, hb, hml, hown, hts, hA, hK, hST, hlocks⟩, rfl⟩ := C
  intro H locs ls hP hD hS hl
  exact lv_i2l hx hb hdg hv (kk H locs ls hP hD hS hl)
theorem J_l2i (C : jC E l own cc nL R J) {x : Int64} {v : Int32} (hdg : decode cc pc = .ok (.l2i, 1)) (hv : x.toInt32 = v) (kk : J (pc + 1) lv (.int v :: st) ws cs ss) : J pc lv (.long x :: st) ws cs ss := by
  obtain ⟨p, e, s, m, args, below, meth, c, Q, A, ⟨hx, hb, hml, hown, hts, hA, hK, hST, hlocks⟩, rfl⟩ := C
  intro H locs ls hP hD hS hl
  exact lv_l2i hx hb hdg hv (kk H locs ls hP hD hS hl)
theorem J_lushr (C : jC E l own cc nL R J) {x v : Int64} {y : Int32} (hdg : decode cc pc = .ok (.lushr, 1)) (hv : (x.toUInt64 >>> (y.toInt64.toUInt64 &&& Int64.toUInt64 63)).toInt64 = v) (kk : J (pc + 1) lv (.long v :: st) ws cs ss) : J pc lv (.int y :: .long x :: st) ws cs ss := by
  obtain ⟨p, e, s, m, args, below, meth, c, Q, A, ⟨hx, hb, hml, hown, hts, hA, hK, hST, hlocks⟩, rfl⟩ := C
  intro H locs ls hP hD hS hl
  exact lv_lushr hx hb hdg hv (kk H locs ls hP hD hS hl)
theorem J_lshl (C : jC E l own cc nL R J) {x v : Int64} {y : Int32} (hdg : decode cc pc = .ok (.lshl, 1)) (hv : x <<< (y.toInt64 &&& 63) = v) (kk : J (pc + 1) lv (.long v :: st) ws cs ss) : J pc lv (.int y :: .long x :: st) ws cs ss := by
  obtain ⟨p, e, s, m, args, below, meth, c, Q, A, ⟨hx, hb, hml, hown, hts, hA, hK, hST, hlocks⟩, rfl⟩ := C
  intro H locs ls hP hD hS hl
  exact lv_lshl hx hb hdg hv (kk H locs ls hP hD hS hl)
theorem J_dup (C : jC E l own cc nL R J) {va : Value} (hdg : decode cc pc = .ok (.dup, 1)) (hva : va.category = 1) (kk : J (pc + 1) lv (va :: va :: st) ws cs ss) : J pc lv (va :: st) ws cs ss := by
  obtain ⟨p, e, s, m, args, below, meth, c, Q, A, ⟨hx, hb, hml, hown, hts, hA, hK, hST, hlocks⟩, rfl⟩ := C
  intro H locs ls hP hD hS hl
  exact lv_dup hx hb hdg hva (kk H locs ls hP hD hS hl)
theorem J_pop (C : jC E l own cc nL R J) {va : Value} (hdg : decode cc pc = .ok (.pop, 1)) (hva : va.category = 1) (kk : J (pc + 1) lv (st) ws cs ss) : J pc lv (va :: st) ws cs ss := by
  obtain ⟨p, e, s, m, args, below, meth, c, Q, A, ⟨hx, hb, hml, hown, hts, hA, hK, hST, hlocks⟩, rfl⟩ := C
  intro H locs ls hP hD hS hl
  exact lv_pop hx hb hdg hva (kk H locs ls hP hD hS hl)
theorem J_dup2 (C : jC E l own cc nL R J) {va vb : Value} (hdg : decode cc pc = .ok (.dup2, 1)) (hva : va.category = 1) (hvb : vb.category = 1) (kk : J (pc + 1) lv (va :: vb :: va :: vb :: st) ws cs ss) : J pc lv (va :: vb :: st) ws cs ss := by
  obtain ⟨p, e, s, m, args, below, meth, c, Q, A, ⟨hx, hb, hml, hown, hts, hA, hK, hST, hlocks⟩, rfl⟩ := C
  intro H locs ls hP hD hS hl
  exact lv_dup2_11 hx hb hdg hva hvb (kk H locs ls hP hD hS hl)
theorem J_goto (C : jC E l own cc nL R J) {off : Int} (tgt : Nat) (hdg : decode cc pc = .ok (.goto off, 3)) (ht : (pc : Int) + off = (tgt : Int)) (kk : J tgt lv st ws cs ss) : J pc lv (st) ws cs ss := by
  obtain ⟨p, e, s, m, args, below, meth, c, Q, A, ⟨hx, hb, hml, hown, hts, hA, hK, hST, hlocks⟩, rfl⟩ := C
  intro H locs ls hP hD hS hl
  exact lv_goto hx hb hdg ht (kk H locs ls hP hD hS hl)
theorem J_if_eq (C : jC E l own cc nL R J) {x : Int32} {a : Int} {off : Int} (tgt : Nat) (hxa : x.toInt = a) (hdg : decode cc pc = .ok (.ifCond .eq off, 3)) (ht : (pc : Int) + off = (tgt : Int)) (kt : a = 0 → J tgt lv st ws cs ss) (kf : a ≠ 0 → J (pc + 3) lv st ws cs ss) : J pc lv (.int x :: st) ws cs ss := by
  obtain ⟨p, e, s, m, args, below, meth, c, Q, A, ⟨hx, hb, hml, hown, hts, hA, hK, hST, hlocks⟩, rfl⟩ := C
  intro H locs ls hP hD hS hl
  exact lv_if_eq hx hb hdg ht (fun h => kt ((j_eq hxa j_z0).mp h) H locs ls hP hD hS hl) (fun h => kf (fun q => h ((j_eq hxa j_z0).mpr q)) H locs ls hP hD hS hl)
theorem J_icmp_eq (C : jC E l own cc nL R J) {x y : Int32} {a b : Int} {off : Int} (tgt : Nat) (hxa : x.toInt = a) (hyb : y.toInt = b) (hdg : decode cc pc = .ok (.if_icmp .eq off, 3)) (ht : (pc : Int) + off = (tgt : Int)) (kt : a = b → J tgt lv st ws cs ss) (kf : a ≠ b → J (pc + 3) lv st ws cs ss) : J pc lv (.int y :: .int x :: st) ws cs ss := by
  obtain ⟨p, e, s, m, args, below, meth, c, Q, A, ⟨hx, hb, hml, hown, hts, hA, hK, hST, hlocks⟩, rfl⟩ := C
  intro H locs ls hP hD hS hl
  exact lv_icmp_eq hx hb hdg ht (fun h => kt ((j_eq hxa hyb).mp h) H locs ls hP hD hS hl) (fun h => kf (fun q => h ((j_eq hxa hyb).mpr q)) H locs ls hP hD hS hl)
theorem J_if_ne (C : jC E l own cc nL R J) {x : Int32} {a : Int} {off : Int} (tgt : Nat) (hxa : x.toInt = a) (hdg : decode cc pc = .ok (.ifCond .ne off, 3)) (ht : (pc : Int) + off = (tgt : Int)) (kt : a ≠ 0 → J tgt lv st ws cs ss) (kf : a = 0 → J (pc + 3) lv st ws cs ss) : J pc lv (.int x :: st) ws cs ss := by
  obtain ⟨p, e, s, m, args, below, meth, c, Q, A, ⟨hx, hb, hml, hown, hts, hA, hK, hST, hlocks⟩, rfl⟩ := C
  intro H locs ls hP hD hS hl
  exact lv_if_ne hx hb hdg ht (fun h => kt (fun q => h ((j_eq hxa j_z0).mpr q)) H locs ls hP hD hS hl) (fun h => kf ((j_eq hxa j_z0).mp h) H locs ls hP hD hS hl)
theorem J_icmp_ne (C : jC E l own cc nL R J) {x y : Int32} {a b : Int} {off : Int} (tgt : Nat) (hxa : x.toInt = a) (hyb : y.toInt = b) (hdg : decode cc pc = .ok (.if_icmp .ne off, 3)) (ht : (pc : Int) + off = (tgt : Int)) (kt : a ≠ b → J tgt lv st ws cs ss) (kf : a = b → J (pc + 3) lv st ws cs ss) : J pc lv (.int y :: .int x :: st) ws cs ss := by
  obtain ⟨p, e, s, m, args, below, meth, c, Q, A, ⟨hx, hb, hml, hown, hts, hA, hK, hST, hlocks⟩, rfl⟩ := C
  intro H locs ls hP hD hS hl
  exact lv_icmp_ne hx hb hdg ht (fun h => kt (fun q => h ((j_eq hxa hyb).mpr q)) H locs ls hP hD hS hl) (fun h => kf ((j_eq hxa hyb).mp h) H locs ls hP hD hS hl)
theorem J_if_lt (C : jC E l own cc nL R J) {x : Int32} {a : Int} {off : Int} (tgt : Nat) (hxa : x.toInt = a) (hdg : decode cc pc = .ok (.ifCond .lt off, 3)) (ht : (pc : Int) + off = (tgt : Int)) (kt : a < 0 → J tgt lv st ws cs ss) (kf : 0 ≤ a → J (pc + 3) lv st ws cs ss) : J pc lv (.int x :: st) ws cs ss := by
  obtain ⟨p, e, s, m, args, below, meth, c, Q, A, ⟨hx, hb, hml, hown, hts, hA, hK, hST, hlocks⟩, rfl⟩ := C
  intro H locs ls hP hD hS hl
  exact lv_if_lt hx hb hdg ht (fun h => kt ((j_lt hxa j_z0).mp h) H locs ls hP hD hS hl) (fun h => kf (by have := mt (j_lt hxa j_z0).mpr h; omega) H locs ls hP hD hS hl)
theorem J_icmp_lt (C : jC E l own cc nL R J) {x y : Int32} {a b : Int} {off : Int} (tgt : Nat) (hxa : x.toInt = a) (hyb : y.toInt = b) (hdg : decode cc pc = .ok (.if_icmp .lt off, 3)) (ht : (pc : Int) + off = (tgt : Int)) (kt : a < b → J tgt lv st ws cs ss) (kf : b ≤ a → J (pc + 3) lv st ws cs ss) : J pc lv (.int y :: .int x :: st) ws cs ss := by
  obtain ⟨p, e, s, m, args, below, meth, c, Q, A, ⟨hx, hb, hml, hown, hts, hA, hK, hST, hlocks⟩, rfl⟩ := C
  intro H locs ls hP hD hS hl
  exact lv_icmp_lt hx hb hdg ht (fun h => kt ((j_lt hxa hyb).mp h) H locs ls hP hD hS hl) (fun h => kf (by have := mt (j_lt hxa hyb).mpr h; omega) H locs ls hP hD hS hl)
theorem J_if_ge (C : jC E l own cc nL R J) {x : Int32} {a : Int} {off : Int} (tgt : Nat) (hxa : x.toInt = a) (hdg : decode cc pc = .ok (.ifCond .ge off, 3)) (ht : (pc : Int) + off = (tgt : Int)) (kt : 0 ≤ a → J tgt lv st ws cs ss) (kf : a < 0 → J (pc + 3) lv st ws cs ss) : J pc lv (.int x :: st) ws cs ss := by
  obtain ⟨p, e, s, m, args, below, meth, c, Q, A, ⟨hx, hb, hml, hown, hts, hA, hK, hST, hlocks⟩, rfl⟩ := C
  intro H locs ls hP hD hS hl
  exact lv_if_ge hx hb hdg ht (fun h => kt ((j_le j_z0 hxa).mp h) H locs ls hP hD hS hl) (fun h => kf (by have := mt (j_le j_z0 hxa).mpr h; omega) H locs ls hP hD hS hl)
theorem J_icmp_ge (C : jC E l own cc nL R J) {x y : Int32} {a b : Int} {off : Int} (tgt : Nat) (hxa : x.toInt = a) (hyb : y.toInt = b) (hdg : decode cc pc = .ok (.if_icmp .ge off, 3)) (ht : (pc : Int) + off = (tgt : Int)) (kt : b ≤ a → J tgt lv st ws cs ss) (kf : a < b → J (pc + 3) lv st ws cs ss) : J pc lv (.int y :: .int x :: st) ws cs ss := by
  obtain ⟨p, e, s, m, args, below, meth, c, Q, A, ⟨hx, hb, hml, hown, hts, hA, hK, hST, hlocks⟩, rfl⟩ := C
  intro H locs ls hP hD hS hl
  exact lv_icmp_ge hx hb hdg ht (fun h => kt ((j_le hyb hxa).mp h) H locs ls hP hD hS hl) (fun h => kf (by have := mt (j_le hyb hxa).mpr h; omega) H locs ls hP hD hS hl)
theorem J_if_gt (C : jC E l own cc nL R J) {x : Int32} {a : Int} {off : Int} (tgt : Nat) (hxa : x.toInt = a) (hdg : decode cc pc = .ok (.ifCond .gt off, 3)) (ht : (pc : Int) + off = (tgt : Int)) (kt : 0 < a → J tgt lv st ws cs ss) (kf : a ≤ 0 → J (pc + 3) lv st ws cs ss) : J pc lv (.int x :: st) ws cs ss := by
  obtain ⟨p, e, s, m, args, below, meth, c, Q, A, ⟨hx, hb, hml, hown, hts, hA, hK, hST, hlocks⟩, rfl⟩ := C
  intro H locs ls hP hD hS hl
  exact lv_if_gt hx hb hdg ht (fun h => kt ((j_lt j_z0 hxa).mp h) H locs ls hP hD hS hl) (fun h => kf (by have := mt (j_lt j_z0 hxa).mpr h; omega) H locs ls hP hD hS hl)
theorem J_icmp_gt (C : jC E l own cc nL R J) {x y : Int32} {a b : Int} {off : Int} (tgt : Nat) (hxa : x.toInt = a) (hyb : y.toInt = b) (hdg : decode cc pc = .ok (.if_icmp .gt off, 3)) (ht : (pc : Int) + off = (tgt : Int)) (kt : b < a → J tgt lv st ws cs ss) (kf : a ≤ b → J (pc + 3) lv st ws cs ss) : J pc lv (.int y :: .int x :: st) ws cs ss := by
  obtain ⟨p, e, s, m, args, below, meth, c, Q, A, ⟨hx, hb, hml, hown, hts, hA, hK, hST, hlocks⟩, rfl⟩ := C
  intro H locs ls hP hD hS hl
  exact lv_icmp_gt hx hb hdg ht (fun h => kt ((j_lt hyb hxa).mp h) H locs ls hP hD hS hl) (fun h => kf (by have := mt (j_lt hyb hxa).mpr h; omega) H locs ls hP hD hS hl)
theorem J_if_le (C : jC E l own cc nL R J) {x : Int32} {a : Int} {off : Int} (tgt : Nat) (hxa : x.toInt = a) (hdg : decode cc pc = .ok (.ifCond .le off, 3)) (ht : (pc : Int) + off = (tgt : Int)) (kt : a ≤ 0 → J tgt lv st ws cs ss) (kf : 0 < a → J (pc + 3) lv st ws cs ss) : J pc lv (.int x :: st) ws cs ss := by
  obtain ⟨p, e, s, m, args, below, meth, c, Q, A, ⟨hx, hb, hml, hown, hts, hA, hK, hST, hlocks⟩, rfl⟩ := C
  intro H locs ls hP hD hS hl
  exact lv_if_le hx hb hdg ht (fun h => kt ((j_le hxa j_z0).mp h) H locs ls hP hD hS hl) (fun h => kf (by have := mt (j_le hxa j_z0).mpr h; omega) H locs ls hP hD hS hl)
theorem J_icmp_le (C : jC E l own cc nL R J) {x y : Int32} {a b : Int} {off : Int} (tgt : Nat) (hxa : x.toInt = a) (hyb : y.toInt = b) (hdg : decode cc pc = .ok (.if_icmp .le off, 3)) (ht : (pc : Int) + off = (tgt : Int)) (kt : a ≤ b → J tgt lv st ws cs ss) (kf : b < a → J (pc + 3) lv st ws cs ss) : J pc lv (.int y :: .int x :: st) ws cs ss := by
  obtain ⟨p, e, s, m, args, below, meth, c, Q, A, ⟨hx, hb, hml, hown, hts, hA, hK, hST, hlocks⟩, rfl⟩ := C
  intro H locs ls hP hD hS hl
  exact lv_icmp_le hx hb hdg ht (fun h => kt ((j_le hxa hyb).mp h) H locs ls hP hD hS hl) (fun h => kf (by have := mt (j_le hxa hyb).mpr h; omega) H locs ls hP hD hS hl)
theorem J_ifnonnull (C : jC E l own cc nL R J) {x : Nat} {off : Int} (tgt : Nat) (hdg : decode cc pc = .ok (.ifnonnull off, 3)) (ht : (pc : Int) + off = (tgt : Int)) (kk : J tgt lv st ws cs ss) : J pc lv (.ref x :: st) ws cs ss := by
  obtain ⟨p, e, s, m, args, below, meth, c, Q, A, ⟨hx, hb, hml, hown, hts, hA, hK, hST, hlocks⟩, rfl⟩ := C
  intro H locs ls hP hD hS hl
  exact lv_ifnonnull hx hb hdg ht (kk H locs ls hP hD hS hl)
theorem J_ifnonnullN (C : jC E l own cc nL R J) {off : Int} (hdg : decode cc pc = .ok (.ifnonnull off, 3)) (kk : J (pc + 3) lv st ws cs ss) : J pc lv (.null :: st) ws cs ss := by
  obtain ⟨p, e, s, m, args, below, meth, c, Q, A, ⟨hx, hb, hml, hown, hts, hA, hK, hST, hlocks⟩, rfl⟩ := C
  intro H locs ls hP hD hS hl
  exact lv_ifnonnullN hx hb hdg (kk H locs ls hP hD hS hl)
theorem J_tswOut (C : jC E l own cc nL R J) {dflt lo hi : Int} {offs : Array Int} {len : Nat} {x : Int32} (tgt : Nat) (hdg : decode cc pc = .ok (.tableswitch dflt lo hi offs, len)) (h : x.toInt < lo ∨ hi < x.toInt) (ht : (pc : Int) + dflt = (tgt : Int)) (kk : J tgt lv st ws cs ss) : J pc lv (.int x :: st) ws cs ss := by
  obtain ⟨p, e, s, m, args, below, meth, c, Q, A, ⟨hx, hb, hml, hown, hts, hA, hK, hST, hlocks⟩, rfl⟩ := C
  intro H locs ls hP hD hS hl
  exact lv_tableOut hx hb hdg h ht (kk H locs ls hP hD hS hl)
theorem J_tswIn (C : jC E l own cc nL R J) {dflt lo hi : Int} {offs : Array Int} {len : Nat} {x : Int32} {off : Int} (tgt : Nat) (hdg : decode cc pc = .ok (.tableswitch dflt lo hi offs, len)) (h1 : ¬ x.toInt < lo) (h2 : ¬ hi < x.toInt) (ho : offs[(x.toInt - lo).toNat]? = some off) (ht : (pc : Int) + off = (tgt : Int)) (kk : J tgt lv st ws cs ss) : J pc lv (.int x :: st) ws cs ss := by
  obtain ⟨p, e, s, m, args, below, meth, c, Q, A, ⟨hx, hb, hml, hown, hts, hA, hK, hST, hlocks⟩, rfl⟩ := C
  intro H locs ls hP hD hS hl
  exact lv_tableIn hx hb hdg h1 h2 ho ht (kk H locs ls hP hD hS hl)
theorem J_get (C : jC E l own cc nL R J) {ref Cn : String} {T : u_T} {N ci index a : Nat} {fs : List Value} {v : Value} (q0 k : Nat) (hin : ∀ w ∈ u_ws Cn T N, w ∈ jTW) (he : ws[q0]? = some (a, .inr (ci, fs))) (hc : vwCl[ci]? = some (Cn, T, N)) (hk : k < N) (hlink : Cond.fieldLink own index (T k).1 (T k).2.1 (T k).2.2.1 ∈ jTW) (hv : fs[k]? = some v) (hdg : decode cc pc = .ok (.getfield index, 3)) (kk : J (pc + 3) lv (v :: st) ws cs ss) : J pc lv (.ref a :: st) ws cs ss := by
  obtain ⟨p, e, s, m, args, below, meth, c, Q, A, ⟨hx, hb, hml, hown, hts, hA, hK, hST, hlocks⟩, rfl⟩ := C
  intro H locs ls hP hD hS hl
  exact va_get hx hb hts hin hown hK hP q0 he hc k hk (hts _ hlink) (fun _ h => h) hv hdg (kk H locs ls hP hD hS hl)
theorem J_put (C : jC E l own cc nL R J) {Cn : String} {T : u_T} {N ci index a : Nat} {fs : List Value} {v : Value} {ty : FieldType} {ws' : va_W} (q0 k : Nat) (ty0 : Nat → FieldType) (hin : ∀ w ∈ u_ws Cn T N, w ∈ jTW) (hty : ∀ k, k < N → parseFieldDescriptor (T k).2.2.1 = some (ty0 k)) (hnm : ∀ a, a < N → ∀ b, b < N → a ≠ b → (T a).2.1 ≠ (T b).2.1) (he : ws[q0]? = some (a, .inr (ci, fs))) (hc : vwCl[ci]? = some (Cn, T, N)) (hk : k < N) (hlink : Cond.fieldLink own index (T k).1 (T k).2.1 (T k).2.2.1 ∈ jTW) (hfin : (T k).2.2.2 = false) (hd : parseFieldDescriptor (T k).2.2.1 = some ty) (hn : narrow ty v = v) (hfit : fits ty v = true) (hlen : k < fs.length) (hdg : decode cc pc = .ok (.putfield index, 3)) (hw : ws.set q0 (a, .inr (ci, fs.set k v)) = ws') (kk : J (pc + 3) lv st ws' cs ss) : J pc lv (v :: .ref a :: st) ws cs ss := by
  obtain ⟨p, e, s, m, args, below, meth, c, Q, A, ⟨hx, hb, hml, hown, hts, hA, hK, hST, hlocks⟩, rfl⟩ := C
  intro H locs ls hP hD hS hl
  subst hw
  exact va_put hx hb hts hin ty0 hty hnm hown hK hP hD hS q0 he hc k hk (hts _ hlink) (fun _ h => h) hfin hd hn hfit hlen hdg (fun H1 locs1 hP1 hD1 hS1 => kk H1 locs1 ls hP1 hD1 hS1 hl)
theorem J_new (C : jC E l own cc nL R J) {Cn : String} {T : u_T} {N ci index : Nat} {fs : List Value} (ty : Nat → FieldType) (hin : ∀ w ∈ u_ws Cn T N, w ∈ jTW) (hty : ∀ k, k < N → parseFieldDescriptor (T k).2.2.1 = some (ty k)) (hcl : Cond.classLink own index Cn ∈ jTW) (hinst : Cond.instantiable Cn N ∈ jTW) (hini : Cond.initialized Cn ∈ jTW) (hc : vwCl[ci]? = some (Cn, T, N)) (hfs : ∀ j, j < N → defaultValue (ty j) = vp_V fs j) (hcells : cs + 1 ≤ R.cells) (hslots : ss + N ≤ R.slots) (hdg : decode cc pc = .ok (.new index, 3)) (kk : ∀ q : Nat, J (pc + 3) lv (.ref q :: st) (ws ++ [(q, .inr (ci, fs))]) (cs + 1) (ss + N)) : J pc lv (st) ws cs ss := by
  obtain ⟨p, e, s, m, args, below, meth, c, Q, A, ⟨hx, hb, hml, hown, hts, hA, hK, hST, hlocks⟩, rfl⟩ := C
  intro H locs ls hP hD hS hl
  exact va_new hx hb hts hin ty hty hown (hts _ hcl) (hts _ hinst) (hts _ hini) hK hP hD hS hA hc hfs hcells hslots hdg (fun q H1 hP1 hD1 hS1 => kk q H1 locs ls hP1 hD1 hS1 hl)
theorem J_objInit (C : jC E l own cc nL R J) {idx a : Nat} (h1 : Cond.methodLink own idx Lib.objectInit ∈ jTW) (h2 : Cond.instanceMethod Lib.objectInit ∈ jTW) (h3 : Cond.code Lib.objectInit ⟨#[0xb1]⟩ 1 none ∈ jTW) (hdg : decode cc pc = .ok (.invokespecial idx, 3)) (hf : 1 ≤ R.frames) (hlo : (st.map fun v => v.category).sum + 12 ≤ R.locals) (kk : J (pc + 3) lv st ws cs ss) : J pc lv (.ref a :: st) ws cs ss := by
  obtain ⟨p, e, s, m, args, below, meth, c, Q, A, ⟨hx, hb, hml, hown, hts, hA, hK, hST, hlocks⟩, rfl⟩ := C
  intro H locs ls hP hD hS hl
  exact W.objInit hx hb hown (hts _ h1) (hts _ h2) (hts _ h3) rfl (by rw [hml]; exact hl.1) rfl hdg hf (by show 2 * 0 + _ + 12 ≤ _; omega) (kk H locs ls hP hD hS hl)
theorem J_gets (C : jC E l own cc nL R J) {index : Nat} (hlink : Cond.fieldLink own index "ReversibleParts$Forms" "START" "[I" ∈ jTW) (hdg : decode cc pc = .ok (.getstatic index, 3)) (kk : J (pc + 3) lv (.ref (E.2 4) :: st) ws cs ss) : J pc lv (st) ws cs ss := by
  obtain ⟨p, e, s, m, args, below, meth, c, Q, A, ⟨hx, hb, hml, hown, hts, hA, hK, hST, hlocks⟩, rfl⟩ := C
  intro H locs ls hP hD hS hl
  exact va_gets hx hb hST.1 hS hown (hts _ hlink) (fun _ h => h) hdg (kk H locs ls hP hD hS hl)
theorem J_tald (C : jC E l own cc nL R J) {i : Nat} (hi : i < 4) (hdg : decode cc pc = .ok (.iaload, 1)) (kk : J (pc + 1) lv (.int (nI (jsT i)) :: st) ws cs ss) : J pc lv (.int (nI i) :: .ref (E.2 4) :: st) ws cs ss := by
  obtain ⟨p, e, s, m, args, below, meth, c, Q, A, ⟨hx, hb, hml, hown, hts, hA, hK, hST, hlocks⟩, rfl⟩ := C
  intro H locs ls hP hD hS hl
  exact va_ti hx hb hST.2 hS (vp_in_nI hi (by omega)) (by rw [nI_clamp (by omega)]) hdg (kk H locs ls hP hD hS hl)
theorem J_iald (C : jC E l own cc nL R J) {i n a : Nat} {f : Nat → Int32} (q0 : Nat) (ha : ws[q0]? = some (a, .inl (E.2 0, n, .inl f))) (hn : n < 2 ^ 31) (hi : i < n) (hdg : decode cc pc = .ok (.iaload, 1)) (kk : J (pc + 1) lv (.int (f i) :: st) ws cs ss) : J pc lv (.int (nI i) :: .ref a :: st) ws cs ss := by
  obtain ⟨p, e, s, m, args, below, meth, c, Q, A, ⟨hx, hb, hml, hown, hts, hA, hK, hST, hlocks⟩, rfl⟩ := C
  intro H locs ls hP hD hS hl
  have ec := nI_clamp (n := i) (by omega)
  refine va_iald hx hb hK hP q0 0 ha rfl (vp_in_nI hi hn) hdg ?_
  rw [ec]
  exact kk H locs ls hP hD hS hl
theorem J_lald (C : jC E l own cc nL R J) {i n a : Nat} {f : Nat → Int64} (q0 : Nat) (ha : ws[q0]? = some (a, .inl (E.2 1, n, .inr (.inl f)))) (hn : n < 2 ^ 31) (hi : i < n) (hdg : decode cc pc = .ok (.laload, 1)) (kk : J (pc + 1) lv (.long (f i) :: st) ws cs ss) : J pc lv (.int (nI i) :: .ref a :: st) ws cs ss := by
  obtain ⟨p, e, s, m, args, below, meth, c, Q, A, ⟨hx, hb, hml, hown, hts, hA, hK, hST, hlocks⟩, rfl⟩ := C
  intro H locs ls hP hD hS hl
  have ec := nI_clamp (n := i) (by omega)
  refine va_lald hx hb hK hP q0 1 ha rfl (vp_in_nI hi hn) hdg ?_
  rw [ec]
  exact kk H locs ls hP hD hS hl
theorem J_zald (C : jC E l own cc nL R J) {i n a : Nat} {f : Nat → Int32} (q0 : Nat) (ha : ws[q0]? = some (a, .inl (E.2 2, n, .inl f))) (hn : n < 2 ^ 31) (hi : i < n) (hdg : decode cc pc = .ok (.baload, 1)) (kk : J (pc + 1) lv (.int (f i) :: st) ws cs ss) : J pc lv (.int (nI i) :: .ref a :: st) ws cs ss := by
  obtain ⟨p, e, s, m, args, below, meth, c, Q, A, ⟨hx, hb, hml, hown, hts, hA, hK, hST, hlocks⟩, rfl⟩ := C
  intro H locs ls hP hD hS hl
  have ec := nI_clamp (n := i) (by omega)
  refine va_zald hx hb hK hP q0 2 ha rfl (vp_in_nI hi hn) hdg ?_
  rw [ec]
  exact kk H locs ls hP hD hS hl
theorem J_aald (C : jC E l own cc nL R J) {i n a : Nat} {f : Nat → Option Nat} (q0 : Nat) (ha : ws[q0]? = some (a, .inl (E.2 3, n, .inr (.inr (.inr (.inr f)))))) (hn : n < 2 ^ 31) (hi : i < n) (hdg : decode cc pc = .ok (.aaload, 1)) (kk : J (pc + 1) lv (va_rf (f i) :: st) ws cs ss) : J pc lv (.int (nI i) :: .ref a :: st) ws cs ss := by
  obtain ⟨p, e, s, m, args, below, meth, c, Q, A, ⟨hx, hb, hml, hown, hts, hA, hK, hST, hlocks⟩, rfl⟩ := C
  intro H locs ls hP hD hS hl
  have ec := nI_clamp (n := i) (by omega)
  refine va_aldq hx hb hK hP q0 3 ha rfl (vp_in_nI hi hn) hdg ?_
  rw [ec]
  exact kk H locs ls hP hD hS hl
theorem J_iast (C : jC E l own cc nL R J) {i n a : Nat} {f : Nat → Int32} {x : Int32} {ws' : va_W} (q0 : Nat) (ha : ws[q0]? = some (a, .inl (E.2 0, n, .inl f))) (hn : n < 2 ^ 31) (hi : i < n) (hdg : decode cc pc = .ok (.iastore, 1)) (hw : ws.set q0 (a, .inl (E.2 0, n, .inl (upd f i x))) = ws') (kk : J (pc + 1) lv st ws' cs ss) : J pc lv (.int x :: .int (nI i) :: .ref a :: st) ws cs ss := by
  obtain ⟨p, e, s, m, args, below, meth, c, Q, A, ⟨hx, hb, hml, hown, hts, hA, hK, hST, hlocks⟩, rfl⟩ := C
  intro H locs ls hP hD hS hl
  have ec := nI_clamp (n := i) (by omega)
  subst hw
  refine va_iast hx hb hK hP hD hS q0 0 ha rfl (vp_in_nI hi hn) hdg ?_
  rw [ec]
  exact fun H1 locs1 hP1 hD1 hS1 => kk H1 locs1 ls hP1 hD1 hS1 hl
theorem J_iastN (C : jC E l own cc nL R J) {i n a v : Nat} {t : Nat → Nat} {ws' : va_W} (q0 : Nat) (ha : ws[q0]? = some (kI E a n t)) (hn : n < 2 ^ 31) (hi : i < n) (hdg : decode cc pc = .ok (.iastore, 1)) (hw : ws.set q0 (kI E a n (upN t i v)) = ws') (kk : J (pc + 1) lv st ws' cs ss) : J pc lv (.int (nI v) :: .int (nI i) :: .ref a :: st) ws cs ss := by
  obtain ⟨p, e, s, m, args, below, meth, c, Q, A, ⟨hx, hb, hml, hown, hts, hA, hK, hST, hlocks⟩, rfl⟩ := C
  intro H locs ls hP hD hS hl
  have ec := nI_clamp (n := i) (by omega)
  subst hw
  refine va_iast hx hb hK hP hD hS q0 0 ha rfl (vp_in_nI hi hn) hdg ?_
  rw [ec, upN_nI]
  exact fun H1 locs1 hP1 hD1 hS1 => kk H1 locs1 ls hP1 hD1 hS1 hl
theorem J_last (C : jC E l own cc nL R J) {i n a : Nat} {f : Nat → Int64} {x : Int64} {ws' : va_W} (q0 : Nat) (ha : ws[q0]? = some (a, .inl (E.2 1, n, .inr (.inl f)))) (hn : n < 2 ^ 31) (hi : i < n) (hdg : decode cc pc = .ok (.lastore, 1)) (hw : ws.set q0 (a, .inl (E.2 1, n, .inr (.inl (vp_updL f i x)))) = ws') (kk : J (pc + 1) lv st ws' cs ss) : J pc lv (.long x :: .int (nI i) :: .ref a :: st) ws cs ss := by
  obtain ⟨p, e, s, m, args, below, meth, c, Q, A, ⟨hx, hb, hml, hown, hts, hA, hK, hST, hlocks⟩, rfl⟩ := C
  intro H locs ls hP hD hS hl
  have ec := nI_clamp (n := i) (by omega)
  subst hw
  refine va_last hx hb hK hP hD hS q0 1 ha rfl (vp_in_nI hi hn) hdg ?_
  rw [ec]
  exact fun H1 locs1 hP1 hD1 hS1 => kk H1 locs1 ls hP1 hD1 hS1 hl
theorem J_zast (C : jC E l own cc nL R J) {i n a : Nat} {f : Nat → Int32} {x : Int32} {ws' : va_W} (q0 : Nat) (ha : ws[q0]? = some (a, .inl (E.2 2, n, .inl f))) (hn : n < 2 ^ 31) (hi : i < n) (hdg : decode cc pc = .ok (.bastore, 1)) (hnar : vp_nar .boolean x = x) (hw : ws.set q0 (a, .inl (E.2 2, n, .inl (upd f i x))) = ws') (kk : J (pc + 1) lv st ws' cs ss) : J pc lv (.int x :: .int (nI i) :: .ref a :: st) ws cs ss := by
  obtain ⟨p, e, s, m, args, below, meth, c, Q, A, ⟨hx, hb, hml, hown, hts, hA, hK, hST, hlocks⟩, rfl⟩ := C
  intro H locs ls hP hD hS hl
  have ec := nI_clamp (n := i) (by omega)
  subst hw
  refine va_zast hx hb hK hP hD hS q0 2 ha rfl (vp_in_nI hi hn) hdg ?_
  rw [ec, hnar]
  exact fun H1 locs1 hP1 hD1 hS1 => kk H1 locs1 ls hP1 hD1 hS1 hl
theorem J_aast (C : jC E l own cc nL R J) {i n a v ci : Nat} {T : u_T} {N : Nat} {vs : List Value} {f : Nat → Option Nat} {ws' : va_W} (q0 qk : Nat) (ha : ws[q0]? = some (a, .inl (E.2 3, n, .inr (.inr (.inr (.inr f)))))) (hv : ws[qk]? = some (v, .inr (ci, vs))) (hc : vwCl[ci]? = some ("ReversibleParts$Moves", T, N)) (hn : n < 2 ^ 31) (hi : i < n) (hdg : decode cc pc = .ok (.aastore, 1)) (hw : ws.set q0 (a, .inl (E.2 3, n, .inr (.inr (.inr (.inr (va_up f i (some v))))))) = ws') (kk : J (pc + 1) lv st ws' cs ss) : J pc lv (.ref v :: .int (nI i) :: .ref a :: st) ws cs ss := by
  obtain ⟨p, e, s, m, args, below, meth, c, Q, A, ⟨hx, hb, hml, hown, hts, hA, hK, hST, hlocks⟩, rfl⟩ := C
  intro H locs ls hP hD hS hl
  have ec := nI_clamp (n := i) (by omega)
  subst hw
  refine va_astq hx hb hK hP hD hS q0 3 qk ci ha rfl hv hc (vp_in_nI hi hn) hdg ?_
  rw [ec]
  exact fun H1 locs1 hP1 hD1 hS1 => kk H1 locs1 ls hP1 hD1 hS1 hl
theorem J_aastN (C : jC E l own cc nL R J) {i n a : Nat} {f : Nat → Option Nat} {ws' : va_W} (q0 : Nat) (ha : ws[q0]? = some (a, .inl (E.2 3, n, .inr (.inr (.inr (.inr f)))))) (hn : n < 2 ^ 31) (hi : i < n) (hdg : decode cc pc = .ok (.aastore, 1)) (hw : ws.set q0 (a, .inl (E.2 3, n, .inr (.inr (.inr (.inr (va_up f i none)))))) = ws') (kk : J (pc + 1) lv st ws' cs ss) : J pc lv (.null :: .int (nI i) :: .ref a :: st) ws cs ss := by
  obtain ⟨p, e, s, m, args, below, meth, c, Q, A, ⟨hx, hb, hml, hown, hts, hA, hK, hST, hlocks⟩, rfl⟩ := C
  intro H locs ls hP hD hS hl
  have ec := nI_clamp (n := i) (by omega)
  subst hw
  refine va_astqN hx hb hK hP hD hS q0 3 ha rfl (vp_in_nI hi hn) hdg ?_
  rw [ec]
  exact fun H1 locs1 hP1 hD1 hS1 => kk H1 locs1 ls hP1 hD1 hS1 hl
theorem J_alen (C : jC E l own cc nL R J) {a n : Nat} {x : (Nat → Int32) ⊕ (Nat → Int64) ⊕ (Nat → UInt32) ⊕ (Nat → UInt64) ⊕ (Nat → Option Nat)} {ca : Nat} {ty : FieldType} (q0 t0 : Nat) (ha : ws[q0]? = some (a, .inl (ca, n, x))) (ht : (jTys E)[t0]? = some (ca, ty)) (hdg : decode cc pc = .ok (.arraylength, 1)) (kk : J (pc + 1) lv (.int (nI n) :: st) ws cs ss) : J pc lv (.ref a :: st) ws cs ss := by
  obtain ⟨p, e, s, m, args, below, meth, c, Q, A, ⟨hx, hb, hml, hown, hts, hA, hK, hST, hlocks⟩, rfl⟩ := C
  intro H locs ls hP hD hS hl
  exact va_alen hx hb hK hP q0 t0 ha ht rfl hdg (kk H locs ls hP hD hS hl)
theorem J_newaI (C : jC E l own cc nL R J) {n : Nat} (hw : Cond.arrayClass .int ∈ jTW) (hn : n < 2 ^ 24) (hcells : cs + 1 ≤ R.cells) (hslots : ss + n ≤ R.slots) (hdg : decode cc pc = .ok (.newarray .int, 2)) (kk : ∀ q : Nat, J (pc + 2) lv (.ref q :: st) (ws ++ [kI E q n (fun _ => 0)]) (cs + 1) (ss + n)) : J pc lv (.int (nI n) :: st) ws cs ss := by
  obtain ⟨p, e, s, m, args, below, meth, c, Q, A, ⟨hx, hb, hml, hown, hts, hA, hK, hST, hlocks⟩, rfl⟩ := C
  intro H locs ls hP hD hS hl
  refine va_newa (atype := .int) hx hb (hts _ hw) (ty := .int) rfl hK hP hD hS hA (a0 := (n, .inl (fun _ => nI 0))) (fun _ => rfl) (nI_pos (by omega)) (nI_clamp (by omega)) (by show n * _ ≤ _; simp only [componentBytes]; omega) hcells hslots hdg ?_
  intro q cA H1 hK1 hP1 hD1 hS1
  have e1 : cA = E.2 0 := by
    have f1 : s.vm.findClass ("[" ++ FieldType.int.toString) = some cA := (hK1.2 4 (cA, .int) rfl).2
    have f2 : s.vm.findClass ("[" ++ FieldType.int.toString) = some (E.2 0) := (hK.2 0 (E.2 0, .int) rfl).2
    exact Option.some.inj (f1.symm.trans f2)
  subst e1
  exact kk q H1 locs ls hP1 hD1 hS1 hl
theorem J_newaL (C : jC E l own cc nL R J) {n : Nat} (hw : Cond.arrayClass .long ∈ jTW) (hn : n < 2 ^ 24) (hcells : cs + 1 ≤ R.cells) (hslots : ss + n ≤ R.slots) (hdg : decode cc pc = .ok (.newarray .long, 2)) (kk : ∀ q : Nat, J (pc + 2) lv (.ref q :: st) (ws ++ [kL E q n (fun _ => 0)]) (cs + 1) (ss + n)) : J pc lv (.int (nI n) :: st) ws cs ss := by
  obtain ⟨p, e, s, m, args, below, meth, c, Q, A, ⟨hx, hb, hml, hown, hts, hA, hK, hST, hlocks⟩, rfl⟩ := C
  intro H locs ls hP hD hS hl
  refine va_newa (atype := .long) hx hb (hts _ hw) (ty := .long) rfl hK hP hD hS hA (a0 := (n, .inr (.inl (fun _ => 0)))) (fun _ => rfl) (nI_pos (by omega)) (nI_clamp (by omega)) (by show n * _ ≤ _; simp only [componentBytes]; omega) hcells hslots hdg ?_
  intro q cA H1 hK1 hP1 hD1 hS1
  have e1 : cA = E.2 1 := by
    have f1 : s.vm.findClass ("[" ++ FieldType.long.toString) = some cA := (hK1.2 4 (cA, .long) rfl).2
    have f2 : s.vm.findClass ("[" ++ FieldType.long.toString) = some (E.2 1) := (hK.2 1 (E.2 1, .long) rfl).2
    exact Option.some.inj (f1.symm.trans f2)
  subst e1
  exact kk q H1 locs ls hP1 hD1 hS1 hl
theorem J_newaZ (C : jC E l own cc nL R J) {n : Nat} (hw : Cond.arrayClass .boolean ∈ jTW) (hn : n < 2 ^ 24) (hcells : cs + 1 ≤ R.cells) (hslots : ss + n ≤ R.slots) (hdg : decode cc pc = .ok (.newarray .boolean, 2)) (kk : ∀ q : Nat, J (pc + 2) lv (.ref q :: st) (ws ++ [kZ E q n (fun _ => 0)]) (cs + 1) (ss + n)) : J pc lv (.int (nI n) :: st) ws cs ss := by
  obtain ⟨p, e, s, m, args, below, meth, c, Q, A, ⟨hx, hb, hml, hown, hts, hA, hK, hST, hlocks⟩, rfl⟩ := C
  intro H locs ls hP hD hS hl
  refine va_newa (atype := .boolean) hx hb (hts _ hw) (ty := .boolean) rfl hK hP hD hS hA (a0 := (n, .inl (fun _ => 0))) (fun _ => rfl) (nI_pos (by omega)) (nI_clamp (by omega)) (by show n * _ ≤ _; simp only [componentBytes]; omega) hcells hslots hdg ?_
  intro q cA H1 hK1 hP1 hD1 hS1
  have e1 : cA = E.2 2 := by
    have f1 : s.vm.findClass ("[" ++ FieldType.boolean.toString) = some cA := (hK1.2 4 (cA, .boolean) rfl).2
    have f2 : s.vm.findClass ("[" ++ FieldType.boolean.toString) = some (E.2 2) := (hK.2 2 (E.2 2, .boolean) rfl).2
    exact Option.some.inj (f1.symm.trans f2)
  subst e1
  exact kk q H1 locs ls hP1 hD1 hS1 hl
theorem J_newaM (C : jC E l own cc nL R J) {n index : Nat} (hw : Cond.classLink own index "ReversibleParts$Moves" ∈ jTW) (hov : Cond.arrayOver (.object "ReversibleParts$Moves") ∈ jTW) (hn : n < 2 ^ 24) (hcells : cs + 1 ≤ R.cells) (hslots : ss + n ≤ R.slots) (hdg : decode cc pc = .ok (.anewarray index, 3)) (kk : ∀ q : Nat, J (pc + 3) lv (.ref q :: st) (ws ++ [kQ E q n (fun _ => none)]) (cs + 1) (ss + n)) : J pc lv (.int (nI n) :: st) ws cs ss := by
  obtain ⟨p, e, s, m, args, below, meth, c, Q, A, ⟨hx, hb, hml, hown, hts, hA, hK, hST, hlocks⟩, rfl⟩ := C
  intro H locs ls hP hD hS hl
  refine va_newq hx hb hown (hts _ hw) (va_AO.of (hts _ hov)) hK hP hD hS hA (nI_pos (by omega)) (nI_clamp (by omega)) (by omega) hcells hslots hdg ?_
  intro q cA H1 hK1 hP1 hD1 hS1
  have e1 : cA = E.2 3 := by
    obtain ⟨kA, comp, -, -, -, f1⟩ := (hK1.2 4 (cA, .object "ReversibleParts$Moves") rfl).2
    obtain ⟨kA2, comp2, -, -, -, f2⟩ := (hK.2 3 (E.2 3, .object "ReversibleParts$Moves") rfl).2
    exact Option.some.inj (f1.symm.trans f2)
  subst e1
  exact kk q H1 locs ls hP1 hD1 hS1 hl
theorem J_mmax (C : jC E l own cc nL R J) {x y : Int32} {index : Nat} (h1 : Cond.methodLink own index Lib.Math.max.name ∈ jTW) (h2 : Cond.static Lib.Math.max.name ∈ jTW) (h3 : Cond.initialized "java/lang/Math" ∈ jTW) (h4 : Cond.code Lib.Math.max.name Lib.Math.max.code 2 (some .int) ∈ jTW) (hf : 1 ≤ R.frames) (hlo : (st.map fun v => v.category).sum + 13 ≤ R.locals) (hc : cs ≤ R.cells) (hs : ss ≤ R.slots) (hdg : decode cc pc = .ok (.invokestatic index, 3)) (kk : J (pc + 3) lv (.int (if x < y then y else x) :: st) ws cs ss) : J pc lv (.int y :: .int x :: st) ws cs ss := by
  obtain ⟨p, e, s, m, args, below, meth, c, Q, A, ⟨hx, hb, hml, hown, hts, hA, hK, hST, hlocks⟩, rfl⟩ := C
  intro H locs ls hP hD hS hl
  exact va_mmax hx hb (by rw [hml]; exact hl.1.symm) hown (hts _ h1) (hts _ h2) (hts _ h3) (hts _ h4) hf hlo hc hs hdg (kk H locs ls hP hD hS hl)
theorem J_mmin (C : jC E l own cc nL R J) {x y : Int32} {index : Nat} (h1 : Cond.methodLink own index Lib.Math.min.name ∈ jTW) (h2 : Cond.static Lib.Math.min.name ∈ jTW) (h3 : Cond.initialized "java/lang/Math" ∈ jTW) (h4 : Cond.code Lib.Math.min.name Lib.Math.min.code 2 (some .int) ∈ jTW) (hf : 1 ≤ R.frames) (hlo : (st.map fun v => v.category).sum + 13 ≤ R.locals) (hc : cs ≤ R.cells) (hs : ss ≤ R.slots) (hdg : decode cc pc = .ok (.invokestatic index, 3)) (kk : J (pc + 3) lv (.int (if y < x then y else x) :: st) ws cs ss) : J pc lv (.int y :: .int x :: st) ws cs ss := by
  obtain ⟨p, e, s, m, args, below, meth, c, Q, A, ⟨hx, hb, hml, hown, hts, hA, hK, hST, hlocks⟩, rfl⟩ := C
  intro H locs ls hP hD hS hl
  exact va_mmin hx hb (by rw [hml]; exact hl.1.symm) hown (hts _ h1) (hts _ h2) (hts _ h3) (hts _ h4) hf hlo hc hs hdg (kk H locs ls hP hD hS hl)
theorem J_mminL (C : jC E l own cc nL R J) {x y : Int64} {index : Nat} (h1 : Cond.methodLink own index Lib.MathLoose.min_long.x ∈ jTW) (h2 : Cond.static Lib.MathLoose.min_long.x ∈ jTW) (h3 : Cond.initialized "java/lang/Math" ∈ jTW) (h4 : Cond.code Lib.MathLoose.min_long.x Lib.MathLoose.min_long.code 4 (some .long) ∈ jTW) (hf : 1 ≤ R.frames) (hlo : (st.map fun v => v.category).sum + 15 ≤ R.locals) (hc : cs ≤ R.cells) (hs : ss ≤ R.slots) (hdg : decode cc pc = .ok (.invokestatic index, 3)) (kk : J (pc + 3) lv (.long (if y < x then y else x) :: st) ws cs ss) : J pc lv (.long y :: .long x :: st) ws cs ss := by
  obtain ⟨p, e, s, m, args, below, meth, c, Q, A, ⟨hx, hb, hml, hown, hts, hA, hK, hST, hlocks⟩, rfl⟩ := C
  intro H locs ls hP hD hS hl
  exact va_mmin_long hx hb (by rw [hml]; exact hl.1.symm) hown (hts _ h1) (hts _ h2) (hts _ h3) (hts _ h4) hf hlo hc hs hdg (kk H locs ls hP hD hS hl)
theorem J_widen (C : jC E l own cc nL R J) {k n : Nat} (h1 : cs ≤ k) (h2 : ss ≤ n) (kk : J pc lv st ws k n) : J pc lv (st) ws cs ss := by
  obtain ⟨p, e, s, m, args, below, meth, c, Q, A, ⟨hx, hb, hml, hown, hts, hA, hK, hST, hlocks⟩, rfl⟩ := C
  intro H locs ls hP hD hS hl
  exact W.widen h1 h2 (kk H locs ls hP hD hS hl)
theorem J_lv (C : jC E l own cc nL R J) {lv' : jL} (ks : List Nat) (hv : lv_pick lv ks = lv') (kk : J pc lv' st ws cs ss) : J pc lv (st) ws cs ss := by
  obtain ⟨p, e, s, m, args, below, meth, c, Q, A, ⟨hx, hb, hml, hown, hts, hA, hK, hST, hlocks⟩, rfl⟩ := C
  intro H locs ls hP hD hS hl
  exact kk H locs ls hP hD hS (lv_sub hl ks hv)
theorem J_sub (C : jC E l own cc nL R J) {ws' : va_W} (h : List.Sublist ws' ws) (kk : J pc lv st ws' cs ss) : J pc lv (st) ws cs ss := by
  obtain ⟨p, e, s, m, args, below, meth, c, Q, A, ⟨hx, hb, hml, hown, hts, hA, hK, hST, hlocks⟩, rfl⟩ := C
  intro H locs ls hP hD hS hl
  exact kk H locs ls (jP_iff.mpr fun q hq => jP_iff.mp hP q (h.subset hq)) (jD_iff.mpr ⟨(jD_iff.mp hD).1.sublist h, fun q hq => (jD_iff.mp hD).2 q (h.subset hq)⟩) hS hl
theorem J_perm (C : jC E l own cc nL R J) {ws' : va_W} (h : List.Perm ws' ws) (kk : J pc lv st ws' cs ss) : J pc lv (st) ws cs ss := by
  obtain ⟨p, e, s, m, args, below, meth, c, Q, A, ⟨hx, hb, hml, hown, hts, hA, hK, hST, hlocks⟩, rfl⟩ := C
  intro H locs ls hP hD hS hl
  exact kk H locs ls (jP_iff.mpr fun q hq => jP_iff.mp hP q (h.subset hq)) (jD_iff.mpr ⟨(h.pairwise_iff (fun hxy => Ne.symm hxy)).mpr (jD_iff.mp hD).1, fun q hq => (jD_iff.mp hD).2 q (h.subset hq)⟩) hS hl
theorem J_pick (C : jC E l own cc nL R J) {ws' : va_W} (is : List Nat) (hn : va_nd is = true) (hs : is.map (fun i => ws[i]?) = ws'.map some) (kk : J pc lv st ws' cs ss) : J pc lv (st) ws cs ss := by
  obtain ⟨p, e, s, m, args, below, meth, c, Q, A, ⟨hx, hb, hml, hown, hts, hA, hK, hST, hlocks⟩, rfl⟩ := C
  intro H locs ls hP hD hS hl
  exact kk H locs ls (hP.sub is (by
    have h := congrArg (List.filterMap id) hs
    simpa [List.filterMap_map] using h)) (hD.sub is hn hs) hS hl
theorem J_pickR (C : jC E l own cc nL R J) {X cx pl : va_W} (is : List Nat) (hn : va_nd is = true) (hs : is.map (fun i => X[i]?) = cx.map some) (kk : J pc lv st (cx ++ pl) cs ss) : J pc lv st (X ++ pl) cs ss := by
  obtain ⟨p, e, s, m, args, below, meth, c, Q, A, ⟨hx, hb, hml, hown, hts, hA, hK, hST, hlocks⟩, rfl⟩ := C
  intro H locs ls hP hD hS hl
  exact kk H locs ls (hP.part is hs) (hD.part is hn hs) hS hl
theorem J_norm (C : jC E l own cc nL R J) {st' : List Value} {ws' : va_W} {cs' ss' : Nat} (h1 : st = st') (h2 : ws = ws') (h3 : cs = cs') (h4 : ss = ss') (kk : J pc lv st' ws' cs' ss') : J pc lv st ws cs ss := by
  subst h1; subst h2; subst h3; subst h4; exact kk
theorem kI_congr {E : jE} {a n : Nat} {f g : Nat → Nat} (h : ∀ j, j < n → f j = g j) {D : va_G} {cl : List vw_C} {H : Heap} : va_at D cl (kI E a n f) H → va_at D cl (kI E a n g) H := by
  intro q
  have e : vp_cell (E.2 0) (n, .inl (fun j => nI (f j))) = vp_cell (E.2 0) (n, .inl (fun j => nI (g j))) := by
    rw [vp_cell_i, vp_cell_i]
    unfold arrV
    congr 1
    apply congrArg
    funext j
    simp only [h j.val j.isLt]
  exact (show H[a]? = some _ from q).trans (congrArg some e)
theorem kR_congr {E : jE} {a n : Nat} {f g : Nat → Int32} (h : ∀ j, j < n → f j = g j) {D : va_G} {cl : List vw_C} {H : Heap} : va_at D cl (kR E a n f) H → va_at D cl (kR E a n g) H := by
  intro q
  have e : vp_cell (E.2 0) (n, .inl f) = vp_cell (E.2 0) (n, .inl g) := by
    rw [vp_cell_i, vp_cell_i]
    unfold arrV
    congr 1
    apply congrArg
    funext j
    simp only [h j.val j.isLt]
  exact (show H[a]? = some _ from q).trans (congrArg some e)
theorem kZ_congr {E : jE} {a n : Nat} {f g : Nat → Int32} (h : ∀ j, j < n → f j = g j) {D : va_G} {cl : List vw_C} {H : Heap} : va_at D cl (kZ E a n f) H → va_at D cl (kZ E a n g) H := by
  intro q
  have e : vp_cell (E.2 2) (n, .inl f) = vp_cell (E.2 2) (n, .inl g) := by
    rw [vp_cell_i, vp_cell_i]
    unfold arrV
    congr 1
    apply congrArg
    funext j
    simp only [h j.val j.isLt]
  exact (show H[a]? = some _ from q).trans (congrArg some e)
theorem kL_congr {E : jE} {a n : Nat} {f g : Nat → Int64} (h : ∀ j, j < n → f j = g j) {D : va_G} {cl : List vw_C} {H : Heap} : va_at D cl (kL E a n f) H → va_at D cl (kL E a n g) H := by
  intro q
  have e : vp_cell (E.2 1) (n, .inr (.inl f)) = vp_cell (E.2 1) (n, .inr (.inl g)) := by
    rw [vp_cell_l, vp_cell_l]
    unfold arrV
    congr 1
    apply congrArg
    funext j
    simp only [h j.val j.isLt]
  exact (show H[a]? = some _ from q).trans (congrArg some e)
theorem J_cell (C : jC E l own cc nL R J) {a : Nat} {e0 e1 : va_E} {ws' : va_W} (q0 : Nat) (he : ws[q0]? = some (a, e0)) (h : ∀ H : Heap, va_at E.1 vwCl (a, e0) H → va_at E.1 vwCl (a, e1) H) (hw : ws.set q0 (a, e1) = ws') (kk : J pc lv st ws' cs ss) : J pc lv (st) ws cs ss := by
  obtain ⟨p, e, s, m, args, below, meth, c, Q, A, ⟨hx, hb, hml, hown, hts, hA, hK, hST, hlocks⟩, rfl⟩ := C
  intro H locs ls hP hD hS hl
  subst hw
  exact kk H locs ls (hP.set hD he (h H (hP q0 _ he)) (fun _ _ => rfl)) (hD.set he) hS hl
theorem j_back {p : Program} {e : Env} {s : State} {m : MethodId} {args : Array Value} {below : List Frame} {meth : Method} {c : Code} {Q : State → Prop} {A : Nat → Prop} {H : Heap} {locs : List Loc} {ls : Array Slot} {pre wc po : va_W} {mc ms : Nat} {rest : List Value} {post : Option Value → va_W → Prop} {a : Array Value}
    (hr : va_Run p l e R s m args below meth c H locs cs ss mc ms (F0 m pc ls st) rest (jPost E wc H.size post a) (va_A wc H.size)) (hA : ∀ q, s.heap.size ≤ q → A q) (hP : va_P E.1 vwCl (pre ++ wc ++ po) H) (hD : va_D A (pre ++ wc ++ po)) (hS : va_S A s.heap H locs) (hl : lv_has ls nL lv)
    (kk : ∀ (r : Option Value) (w' : va_W), post r w' → jV p l e R s m args below meth c Q A E nL (pc + 3) lv (r.toList ++ rest) (pre ++ w' ++ po) (cs + mc) (ss + ms)) : W p l e R s m args below meth c H locs cs ss Q (F0 m pc ls st) := by
  intro T hT X
  obtain ⟨v, st₀, t, T', L, h0, X', hL, e1, e2, ⟨⟨r, w', hv, hp, hP1, hD1⟩, hz, hk⟩, stp⟩ := hr T hT X
  cases hv
  rw [h0] at hz hk
  have hF := j_freeA hD hS hA
  obtain ⟨hP2, hD2⟩ := j_join hP hD hk hF hP1 hD1
  obtain ⟨t2, a1, b1⟩ := kk v w' hp T'.heap (locs ++ L) ls (by rw [e1]; exact hP2) hD2 ⟨Nat.le_trans hS.1 (by rw [e1]; exact hz), fun q h1 h2 => by rw [e1, hk q (Nat.lt_of_lt_of_le h1 hS.1) (fun z => h2 (hF q z))]; exact hS.2.1 q h1 h2, fun q hq => by
      rcases List.mem_append.mp hq with h | h
      · exact hS.2.2 q h
      · exact hF _ (hL q h)⟩ hl T' rfl X'
  exact ⟨t2, stp t2 a1, b1⟩
theorem j_pre {s : State} {A : Nat → Prop} {H : Heap} {locs : List Loc} {pre wc po : va_W} {av : List Value} (hA : ∀ q, s.heap.size ≤ q → A q) (hK : va_K E.1 vwCl (jTys E) s) (hST : jST E A s s.heap) (hP : va_P E.1 vwCl (pre ++ wc ++ po) H) (hD : va_D A (pre ++ wc ++ po)) (hS : va_S A s.heap H locs) : ∀ U : State, U.heap = H → s.WarmedH U.vm → jPre E av wc H.size av.toArray U := by
  intro U hU hW
  have hPc := (jP_app.mp (jP_app.mp hP).1).2
  have hDc := (jD_app.mp (jD_app.mp hD).1).2.1
  exact ⟨rfl, by rw [hU], by rw [hU]; exact hPc, va_K.moved hW.alike hK, hDc.weaken (fun _ _ _ _ => trivial), by
    rw [hU]
    exact jST.moved hW.alike ((jST.kept hST (fun q h1 h2 => hS.2.1 q h1 h2)).narrow (j_freeA hD hS hA))⟩
/-- what a method's words say: it is there, with this code -/
def jM (y : MethodName) (bc : ByteArray) (n maxL : Nat) (ret : Option FieldType) (kind : Cond) : Prop := kind ∈ jTW ∧ Cond.initialized y.cls ∈ jTW ∧ Cond.code y bc maxL ret ∈ jTW ∧ y.cls ≠ "java/lang/invoke/MethodHandle" ∧ y.cls ≠ "java/lang/invoke/VarHandle" ∧ (parseMethodDescriptor y.desc).map (fun d => d.parameters.length) = some n

theorem J_callV (C : jC E l own cc nL R J) {y : MethodName} {bc : ByteArray} {maxL n : Nat} {ret : Option FieldType} {rm : Room} {b ci index : Nat} {T : u_T} {N : Nat} {fs : List Value} {As rest : List Value} {post : Option Value → va_W → Prop} (pre wc po : va_W) (q0 : Nat) (hcon : Con E l y bc maxL ret rm (.ref b :: As) wc post) (hm : jM y bc n maxL ret (.instanceMethod y)) (hsel : Cond.selects y.cls y y ∈ jTW) (hlink : Cond.methodLink own index y ∈ jTW) (he : wc[q0]? = some (b, .inr (ci, fs))) (hc : vwCl[ci]? = some (y.cls, T, N)) (hws : ws = pre ++ wc ++ po) (hst : st = As.reverse ++ .ref b :: rest) (hn : As.length = n) (hR : rm.frames + 1 ≤ R.frames ∧ 8 + (maxL + 11) + rm.locals ≤ R.locals) (hf : cs + rm.cells ≤ R.cells ∧ ss + rm.slots ≤ R.slots) (hrest : (rest.map fun v => v.category).sum ≤ 8) (hdg : decode cc pc = .ok (.invokevirtual index, 3))
    (kk : ∀ (r : Option Value) (w' : va_W), post r w' → J (pc + 3) lv (r.toList ++ rest) (pre ++ w' ++ po) (cs + rm.cells) (ss + rm.slots)) : J pc lv st ws cs ss := by
  obtain ⟨p, e, s, m, args, below, meth, c, Q, A, ⟨hx, hb, hml, hown, hts, hA, hK, hST, hlocks⟩, rfl⟩ := C
  intro H locs ls hP hD hS hl
  subst hws; subst hst
  obtain ⟨m1, m2, m3, m4⟩ := hm
  have hG : GoodIn jTW (wsV own index y.cls y (Cond.code y bc maxL ret :: jTW)) := by
    intro w hw
    refine jgood w ?_
    simp only [wsV, List.cons_append, List.nil_append, List.mem_cons] at hw
    rcases hw with rfl | rfl | rfl | rfl | rfl | h
    · exact hlink
    · exact m1
    · exact hsel
    · exact m2
    · exact m3
    · exact h
  have hPc := (jP_app.mp (jP_app.mp hP).1).2
  exact j_back (va_runV (As := As) (rest := rest) ⟨hx, hb, hml, hown, hts⟩ (hcon H.size) (cwV n hts hG rfl rfl rfl ⟨rfl, m4⟩ hR) ⟨jPre_blind, va_recv hK hPc hc he, j_pre hA hK hST hP hD hS⟩ rfl hn hl.1 rfl (lv_room hrest) hdg hf) hA hP hD hS hl kk
theorem J_callS (C : jC E l own cc nL R J) {y : MethodName} {bc : ByteArray} {maxL n : Nat} {ret : Option FieldType} {rm : Room} {index : Nat} {As rest : List Value} {post : Option Value → va_W → Prop} (pre wc po : va_W) (hcon : Con E l y bc maxL ret rm As wc post) (hm : jM y bc n maxL ret (.static y)) (hlink : Cond.methodLink own index y ∈ jTW) (hws : ws = pre ++ wc ++ po) (hst : st = As.reverse ++ rest) (hn : As.length = n) (hR : rm.frames + 1 ≤ R.frames ∧ 8 + (maxL + 11) + rm.locals ≤ R.locals) (hf : cs + rm.cells ≤ R.cells ∧ ss + rm.slots ≤ R.slots) (hrest : (rest.map fun v => v.category).sum ≤ 8) (hdg : decode cc pc = .ok (.invokestatic index, 3))
    (kk : ∀ (r : Option Value) (w' : va_W), post r w' → J (pc + 3) lv (r.toList ++ rest) (pre ++ w' ++ po) (cs + rm.cells) (ss + rm.slots)) : J pc lv st ws cs ss := by
  obtain ⟨p, e, s, m, args, below, meth, c, Q, A, ⟨hx, hb, hml, hown, hts, hA, hK, hST, hlocks⟩, rfl⟩ := C
  intro H locs ls hP hD hS hl
  subst hws; subst hst
  obtain ⟨m1, m2, m3, m4⟩ := hm
  have hG : GoodIn jTW (va_wsS own index y (Cond.code y bc maxL ret :: jTW)) := by
    intro w hw
    refine jgood w ?_
    simp only [va_wsS, List.cons_append, List.nil_append, List.mem_cons] at hw
    rcases hw with rfl | rfl | rfl | rfl | h
    · exact hlink
    · exact m1
    · exact m2
    · exact m3
    · exact h
  exact j_back (va_runS (As := As) (rest := rest) ⟨hx, hb, hml, hown, hts⟩ (hcon H.size) (va_cwS n hts hG rfl rfl rfl m4 hR) ⟨jPre_blind, j_pre hA hK hST hP hD hS⟩ rfl hn hl.1 rfl (lv_room hrest) hdg hf) hA hP hD hS hl kk
theorem J_callI (C : jC E l own cc nL R J) {y : MethodName} {bc : ByteArray} {maxL n : Nat} {rm : Room} {b index : Nat} {As rest : List Value} {post : Option Value → va_W → Prop} (pre wc po : va_W) (hcon : Con E l y bc maxL none rm (.ref b :: As) wc post) (hm : jM y bc n maxL none (.instanceMethod y)) (hin : y.name = "<init>") (hlink : Cond.methodLink own index y ∈ jTW) (hws : ws = pre ++ wc ++ po) (hst : st = As.reverse ++ .ref b :: rest) (hn : As.length = n) (hR : rm.frames + 1 ≤ R.frames ∧ 8 + (maxL + 11) + rm.locals ≤ R.locals) (hf : cs + rm.cells ≤ R.cells ∧ ss + rm.slots ≤ R.slots) (hrest : (rest.map fun v => v.category).sum ≤ 8) (hdg : decode cc pc = .ok (.invokespecial index, 3))
    (kk : ∀ (r : Option Value) (w' : va_W), post r w' → J (pc + 3) lv (r.toList ++ rest) (pre ++ w' ++ po) (cs + rm.cells) (ss + rm.slots)) : J pc lv st ws cs ss := by
  obtain ⟨p, e, s, m, args, below, meth, c, Q, A, ⟨hx, hb, hml, hown, hts, hA, hK, hST, hlocks⟩, rfl⟩ := C
  intro H locs ls hP hD hS hl
  subst hws; subst hst
  obtain ⟨m1, m2, m3, m4⟩ := hm
  have hG : GoodIn jTW (Cond.code y bc maxL none :: jTW) := by
    intro w hw
    refine jgood w ?_
    rcases List.mem_cons.mp hw with rfl | h
    · exact m3
    · exact h
  exact j_back (va_runI (As := As) (rest := rest) ⟨hx, hb, hml, hown, hts⟩ (hcon H.size) (cwI n hts hG rfl rfl rfl (hts _ m2) (hts _ hlink) (hts _ m1) hin m4 hR) ⟨jPre_blind, j_pre hA hK hST hP hD hS⟩ rfl hn hl.1 rfl (lv_room hrest) hdg hf) hA hP hD hS hl kk
end JKW
section JKN
/-! numbers: every int that is told as nI of a natural number -/
theorem jn_and (a b : Nat) : nI a &&& nI b = nI (a &&& b) := by
  unfold nI; apply Int32.toBitVec_inj.mp; simp [Int32.toBitVec_ofNat']
theorem jn_or (a b : Nat) : nI a ||| nI b = nI (a ||| b) := by
  unfold nI; apply Int32.toBitVec_inj.mp; simp [Int32.toBitVec_ofNat']
theorem jn_xor (a b : Nat) : nI a ^^^ nI b = nI (a ^^^ b) := by
  unfold nI; apply Int32.toBitVec_inj.mp; simp [Int32.toBitVec_ofNat']
theorem jn_s31 : ∀ n, n < 32 → ((nI n &&& 31).toBitVec.smod 32).toNat = n := by decide +kernel
theorem jn_shl (a b : Nat) (hb : b < 32) : nI a <<< (nI b &&& 31) = nI (a * 2 ^ b) := by
  have h := pk_shl (nI a) (nI b &&& 31) b (jn_s31 b hb)
  apply Int32.toBitVec_inj.mp
  apply BitVec.eq_of_toNat_eq
  rw [h]
  unfold nI
  simp [Int32.toBitVec_ofNat', BitVec.toNat_ofNat, Nat.mod_mul_mod]
theorem jn_shr (a b : Nat) (ha : a < 2 ^ 31) (hb : b < 32) : nI a >>> (nI b &&& 31) = nI (a / 2 ^ b) := pk_shrN ha _ b (jn_s31 b hb)
end JKN
section JKX
variable {E : jE} {l : Launch} {own : String} {cc : ByteArray} {nL : Nat} {R : Room} {J : jJ} {pc : Nat} {lv : jL} {st : List Value} {ws : va_W} {cs ss : Nat}
theorem j_m1 : (-1 : Int32).toInt = -1 := rfl
theorem jn_inc (n : Nat) : nI n + Int32.ofInt 1 = nI (n + 1) := nI_1 n
theorem jn_dec {n : Nat} (h : 1 ≤ n) : nI n + Int32.ofInt (-1) = nI (n - 1) := by
  obtain ⟨k, rfl⟩ : ∃ k, n = k + 1 := ⟨n - 1, by omega⟩
  exact pk_m1 k
theorem jn_sub {a b : Nat} (h : b ≤ a) : nI a - nI b = nI (a - b) := pk_sub h
theorem J_topN (C : jC E l own cc nL R J) {n n' : Nat} (h : n = n') (kk : J pc lv (.int (nI n') :: st) ws cs ss) : J pc lv (.int (nI n) :: st) ws cs ss := by subst h; exact kk
theorem J_topX (C : jC E l own cc nL R J) {x x' : Int32} (h : x = x') (kk : J pc lv (.int x' :: st) ws cs ss) : J pc lv (.int x :: st) ws cs ss := by subst h; exact kk
theorem J_topL (C : jC E l own cc nL R J) {x x' : Int64} (h : x = x') (kk : J pc lv (.long x' :: st) ws cs ss) : J pc lv (.long x :: st) ws cs ss := by subst h; exact kk
theorem J_topV (C : jC E l own cc nL R J) {x x' : Value} (h : x = x') (kk : J pc lv (x' :: st) ws cs ss) : J pc lv (x :: st) ws cs ss := by subst h; exact kk
theorem J_ws (C : jC E l own cc nL R J) {ws' : va_W} (h : ws = ws') (kk : J pc lv st ws' cs ss) : J pc lv st ws cs ss := by subst h; exact kk
theorem J_st (C : jC E l own cc nL R J) {st' : List Value} (h : st = st') (kk : J pc lv st' ws cs ss) : J pc lv st ws cs ss := by subst h; exact kk
theorem J_iaddN (C : jC E l own cc nL R J) {a b : Nat} (hdg : decode cc pc = .ok (.iadd, 1)) (kk : J (pc + 1) lv (.int (nI (a + b)) :: st) ws cs ss) : J pc lv (.int (nI b) :: .int (nI a) :: st) ws cs ss := J_iadd C hdg (by rw [nI_add]; exact kk)
theorem J_imulN (C : jC E l own cc nL R J) {a b : Nat} (hdg : decode cc pc = .ok (.imul, 1)) (kk : J (pc + 1) lv (.int (nI (a * b)) :: st) ws cs ss) : J pc lv (.int (nI b) :: .int (nI a) :: st) ws cs ss := J_imul C hdg (by rw [pk_mul]; exact kk)
theorem J_iandN (C : jC E l own cc nL R J) {a b : Nat} (hdg : decode cc pc = .ok (.iand, 1)) (kk : J (pc + 1) lv (.int (nI (a &&& b)) :: st) ws cs ss) : J pc lv (.int (nI b) :: .int (nI a) :: st) ws cs ss := J_iand C hdg (by rw [jn_and]; exact kk)
theorem J_iorN (C : jC E l own cc nL R J) {a b : Nat} (hdg : decode cc pc = .ok (.ior, 1)) (kk : J (pc + 1) lv (.int (nI (a ||| b)) :: st) ws cs ss) : J pc lv (.int (nI b) :: .int (nI a) :: st) ws cs ss := J_ior C hdg (by rw [jn_or]; exact kk)
theorem J_ixorN (C : jC E l own cc nL R J) {a b : Nat} (hdg : decode cc pc = .ok (.ixor, 1)) (kk : J (pc + 1) lv (.int (nI (a ^^^ b)) :: st) ws cs ss) : J pc lv (.int (nI b) :: .int (nI a) :: st) ws cs ss := J_ixor C hdg (by rw [jn_xor]; exact kk)
theorem J_isubN (C : jC E l own cc nL R J) {a b : Nat} (hdg : decode cc pc = .ok (.isub, 1)) (h : b ≤ a) (kk : J (pc + 1) lv (.int (nI (a - b)) :: st) ws cs ss) : J pc lv (.int (nI b) :: .int (nI a) :: st) ws cs ss := J_isub C hdg (by rw [jn_sub h]; exact kk)
theorem J_ishlN (C : jC E l own cc nL R J) {a b : Nat} (hdg : decode cc pc = .ok (.ishl, 1)) (h : b < 32) (kk : J (pc + 1) lv (.int (nI (a * 2 ^ b)) :: st) ws cs ss) : J pc lv (.int (nI b) :: .int (nI a) :: st) ws cs ss := J_ishl C hdg (by rw [jn_shl a b h]; exact kk)
theorem J_ishl1 (C : jC E l own cc nL R J) {b : Nat} (hdg : decode cc pc = .ok (.ishl, 1)) (h : b < 32) (kk : J (pc + 1) lv (.int (nI (2 ^ b)) :: st) ws cs ss) : J pc lv (.int (nI b) :: .int (nI 1) :: st) ws cs ss := J_ishl C hdg (by rw [jn_shl 1 b h, Nat.one_mul]; exact kk)
theorem J_ishrN (C : jC E l own cc nL R J) {a b : Nat} (hdg : decode cc pc = .ok (.ishr, 1)) (ha : a < 2 ^ 31) (h : b < 32) (kk : J (pc + 1) lv (.int (nI (a / 2 ^ b)) :: st) ws cs ss) : J pc lv (.int (nI b) :: .int (nI a) :: st) ws cs ss := J_ishr C hdg (by rw [jn_shr a b ha h]; exact kk)
theorem J_idivN (C : jC E l own cc nL R J) {a b : Nat} (hdg : decode cc pc = .ok (.idiv, 1)) (ha : a < 2 ^ 31) (h0 : 0 < b) (hb : b < 2 ^ 31) (kk : J (pc + 1) lv (.int (nI (a / b)) :: st) ws cs ss) : J pc lv (.int (nI b) :: .int (nI a) :: st) ws cs ss := J_idiv C hdg (nI_ne0 h0 hb) (by rw [pk_div ha h0 hb]; exact kk)
theorem J_iremN (C : jC E l own cc nL R J) {a b : Nat} (hdg : decode cc pc = .ok (.irem, 1)) (ha : a < 2 ^ 31) (h0 : 0 < b) (hb : b < 2 ^ 31) (kk : J (pc + 1) lv (.int (nI (a % b)) :: st) ws cs ss) : J pc lv (.int (nI b) :: .int (nI a) :: st) ws cs ss := J_irem C hdg (nI_ne0 h0 hb) (by rw [pk_rem ha h0 hb]; exact kk)
end JKX
end
section
theorem ckL_7 : Cond.classLink "ReversiblePartsLaw" 7 "ReversibleParts" ∈ jTW := j_at 40 rfl rfl
theorem lkL_9 : Cond.methodLink "ReversiblePartsLaw" 9 yR_init ∈ jTW := j_at 42 rfl rfl
theorem lkR_1 : Cond.methodLink "ReversibleParts" 1 Lib.objectInit ∈ jTW := j_at 45 rfl rfl
theorem ckR_7 : Cond.classLink "ReversibleParts" 7 "ReversibleParts$Table" ∈ jTW := j_at 48 rfl rfl
theorem lkR_9 : Cond.methodLink "ReversibleParts" 9 yT_init ∈ jTW := j_at 50 rfl rfl
theorem lkT_3 : Cond.methodLink "ReversibleParts$Table" 3 Lib.objectInit ∈ jTW := j_at 53 rfl rfl
theorem fkT_21 : Cond.fieldLink "ReversibleParts$Table" 21 "ReversibleParts$Table" "bits" "I" ∈ jTW := j_at 54 rfl rfl
theorem fkT_25 : Cond.fieldLink "ReversibleParts$Table" 25 "ReversibleParts$Table" "size" "I" ∈ jTW := j_at 55 rfl rfl
theorem fkT_9 : Cond.fieldLink "ReversibleParts$Table" 9 "ReversibleParts$Table" "to" "[I" ∈ jTW := j_at 56 rfl rfl
theorem fkT_15 : Cond.fieldLink "ReversibleParts$Table" 15 "ReversibleParts$Table" "rest" "[I" ∈ jTW := j_at 57 rfl rfl
theorem fkT_18 : Cond.fieldLink "ReversibleParts$Table" 18 "ReversibleParts$Table" "found" "[I" ∈ jTW := j_at 58 rfl rfl
theorem fkT_39 : Cond.fieldLink "ReversibleParts$Table" 39 "ReversibleParts$Table" "foundCount" "I" ∈ jTW := j_at 59 rfl rfl
theorem ckR_16 : Cond.classLink "ReversibleParts" 16 "ReversibleParts$Forms" ∈ jTW := j_at 74 rfl rfl
theorem lkR_18 : Cond.methodLink "ReversibleParts" 18 yF_init ∈ jTW := j_at 76 rfl rfl
theorem lkF_5 : Cond.methodLink "ReversibleParts$Forms" 5 Lib.objectInit ∈ jTW := j_at 79 rfl rfl
theorem fkF_11 : Cond.fieldLink "ReversibleParts$Forms" 11 "ReversibleParts$Forms" "row" "[J" ∈ jTW := j_at 81 rfl rfl
theorem fkF_17 : Cond.fieldLink "ReversibleParts$Forms" 17 "ReversibleParts$Forms" "filled" "I" ∈ jTW := j_at 82 rfl rfl
theorem ckR_23 : Cond.classLink "ReversibleParts" 23 "ReversibleParts$Steps" ∈ jTW := j_at 89 rfl rfl
theorem lkR_25 : Cond.methodLink "ReversibleParts" 25 yS_init ∈ jTW := j_at 91 rfl rfl
theorem lkS_3 : Cond.methodLink "ReversibleParts$Steps" 3 Lib.objectInit ∈ jTW := j_at 94 rfl rfl
theorem ckS_19 : Cond.classLink "ReversibleParts$Steps" 19 "ReversibleParts$Moves" ∈ jTW := j_at 95 rfl rfl
theorem lkS_25 : Cond.methodLink "ReversibleParts$Steps" 25 yV_init ∈ jTW := j_at 98 rfl rfl
theorem lkV_3 : Cond.methodLink "ReversibleParts$Moves" 3 Lib.objectInit ∈ jTW := j_at 101 rfl rfl
theorem fkV_9 : Cond.fieldLink "ReversibleParts$Moves" 9 "ReversibleParts$Moves" "row" "[I" ∈ jTW := j_at 102 rfl rfl
theorem fkS_9 : Cond.fieldLink "ReversibleParts$Steps" 9 "ReversibleParts$Steps" "count" "I" ∈ jTW := j_at 106 rfl rfl
theorem fkS_15 : Cond.fieldLink "ReversibleParts$Steps" 15 "ReversibleParts$Steps" "needs" "[I" ∈ jTW := j_at 107 rfl rfl
theorem fkS_21 : Cond.fieldLink "ReversibleParts$Steps" 21 "ReversibleParts$Steps" "known" "[LReversibleParts$Moves;" ∈ jTW := j_at 108 rfl rfl
theorem fkS_28 : Cond.fieldLink "ReversibleParts$Steps" 28 "ReversibleParts$Steps" "nothing" "LReversibleParts$Moves;" ∈ jTW := j_at 109 rfl rfl
theorem fkS_32 : Cond.fieldLink "ReversibleParts$Steps" 32 "ReversibleParts$Steps" "left" "[I" ∈ jTW := j_at 110 rfl rfl
theorem fkS_35 : Cond.fieldLink "ReversibleParts$Steps" 35 "ReversibleParts$Steps" "queue" "[I" ∈ jTW := j_at 111 rfl rfl
theorem fkS_86 : Cond.fieldLink "ReversibleParts$Steps" 86 "ReversibleParts$Steps" "queued" "I" ∈ jTW := j_at 112 rfl rfl
theorem fkR_10 : Cond.fieldLink "ReversibleParts" 10 "ReversibleParts" "table" "LReversibleParts$Table;" ∈ jTW := j_at 128 rfl rfl
theorem fkR_19 : Cond.fieldLink "ReversibleParts" 19 "ReversibleParts" "forms" "LReversibleParts$Forms;" ∈ jTW := j_at 129 rfl rfl
theorem fkR_26 : Cond.fieldLink "ReversibleParts" 26 "ReversibleParts" "steps" "LReversibleParts$Steps;" ∈ jTW := j_at 130 rfl rfl
theorem lkL_13 : Cond.methodLink "ReversiblePartsLaw" 13 yR_begin ∈ jTW := j_at 138 rfl rfl
theorem lkR_30 : Cond.methodLink "ReversibleParts" 30 yT_startWith ∈ jTW := j_at 142 rfl rfl
theorem lkL_18 : Cond.methodLink "ReversiblePartsLaw" 18 yR_put ∈ jTW := j_at 146 rfl rfl
theorem lkR_34 : Cond.methodLink "ReversibleParts" 34 yT_set ∈ jTW := j_at 150 rfl rfl
theorem lkT_28 : Cond.methodLink "ReversibleParts$Table" 28 yT_hasValue ∈ jTW := j_at 154 rfl rfl
theorem lkL_23 : Cond.methodLink "ReversiblePartsLaw" 23 yR_apply ∈ jTW := j_at 158 rfl rfl
theorem lkR_38 : Cond.methodLink "ReversibleParts" 38 yT_change ∈ jTW := j_at 162 rfl rfl
theorem lkT_32 : Cond.methodLink "ReversibleParts$Table" 32 yT_hasGate ∈ jTW := j_at 166 rfl rfl
theorem lkT_35 : Cond.methodLink "ReversibleParts$Table" 35 yT_changeAll ∈ jTW := j_at 170 rfl rfl
theorem lkL_27 : Cond.methodLink "ReversiblePartsLaw" 27 yR_gate ∈ jTW := j_at 174 rfl rfl
theorem lkR_41 : Cond.methodLink "ReversibleParts" 41 yT_isPermutation ∈ jTW := j_at 178 rfl rfl
theorem lkR_45 : Cond.methodLink "ReversibleParts" 45 yT_findGates ∈ jTW := j_at 182 rfl rfl
theorem lkT_42 : Cond.methodLink "ReversibleParts$Table" 42 yT_settleRow ∈ jTW := j_at 186 rfl rfl
theorem lkT_46 : Cond.methodLink "ReversibleParts$Table" 46 yT_useGate ∈ jTW := j_at 190 rfl rfl
theorem lkR_49 : Cond.methodLink "ReversibleParts" 49 yT_foundFromLast ∈ jTW := j_at 194 rfl rfl
theorem lkL_32 : Cond.methodLink "ReversiblePartsLaw" 32 yR_look ∈ jTW := j_at 198 rfl rfl
theorem lkR_53 : Cond.methodLink "ReversibleParts" 53 yT_get ∈ jTW := j_at 202 rfl rfl
theorem lkL_36 : Cond.methodLink "ReversiblePartsLaw" 36 yR_form ∈ jTW := j_at 206 rfl rfl
theorem lkR_56 : Cond.methodLink "ReversibleParts" 56 yT_bitCount ∈ jTW := j_at 210 rfl rfl
theorem lkR_59 : Cond.methodLink "ReversibleParts" 59 yF_least ∈ jTW := j_at 214 rfl rfl
theorem lkF_25 : Cond.methodLink "ReversibleParts$Forms" 25 yF_fillLevel ∈ jTW := j_at 218 rfl rfl
theorem fkF_33 : Cond.fieldLink "ReversibleParts$Forms" 33 "ReversibleParts$Forms" "START" "[I" ∈ jTW := j_at 222 rfl rfl
theorem lkF_29 : Cond.methodLink "ReversibleParts$Forms" 29 yF_leastFrom ∈ jTW := j_at 224 rfl rfl
theorem lkF_37 : Cond.methodLink "ReversibleParts$Forms" 37 yP_count ∈ jTW := j_at 228 rfl rfl
theorem lkF_21 : Cond.methodLink "ReversibleParts$Forms" 21 yF_sizeOf ∈ jTW := j_at 232 rfl rfl
theorem lkF_45 : Cond.methodLink "ReversibleParts$Forms" 45 yF_join ∈ jTW := j_at 235 rfl rfl
theorem lkF_49 : Cond.methodLink "ReversibleParts$Forms" 49 Lib.MathLoose.min_long.x ∈ jTW := j_at 240 rfl rfl
theorem lkR_63 : Cond.methodLink "ReversibleParts" 63 yF_sizeOf ∈ jTW := j_at 243 rfl rfl
theorem lkR_67 : Cond.methodLink "ReversibleParts" 67 yF_numberAt ∈ jTW := j_at 244 rfl rfl
theorem lkL_41 : Cond.methodLink "ReversiblePartsLaw" 41 yR_product ∈ jTW := j_at 247 rfl rfl
theorem lkR_71 : Cond.methodLink "ReversibleParts" 71 yP_count ∈ jTW := j_at 251 rfl rfl
theorem lkR_76 : Cond.methodLink "ReversibleParts" 76 yP_function ∈ jTW := j_at 252 rfl rfl
theorem lkP_7 : Cond.methodLink "ReversibleParts$Products" 7 yP_holds ∈ jTW := j_at 255 rfl rfl
theorem lkL_45 : Cond.methodLink "ReversiblePartsLaw" 45 yR_program ∈ jTW := j_at 258 rfl rfl
theorem lkR_80 : Cond.methodLink "ReversibleParts" 80 yS_startWith ∈ jTW := j_at 262 rfl rfl
theorem lkS_38 : Cond.methodLink "ReversibleParts$Steps" 38 yS_forget ∈ jTW := j_at 266 rfl rfl
theorem lkL_49 : Cond.methodLink "ReversiblePartsLaw" 49 yR_need ∈ jTW := j_at 270 rfl rfl
theorem lkR_81 : Cond.methodLink "ReversibleParts" 81 yS_setNeeds ∈ jTW := j_at 274 rfl rfl
theorem lkL_53 : Cond.methodLink "ReversiblePartsLaw" 53 yR_move ∈ jTW := j_at 278 rfl rfl
theorem lkR_84 : Cond.methodLink "ReversibleParts" 84 yS_movesWithin ∈ jTW := j_at 282 rfl rfl
theorem lkS_52 : Cond.methodLink "ReversibleParts$Steps" 52 Lib.Math.min.name ∈ jTW := j_at 286 rfl rfl
theorem lkS_58 : Cond.methodLink "ReversibleParts$Steps" 58 Lib.Math.max.name ∈ jTW := j_at 289 rfl rfl
theorem lkS_61 : Cond.methodLink "ReversibleParts$Steps" 61 yS_search ∈ jTW := j_at 292 rfl rfl
theorem lkS_73 : Cond.methodLink "ReversibleParts$Steps" 73 yS_makeRoom ∈ jTW := j_at 296 rfl rfl
theorem lkS_64 : Cond.methodLink "ReversibleParts$Steps" 64 yS_wantedSteps ∈ jTW := j_at 300 rfl rfl
theorem lkS_76 : Cond.methodLink "ReversibleParts$Steps" 76 yS_spreadFromGoal ∈ jTW := j_at 304 rfl rfl
theorem lkS_89 : Cond.methodLink "ReversibleParts$Steps" 89 yS_enter ∈ jTW := j_at 308 rfl rfl
theorem lkS_92 : Cond.methodLink "ReversibleParts$Steps" 92 yS_spreadFrom ∈ jTW := j_at 312 rfl rfl
theorem lkS_67 : Cond.methodLink "ReversibleParts$Steps" 67 yJ_bitCount ∈ jTW := j_at 316 rfl rfl
theorem lkS_49 : Cond.methodLink "ReversibleParts$Steps" 49 yV_length ∈ jTW := j_at 322 rfl rfl
theorem lkS_80 : Cond.methodLink "ReversibleParts$Steps" 80 yS_firstStepNearer ∈ jTW := j_at 326 rfl rfl
theorem lkS_83 : Cond.methodLink "ReversibleParts$Steps" 83 yV_set ∈ jTW := j_at 330 rfl rfl
theorem lkR_88 : Cond.methodLink "ReversibleParts" 88 yV_length ∈ jTW := j_at 334 rfl rfl
theorem lkR_93 : Cond.methodLink "ReversibleParts" 93 yV_at ∈ jTW := j_at 335 rfl rfl
theorem lkL_57 : Cond.methodLink "ReversiblePartsLaw" 57 yR_marks ∈ jTW := j_at 339 rfl rfl
theorem lkR_96 : Cond.methodLink "ReversibleParts" 96 yS_fewestMarks ∈ jTW := j_at 343 rfl rfl
theorem lkS_41 : Cond.methodLink "ReversibleParts$Steps" 41 yS_fewestThinkable ∈ jTW := j_at 347 rfl rfl
theorem lkS_45 : Cond.methodLink "ReversibleParts$Steps" 45 yS_movesWithin ∈ jTW := j_at 351 rfl rfl
theorem lkL_62 : Cond.methodLink "ReversiblePartsLaw" 62 yR_total ∈ jTW := j_at 352 rfl rfl
theorem lkR_99 : Cond.methodLink "ReversibleParts" 99 yS_count ∈ jTW := j_at 356 rfl rfl
theorem ckL_10 : Cond.classLink "ReversiblePartsLaw" 10 "ReversiblePartsModel" ∈ jTW := j_at 360 rfl rfl
theorem lkL_12 : Cond.methodLink "ReversiblePartsLaw" 12 yM_init ∈ jTW := j_at 362 rfl rfl
theorem lkM_1 : Cond.methodLink "ReversiblePartsModel" 1 Lib.objectInit ∈ jTW := j_at 365 rfl rfl
theorem lkM_45 : Cond.methodLink "ReversiblePartsModel" 45 yM_start ∈ jTW := j_at 367 rfl rfl
theorem fkM_53 : Cond.fieldLink "ReversiblePartsModel" 53 "ReversiblePartsModel" "thrown" "I" ∈ jTW := j_at 371 rfl rfl
theorem fkM_56 : Cond.fieldLink "ReversiblePartsModel" 56 "ReversiblePartsModel" "bits" "I" ∈ jTW := j_at 372 rfl rfl
theorem fkM_7 : Cond.fieldLink "ReversiblePartsModel" 7 "ReversiblePartsModel" "table" "[I" ∈ jTW := j_at 373 rfl rfl
theorem fkM_49 : Cond.fieldLink "ReversiblePartsModel" 49 "ReversiblePartsModel" "steps" "I" ∈ jTW := j_at 374 rfl rfl
theorem fkM_13 : Cond.fieldLink "ReversiblePartsModel" 13 "ReversiblePartsModel" "needs" "[I" ∈ jTW := j_at 375 rfl rfl
theorem fkM_16 : Cond.fieldLink "ReversiblePartsModel" 16 "ReversiblePartsModel" "work" "[I" ∈ jTW := j_at 376 rfl rfl
theorem fkM_19 : Cond.fieldLink "ReversiblePartsModel" 19 "ReversiblePartsModel" "made" "[I" ∈ jTW := j_at 377 rfl rfl
theorem fkM_71 : Cond.fieldLink "ReversiblePartsModel" 71 "ReversiblePartsModel" "many" "I" ∈ jTW := j_at 378 rfl rfl
theorem fkM_22 : Cond.fieldLink "ReversiblePartsModel" 22 "ReversiblePartsModel" "isKnown" "[Z" ∈ jTW := j_at 379 rfl rfl
theorem fkM_27 : Cond.fieldLink "ReversiblePartsModel" 27 "ReversiblePartsModel" "cost" "[I" ∈ jTW := j_at 380 rfl rfl
theorem fkM_30 : Cond.fieldLink "ReversiblePartsModel" 30 "ReversiblePartsModel" "functionOf" "[I" ∈ jTW := j_at 381 rfl rfl
theorem fkM_33 : Cond.fieldLink "ReversiblePartsModel" 33 "ReversiblePartsModel" "isCome" "[Z" ∈ jTW := j_at 382 rfl rfl
theorem fkM_36 : Cond.fieldLink "ReversiblePartsModel" 36 "ReversiblePartsModel" "queue" "[I" ∈ jTW := j_at 383 rfl rfl
theorem fkM_39 : Cond.fieldLink "ReversiblePartsModel" 39 "ReversiblePartsModel" "source" "[I" ∈ jTW := j_at 384 rfl rfl
theorem fkM_42 : Cond.fieldLink "ReversiblePartsModel" 42 "ReversiblePartsModel" "by" "[I" ∈ jTW := j_at 385 rfl rfl
theorem lkL_17 : Cond.methodLink "ReversiblePartsLaw" 17 yM_begin ∈ jTW := j_at 418 rfl rfl
theorem lkL_22 : Cond.methodLink "ReversiblePartsLaw" 22 yM_put ∈ jTW := j_at 422 rfl rfl
theorem lkM_63 : Cond.methodLink "ReversiblePartsModel" 63 yM_isValue ∈ jTW := j_at 426 rfl rfl
theorem lkM_59 : Cond.methodLink "ReversiblePartsModel" 59 yM_values ∈ jTW := j_at 430 rfl rfl
theorem lkL_26 : Cond.methodLink "ReversiblePartsLaw" 26 yM_apply ∈ jTW := j_at 434 rfl rfl
theorem lkM_67 : Cond.methodLink "ReversiblePartsModel" 67 yM_changed ∈ jTW := j_at 438 rfl rfl
theorem lkL_31 : Cond.methodLink "ReversiblePartsLaw" 31 yM_gate ∈ jTW := j_at 441 rfl rfl
theorem lkM_78 : Cond.methodLink "ReversiblePartsModel" 78 yM_isPermutation ∈ jTW := j_at 445 rfl rfl
theorem lkM_82 : Cond.methodLink "ReversiblePartsModel" 82 yM_findGates ∈ jTW := j_at 449 rfl rfl
theorem lkM_74 : Cond.methodLink "ReversiblePartsModel" 74 yM_doGate ∈ jTW := j_at 453 rfl rfl
theorem lkL_35 : Cond.methodLink "ReversiblePartsLaw" 35 yM_look ∈ jTW := j_at 457 rfl rfl
theorem lkL_40 : Cond.methodLink "ReversiblePartsLaw" 40 yM_form ∈ jTW := j_at 461 rfl rfl
theorem lkM_95 : Cond.methodLink "ReversiblePartsModel" 95 yM_functions ∈ jTW := j_at 465 rfl rfl
theorem lkM_101 : Cond.methodLink "ReversiblePartsModel" 101 yM_findCosts ∈ jTW := j_at 469 rfl rfl
theorem lkM_85 : Cond.methodLink "ReversiblePartsModel" 85 yM_products ∈ jTW := j_at 473 rfl rfl
theorem lkM_88 : Cond.methodLink "ReversiblePartsModel" 88 yM_productAt ∈ jTW := j_at 477 rfl rfl
theorem lkM_92 : Cond.methodLink "ReversiblePartsModel" 92 yM_functionFor ∈ jTW := j_at 481 rfl rfl
theorem lkM_98 : Cond.methodLink "ReversiblePartsModel" 98 yM_costAt ∈ jTW := j_at 485 rfl rfl
theorem lkL_44 : Cond.methodLink "ReversiblePartsLaw" 44 yM_product ∈ jTW := j_at 489 rfl rfl
theorem lkL_48 : Cond.methodLink "ReversiblePartsLaw" 48 yM_program ∈ jTW := j_at 493 rfl rfl
theorem lkL_52 : Cond.methodLink "ReversiblePartsLaw" 52 yM_need ∈ jTW := j_at 497 rfl rfl
theorem lkL_56 : Cond.methodLink "ReversiblePartsLaw" 56 yM_move ∈ jTW := j_at 501 rfl rfl
theorem lkM_107 : Cond.methodLink "ReversiblePartsModel" 107 yM_findEnd ∈ jTW := j_at 505 rfl rfl
theorem lkM_104 : Cond.methodLink "ReversiblePartsModel" 104 yM_count ∈ jTW := j_at 509 rfl rfl
theorem lkM_110 : Cond.methodLink "ReversiblePartsModel" 110 yM_lengthTo ∈ jTW := j_at 512 rfl rfl
theorem lkL_61 : Cond.methodLink "ReversiblePartsLaw" 61 yM_marks ∈ jTW := j_at 516 rfl rfl
theorem lkL_65 : Cond.methodLink "ReversiblePartsLaw" 65 yM_total ∈ jTW := j_at 520 rfl rfl
theorem kkF_15 : Cond.constantLong "ReversibleParts$Forms" 15 lN (281474976710656) ∈ jTW := j_at 80 rfl rfl
theorem kkF_43 : Cond.constantLong "ReversibleParts$Forms" 43 lN (1970324836974591) ∈ jTW := j_at 231 rfl rfl
theorem kkF_55 : Cond.constantLong "ReversibleParts$Forms" 55 lN (16513) ∈ jTW := j_at 238 rfl rfl
theorem kkF_57 : Cond.constantLong "ReversibleParts$Forms" 57 lN (281474976710655) ∈ jTW := j_at 239 rfl rfl
theorem kkJ_265 : Cond.constant "java/lang/Integer" 265 nI (1431655765) ∈ jTW := j_at 319 rfl rfl
theorem kkJ_266 : Cond.constant "java/lang/Integer" 266 nI (858993459) ∈ jTW := j_at 320 rfl rfl
theorem kkJ_267 : Cond.constant "java/lang/Integer" 267 nI (252645135) ∈ jTW := j_at 321 rfl rfl
theorem kkM_26 : Cond.constant "ReversiblePartsModel" 26 nI (65812) ∈ jTW := j_at 366 rfl rfl
theorem inR : Cond.instantiable "ReversibleParts" 3 ∈ jTW := j_at 41 rfl rfl
theorem inT : Cond.instantiable "ReversibleParts$Table" 6 ∈ jTW := j_at 49 rfl rfl
theorem inF : Cond.instantiable "ReversibleParts$Forms" 2 ∈ jTW := j_at 75 rfl rfl
theorem inS : Cond.instantiable "ReversibleParts$Steps" 7 ∈ jTW := j_at 90 rfl rfl
theorem inV : Cond.instantiable "ReversibleParts$Moves" 1 ∈ jTW := j_at 97 rfl rfl
theorem inM : Cond.instantiable "ReversiblePartsModel" 15 ∈ jTW := j_at 361 rfl rfl
theorem itL : Cond.initialized "ReversiblePartsLaw" ∈ jTW := j_at 30 rfl rfl
theorem itR : Cond.initialized "ReversibleParts" ∈ jTW := j_at 31 rfl rfl
theorem itT : Cond.initialized "ReversibleParts$Table" ∈ jTW := j_at 32 rfl rfl
theorem itF : Cond.initialized "ReversibleParts$Forms" ∈ jTW := j_at 33 rfl rfl
theorem itS : Cond.initialized "ReversibleParts$Steps" ∈ jTW := j_at 34 rfl rfl
theorem itV : Cond.initialized "ReversibleParts$Moves" ∈ jTW := j_at 35 rfl rfl
theorem itM : Cond.initialized "ReversiblePartsModel" ∈ jTW := j_at 36 rfl rfl
theorem itP : Cond.initialized "ReversibleParts$Products" ∈ jTW := j_at 37 rfl rfl
theorem k_MathI : Cond.initialized "java/lang/Math" ∈ jTW := j_at 38 rfl rfl
theorem itJ : Cond.initialized "java/lang/Integer" ∈ jTW := j_at 39 rfl rfl
theorem ar_int : Cond.arrayClass .int ∈ jTW := j_at 73 rfl rfl
theorem ar_long : Cond.arrayClass .long ∈ jTW := j_at 88 rfl rfl
theorem ar_boolean : Cond.arrayClass .boolean ∈ jTW := j_at 417 rfl rfl
theorem ar_over : Cond.arrayOver (.object "ReversibleParts$Moves") ∈ jTW := j_at 96 rfl rfl
theorem hinF : ∀ w ∈ u_ws RF TF 2, w ∈ jTW := by decide +kernel
theorem hinV : ∀ w ∈ u_ws RV TV 1, w ∈ jTW := by decide +kernel
theorem hinS : ∀ w ∈ u_ws RS TS 7, w ∈ jTW := by decide +kernel
theorem hinT : ∀ w ∈ u_ws RT TT 6, w ∈ jTW := by decide +kernel
theorem hinR : ∀ w ∈ u_ws RR TR 3, w ∈ jTW := by decide +kernel
theorem hinM : ∀ w ∈ u_ws RM TM 15, w ∈ jTW := by decide +kernel
theorem mmR_init : jM yR_init bR_init 0 1 none (.instanceMethod yR_init) := ⟨j_at 43 rfl rfl, itR, j_at 44 rfl rfl, by decide, by decide, by decide +kernel⟩
theorem k_objI : Cond.instanceMethod Lib.objectInit ∈ jTW := j_at 46 rfl rfl
theorem k_objC : Cond.code Lib.objectInit ⟨#[0xb1]⟩ 1 none ∈ jTW := j_at 47 rfl rfl
theorem mmT_init : jM yT_init bT_init 0 2 none (.instanceMethod yT_init) := ⟨j_at 51 rfl rfl, itT, j_at 52 rfl rfl, by decide, by decide, by decide +kernel⟩
theorem mmF_init : jM yF_init bF_init 0 1 none (.instanceMethod yF_init) := ⟨j_at 77 rfl rfl, itF, j_at 78 rfl rfl, by decide, by decide, by decide +kernel⟩
theorem mmS_init : jM yS_init bS_init 0 1 none (.instanceMethod yS_init) := ⟨j_at 92 rfl rfl, itS, j_at 93 rfl rfl, by decide, by decide, by decide +kernel⟩
theorem mmV_init : jM yV_init bV_init 1 2 none (.instanceMethod yV_init) := ⟨j_at 99 rfl rfl, itV, j_at 100 rfl rfl, by decide, by decide, by decide +kernel⟩
theorem mmR_begin : jM yR_begin bR_begin 1 2 (some .boolean) (.instanceMethod yR_begin) := ⟨j_at 139 rfl rfl, itR, j_at 141 rfl rfl, by decide, by decide, by decide +kernel⟩
theorem msR_begin : Cond.selects yR_begin.cls yR_begin yR_begin ∈ jTW := j_at 140 rfl rfl
theorem mmT_startWith : jM yT_startWith bT_startWith 1 3 (some .boolean) (.instanceMethod yT_startWith) := ⟨j_at 143 rfl rfl, itT, j_at 145 rfl rfl, by decide, by decide, by decide +kernel⟩
theorem msT_startWith : Cond.selects yT_startWith.cls yT_startWith yT_startWith ∈ jTW := j_at 144 rfl rfl
theorem mmR_put : jM yR_put bR_put 2 3 (some .boolean) (.instanceMethod yR_put) := ⟨j_at 147 rfl rfl, itR, j_at 149 rfl rfl, by decide, by decide, by decide +kernel⟩
theorem msR_put : Cond.selects yR_put.cls yR_put yR_put ∈ jTW := j_at 148 rfl rfl
theorem mmT_set : jM yT_set bT_set 2 3 (some .boolean) (.instanceMethod yT_set) := ⟨j_at 151 rfl rfl, itT, j_at 153 rfl rfl, by decide, by decide, by decide +kernel⟩
theorem msT_set : Cond.selects yT_set.cls yT_set yT_set ∈ jTW := j_at 152 rfl rfl
theorem mmT_hasValue : jM yT_hasValue bT_hasValue 1 2 (some .boolean) (.instanceMethod yT_hasValue) := ⟨j_at 156 rfl rfl, itT, j_at 157 rfl rfl, by decide, by decide, by decide +kernel⟩
theorem msT_hasValue : Cond.selects yT_hasValue.cls yT_hasValue yT_hasValue ∈ jTW := j_at 0 rfl rfl
theorem mmR_apply : jM yR_apply bR_apply 1 2 (some .boolean) (.instanceMethod yR_apply) := ⟨j_at 159 rfl rfl, itR, j_at 161 rfl rfl, by decide, by decide, by decide +kernel⟩
theorem msR_apply : Cond.selects yR_apply.cls yR_apply yR_apply ∈ jTW := j_at 160 rfl rfl
theorem mmT_change : jM yT_change bT_change 1 2 (some .boolean) (.instanceMethod yT_change) := ⟨j_at 163 rfl rfl, itT, j_at 165 rfl rfl, by decide, by decide, by decide +kernel⟩
theorem msT_change : Cond.selects yT_change.cls yT_change yT_change ∈ jTW := j_at 164 rfl rfl
theorem mmT_hasGate : jM yT_hasGate bT_hasGate 1 4 (some .boolean) (.instanceMethod yT_hasGate) := ⟨j_at 168 rfl rfl, itT, j_at 169 rfl rfl, by decide, by decide, by decide +kernel⟩
theorem msT_hasGate : Cond.selects yT_hasGate.cls yT_hasGate yT_hasGate ∈ jTW := j_at 1 rfl rfl
theorem mmT_changeAll : jM yT_changeAll bT_changeAll 2 6 none (.instanceMethod yT_changeAll) := ⟨j_at 172 rfl rfl, itT, j_at 173 rfl rfl, by decide, by decide, by decide +kernel⟩
theorem msT_changeAll : Cond.selects yT_changeAll.cls yT_changeAll yT_changeAll ∈ jTW := j_at 2 rfl rfl
theorem mmR_gate : jM yR_gate bR_gate 1 3 (some .int) (.instanceMethod yR_gate) := ⟨j_at 175 rfl rfl, itR, j_at 177 rfl rfl, by decide, by decide, by decide +kernel⟩
theorem msR_gate : Cond.selects yR_gate.cls yR_gate yR_gate ∈ jTW := j_at 176 rfl rfl
theorem mmT_isPermutation : jM yT_isPermutation bT_isPermutation 0 3 (some .boolean) (.instanceMethod yT_isPermutation) := ⟨j_at 179 rfl rfl, itT, j_at 181 rfl rfl, by decide, by decide, by decide +kernel⟩
theorem msT_isPermutation : Cond.selects yT_isPermutation.cls yT_isPermutation yT_isPermutation ∈ jTW := j_at 180 rfl rfl
theorem mmT_findGates : jM yT_findGates bT_findGates 0 2 (some .int) (.instanceMethod yT_findGates) := ⟨j_at 183 rfl rfl, itT, j_at 185 rfl rfl, by decide, by decide, by decide +kernel⟩
theorem msT_findGates : Cond.selects yT_findGates.cls yT_findGates yT_findGates ∈ jTW := j_at 184 rfl rfl
theorem mmT_settleRow : jM yT_settleRow bT_settleRow 1 3 none (.instanceMethod yT_settleRow) := ⟨j_at 188 rfl rfl, itT, j_at 189 rfl rfl, by decide, by decide, by decide +kernel⟩
theorem msT_settleRow : Cond.selects yT_settleRow.cls yT_settleRow yT_settleRow ∈ jTW := j_at 3 rfl rfl
theorem mmT_useGate : jM yT_useGate bT_useGate 1 2 none (.instanceMethod yT_useGate) := ⟨j_at 192 rfl rfl, itT, j_at 193 rfl rfl, by decide, by decide, by decide +kernel⟩
theorem msT_useGate : Cond.selects yT_useGate.cls yT_useGate yT_useGate ∈ jTW := j_at 4 rfl rfl
theorem mmT_foundFromLast : jM yT_foundFromLast bT_foundFromLast 1 2 (some .int) (.instanceMethod yT_foundFromLast) := ⟨j_at 195 rfl rfl, itT, j_at 197 rfl rfl, by decide, by decide, by decide +kernel⟩
theorem msT_foundFromLast : Cond.selects yT_foundFromLast.cls yT_foundFromLast yT_foundFromLast ∈ jTW := j_at 196 rfl rfl
theorem mmR_look : jM yR_look bR_look 1 2 (some .int) (.instanceMethod yR_look) := ⟨j_at 199 rfl rfl, itR, j_at 201 rfl rfl, by decide, by decide, by decide +kernel⟩
theorem msR_look : Cond.selects yR_look.cls yR_look yR_look ∈ jTW := j_at 200 rfl rfl
theorem mmT_get : jM yT_get bT_get 1 2 (some .int) (.instanceMethod yT_get) := ⟨j_at 203 rfl rfl, itT, j_at 205 rfl rfl, by decide, by decide, by decide +kernel⟩
theorem msT_get : Cond.selects yT_get.cls yT_get yT_get ∈ jTW := j_at 204 rfl rfl
theorem mmR_form : jM yR_form bR_form 2 6 (some .int) (.instanceMethod yR_form) := ⟨j_at 207 rfl rfl, itR, j_at 209 rfl rfl, by decide, by decide, by decide +kernel⟩
theorem msR_form : Cond.selects yR_form.cls yR_form yR_form ∈ jTW := j_at 208 rfl rfl
theorem mmT_bitCount : jM yT_bitCount bT_bitCount 0 1 (some .int) (.instanceMethod yT_bitCount) := ⟨j_at 211 rfl rfl, itT, j_at 213 rfl rfl, by decide, by decide, by decide +kernel⟩
theorem msT_bitCount : Cond.selects yT_bitCount.cls yT_bitCount yT_bitCount ∈ jTW := j_at 212 rfl rfl
theorem mmF_least : jM yF_least bF_least 2 4 (some .long) (.instanceMethod yF_least) := ⟨j_at 215 rfl rfl, itF, j_at 217 rfl rfl, by decide, by decide, by decide +kernel⟩
theorem msF_least : Cond.selects yF_least.cls yF_least yF_least ∈ jTW := j_at 216 rfl rfl
theorem mmF_fillLevel : jM yF_fillLevel bF_fillLevel 1 4 none (.instanceMethod yF_fillLevel) := ⟨j_at 220 rfl rfl, itF, j_at 221 rfl rfl, by decide, by decide, by decide +kernel⟩
theorem msF_fillLevel : Cond.selects yF_fillLevel.cls yF_fillLevel yF_fillLevel ∈ jTW := j_at 5 rfl rfl
theorem mmF_leastFrom : jM yF_leastFrom bF_leastFrom 2 20 (some .long) (.instanceMethod yF_leastFrom) := ⟨j_at 226 rfl rfl, itF, j_at 227 rfl rfl, by decide, by decide, by decide +kernel⟩
theorem msF_leastFrom : Cond.selects yF_leastFrom.cls yF_leastFrom yF_leastFrom ∈ jTW := j_at 6 rfl rfl
theorem mmP_count : jM yP_count bP_count 1 3 (some .int) (.static yP_count) := ⟨j_at 229 rfl rfl, itP, j_at 230 rfl rfl, by decide, by decide, by decide +kernel⟩
theorem mmF_sizeOf : jM yF_sizeOf bF_sizeOf 1 2 (some .int) (.static yF_sizeOf) := ⟨j_at 233 rfl rfl, itF, j_at 234 rfl rfl, by decide, by decide, by decide +kernel⟩
theorem mmF_join : jM yF_join bF_join 3 11 (some .long) (.static yF_join) := ⟨j_at 236 rfl rfl, itF, j_at 237 rfl rfl, by decide, by decide, by decide +kernel⟩
theorem k_mminLS : Cond.static Lib.MathLoose.min_long.x ∈ jTW := j_at 241 rfl rfl
theorem k_mminLC : Cond.code Lib.MathLoose.min_long.x Lib.MathLoose.min_long.code 4 (some .long) ∈ jTW := j_at 242 rfl rfl
theorem mmF_numberAt : jM yF_numberAt bF_numberAt 2 4 (some .int) (.static yF_numberAt) := ⟨j_at 245 rfl rfl, itF, j_at 246 rfl rfl, by decide, by decide, by decide +kernel⟩
theorem mmR_product : jM yR_product bR_product 1 3 (some .int) (.instanceMethod yR_product) := ⟨j_at 248 rfl rfl, itR, j_at 250 rfl rfl, by decide, by decide, by decide +kernel⟩
theorem msR_product : Cond.selects yR_product.cls yR_product yR_product ∈ jTW := j_at 249 rfl rfl
theorem mmP_function : jM yP_function bP_function 2 4 (some .int) (.static yP_function) := ⟨j_at 253 rfl rfl, itP, j_at 254 rfl rfl, by decide, by decide, by decide +kernel⟩
theorem mmP_holds : jM yP_holds bP_holds 3 7 (some .boolean) (.static yP_holds) := ⟨j_at 256 rfl rfl, itP, j_at 257 rfl rfl, by decide, by decide, by decide +kernel⟩
theorem mmR_program : jM yR_program bR_program 1 2 (some .boolean) (.instanceMethod yR_program) := ⟨j_at 259 rfl rfl, itR, j_at 261 rfl rfl, by decide, by decide, by decide +kernel⟩
theorem msR_program : Cond.selects yR_program.cls yR_program yR_program ∈ jTW := j_at 260 rfl rfl
theorem mmS_startWith : jM yS_startWith bS_startWith 1 3 (some .boolean) (.instanceMethod yS_startWith) := ⟨j_at 263 rfl rfl, itS, j_at 265 rfl rfl, by decide, by decide, by decide +kernel⟩
theorem msS_startWith : Cond.selects yS_startWith.cls yS_startWith yS_startWith ∈ jTW := j_at 264 rfl rfl
theorem mmS_forget : jM yS_forget bS_forget 0 2 none (.instanceMethod yS_forget) := ⟨j_at 268 rfl rfl, itS, j_at 269 rfl rfl, by decide, by decide, by decide +kernel⟩
theorem msS_forget : Cond.selects yS_forget.cls yS_forget yS_forget ∈ jTW := j_at 7 rfl rfl
theorem mmR_need : jM yR_need bR_need 2 3 (some .boolean) (.instanceMethod yR_need) := ⟨j_at 271 rfl rfl, itR, j_at 273 rfl rfl, by decide, by decide, by decide +kernel⟩
theorem msR_need : Cond.selects yR_need.cls yR_need yR_need ∈ jTW := j_at 272 rfl rfl
theorem mmS_setNeeds : jM yS_setNeeds bS_setNeeds 2 3 (some .boolean) (.instanceMethod yS_setNeeds) := ⟨j_at 275 rfl rfl, itS, j_at 277 rfl rfl, by decide, by decide, by decide +kernel⟩
theorem msS_setNeeds : Cond.selects yS_setNeeds.cls yS_setNeeds yS_setNeeds ∈ jTW := j_at 276 rfl rfl
theorem mmR_move : jM yR_move bR_move 2 4 (some .int) (.instanceMethod yR_move) := ⟨j_at 279 rfl rfl, itR, j_at 281 rfl rfl, by decide, by decide, by decide +kernel⟩
theorem msR_move : Cond.selects yR_move.cls yR_move yR_move ∈ jTW := j_at 280 rfl rfl
theorem mmS_movesWithin : jM yS_movesWithin bS_movesWithin 1 4 (some (.object "ReversibleParts$Moves")) (.instanceMethod yS_movesWithin) := ⟨j_at 283 rfl rfl, itS, j_at 285 rfl rfl, by decide, by decide, by decide +kernel⟩
theorem msS_movesWithin : Cond.selects yS_movesWithin.cls yS_movesWithin yS_movesWithin ∈ jTW := j_at 284 rfl rfl
theorem k_mminS : Cond.static Lib.Math.min.name ∈ jTW := j_at 287 rfl rfl
theorem k_mminC : Cond.code Lib.Math.min.name Lib.Math.min.code 2 (some .int) ∈ jTW := j_at 288 rfl rfl
theorem k_mmaxS : Cond.static Lib.Math.max.name ∈ jTW := j_at 290 rfl rfl
theorem k_mmaxC : Cond.code Lib.Math.max.name Lib.Math.max.code 2 (some .int) ∈ jTW := j_at 291 rfl rfl
theorem mmS_search : jM yS_search bS_search 1 7 (some (.object "ReversibleParts$Moves")) (.instanceMethod yS_search) := ⟨j_at 294 rfl rfl, itS, j_at 295 rfl rfl, by decide, by decide, by decide +kernel⟩
theorem msS_search : Cond.selects yS_search.cls yS_search yS_search ∈ jTW := j_at 8 rfl rfl
theorem mmS_makeRoom : jM yS_makeRoom bS_makeRoom 0 2 none (.instanceMethod yS_makeRoom) := ⟨j_at 298 rfl rfl, itS, j_at 299 rfl rfl, by decide, by decide, by decide +kernel⟩
theorem msS_makeRoom : Cond.selects yS_makeRoom.cls yS_makeRoom yS_makeRoom ∈ jTW := j_at 9 rfl rfl
theorem mmS_wantedSteps : jM yS_wantedSteps bS_wantedSteps 0 3 (some .int) (.instanceMethod yS_wantedSteps) := ⟨j_at 302 rfl rfl, itS, j_at 303 rfl rfl, by decide, by decide, by decide +kernel⟩
theorem msS_wantedSteps : Cond.selects yS_wantedSteps.cls yS_wantedSteps yS_wantedSteps ∈ jTW := j_at 10 rfl rfl
theorem mmS_spreadFromGoal : jM yS_spreadFromGoal bS_spreadFromGoal 2 4 none (.instanceMethod yS_spreadFromGoal) := ⟨j_at 306 rfl rfl, itS, j_at 307 rfl rfl, by decide, by decide, by decide +kernel⟩
theorem msS_spreadFromGoal : Cond.selects yS_spreadFromGoal.cls yS_spreadFromGoal yS_spreadFromGoal ∈ jTW := j_at 11 rfl rfl
theorem mmS_enter : jM yS_enter bS_enter 2 3 none (.instanceMethod yS_enter) := ⟨j_at 310 rfl rfl, itS, j_at 311 rfl rfl, by decide, by decide, by decide +kernel⟩
theorem msS_enter : Cond.selects yS_enter.cls yS_enter yS_enter ∈ jTW := j_at 12 rfl rfl
theorem mmS_spreadFrom : jM yS_spreadFrom bS_spreadFrom 3 9 none (.instanceMethod yS_spreadFrom) := ⟨j_at 314 rfl rfl, itS, j_at 315 rfl rfl, by decide, by decide, by decide +kernel⟩
theorem msS_spreadFrom : Cond.selects yS_spreadFrom.cls yS_spreadFrom yS_spreadFrom ∈ jTW := j_at 13 rfl rfl
theorem mmJ_bitCount : jM yJ_bitCount bJ_bitCount 1 1 (some .int) (.static yJ_bitCount) := ⟨j_at 317 rfl rfl, itJ, j_at 318 rfl rfl, by decide, by decide, by decide +kernel⟩
theorem mmV_length : jM yV_length bV_length 0 1 (some .int) (.instanceMethod yV_length) := ⟨j_at 323 rfl rfl, itV, j_at 325 rfl rfl, by decide, by decide, by decide +kernel⟩
theorem msV_length : Cond.selects yV_length.cls yV_length yV_length ∈ jTW := j_at 324 rfl rfl
theorem mmS_firstStepNearer : jM yS_firstStepNearer bS_firstStepNearer 1 5 (some .int) (.instanceMethod yS_firstStepNearer) := ⟨j_at 328 rfl rfl, itS, j_at 329 rfl rfl, by decide, by decide, by decide +kernel⟩
theorem msS_firstStepNearer : Cond.selects yS_firstStepNearer.cls yS_firstStepNearer yS_firstStepNearer ∈ jTW := j_at 14 rfl rfl
theorem mmV_set : jM yV_set bV_set 2 3 none (.instanceMethod yV_set) := ⟨j_at 331 rfl rfl, itV, j_at 333 rfl rfl, by decide, by decide, by decide +kernel⟩
theorem msV_set : Cond.selects yV_set.cls yV_set yV_set ∈ jTW := j_at 332 rfl rfl
theorem mmV_at : jM yV_at bV_at 1 2 (some .int) (.instanceMethod yV_at) := ⟨j_at 336 rfl rfl, itV, j_at 338 rfl rfl, by decide, by decide, by decide +kernel⟩
theorem msV_at : Cond.selects yV_at.cls yV_at yV_at ∈ jTW := j_at 337 rfl rfl
theorem mmR_marks : jM yR_marks bR_marks 0 1 (some .int) (.instanceMethod yR_marks) := ⟨j_at 340 rfl rfl, itR, j_at 342 rfl rfl, by decide, by decide, by decide +kernel⟩
theorem msR_marks : Cond.selects yR_marks.cls yR_marks yR_marks ∈ jTW := j_at 341 rfl rfl
theorem mmS_fewestMarks : jM yS_fewestMarks bS_fewestMarks 0 2 (some .int) (.instanceMethod yS_fewestMarks) := ⟨j_at 344 rfl rfl, itS, j_at 346 rfl rfl, by decide, by decide, by decide +kernel⟩
theorem msS_fewestMarks : Cond.selects yS_fewestMarks.cls yS_fewestMarks yS_fewestMarks ∈ jTW := j_at 345 rfl rfl
theorem mmS_fewestThinkable : jM yS_fewestThinkable bS_fewestThinkable 0 4 (some .int) (.instanceMethod yS_fewestThinkable) := ⟨j_at 349 rfl rfl, itS, j_at 350 rfl rfl, by decide, by decide, by decide +kernel⟩
theorem msS_fewestThinkable : Cond.selects yS_fewestThinkable.cls yS_fewestThinkable yS_fewestThinkable ∈ jTW := j_at 15 rfl rfl
theorem mmR_total : jM yR_total bR_total 1 2 (some .int) (.instanceMethod yR_total) := ⟨j_at 353 rfl rfl, itR, j_at 355 rfl rfl, by decide, by decide, by decide +kernel⟩
theorem msR_total : Cond.selects yR_total.cls yR_total yR_total ∈ jTW := j_at 354 rfl rfl
theorem mmS_count : jM yS_count bS_count 0 1 (some .int) (.instanceMethod yS_count) := ⟨j_at 357 rfl rfl, itS, j_at 359 rfl rfl, by decide, by decide, by decide +kernel⟩
theorem msS_count : Cond.selects yS_count.cls yS_count yS_count ∈ jTW := j_at 358 rfl rfl
theorem mmM_init : jM yM_init bM_init 0 1 none (.instanceMethod yM_init) := ⟨j_at 363 rfl rfl, itM, j_at 364 rfl rfl, by decide, by decide, by decide +kernel⟩
theorem mmM_start : jM yM_start bM_start 1 3 none (.instanceMethod yM_start) := ⟨j_at 369 rfl rfl, itM, j_at 370 rfl rfl, by decide, by decide, by decide +kernel⟩
theorem msM_start : Cond.selects yM_start.cls yM_start yM_start ∈ jTW := j_at 16 rfl rfl
theorem mmM_begin : jM yM_begin bM_begin 1 2 (some .boolean) (.instanceMethod yM_begin) := ⟨j_at 419 rfl rfl, itM, j_at 421 rfl rfl, by decide, by decide, by decide +kernel⟩
theorem msM_begin : Cond.selects yM_begin.cls yM_begin yM_begin ∈ jTW := j_at 420 rfl rfl
theorem mmM_put : jM yM_put bM_put 2 3 (some .boolean) (.instanceMethod yM_put) := ⟨j_at 423 rfl rfl, itM, j_at 425 rfl rfl, by decide, by decide, by decide +kernel⟩
theorem msM_put : Cond.selects yM_put.cls yM_put yM_put ∈ jTW := j_at 424 rfl rfl
theorem mmM_isValue : jM yM_isValue bM_isValue 1 2 (some .boolean) (.instanceMethod yM_isValue) := ⟨j_at 428 rfl rfl, itM, j_at 429 rfl rfl, by decide, by decide, by decide +kernel⟩
theorem msM_isValue : Cond.selects yM_isValue.cls yM_isValue yM_isValue ∈ jTW := j_at 17 rfl rfl
theorem mmM_values : jM yM_values bM_values 0 1 (some .int) (.instanceMethod yM_values) := ⟨j_at 432 rfl rfl, itM, j_at 433 rfl rfl, by decide, by decide, by decide +kernel⟩
theorem msM_values : Cond.selects yM_values.cls yM_values yM_values ∈ jTW := j_at 18 rfl rfl
theorem mmM_apply : jM yM_apply bM_apply 1 5 (some .boolean) (.instanceMethod yM_apply) := ⟨j_at 435 rfl rfl, itM, j_at 437 rfl rfl, by decide, by decide, by decide +kernel⟩
theorem msM_apply : Cond.selects yM_apply.cls yM_apply yM_apply ∈ jTW := j_at 436 rfl rfl
theorem mmM_changed : jM yM_changed bM_changed 3 3 (some .int) (.static yM_changed) := ⟨j_at 439 rfl rfl, itM, j_at 440 rfl rfl, by decide, by decide, by decide +kernel⟩
theorem mmM_gate : jM yM_gate bM_gate 1 2 (some .int) (.instanceMethod yM_gate) := ⟨j_at 442 rfl rfl, itM, j_at 444 rfl rfl, by decide, by decide, by decide +kernel⟩
theorem msM_gate : Cond.selects yM_gate.cls yM_gate yM_gate ∈ jTW := j_at 443 rfl rfl
theorem mmM_isPermutation : jM yM_isPermutation bM_isPermutation 0 3 (some .boolean) (.instanceMethod yM_isPermutation) := ⟨j_at 447 rfl rfl, itM, j_at 448 rfl rfl, by decide, by decide, by decide +kernel⟩
theorem msM_isPermutation : Cond.selects yM_isPermutation.cls yM_isPermutation yM_isPermutation ∈ jTW := j_at 19 rfl rfl
theorem mmM_findGates : jM yM_findGates bM_findGates 0 3 none (.instanceMethod yM_findGates) := ⟨j_at 451 rfl rfl, itM, j_at 452 rfl rfl, by decide, by decide, by decide +kernel⟩
theorem msM_findGates : Cond.selects yM_findGates.cls yM_findGates yM_findGates ∈ jTW := j_at 20 rfl rfl
theorem mmM_doGate : jM yM_doGate bM_doGate 2 4 none (.instanceMethod yM_doGate) := ⟨j_at 455 rfl rfl, itM, j_at 456 rfl rfl, by decide, by decide, by decide +kernel⟩
theorem msM_doGate : Cond.selects yM_doGate.cls yM_doGate yM_doGate ∈ jTW := j_at 21 rfl rfl
theorem mmM_look : jM yM_look bM_look 1 2 (some .int) (.instanceMethod yM_look) := ⟨j_at 458 rfl rfl, itM, j_at 460 rfl rfl, by decide, by decide, by decide +kernel⟩
theorem msM_look : Cond.selects yM_look.cls yM_look yM_look ∈ jTW := j_at 459 rfl rfl
theorem mmM_form : jM yM_form bM_form 2 6 (some .int) (.instanceMethod yM_form) := ⟨j_at 462 rfl rfl, itM, j_at 464 rfl rfl, by decide, by decide, by decide +kernel⟩
theorem msM_form : Cond.selects yM_form.cls yM_form yM_form ∈ jTW := j_at 463 rfl rfl
theorem mmM_functions : jM yM_functions bM_functions 0 1 (some .int) (.instanceMethod yM_functions) := ⟨j_at 467 rfl rfl, itM, j_at 468 rfl rfl, by decide, by decide, by decide +kernel⟩
theorem msM_functions : Cond.selects yM_functions.cls yM_functions yM_functions ∈ jTW := j_at 22 rfl rfl
theorem mmM_findCosts : jM yM_findCosts bM_findCosts 0 6 none (.instanceMethod yM_findCosts) := ⟨j_at 471 rfl rfl, itM, j_at 472 rfl rfl, by decide, by decide, by decide +kernel⟩
theorem msM_findCosts : Cond.selects yM_findCosts.cls yM_findCosts yM_findCosts ∈ jTW := j_at 23 rfl rfl
theorem mmM_products : jM yM_products bM_products 0 3 (some .int) (.instanceMethod yM_products) := ⟨j_at 475 rfl rfl, itM, j_at 476 rfl rfl, by decide, by decide, by decide +kernel⟩
theorem msM_products : Cond.selects yM_products.cls yM_products yM_products ∈ jTW := j_at 24 rfl rfl
theorem mmM_productAt : jM yM_productAt bM_productAt 1 2 (some .int) (.instanceMethod yM_productAt) := ⟨j_at 479 rfl rfl, itM, j_at 480 rfl rfl, by decide, by decide, by decide +kernel⟩
theorem msM_productAt : Cond.selects yM_productAt.cls yM_productAt yM_productAt ∈ jTW := j_at 25 rfl rfl
theorem mmM_functionFor : jM yM_functionFor bM_functionFor 1 8 (some .int) (.instanceMethod yM_functionFor) := ⟨j_at 483 rfl rfl, itM, j_at 484 rfl rfl, by decide, by decide, by decide +kernel⟩
theorem msM_functionFor : Cond.selects yM_functionFor.cls yM_functionFor yM_functionFor ∈ jTW := j_at 26 rfl rfl
theorem mmM_costAt : jM yM_costAt bM_costAt 1 2 (some .int) (.instanceMethod yM_costAt) := ⟨j_at 487 rfl rfl, itM, j_at 488 rfl rfl, by decide, by decide, by decide +kernel⟩
theorem msM_costAt : Cond.selects yM_costAt.cls yM_costAt yM_costAt ∈ jTW := j_at 27 rfl rfl
theorem mmM_product : jM yM_product bM_product 1 2 (some .int) (.instanceMethod yM_product) := ⟨j_at 490 rfl rfl, itM, j_at 492 rfl rfl, by decide, by decide, by decide +kernel⟩
theorem msM_product : Cond.selects yM_product.cls yM_product yM_product ∈ jTW := j_at 491 rfl rfl
theorem mmM_program : jM yM_program bM_program 1 3 (some .boolean) (.instanceMethod yM_program) := ⟨j_at 494 rfl rfl, itM, j_at 496 rfl rfl, by decide, by decide, by decide +kernel⟩
theorem msM_program : Cond.selects yM_program.cls yM_program yM_program ∈ jTW := j_at 495 rfl rfl
theorem mmM_need : jM yM_need bM_need 2 3 (some .boolean) (.instanceMethod yM_need) := ⟨j_at 498 rfl rfl, itM, j_at 500 rfl rfl, by decide, by decide, by decide +kernel⟩
theorem msM_need : Cond.selects yM_need.cls yM_need yM_need ∈ jTW := j_at 499 rfl rfl
theorem mmM_move : jM yM_move bM_move 2 7 (some .int) (.instanceMethod yM_move) := ⟨j_at 502 rfl rfl, itM, j_at 504 rfl rfl, by decide, by decide, by decide +kernel⟩
theorem msM_move : Cond.selects yM_move.cls yM_move yM_move ∈ jTW := j_at 503 rfl rfl
theorem mmM_findEnd : jM yM_findEnd bM_findEnd 1 7 (some .int) (.instanceMethod yM_findEnd) := ⟨j_at 507 rfl rfl, itM, j_at 508 rfl rfl, by decide, by decide, by decide +kernel⟩
theorem msM_findEnd : Cond.selects yM_findEnd.cls yM_findEnd yM_findEnd ∈ jTW := j_at 28 rfl rfl
theorem mmM_count : jM yM_count bM_count 1 3 (some .int) (.static yM_count) := ⟨j_at 510 rfl rfl, itM, j_at 511 rfl rfl, by decide, by decide, by decide +kernel⟩
theorem mmM_lengthTo : jM yM_lengthTo bM_lengthTo 1 4 (some .int) (.instanceMethod yM_lengthTo) := ⟨j_at 514 rfl rfl, itM, j_at 515 rfl rfl, by decide, by decide, by decide +kernel⟩
theorem msM_lengthTo : Cond.selects yM_lengthTo.cls yM_lengthTo yM_lengthTo ∈ jTW := j_at 29 rfl rfl
theorem mmM_marks : jM yM_marks bM_marks 0 2 (some .int) (.instanceMethod yM_marks) := ⟨j_at 517 rfl rfl, itM, j_at 519 rfl rfl, by decide, by decide, by decide +kernel⟩
theorem msM_marks : Cond.selects yM_marks.cls yM_marks yM_marks ∈ jTW := j_at 518 rfl rfl
theorem mmM_total : jM yM_total bM_total 1 2 (some .int) (.instanceMethod yM_total) := ⟨j_at 521 rfl rfl, itM, j_at 523 rfl rfl, by decide, by decide, by decide +kernel⟩
theorem msM_total : Cond.selects yM_total.cls yM_total yM_total ∈ jTW := j_at 522 rfl rfl
end
