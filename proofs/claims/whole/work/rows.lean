section
-- ===== PART A: goes FIRST, ahead of the names: the tables' words, and 'selects' of the private methods out of them =====
/-- a private method of a class that the tables say can be made, by its rows of tables_1 -/
def lw_okq (q : MethodName × Nat) : Prop := (q.1.cls ≠ "java/lang/invoke/MethodHandle" ∧ q.1.cls ≠ "java/lang/invoke/VarHandle") ∧ Cond.instantiable q.1.cls q.2 ∈ tables_1 ∧ Cond.privateMethod q.1 ∈ tables_1 ∧ Cond.instanceMethod q.1 ∈ tables_1
theorem lw_p0 : lw_okq (⟨"BranchingText", "makeChild", "(ZI[C)I"⟩, 8) := ⟨⟨by decide +kernel, by decide +kernel⟩, List.mem_of_getElem? (i := 8) (by decide +kernel), List.mem_of_getElem? (i := 150) (by decide +kernel), List.mem_of_getElem? (i := 151) (by decide +kernel)⟩
theorem lw_p1 : lw_okq (⟨"BranchingText", "stepOnTo", "(LBranchingText$Version;)V"⟩, 8) := ⟨⟨by decide +kernel, by decide +kernel⟩, List.mem_of_getElem? (i := 8) (by decide +kernel), List.mem_of_getElem? (i := 154) (by decide +kernel), List.mem_of_getElem? (i := 155) (by decide +kernel)⟩
theorem lw_p2 : lw_okq (⟨"BranchingText", "putIn", "(I[C)V"⟩, 8) := ⟨⟨by decide +kernel, by decide +kernel⟩, List.mem_of_getElem? (i := 8) (by decide +kernel), List.mem_of_getElem? (i := 158) (by decide +kernel), List.mem_of_getElem? (i := 159) (by decide +kernel)⟩
theorem lw_p3 : lw_okq (⟨"BranchingText", "takeOut", "(II)V"⟩, 8) := ⟨⟨by decide +kernel, by decide +kernel⟩, List.mem_of_getElem? (i := 8) (by decide +kernel), List.mem_of_getElem? (i := 170) (by decide +kernel), List.mem_of_getElem? (i := 171) (by decide +kernel)⟩
theorem lw_p4 : lw_okq (⟨"BranchingText", "stepBackTo", "(LBranchingText$Version;)V"⟩, 8) := ⟨⟨by decide +kernel, by decide +kernel⟩, List.mem_of_getElem? (i := 8) (by decide +kernel), List.mem_of_getElem? (i := 190) (by decide +kernel), List.mem_of_getElem? (i := 191) (by decide +kernel)⟩
theorem lw_p5 : lw_okq (⟨"BranchingText", "numbered", "(I)LBranchingText$Version;"⟩, 8) := ⟨⟨by decide +kernel, by decide +kernel⟩, List.mem_of_getElem? (i := 8) (by decide +kernel), List.mem_of_getElem? (i := 202) (by decide +kernel), List.mem_of_getElem? (i := 203) (by decide +kernel)⟩
theorem lw_p6 : lw_okq (⟨"BranchingText", "stepAlongWay", "(I)V"⟩, 8) := ⟨⟨by decide +kernel, by decide +kernel⟩, List.mem_of_getElem? (i := 8) (by decide +kernel), List.mem_of_getElem? (i := 206) (by decide +kernel), List.mem_of_getElem? (i := 207) (by decide +kernel)⟩
theorem lw_p7 : lw_okq (⟨"BranchingTextModel", "isStretch", "(II)Z"⟩, 17) := ⟨⟨by decide +kernel, by decide +kernel⟩, List.mem_of_getElem? (i := 285) (by decide +kernel), List.mem_of_getElem? (i := 359) (by decide +kernel), List.mem_of_getElem? (i := 360) (by decide +kernel)⟩
theorem lw_p8 : lw_okq (⟨"BranchingTextModel", "isPosition", "(I)Z"⟩, 17) := ⟨⟨by decide +kernel, by decide +kernel⟩, List.mem_of_getElem? (i := 285) (by decide +kernel), List.mem_of_getElem? (i := 367) (by decide +kernel), List.mem_of_getElem? (i := 368) (by decide +kernel)⟩
theorem lw_p9 : lw_okq (⟨"BranchingTextModel", "edit", "(ZII)I"⟩, 17) := ⟨⟨by decide +kernel, by decide +kernel⟩, List.mem_of_getElem? (i := 285) (by decide +kernel), List.mem_of_getElem? (i := 371) (by decide +kernel), List.mem_of_getElem? (i := 372) (by decide +kernel)⟩
theorem lw_p10 : lw_okq (⟨"BranchingTextModel", "moveMarks", "(IIZ)V"⟩, 17) := ⟨⟨by decide +kernel, by decide +kernel⟩, List.mem_of_getElem? (i := 285) (by decide +kernel), List.mem_of_getElem? (i := 375) (by decide +kernel), List.mem_of_getElem? (i := 376) (by decide +kernel)⟩
theorem lw_p11 : lw_okq (⟨"BranchingTextModel", "make", "()V"⟩, 17) := ⟨⟨by decide +kernel, by decide +kernel⟩, List.mem_of_getElem? (i := 285) (by decide +kernel), List.mem_of_getElem? (i := 379) (by decide +kernel), List.mem_of_getElem? (i := 380) (by decide +kernel)⟩
theorem lw_p12 : lw_okq (⟨"BranchingTextModel", "bring", "(I)V"⟩, 17) := ⟨⟨by decide +kernel, by decide +kernel⟩, List.mem_of_getElem? (i := 285) (by decide +kernel), List.mem_of_getElem? (i := 383) (by decide +kernel), List.mem_of_getElem? (i := 384) (by decide +kernel)⟩
theorem lw_p13 : lw_okq (⟨"BranchingTextModel", "take", "(I)V"⟩, 17) := ⟨⟨by decide +kernel, by decide +kernel⟩, List.mem_of_getElem? (i := 285) (by decide +kernel), List.mem_of_getElem? (i := 387) (by decide +kernel), List.mem_of_getElem? (i := 388) (by decide +kernel)⟩
theorem lw_p14 : lw_okq (⟨"BranchingTextModel", "stepBack", "()V"⟩, 17) := ⟨⟨by decide +kernel, by decide +kernel⟩, List.mem_of_getElem? (i := 285) (by decide +kernel), List.mem_of_getElem? (i := 399) (by decide +kernel), List.mem_of_getElem? (i := 400) (by decide +kernel)⟩
theorem lw_p15 : lw_okq (⟨"BranchingTextModel", "stepOn", "(I)V"⟩, 17) := ⟨⟨by decide +kernel, by decide +kernel⟩, List.mem_of_getElem? (i := 285) (by decide +kernel), List.mem_of_getElem? (i := 407) (by decide +kernel), List.mem_of_getElem? (i := 408) (by decide +kernel)⟩
def lw_privs_1 : List (MethodName × Nat) := [(⟨"BranchingText", "makeChild", "(ZI[C)I"⟩, 8), (⟨"BranchingText", "stepOnTo", "(LBranchingText$Version;)V"⟩, 8), (⟨"BranchingText", "putIn", "(I[C)V"⟩, 8), (⟨"BranchingText", "takeOut", "(II)V"⟩, 8), (⟨"BranchingText", "stepBackTo", "(LBranchingText$Version;)V"⟩, 8), (⟨"BranchingText", "numbered", "(I)LBranchingText$Version;"⟩, 8), (⟨"BranchingText", "stepAlongWay", "(I)V"⟩, 8), (⟨"BranchingTextModel", "isStretch", "(II)Z"⟩, 17), (⟨"BranchingTextModel", "isPosition", "(I)Z"⟩, 17), (⟨"BranchingTextModel", "edit", "(ZII)I"⟩, 17), (⟨"BranchingTextModel", "moveMarks", "(IIZ)V"⟩, 17), (⟨"BranchingTextModel", "make", "()V"⟩, 17), (⟨"BranchingTextModel", "bring", "(I)V"⟩, 17), (⟨"BranchingTextModel", "take", "(I)V"⟩, 17), (⟨"BranchingTextModel", "stepBack", "()V"⟩, 17), (⟨"BranchingTextModel", "stepOn", "(I)V"⟩, 17)]
theorem lw_r1 : ∀ q ∈ lw_privs_1, lw_okq q := List.forall_mem_cons.mpr ⟨lw_p0, List.forall_mem_cons.mpr ⟨lw_p1, List.forall_mem_cons.mpr ⟨lw_p2, List.forall_mem_cons.mpr ⟨lw_p3, List.forall_mem_cons.mpr ⟨lw_p4, List.forall_mem_cons.mpr ⟨lw_p5, List.forall_mem_cons.mpr ⟨lw_p6, List.forall_mem_cons.mpr ⟨lw_p7, List.forall_mem_cons.mpr ⟨lw_p8, List.forall_mem_cons.mpr ⟨lw_p9, List.forall_mem_cons.mpr ⟨lw_p10, List.forall_mem_cons.mpr ⟨lw_p11, List.forall_mem_cons.mpr ⟨lw_p12, List.forall_mem_cons.mpr ⟨lw_p13, List.forall_mem_cons.mpr ⟨lw_p14, List.forall_mem_cons.mpr ⟨lw_p15, fun _ h => absurd h List.not_mem_nil⟩⟩⟩⟩⟩⟩⟩⟩⟩⟩⟩⟩⟩⟩⟩⟩
theorem lw_p16 : lw_okq (⟨"BranchingTextModel", "leads", "(II)Z"⟩, 17) := ⟨⟨by decide +kernel, by decide +kernel⟩, List.mem_of_getElem? (i := 285) (by decide +kernel), List.mem_of_getElem? (i := 415) (by decide +kernel), List.mem_of_getElem? (i := 416) (by decide +kernel)⟩
theorem lw_p17 : lw_okq (⟨"BranchingTextModel", "next", "(I)I"⟩, 17) := ⟨⟨by decide +kernel, by decide +kernel⟩, List.mem_of_getElem? (i := 285) (by decide +kernel), List.mem_of_getElem? (i := 419) (by decide +kernel), List.mem_of_getElem? (i := 420) (by decide +kernel)⟩
theorem lw_p18 : lw_okq (⟨"BranchingTextModel", "isScratch", "(I)Z"⟩, 17) := ⟨⟨by decide +kernel, by decide +kernel⟩, List.mem_of_getElem? (i := 285) (by decide +kernel), List.mem_of_getElem? (i := 464) (by decide +kernel), List.mem_of_getElem? (i := 465) (by decide +kernel)⟩
def lw_privs_2 : List (MethodName × Nat) := [(⟨"BranchingTextModel", "leads", "(II)Z"⟩, 17), (⟨"BranchingTextModel", "next", "(I)I"⟩, 17), (⟨"BranchingTextModel", "isScratch", "(I)Z"⟩, 17)]
theorem lw_r2 : ∀ q ∈ lw_privs_2, lw_okq q := List.forall_mem_cons.mpr ⟨lw_p16, List.forall_mem_cons.mpr ⟨lw_p17, List.forall_mem_cons.mpr ⟨lw_p18, fun _ h => absurd h List.not_mem_nil⟩⟩⟩
def lw_privs : List (MethodName × Nat) := lw_privs_1 ++ (lw_privs_2)
def lw_tbl : List Cond := k2_sels lw_privs ++ tables_1
theorem lw_privs_ok : ∀ q ∈ lw_privs, lw_okq q := by
  show ∀ q ∈ lw_privs_1 ++ (lw_privs_2), lw_okq q
  exact List.forall_mem_append.mpr ⟨lw_r1, lw_r2⟩
end
section
abbrev R_M : String := "BranchingText$Marks"
def T_M : u_T := fun k => match k with
  | 0 => ("BranchingText$Marks", "place", "[I", true)
  | _ => ("BranchingText$Marks", "right", "[Z", true)
def t_M : Nat → FieldType := fun k => match k with
  | 0 => .array .int
  | _ => .array .boolean
theorem n_M : ∀ a, a < 2 → ∀ b, b < 2 → a ≠ b → (T_M a).2.1 ≠ (T_M b).2.1 := by decide +kernel
theorem t_M_ok : ∀ k, k < 2 → parseFieldDescriptor (T_M k).2.2.1 = some (t_M k) := by decide +kernel
abbrev R_R : String := "BranchingText$Row"
def T_R : u_T := fun k => match k with
  | 0 => ("BranchingText$Row", "chars", "[C", true)
  | _ => ("BranchingText$Row", "size", "I", false)
def t_R : Nat → FieldType := fun k => match k with
  | 0 => .array .char
  | _ => .int
theorem n_R : ∀ a, a < 2 → ∀ b, b < 2 → a ≠ b → (T_R a).2.1 ≠ (T_R b).2.1 := by decide +kernel
theorem t_R_ok : ∀ k, k < 2 → parseFieldDescriptor (T_R k).2.2.1 = some (t_R k) := by decide +kernel
abbrev R_V : String := "BranchingText$Version"
def T_V : u_T := fun k => match k with
  | 0 => ("BranchingText$Version", "number", "I", true)
  | 1 => ("BranchingText$Version", "parent", "LBranchingText$Version;", true)
  | 2 => ("BranchingText$Version", "insertion", "Z", true)
  | 3 => ("BranchingText$Version", "at", "I", true)
  | 4 => ("BranchingText$Version", "piece", "[C", true)
  | 5 => ("BranchingText$Version", "childCount", "I", false)
  | _ => ("BranchingText$Version", "latest", "LBranchingText$Version;", false)
def t_V : Nat → FieldType := fun k => match k with
  | 0 => .int
  | 1 => .object "BranchingText$Version"
  | 2 => .boolean
  | 3 => .int
  | 4 => .array .char
  | 5 => .int
  | _ => .object "BranchingText$Version"
theorem n_V : ∀ a, a < 7 → ∀ b, b < 7 → a ≠ b → (T_V a).2.1 ≠ (T_V b).2.1 := by decide +kernel
theorem t_V_ok : ∀ k, k < 7 → parseFieldDescriptor (T_V k).2.2.1 = some (t_V k) := by decide +kernel
abbrev R_B : String := "BranchingText"
def T_B : u_T := fun k => match k with
  | 0 => ("BranchingText", "text", "LBranchingText$Row;", true)
  | 1 => ("BranchingText", "scratch", "LBranchingText$Row;", true)
  | 2 => ("BranchingText", "marks", "LBranchingText$Marks;", true)
  | 3 => ("BranchingText", "made", "[LBranchingText$Version;", true)
  | 4 => ("BranchingText", "wayOn", "[LBranchingText$Version;", true)
  | 5 => ("BranchingText", "madeCount", "I", false)
  | 6 => ("BranchingText", "inserted", "I", false)
  | _ => ("BranchingText", "there", "LBranchingText$Version;", false)
def t_B : Nat → FieldType := fun k => match k with
  | 0 => .object "BranchingText$Row"
  | 1 => .object "BranchingText$Row"
  | 2 => .object "BranchingText$Marks"
  | 3 => .array (.object "BranchingText$Version")
  | 4 => .array (.object "BranchingText$Version")
  | 5 => .int
  | 6 => .int
  | _ => .object "BranchingText$Version"
theorem n_B : ∀ a, a < 8 → ∀ b, b < 8 → a ≠ b → (T_B a).2.1 ≠ (T_B b).2.1 := by decide +kernel
theorem t_B_ok : ∀ k, k < 8 → parseFieldDescriptor (T_B k).2.2.1 = some (t_B k) := by decide +kernel
abbrev R_O : String := "BranchingTextModel"
def T_O : u_T := fun k => match k with
  | 0 => ("BranchingTextModel", "versions", "I", false)
  | 1 => ("BranchingTextModel", "parent", "[I", false)
  | 2 => ("BranchingTextModel", "comes", "[Z", false)
  | 3 => ("BranchingTextModel", "place", "[I", false)
  | 4 => ("BranchingTextModel", "many", "[I", false)
  | 5 => ("BranchingTextModel", "first", "[I", false)
  | 6 => ("BranchingTextModel", "pooled", "I", false)
  | 7 => ("BranchingTextModel", "pool", "[C", false)
  | 8 => ("BranchingTextModel", "there", "I", false)
  | 9 => ("BranchingTextModel", "size", "I", false)
  | 10 => ("BranchingTextModel", "text", "[C", false)
  | 11 => ("BranchingTextModel", "way", "[I", false)
  | 12 => ("BranchingTextModel", "typed", "I", false)
  | 13 => ("BranchingTextModel", "scratch", "[C", false)
  | 14 => ("BranchingTextModel", "isSet", "[Z", false)
  | 15 => ("BranchingTextModel", "markAt", "[I", false)
  | _ => ("BranchingTextModel", "right", "[Z", false)
def t_O : Nat → FieldType := fun k => match k with
  | 0 => .int
  | 1 => .array .int
  | 2 => .array .boolean
  | 3 => .array .int
  | 4 => .array .int
  | 5 => .array .int
  | 6 => .int
  | 7 => .array .char
  | 8 => .int
  | 9 => .int
  | 10 => .array .char
  | 11 => .array .int
  | 12 => .int
  | 13 => .array .char
  | 14 => .array .boolean
  | 15 => .array .int
  | _ => .array .boolean
theorem n_O : ∀ a, a < 17 → ∀ b, b < 17 → a ≠ b → (T_O a).2.1 ≠ (T_O b).2.1 := by decide +kernel
theorem t_O_ok : ∀ k, k < 17 → parseFieldDescriptor (T_O k).2.2.1 = some (t_O k) := by decide +kernel
abbrev zCl : List vw_C := [(R_M, T_M, 2), (R_R, T_R, 2), (R_V, T_V, 7), (R_B, T_B, 8), (R_O, T_O, 17)]
abbrev iM : Nat := 0
abbrev iR : Nat := 1
abbrev iV : Nat := 2
abbrev iB : Nat := 3
abbrev iO : Nat := 4
abbrev zty (cI cC cZ cV : ClassId) : List (ClassId × FieldType) := [(cI, .int), (cC, .char), (cZ, .boolean), (cV, .object "BranchingText$Version")]
def zAll : List Cond := lw_tbl.filter goodWord
theorem zAll_good : zAll.all goodWord = true := List.all_eq_true.mpr (fun w h => (List.mem_filter.mp h).2)
theorem zAll_in : ∀ w ∈ zAll, w ∈ lw_tbl := fun w h => (List.mem_filter.mp h).1
theorem zm {w : Cond} (i : Nat) (h : tables_1[i]? = some w) (hg : goodWord w = true := by decide +kernel) : w ∈ zAll := List.mem_filter.mpr ⟨List.mem_append_right _ (List.mem_of_getElem? h), hg⟩
theorem zms {w : Cond} (i : Nat) (h : (k2_sels lw_privs)[i]? = some w) (hg : goodWord w = true := by decide +kernel) : w ∈ zAll := List.mem_filter.mpr ⟨List.mem_append_left _ (List.mem_of_getElem? h), hg⟩
def y_M_init : MethodName := ⟨R_M, "<init>", "()V"⟩
abbrev b_M_init : ByteArray := prog_2_method_1_code
def y_M_moveForComing : MethodName := ⟨R_M, "moveForComing", "(II)V"⟩
abbrev b_M_moveForComing : ByteArray := prog_2_method_2_code
def y_M_moveForGoing : MethodName := ⟨R_M, "moveForGoing", "(II)V"⟩
abbrev b_M_moveForGoing : ByteArray := prog_2_method_3_code
def y_M_firstFrom : MethodName := ⟨R_M, "firstFrom", "(I)I"⟩
abbrev b_M_firstFrom : ByteArray := prog_2_method_4_code
def y_R_init : MethodName := ⟨R_R, "<init>", "(I)V"⟩
abbrev b_R_init : ByteArray := prog_3_method_1_code
def y_R_hasPosition : MethodName := ⟨R_R, "hasPosition", "(I)Z"⟩
abbrev b_R_hasPosition : ByteArray := prog_3_method_2_code
def y_R_hasStretch : MethodName := ⟨R_R, "hasStretch", "(II)Z"⟩
abbrev b_R_hasStretch : ByteArray := prog_3_method_3_code
def y_R_pieceOf : MethodName := ⟨R_R, "pieceOf", "(II)[C"⟩
abbrev b_R_pieceOf : ByteArray := prog_3_method_4_code
def y_R_open : MethodName := ⟨R_R, "open", "(I[C)V"⟩
abbrev b_R_open : ByteArray := prog_3_method_5_code
def y_R_close : MethodName := ⟨R_R, "close", "(II)V"⟩
abbrev b_R_close : ByteArray := prog_3_method_6_code
def y_R_newlinesBefore : MethodName := ⟨R_R, "newlinesBefore", "(I)I"⟩
abbrev b_R_newlinesBefore : ByteArray := prog_3_method_7_code
def y_R_behindNewline : MethodName := ⟨R_R, "behindNewline", "(I)I"⟩
abbrev b_R_behindNewline : ByteArray := prog_3_method_8_code
def y_R_readsAt : MethodName := ⟨R_R, "readsAt", "(ILBranchingText$Row;)Z"⟩
abbrev b_R_readsAt : ByteArray := prog_3_method_9_code
def y_V_init : MethodName := ⟨R_V, "<init>", "(ILBranchingText$Version;ZI[C)V"⟩
abbrev b_V_init : ByteArray := prog_4_method_1_code
def y_B_init : MethodName := ⟨R_B, "<init>", "()V"⟩
abbrev b_B_init : ByteArray := prog_1_method_1_code
def y_B_type : MethodName := ⟨R_B, "type", "(C)Z"⟩
abbrev b_B_type : ByteArray := prog_1_method_2_code
def y_B_wipe : MethodName := ⟨R_B, "wipe", "()V"⟩
abbrev b_B_wipe : ByteArray := prog_1_method_3_code
def y_B_scratch : MethodName := ⟨R_B, "scratch", "()I"⟩
abbrev b_B_scratch : ByteArray := prog_1_method_4_code
def y_B_copy : MethodName := ⟨R_B, "copy", "(II)I"⟩
abbrev b_B_copy : ByteArray := prog_1_method_5_code
def y_B_insert : MethodName := ⟨R_B, "insert", "(I)I"⟩
abbrev b_B_insert : ByteArray := prog_1_method_6_code
def y_B_delete : MethodName := ⟨R_B, "delete", "(II)I"⟩
abbrev b_B_delete : ByteArray := prog_1_method_7_code
def y_B_undo : MethodName := ⟨R_B, "undo", "()I"⟩
abbrev b_B_undo : ByteArray := prog_1_method_8_code
def y_B_redo : MethodName := ⟨R_B, "redo", "()I"⟩
abbrev b_B_redo : ByteArray := prog_1_method_9_code
def y_B_goTo : MethodName := ⟨R_B, "goTo", "(I)I"⟩
abbrev b_B_goTo : ByteArray := prog_1_method_10_code
def y_B_version : MethodName := ⟨R_B, "version", "()I"⟩
abbrev b_B_version : ByteArray := prog_1_method_11_code
def y_B_versions : MethodName := ⟨R_B, "versions", "()I"⟩
abbrev b_B_versions : ByteArray := prog_1_method_12_code
def y_B_parent : MethodName := ⟨R_B, "parent", "(I)I"⟩
abbrev b_B_parent : ByteArray := prog_1_method_13_code
def y_B_children : MethodName := ⟨R_B, "children", "(I)I"⟩
abbrev b_B_children : ByteArray := prog_1_method_14_code
def y_B_length : MethodName := ⟨R_B, "length", "()I"⟩
abbrev b_B_length : ByteArray := prog_1_method_15_code
def y_B_at : MethodName := ⟨R_B, "at", "(I)C"⟩
abbrev b_B_at : ByteArray := prog_1_method_16_code
def y_B_lines : MethodName := ⟨R_B, "lines", "()I"⟩
abbrev b_B_lines : ByteArray := prog_1_method_17_code
def y_B_lineStart : MethodName := ⟨R_B, "lineStart", "(I)I"⟩
abbrev b_B_lineStart : ByteArray := prog_1_method_18_code
def y_B_lineOf : MethodName := ⟨R_B, "lineOf", "(I)I"⟩
abbrev b_B_lineOf : ByteArray := prog_1_method_19_code
def y_B_find : MethodName := ⟨R_B, "find", "(I)I"⟩
abbrev b_B_find : ByteArray := prog_1_method_20_code
def y_B_mark : MethodName := ⟨R_B, "mark", "(IIZ)Z"⟩
abbrev b_B_mark : ByteArray := prog_1_method_21_code
def y_B_unmark : MethodName := ⟨R_B, "unmark", "(I)Z"⟩
abbrev b_B_unmark : ByteArray := prog_1_method_22_code
def y_B_where : MethodName := ⟨R_B, "where", "(I)I"⟩
abbrev b_B_where : ByteArray := prog_1_method_23_code
def y_B_nextMark : MethodName := ⟨R_B, "nextMark", "(I)I"⟩
abbrev b_B_nextMark : ByteArray := prog_1_method_24_code
def y_B_isCharacter : MethodName := ⟨R_B, "isCharacter", "(C)Z"⟩
abbrev b_B_isCharacter : ByteArray := prog_1_method_25_code
def y_B_isMark : MethodName := ⟨R_B, "isMark", "(I)Z"⟩
abbrev b_B_isMark : ByteArray := prog_1_method_26_code
def y_B_numbered : MethodName := ⟨R_B, "numbered", "(I)LBranchingText$Version;"⟩
abbrev b_B_numbered : ByteArray := prog_1_method_27_code
def y_B_makeChild : MethodName := ⟨R_B, "makeChild", "(ZI[C)I"⟩
abbrev b_B_makeChild : ByteArray := prog_1_method_28_code
def y_B_stepBackTo : MethodName := ⟨R_B, "stepBackTo", "(LBranchingText$Version;)V"⟩
abbrev b_B_stepBackTo : ByteArray := prog_1_method_29_code
def y_B_stepOnTo : MethodName := ⟨R_B, "stepOnTo", "(LBranchingText$Version;)V"⟩
abbrev b_B_stepOnTo : ByteArray := prog_1_method_30_code
def y_B_stepAlongWay : MethodName := ⟨R_B, "stepAlongWay", "(I)V"⟩
abbrev b_B_stepAlongWay : ByteArray := prog_1_method_31_code
def y_B_putIn : MethodName := ⟨R_B, "putIn", "(I[C)V"⟩
abbrev b_B_putIn : ByteArray := prog_1_method_32_code
def y_B_takeOut : MethodName := ⟨R_B, "takeOut", "(II)V"⟩
abbrev b_B_takeOut : ByteArray := prog_1_method_33_code
def y_O_init : MethodName := ⟨R_O, "<init>", "()V"⟩
abbrev b_O_init : ByteArray := prog_6_method_1_code
def y_O_type : MethodName := ⟨R_O, "type", "(C)Z"⟩
abbrev b_O_type : ByteArray := prog_6_method_2_code
def y_O_wipe : MethodName := ⟨R_O, "wipe", "()V"⟩
abbrev b_O_wipe : ByteArray := prog_6_method_3_code
def y_O_scratch : MethodName := ⟨R_O, "scratch", "()I"⟩
abbrev b_O_scratch : ByteArray := prog_6_method_4_code
def y_O_isStretch : MethodName := ⟨R_O, "isStretch", "(II)Z"⟩
abbrev b_O_isStretch : ByteArray := prog_6_method_5_code
def y_O_isPosition : MethodName := ⟨R_O, "isPosition", "(I)Z"⟩
abbrev b_O_isPosition : ByteArray := prog_6_method_6_code
def y_O_copy : MethodName := ⟨R_O, "copy", "(II)I"⟩
abbrev b_O_copy : ByteArray := prog_6_method_7_code
def y_O_bring : MethodName := ⟨R_O, "bring", "(I)V"⟩
abbrev b_O_bring : ByteArray := prog_6_method_8_code
def y_O_take : MethodName := ⟨R_O, "take", "(I)V"⟩
abbrev b_O_take : ByteArray := prog_6_method_9_code
def y_O_make : MethodName := ⟨R_O, "make", "()V"⟩
abbrev b_O_make : ByteArray := prog_6_method_10_code
def y_O_moveMarks : MethodName := ⟨R_O, "moveMarks", "(IIZ)V"⟩
abbrev b_O_moveMarks : ByteArray := prog_6_method_11_code
def y_O_edit : MethodName := ⟨R_O, "edit", "(ZII)I"⟩
abbrev b_O_edit : ByteArray := prog_6_method_12_code
def y_O_insert : MethodName := ⟨R_O, "insert", "(I)I"⟩
abbrev b_O_insert : ByteArray := prog_6_method_13_code
def y_O_delete : MethodName := ⟨R_O, "delete", "(II)I"⟩
abbrev b_O_delete : ByteArray := prog_6_method_14_code
def y_O_stepBack : MethodName := ⟨R_O, "stepBack", "()V"⟩
abbrev b_O_stepBack : ByteArray := prog_6_method_15_code
def y_O_stepOn : MethodName := ⟨R_O, "stepOn", "(I)V"⟩
abbrev b_O_stepOn : ByteArray := prog_6_method_16_code
def y_O_undo : MethodName := ⟨R_O, "undo", "()I"⟩
abbrev b_O_undo : ByteArray := prog_6_method_17_code
def y_O_redo : MethodName := ⟨R_O, "redo", "()I"⟩
abbrev b_O_redo : ByteArray := prog_6_method_18_code
def y_O_leads : MethodName := ⟨R_O, "leads", "(II)Z"⟩
abbrev b_O_leads : ByteArray := prog_6_method_19_code
def y_O_next : MethodName := ⟨R_O, "next", "(I)I"⟩
abbrev b_O_next : ByteArray := prog_6_method_20_code
def y_O_goTo : MethodName := ⟨R_O, "goTo", "(I)I"⟩
abbrev b_O_goTo : ByteArray := prog_6_method_21_code
def y_O_version : MethodName := ⟨R_O, "version", "()I"⟩
abbrev b_O_version : ByteArray := prog_6_method_22_code
def y_O_versions : MethodName := ⟨R_O, "versions", "()I"⟩
abbrev b_O_versions : ByteArray := prog_6_method_23_code
def y_O_parent : MethodName := ⟨R_O, "parent", "(I)I"⟩
abbrev b_O_parent : ByteArray := prog_6_method_24_code
def y_O_children : MethodName := ⟨R_O, "children", "(I)I"⟩
abbrev b_O_children : ByteArray := prog_6_method_25_code
def y_O_length : MethodName := ⟨R_O, "length", "()I"⟩
abbrev b_O_length : ByteArray := prog_6_method_26_code
def y_O_at : MethodName := ⟨R_O, "at", "(I)C"⟩
abbrev b_O_at : ByteArray := prog_6_method_27_code
def y_O_lines : MethodName := ⟨R_O, "lines", "()I"⟩
abbrev b_O_lines : ByteArray := prog_6_method_28_code
def y_O_lineStart : MethodName := ⟨R_O, "lineStart", "(I)I"⟩
abbrev b_O_lineStart : ByteArray := prog_6_method_29_code
def y_O_lineOf : MethodName := ⟨R_O, "lineOf", "(I)I"⟩
abbrev b_O_lineOf : ByteArray := prog_6_method_30_code
def y_O_isScratch : MethodName := ⟨R_O, "isScratch", "(I)Z"⟩
abbrev b_O_isScratch : ByteArray := prog_6_method_31_code
def y_O_find : MethodName := ⟨R_O, "find", "(I)I"⟩
abbrev b_O_find : ByteArray := prog_6_method_32_code
def y_O_mark : MethodName := ⟨R_O, "mark", "(IIZ)Z"⟩
abbrev b_O_mark : ByteArray := prog_6_method_33_code
def y_O_unmark : MethodName := ⟨R_O, "unmark", "(I)Z"⟩
abbrev b_O_unmark : ByteArray := prog_6_method_34_code
def y_O_where : MethodName := ⟨R_O, "where", "(I)I"⟩
abbrev b_O_where : ByteArray := prog_6_method_35_code
def y_O_nextMark : MethodName := ⟨R_O, "nextMark", "(I)I"⟩
abbrev b_O_nextMark : ByteArray := prog_6_method_36_code
theorem u_M_in : ∀ w ∈ u_ws R_M T_M 2, w ∈ zAll := by decide +kernel
theorem u_R_in : ∀ w ∈ u_ws R_R T_R 2, w ∈ zAll := by decide +kernel
theorem u_V_in : ∀ w ∈ u_ws R_V T_V 7, w ∈ zAll := by decide +kernel
theorem u_B_in : ∀ w ∈ u_ws R_B T_B 8, w ∈ zAll := by decide +kernel
theorem u_O_in : ∀ w ∈ u_ws R_O T_O 17, w ∈ zAll := by decide +kernel
end
section
theorem d_R_init_0 : decode b_R_init 0 = .ok (.aload_n 0, 1) := by decide +kernel
theorem d_R_init_1 : decode b_R_init 1 = .ok (.invokespecial 3, 3) := by decide +kernel
theorem d_R_init_4 : decode b_R_init 4 = .ok (.aload_n 0, 1) := by decide +kernel
theorem d_R_init_5 : decode b_R_init 5 = .ok (.iload_n 1, 1) := by decide +kernel
theorem d_R_init_6 : decode b_R_init 6 = .ok (.newarray .char, 2) := by decide +kernel
theorem d_R_init_8 : decode b_R_init 8 = .ok (.putfield 9, 3) := by decide +kernel
theorem d_R_init_11 : decode b_R_init 11 = .ok (.aload_n 0, 1) := by decide +kernel
theorem d_R_init_12 : decode b_R_init 12 = .ok (.iconst 0, 1) := by decide +kernel
theorem d_R_init_13 : decode b_R_init 13 = .ok (.putfield 15, 3) := by decide +kernel
theorem d_R_init_16 : decode b_R_init 16 = .ok (.return_, 1) := by decide +kernel
theorem d_R_hasPosition_0 : decode b_R_hasPosition 0 = .ok (.iload_n 1, 1) := by decide +kernel
theorem d_R_hasPosition_1 : decode b_R_hasPosition 1 = .ok (.ifCond .lt 15, 3) := by decide +kernel
theorem d_R_hasPosition_4 : decode b_R_hasPosition 4 = .ok (.iload_n 1, 1) := by decide +kernel
theorem d_R_hasPosition_5 : decode b_R_hasPosition 5 = .ok (.aload_n 0, 1) := by decide +kernel
theorem d_R_hasPosition_6 : decode b_R_hasPosition 6 = .ok (.getfield 15, 3) := by decide +kernel
theorem d_R_hasPosition_9 : decode b_R_hasPosition 9 = .ok (.if_icmp .gt 7, 3) := by decide +kernel
theorem d_R_hasPosition_12 : decode b_R_hasPosition 12 = .ok (.iconst 1, 1) := by decide +kernel
theorem d_R_hasPosition_13 : decode b_R_hasPosition 13 = .ok (.goto 4, 3) := by decide +kernel
theorem d_R_hasPosition_16 : decode b_R_hasPosition 16 = .ok (.iconst 0, 1) := by decide +kernel
theorem d_R_hasPosition_17 : decode b_R_hasPosition 17 = .ok (.ireturn, 1) := by decide +kernel
theorem d_R_hasStretch_0 : decode b_R_hasStretch 0 = .ok (.aload_n 0, 1) := by decide +kernel
theorem d_R_hasStretch_1 : decode b_R_hasStretch 1 = .ok (.iload_n 1, 1) := by decide +kernel
theorem d_R_hasStretch_2 : decode b_R_hasStretch 2 = .ok (.invokevirtual 19, 3) := by decide +kernel
theorem d_R_hasStretch_5 : decode b_R_hasStretch 5 = .ok (.ifCond .eq 21, 3) := by decide +kernel
theorem d_R_hasStretch_8 : decode b_R_hasStretch 8 = .ok (.iload_n 2, 1) := by decide +kernel
theorem d_R_hasStretch_9 : decode b_R_hasStretch 9 = .ok (.ifCond .lt 17, 3) := by decide +kernel
theorem d_R_hasStretch_12 : decode b_R_hasStretch 12 = .ok (.iload_n 2, 1) := by decide +kernel
theorem d_R_hasStretch_13 : decode b_R_hasStretch 13 = .ok (.aload_n 0, 1) := by decide +kernel
theorem d_R_hasStretch_14 : decode b_R_hasStretch 14 = .ok (.getfield 15, 3) := by decide +kernel
theorem d_R_hasStretch_17 : decode b_R_hasStretch 17 = .ok (.iload_n 1, 1) := by decide +kernel
theorem d_R_hasStretch_18 : decode b_R_hasStretch 18 = .ok (.isub, 1) := by decide +kernel
theorem d_R_hasStretch_19 : decode b_R_hasStretch 19 = .ok (.if_icmp .gt 7, 3) := by decide +kernel
theorem d_R_hasStretch_22 : decode b_R_hasStretch 22 = .ok (.iconst 1, 1) := by decide +kernel
theorem d_R_hasStretch_23 : decode b_R_hasStretch 23 = .ok (.goto 4, 3) := by decide +kernel
theorem d_R_hasStretch_26 : decode b_R_hasStretch 26 = .ok (.iconst 0, 1) := by decide +kernel
theorem d_R_hasStretch_27 : decode b_R_hasStretch 27 = .ok (.ireturn, 1) := by decide +kernel
theorem d_R_pieceOf_0 : decode b_R_pieceOf 0 = .ok (.iload_n 2, 1) := by decide +kernel
theorem d_R_pieceOf_1 : decode b_R_pieceOf 1 = .ok (.newarray .char, 2) := by decide +kernel
theorem d_R_pieceOf_3 : decode b_R_pieceOf 3 = .ok (.astore_n 3, 1) := by decide +kernel
theorem d_R_pieceOf_4 : decode b_R_pieceOf 4 = .ok (.aload_n 0, 1) := by decide +kernel
theorem d_R_pieceOf_5 : decode b_R_pieceOf 5 = .ok (.getfield 9, 3) := by decide +kernel
theorem d_R_pieceOf_8 : decode b_R_pieceOf 8 = .ok (.iload_n 1, 1) := by decide +kernel
theorem d_R_pieceOf_9 : decode b_R_pieceOf 9 = .ok (.aload_n 3, 1) := by decide +kernel
theorem d_R_pieceOf_10 : decode b_R_pieceOf 10 = .ok (.iconst 0, 1) := by decide +kernel
theorem d_R_pieceOf_11 : decode b_R_pieceOf 11 = .ok (.iload_n 2, 1) := by decide +kernel
theorem d_R_pieceOf_12 : decode b_R_pieceOf 12 = .ok (.invokestatic 23, 3) := by decide +kernel
theorem d_R_pieceOf_15 : decode b_R_pieceOf 15 = .ok (.aload_n 3, 1) := by decide +kernel
theorem d_R_pieceOf_16 : decode b_R_pieceOf 16 = .ok (.areturn, 1) := by decide +kernel
theorem d_R_open_0 : decode b_R_open 0 = .ok (.aload_n 0, 1) := by decide +kernel
theorem d_R_open_1 : decode b_R_open 1 = .ok (.getfield 9, 3) := by decide +kernel
theorem d_R_open_4 : decode b_R_open 4 = .ok (.iload_n 1, 1) := by decide +kernel
theorem d_R_open_5 : decode b_R_open 5 = .ok (.aload_n 0, 1) := by decide +kernel
theorem d_R_open_6 : decode b_R_open 6 = .ok (.getfield 9, 3) := by decide +kernel
theorem d_R_open_9 : decode b_R_open 9 = .ok (.iload_n 1, 1) := by decide +kernel
theorem d_R_open_10 : decode b_R_open 10 = .ok (.aload_n 2, 1) := by decide +kernel
theorem d_R_open_11 : decode b_R_open 11 = .ok (.arraylength, 1) := by decide +kernel
theorem d_R_open_12 : decode b_R_open 12 = .ok (.iadd, 1) := by decide +kernel
theorem d_R_open_13 : decode b_R_open 13 = .ok (.aload_n 0, 1) := by decide +kernel
theorem d_R_open_14 : decode b_R_open 14 = .ok (.getfield 15, 3) := by decide +kernel
theorem d_R_open_17 : decode b_R_open 17 = .ok (.iload_n 1, 1) := by decide +kernel
theorem d_R_open_18 : decode b_R_open 18 = .ok (.isub, 1) := by decide +kernel
theorem d_R_open_19 : decode b_R_open 19 = .ok (.invokestatic 23, 3) := by decide +kernel
theorem d_R_open_22 : decode b_R_open 22 = .ok (.aload_n 2, 1) := by decide +kernel
theorem d_R_open_23 : decode b_R_open 23 = .ok (.iconst 0, 1) := by decide +kernel
theorem d_R_open_24 : decode b_R_open 24 = .ok (.aload_n 0, 1) := by decide +kernel
theorem d_R_open_25 : decode b_R_open 25 = .ok (.getfield 9, 3) := by decide +kernel
theorem d_R_open_28 : decode b_R_open 28 = .ok (.iload_n 1, 1) := by decide +kernel
theorem d_R_open_29 : decode b_R_open 29 = .ok (.aload_n 2, 1) := by decide +kernel
theorem d_R_open_30 : decode b_R_open 30 = .ok (.arraylength, 1) := by decide +kernel
theorem d_R_open_31 : decode b_R_open 31 = .ok (.invokestatic 23, 3) := by decide +kernel
theorem d_R_open_34 : decode b_R_open 34 = .ok (.aload_n 0, 1) := by decide +kernel
theorem d_R_open_35 : decode b_R_open 35 = .ok (.dup, 1) := by decide +kernel
theorem d_R_open_36 : decode b_R_open 36 = .ok (.getfield 15, 3) := by decide +kernel
theorem d_R_open_39 : decode b_R_open 39 = .ok (.aload_n 2, 1) := by decide +kernel
theorem d_R_open_40 : decode b_R_open 40 = .ok (.arraylength, 1) := by decide +kernel
theorem d_R_open_41 : decode b_R_open 41 = .ok (.iadd, 1) := by decide +kernel
theorem d_R_open_42 : decode b_R_open 42 = .ok (.putfield 15, 3) := by decide +kernel
theorem d_R_open_45 : decode b_R_open 45 = .ok (.return_, 1) := by decide +kernel
theorem d_R_close_0 : decode b_R_close 0 = .ok (.iload_n 1, 1) := by decide +kernel
theorem d_R_close_1 : decode b_R_close 1 = .ok (.iload_n 2, 1) := by decide +kernel
theorem d_R_close_2 : decode b_R_close 2 = .ok (.iadd, 1) := by decide +kernel
theorem d_R_close_3 : decode b_R_close 3 = .ok (.istore_n 3, 1) := by decide +kernel
theorem d_R_close_4 : decode b_R_close 4 = .ok (.aload_n 0, 1) := by decide +kernel
theorem d_R_close_5 : decode b_R_close 5 = .ok (.getfield 9, 3) := by decide +kernel
theorem d_R_close_8 : decode b_R_close 8 = .ok (.iload_n 3, 1) := by decide +kernel
theorem d_R_close_9 : decode b_R_close 9 = .ok (.aload_n 0, 1) := by decide +kernel
theorem d_R_close_10 : decode b_R_close 10 = .ok (.getfield 9, 3) := by decide +kernel
theorem d_R_close_13 : decode b_R_close 13 = .ok (.iload_n 1, 1) := by decide +kernel
theorem d_R_close_14 : decode b_R_close 14 = .ok (.aload_n 0, 1) := by decide +kernel
theorem d_R_close_15 : decode b_R_close 15 = .ok (.getfield 15, 3) := by decide +kernel
theorem d_R_close_18 : decode b_R_close 18 = .ok (.iload_n 3, 1) := by decide +kernel
theorem d_R_close_19 : decode b_R_close 19 = .ok (.isub, 1) := by decide +kernel
theorem d_R_close_20 : decode b_R_close 20 = .ok (.invokestatic 23, 3) := by decide +kernel
theorem d_R_close_23 : decode b_R_close 23 = .ok (.aload_n 0, 1) := by decide +kernel
theorem d_R_close_24 : decode b_R_close 24 = .ok (.dup, 1) := by decide +kernel
theorem d_R_close_25 : decode b_R_close 25 = .ok (.getfield 15, 3) := by decide +kernel
theorem d_R_close_28 : decode b_R_close 28 = .ok (.iload_n 2, 1) := by decide +kernel
theorem d_R_close_29 : decode b_R_close 29 = .ok (.isub, 1) := by decide +kernel
theorem d_R_close_30 : decode b_R_close 30 = .ok (.putfield 15, 3) := by decide +kernel
theorem d_R_close_33 : decode b_R_close 33 = .ok (.return_, 1) := by decide +kernel
theorem d_R_newlinesBefore_0 : decode b_R_newlinesBefore 0 = .ok (.iconst 0, 1) := by decide +kernel
theorem d_R_newlinesBefore_1 : decode b_R_newlinesBefore 1 = .ok (.istore_n 2, 1) := by decide +kernel
theorem d_R_newlinesBefore_2 : decode b_R_newlinesBefore 2 = .ok (.iconst 0, 1) := by decide +kernel
theorem d_R_newlinesBefore_3 : decode b_R_newlinesBefore 3 = .ok (.istore_n 3, 1) := by decide +kernel
theorem d_R_newlinesBefore_4 : decode b_R_newlinesBefore 4 = .ok (.iload_n 3, 1) := by decide +kernel
theorem d_R_newlinesBefore_5 : decode b_R_newlinesBefore 5 = .ok (.iload_n 1, 1) := by decide +kernel
theorem d_R_newlinesBefore_6 : decode b_R_newlinesBefore 6 = .ok (.if_icmp .ge 23, 3) := by decide +kernel
theorem d_R_newlinesBefore_9 : decode b_R_newlinesBefore 9 = .ok (.aload_n 0, 1) := by decide +kernel
theorem d_R_newlinesBefore_10 : decode b_R_newlinesBefore 10 = .ok (.getfield 9, 3) := by decide +kernel
theorem d_R_newlinesBefore_13 : decode b_R_newlinesBefore 13 = .ok (.iload_n 3, 1) := by decide +kernel
theorem d_R_newlinesBefore_14 : decode b_R_newlinesBefore 14 = .ok (.caload, 1) := by decide +kernel
theorem d_R_newlinesBefore_15 : decode b_R_newlinesBefore 15 = .ok (.bipush 10, 2) := by decide +kernel
theorem d_R_newlinesBefore_17 : decode b_R_newlinesBefore 17 = .ok (.if_icmp .ne 6, 3) := by decide +kernel
theorem d_R_newlinesBefore_20 : decode b_R_newlinesBefore 20 = .ok (.iinc 2 1, 3) := by decide +kernel
theorem d_R_newlinesBefore_23 : decode b_R_newlinesBefore 23 = .ok (.iinc 3 1, 3) := by decide +kernel
theorem d_R_newlinesBefore_26 : decode b_R_newlinesBefore 26 = .ok (.goto (-22), 3) := by decide +kernel
theorem d_R_newlinesBefore_29 : decode b_R_newlinesBefore 29 = .ok (.iload_n 2, 1) := by decide +kernel
theorem d_R_newlinesBefore_30 : decode b_R_newlinesBefore 30 = .ok (.ireturn, 1) := by decide +kernel
theorem d_R_behindNewline_0 : decode b_R_behindNewline 0 = .ok (.iconst 0, 1) := by decide +kernel
theorem d_R_behindNewline_1 : decode b_R_behindNewline 1 = .ok (.istore_n 2, 1) := by decide +kernel
theorem d_R_behindNewline_2 : decode b_R_behindNewline 2 = .ok (.iconst 0, 1) := by decide +kernel
theorem d_R_behindNewline_3 : decode b_R_behindNewline 3 = .ok (.istore_n 3, 1) := by decide +kernel
theorem d_R_behindNewline_4 : decode b_R_behindNewline 4 = .ok (.iload_n 3, 1) := by decide +kernel
theorem d_R_behindNewline_5 : decode b_R_behindNewline 5 = .ok (.aload_n 0, 1) := by decide +kernel
theorem d_R_behindNewline_6 : decode b_R_behindNewline 6 = .ok (.getfield 15, 3) := by decide +kernel
theorem d_R_behindNewline_9 : decode b_R_behindNewline 9 = .ok (.if_icmp .ge 32, 3) := by decide +kernel
theorem d_R_behindNewline_12 : decode b_R_behindNewline 12 = .ok (.aload_n 0, 1) := by decide +kernel
theorem d_R_behindNewline_13 : decode b_R_behindNewline 13 = .ok (.getfield 9, 3) := by decide +kernel
theorem d_R_behindNewline_16 : decode b_R_behindNewline 16 = .ok (.iload_n 3, 1) := by decide +kernel
theorem d_R_behindNewline_17 : decode b_R_behindNewline 17 = .ok (.caload, 1) := by decide +kernel
theorem d_R_behindNewline_18 : decode b_R_behindNewline 18 = .ok (.bipush 10, 2) := by decide +kernel
theorem d_R_behindNewline_20 : decode b_R_behindNewline 20 = .ok (.if_icmp .ne 15, 3) := by decide +kernel
theorem d_R_behindNewline_23 : decode b_R_behindNewline 23 = .ok (.iinc 2 1, 3) := by decide +kernel
theorem d_R_behindNewline_26 : decode b_R_behindNewline 26 = .ok (.iload_n 2, 1) := by decide +kernel
theorem d_R_behindNewline_27 : decode b_R_behindNewline 27 = .ok (.iload_n 1, 1) := by decide +kernel
theorem d_R_behindNewline_28 : decode b_R_behindNewline 28 = .ok (.if_icmp .ne 7, 3) := by decide +kernel
theorem d_R_behindNewline_31 : decode b_R_behindNewline 31 = .ok (.iload_n 3, 1) := by decide +kernel
theorem d_R_behindNewline_32 : decode b_R_behindNewline 32 = .ok (.iconst 1, 1) := by decide +kernel
theorem d_R_behindNewline_33 : decode b_R_behindNewline 33 = .ok (.iadd, 1) := by decide +kernel
theorem d_R_behindNewline_34 : decode b_R_behindNewline 34 = .ok (.ireturn, 1) := by decide +kernel
theorem d_R_behindNewline_35 : decode b_R_behindNewline 35 = .ok (.iinc 3 1, 3) := by decide +kernel
theorem d_R_behindNewline_38 : decode b_R_behindNewline 38 = .ok (.goto (-34), 3) := by decide +kernel
theorem d_R_behindNewline_41 : decode b_R_behindNewline 41 = .ok (.iconst (-1), 1) := by decide +kernel
theorem d_R_behindNewline_42 : decode b_R_behindNewline 42 = .ok (.ireturn, 1) := by decide +kernel
theorem d_R_readsAt_0 : decode b_R_readsAt 0 = .ok (.iconst 0, 1) := by decide +kernel
theorem d_R_readsAt_1 : decode b_R_readsAt 1 = .ok (.istore_n 3, 1) := by decide +kernel
theorem d_R_readsAt_2 : decode b_R_readsAt 2 = .ok (.iload_n 3, 1) := by decide +kernel
theorem d_R_readsAt_3 : decode b_R_readsAt 3 = .ok (.aload_n 2, 1) := by decide +kernel
theorem d_R_readsAt_4 : decode b_R_readsAt 4 = .ok (.getfield 15, 3) := by decide +kernel
theorem d_R_readsAt_7 : decode b_R_readsAt 7 = .ok (.if_icmp .ge 28, 3) := by decide +kernel
theorem d_R_readsAt_10 : decode b_R_readsAt 10 = .ok (.aload_n 0, 1) := by decide +kernel
theorem d_R_readsAt_11 : decode b_R_readsAt 11 = .ok (.getfield 9, 3) := by decide +kernel
theorem d_R_readsAt_14 : decode b_R_readsAt 14 = .ok (.iload_n 1, 1) := by decide +kernel
theorem d_R_readsAt_15 : decode b_R_readsAt 15 = .ok (.iload_n 3, 1) := by decide +kernel
theorem d_R_readsAt_16 : decode b_R_readsAt 16 = .ok (.iadd, 1) := by decide +kernel
theorem d_R_readsAt_17 : decode b_R_readsAt 17 = .ok (.caload, 1) := by decide +kernel
theorem d_R_readsAt_18 : decode b_R_readsAt 18 = .ok (.aload_n 2, 1) := by decide +kernel
theorem d_R_readsAt_19 : decode b_R_readsAt 19 = .ok (.getfield 9, 3) := by decide +kernel
theorem d_R_readsAt_22 : decode b_R_readsAt 22 = .ok (.iload_n 3, 1) := by decide +kernel
theorem d_R_readsAt_23 : decode b_R_readsAt 23 = .ok (.caload, 1) := by decide +kernel
theorem d_R_readsAt_24 : decode b_R_readsAt 24 = .ok (.if_icmp .eq 5, 3) := by decide +kernel
theorem d_R_readsAt_27 : decode b_R_readsAt 27 = .ok (.iconst 0, 1) := by decide +kernel
theorem d_R_readsAt_28 : decode b_R_readsAt 28 = .ok (.ireturn, 1) := by decide +kernel
theorem d_R_readsAt_29 : decode b_R_readsAt 29 = .ok (.iinc 3 1, 3) := by decide +kernel
theorem d_R_readsAt_32 : decode b_R_readsAt 32 = .ok (.goto (-30), 3) := by decide +kernel
theorem d_R_readsAt_35 : decode b_R_readsAt 35 = .ok (.iconst 1, 1) := by decide +kernel
theorem d_R_readsAt_36 : decode b_R_readsAt 36 = .ok (.ireturn, 1) := by decide +kernel
theorem d_M_init_0 : decode b_M_init 0 = .ok (.aload_n 0, 1) := by decide +kernel
theorem d_M_init_1 : decode b_M_init 1 = .ok (.invokespecial 3, 3) := by decide +kernel
theorem d_M_init_4 : decode b_M_init 4 = .ok (.aload_n 0, 1) := by decide +kernel
theorem d_M_init_5 : decode b_M_init 5 = .ok (.bipush 6, 2) := by decide +kernel
theorem d_M_init_7 : decode b_M_init 7 = .ok (.newarray .int, 2) := by decide +kernel
theorem d_M_init_9 : decode b_M_init 9 = .ok (.putfield 9, 3) := by decide +kernel
theorem d_M_init_12 : decode b_M_init 12 = .ok (.aload_n 0, 1) := by decide +kernel
theorem d_M_init_13 : decode b_M_init 13 = .ok (.bipush 6, 2) := by decide +kernel
theorem d_M_init_15 : decode b_M_init 15 = .ok (.newarray .boolean, 2) := by decide +kernel
theorem d_M_init_17 : decode b_M_init 17 = .ok (.putfield 15, 3) := by decide +kernel
theorem d_M_init_20 : decode b_M_init 20 = .ok (.iconst 0, 1) := by decide +kernel
theorem d_M_init_21 : decode b_M_init 21 = .ok (.istore_n 1, 1) := by decide +kernel
theorem d_M_init_22 : decode b_M_init 22 = .ok (.iload_n 1, 1) := by decide +kernel
theorem d_M_init_23 : decode b_M_init 23 = .ok (.bipush 6, 2) := by decide +kernel
theorem d_M_init_25 : decode b_M_init 25 = .ok (.if_icmp .ge 16, 3) := by decide +kernel
theorem d_M_init_28 : decode b_M_init 28 = .ok (.aload_n 0, 1) := by decide +kernel
theorem d_M_init_29 : decode b_M_init 29 = .ok (.getfield 9, 3) := by decide +kernel
theorem d_M_init_32 : decode b_M_init 32 = .ok (.iload_n 1, 1) := by decide +kernel
theorem d_M_init_33 : decode b_M_init 33 = .ok (.iconst (-1), 1) := by decide +kernel
theorem d_M_init_34 : decode b_M_init 34 = .ok (.iastore, 1) := by decide +kernel
theorem d_M_init_35 : decode b_M_init 35 = .ok (.iinc 1 1, 3) := by decide +kernel
theorem d_M_init_38 : decode b_M_init 38 = .ok (.goto (-16), 3) := by decide +kernel
theorem d_M_init_41 : decode b_M_init 41 = .ok (.return_, 1) := by decide +kernel
theorem d_M_moveForComing_0 : decode b_M_moveForComing 0 = .ok (.iconst 0, 1) := by decide +kernel
theorem d_M_moveForComing_1 : decode b_M_moveForComing 1 = .ok (.istore_n 3, 1) := by decide +kernel
theorem d_M_moveForComing_2 : decode b_M_moveForComing 2 = .ok (.iload_n 3, 1) := by decide +kernel
theorem d_M_moveForComing_3 : decode b_M_moveForComing 3 = .ok (.bipush 6, 2) := by decide +kernel
theorem d_M_moveForComing_5 : decode b_M_moveForComing 5 = .ok (.if_icmp .ge 48, 3) := by decide +kernel
theorem d_M_moveForComing_8 : decode b_M_moveForComing 8 = .ok (.aload_n 0, 1) := by decide +kernel
theorem d_M_moveForComing_9 : decode b_M_moveForComing 9 = .ok (.getfield 9, 3) := by decide +kernel
theorem d_M_moveForComing_12 : decode b_M_moveForComing 12 = .ok (.iload_n 3, 1) := by decide +kernel
theorem d_M_moveForComing_13 : decode b_M_moveForComing 13 = .ok (.iaload, 1) := by decide +kernel
theorem d_M_moveForComing_14 : decode b_M_moveForComing 14 = .ok (.iload_n 1, 1) := by decide +kernel
theorem d_M_moveForComing_15 : decode b_M_moveForComing 15 = .ok (.if_icmp .gt 22, 3) := by decide +kernel
theorem d_M_moveForComing_18 : decode b_M_moveForComing 18 = .ok (.aload_n 0, 1) := by decide +kernel
theorem d_M_moveForComing_19 : decode b_M_moveForComing 19 = .ok (.getfield 9, 3) := by decide +kernel
theorem d_M_moveForComing_22 : decode b_M_moveForComing 22 = .ok (.iload_n 3, 1) := by decide +kernel
theorem d_M_moveForComing_23 : decode b_M_moveForComing 23 = .ok (.iaload, 1) := by decide +kernel
theorem d_M_moveForComing_24 : decode b_M_moveForComing 24 = .ok (.iload_n 1, 1) := by decide +kernel
theorem d_M_moveForComing_25 : decode b_M_moveForComing 25 = .ok (.if_icmp .ne 22, 3) := by decide +kernel
theorem d_M_moveForComing_28 : decode b_M_moveForComing 28 = .ok (.aload_n 0, 1) := by decide +kernel
theorem d_M_moveForComing_29 : decode b_M_moveForComing 29 = .ok (.getfield 15, 3) := by decide +kernel
theorem d_M_moveForComing_32 : decode b_M_moveForComing 32 = .ok (.iload_n 3, 1) := by decide +kernel
theorem d_M_moveForComing_33 : decode b_M_moveForComing 33 = .ok (.baload, 1) := by decide +kernel
theorem d_M_moveForComing_34 : decode b_M_moveForComing 34 = .ok (.ifCond .eq 13, 3) := by decide +kernel
theorem d_M_moveForComing_37 : decode b_M_moveForComing 37 = .ok (.aload_n 0, 1) := by decide +kernel
theorem d_M_moveForComing_38 : decode b_M_moveForComing 38 = .ok (.getfield 9, 3) := by decide +kernel
theorem d_M_moveForComing_41 : decode b_M_moveForComing 41 = .ok (.iload_n 3, 1) := by decide +kernel
theorem d_M_moveForComing_42 : decode b_M_moveForComing 42 = .ok (.dup2, 1) := by decide +kernel
theorem d_M_moveForComing_43 : decode b_M_moveForComing 43 = .ok (.iaload, 1) := by decide +kernel
theorem d_M_moveForComing_44 : decode b_M_moveForComing 44 = .ok (.iload_n 2, 1) := by decide +kernel
theorem d_M_moveForComing_45 : decode b_M_moveForComing 45 = .ok (.iadd, 1) := by decide +kernel
theorem d_M_moveForComing_46 : decode b_M_moveForComing 46 = .ok (.iastore, 1) := by decide +kernel
theorem d_M_moveForComing_47 : decode b_M_moveForComing 47 = .ok (.iinc 3 1, 3) := by decide +kernel
theorem d_M_moveForComing_50 : decode b_M_moveForComing 50 = .ok (.goto (-48), 3) := by decide +kernel
theorem d_M_moveForComing_53 : decode b_M_moveForComing 53 = .ok (.return_, 1) := by decide +kernel
theorem d_M_moveForGoing_0 : decode b_M_moveForGoing 0 = .ok (.iconst 0, 1) := by decide +kernel
theorem d_M_moveForGoing_1 : decode b_M_moveForGoing 1 = .ok (.istore_n 3, 1) := by decide +kernel
theorem d_M_moveForGoing_2 : decode b_M_moveForGoing 2 = .ok (.iload_n 3, 1) := by decide +kernel
theorem d_M_moveForGoing_3 : decode b_M_moveForGoing 3 = .ok (.bipush 6, 2) := by decide +kernel
theorem d_M_moveForGoing_5 : decode b_M_moveForGoing 5 = .ok (.if_icmp .ge 51, 3) := by decide +kernel
theorem d_M_moveForGoing_8 : decode b_M_moveForGoing 8 = .ok (.aload_n 0, 1) := by decide +kernel
theorem d_M_moveForGoing_9 : decode b_M_moveForGoing 9 = .ok (.getfield 9, 3) := by decide +kernel
theorem d_M_moveForGoing_12 : decode b_M_moveForGoing 12 = .ok (.iload_n 3, 1) := by decide +kernel
theorem d_M_moveForGoing_13 : decode b_M_moveForGoing 13 = .ok (.iaload, 1) := by decide +kernel
theorem d_M_moveForGoing_14 : decode b_M_moveForGoing 14 = .ok (.iload_n 1, 1) := by decide +kernel
theorem d_M_moveForGoing_15 : decode b_M_moveForGoing 15 = .ok (.iload_n 2, 1) := by decide +kernel
theorem d_M_moveForGoing_16 : decode b_M_moveForGoing 16 = .ok (.iadd, 1) := by decide +kernel
theorem d_M_moveForGoing_17 : decode b_M_moveForGoing 17 = .ok (.if_icmp .lt 16, 3) := by decide +kernel
theorem d_M_moveForGoing_20 : decode b_M_moveForGoing 20 = .ok (.aload_n 0, 1) := by decide +kernel
theorem d_M_moveForGoing_21 : decode b_M_moveForGoing 21 = .ok (.getfield 9, 3) := by decide +kernel
theorem d_M_moveForGoing_24 : decode b_M_moveForGoing 24 = .ok (.iload_n 3, 1) := by decide +kernel
theorem d_M_moveForGoing_25 : decode b_M_moveForGoing 25 = .ok (.dup2, 1) := by decide +kernel
theorem d_M_moveForGoing_26 : decode b_M_moveForGoing 26 = .ok (.iaload, 1) := by decide +kernel
theorem d_M_moveForGoing_27 : decode b_M_moveForGoing 27 = .ok (.iload_n 2, 1) := by decide +kernel
theorem d_M_moveForGoing_28 : decode b_M_moveForGoing 28 = .ok (.isub, 1) := by decide +kernel
theorem d_M_moveForGoing_29 : decode b_M_moveForGoing 29 = .ok (.iastore, 1) := by decide +kernel
theorem d_M_moveForGoing_30 : decode b_M_moveForGoing 30 = .ok (.goto 20, 3) := by decide +kernel
theorem d_M_moveForGoing_33 : decode b_M_moveForGoing 33 = .ok (.aload_n 0, 1) := by decide +kernel
theorem d_M_moveForGoing_34 : decode b_M_moveForGoing 34 = .ok (.getfield 9, 3) := by decide +kernel
theorem d_M_moveForGoing_37 : decode b_M_moveForGoing 37 = .ok (.iload_n 3, 1) := by decide +kernel
theorem d_M_moveForGoing_38 : decode b_M_moveForGoing 38 = .ok (.iaload, 1) := by decide +kernel
theorem d_M_moveForGoing_39 : decode b_M_moveForGoing 39 = .ok (.iload_n 1, 1) := by decide +kernel
theorem d_M_moveForGoing_40 : decode b_M_moveForGoing 40 = .ok (.if_icmp .le 10, 3) := by decide +kernel
theorem d_M_moveForGoing_43 : decode b_M_moveForGoing 43 = .ok (.aload_n 0, 1) := by decide +kernel
theorem d_M_moveForGoing_44 : decode b_M_moveForGoing 44 = .ok (.getfield 9, 3) := by decide +kernel
theorem d_M_moveForGoing_47 : decode b_M_moveForGoing 47 = .ok (.iload_n 3, 1) := by decide +kernel
theorem d_M_moveForGoing_48 : decode b_M_moveForGoing 48 = .ok (.iload_n 1, 1) := by decide +kernel
theorem d_M_moveForGoing_49 : decode b_M_moveForGoing 49 = .ok (.iastore, 1) := by decide +kernel
theorem d_M_moveForGoing_50 : decode b_M_moveForGoing 50 = .ok (.iinc 3 1, 3) := by decide +kernel
theorem d_M_moveForGoing_53 : decode b_M_moveForGoing 53 = .ok (.goto (-51), 3) := by decide +kernel
theorem d_M_moveForGoing_56 : decode b_M_moveForGoing 56 = .ok (.return_, 1) := by decide +kernel
theorem d_M_firstFrom_0 : decode b_M_firstFrom 0 = .ok (.iconst (-1), 1) := by decide +kernel
theorem d_M_firstFrom_1 : decode b_M_firstFrom 1 = .ok (.istore_n 2, 1) := by decide +kernel
theorem d_M_firstFrom_2 : decode b_M_firstFrom 2 = .ok (.iconst 0, 1) := by decide +kernel
theorem d_M_firstFrom_3 : decode b_M_firstFrom 3 = .ok (.istore_n 3, 1) := by decide +kernel
theorem d_M_firstFrom_4 : decode b_M_firstFrom 4 = .ok (.iload_n 3, 1) := by decide +kernel
theorem d_M_firstFrom_5 : decode b_M_firstFrom 5 = .ok (.bipush 6, 2) := by decide +kernel
theorem d_M_firstFrom_7 : decode b_M_firstFrom 7 = .ok (.if_icmp .ge 41, 3) := by decide +kernel
theorem d_M_firstFrom_10 : decode b_M_firstFrom 10 = .ok (.aload_n 0, 1) := by decide +kernel
theorem d_M_firstFrom_11 : decode b_M_firstFrom 11 = .ok (.getfield 9, 3) := by decide +kernel
theorem d_M_firstFrom_14 : decode b_M_firstFrom 14 = .ok (.iload_n 3, 1) := by decide +kernel
theorem d_M_firstFrom_15 : decode b_M_firstFrom 15 = .ok (.iaload, 1) := by decide +kernel
theorem d_M_firstFrom_16 : decode b_M_firstFrom 16 = .ok (.iload_n 1, 1) := by decide +kernel
theorem d_M_firstFrom_17 : decode b_M_firstFrom 17 = .ok (.if_icmp .lt 25, 3) := by decide +kernel
theorem d_M_firstFrom_20 : decode b_M_firstFrom 20 = .ok (.iload_n 2, 1) := by decide +kernel
theorem d_M_firstFrom_21 : decode b_M_firstFrom 21 = .ok (.iconst (-1), 1) := by decide +kernel
theorem d_M_firstFrom_22 : decode b_M_firstFrom 22 = .ok (.if_icmp .eq 18, 3) := by decide +kernel
theorem d_M_firstFrom_25 : decode b_M_firstFrom 25 = .ok (.aload_n 0, 1) := by decide +kernel
theorem d_M_firstFrom_26 : decode b_M_firstFrom 26 = .ok (.getfield 9, 3) := by decide +kernel
theorem d_M_firstFrom_29 : decode b_M_firstFrom 29 = .ok (.iload_n 3, 1) := by decide +kernel
theorem d_M_firstFrom_30 : decode b_M_firstFrom 30 = .ok (.iaload, 1) := by decide +kernel
theorem d_M_firstFrom_31 : decode b_M_firstFrom 31 = .ok (.aload_n 0, 1) := by decide +kernel
theorem d_M_firstFrom_32 : decode b_M_firstFrom 32 = .ok (.getfield 9, 3) := by decide +kernel
theorem d_M_firstFrom_35 : decode b_M_firstFrom 35 = .ok (.iload_n 2, 1) := by decide +kernel
theorem d_M_firstFrom_36 : decode b_M_firstFrom 36 = .ok (.iaload, 1) := by decide +kernel
theorem d_M_firstFrom_37 : decode b_M_firstFrom 37 = .ok (.if_icmp .ge 5, 3) := by decide +kernel
theorem d_M_firstFrom_40 : decode b_M_firstFrom 40 = .ok (.iload_n 3, 1) := by decide +kernel
theorem d_M_firstFrom_41 : decode b_M_firstFrom 41 = .ok (.istore_n 2, 1) := by decide +kernel
theorem d_M_firstFrom_42 : decode b_M_firstFrom 42 = .ok (.iinc 3 1, 3) := by decide +kernel
theorem d_M_firstFrom_45 : decode b_M_firstFrom 45 = .ok (.goto (-41), 3) := by decide +kernel
theorem d_M_firstFrom_48 : decode b_M_firstFrom 48 = .ok (.iload_n 2, 1) := by decide +kernel
theorem d_M_firstFrom_49 : decode b_M_firstFrom 49 = .ok (.ireturn, 1) := by decide +kernel
theorem d_V_init_0 : decode b_V_init 0 = .ok (.aload_n 0, 1) := by decide +kernel
theorem d_V_init_1 : decode b_V_init 1 = .ok (.invokespecial 1, 3) := by decide +kernel
theorem d_V_init_4 : decode b_V_init 4 = .ok (.aload_n 0, 1) := by decide +kernel
theorem d_V_init_5 : decode b_V_init 5 = .ok (.iload_n 1, 1) := by decide +kernel
theorem d_V_init_6 : decode b_V_init 6 = .ok (.putfield 7, 3) := by decide +kernel
theorem d_V_init_9 : decode b_V_init 9 = .ok (.aload_n 0, 1) := by decide +kernel
theorem d_V_init_10 : decode b_V_init 10 = .ok (.aload_n 2, 1) := by decide +kernel
theorem d_V_init_11 : decode b_V_init 11 = .ok (.putfield 13, 3) := by decide +kernel
theorem d_V_init_14 : decode b_V_init 14 = .ok (.aload_n 0, 1) := by decide +kernel
theorem d_V_init_15 : decode b_V_init 15 = .ok (.iload_n 3, 1) := by decide +kernel
theorem d_V_init_16 : decode b_V_init 16 = .ok (.putfield 17, 3) := by decide +kernel
theorem d_V_init_19 : decode b_V_init 19 = .ok (.aload_n 0, 1) := by decide +kernel
theorem d_V_init_20 : decode b_V_init 20 = .ok (.iload 4, 2) := by decide +kernel
theorem d_V_init_22 : decode b_V_init 22 = .ok (.putfield 21, 3) := by decide +kernel
theorem d_V_init_25 : decode b_V_init 25 = .ok (.aload_n 0, 1) := by decide +kernel
theorem d_V_init_26 : decode b_V_init 26 = .ok (.aload 5, 2) := by decide +kernel
theorem d_V_init_28 : decode b_V_init 28 = .ok (.putfield 24, 3) := by decide +kernel
theorem d_V_init_31 : decode b_V_init 31 = .ok (.aload_n 0, 1) := by decide +kernel
theorem d_V_init_32 : decode b_V_init 32 = .ok (.iconst 0, 1) := by decide +kernel
theorem d_V_init_33 : decode b_V_init 33 = .ok (.putfield 28, 3) := by decide +kernel
theorem d_V_init_36 : decode b_V_init 36 = .ok (.aload_n 0, 1) := by decide +kernel
theorem d_V_init_37 : decode b_V_init 37 = .ok (.aconst_null, 1) := by decide +kernel
theorem d_V_init_38 : decode b_V_init 38 = .ok (.putfield 31, 3) := by decide +kernel
theorem d_V_init_41 : decode b_V_init 41 = .ok (.return_, 1) := by decide +kernel
theorem d_B_init_0 : decode b_B_init 0 = .ok (.aload_n 0, 1) := by decide +kernel
theorem d_B_init_1 : decode b_B_init 1 = .ok (.invokespecial 1, 3) := by decide +kernel
theorem d_B_init_4 : decode b_B_init 4 = .ok (.aload_n 0, 1) := by decide +kernel
theorem d_B_init_5 : decode b_B_init 5 = .ok (.new 7, 3) := by decide +kernel
theorem d_B_init_8 : decode b_B_init 8 = .ok (.dup, 1) := by decide +kernel
theorem d_B_init_9 : decode b_B_init 9 = .ok (.sipush 2000, 3) := by decide +kernel
theorem d_B_init_12 : decode b_B_init 12 = .ok (.invokespecial 11, 3) := by decide +kernel
theorem d_B_init_15 : decode b_B_init 15 = .ok (.putfield 14, 3) := by decide +kernel
theorem d_B_init_18 : decode b_B_init 18 = .ok (.aload_n 0, 1) := by decide +kernel
theorem d_B_init_19 : decode b_B_init 19 = .ok (.new 7, 3) := by decide +kernel
theorem d_B_init_22 : decode b_B_init 22 = .ok (.dup, 1) := by decide +kernel
theorem d_B_init_23 : decode b_B_init 23 = .ok (.bipush 40, 2) := by decide +kernel
theorem d_B_init_25 : decode b_B_init 25 = .ok (.invokespecial 11, 3) := by decide +kernel
theorem d_B_init_28 : decode b_B_init 28 = .ok (.putfield 18, 3) := by decide +kernel
theorem d_B_init_31 : decode b_B_init 31 = .ok (.aload_n 0, 1) := by decide +kernel
theorem d_B_init_32 : decode b_B_init 32 = .ok (.new 21, 3) := by decide +kernel
theorem d_B_init_35 : decode b_B_init 35 = .ok (.dup, 1) := by decide +kernel
theorem d_B_init_36 : decode b_B_init 36 = .ok (.invokespecial 23, 3) := by decide +kernel
theorem d_B_init_39 : decode b_B_init 39 = .ok (.putfield 24, 3) := by decide +kernel
theorem d_B_init_42 : decode b_B_init 42 = .ok (.aload_n 0, 1) := by decide +kernel
theorem d_B_init_43 : decode b_B_init 43 = .ok (.bipush 122, 2) := by decide +kernel
theorem d_B_init_45 : decode b_B_init 45 = .ok (.anewarray 28, 3) := by decide +kernel
theorem d_B_init_48 : decode b_B_init 48 = .ok (.putfield 30, 3) := by decide +kernel
theorem d_B_init_51 : decode b_B_init 51 = .ok (.aload_n 0, 1) := by decide +kernel
theorem d_B_init_52 : decode b_B_init 52 = .ok (.bipush 122, 2) := by decide +kernel
theorem d_B_init_54 : decode b_B_init 54 = .ok (.anewarray 28, 3) := by decide +kernel
theorem d_B_init_57 : decode b_B_init 57 = .ok (.putfield 34, 3) := by decide +kernel
theorem d_B_init_60 : decode b_B_init 60 = .ok (.aload_n 0, 1) := by decide +kernel
theorem d_B_init_61 : decode b_B_init 61 = .ok (.new 28, 3) := by decide +kernel
theorem d_B_init_64 : decode b_B_init 64 = .ok (.dup, 1) := by decide +kernel
theorem d_B_init_65 : decode b_B_init 65 = .ok (.iconst 0, 1) := by decide +kernel
theorem d_B_init_66 : decode b_B_init 66 = .ok (.aconst_null, 1) := by decide +kernel
theorem d_B_init_67 : decode b_B_init 67 = .ok (.iconst 0, 1) := by decide +kernel
theorem d_B_init_68 : decode b_B_init 68 = .ok (.iconst 0, 1) := by decide +kernel
theorem d_B_init_69 : decode b_B_init 69 = .ok (.iconst 0, 1) := by decide +kernel
theorem d_B_init_70 : decode b_B_init 70 = .ok (.newarray .char, 2) := by decide +kernel
theorem d_B_init_72 : decode b_B_init 72 = .ok (.invokespecial 37, 3) := by decide +kernel
theorem d_B_init_75 : decode b_B_init 75 = .ok (.putfield 40, 3) := by decide +kernel
theorem d_B_init_78 : decode b_B_init 78 = .ok (.aload_n 0, 1) := by decide +kernel
theorem d_B_init_79 : decode b_B_init 79 = .ok (.getfield 30, 3) := by decide +kernel
theorem d_B_init_82 : decode b_B_init 82 = .ok (.iconst 0, 1) := by decide +kernel
theorem d_B_init_83 : decode b_B_init 83 = .ok (.aload_n 0, 1) := by decide +kernel
theorem d_B_init_84 : decode b_B_init 84 = .ok (.getfield 40, 3) := by decide +kernel
theorem d_B_init_87 : decode b_B_init 87 = .ok (.aastore, 1) := by decide +kernel
theorem d_B_init_88 : decode b_B_init 88 = .ok (.aload_n 0, 1) := by decide +kernel
theorem d_B_init_89 : decode b_B_init 89 = .ok (.iconst 1, 1) := by decide +kernel
theorem d_B_init_90 : decode b_B_init 90 = .ok (.putfield 44, 3) := by decide +kernel
theorem d_B_init_93 : decode b_B_init 93 = .ok (.aload_n 0, 1) := by decide +kernel
theorem d_B_init_94 : decode b_B_init 94 = .ok (.iconst 0, 1) := by decide +kernel
theorem d_B_init_95 : decode b_B_init 95 = .ok (.putfield 48, 3) := by decide +kernel
theorem d_B_init_98 : decode b_B_init 98 = .ok (.return_, 1) := by decide +kernel
theorem d_B_type_0 : decode b_B_type 0 = .ok (.iload_n 1, 1) := by decide +kernel
theorem d_B_type_1 : decode b_B_type 1 = .ok (.invokestatic 51, 3) := by decide +kernel
theorem d_B_type_4 : decode b_B_type 4 = .ok (.ifCond .eq 15, 3) := by decide +kernel
theorem d_B_type_7 : decode b_B_type 7 = .ok (.aload_n 0, 1) := by decide +kernel
theorem d_B_type_8 : decode b_B_type 8 = .ok (.getfield 18, 3) := by decide +kernel
theorem d_B_type_11 : decode b_B_type 11 = .ok (.getfield 55, 3) := by decide +kernel
theorem d_B_type_14 : decode b_B_type 14 = .ok (.bipush 40, 2) := by decide +kernel
theorem d_B_type_16 : decode b_B_type 16 = .ok (.if_icmp .ne 5, 3) := by decide +kernel
theorem d_B_type_19 : decode b_B_type 19 = .ok (.iconst 0, 1) := by decide +kernel
theorem d_B_type_20 : decode b_B_type 20 = .ok (.ireturn, 1) := by decide +kernel
theorem d_B_type_21 : decode b_B_type 21 = .ok (.aload_n 0, 1) := by decide +kernel
theorem d_B_type_22 : decode b_B_type 22 = .ok (.getfield 18, 3) := by decide +kernel
theorem d_B_type_25 : decode b_B_type 25 = .ok (.getfield 58, 3) := by decide +kernel
theorem d_B_type_28 : decode b_B_type 28 = .ok (.aload_n 0, 1) := by decide +kernel
theorem d_B_type_29 : decode b_B_type 29 = .ok (.getfield 18, 3) := by decide +kernel
theorem d_B_type_32 : decode b_B_type 32 = .ok (.getfield 55, 3) := by decide +kernel
theorem d_B_type_35 : decode b_B_type 35 = .ok (.iload_n 1, 1) := by decide +kernel
theorem d_B_type_36 : decode b_B_type 36 = .ok (.castore, 1) := by decide +kernel
theorem d_B_type_37 : decode b_B_type 37 = .ok (.aload_n 0, 1) := by decide +kernel
theorem d_B_type_38 : decode b_B_type 38 = .ok (.getfield 18, 3) := by decide +kernel
theorem d_B_type_41 : decode b_B_type 41 = .ok (.dup, 1) := by decide +kernel
theorem d_B_type_42 : decode b_B_type 42 = .ok (.getfield 55, 3) := by decide +kernel
theorem d_B_type_45 : decode b_B_type 45 = .ok (.iconst 1, 1) := by decide +kernel
theorem d_B_type_46 : decode b_B_type 46 = .ok (.iadd, 1) := by decide +kernel
theorem d_B_type_47 : decode b_B_type 47 = .ok (.putfield 55, 3) := by decide +kernel
theorem d_B_type_50 : decode b_B_type 50 = .ok (.iconst 1, 1) := by decide +kernel
theorem d_B_type_51 : decode b_B_type 51 = .ok (.ireturn, 1) := by decide +kernel
theorem d_B_wipe_0 : decode b_B_wipe 0 = .ok (.aload_n 0, 1) := by decide +kernel
theorem d_B_wipe_1 : decode b_B_wipe 1 = .ok (.getfield 18, 3) := by decide +kernel
theorem d_B_wipe_4 : decode b_B_wipe 4 = .ok (.iconst 0, 1) := by decide +kernel
theorem d_B_wipe_5 : decode b_B_wipe 5 = .ok (.putfield 55, 3) := by decide +kernel
theorem d_B_wipe_8 : decode b_B_wipe 8 = .ok (.return_, 1) := by decide +kernel
theorem d_B_scratch_0 : decode b_B_scratch 0 = .ok (.aload_n 0, 1) := by decide +kernel
theorem d_B_scratch_1 : decode b_B_scratch 1 = .ok (.getfield 18, 3) := by decide +kernel
theorem d_B_scratch_4 : decode b_B_scratch 4 = .ok (.getfield 55, 3) := by decide +kernel
theorem d_B_scratch_7 : decode b_B_scratch 7 = .ok (.ireturn, 1) := by decide +kernel
theorem d_B_copy_0 : decode b_B_copy 0 = .ok (.aload_n 0, 1) := by decide +kernel
theorem d_B_copy_1 : decode b_B_copy 1 = .ok (.getfield 14, 3) := by decide +kernel
theorem d_B_copy_4 : decode b_B_copy 4 = .ok (.iload_n 1, 1) := by decide +kernel
theorem d_B_copy_5 : decode b_B_copy 5 = .ok (.iload_n 2, 1) := by decide +kernel
theorem d_B_copy_6 : decode b_B_copy 6 = .ok (.invokevirtual 62, 3) := by decide +kernel
theorem d_B_copy_9 : decode b_B_copy 9 = .ok (.ifCond .eq 9, 3) := by decide +kernel
theorem d_B_copy_12 : decode b_B_copy 12 = .ok (.iload_n 2, 1) := by decide +kernel
theorem d_B_copy_13 : decode b_B_copy 13 = .ok (.bipush 40, 2) := by decide +kernel
theorem d_B_copy_15 : decode b_B_copy 15 = .ok (.if_icmp .le 5, 3) := by decide +kernel
theorem d_B_copy_18 : decode b_B_copy 18 = .ok (.iconst (-1), 1) := by decide +kernel
theorem d_B_copy_19 : decode b_B_copy 19 = .ok (.ireturn, 1) := by decide +kernel
theorem d_B_copy_20 : decode b_B_copy 20 = .ok (.aload_n 0, 1) := by decide +kernel
theorem d_B_copy_21 : decode b_B_copy 21 = .ok (.getfield 14, 3) := by decide +kernel
theorem d_B_copy_24 : decode b_B_copy 24 = .ok (.getfield 58, 3) := by decide +kernel
theorem d_B_copy_27 : decode b_B_copy 27 = .ok (.iload_n 1, 1) := by decide +kernel
theorem d_B_copy_28 : decode b_B_copy 28 = .ok (.aload_n 0, 1) := by decide +kernel
theorem d_B_copy_29 : decode b_B_copy 29 = .ok (.getfield 18, 3) := by decide +kernel
theorem d_B_copy_32 : decode b_B_copy 32 = .ok (.getfield 58, 3) := by decide +kernel
theorem d_B_copy_35 : decode b_B_copy 35 = .ok (.iconst 0, 1) := by decide +kernel
theorem d_B_copy_36 : decode b_B_copy 36 = .ok (.iload_n 2, 1) := by decide +kernel
theorem d_B_copy_37 : decode b_B_copy 37 = .ok (.invokestatic 66, 3) := by decide +kernel
theorem d_B_copy_40 : decode b_B_copy 40 = .ok (.aload_n 0, 1) := by decide +kernel
theorem d_B_copy_41 : decode b_B_copy 41 = .ok (.getfield 18, 3) := by decide +kernel
theorem d_B_copy_44 : decode b_B_copy 44 = .ok (.iload_n 2, 1) := by decide +kernel
theorem d_B_copy_45 : decode b_B_copy 45 = .ok (.putfield 55, 3) := by decide +kernel
theorem d_B_copy_48 : decode b_B_copy 48 = .ok (.iload_n 2, 1) := by decide +kernel
theorem d_B_copy_49 : decode b_B_copy 49 = .ok (.ireturn, 1) := by decide +kernel
theorem d_B_insert_0 : decode b_B_insert 0 = .ok (.aload_n 0, 1) := by decide +kernel
theorem d_B_insert_1 : decode b_B_insert 1 = .ok (.getfield 14, 3) := by decide +kernel
theorem d_B_insert_4 : decode b_B_insert 4 = .ok (.iload_n 1, 1) := by decide +kernel
theorem d_B_insert_5 : decode b_B_insert 5 = .ok (.invokevirtual 72, 3) := by decide +kernel
theorem d_B_insert_8 : decode b_B_insert 8 = .ok (.ifCond .ne 5, 3) := by decide +kernel
theorem d_B_insert_11 : decode b_B_insert 11 = .ok (.iconst (-1), 1) := by decide +kernel
theorem d_B_insert_12 : decode b_B_insert 12 = .ok (.ireturn, 1) := by decide +kernel
theorem d_B_insert_13 : decode b_B_insert 13 = .ok (.aload_n 0, 1) := by decide +kernel
theorem d_B_insert_14 : decode b_B_insert 14 = .ok (.getfield 18, 3) := by decide +kernel
theorem d_B_insert_17 : decode b_B_insert 17 = .ok (.getfield 55, 3) := by decide +kernel
theorem d_B_insert_20 : decode b_B_insert 20 = .ok (.ifCond .ne 6, 3) := by decide +kernel
theorem d_B_insert_23 : decode b_B_insert 23 = .ok (.bipush (-2), 2) := by decide +kernel
theorem d_B_insert_25 : decode b_B_insert 25 = .ok (.ireturn, 1) := by decide +kernel
theorem d_B_insert_26 : decode b_B_insert 26 = .ok (.aload_n 0, 1) := by decide +kernel
theorem d_B_insert_27 : decode b_B_insert 27 = .ok (.getfield 44, 3) := by decide +kernel
theorem d_B_insert_30 : decode b_B_insert 30 = .ok (.bipush 122, 2) := by decide +kernel
theorem d_B_insert_32 : decode b_B_insert 32 = .ok (.if_icmp .eq 21, 3) := by decide +kernel
theorem d_B_insert_35 : decode b_B_insert 35 = .ok (.aload_n 0, 1) := by decide +kernel
theorem d_B_insert_36 : decode b_B_insert 36 = .ok (.getfield 48, 3) := by decide +kernel
theorem d_B_insert_39 : decode b_B_insert 39 = .ok (.aload_n 0, 1) := by decide +kernel
theorem d_B_insert_40 : decode b_B_insert 40 = .ok (.getfield 18, 3) := by decide +kernel
theorem d_B_insert_43 : decode b_B_insert 43 = .ok (.getfield 55, 3) := by decide +kernel
theorem d_B_insert_46 : decode b_B_insert 46 = .ok (.iadd, 1) := by decide +kernel
theorem d_B_insert_47 : decode b_B_insert 47 = .ok (.sipush 2000, 3) := by decide +kernel
theorem d_B_insert_50 : decode b_B_insert 50 = .ok (.if_icmp .le 6, 3) := by decide +kernel
theorem d_B_insert_53 : decode b_B_insert 53 = .ok (.bipush (-3), 2) := by decide +kernel
theorem d_B_insert_55 : decode b_B_insert 55 = .ok (.ireturn, 1) := by decide +kernel
theorem d_B_insert_56 : decode b_B_insert 56 = .ok (.aload_n 0, 1) := by decide +kernel
theorem d_B_insert_57 : decode b_B_insert 57 = .ok (.dup, 1) := by decide +kernel
theorem d_B_insert_58 : decode b_B_insert 58 = .ok (.getfield 48, 3) := by decide +kernel
theorem d_B_insert_61 : decode b_B_insert 61 = .ok (.aload_n 0, 1) := by decide +kernel
theorem d_B_insert_62 : decode b_B_insert 62 = .ok (.getfield 18, 3) := by decide +kernel
theorem d_B_insert_65 : decode b_B_insert 65 = .ok (.getfield 55, 3) := by decide +kernel
theorem d_B_insert_68 : decode b_B_insert 68 = .ok (.iadd, 1) := by decide +kernel
theorem d_B_insert_69 : decode b_B_insert 69 = .ok (.putfield 48, 3) := by decide +kernel
theorem d_B_insert_72 : decode b_B_insert 72 = .ok (.aload_n 0, 1) := by decide +kernel
theorem d_B_insert_73 : decode b_B_insert 73 = .ok (.iconst 1, 1) := by decide +kernel
theorem d_B_insert_74 : decode b_B_insert 74 = .ok (.iload_n 1, 1) := by decide +kernel
theorem d_B_insert_75 : decode b_B_insert 75 = .ok (.aload_n 0, 1) := by decide +kernel
theorem d_B_insert_76 : decode b_B_insert 76 = .ok (.getfield 18, 3) := by decide +kernel
theorem d_B_insert_79 : decode b_B_insert 79 = .ok (.iconst 0, 1) := by decide +kernel
theorem d_B_insert_80 : decode b_B_insert 80 = .ok (.aload_n 0, 1) := by decide +kernel
theorem d_B_insert_81 : decode b_B_insert 81 = .ok (.getfield 18, 3) := by decide +kernel
theorem d_B_insert_84 : decode b_B_insert 84 = .ok (.getfield 55, 3) := by decide +kernel
theorem d_B_insert_87 : decode b_B_insert 87 = .ok (.invokevirtual 76, 3) := by decide +kernel
theorem d_B_insert_90 : decode b_B_insert 90 = .ok (.invokevirtual 80, 3) := by decide +kernel
theorem d_B_insert_93 : decode b_B_insert 93 = .ok (.ireturn, 1) := by decide +kernel
theorem d_B_delete_0 : decode b_B_delete 0 = .ok (.aload_n 0, 1) := by decide +kernel
theorem d_B_delete_1 : decode b_B_delete 1 = .ok (.getfield 14, 3) := by decide +kernel
theorem d_B_delete_4 : decode b_B_delete 4 = .ok (.iload_n 1, 1) := by decide +kernel
theorem d_B_delete_5 : decode b_B_delete 5 = .ok (.iload_n 2, 1) := by decide +kernel
theorem d_B_delete_6 : decode b_B_delete 6 = .ok (.invokevirtual 62, 3) := by decide +kernel
theorem d_B_delete_9 : decode b_B_delete 9 = .ok (.ifCond .ne 5, 3) := by decide +kernel
theorem d_B_delete_12 : decode b_B_delete 12 = .ok (.iconst (-1), 1) := by decide +kernel
theorem d_B_delete_13 : decode b_B_delete 13 = .ok (.ireturn, 1) := by decide +kernel
theorem d_B_delete_14 : decode b_B_delete 14 = .ok (.iload_n 2, 1) := by decide +kernel
theorem d_B_delete_15 : decode b_B_delete 15 = .ok (.ifCond .ne 6, 3) := by decide +kernel
theorem d_B_delete_18 : decode b_B_delete 18 = .ok (.bipush (-2), 2) := by decide +kernel
theorem d_B_delete_20 : decode b_B_delete 20 = .ok (.ireturn, 1) := by decide +kernel
theorem d_B_delete_21 : decode b_B_delete 21 = .ok (.aload_n 0, 1) := by decide +kernel
theorem d_B_delete_22 : decode b_B_delete 22 = .ok (.getfield 44, 3) := by decide +kernel
theorem d_B_delete_25 : decode b_B_delete 25 = .ok (.bipush 122, 2) := by decide +kernel
theorem d_B_delete_27 : decode b_B_delete 27 = .ok (.if_icmp .ne 6, 3) := by decide +kernel
theorem d_B_delete_30 : decode b_B_delete 30 = .ok (.bipush (-3), 2) := by decide +kernel
theorem d_B_delete_32 : decode b_B_delete 32 = .ok (.ireturn, 1) := by decide +kernel
theorem d_B_delete_33 : decode b_B_delete 33 = .ok (.aload_n 0, 1) := by decide +kernel
theorem d_B_delete_34 : decode b_B_delete 34 = .ok (.iconst 0, 1) := by decide +kernel
theorem d_B_delete_35 : decode b_B_delete 35 = .ok (.iload_n 1, 1) := by decide +kernel
theorem d_B_delete_36 : decode b_B_delete 36 = .ok (.aload_n 0, 1) := by decide +kernel
theorem d_B_delete_37 : decode b_B_delete 37 = .ok (.getfield 14, 3) := by decide +kernel
theorem d_B_delete_40 : decode b_B_delete 40 = .ok (.iload_n 1, 1) := by decide +kernel
theorem d_B_delete_41 : decode b_B_delete 41 = .ok (.iload_n 2, 1) := by decide +kernel
theorem d_B_delete_42 : decode b_B_delete 42 = .ok (.invokevirtual 76, 3) := by decide +kernel
theorem d_B_delete_45 : decode b_B_delete 45 = .ok (.invokevirtual 80, 3) := by decide +kernel
theorem d_B_delete_48 : decode b_B_delete 48 = .ok (.ireturn, 1) := by decide +kernel
theorem d_B_undo_0 : decode b_B_undo 0 = .ok (.aload_n 0, 1) := by decide +kernel
theorem d_B_undo_1 : decode b_B_undo 1 = .ok (.getfield 40, 3) := by decide +kernel
theorem d_B_undo_4 : decode b_B_undo 4 = .ok (.getfield 84, 3) := by decide +kernel
theorem d_B_undo_7 : decode b_B_undo 7 = .ok (.astore_n 1, 1) := by decide +kernel
theorem d_B_undo_8 : decode b_B_undo 8 = .ok (.aload_n 1, 1) := by decide +kernel
theorem d_B_undo_9 : decode b_B_undo 9 = .ok (.ifnonnull 5, 3) := by decide +kernel
theorem d_B_undo_12 : decode b_B_undo 12 = .ok (.iconst (-1), 1) := by decide +kernel
theorem d_B_undo_13 : decode b_B_undo 13 = .ok (.ireturn, 1) := by decide +kernel
theorem d_B_undo_14 : decode b_B_undo 14 = .ok (.aload_n 0, 1) := by decide +kernel
theorem d_B_undo_15 : decode b_B_undo 15 = .ok (.aload_n 1, 1) := by decide +kernel
theorem d_B_undo_16 : decode b_B_undo 16 = .ok (.invokevirtual 87, 3) := by decide +kernel
theorem d_B_undo_19 : decode b_B_undo 19 = .ok (.aload_n 0, 1) := by decide +kernel
theorem d_B_undo_20 : decode b_B_undo 20 = .ok (.getfield 40, 3) := by decide +kernel
theorem d_B_undo_23 : decode b_B_undo 23 = .ok (.getfield 91, 3) := by decide +kernel
theorem d_B_undo_26 : decode b_B_undo 26 = .ok (.ireturn, 1) := by decide +kernel
theorem d_B_redo_0 : decode b_B_redo 0 = .ok (.aload_n 0, 1) := by decide +kernel
theorem d_B_redo_1 : decode b_B_redo 1 = .ok (.getfield 40, 3) := by decide +kernel
theorem d_B_redo_4 : decode b_B_redo 4 = .ok (.getfield 94, 3) := by decide +kernel
theorem d_B_redo_7 : decode b_B_redo 7 = .ok (.astore_n 1, 1) := by decide +kernel
theorem d_B_redo_8 : decode b_B_redo 8 = .ok (.aload_n 1, 1) := by decide +kernel
theorem d_B_redo_9 : decode b_B_redo 9 = .ok (.ifnonnull 5, 3) := by decide +kernel
theorem d_B_redo_12 : decode b_B_redo 12 = .ok (.iconst (-1), 1) := by decide +kernel
theorem d_B_redo_13 : decode b_B_redo 13 = .ok (.ireturn, 1) := by decide +kernel
theorem d_B_redo_14 : decode b_B_redo 14 = .ok (.aload_n 0, 1) := by decide +kernel
theorem d_B_redo_15 : decode b_B_redo 15 = .ok (.aload_n 1, 1) := by decide +kernel
theorem d_B_redo_16 : decode b_B_redo 16 = .ok (.invokevirtual 97, 3) := by decide +kernel
theorem d_B_redo_19 : decode b_B_redo 19 = .ok (.aload_n 0, 1) := by decide +kernel
theorem d_B_redo_20 : decode b_B_redo 20 = .ok (.getfield 40, 3) := by decide +kernel
theorem d_B_redo_23 : decode b_B_redo 23 = .ok (.getfield 91, 3) := by decide +kernel
theorem d_B_redo_26 : decode b_B_redo 26 = .ok (.ireturn, 1) := by decide +kernel
theorem d_B_goTo_0 : decode b_B_goTo 0 = .ok (.aload_n 0, 1) := by decide +kernel
theorem d_B_goTo_1 : decode b_B_goTo 1 = .ok (.iload_n 1, 1) := by decide +kernel
theorem d_B_goTo_2 : decode b_B_goTo 2 = .ok (.invokevirtual 100, 3) := by decide +kernel
theorem d_B_goTo_5 : decode b_B_goTo 5 = .ok (.astore_n 2, 1) := by decide +kernel
theorem d_B_goTo_6 : decode b_B_goTo 6 = .ok (.aload_n 2, 1) := by decide +kernel
theorem d_B_goTo_7 : decode b_B_goTo 7 = .ok (.ifnonnull 5, 3) := by decide +kernel
theorem d_B_goTo_10 : decode b_B_goTo 10 = .ok (.iconst (-1), 1) := by decide +kernel
theorem d_B_goTo_11 : decode b_B_goTo 11 = .ok (.ireturn, 1) := by decide +kernel
theorem d_B_goTo_12 : decode b_B_goTo 12 = .ok (.iconst 0, 1) := by decide +kernel
theorem d_B_goTo_13 : decode b_B_goTo 13 = .ok (.istore_n 3, 1) := by decide +kernel
theorem d_B_goTo_14 : decode b_B_goTo 14 = .ok (.iconst 0, 1) := by decide +kernel
theorem d_B_goTo_15 : decode b_B_goTo 15 = .ok (.istore 4, 2) := by decide +kernel
theorem d_B_goTo_17 : decode b_B_goTo 17 = .ok (.aload_n 0, 1) := by decide +kernel
theorem d_B_goTo_18 : decode b_B_goTo 18 = .ok (.getfield 40, 3) := by decide +kernel
theorem d_B_goTo_21 : decode b_B_goTo 21 = .ok (.aload_n 2, 1) := by decide +kernel
theorem d_B_goTo_22 : decode b_B_goTo 22 = .ok (.if_acmp .eq 97, 3) := by decide +kernel
theorem d_B_goTo_25 : decode b_B_goTo 25 = .ok (.iload_n 3, 1) := by decide +kernel
theorem d_B_goTo_26 : decode b_B_goTo 26 = .ok (.bipush 122, 2) := by decide +kernel
theorem d_B_goTo_28 : decode b_B_goTo 28 = .ok (.if_icmp .ge 91, 3) := by decide +kernel
theorem d_B_goTo_31 : decode b_B_goTo 31 = .ok (.iload 4, 2) := by decide +kernel
theorem d_B_goTo_33 : decode b_B_goTo 33 = .ok (.bipush 122, 2) := by decide +kernel
theorem d_B_goTo_35 : decode b_B_goTo 35 = .ok (.if_icmp .ge 84, 3) := by decide +kernel
theorem d_B_goTo_38 : decode b_B_goTo 38 = .ok (.aload_n 0, 1) := by decide +kernel
theorem d_B_goTo_39 : decode b_B_goTo 39 = .ok (.getfield 40, 3) := by decide +kernel
theorem d_B_goTo_42 : decode b_B_goTo 42 = .ok (.getfield 91, 3) := by decide +kernel
theorem d_B_goTo_45 : decode b_B_goTo 45 = .ok (.aload_n 2, 1) := by decide +kernel
theorem d_B_goTo_46 : decode b_B_goTo 46 = .ok (.getfield 91, 3) := by decide +kernel
theorem d_B_goTo_49 : decode b_B_goTo 49 = .ok (.if_icmp .le 13, 3) := by decide +kernel
theorem d_B_goTo_52 : decode b_B_goTo 52 = .ok (.aload_n 0, 1) := by decide +kernel
theorem d_B_goTo_53 : decode b_B_goTo 53 = .ok (.getfield 40, 3) := by decide +kernel
theorem d_B_goTo_56 : decode b_B_goTo 56 = .ok (.getfield 84, 3) := by decide +kernel
theorem d_B_goTo_59 : decode b_B_goTo 59 = .ok (.goto 7, 3) := by decide +kernel
theorem d_B_goTo_62 : decode b_B_goTo 62 = .ok (.aload_n 2, 1) := by decide +kernel
theorem d_B_goTo_63 : decode b_B_goTo 63 = .ok (.getfield 84, 3) := by decide +kernel
theorem d_B_goTo_66 : decode b_B_goTo 66 = .ok (.astore 5, 2) := by decide +kernel
theorem d_B_goTo_68 : decode b_B_goTo 68 = .ok (.aload 5, 2) := by decide +kernel
theorem d_B_goTo_70 : decode b_B_goTo 70 = .ok (.ifnonnull 6, 3) := by decide +kernel
theorem d_B_goTo_73 : decode b_B_goTo 73 = .ok (.goto 46, 3) := by decide +kernel
theorem d_B_goTo_76 : decode b_B_goTo 76 = .ok (.aload_n 0, 1) := by decide +kernel
theorem d_B_goTo_77 : decode b_B_goTo 77 = .ok (.getfield 40, 3) := by decide +kernel
theorem d_B_goTo_80 : decode b_B_goTo 80 = .ok (.getfield 91, 3) := by decide +kernel
theorem d_B_goTo_83 : decode b_B_goTo 83 = .ok (.aload_n 2, 1) := by decide +kernel
theorem d_B_goTo_84 : decode b_B_goTo 84 = .ok (.getfield 91, 3) := by decide +kernel
theorem d_B_goTo_87 : decode b_B_goTo 87 = .ok (.if_icmp .le 15, 3) := by decide +kernel
theorem d_B_goTo_90 : decode b_B_goTo 90 = .ok (.aload_n 0, 1) := by decide +kernel
theorem d_B_goTo_91 : decode b_B_goTo 91 = .ok (.aload 5, 2) := by decide +kernel
theorem d_B_goTo_93 : decode b_B_goTo 93 = .ok (.invokevirtual 87, 3) := by decide +kernel
theorem d_B_goTo_96 : decode b_B_goTo 96 = .ok (.iinc 3 1, 3) := by decide +kernel
theorem d_B_goTo_99 : decode b_B_goTo 99 = .ok (.goto 17, 3) := by decide +kernel
theorem d_B_goTo_102 : decode b_B_goTo 102 = .ok (.aload_n 0, 1) := by decide +kernel
theorem d_B_goTo_103 : decode b_B_goTo 103 = .ok (.getfield 34, 3) := by decide +kernel
theorem d_B_goTo_106 : decode b_B_goTo 106 = .ok (.iload 4, 2) := by decide +kernel
theorem d_B_goTo_108 : decode b_B_goTo 108 = .ok (.aload_n 2, 1) := by decide +kernel
theorem d_B_goTo_109 : decode b_B_goTo 109 = .ok (.aastore, 1) := by decide +kernel
theorem d_B_goTo_110 : decode b_B_goTo 110 = .ok (.iinc 4 1, 3) := by decide +kernel
theorem d_B_goTo_113 : decode b_B_goTo 113 = .ok (.aload 5, 2) := by decide +kernel
theorem d_B_goTo_115 : decode b_B_goTo 115 = .ok (.astore_n 2, 1) := by decide +kernel
theorem d_B_goTo_116 : decode b_B_goTo 116 = .ok (.goto (-99), 3) := by decide +kernel
theorem d_B_goTo_119 : decode b_B_goTo 119 = .ok (.aload_n 0, 1) := by decide +kernel
theorem d_B_goTo_120 : decode b_B_goTo 120 = .ok (.iload 4, 2) := by decide +kernel
theorem d_B_goTo_122 : decode b_B_goTo 122 = .ok (.invokevirtual 104, 3) := by decide +kernel
theorem d_B_goTo_125 : decode b_B_goTo 125 = .ok (.iload_n 3, 1) := by decide +kernel
theorem d_B_goTo_126 : decode b_B_goTo 126 = .ok (.iload 4, 2) := by decide +kernel
theorem d_B_goTo_128 : decode b_B_goTo 128 = .ok (.iadd, 1) := by decide +kernel
theorem d_B_goTo_129 : decode b_B_goTo 129 = .ok (.ireturn, 1) := by decide +kernel
theorem d_B_version_0 : decode b_B_version 0 = .ok (.aload_n 0, 1) := by decide +kernel
theorem d_B_version_1 : decode b_B_version 1 = .ok (.getfield 40, 3) := by decide +kernel
theorem d_B_version_4 : decode b_B_version 4 = .ok (.getfield 91, 3) := by decide +kernel
theorem d_B_version_7 : decode b_B_version 7 = .ok (.ireturn, 1) := by decide +kernel
theorem d_B_versions_0 : decode b_B_versions 0 = .ok (.aload_n 0, 1) := by decide +kernel
theorem d_B_versions_1 : decode b_B_versions 1 = .ok (.getfield 44, 3) := by decide +kernel
theorem d_B_versions_4 : decode b_B_versions 4 = .ok (.ireturn, 1) := by decide +kernel
theorem d_B_parent_0 : decode b_B_parent 0 = .ok (.aload_n 0, 1) := by decide +kernel
theorem d_B_parent_1 : decode b_B_parent 1 = .ok (.iload_n 1, 1) := by decide +kernel
theorem d_B_parent_2 : decode b_B_parent 2 = .ok (.invokevirtual 100, 3) := by decide +kernel
theorem d_B_parent_5 : decode b_B_parent 5 = .ok (.astore_n 2, 1) := by decide +kernel
theorem d_B_parent_6 : decode b_B_parent 6 = .ok (.aload_n 2, 1) := by decide +kernel
theorem d_B_parent_7 : decode b_B_parent 7 = .ok (.ifnull 10, 3) := by decide +kernel
theorem d_B_parent_10 : decode b_B_parent 10 = .ok (.aload_n 2, 1) := by decide +kernel
theorem d_B_parent_11 : decode b_B_parent 11 = .ok (.getfield 84, 3) := by decide +kernel
theorem d_B_parent_14 : decode b_B_parent 14 = .ok (.ifnonnull 5, 3) := by decide +kernel
theorem d_B_parent_17 : decode b_B_parent 17 = .ok (.iconst (-1), 1) := by decide +kernel
theorem d_B_parent_18 : decode b_B_parent 18 = .ok (.ireturn, 1) := by decide +kernel
theorem d_B_parent_19 : decode b_B_parent 19 = .ok (.aload_n 2, 1) := by decide +kernel
theorem d_B_parent_20 : decode b_B_parent 20 = .ok (.getfield 84, 3) := by decide +kernel
theorem d_B_parent_23 : decode b_B_parent 23 = .ok (.getfield 91, 3) := by decide +kernel
theorem d_B_parent_26 : decode b_B_parent 26 = .ok (.ireturn, 1) := by decide +kernel
theorem d_B_children_0 : decode b_B_children 0 = .ok (.aload_n 0, 1) := by decide +kernel
theorem d_B_children_1 : decode b_B_children 1 = .ok (.iload_n 1, 1) := by decide +kernel
theorem d_B_children_2 : decode b_B_children 2 = .ok (.invokevirtual 100, 3) := by decide +kernel
theorem d_B_children_5 : decode b_B_children 5 = .ok (.astore_n 2, 1) := by decide +kernel
theorem d_B_children_6 : decode b_B_children 6 = .ok (.aload_n 2, 1) := by decide +kernel
theorem d_B_children_7 : decode b_B_children 7 = .ok (.ifnonnull 7, 3) := by decide +kernel
theorem d_B_children_10 : decode b_B_children 10 = .ok (.iconst (-1), 1) := by decide +kernel
theorem d_B_children_11 : decode b_B_children 11 = .ok (.goto 7, 3) := by decide +kernel
theorem d_B_children_14 : decode b_B_children 14 = .ok (.aload_n 2, 1) := by decide +kernel
theorem d_B_children_15 : decode b_B_children 15 = .ok (.getfield 107, 3) := by decide +kernel
theorem d_B_children_18 : decode b_B_children 18 = .ok (.ireturn, 1) := by decide +kernel
theorem d_B_length_0 : decode b_B_length 0 = .ok (.aload_n 0, 1) := by decide +kernel
theorem d_B_length_1 : decode b_B_length 1 = .ok (.getfield 14, 3) := by decide +kernel
theorem d_B_length_4 : decode b_B_length 4 = .ok (.getfield 55, 3) := by decide +kernel
theorem d_B_length_7 : decode b_B_length 7 = .ok (.ireturn, 1) := by decide +kernel
theorem d_B_at_0 : decode b_B_at 0 = .ok (.iload_n 1, 1) := by decide +kernel
theorem d_B_at_1 : decode b_B_at 1 = .ok (.ifCond .lt 26, 3) := by decide +kernel
theorem d_B_at_4 : decode b_B_at 4 = .ok (.iload_n 1, 1) := by decide +kernel
theorem d_B_at_5 : decode b_B_at 5 = .ok (.aload_n 0, 1) := by decide +kernel
theorem d_B_at_6 : decode b_B_at 6 = .ok (.getfield 14, 3) := by decide +kernel
theorem d_B_at_9 : decode b_B_at 9 = .ok (.getfield 55, 3) := by decide +kernel
theorem d_B_at_12 : decode b_B_at 12 = .ok (.if_icmp .ge 15, 3) := by decide +kernel
theorem d_B_at_15 : decode b_B_at 15 = .ok (.aload_n 0, 1) := by decide +kernel
theorem d_B_at_16 : decode b_B_at 16 = .ok (.getfield 14, 3) := by decide +kernel
theorem d_B_at_19 : decode b_B_at 19 = .ok (.getfield 58, 3) := by decide +kernel
theorem d_B_at_22 : decode b_B_at 22 = .ok (.iload_n 1, 1) := by decide +kernel
theorem d_B_at_23 : decode b_B_at 23 = .ok (.caload, 1) := by decide +kernel
theorem d_B_at_24 : decode b_B_at 24 = .ok (.goto 4, 3) := by decide +kernel
theorem d_B_at_27 : decode b_B_at 27 = .ok (.iconst 0, 1) := by decide +kernel
theorem d_B_at_28 : decode b_B_at 28 = .ok (.ireturn, 1) := by decide +kernel
theorem d_B_lines_0 : decode b_B_lines 0 = .ok (.aload_n 0, 1) := by decide +kernel
theorem d_B_lines_1 : decode b_B_lines 1 = .ok (.getfield 14, 3) := by decide +kernel
theorem d_B_lines_4 : decode b_B_lines 4 = .ok (.aload_n 0, 1) := by decide +kernel
theorem d_B_lines_5 : decode b_B_lines 5 = .ok (.getfield 14, 3) := by decide +kernel
theorem d_B_lines_8 : decode b_B_lines 8 = .ok (.getfield 55, 3) := by decide +kernel
theorem d_B_lines_11 : decode b_B_lines 11 = .ok (.invokevirtual 110, 3) := by decide +kernel
theorem d_B_lines_14 : decode b_B_lines 14 = .ok (.iconst 1, 1) := by decide +kernel
theorem d_B_lines_15 : decode b_B_lines 15 = .ok (.iadd, 1) := by decide +kernel
theorem d_B_lines_16 : decode b_B_lines 16 = .ok (.ireturn, 1) := by decide +kernel
theorem d_B_lineStart_0 : decode b_B_lineStart 0 = .ok (.iload_n 1, 1) := by decide +kernel
theorem d_B_lineStart_1 : decode b_B_lineStart 1 = .ok (.ifCond .ge 5, 3) := by decide +kernel
theorem d_B_lineStart_4 : decode b_B_lineStart 4 = .ok (.iconst (-1), 1) := by decide +kernel
theorem d_B_lineStart_5 : decode b_B_lineStart 5 = .ok (.ireturn, 1) := by decide +kernel
theorem d_B_lineStart_6 : decode b_B_lineStart 6 = .ok (.iload_n 1, 1) := by decide +kernel
theorem d_B_lineStart_7 : decode b_B_lineStart 7 = .ok (.ifCond .ne 7, 3) := by decide +kernel
theorem d_B_lineStart_10 : decode b_B_lineStart 10 = .ok (.iconst 0, 1) := by decide +kernel
theorem d_B_lineStart_11 : decode b_B_lineStart 11 = .ok (.goto 11, 3) := by decide +kernel
theorem d_B_lineStart_14 : decode b_B_lineStart 14 = .ok (.aload_n 0, 1) := by decide +kernel
theorem d_B_lineStart_15 : decode b_B_lineStart 15 = .ok (.getfield 14, 3) := by decide +kernel
theorem d_B_lineStart_18 : decode b_B_lineStart 18 = .ok (.iload_n 1, 1) := by decide +kernel
theorem d_B_lineStart_19 : decode b_B_lineStart 19 = .ok (.invokevirtual 114, 3) := by decide +kernel
theorem d_B_lineStart_22 : decode b_B_lineStart 22 = .ok (.ireturn, 1) := by decide +kernel
theorem d_B_lineOf_0 : decode b_B_lineOf 0 = .ok (.aload_n 0, 1) := by decide +kernel
theorem d_B_lineOf_1 : decode b_B_lineOf 1 = .ok (.getfield 14, 3) := by decide +kernel
theorem d_B_lineOf_4 : decode b_B_lineOf 4 = .ok (.iload_n 1, 1) := by decide +kernel
theorem d_B_lineOf_5 : decode b_B_lineOf 5 = .ok (.invokevirtual 72, 3) := by decide +kernel
theorem d_B_lineOf_8 : decode b_B_lineOf 8 = .ok (.ifCond .eq 14, 3) := by decide +kernel
theorem d_B_lineOf_11 : decode b_B_lineOf 11 = .ok (.aload_n 0, 1) := by decide +kernel
theorem d_B_lineOf_12 : decode b_B_lineOf 12 = .ok (.getfield 14, 3) := by decide +kernel
theorem d_B_lineOf_15 : decode b_B_lineOf 15 = .ok (.iload_n 1, 1) := by decide +kernel
theorem d_B_lineOf_16 : decode b_B_lineOf 16 = .ok (.invokevirtual 110, 3) := by decide +kernel
theorem d_B_lineOf_19 : decode b_B_lineOf 19 = .ok (.goto 4, 3) := by decide +kernel
theorem d_B_lineOf_22 : decode b_B_lineOf 22 = .ok (.iconst (-1), 1) := by decide +kernel
theorem d_B_lineOf_23 : decode b_B_lineOf 23 = .ok (.ireturn, 1) := by decide +kernel
theorem d_B_find_0 : decode b_B_find 0 = .ok (.aload_n 0, 1) := by decide +kernel
theorem d_B_find_1 : decode b_B_find 1 = .ok (.getfield 14, 3) := by decide +kernel
theorem d_B_find_4 : decode b_B_find 4 = .ok (.iload_n 1, 1) := by decide +kernel
theorem d_B_find_5 : decode b_B_find 5 = .ok (.invokevirtual 72, 3) := by decide +kernel
theorem d_B_find_8 : decode b_B_find 8 = .ok (.ifCond .ne 5, 3) := by decide +kernel
theorem d_B_find_11 : decode b_B_find 11 = .ok (.iconst (-1), 1) := by decide +kernel
theorem d_B_find_12 : decode b_B_find 12 = .ok (.ireturn, 1) := by decide +kernel
theorem d_B_find_13 : decode b_B_find 13 = .ok (.aload_n 0, 1) := by decide +kernel
theorem d_B_find_14 : decode b_B_find 14 = .ok (.getfield 18, 3) := by decide +kernel
theorem d_B_find_17 : decode b_B_find 17 = .ok (.getfield 55, 3) := by decide +kernel
theorem d_B_find_20 : decode b_B_find 20 = .ok (.ifCond .ne 6, 3) := by decide +kernel
theorem d_B_find_23 : decode b_B_find 23 = .ok (.bipush (-2), 2) := by decide +kernel
theorem d_B_find_25 : decode b_B_find 25 = .ok (.ireturn, 1) := by decide +kernel
theorem d_B_find_26 : decode b_B_find 26 = .ok (.iload_n 1, 1) := by decide +kernel
theorem d_B_find_27 : decode b_B_find 27 = .ok (.istore_n 2, 1) := by decide +kernel
theorem d_B_find_28 : decode b_B_find 28 = .ok (.iload_n 2, 1) := by decide +kernel
theorem d_B_find_29 : decode b_B_find 29 = .ok (.aload_n 0, 1) := by decide +kernel
theorem d_B_find_30 : decode b_B_find 30 = .ok (.getfield 14, 3) := by decide +kernel
theorem d_B_find_33 : decode b_B_find 33 = .ok (.getfield 55, 3) := by decide +kernel
theorem d_B_find_36 : decode b_B_find 36 = .ok (.aload_n 0, 1) := by decide +kernel
theorem d_B_find_37 : decode b_B_find 37 = .ok (.getfield 18, 3) := by decide +kernel
theorem d_B_find_40 : decode b_B_find 40 = .ok (.getfield 55, 3) := by decide +kernel
theorem d_B_find_43 : decode b_B_find 43 = .ok (.isub, 1) := by decide +kernel
theorem d_B_find_44 : decode b_B_find 44 = .ok (.if_icmp .gt 26, 3) := by decide +kernel
theorem d_B_find_47 : decode b_B_find 47 = .ok (.aload_n 0, 1) := by decide +kernel
theorem d_B_find_48 : decode b_B_find 48 = .ok (.getfield 14, 3) := by decide +kernel
theorem d_B_find_51 : decode b_B_find 51 = .ok (.iload_n 2, 1) := by decide +kernel
theorem d_B_find_52 : decode b_B_find 52 = .ok (.aload_n 0, 1) := by decide +kernel
theorem d_B_find_53 : decode b_B_find 53 = .ok (.getfield 18, 3) := by decide +kernel
theorem d_B_find_56 : decode b_B_find 56 = .ok (.invokevirtual 117, 3) := by decide +kernel
theorem d_B_find_59 : decode b_B_find 59 = .ok (.ifCond .eq 5, 3) := by decide +kernel
theorem d_B_find_62 : decode b_B_find 62 = .ok (.iload_n 2, 1) := by decide +kernel
theorem d_B_find_63 : decode b_B_find 63 = .ok (.ireturn, 1) := by decide +kernel
theorem d_B_find_64 : decode b_B_find 64 = .ok (.iinc 2 1, 3) := by decide +kernel
theorem d_B_find_67 : decode b_B_find 67 = .ok (.goto (-39), 3) := by decide +kernel
theorem d_B_find_70 : decode b_B_find 70 = .ok (.bipush (-4), 2) := by decide +kernel
theorem d_B_find_72 : decode b_B_find 72 = .ok (.ireturn, 1) := by decide +kernel
theorem d_B_mark_0 : decode b_B_mark 0 = .ok (.iload_n 1, 1) := by decide +kernel
theorem d_B_mark_1 : decode b_B_mark 1 = .ok (.invokestatic 121, 3) := by decide +kernel
theorem d_B_mark_4 : decode b_B_mark 4 = .ok (.ifCond .eq 14, 3) := by decide +kernel
theorem d_B_mark_7 : decode b_B_mark 7 = .ok (.aload_n 0, 1) := by decide +kernel
theorem d_B_mark_8 : decode b_B_mark 8 = .ok (.getfield 14, 3) := by decide +kernel
theorem d_B_mark_11 : decode b_B_mark 11 = .ok (.iload_n 2, 1) := by decide +kernel
theorem d_B_mark_12 : decode b_B_mark 12 = .ok (.invokevirtual 72, 3) := by decide +kernel
theorem d_B_mark_15 : decode b_B_mark 15 = .ok (.ifCond .ne 5, 3) := by decide +kernel
theorem d_B_mark_18 : decode b_B_mark 18 = .ok (.iconst 0, 1) := by decide +kernel
theorem d_B_mark_19 : decode b_B_mark 19 = .ok (.ireturn, 1) := by decide +kernel
theorem d_B_mark_20 : decode b_B_mark 20 = .ok (.aload_n 0, 1) := by decide +kernel
theorem d_B_mark_21 : decode b_B_mark 21 = .ok (.getfield 24, 3) := by decide +kernel
theorem d_B_mark_24 : decode b_B_mark 24 = .ok (.getfield 124, 3) := by decide +kernel
theorem d_B_mark_27 : decode b_B_mark 27 = .ok (.iload_n 1, 1) := by decide +kernel
theorem d_B_mark_28 : decode b_B_mark 28 = .ok (.iload_n 2, 1) := by decide +kernel
theorem d_B_mark_29 : decode b_B_mark 29 = .ok (.iastore, 1) := by decide +kernel
theorem d_B_mark_30 : decode b_B_mark 30 = .ok (.aload_n 0, 1) := by decide +kernel
theorem d_B_mark_31 : decode b_B_mark 31 = .ok (.getfield 24, 3) := by decide +kernel
theorem d_B_mark_34 : decode b_B_mark 34 = .ok (.getfield 128, 3) := by decide +kernel
theorem d_B_mark_37 : decode b_B_mark 37 = .ok (.iload_n 1, 1) := by decide +kernel
theorem d_B_mark_38 : decode b_B_mark 38 = .ok (.iload_n 3, 1) := by decide +kernel
theorem d_B_mark_39 : decode b_B_mark 39 = .ok (.bastore, 1) := by decide +kernel
theorem d_B_mark_40 : decode b_B_mark 40 = .ok (.iconst 1, 1) := by decide +kernel
theorem d_B_mark_41 : decode b_B_mark 41 = .ok (.ireturn, 1) := by decide +kernel
theorem d_B_unmark_0 : decode b_B_unmark 0 = .ok (.iload_n 1, 1) := by decide +kernel
theorem d_B_unmark_1 : decode b_B_unmark 1 = .ok (.invokestatic 121, 3) := by decide +kernel
theorem d_B_unmark_4 : decode b_B_unmark 4 = .ok (.ifCond .eq 16, 3) := by decide +kernel
theorem d_B_unmark_7 : decode b_B_unmark 7 = .ok (.aload_n 0, 1) := by decide +kernel
theorem d_B_unmark_8 : decode b_B_unmark 8 = .ok (.getfield 24, 3) := by decide +kernel
theorem d_B_unmark_11 : decode b_B_unmark 11 = .ok (.getfield 124, 3) := by decide +kernel
theorem d_B_unmark_14 : decode b_B_unmark 14 = .ok (.iload_n 1, 1) := by decide +kernel
theorem d_B_unmark_15 : decode b_B_unmark 15 = .ok (.iaload, 1) := by decide +kernel
theorem d_B_unmark_16 : decode b_B_unmark 16 = .ok (.iconst (-1), 1) := by decide +kernel
theorem d_B_unmark_17 : decode b_B_unmark 17 = .ok (.if_icmp .ne 5, 3) := by decide +kernel
theorem d_B_unmark_20 : decode b_B_unmark 20 = .ok (.iconst 0, 1) := by decide +kernel
theorem d_B_unmark_21 : decode b_B_unmark 21 = .ok (.ireturn, 1) := by decide +kernel
theorem d_B_unmark_22 : decode b_B_unmark 22 = .ok (.aload_n 0, 1) := by decide +kernel
theorem d_B_unmark_23 : decode b_B_unmark 23 = .ok (.getfield 24, 3) := by decide +kernel
theorem d_B_unmark_26 : decode b_B_unmark 26 = .ok (.getfield 124, 3) := by decide +kernel
theorem d_B_unmark_29 : decode b_B_unmark 29 = .ok (.iload_n 1, 1) := by decide +kernel
theorem d_B_unmark_30 : decode b_B_unmark 30 = .ok (.iconst (-1), 1) := by decide +kernel
theorem d_B_unmark_31 : decode b_B_unmark 31 = .ok (.iastore, 1) := by decide +kernel
theorem d_B_unmark_32 : decode b_B_unmark 32 = .ok (.iconst 1, 1) := by decide +kernel
theorem d_B_unmark_33 : decode b_B_unmark 33 = .ok (.ireturn, 1) := by decide +kernel
theorem d_B_where_0 : decode b_B_where 0 = .ok (.iload_n 1, 1) := by decide +kernel
theorem d_B_where_1 : decode b_B_where 1 = .ok (.invokestatic 121, 3) := by decide +kernel
theorem d_B_where_4 : decode b_B_where 4 = .ok (.ifCond .eq 16, 3) := by decide +kernel
theorem d_B_where_7 : decode b_B_where 7 = .ok (.aload_n 0, 1) := by decide +kernel
theorem d_B_where_8 : decode b_B_where 8 = .ok (.getfield 24, 3) := by decide +kernel
theorem d_B_where_11 : decode b_B_where 11 = .ok (.getfield 124, 3) := by decide +kernel
theorem d_B_where_14 : decode b_B_where 14 = .ok (.iload_n 1, 1) := by decide +kernel
theorem d_B_where_15 : decode b_B_where 15 = .ok (.iaload, 1) := by decide +kernel
theorem d_B_where_16 : decode b_B_where 16 = .ok (.iconst (-1), 1) := by decide +kernel
theorem d_B_where_17 : decode b_B_where 17 = .ok (.if_icmp .ne 5, 3) := by decide +kernel
theorem d_B_where_20 : decode b_B_where 20 = .ok (.iconst (-1), 1) := by decide +kernel
theorem d_B_where_21 : decode b_B_where 21 = .ok (.ireturn, 1) := by decide +kernel
theorem d_B_where_22 : decode b_B_where 22 = .ok (.aload_n 0, 1) := by decide +kernel
theorem d_B_where_23 : decode b_B_where 23 = .ok (.getfield 24, 3) := by decide +kernel
theorem d_B_where_26 : decode b_B_where 26 = .ok (.getfield 124, 3) := by decide +kernel
theorem d_B_where_29 : decode b_B_where 29 = .ok (.iload_n 1, 1) := by decide +kernel
theorem d_B_where_30 : decode b_B_where 30 = .ok (.iaload, 1) := by decide +kernel
theorem d_B_where_31 : decode b_B_where 31 = .ok (.ireturn, 1) := by decide +kernel
theorem d_B_nextMark_0 : decode b_B_nextMark 0 = .ok (.aload_n 0, 1) := by decide +kernel
theorem d_B_nextMark_1 : decode b_B_nextMark 1 = .ok (.getfield 14, 3) := by decide +kernel
theorem d_B_nextMark_4 : decode b_B_nextMark 4 = .ok (.iload_n 1, 1) := by decide +kernel
theorem d_B_nextMark_5 : decode b_B_nextMark 5 = .ok (.invokevirtual 72, 3) := by decide +kernel
theorem d_B_nextMark_8 : decode b_B_nextMark 8 = .ok (.ifCond .eq 14, 3) := by decide +kernel
theorem d_B_nextMark_11 : decode b_B_nextMark 11 = .ok (.aload_n 0, 1) := by decide +kernel
theorem d_B_nextMark_12 : decode b_B_nextMark 12 = .ok (.getfield 24, 3) := by decide +kernel
theorem d_B_nextMark_15 : decode b_B_nextMark 15 = .ok (.iload_n 1, 1) := by decide +kernel
theorem d_B_nextMark_16 : decode b_B_nextMark 16 = .ok (.invokevirtual 132, 3) := by decide +kernel
theorem d_B_nextMark_19 : decode b_B_nextMark 19 = .ok (.goto 4, 3) := by decide +kernel
theorem d_B_nextMark_22 : decode b_B_nextMark 22 = .ok (.iconst (-1), 1) := by decide +kernel
theorem d_B_nextMark_23 : decode b_B_nextMark 23 = .ok (.ireturn, 1) := by decide +kernel
theorem d_B_isCharacter_0 : decode b_B_isCharacter 0 = .ok (.iload_n 0, 1) := by decide +kernel
theorem d_B_isCharacter_1 : decode b_B_isCharacter 1 = .ok (.bipush 10, 2) := by decide +kernel
theorem d_B_isCharacter_3 : decode b_B_isCharacter 3 = .ok (.if_icmp .eq 15, 3) := by decide +kernel
theorem d_B_isCharacter_6 : decode b_B_isCharacter 6 = .ok (.iload_n 0, 1) := by decide +kernel
theorem d_B_isCharacter_7 : decode b_B_isCharacter 7 = .ok (.bipush 32, 2) := by decide +kernel
theorem d_B_isCharacter_9 : decode b_B_isCharacter 9 = .ok (.if_icmp .lt 13, 3) := by decide +kernel
theorem d_B_isCharacter_12 : decode b_B_isCharacter 12 = .ok (.iload_n 0, 1) := by decide +kernel
theorem d_B_isCharacter_13 : decode b_B_isCharacter 13 = .ok (.bipush 126, 2) := by decide +kernel
theorem d_B_isCharacter_15 : decode b_B_isCharacter 15 = .ok (.if_icmp .gt 7, 3) := by decide +kernel
theorem d_B_isCharacter_18 : decode b_B_isCharacter 18 = .ok (.iconst 1, 1) := by decide +kernel
theorem d_B_isCharacter_19 : decode b_B_isCharacter 19 = .ok (.goto 4, 3) := by decide +kernel
theorem d_B_isCharacter_22 : decode b_B_isCharacter 22 = .ok (.iconst 0, 1) := by decide +kernel
theorem d_B_isCharacter_23 : decode b_B_isCharacter 23 = .ok (.ireturn, 1) := by decide +kernel
theorem d_B_isMark_0 : decode b_B_isMark 0 = .ok (.iload_n 0, 1) := by decide +kernel
theorem d_B_isMark_1 : decode b_B_isMark 1 = .ok (.ifCond .lt 13, 3) := by decide +kernel
theorem d_B_isMark_4 : decode b_B_isMark 4 = .ok (.iload_n 0, 1) := by decide +kernel
theorem d_B_isMark_5 : decode b_B_isMark 5 = .ok (.bipush 6, 2) := by decide +kernel
theorem d_B_isMark_7 : decode b_B_isMark 7 = .ok (.if_icmp .ge 7, 3) := by decide +kernel
theorem d_B_isMark_10 : decode b_B_isMark 10 = .ok (.iconst 1, 1) := by decide +kernel
theorem d_B_isMark_11 : decode b_B_isMark 11 = .ok (.goto 4, 3) := by decide +kernel
theorem d_B_isMark_14 : decode b_B_isMark 14 = .ok (.iconst 0, 1) := by decide +kernel
theorem d_B_isMark_15 : decode b_B_isMark 15 = .ok (.ireturn, 1) := by decide +kernel
theorem d_B_numbered_0 : decode b_B_numbered 0 = .ok (.iload_n 1, 1) := by decide +kernel
theorem d_B_numbered_1 : decode b_B_numbered 1 = .ok (.ifCond .lt 20, 3) := by decide +kernel
theorem d_B_numbered_4 : decode b_B_numbered 4 = .ok (.iload_n 1, 1) := by decide +kernel
theorem d_B_numbered_5 : decode b_B_numbered 5 = .ok (.aload_n 0, 1) := by decide +kernel
theorem d_B_numbered_6 : decode b_B_numbered 6 = .ok (.getfield 44, 3) := by decide +kernel
theorem d_B_numbered_9 : decode b_B_numbered 9 = .ok (.if_icmp .ge 12, 3) := by decide +kernel
theorem d_B_numbered_12 : decode b_B_numbered 12 = .ok (.aload_n 0, 1) := by decide +kernel
theorem d_B_numbered_13 : decode b_B_numbered 13 = .ok (.getfield 30, 3) := by decide +kernel
theorem d_B_numbered_16 : decode b_B_numbered 16 = .ok (.iload_n 1, 1) := by decide +kernel
theorem d_B_numbered_17 : decode b_B_numbered 17 = .ok (.aaload, 1) := by decide +kernel
theorem d_B_numbered_18 : decode b_B_numbered 18 = .ok (.goto 4, 3) := by decide +kernel
theorem d_B_numbered_21 : decode b_B_numbered 21 = .ok (.aconst_null, 1) := by decide +kernel
theorem d_B_numbered_22 : decode b_B_numbered 22 = .ok (.areturn, 1) := by decide +kernel
theorem d_B_makeChild_0 : decode b_B_makeChild 0 = .ok (.new 28, 3) := by decide +kernel
theorem d_B_makeChild_3 : decode b_B_makeChild 3 = .ok (.dup, 1) := by decide +kernel
theorem d_B_makeChild_4 : decode b_B_makeChild 4 = .ok (.aload_n 0, 1) := by decide +kernel
theorem d_B_makeChild_5 : decode b_B_makeChild 5 = .ok (.getfield 44, 3) := by decide +kernel
theorem d_B_makeChild_8 : decode b_B_makeChild 8 = .ok (.aload_n 0, 1) := by decide +kernel
theorem d_B_makeChild_9 : decode b_B_makeChild 9 = .ok (.getfield 40, 3) := by decide +kernel
theorem d_B_makeChild_12 : decode b_B_makeChild 12 = .ok (.iload_n 1, 1) := by decide +kernel
theorem d_B_makeChild_13 : decode b_B_makeChild 13 = .ok (.iload_n 2, 1) := by decide +kernel
theorem d_B_makeChild_14 : decode b_B_makeChild 14 = .ok (.aload_n 3, 1) := by decide +kernel
theorem d_B_makeChild_15 : decode b_B_makeChild 15 = .ok (.invokespecial 37, 3) := by decide +kernel
theorem d_B_makeChild_18 : decode b_B_makeChild 18 = .ok (.astore 4, 2) := by decide +kernel
theorem d_B_makeChild_20 : decode b_B_makeChild 20 = .ok (.aload_n 0, 1) := by decide +kernel
theorem d_B_makeChild_21 : decode b_B_makeChild 21 = .ok (.getfield 30, 3) := by decide +kernel
theorem d_B_makeChild_24 : decode b_B_makeChild 24 = .ok (.aload_n 0, 1) := by decide +kernel
theorem d_B_makeChild_25 : decode b_B_makeChild 25 = .ok (.getfield 44, 3) := by decide +kernel
theorem d_B_makeChild_28 : decode b_B_makeChild 28 = .ok (.aload 4, 2) := by decide +kernel
theorem d_B_makeChild_30 : decode b_B_makeChild 30 = .ok (.aastore, 1) := by decide +kernel
theorem d_B_makeChild_31 : decode b_B_makeChild 31 = .ok (.aload_n 0, 1) := by decide +kernel
theorem d_B_makeChild_32 : decode b_B_makeChild 32 = .ok (.dup, 1) := by decide +kernel
theorem d_B_makeChild_33 : decode b_B_makeChild 33 = .ok (.getfield 44, 3) := by decide +kernel
theorem d_B_makeChild_36 : decode b_B_makeChild 36 = .ok (.iconst 1, 1) := by decide +kernel
theorem d_B_makeChild_37 : decode b_B_makeChild 37 = .ok (.iadd, 1) := by decide +kernel
theorem d_B_makeChild_38 : decode b_B_makeChild 38 = .ok (.putfield 44, 3) := by decide +kernel
theorem d_B_makeChild_41 : decode b_B_makeChild 41 = .ok (.aload_n 0, 1) := by decide +kernel
theorem d_B_makeChild_42 : decode b_B_makeChild 42 = .ok (.getfield 40, 3) := by decide +kernel
theorem d_B_makeChild_45 : decode b_B_makeChild 45 = .ok (.dup, 1) := by decide +kernel
theorem d_B_makeChild_46 : decode b_B_makeChild 46 = .ok (.getfield 107, 3) := by decide +kernel
theorem d_B_makeChild_49 : decode b_B_makeChild 49 = .ok (.iconst 1, 1) := by decide +kernel
theorem d_B_makeChild_50 : decode b_B_makeChild 50 = .ok (.iadd, 1) := by decide +kernel
theorem d_B_makeChild_51 : decode b_B_makeChild 51 = .ok (.putfield 107, 3) := by decide +kernel
theorem d_B_makeChild_54 : decode b_B_makeChild 54 = .ok (.aload_n 0, 1) := by decide +kernel
theorem d_B_makeChild_55 : decode b_B_makeChild 55 = .ok (.getfield 40, 3) := by decide +kernel
theorem d_B_makeChild_58 : decode b_B_makeChild 58 = .ok (.aload 4, 2) := by decide +kernel
theorem d_B_makeChild_60 : decode b_B_makeChild 60 = .ok (.putfield 94, 3) := by decide +kernel
theorem d_B_makeChild_63 : decode b_B_makeChild 63 = .ok (.aload_n 0, 1) := by decide +kernel
theorem d_B_makeChild_64 : decode b_B_makeChild 64 = .ok (.aload 4, 2) := by decide +kernel
theorem d_B_makeChild_66 : decode b_B_makeChild 66 = .ok (.invokevirtual 97, 3) := by decide +kernel
theorem d_B_makeChild_69 : decode b_B_makeChild 69 = .ok (.aload 4, 2) := by decide +kernel
theorem d_B_makeChild_71 : decode b_B_makeChild 71 = .ok (.getfield 91, 3) := by decide +kernel
theorem d_B_makeChild_74 : decode b_B_makeChild 74 = .ok (.ireturn, 1) := by decide +kernel
theorem d_B_stepBackTo_0 : decode b_B_stepBackTo 0 = .ok (.aload_n 0, 1) := by decide +kernel
theorem d_B_stepBackTo_1 : decode b_B_stepBackTo 1 = .ok (.getfield 40, 3) := by decide +kernel
theorem d_B_stepBackTo_4 : decode b_B_stepBackTo 4 = .ok (.getfield 135, 3) := by decide +kernel
theorem d_B_stepBackTo_7 : decode b_B_stepBackTo 7 = .ok (.ifCond .eq 25, 3) := by decide +kernel
theorem d_B_stepBackTo_10 : decode b_B_stepBackTo 10 = .ok (.aload_n 0, 1) := by decide +kernel
theorem d_B_stepBackTo_11 : decode b_B_stepBackTo 11 = .ok (.aload_n 0, 1) := by decide +kernel
theorem d_B_stepBackTo_12 : decode b_B_stepBackTo 12 = .ok (.getfield 40, 3) := by decide +kernel
theorem d_B_stepBackTo_15 : decode b_B_stepBackTo 15 = .ok (.getfield 139, 3) := by decide +kernel
theorem d_B_stepBackTo_18 : decode b_B_stepBackTo 18 = .ok (.aload_n 0, 1) := by decide +kernel
theorem d_B_stepBackTo_19 : decode b_B_stepBackTo 19 = .ok (.getfield 40, 3) := by decide +kernel
theorem d_B_stepBackTo_22 : decode b_B_stepBackTo 22 = .ok (.getfield 142, 3) := by decide +kernel
theorem d_B_stepBackTo_25 : decode b_B_stepBackTo 25 = .ok (.arraylength, 1) := by decide +kernel
theorem d_B_stepBackTo_26 : decode b_B_stepBackTo 26 = .ok (.invokevirtual 145, 3) := by decide +kernel
theorem d_B_stepBackTo_29 : decode b_B_stepBackTo 29 = .ok (.goto 21, 3) := by decide +kernel
theorem d_B_stepBackTo_32 : decode b_B_stepBackTo 32 = .ok (.aload_n 0, 1) := by decide +kernel
theorem d_B_stepBackTo_33 : decode b_B_stepBackTo 33 = .ok (.aload_n 0, 1) := by decide +kernel
theorem d_B_stepBackTo_34 : decode b_B_stepBackTo 34 = .ok (.getfield 40, 3) := by decide +kernel
theorem d_B_stepBackTo_37 : decode b_B_stepBackTo 37 = .ok (.getfield 139, 3) := by decide +kernel
theorem d_B_stepBackTo_40 : decode b_B_stepBackTo 40 = .ok (.aload_n 0, 1) := by decide +kernel
theorem d_B_stepBackTo_41 : decode b_B_stepBackTo 41 = .ok (.getfield 40, 3) := by decide +kernel
theorem d_B_stepBackTo_44 : decode b_B_stepBackTo 44 = .ok (.getfield 142, 3) := by decide +kernel
theorem d_B_stepBackTo_47 : decode b_B_stepBackTo 47 = .ok (.invokevirtual 149, 3) := by decide +kernel
theorem d_B_stepBackTo_50 : decode b_B_stepBackTo 50 = .ok (.aload_n 0, 1) := by decide +kernel
theorem d_B_stepBackTo_51 : decode b_B_stepBackTo 51 = .ok (.aload_n 1, 1) := by decide +kernel
theorem d_B_stepBackTo_52 : decode b_B_stepBackTo 52 = .ok (.putfield 40, 3) := by decide +kernel
theorem d_B_stepBackTo_55 : decode b_B_stepBackTo 55 = .ok (.return_, 1) := by decide +kernel
theorem d_B_stepOnTo_0 : decode b_B_stepOnTo 0 = .ok (.aload_n 1, 1) := by decide +kernel
theorem d_B_stepOnTo_1 : decode b_B_stepOnTo 1 = .ok (.getfield 135, 3) := by decide +kernel
theorem d_B_stepOnTo_4 : decode b_B_stepOnTo 4 = .ok (.ifCond .eq 18, 3) := by decide +kernel
theorem d_B_stepOnTo_7 : decode b_B_stepOnTo 7 = .ok (.aload_n 0, 1) := by decide +kernel
theorem d_B_stepOnTo_8 : decode b_B_stepOnTo 8 = .ok (.aload_n 1, 1) := by decide +kernel
theorem d_B_stepOnTo_9 : decode b_B_stepOnTo 9 = .ok (.getfield 139, 3) := by decide +kernel
theorem d_B_stepOnTo_12 : decode b_B_stepOnTo 12 = .ok (.aload_n 1, 1) := by decide +kernel
theorem d_B_stepOnTo_13 : decode b_B_stepOnTo 13 = .ok (.getfield 142, 3) := by decide +kernel
theorem d_B_stepOnTo_16 : decode b_B_stepOnTo 16 = .ok (.invokevirtual 149, 3) := by decide +kernel
theorem d_B_stepOnTo_19 : decode b_B_stepOnTo 19 = .ok (.goto 16, 3) := by decide +kernel
theorem d_B_stepOnTo_22 : decode b_B_stepOnTo 22 = .ok (.aload_n 0, 1) := by decide +kernel
theorem d_B_stepOnTo_23 : decode b_B_stepOnTo 23 = .ok (.aload_n 1, 1) := by decide +kernel
theorem d_B_stepOnTo_24 : decode b_B_stepOnTo 24 = .ok (.getfield 139, 3) := by decide +kernel
theorem d_B_stepOnTo_27 : decode b_B_stepOnTo 27 = .ok (.aload_n 1, 1) := by decide +kernel
theorem d_B_stepOnTo_28 : decode b_B_stepOnTo 28 = .ok (.getfield 142, 3) := by decide +kernel
theorem d_B_stepOnTo_31 : decode b_B_stepOnTo 31 = .ok (.arraylength, 1) := by decide +kernel
theorem d_B_stepOnTo_32 : decode b_B_stepOnTo 32 = .ok (.invokevirtual 145, 3) := by decide +kernel
theorem d_B_stepOnTo_35 : decode b_B_stepOnTo 35 = .ok (.aload_n 0, 1) := by decide +kernel
theorem d_B_stepOnTo_36 : decode b_B_stepOnTo 36 = .ok (.aload_n 1, 1) := by decide +kernel
theorem d_B_stepOnTo_37 : decode b_B_stepOnTo 37 = .ok (.putfield 40, 3) := by decide +kernel
theorem d_B_stepOnTo_40 : decode b_B_stepOnTo 40 = .ok (.return_, 1) := by decide +kernel
theorem d_B_stepAlongWay_0 : decode b_B_stepAlongWay 0 = .ok (.iload_n 1, 1) := by decide +kernel
theorem d_B_stepAlongWay_1 : decode b_B_stepAlongWay 1 = .ok (.iconst 1, 1) := by decide +kernel
theorem d_B_stepAlongWay_2 : decode b_B_stepAlongWay 2 = .ok (.isub, 1) := by decide +kernel
theorem d_B_stepAlongWay_3 : decode b_B_stepAlongWay 3 = .ok (.istore_n 2, 1) := by decide +kernel
theorem d_B_stepAlongWay_4 : decode b_B_stepAlongWay 4 = .ok (.iload_n 2, 1) := by decide +kernel
theorem d_B_stepAlongWay_5 : decode b_B_stepAlongWay 5 = .ok (.ifCond .lt 25, 3) := by decide +kernel
theorem d_B_stepAlongWay_8 : decode b_B_stepAlongWay 8 = .ok (.aload_n 0, 1) := by decide +kernel
theorem d_B_stepAlongWay_9 : decode b_B_stepAlongWay 9 = .ok (.getfield 34, 3) := by decide +kernel
theorem d_B_stepAlongWay_12 : decode b_B_stepAlongWay 12 = .ok (.iload_n 2, 1) := by decide +kernel
theorem d_B_stepAlongWay_13 : decode b_B_stepAlongWay 13 = .ok (.aaload, 1) := by decide +kernel
theorem d_B_stepAlongWay_14 : decode b_B_stepAlongWay 14 = .ok (.astore_n 3, 1) := by decide +kernel
theorem d_B_stepAlongWay_15 : decode b_B_stepAlongWay 15 = .ok (.aload_n 3, 1) := by decide +kernel
theorem d_B_stepAlongWay_16 : decode b_B_stepAlongWay 16 = .ok (.ifnull 8, 3) := by decide +kernel
theorem d_B_stepAlongWay_19 : decode b_B_stepAlongWay 19 = .ok (.aload_n 0, 1) := by decide +kernel
theorem d_B_stepAlongWay_20 : decode b_B_stepAlongWay 20 = .ok (.aload_n 3, 1) := by decide +kernel
theorem d_B_stepAlongWay_21 : decode b_B_stepAlongWay 21 = .ok (.invokevirtual 97, 3) := by decide +kernel
theorem d_B_stepAlongWay_24 : decode b_B_stepAlongWay 24 = .ok (.iinc 2 (-1), 3) := by decide +kernel
theorem d_B_stepAlongWay_27 : decode b_B_stepAlongWay 27 = .ok (.goto (-23), 3) := by decide +kernel
theorem d_B_stepAlongWay_30 : decode b_B_stepAlongWay 30 = .ok (.return_, 1) := by decide +kernel
theorem d_B_putIn_0 : decode b_B_putIn 0 = .ok (.aload_n 0, 1) := by decide +kernel
theorem d_B_putIn_1 : decode b_B_putIn 1 = .ok (.getfield 14, 3) := by decide +kernel
theorem d_B_putIn_4 : decode b_B_putIn 4 = .ok (.iload_n 1, 1) := by decide +kernel
theorem d_B_putIn_5 : decode b_B_putIn 5 = .ok (.aload_n 2, 1) := by decide +kernel
theorem d_B_putIn_6 : decode b_B_putIn 6 = .ok (.invokevirtual 153, 3) := by decide +kernel
theorem d_B_putIn_9 : decode b_B_putIn 9 = .ok (.aload_n 0, 1) := by decide +kernel
theorem d_B_putIn_10 : decode b_B_putIn 10 = .ok (.getfield 24, 3) := by decide +kernel
theorem d_B_putIn_13 : decode b_B_putIn 13 = .ok (.iload_n 1, 1) := by decide +kernel
theorem d_B_putIn_14 : decode b_B_putIn 14 = .ok (.aload_n 2, 1) := by decide +kernel
theorem d_B_putIn_15 : decode b_B_putIn 15 = .ok (.arraylength, 1) := by decide +kernel
theorem d_B_putIn_16 : decode b_B_putIn 16 = .ok (.invokevirtual 156, 3) := by decide +kernel
theorem d_B_putIn_19 : decode b_B_putIn 19 = .ok (.return_, 1) := by decide +kernel
theorem d_B_takeOut_0 : decode b_B_takeOut 0 = .ok (.aload_n 0, 1) := by decide +kernel
theorem d_B_takeOut_1 : decode b_B_takeOut 1 = .ok (.getfield 14, 3) := by decide +kernel
theorem d_B_takeOut_4 : decode b_B_takeOut 4 = .ok (.iload_n 1, 1) := by decide +kernel
theorem d_B_takeOut_5 : decode b_B_takeOut 5 = .ok (.iload_n 2, 1) := by decide +kernel
theorem d_B_takeOut_6 : decode b_B_takeOut 6 = .ok (.invokevirtual 159, 3) := by decide +kernel
theorem d_B_takeOut_9 : decode b_B_takeOut 9 = .ok (.aload_n 0, 1) := by decide +kernel
theorem d_B_takeOut_10 : decode b_B_takeOut 10 = .ok (.getfield 24, 3) := by decide +kernel
theorem d_B_takeOut_13 : decode b_B_takeOut 13 = .ok (.iload_n 1, 1) := by decide +kernel
theorem d_B_takeOut_14 : decode b_B_takeOut 14 = .ok (.iload_n 2, 1) := by decide +kernel
theorem d_B_takeOut_15 : decode b_B_takeOut 15 = .ok (.invokevirtual 162, 3) := by decide +kernel
theorem d_B_takeOut_18 : decode b_B_takeOut 18 = .ok (.return_, 1) := by decide +kernel
end
section
theorem d_O_init_0 : decode b_O_init 0 = .ok (.aload_n 0, 1) := by decide +kernel
theorem d_O_init_1 : decode b_O_init 1 = .ok (.invokespecial 1, 3) := by decide +kernel
theorem d_O_init_4 : decode b_O_init 4 = .ok (.aload_n 0, 1) := by decide +kernel
theorem d_O_init_5 : decode b_O_init 5 = .ok (.iconst 1, 1) := by decide +kernel
theorem d_O_init_6 : decode b_O_init 6 = .ok (.putfield 7, 3) := by decide +kernel
theorem d_O_init_9 : decode b_O_init 9 = .ok (.aload_n 0, 1) := by decide +kernel
theorem d_O_init_10 : decode b_O_init 10 = .ok (.bipush 122, 2) := by decide +kernel
theorem d_O_init_12 : decode b_O_init 12 = .ok (.newarray .int, 2) := by decide +kernel
theorem d_O_init_14 : decode b_O_init 14 = .ok (.putfield 13, 3) := by decide +kernel
theorem d_O_init_17 : decode b_O_init 17 = .ok (.aload_n 0, 1) := by decide +kernel
theorem d_O_init_18 : decode b_O_init 18 = .ok (.bipush 122, 2) := by decide +kernel
theorem d_O_init_20 : decode b_O_init 20 = .ok (.newarray .boolean, 2) := by decide +kernel
theorem d_O_init_22 : decode b_O_init 22 = .ok (.putfield 17, 3) := by decide +kernel
theorem d_O_init_25 : decode b_O_init 25 = .ok (.aload_n 0, 1) := by decide +kernel
theorem d_O_init_26 : decode b_O_init 26 = .ok (.bipush 122, 2) := by decide +kernel
theorem d_O_init_28 : decode b_O_init 28 = .ok (.newarray .int, 2) := by decide +kernel
theorem d_O_init_30 : decode b_O_init 30 = .ok (.putfield 21, 3) := by decide +kernel
theorem d_O_init_33 : decode b_O_init 33 = .ok (.aload_n 0, 1) := by decide +kernel
theorem d_O_init_34 : decode b_O_init 34 = .ok (.bipush 122, 2) := by decide +kernel
theorem d_O_init_36 : decode b_O_init 36 = .ok (.newarray .int, 2) := by decide +kernel
theorem d_O_init_38 : decode b_O_init 38 = .ok (.putfield 24, 3) := by decide +kernel
theorem d_O_init_41 : decode b_O_init 41 = .ok (.aload_n 0, 1) := by decide +kernel
theorem d_O_init_42 : decode b_O_init 42 = .ok (.bipush 122, 2) := by decide +kernel
theorem d_O_init_44 : decode b_O_init 44 = .ok (.newarray .int, 2) := by decide +kernel
theorem d_O_init_46 : decode b_O_init 46 = .ok (.putfield 27, 3) := by decide +kernel
theorem d_O_init_49 : decode b_O_init 49 = .ok (.aload_n 0, 1) := by decide +kernel
theorem d_O_init_50 : decode b_O_init 50 = .ok (.sipush 2000, 3) := by decide +kernel
theorem d_O_init_53 : decode b_O_init 53 = .ok (.newarray .char, 2) := by decide +kernel
theorem d_O_init_55 : decode b_O_init 55 = .ok (.putfield 30, 3) := by decide +kernel
theorem d_O_init_58 : decode b_O_init 58 = .ok (.aload_n 0, 1) := by decide +kernel
theorem d_O_init_59 : decode b_O_init 59 = .ok (.sipush 2000, 3) := by decide +kernel
theorem d_O_init_62 : decode b_O_init 62 = .ok (.newarray .char, 2) := by decide +kernel
theorem d_O_init_64 : decode b_O_init 64 = .ok (.putfield 34, 3) := by decide +kernel
theorem d_O_init_67 : decode b_O_init 67 = .ok (.aload_n 0, 1) := by decide +kernel
theorem d_O_init_68 : decode b_O_init 68 = .ok (.bipush 122, 2) := by decide +kernel
theorem d_O_init_70 : decode b_O_init 70 = .ok (.newarray .int, 2) := by decide +kernel
theorem d_O_init_72 : decode b_O_init 72 = .ok (.putfield 37, 3) := by decide +kernel
theorem d_O_init_75 : decode b_O_init 75 = .ok (.aload_n 0, 1) := by decide +kernel
theorem d_O_init_76 : decode b_O_init 76 = .ok (.bipush 40, 2) := by decide +kernel
theorem d_O_init_78 : decode b_O_init 78 = .ok (.newarray .char, 2) := by decide +kernel
theorem d_O_init_80 : decode b_O_init 80 = .ok (.putfield 40, 3) := by decide +kernel
theorem d_O_init_83 : decode b_O_init 83 = .ok (.aload_n 0, 1) := by decide +kernel
theorem d_O_init_84 : decode b_O_init 84 = .ok (.bipush 6, 2) := by decide +kernel
theorem d_O_init_86 : decode b_O_init 86 = .ok (.newarray .boolean, 2) := by decide +kernel
theorem d_O_init_88 : decode b_O_init 88 = .ok (.putfield 43, 3) := by decide +kernel
theorem d_O_init_91 : decode b_O_init 91 = .ok (.aload_n 0, 1) := by decide +kernel
theorem d_O_init_92 : decode b_O_init 92 = .ok (.bipush 6, 2) := by decide +kernel
theorem d_O_init_94 : decode b_O_init 94 = .ok (.newarray .int, 2) := by decide +kernel
theorem d_O_init_96 : decode b_O_init 96 = .ok (.putfield 46, 3) := by decide +kernel
theorem d_O_init_99 : decode b_O_init 99 = .ok (.aload_n 0, 1) := by decide +kernel
theorem d_O_init_100 : decode b_O_init 100 = .ok (.bipush 6, 2) := by decide +kernel
theorem d_O_init_102 : decode b_O_init 102 = .ok (.newarray .boolean, 2) := by decide +kernel
theorem d_O_init_104 : decode b_O_init 104 = .ok (.putfield 49, 3) := by decide +kernel
theorem d_O_init_107 : decode b_O_init 107 = .ok (.aload_n 0, 1) := by decide +kernel
theorem d_O_init_108 : decode b_O_init 108 = .ok (.getfield 13, 3) := by decide +kernel
theorem d_O_init_111 : decode b_O_init 111 = .ok (.iconst 0, 1) := by decide +kernel
theorem d_O_init_112 : decode b_O_init 112 = .ok (.iconst (-1), 1) := by decide +kernel
theorem d_O_init_113 : decode b_O_init 113 = .ok (.iastore, 1) := by decide +kernel
theorem d_O_init_114 : decode b_O_init 114 = .ok (.return_, 1) := by decide +kernel
theorem d_O_type_0 : decode b_O_type 0 = .ok (.iload_n 1, 1) := by decide +kernel
theorem d_O_type_1 : decode b_O_type 1 = .ok (.bipush 10, 2) := by decide +kernel
theorem d_O_type_3 : decode b_O_type 3 = .ok (.if_icmp .eq 15, 3) := by decide +kernel
theorem d_O_type_6 : decode b_O_type 6 = .ok (.iload_n 1, 1) := by decide +kernel
theorem d_O_type_7 : decode b_O_type 7 = .ok (.bipush 32, 2) := by decide +kernel
theorem d_O_type_9 : decode b_O_type 9 = .ok (.if_icmp .lt 18, 3) := by decide +kernel
theorem d_O_type_12 : decode b_O_type 12 = .ok (.iload_n 1, 1) := by decide +kernel
theorem d_O_type_13 : decode b_O_type 13 = .ok (.bipush 126, 2) := by decide +kernel
theorem d_O_type_15 : decode b_O_type 15 = .ok (.if_icmp .gt 12, 3) := by decide +kernel
theorem d_O_type_18 : decode b_O_type 18 = .ok (.aload_n 0, 1) := by decide +kernel
theorem d_O_type_19 : decode b_O_type 19 = .ok (.getfield 52, 3) := by decide +kernel
theorem d_O_type_22 : decode b_O_type 22 = .ok (.bipush 40, 2) := by decide +kernel
theorem d_O_type_24 : decode b_O_type 24 = .ok (.if_icmp .ne 5, 3) := by decide +kernel
theorem d_O_type_27 : decode b_O_type 27 = .ok (.iconst 0, 1) := by decide +kernel
theorem d_O_type_28 : decode b_O_type 28 = .ok (.ireturn, 1) := by decide +kernel
theorem d_O_type_29 : decode b_O_type 29 = .ok (.aload_n 0, 1) := by decide +kernel
theorem d_O_type_30 : decode b_O_type 30 = .ok (.getfield 40, 3) := by decide +kernel
theorem d_O_type_33 : decode b_O_type 33 = .ok (.aload_n 0, 1) := by decide +kernel
theorem d_O_type_34 : decode b_O_type 34 = .ok (.getfield 52, 3) := by decide +kernel
theorem d_O_type_37 : decode b_O_type 37 = .ok (.iload_n 1, 1) := by decide +kernel
theorem d_O_type_38 : decode b_O_type 38 = .ok (.castore, 1) := by decide +kernel
theorem d_O_type_39 : decode b_O_type 39 = .ok (.aload_n 0, 1) := by decide +kernel
theorem d_O_type_40 : decode b_O_type 40 = .ok (.dup, 1) := by decide +kernel
theorem d_O_type_41 : decode b_O_type 41 = .ok (.getfield 52, 3) := by decide +kernel
theorem d_O_type_44 : decode b_O_type 44 = .ok (.iconst 1, 1) := by decide +kernel
theorem d_O_type_45 : decode b_O_type 45 = .ok (.iadd, 1) := by decide +kernel
theorem d_O_type_46 : decode b_O_type 46 = .ok (.putfield 52, 3) := by decide +kernel
theorem d_O_type_49 : decode b_O_type 49 = .ok (.iconst 1, 1) := by decide +kernel
theorem d_O_type_50 : decode b_O_type 50 = .ok (.ireturn, 1) := by decide +kernel
theorem d_O_wipe_0 : decode b_O_wipe 0 = .ok (.aload_n 0, 1) := by decide +kernel
theorem d_O_wipe_1 : decode b_O_wipe 1 = .ok (.iconst 0, 1) := by decide +kernel
theorem d_O_wipe_2 : decode b_O_wipe 2 = .ok (.putfield 52, 3) := by decide +kernel
theorem d_O_wipe_5 : decode b_O_wipe 5 = .ok (.return_, 1) := by decide +kernel
theorem d_O_scratch_0 : decode b_O_scratch 0 = .ok (.aload_n 0, 1) := by decide +kernel
theorem d_O_scratch_1 : decode b_O_scratch 1 = .ok (.getfield 52, 3) := by decide +kernel
theorem d_O_scratch_4 : decode b_O_scratch 4 = .ok (.ireturn, 1) := by decide +kernel
theorem d_O_isStretch_0 : decode b_O_isStretch 0 = .ok (.iload_n 1, 1) := by decide +kernel
theorem d_O_isStretch_1 : decode b_O_isStretch 1 = .ok (.ifCond .lt 29, 3) := by decide +kernel
theorem d_O_isStretch_4 : decode b_O_isStretch 4 = .ok (.iload_n 1, 1) := by decide +kernel
theorem d_O_isStretch_5 : decode b_O_isStretch 5 = .ok (.aload_n 0, 1) := by decide +kernel
theorem d_O_isStretch_6 : decode b_O_isStretch 6 = .ok (.getfield 55, 3) := by decide +kernel
theorem d_O_isStretch_9 : decode b_O_isStretch 9 = .ok (.if_icmp .gt 21, 3) := by decide +kernel
theorem d_O_isStretch_12 : decode b_O_isStretch 12 = .ok (.iload_n 2, 1) := by decide +kernel
theorem d_O_isStretch_13 : decode b_O_isStretch 13 = .ok (.ifCond .lt 17, 3) := by decide +kernel
theorem d_O_isStretch_16 : decode b_O_isStretch 16 = .ok (.iload_n 2, 1) := by decide +kernel
theorem d_O_isStretch_17 : decode b_O_isStretch 17 = .ok (.aload_n 0, 1) := by decide +kernel
theorem d_O_isStretch_18 : decode b_O_isStretch 18 = .ok (.getfield 55, 3) := by decide +kernel
theorem d_O_isStretch_21 : decode b_O_isStretch 21 = .ok (.iload_n 1, 1) := by decide +kernel
theorem d_O_isStretch_22 : decode b_O_isStretch 22 = .ok (.isub, 1) := by decide +kernel
theorem d_O_isStretch_23 : decode b_O_isStretch 23 = .ok (.if_icmp .gt 7, 3) := by decide +kernel
theorem d_O_isStretch_26 : decode b_O_isStretch 26 = .ok (.iconst 1, 1) := by decide +kernel
theorem d_O_isStretch_27 : decode b_O_isStretch 27 = .ok (.goto 4, 3) := by decide +kernel
theorem d_O_isStretch_30 : decode b_O_isStretch 30 = .ok (.iconst 0, 1) := by decide +kernel
theorem d_O_isStretch_31 : decode b_O_isStretch 31 = .ok (.ireturn, 1) := by decide +kernel
theorem d_O_isPosition_0 : decode b_O_isPosition 0 = .ok (.iload_n 1, 1) := by decide +kernel
theorem d_O_isPosition_1 : decode b_O_isPosition 1 = .ok (.ifCond .lt 15, 3) := by decide +kernel
theorem d_O_isPosition_4 : decode b_O_isPosition 4 = .ok (.iload_n 1, 1) := by decide +kernel
theorem d_O_isPosition_5 : decode b_O_isPosition 5 = .ok (.aload_n 0, 1) := by decide +kernel
theorem d_O_isPosition_6 : decode b_O_isPosition 6 = .ok (.getfield 55, 3) := by decide +kernel
theorem d_O_isPosition_9 : decode b_O_isPosition 9 = .ok (.if_icmp .gt 7, 3) := by decide +kernel
theorem d_O_isPosition_12 : decode b_O_isPosition 12 = .ok (.iconst 1, 1) := by decide +kernel
theorem d_O_isPosition_13 : decode b_O_isPosition 13 = .ok (.goto 4, 3) := by decide +kernel
theorem d_O_isPosition_16 : decode b_O_isPosition 16 = .ok (.iconst 0, 1) := by decide +kernel
theorem d_O_isPosition_17 : decode b_O_isPosition 17 = .ok (.ireturn, 1) := by decide +kernel
theorem d_O_copy_0 : decode b_O_copy 0 = .ok (.aload_n 0, 1) := by decide +kernel
theorem d_O_copy_1 : decode b_O_copy 1 = .ok (.iload_n 1, 1) := by decide +kernel
theorem d_O_copy_2 : decode b_O_copy 2 = .ok (.iload_n 2, 1) := by decide +kernel
theorem d_O_copy_3 : decode b_O_copy 3 = .ok (.invokevirtual 58, 3) := by decide +kernel
theorem d_O_copy_6 : decode b_O_copy 6 = .ok (.ifCond .eq 9, 3) := by decide +kernel
theorem d_O_copy_9 : decode b_O_copy 9 = .ok (.iload_n 2, 1) := by decide +kernel
theorem d_O_copy_10 : decode b_O_copy 10 = .ok (.bipush 40, 2) := by decide +kernel
theorem d_O_copy_12 : decode b_O_copy 12 = .ok (.if_icmp .le 5, 3) := by decide +kernel
theorem d_O_copy_15 : decode b_O_copy 15 = .ok (.iconst (-1), 1) := by decide +kernel
theorem d_O_copy_16 : decode b_O_copy 16 = .ok (.ireturn, 1) := by decide +kernel
theorem d_O_copy_17 : decode b_O_copy 17 = .ok (.iconst 0, 1) := by decide +kernel
theorem d_O_copy_18 : decode b_O_copy 18 = .ok (.istore_n 3, 1) := by decide +kernel
theorem d_O_copy_19 : decode b_O_copy 19 = .ok (.iload_n 3, 1) := by decide +kernel
theorem d_O_copy_20 : decode b_O_copy 20 = .ok (.iload_n 2, 1) := by decide +kernel
theorem d_O_copy_21 : decode b_O_copy 21 = .ok (.if_icmp .ge 23, 3) := by decide +kernel
theorem d_O_copy_24 : decode b_O_copy 24 = .ok (.aload_n 0, 1) := by decide +kernel
theorem d_O_copy_25 : decode b_O_copy 25 = .ok (.getfield 40, 3) := by decide +kernel
theorem d_O_copy_28 : decode b_O_copy 28 = .ok (.iload_n 3, 1) := by decide +kernel
theorem d_O_copy_29 : decode b_O_copy 29 = .ok (.aload_n 0, 1) := by decide +kernel
theorem d_O_copy_30 : decode b_O_copy 30 = .ok (.getfield 34, 3) := by decide +kernel
theorem d_O_copy_33 : decode b_O_copy 33 = .ok (.iload_n 1, 1) := by decide +kernel
theorem d_O_copy_34 : decode b_O_copy 34 = .ok (.iload_n 3, 1) := by decide +kernel
theorem d_O_copy_35 : decode b_O_copy 35 = .ok (.iadd, 1) := by decide +kernel
theorem d_O_copy_36 : decode b_O_copy 36 = .ok (.caload, 1) := by decide +kernel
theorem d_O_copy_37 : decode b_O_copy 37 = .ok (.castore, 1) := by decide +kernel
theorem d_O_copy_38 : decode b_O_copy 38 = .ok (.iinc 3 1, 3) := by decide +kernel
theorem d_O_copy_41 : decode b_O_copy 41 = .ok (.goto (-22), 3) := by decide +kernel
theorem d_O_copy_44 : decode b_O_copy 44 = .ok (.aload_n 0, 1) := by decide +kernel
theorem d_O_copy_45 : decode b_O_copy 45 = .ok (.iload_n 2, 1) := by decide +kernel
theorem d_O_copy_46 : decode b_O_copy 46 = .ok (.putfield 52, 3) := by decide +kernel
theorem d_O_copy_49 : decode b_O_copy 49 = .ok (.iload_n 2, 1) := by decide +kernel
theorem d_O_copy_50 : decode b_O_copy 50 = .ok (.ireturn, 1) := by decide +kernel
theorem d_O_bring_0 : decode b_O_bring 0 = .ok (.aload_n 0, 1) := by decide +kernel
theorem d_O_bring_1 : decode b_O_bring 1 = .ok (.getfield 55, 3) := by decide +kernel
theorem d_O_bring_4 : decode b_O_bring 4 = .ok (.iconst 1, 1) := by decide +kernel
theorem d_O_bring_5 : decode b_O_bring 5 = .ok (.isub, 1) := by decide +kernel
theorem d_O_bring_6 : decode b_O_bring 6 = .ok (.istore_n 2, 1) := by decide +kernel
theorem d_O_bring_7 : decode b_O_bring 7 = .ok (.iload_n 2, 1) := by decide +kernel
theorem d_O_bring_8 : decode b_O_bring 8 = .ok (.aload_n 0, 1) := by decide +kernel
theorem d_O_bring_9 : decode b_O_bring 9 = .ok (.getfield 21, 3) := by decide +kernel
theorem d_O_bring_12 : decode b_O_bring 12 = .ok (.iload_n 1, 1) := by decide +kernel
theorem d_O_bring_13 : decode b_O_bring 13 = .ok (.iaload, 1) := by decide +kernel
theorem d_O_bring_14 : decode b_O_bring 14 = .ok (.if_icmp .lt 28, 3) := by decide +kernel
theorem d_O_bring_17 : decode b_O_bring 17 = .ok (.aload_n 0, 1) := by decide +kernel
theorem d_O_bring_18 : decode b_O_bring 18 = .ok (.getfield 34, 3) := by decide +kernel
theorem d_O_bring_21 : decode b_O_bring 21 = .ok (.iload_n 2, 1) := by decide +kernel
theorem d_O_bring_22 : decode b_O_bring 22 = .ok (.aload_n 0, 1) := by decide +kernel
theorem d_O_bring_23 : decode b_O_bring 23 = .ok (.getfield 24, 3) := by decide +kernel
theorem d_O_bring_26 : decode b_O_bring 26 = .ok (.iload_n 1, 1) := by decide +kernel
theorem d_O_bring_27 : decode b_O_bring 27 = .ok (.iaload, 1) := by decide +kernel
theorem d_O_bring_28 : decode b_O_bring 28 = .ok (.iadd, 1) := by decide +kernel
theorem d_O_bring_29 : decode b_O_bring 29 = .ok (.aload_n 0, 1) := by decide +kernel
theorem d_O_bring_30 : decode b_O_bring 30 = .ok (.getfield 34, 3) := by decide +kernel
theorem d_O_bring_33 : decode b_O_bring 33 = .ok (.iload_n 2, 1) := by decide +kernel
theorem d_O_bring_34 : decode b_O_bring 34 = .ok (.caload, 1) := by decide +kernel
theorem d_O_bring_35 : decode b_O_bring 35 = .ok (.castore, 1) := by decide +kernel
theorem d_O_bring_36 : decode b_O_bring 36 = .ok (.iinc 2 (-1), 3) := by decide +kernel
theorem d_O_bring_39 : decode b_O_bring 39 = .ok (.goto (-32), 3) := by decide +kernel
theorem d_O_bring_42 : decode b_O_bring 42 = .ok (.iconst 0, 1) := by decide +kernel
theorem d_O_bring_43 : decode b_O_bring 43 = .ok (.istore_n 2, 1) := by decide +kernel
theorem d_O_bring_44 : decode b_O_bring 44 = .ok (.iload_n 2, 1) := by decide +kernel
theorem d_O_bring_45 : decode b_O_bring 45 = .ok (.aload_n 0, 1) := by decide +kernel
theorem d_O_bring_46 : decode b_O_bring 46 = .ok (.getfield 24, 3) := by decide +kernel
theorem d_O_bring_49 : decode b_O_bring 49 = .ok (.iload_n 1, 1) := by decide +kernel
theorem d_O_bring_50 : decode b_O_bring 50 = .ok (.iaload, 1) := by decide +kernel
theorem d_O_bring_51 : decode b_O_bring 51 = .ok (.if_icmp .ge 35, 3) := by decide +kernel
theorem d_O_bring_54 : decode b_O_bring 54 = .ok (.aload_n 0, 1) := by decide +kernel
theorem d_O_bring_55 : decode b_O_bring 55 = .ok (.getfield 34, 3) := by decide +kernel
theorem d_O_bring_58 : decode b_O_bring 58 = .ok (.aload_n 0, 1) := by decide +kernel
theorem d_O_bring_59 : decode b_O_bring 59 = .ok (.getfield 21, 3) := by decide +kernel
theorem d_O_bring_62 : decode b_O_bring 62 = .ok (.iload_n 1, 1) := by decide +kernel
theorem d_O_bring_63 : decode b_O_bring 63 = .ok (.iaload, 1) := by decide +kernel
theorem d_O_bring_64 : decode b_O_bring 64 = .ok (.iload_n 2, 1) := by decide +kernel
theorem d_O_bring_65 : decode b_O_bring 65 = .ok (.iadd, 1) := by decide +kernel
theorem d_O_bring_66 : decode b_O_bring 66 = .ok (.aload_n 0, 1) := by decide +kernel
theorem d_O_bring_67 : decode b_O_bring 67 = .ok (.getfield 30, 3) := by decide +kernel
theorem d_O_bring_70 : decode b_O_bring 70 = .ok (.aload_n 0, 1) := by decide +kernel
theorem d_O_bring_71 : decode b_O_bring 71 = .ok (.getfield 27, 3) := by decide +kernel
theorem d_O_bring_74 : decode b_O_bring 74 = .ok (.iload_n 1, 1) := by decide +kernel
theorem d_O_bring_75 : decode b_O_bring 75 = .ok (.iaload, 1) := by decide +kernel
theorem d_O_bring_76 : decode b_O_bring 76 = .ok (.iload_n 2, 1) := by decide +kernel
theorem d_O_bring_77 : decode b_O_bring 77 = .ok (.iadd, 1) := by decide +kernel
theorem d_O_bring_78 : decode b_O_bring 78 = .ok (.caload, 1) := by decide +kernel
theorem d_O_bring_79 : decode b_O_bring 79 = .ok (.castore, 1) := by decide +kernel
theorem d_O_bring_80 : decode b_O_bring 80 = .ok (.iinc 2 1, 3) := by decide +kernel
theorem d_O_bring_83 : decode b_O_bring 83 = .ok (.goto (-39), 3) := by decide +kernel
theorem d_O_bring_86 : decode b_O_bring 86 = .ok (.aload_n 0, 1) := by decide +kernel
theorem d_O_bring_87 : decode b_O_bring 87 = .ok (.aload_n 0, 1) := by decide +kernel
theorem d_O_bring_88 : decode b_O_bring 88 = .ok (.getfield 55, 3) := by decide +kernel
theorem d_O_bring_91 : decode b_O_bring 91 = .ok (.aload_n 0, 1) := by decide +kernel
theorem d_O_bring_92 : decode b_O_bring 92 = .ok (.getfield 24, 3) := by decide +kernel
theorem d_O_bring_95 : decode b_O_bring 95 = .ok (.iload_n 1, 1) := by decide +kernel
theorem d_O_bring_96 : decode b_O_bring 96 = .ok (.iaload, 1) := by decide +kernel
theorem d_O_bring_97 : decode b_O_bring 97 = .ok (.iadd, 1) := by decide +kernel
theorem d_O_bring_98 : decode b_O_bring 98 = .ok (.putfield 55, 3) := by decide +kernel
theorem d_O_bring_101 : decode b_O_bring 101 = .ok (.return_, 1) := by decide +kernel
theorem d_O_take_0 : decode b_O_take 0 = .ok (.aload_n 0, 1) := by decide +kernel
theorem d_O_take_1 : decode b_O_take 1 = .ok (.aload_n 0, 1) := by decide +kernel
theorem d_O_take_2 : decode b_O_take 2 = .ok (.getfield 55, 3) := by decide +kernel
theorem d_O_take_5 : decode b_O_take 5 = .ok (.aload_n 0, 1) := by decide +kernel
theorem d_O_take_6 : decode b_O_take 6 = .ok (.getfield 24, 3) := by decide +kernel
theorem d_O_take_9 : decode b_O_take 9 = .ok (.iload_n 1, 1) := by decide +kernel
theorem d_O_take_10 : decode b_O_take 10 = .ok (.iaload, 1) := by decide +kernel
theorem d_O_take_11 : decode b_O_take 11 = .ok (.isub, 1) := by decide +kernel
theorem d_O_take_12 : decode b_O_take 12 = .ok (.putfield 55, 3) := by decide +kernel
theorem d_O_take_15 : decode b_O_take 15 = .ok (.aload_n 0, 1) := by decide +kernel
theorem d_O_take_16 : decode b_O_take 16 = .ok (.getfield 21, 3) := by decide +kernel
theorem d_O_take_19 : decode b_O_take 19 = .ok (.iload_n 1, 1) := by decide +kernel
theorem d_O_take_20 : decode b_O_take 20 = .ok (.iaload, 1) := by decide +kernel
theorem d_O_take_21 : decode b_O_take 21 = .ok (.istore_n 2, 1) := by decide +kernel
theorem d_O_take_22 : decode b_O_take 22 = .ok (.iload_n 2, 1) := by decide +kernel
theorem d_O_take_23 : decode b_O_take 23 = .ok (.aload_n 0, 1) := by decide +kernel
theorem d_O_take_24 : decode b_O_take 24 = .ok (.getfield 55, 3) := by decide +kernel
theorem d_O_take_27 : decode b_O_take 27 = .ok (.if_icmp .ge 28, 3) := by decide +kernel
theorem d_O_take_30 : decode b_O_take 30 = .ok (.aload_n 0, 1) := by decide +kernel
theorem d_O_take_31 : decode b_O_take 31 = .ok (.getfield 34, 3) := by decide +kernel
theorem d_O_take_34 : decode b_O_take 34 = .ok (.iload_n 2, 1) := by decide +kernel
theorem d_O_take_35 : decode b_O_take 35 = .ok (.aload_n 0, 1) := by decide +kernel
theorem d_O_take_36 : decode b_O_take 36 = .ok (.getfield 34, 3) := by decide +kernel
theorem d_O_take_39 : decode b_O_take 39 = .ok (.iload_n 2, 1) := by decide +kernel
theorem d_O_take_40 : decode b_O_take 40 = .ok (.aload_n 0, 1) := by decide +kernel
theorem d_O_take_41 : decode b_O_take 41 = .ok (.getfield 24, 3) := by decide +kernel
theorem d_O_take_44 : decode b_O_take 44 = .ok (.iload_n 1, 1) := by decide +kernel
theorem d_O_take_45 : decode b_O_take 45 = .ok (.iaload, 1) := by decide +kernel
theorem d_O_take_46 : decode b_O_take 46 = .ok (.iadd, 1) := by decide +kernel
theorem d_O_take_47 : decode b_O_take 47 = .ok (.caload, 1) := by decide +kernel
theorem d_O_take_48 : decode b_O_take 48 = .ok (.castore, 1) := by decide +kernel
theorem d_O_take_49 : decode b_O_take 49 = .ok (.iinc 2 1, 3) := by decide +kernel
theorem d_O_take_52 : decode b_O_take 52 = .ok (.goto (-30), 3) := by decide +kernel
theorem d_O_take_55 : decode b_O_take 55 = .ok (.return_, 1) := by decide +kernel
theorem d_O_make_0 : decode b_O_make 0 = .ok (.iconst 0, 1) := by decide +kernel
theorem d_O_make_1 : decode b_O_make 1 = .ok (.istore_n 1, 1) := by decide +kernel
theorem d_O_make_2 : decode b_O_make 2 = .ok (.aload_n 0, 1) := by decide +kernel
theorem d_O_make_3 : decode b_O_make 3 = .ok (.getfield 62, 3) := by decide +kernel
theorem d_O_make_6 : decode b_O_make 6 = .ok (.istore_n 2, 1) := by decide +kernel
theorem d_O_make_7 : decode b_O_make 7 = .ok (.iload_n 2, 1) := by decide +kernel
theorem d_O_make_8 : decode b_O_make 8 = .ok (.ifCond .le 23, 3) := by decide +kernel
theorem d_O_make_11 : decode b_O_make 11 = .ok (.aload_n 0, 1) := by decide +kernel
theorem d_O_make_12 : decode b_O_make 12 = .ok (.getfield 37, 3) := by decide +kernel
theorem d_O_make_15 : decode b_O_make 15 = .ok (.iload_n 1, 1) := by decide +kernel
theorem d_O_make_16 : decode b_O_make 16 = .ok (.iload_n 2, 1) := by decide +kernel
theorem d_O_make_17 : decode b_O_make 17 = .ok (.iastore, 1) := by decide +kernel
theorem d_O_make_18 : decode b_O_make 18 = .ok (.iinc 1 1, 3) := by decide +kernel
theorem d_O_make_21 : decode b_O_make 21 = .ok (.aload_n 0, 1) := by decide +kernel
theorem d_O_make_22 : decode b_O_make 22 = .ok (.getfield 13, 3) := by decide +kernel
theorem d_O_make_25 : decode b_O_make 25 = .ok (.iload_n 2, 1) := by decide +kernel
theorem d_O_make_26 : decode b_O_make 26 = .ok (.iaload, 1) := by decide +kernel
theorem d_O_make_27 : decode b_O_make 27 = .ok (.istore_n 2, 1) := by decide +kernel
theorem d_O_make_28 : decode b_O_make 28 = .ok (.goto (-21), 3) := by decide +kernel
theorem d_O_make_31 : decode b_O_make 31 = .ok (.aload_n 0, 1) := by decide +kernel
theorem d_O_make_32 : decode b_O_make 32 = .ok (.iconst 0, 1) := by decide +kernel
theorem d_O_make_33 : decode b_O_make 33 = .ok (.putfield 55, 3) := by decide +kernel
theorem d_O_make_36 : decode b_O_make 36 = .ok (.iload_n 1, 1) := by decide +kernel
theorem d_O_make_37 : decode b_O_make 37 = .ok (.iconst 1, 1) := by decide +kernel
theorem d_O_make_38 : decode b_O_make 38 = .ok (.isub, 1) := by decide +kernel
theorem d_O_make_39 : decode b_O_make 39 = .ok (.istore_n 2, 1) := by decide +kernel
theorem d_O_make_40 : decode b_O_make 40 = .ok (.iload_n 2, 1) := by decide +kernel
theorem d_O_make_41 : decode b_O_make 41 = .ok (.ifCond .lt 46, 3) := by decide +kernel
theorem d_O_make_44 : decode b_O_make 44 = .ok (.aload_n 0, 1) := by decide +kernel
theorem d_O_make_45 : decode b_O_make 45 = .ok (.getfield 17, 3) := by decide +kernel
theorem d_O_make_48 : decode b_O_make 48 = .ok (.aload_n 0, 1) := by decide +kernel
theorem d_O_make_49 : decode b_O_make 49 = .ok (.getfield 37, 3) := by decide +kernel
theorem d_O_make_52 : decode b_O_make 52 = .ok (.iload_n 2, 1) := by decide +kernel
theorem d_O_make_53 : decode b_O_make 53 = .ok (.iaload, 1) := by decide +kernel
theorem d_O_make_54 : decode b_O_make 54 = .ok (.baload, 1) := by decide +kernel
theorem d_O_make_55 : decode b_O_make 55 = .ok (.ifCond .eq 16, 3) := by decide +kernel
theorem d_O_make_58 : decode b_O_make 58 = .ok (.aload_n 0, 1) := by decide +kernel
theorem d_O_make_59 : decode b_O_make 59 = .ok (.aload_n 0, 1) := by decide +kernel
theorem d_O_make_60 : decode b_O_make 60 = .ok (.getfield 37, 3) := by decide +kernel
theorem d_O_make_63 : decode b_O_make 63 = .ok (.iload_n 2, 1) := by decide +kernel
theorem d_O_make_64 : decode b_O_make 64 = .ok (.iaload, 1) := by decide +kernel
theorem d_O_make_65 : decode b_O_make 65 = .ok (.invokevirtual 65, 3) := by decide +kernel
theorem d_O_make_68 : decode b_O_make 68 = .ok (.goto 13, 3) := by decide +kernel
theorem d_O_make_71 : decode b_O_make 71 = .ok (.aload_n 0, 1) := by decide +kernel
theorem d_O_make_72 : decode b_O_make 72 = .ok (.aload_n 0, 1) := by decide +kernel
theorem d_O_make_73 : decode b_O_make 73 = .ok (.getfield 37, 3) := by decide +kernel
theorem d_O_make_76 : decode b_O_make 76 = .ok (.iload_n 2, 1) := by decide +kernel
theorem d_O_make_77 : decode b_O_make 77 = .ok (.iaload, 1) := by decide +kernel
theorem d_O_make_78 : decode b_O_make 78 = .ok (.invokevirtual 69, 3) := by decide +kernel
theorem d_O_make_81 : decode b_O_make 81 = .ok (.iinc 2 (-1), 3) := by decide +kernel
theorem d_O_make_84 : decode b_O_make 84 = .ok (.goto (-44), 3) := by decide +kernel
theorem d_O_make_87 : decode b_O_make 87 = .ok (.return_, 1) := by decide +kernel
theorem d_O_moveMarks_0 : decode b_O_moveMarks 0 = .ok (.iconst 0, 1) := by decide +kernel
theorem d_O_moveMarks_1 : decode b_O_moveMarks 1 = .ok (.istore 4, 2) := by decide +kernel
theorem d_O_moveMarks_3 : decode b_O_moveMarks 3 = .ok (.iload 4, 2) := by decide +kernel
theorem d_O_moveMarks_5 : decode b_O_moveMarks 5 = .ok (.bipush 6, 2) := by decide +kernel
theorem d_O_moveMarks_7 : decode b_O_moveMarks 7 = .ok (.if_icmp .ge 97, 3) := by decide +kernel
theorem d_O_moveMarks_10 : decode b_O_moveMarks 10 = .ok (.aload_n 0, 1) := by decide +kernel
theorem d_O_moveMarks_11 : decode b_O_moveMarks 11 = .ok (.getfield 46, 3) := by decide +kernel
theorem d_O_moveMarks_14 : decode b_O_moveMarks 14 = .ok (.iload 4, 2) := by decide +kernel
theorem d_O_moveMarks_16 : decode b_O_moveMarks 16 = .ok (.iaload, 1) := by decide +kernel
theorem d_O_moveMarks_17 : decode b_O_moveMarks 17 = .ok (.istore 5, 2) := by decide +kernel
theorem d_O_moveMarks_19 : decode b_O_moveMarks 19 = .ok (.iload_n 3, 1) := by decide +kernel
theorem d_O_moveMarks_20 : decode b_O_moveMarks 20 = .ok (.ifCond .eq 44, 3) := by decide +kernel
theorem d_O_moveMarks_23 : decode b_O_moveMarks 23 = .ok (.aload_n 0, 1) := by decide +kernel
theorem d_O_moveMarks_24 : decode b_O_moveMarks 24 = .ok (.getfield 46, 3) := by decide +kernel
theorem d_O_moveMarks_27 : decode b_O_moveMarks 27 = .ok (.iload 4, 2) := by decide +kernel
theorem d_O_moveMarks_29 : decode b_O_moveMarks 29 = .ok (.iload 5, 2) := by decide +kernel
theorem d_O_moveMarks_31 : decode b_O_moveMarks 31 = .ok (.iload_n 1, 1) := by decide +kernel
theorem d_O_moveMarks_32 : decode b_O_moveMarks 32 = .ok (.if_icmp .gt 19, 3) := by decide +kernel
theorem d_O_moveMarks_35 : decode b_O_moveMarks 35 = .ok (.iload 5, 2) := by decide +kernel
theorem d_O_moveMarks_37 : decode b_O_moveMarks 37 = .ok (.iload_n 1, 1) := by decide +kernel
theorem d_O_moveMarks_38 : decode b_O_moveMarks 38 = .ok (.if_icmp .ne 20, 3) := by decide +kernel
theorem d_O_moveMarks_41 : decode b_O_moveMarks 41 = .ok (.aload_n 0, 1) := by decide +kernel
theorem d_O_moveMarks_42 : decode b_O_moveMarks 42 = .ok (.getfield 49, 3) := by decide +kernel
theorem d_O_moveMarks_45 : decode b_O_moveMarks 45 = .ok (.iload 4, 2) := by decide +kernel
theorem d_O_moveMarks_47 : decode b_O_moveMarks 47 = .ok (.baload, 1) := by decide +kernel
theorem d_O_moveMarks_48 : decode b_O_moveMarks 48 = .ok (.ifCond .eq 10, 3) := by decide +kernel
theorem d_O_moveMarks_51 : decode b_O_moveMarks 51 = .ok (.iload 5, 2) := by decide +kernel
theorem d_O_moveMarks_53 : decode b_O_moveMarks 53 = .ok (.iload_n 2, 1) := by decide +kernel
theorem d_O_moveMarks_54 : decode b_O_moveMarks 54 = .ok (.iadd, 1) := by decide +kernel
theorem d_O_moveMarks_55 : decode b_O_moveMarks 55 = .ok (.goto 5, 3) := by decide +kernel
theorem d_O_moveMarks_58 : decode b_O_moveMarks 58 = .ok (.iload 5, 2) := by decide +kernel
theorem d_O_moveMarks_60 : decode b_O_moveMarks 60 = .ok (.iastore, 1) := by decide +kernel
theorem d_O_moveMarks_61 : decode b_O_moveMarks 61 = .ok (.goto 37, 3) := by decide +kernel
theorem d_O_moveMarks_64 : decode b_O_moveMarks 64 = .ok (.aload_n 0, 1) := by decide +kernel
theorem d_O_moveMarks_65 : decode b_O_moveMarks 65 = .ok (.getfield 46, 3) := by decide +kernel
theorem d_O_moveMarks_68 : decode b_O_moveMarks 68 = .ok (.iload 4, 2) := by decide +kernel
theorem d_O_moveMarks_70 : decode b_O_moveMarks 70 = .ok (.iload 5, 2) := by decide +kernel
theorem d_O_moveMarks_72 : decode b_O_moveMarks 72 = .ok (.iload_n 1, 1) := by decide +kernel
theorem d_O_moveMarks_73 : decode b_O_moveMarks 73 = .ok (.iload_n 2, 1) := by decide +kernel
theorem d_O_moveMarks_74 : decode b_O_moveMarks 74 = .ok (.iadd, 1) := by decide +kernel
theorem d_O_moveMarks_75 : decode b_O_moveMarks 75 = .ok (.if_icmp .lt 10, 3) := by decide +kernel
theorem d_O_moveMarks_78 : decode b_O_moveMarks 78 = .ok (.iload 5, 2) := by decide +kernel
theorem d_O_moveMarks_80 : decode b_O_moveMarks 80 = .ok (.iload_n 2, 1) := by decide +kernel
theorem d_O_moveMarks_81 : decode b_O_moveMarks 81 = .ok (.isub, 1) := by decide +kernel
theorem d_O_moveMarks_82 : decode b_O_moveMarks 82 = .ok (.goto 15, 3) := by decide +kernel
theorem d_O_moveMarks_85 : decode b_O_moveMarks 85 = .ok (.iload 5, 2) := by decide +kernel
theorem d_O_moveMarks_87 : decode b_O_moveMarks 87 = .ok (.iload_n 1, 1) := by decide +kernel
theorem d_O_moveMarks_88 : decode b_O_moveMarks 88 = .ok (.if_icmp .le 7, 3) := by decide +kernel
theorem d_O_moveMarks_91 : decode b_O_moveMarks 91 = .ok (.iload_n 1, 1) := by decide +kernel
theorem d_O_moveMarks_92 : decode b_O_moveMarks 92 = .ok (.goto 5, 3) := by decide +kernel
theorem d_O_moveMarks_95 : decode b_O_moveMarks 95 = .ok (.iload 5, 2) := by decide +kernel
theorem d_O_moveMarks_97 : decode b_O_moveMarks 97 = .ok (.iastore, 1) := by decide +kernel
theorem d_O_moveMarks_98 : decode b_O_moveMarks 98 = .ok (.iinc 4 1, 3) := by decide +kernel
theorem d_O_moveMarks_101 : decode b_O_moveMarks 101 = .ok (.goto (-98), 3) := by decide +kernel
theorem d_O_moveMarks_104 : decode b_O_moveMarks 104 = .ok (.return_, 1) := by decide +kernel
theorem d_O_edit_0 : decode b_O_edit 0 = .ok (.aload_n 0, 1) := by decide +kernel
theorem d_O_edit_1 : decode b_O_edit 1 = .ok (.getfield 7, 3) := by decide +kernel
theorem d_O_edit_4 : decode b_O_edit 4 = .ok (.istore 4, 2) := by decide +kernel
theorem d_O_edit_6 : decode b_O_edit 6 = .ok (.aload_n 0, 1) := by decide +kernel
theorem d_O_edit_7 : decode b_O_edit 7 = .ok (.dup, 1) := by decide +kernel
theorem d_O_edit_8 : decode b_O_edit 8 = .ok (.getfield 7, 3) := by decide +kernel
theorem d_O_edit_11 : decode b_O_edit 11 = .ok (.iconst 1, 1) := by decide +kernel
theorem d_O_edit_12 : decode b_O_edit 12 = .ok (.iadd, 1) := by decide +kernel
theorem d_O_edit_13 : decode b_O_edit 13 = .ok (.putfield 7, 3) := by decide +kernel
theorem d_O_edit_16 : decode b_O_edit 16 = .ok (.aload_n 0, 1) := by decide +kernel
theorem d_O_edit_17 : decode b_O_edit 17 = .ok (.getfield 13, 3) := by decide +kernel
theorem d_O_edit_20 : decode b_O_edit 20 = .ok (.iload 4, 2) := by decide +kernel
theorem d_O_edit_22 : decode b_O_edit 22 = .ok (.aload_n 0, 1) := by decide +kernel
theorem d_O_edit_23 : decode b_O_edit 23 = .ok (.getfield 62, 3) := by decide +kernel
theorem d_O_edit_26 : decode b_O_edit 26 = .ok (.iastore, 1) := by decide +kernel
theorem d_O_edit_27 : decode b_O_edit 27 = .ok (.aload_n 0, 1) := by decide +kernel
theorem d_O_edit_28 : decode b_O_edit 28 = .ok (.getfield 17, 3) := by decide +kernel
theorem d_O_edit_31 : decode b_O_edit 31 = .ok (.iload 4, 2) := by decide +kernel
theorem d_O_edit_33 : decode b_O_edit 33 = .ok (.iload_n 1, 1) := by decide +kernel
theorem d_O_edit_34 : decode b_O_edit 34 = .ok (.bastore, 1) := by decide +kernel
theorem d_O_edit_35 : decode b_O_edit 35 = .ok (.aload_n 0, 1) := by decide +kernel
theorem d_O_edit_36 : decode b_O_edit 36 = .ok (.getfield 21, 3) := by decide +kernel
theorem d_O_edit_39 : decode b_O_edit 39 = .ok (.iload 4, 2) := by decide +kernel
theorem d_O_edit_41 : decode b_O_edit 41 = .ok (.iload_n 2, 1) := by decide +kernel
theorem d_O_edit_42 : decode b_O_edit 42 = .ok (.iastore, 1) := by decide +kernel
theorem d_O_edit_43 : decode b_O_edit 43 = .ok (.aload_n 0, 1) := by decide +kernel
theorem d_O_edit_44 : decode b_O_edit 44 = .ok (.getfield 24, 3) := by decide +kernel
theorem d_O_edit_47 : decode b_O_edit 47 = .ok (.iload 4, 2) := by decide +kernel
theorem d_O_edit_49 : decode b_O_edit 49 = .ok (.iload_n 3, 1) := by decide +kernel
theorem d_O_edit_50 : decode b_O_edit 50 = .ok (.iastore, 1) := by decide +kernel
theorem d_O_edit_51 : decode b_O_edit 51 = .ok (.aload_n 0, 1) := by decide +kernel
theorem d_O_edit_52 : decode b_O_edit 52 = .ok (.iload_n 2, 1) := by decide +kernel
theorem d_O_edit_53 : decode b_O_edit 53 = .ok (.iload_n 3, 1) := by decide +kernel
theorem d_O_edit_54 : decode b_O_edit 54 = .ok (.iload_n 1, 1) := by decide +kernel
theorem d_O_edit_55 : decode b_O_edit 55 = .ok (.invokevirtual 72, 3) := by decide +kernel
theorem d_O_edit_58 : decode b_O_edit 58 = .ok (.aload_n 0, 1) := by decide +kernel
theorem d_O_edit_59 : decode b_O_edit 59 = .ok (.iload 4, 2) := by decide +kernel
theorem d_O_edit_61 : decode b_O_edit 61 = .ok (.putfield 62, 3) := by decide +kernel
theorem d_O_edit_64 : decode b_O_edit 64 = .ok (.aload_n 0, 1) := by decide +kernel
theorem d_O_edit_65 : decode b_O_edit 65 = .ok (.invokevirtual 76, 3) := by decide +kernel
theorem d_O_edit_68 : decode b_O_edit 68 = .ok (.iload 4, 2) := by decide +kernel
theorem d_O_edit_70 : decode b_O_edit 70 = .ok (.ireturn, 1) := by decide +kernel
theorem d_O_insert_0 : decode b_O_insert 0 = .ok (.aload_n 0, 1) := by decide +kernel
theorem d_O_insert_1 : decode b_O_insert 1 = .ok (.iload_n 1, 1) := by decide +kernel
theorem d_O_insert_2 : decode b_O_insert 2 = .ok (.invokevirtual 79, 3) := by decide +kernel
theorem d_O_insert_5 : decode b_O_insert 5 = .ok (.ifCond .ne 5, 3) := by decide +kernel
theorem d_O_insert_8 : decode b_O_insert 8 = .ok (.iconst (-1), 1) := by decide +kernel
theorem d_O_insert_9 : decode b_O_insert 9 = .ok (.ireturn, 1) := by decide +kernel
theorem d_O_insert_10 : decode b_O_insert 10 = .ok (.aload_n 0, 1) := by decide +kernel
theorem d_O_insert_11 : decode b_O_insert 11 = .ok (.getfield 52, 3) := by decide +kernel
theorem d_O_insert_14 : decode b_O_insert 14 = .ok (.ifCond .ne 6, 3) := by decide +kernel
theorem d_O_insert_17 : decode b_O_insert 17 = .ok (.bipush (-2), 2) := by decide +kernel
theorem d_O_insert_19 : decode b_O_insert 19 = .ok (.ireturn, 1) := by decide +kernel
theorem d_O_insert_20 : decode b_O_insert 20 = .ok (.aload_n 0, 1) := by decide +kernel
theorem d_O_insert_21 : decode b_O_insert 21 = .ok (.getfield 7, 3) := by decide +kernel
theorem d_O_insert_24 : decode b_O_insert 24 = .ok (.bipush 122, 2) := by decide +kernel
theorem d_O_insert_26 : decode b_O_insert 26 = .ok (.if_icmp .eq 18, 3) := by decide +kernel
theorem d_O_insert_29 : decode b_O_insert 29 = .ok (.aload_n 0, 1) := by decide +kernel
theorem d_O_insert_30 : decode b_O_insert 30 = .ok (.getfield 83, 3) := by decide +kernel
theorem d_O_insert_33 : decode b_O_insert 33 = .ok (.aload_n 0, 1) := by decide +kernel
theorem d_O_insert_34 : decode b_O_insert 34 = .ok (.getfield 52, 3) := by decide +kernel
theorem d_O_insert_37 : decode b_O_insert 37 = .ok (.iadd, 1) := by decide +kernel
theorem d_O_insert_38 : decode b_O_insert 38 = .ok (.sipush 2000, 3) := by decide +kernel
theorem d_O_insert_41 : decode b_O_insert 41 = .ok (.if_icmp .le 6, 3) := by decide +kernel
theorem d_O_insert_44 : decode b_O_insert 44 = .ok (.bipush (-3), 2) := by decide +kernel
theorem d_O_insert_46 : decode b_O_insert 46 = .ok (.ireturn, 1) := by decide +kernel
theorem d_O_insert_47 : decode b_O_insert 47 = .ok (.aload_n 0, 1) := by decide +kernel
theorem d_O_insert_48 : decode b_O_insert 48 = .ok (.getfield 27, 3) := by decide +kernel
theorem d_O_insert_51 : decode b_O_insert 51 = .ok (.aload_n 0, 1) := by decide +kernel
theorem d_O_insert_52 : decode b_O_insert 52 = .ok (.getfield 7, 3) := by decide +kernel
theorem d_O_insert_55 : decode b_O_insert 55 = .ok (.aload_n 0, 1) := by decide +kernel
theorem d_O_insert_56 : decode b_O_insert 56 = .ok (.getfield 83, 3) := by decide +kernel
theorem d_O_insert_59 : decode b_O_insert 59 = .ok (.iastore, 1) := by decide +kernel
theorem d_O_insert_60 : decode b_O_insert 60 = .ok (.iconst 0, 1) := by decide +kernel
theorem d_O_insert_61 : decode b_O_insert 61 = .ok (.istore_n 2, 1) := by decide +kernel
theorem d_O_insert_62 : decode b_O_insert 62 = .ok (.iload_n 2, 1) := by decide +kernel
theorem d_O_insert_63 : decode b_O_insert 63 = .ok (.aload_n 0, 1) := by decide +kernel
theorem d_O_insert_64 : decode b_O_insert 64 = .ok (.getfield 52, 3) := by decide +kernel
theorem d_O_insert_67 : decode b_O_insert 67 = .ok (.if_icmp .ge 26, 3) := by decide +kernel
theorem d_O_insert_70 : decode b_O_insert 70 = .ok (.aload_n 0, 1) := by decide +kernel
theorem d_O_insert_71 : decode b_O_insert 71 = .ok (.getfield 30, 3) := by decide +kernel
theorem d_O_insert_74 : decode b_O_insert 74 = .ok (.aload_n 0, 1) := by decide +kernel
theorem d_O_insert_75 : decode b_O_insert 75 = .ok (.getfield 83, 3) := by decide +kernel
theorem d_O_insert_78 : decode b_O_insert 78 = .ok (.iload_n 2, 1) := by decide +kernel
theorem d_O_insert_79 : decode b_O_insert 79 = .ok (.iadd, 1) := by decide +kernel
theorem d_O_insert_80 : decode b_O_insert 80 = .ok (.aload_n 0, 1) := by decide +kernel
theorem d_O_insert_81 : decode b_O_insert 81 = .ok (.getfield 40, 3) := by decide +kernel
theorem d_O_insert_84 : decode b_O_insert 84 = .ok (.iload_n 2, 1) := by decide +kernel
theorem d_O_insert_85 : decode b_O_insert 85 = .ok (.caload, 1) := by decide +kernel
theorem d_O_insert_86 : decode b_O_insert 86 = .ok (.castore, 1) := by decide +kernel
theorem d_O_insert_87 : decode b_O_insert 87 = .ok (.iinc 2 1, 3) := by decide +kernel
theorem d_O_insert_90 : decode b_O_insert 90 = .ok (.goto (-28), 3) := by decide +kernel
theorem d_O_insert_93 : decode b_O_insert 93 = .ok (.aload_n 0, 1) := by decide +kernel
theorem d_O_insert_94 : decode b_O_insert 94 = .ok (.aload_n 0, 1) := by decide +kernel
theorem d_O_insert_95 : decode b_O_insert 95 = .ok (.getfield 83, 3) := by decide +kernel
theorem d_O_insert_98 : decode b_O_insert 98 = .ok (.aload_n 0, 1) := by decide +kernel
theorem d_O_insert_99 : decode b_O_insert 99 = .ok (.getfield 52, 3) := by decide +kernel
theorem d_O_insert_102 : decode b_O_insert 102 = .ok (.iadd, 1) := by decide +kernel
theorem d_O_insert_103 : decode b_O_insert 103 = .ok (.putfield 83, 3) := by decide +kernel
theorem d_O_insert_106 : decode b_O_insert 106 = .ok (.aload_n 0, 1) := by decide +kernel
theorem d_O_insert_107 : decode b_O_insert 107 = .ok (.iconst 1, 1) := by decide +kernel
theorem d_O_insert_108 : decode b_O_insert 108 = .ok (.iload_n 1, 1) := by decide +kernel
theorem d_O_insert_109 : decode b_O_insert 109 = .ok (.aload_n 0, 1) := by decide +kernel
theorem d_O_insert_110 : decode b_O_insert 110 = .ok (.getfield 52, 3) := by decide +kernel
theorem d_O_insert_113 : decode b_O_insert 113 = .ok (.invokevirtual 86, 3) := by decide +kernel
theorem d_O_insert_116 : decode b_O_insert 116 = .ok (.ireturn, 1) := by decide +kernel
theorem d_O_delete_0 : decode b_O_delete 0 = .ok (.aload_n 0, 1) := by decide +kernel
theorem d_O_delete_1 : decode b_O_delete 1 = .ok (.iload_n 1, 1) := by decide +kernel
theorem d_O_delete_2 : decode b_O_delete 2 = .ok (.iload_n 2, 1) := by decide +kernel
theorem d_O_delete_3 : decode b_O_delete 3 = .ok (.invokevirtual 58, 3) := by decide +kernel
theorem d_O_delete_6 : decode b_O_delete 6 = .ok (.ifCond .ne 5, 3) := by decide +kernel
theorem d_O_delete_9 : decode b_O_delete 9 = .ok (.iconst (-1), 1) := by decide +kernel
theorem d_O_delete_10 : decode b_O_delete 10 = .ok (.ireturn, 1) := by decide +kernel
theorem d_O_delete_11 : decode b_O_delete 11 = .ok (.iload_n 2, 1) := by decide +kernel
theorem d_O_delete_12 : decode b_O_delete 12 = .ok (.ifCond .ne 6, 3) := by decide +kernel
theorem d_O_delete_15 : decode b_O_delete 15 = .ok (.bipush (-2), 2) := by decide +kernel
theorem d_O_delete_17 : decode b_O_delete 17 = .ok (.ireturn, 1) := by decide +kernel
theorem d_O_delete_18 : decode b_O_delete 18 = .ok (.aload_n 0, 1) := by decide +kernel
theorem d_O_delete_19 : decode b_O_delete 19 = .ok (.getfield 7, 3) := by decide +kernel
theorem d_O_delete_22 : decode b_O_delete 22 = .ok (.bipush 122, 2) := by decide +kernel
theorem d_O_delete_24 : decode b_O_delete 24 = .ok (.if_icmp .ne 8, 3) := by decide +kernel
theorem d_O_delete_27 : decode b_O_delete 27 = .ok (.bipush (-3), 2) := by decide +kernel
theorem d_O_delete_29 : decode b_O_delete 29 = .ok (.goto 10, 3) := by decide +kernel
theorem d_O_delete_32 : decode b_O_delete 32 = .ok (.aload_n 0, 1) := by decide +kernel
theorem d_O_delete_33 : decode b_O_delete 33 = .ok (.iconst 0, 1) := by decide +kernel
theorem d_O_delete_34 : decode b_O_delete 34 = .ok (.iload_n 1, 1) := by decide +kernel
theorem d_O_delete_35 : decode b_O_delete 35 = .ok (.iload_n 2, 1) := by decide +kernel
theorem d_O_delete_36 : decode b_O_delete 36 = .ok (.invokevirtual 86, 3) := by decide +kernel
theorem d_O_delete_39 : decode b_O_delete 39 = .ok (.ireturn, 1) := by decide +kernel
theorem d_O_stepBack_0 : decode b_O_stepBack 0 = .ok (.aload_n 0, 1) := by decide +kernel
theorem d_O_stepBack_1 : decode b_O_stepBack 1 = .ok (.aload_n 0, 1) := by decide +kernel
theorem d_O_stepBack_2 : decode b_O_stepBack 2 = .ok (.getfield 21, 3) := by decide +kernel
theorem d_O_stepBack_5 : decode b_O_stepBack 5 = .ok (.aload_n 0, 1) := by decide +kernel
theorem d_O_stepBack_6 : decode b_O_stepBack 6 = .ok (.getfield 62, 3) := by decide +kernel
theorem d_O_stepBack_9 : decode b_O_stepBack 9 = .ok (.iaload, 1) := by decide +kernel
theorem d_O_stepBack_10 : decode b_O_stepBack 10 = .ok (.aload_n 0, 1) := by decide +kernel
theorem d_O_stepBack_11 : decode b_O_stepBack 11 = .ok (.getfield 24, 3) := by decide +kernel
theorem d_O_stepBack_14 : decode b_O_stepBack 14 = .ok (.aload_n 0, 1) := by decide +kernel
theorem d_O_stepBack_15 : decode b_O_stepBack 15 = .ok (.getfield 62, 3) := by decide +kernel
theorem d_O_stepBack_18 : decode b_O_stepBack 18 = .ok (.iaload, 1) := by decide +kernel
theorem d_O_stepBack_19 : decode b_O_stepBack 19 = .ok (.aload_n 0, 1) := by decide +kernel
theorem d_O_stepBack_20 : decode b_O_stepBack 20 = .ok (.getfield 17, 3) := by decide +kernel
theorem d_O_stepBack_23 : decode b_O_stepBack 23 = .ok (.aload_n 0, 1) := by decide +kernel
theorem d_O_stepBack_24 : decode b_O_stepBack 24 = .ok (.getfield 62, 3) := by decide +kernel
theorem d_O_stepBack_27 : decode b_O_stepBack 27 = .ok (.baload, 1) := by decide +kernel
theorem d_O_stepBack_28 : decode b_O_stepBack 28 = .ok (.ifCond .ne 7, 3) := by decide +kernel
theorem d_O_stepBack_31 : decode b_O_stepBack 31 = .ok (.iconst 1, 1) := by decide +kernel
theorem d_O_stepBack_32 : decode b_O_stepBack 32 = .ok (.goto 4, 3) := by decide +kernel
theorem d_O_stepBack_35 : decode b_O_stepBack 35 = .ok (.iconst 0, 1) := by decide +kernel
theorem d_O_stepBack_36 : decode b_O_stepBack 36 = .ok (.invokevirtual 72, 3) := by decide +kernel
theorem d_O_stepBack_39 : decode b_O_stepBack 39 = .ok (.aload_n 0, 1) := by decide +kernel
theorem d_O_stepBack_40 : decode b_O_stepBack 40 = .ok (.aload_n 0, 1) := by decide +kernel
theorem d_O_stepBack_41 : decode b_O_stepBack 41 = .ok (.getfield 13, 3) := by decide +kernel
theorem d_O_stepBack_44 : decode b_O_stepBack 44 = .ok (.aload_n 0, 1) := by decide +kernel
theorem d_O_stepBack_45 : decode b_O_stepBack 45 = .ok (.getfield 62, 3) := by decide +kernel
theorem d_O_stepBack_48 : decode b_O_stepBack 48 = .ok (.iaload, 1) := by decide +kernel
theorem d_O_stepBack_49 : decode b_O_stepBack 49 = .ok (.putfield 62, 3) := by decide +kernel
theorem d_O_stepBack_52 : decode b_O_stepBack 52 = .ok (.return_, 1) := by decide +kernel
theorem d_O_stepOn_0 : decode b_O_stepOn 0 = .ok (.aload_n 0, 1) := by decide +kernel
theorem d_O_stepOn_1 : decode b_O_stepOn 1 = .ok (.aload_n 0, 1) := by decide +kernel
theorem d_O_stepOn_2 : decode b_O_stepOn 2 = .ok (.getfield 21, 3) := by decide +kernel
theorem d_O_stepOn_5 : decode b_O_stepOn 5 = .ok (.iload_n 1, 1) := by decide +kernel
theorem d_O_stepOn_6 : decode b_O_stepOn 6 = .ok (.iaload, 1) := by decide +kernel
theorem d_O_stepOn_7 : decode b_O_stepOn 7 = .ok (.aload_n 0, 1) := by decide +kernel
theorem d_O_stepOn_8 : decode b_O_stepOn 8 = .ok (.getfield 24, 3) := by decide +kernel
theorem d_O_stepOn_11 : decode b_O_stepOn 11 = .ok (.iload_n 1, 1) := by decide +kernel
theorem d_O_stepOn_12 : decode b_O_stepOn 12 = .ok (.iaload, 1) := by decide +kernel
theorem d_O_stepOn_13 : decode b_O_stepOn 13 = .ok (.aload_n 0, 1) := by decide +kernel
theorem d_O_stepOn_14 : decode b_O_stepOn 14 = .ok (.getfield 17, 3) := by decide +kernel
theorem d_O_stepOn_17 : decode b_O_stepOn 17 = .ok (.iload_n 1, 1) := by decide +kernel
theorem d_O_stepOn_18 : decode b_O_stepOn 18 = .ok (.baload, 1) := by decide +kernel
theorem d_O_stepOn_19 : decode b_O_stepOn 19 = .ok (.invokevirtual 72, 3) := by decide +kernel
theorem d_O_stepOn_22 : decode b_O_stepOn 22 = .ok (.aload_n 0, 1) := by decide +kernel
theorem d_O_stepOn_23 : decode b_O_stepOn 23 = .ok (.iload_n 1, 1) := by decide +kernel
theorem d_O_stepOn_24 : decode b_O_stepOn 24 = .ok (.putfield 62, 3) := by decide +kernel
theorem d_O_stepOn_27 : decode b_O_stepOn 27 = .ok (.return_, 1) := by decide +kernel
theorem d_O_undo_0 : decode b_O_undo 0 = .ok (.aload_n 0, 1) := by decide +kernel
theorem d_O_undo_1 : decode b_O_undo 1 = .ok (.getfield 62, 3) := by decide +kernel
theorem d_O_undo_4 : decode b_O_undo 4 = .ok (.ifCond .ne 5, 3) := by decide +kernel
theorem d_O_undo_7 : decode b_O_undo 7 = .ok (.iconst (-1), 1) := by decide +kernel
theorem d_O_undo_8 : decode b_O_undo 8 = .ok (.ireturn, 1) := by decide +kernel
theorem d_O_undo_9 : decode b_O_undo 9 = .ok (.aload_n 0, 1) := by decide +kernel
theorem d_O_undo_10 : decode b_O_undo 10 = .ok (.invokevirtual 90, 3) := by decide +kernel
theorem d_O_undo_13 : decode b_O_undo 13 = .ok (.aload_n 0, 1) := by decide +kernel
theorem d_O_undo_14 : decode b_O_undo 14 = .ok (.invokevirtual 76, 3) := by decide +kernel
theorem d_O_undo_17 : decode b_O_undo 17 = .ok (.aload_n 0, 1) := by decide +kernel
theorem d_O_undo_18 : decode b_O_undo 18 = .ok (.getfield 62, 3) := by decide +kernel
theorem d_O_undo_21 : decode b_O_undo 21 = .ok (.ireturn, 1) := by decide +kernel
theorem d_O_redo_0 : decode b_O_redo 0 = .ok (.iconst (-1), 1) := by decide +kernel
theorem d_O_redo_1 : decode b_O_redo 1 = .ok (.istore_n 1, 1) := by decide +kernel
theorem d_O_redo_2 : decode b_O_redo 2 = .ok (.iconst 1, 1) := by decide +kernel
theorem d_O_redo_3 : decode b_O_redo 3 = .ok (.istore_n 2, 1) := by decide +kernel
theorem d_O_redo_4 : decode b_O_redo 4 = .ok (.iload_n 2, 1) := by decide +kernel
theorem d_O_redo_5 : decode b_O_redo 5 = .ok (.aload_n 0, 1) := by decide +kernel
theorem d_O_redo_6 : decode b_O_redo 6 = .ok (.getfield 7, 3) := by decide +kernel
theorem d_O_redo_9 : decode b_O_redo 9 = .ok (.if_icmp .ge 28, 3) := by decide +kernel
theorem d_O_redo_12 : decode b_O_redo 12 = .ok (.aload_n 0, 1) := by decide +kernel
theorem d_O_redo_13 : decode b_O_redo 13 = .ok (.getfield 13, 3) := by decide +kernel
theorem d_O_redo_16 : decode b_O_redo 16 = .ok (.iload_n 2, 1) := by decide +kernel
theorem d_O_redo_17 : decode b_O_redo 17 = .ok (.iaload, 1) := by decide +kernel
theorem d_O_redo_18 : decode b_O_redo 18 = .ok (.aload_n 0, 1) := by decide +kernel
theorem d_O_redo_19 : decode b_O_redo 19 = .ok (.getfield 62, 3) := by decide +kernel
theorem d_O_redo_22 : decode b_O_redo 22 = .ok (.if_icmp .ne 7, 3) := by decide +kernel
theorem d_O_redo_25 : decode b_O_redo 25 = .ok (.iload_n 2, 1) := by decide +kernel
theorem d_O_redo_26 : decode b_O_redo 26 = .ok (.goto 4, 3) := by decide +kernel
theorem d_O_redo_29 : decode b_O_redo 29 = .ok (.iload_n 1, 1) := by decide +kernel
theorem d_O_redo_30 : decode b_O_redo 30 = .ok (.istore_n 1, 1) := by decide +kernel
theorem d_O_redo_31 : decode b_O_redo 31 = .ok (.iinc 2 1, 3) := by decide +kernel
theorem d_O_redo_34 : decode b_O_redo 34 = .ok (.goto (-30), 3) := by decide +kernel
theorem d_O_redo_37 : decode b_O_redo 37 = .ok (.iload_n 1, 1) := by decide +kernel
theorem d_O_redo_38 : decode b_O_redo 38 = .ok (.ifCond .le 12, 3) := by decide +kernel
theorem d_O_redo_41 : decode b_O_redo 41 = .ok (.aload_n 0, 1) := by decide +kernel
theorem d_O_redo_42 : decode b_O_redo 42 = .ok (.iload_n 1, 1) := by decide +kernel
theorem d_O_redo_43 : decode b_O_redo 43 = .ok (.invokevirtual 93, 3) := by decide +kernel
theorem d_O_redo_46 : decode b_O_redo 46 = .ok (.aload_n 0, 1) := by decide +kernel
theorem d_O_redo_47 : decode b_O_redo 47 = .ok (.invokevirtual 76, 3) := by decide +kernel
theorem d_O_redo_50 : decode b_O_redo 50 = .ok (.iload_n 1, 1) := by decide +kernel
theorem d_O_redo_51 : decode b_O_redo 51 = .ok (.ireturn, 1) := by decide +kernel
theorem d_O_leads_0 : decode b_O_leads 0 = .ok (.iload_n 2, 1) := by decide +kernel
theorem d_O_leads_1 : decode b_O_leads 1 = .ok (.istore_n 3, 1) := by decide +kernel
theorem d_O_leads_2 : decode b_O_leads 2 = .ok (.iload_n 3, 1) := by decide +kernel
theorem d_O_leads_3 : decode b_O_leads 3 = .ok (.iload_n 1, 1) := by decide +kernel
theorem d_O_leads_4 : decode b_O_leads 4 = .ok (.if_icmp .le 13, 3) := by decide +kernel
theorem d_O_leads_7 : decode b_O_leads 7 = .ok (.aload_n 0, 1) := by decide +kernel
theorem d_O_leads_8 : decode b_O_leads 8 = .ok (.getfield 13, 3) := by decide +kernel
theorem d_O_leads_11 : decode b_O_leads 11 = .ok (.iload_n 3, 1) := by decide +kernel
theorem d_O_leads_12 : decode b_O_leads 12 = .ok (.iaload, 1) := by decide +kernel
theorem d_O_leads_13 : decode b_O_leads 13 = .ok (.istore_n 3, 1) := by decide +kernel
theorem d_O_leads_14 : decode b_O_leads 14 = .ok (.goto (-12), 3) := by decide +kernel
theorem d_O_leads_17 : decode b_O_leads 17 = .ok (.iload_n 3, 1) := by decide +kernel
theorem d_O_leads_18 : decode b_O_leads 18 = .ok (.iload_n 1, 1) := by decide +kernel
theorem d_O_leads_19 : decode b_O_leads 19 = .ok (.if_icmp .ne 7, 3) := by decide +kernel
theorem d_O_leads_22 : decode b_O_leads 22 = .ok (.iconst 1, 1) := by decide +kernel
theorem d_O_leads_23 : decode b_O_leads 23 = .ok (.goto 4, 3) := by decide +kernel
theorem d_O_leads_26 : decode b_O_leads 26 = .ok (.iconst 0, 1) := by decide +kernel
theorem d_O_leads_27 : decode b_O_leads 27 = .ok (.ireturn, 1) := by decide +kernel
theorem d_O_next_0 : decode b_O_next 0 = .ok (.iload_n 1, 1) := by decide +kernel
theorem d_O_next_1 : decode b_O_next 1 = .ok (.istore_n 2, 1) := by decide +kernel
theorem d_O_next_2 : decode b_O_next 2 = .ok (.aload_n 0, 1) := by decide +kernel
theorem d_O_next_3 : decode b_O_next 3 = .ok (.getfield 13, 3) := by decide +kernel
theorem d_O_next_6 : decode b_O_next 6 = .ok (.iload_n 2, 1) := by decide +kernel
theorem d_O_next_7 : decode b_O_next 7 = .ok (.iaload, 1) := by decide +kernel
theorem d_O_next_8 : decode b_O_next 8 = .ok (.aload_n 0, 1) := by decide +kernel
theorem d_O_next_9 : decode b_O_next 9 = .ok (.getfield 62, 3) := by decide +kernel
theorem d_O_next_12 : decode b_O_next 12 = .ok (.if_icmp .eq 13, 3) := by decide +kernel
theorem d_O_next_15 : decode b_O_next 15 = .ok (.aload_n 0, 1) := by decide +kernel
theorem d_O_next_16 : decode b_O_next 16 = .ok (.getfield 13, 3) := by decide +kernel
theorem d_O_next_19 : decode b_O_next 19 = .ok (.iload_n 2, 1) := by decide +kernel
theorem d_O_next_20 : decode b_O_next 20 = .ok (.iaload, 1) := by decide +kernel
theorem d_O_next_21 : decode b_O_next 21 = .ok (.istore_n 2, 1) := by decide +kernel
theorem d_O_next_22 : decode b_O_next 22 = .ok (.goto (-20), 3) := by decide +kernel
theorem d_O_next_25 : decode b_O_next 25 = .ok (.iload_n 2, 1) := by decide +kernel
theorem d_O_next_26 : decode b_O_next 26 = .ok (.ireturn, 1) := by decide +kernel
theorem d_O_goTo_0 : decode b_O_goTo 0 = .ok (.iload_n 1, 1) := by decide +kernel
theorem d_O_goTo_1 : decode b_O_goTo 1 = .ok (.ifCond .lt 11, 3) := by decide +kernel
theorem d_O_goTo_4 : decode b_O_goTo 4 = .ok (.iload_n 1, 1) := by decide +kernel
theorem d_O_goTo_5 : decode b_O_goTo 5 = .ok (.aload_n 0, 1) := by decide +kernel
theorem d_O_goTo_6 : decode b_O_goTo 6 = .ok (.getfield 7, 3) := by decide +kernel
theorem d_O_goTo_9 : decode b_O_goTo 9 = .ok (.if_icmp .lt 5, 3) := by decide +kernel
theorem d_O_goTo_12 : decode b_O_goTo 12 = .ok (.iconst (-1), 1) := by decide +kernel
theorem d_O_goTo_13 : decode b_O_goTo 13 = .ok (.ireturn, 1) := by decide +kernel
theorem d_O_goTo_14 : decode b_O_goTo 14 = .ok (.iconst 0, 1) := by decide +kernel
theorem d_O_goTo_15 : decode b_O_goTo 15 = .ok (.istore_n 2, 1) := by decide +kernel
theorem d_O_goTo_16 : decode b_O_goTo 16 = .ok (.aload_n 0, 1) := by decide +kernel
theorem d_O_goTo_17 : decode b_O_goTo 17 = .ok (.aload_n 0, 1) := by decide +kernel
theorem d_O_goTo_18 : decode b_O_goTo 18 = .ok (.getfield 62, 3) := by decide +kernel
theorem d_O_goTo_21 : decode b_O_goTo 21 = .ok (.iload_n 1, 1) := by decide +kernel
theorem d_O_goTo_22 : decode b_O_goTo 22 = .ok (.invokevirtual 96, 3) := by decide +kernel
theorem d_O_goTo_25 : decode b_O_goTo 25 = .ok (.ifCond .ne 13, 3) := by decide +kernel
theorem d_O_goTo_28 : decode b_O_goTo 28 = .ok (.aload_n 0, 1) := by decide +kernel
theorem d_O_goTo_29 : decode b_O_goTo 29 = .ok (.invokevirtual 90, 3) := by decide +kernel
theorem d_O_goTo_32 : decode b_O_goTo 32 = .ok (.iinc 2 1, 3) := by decide +kernel
theorem d_O_goTo_35 : decode b_O_goTo 35 = .ok (.goto (-19), 3) := by decide +kernel
theorem d_O_goTo_38 : decode b_O_goTo 38 = .ok (.aload_n 0, 1) := by decide +kernel
theorem d_O_goTo_39 : decode b_O_goTo 39 = .ok (.getfield 62, 3) := by decide +kernel
theorem d_O_goTo_42 : decode b_O_goTo 42 = .ok (.iload_n 1, 1) := by decide +kernel
theorem d_O_goTo_43 : decode b_O_goTo 43 = .ok (.if_icmp .eq 20, 3) := by decide +kernel
theorem d_O_goTo_46 : decode b_O_goTo 46 = .ok (.aload_n 0, 1) := by decide +kernel
theorem d_O_goTo_47 : decode b_O_goTo 47 = .ok (.iload_n 1, 1) := by decide +kernel
theorem d_O_goTo_48 : decode b_O_goTo 48 = .ok (.invokevirtual 99, 3) := by decide +kernel
theorem d_O_goTo_51 : decode b_O_goTo 51 = .ok (.istore_n 3, 1) := by decide +kernel
theorem d_O_goTo_52 : decode b_O_goTo 52 = .ok (.aload_n 0, 1) := by decide +kernel
theorem d_O_goTo_53 : decode b_O_goTo 53 = .ok (.iload_n 3, 1) := by decide +kernel
theorem d_O_goTo_54 : decode b_O_goTo 54 = .ok (.invokevirtual 93, 3) := by decide +kernel
theorem d_O_goTo_57 : decode b_O_goTo 57 = .ok (.iinc 2 1, 3) := by decide +kernel
theorem d_O_goTo_60 : decode b_O_goTo 60 = .ok (.goto (-22), 3) := by decide +kernel
theorem d_O_goTo_63 : decode b_O_goTo 63 = .ok (.aload_n 0, 1) := by decide +kernel
theorem d_O_goTo_64 : decode b_O_goTo 64 = .ok (.invokevirtual 76, 3) := by decide +kernel
theorem d_O_goTo_67 : decode b_O_goTo 67 = .ok (.iload_n 2, 1) := by decide +kernel
theorem d_O_goTo_68 : decode b_O_goTo 68 = .ok (.ireturn, 1) := by decide +kernel
theorem d_O_version_0 : decode b_O_version 0 = .ok (.aload_n 0, 1) := by decide +kernel
theorem d_O_version_1 : decode b_O_version 1 = .ok (.getfield 62, 3) := by decide +kernel
theorem d_O_version_4 : decode b_O_version 4 = .ok (.ireturn, 1) := by decide +kernel
theorem d_O_versions_0 : decode b_O_versions 0 = .ok (.aload_n 0, 1) := by decide +kernel
theorem d_O_versions_1 : decode b_O_versions 1 = .ok (.getfield 7, 3) := by decide +kernel
theorem d_O_versions_4 : decode b_O_versions 4 = .ok (.ireturn, 1) := by decide +kernel
theorem d_O_parent_0 : decode b_O_parent 0 = .ok (.iload_n 1, 1) := by decide +kernel
theorem d_O_parent_1 : decode b_O_parent 1 = .ok (.ifCond .le 11, 3) := by decide +kernel
theorem d_O_parent_4 : decode b_O_parent 4 = .ok (.iload_n 1, 1) := by decide +kernel
theorem d_O_parent_5 : decode b_O_parent 5 = .ok (.aload_n 0, 1) := by decide +kernel
theorem d_O_parent_6 : decode b_O_parent 6 = .ok (.getfield 7, 3) := by decide +kernel
theorem d_O_parent_9 : decode b_O_parent 9 = .ok (.if_icmp .lt 7, 3) := by decide +kernel
theorem d_O_parent_12 : decode b_O_parent 12 = .ok (.iconst (-1), 1) := by decide +kernel
theorem d_O_parent_13 : decode b_O_parent 13 = .ok (.goto 9, 3) := by decide +kernel
theorem d_O_parent_16 : decode b_O_parent 16 = .ok (.aload_n 0, 1) := by decide +kernel
theorem d_O_parent_17 : decode b_O_parent 17 = .ok (.getfield 13, 3) := by decide +kernel
theorem d_O_parent_20 : decode b_O_parent 20 = .ok (.iload_n 1, 1) := by decide +kernel
theorem d_O_parent_21 : decode b_O_parent 21 = .ok (.iaload, 1) := by decide +kernel
theorem d_O_parent_22 : decode b_O_parent 22 = .ok (.ireturn, 1) := by decide +kernel
theorem d_O_children_0 : decode b_O_children 0 = .ok (.iload_n 1, 1) := by decide +kernel
theorem d_O_children_1 : decode b_O_children 1 = .ok (.ifCond .lt 11, 3) := by decide +kernel
theorem d_O_children_4 : decode b_O_children 4 = .ok (.iload_n 1, 1) := by decide +kernel
theorem d_O_children_5 : decode b_O_children 5 = .ok (.aload_n 0, 1) := by decide +kernel
theorem d_O_children_6 : decode b_O_children 6 = .ok (.getfield 7, 3) := by decide +kernel
theorem d_O_children_9 : decode b_O_children 9 = .ok (.if_icmp .lt 5, 3) := by decide +kernel
theorem d_O_children_12 : decode b_O_children 12 = .ok (.iconst (-1), 1) := by decide +kernel
theorem d_O_children_13 : decode b_O_children 13 = .ok (.ireturn, 1) := by decide +kernel
theorem d_O_children_14 : decode b_O_children 14 = .ok (.iconst 0, 1) := by decide +kernel
theorem d_O_children_15 : decode b_O_children 15 = .ok (.istore_n 2, 1) := by decide +kernel
theorem d_O_children_16 : decode b_O_children 16 = .ok (.iconst 1, 1) := by decide +kernel
theorem d_O_children_17 : decode b_O_children 17 = .ok (.istore_n 3, 1) := by decide +kernel
theorem d_O_children_18 : decode b_O_children 18 = .ok (.iload_n 3, 1) := by decide +kernel
theorem d_O_children_19 : decode b_O_children 19 = .ok (.aload_n 0, 1) := by decide +kernel
theorem d_O_children_20 : decode b_O_children 20 = .ok (.getfield 7, 3) := by decide +kernel
theorem d_O_children_23 : decode b_O_children 23 = .ok (.if_icmp .ge 27, 3) := by decide +kernel
theorem d_O_children_26 : decode b_O_children 26 = .ok (.aload_n 0, 1) := by decide +kernel
theorem d_O_children_27 : decode b_O_children 27 = .ok (.getfield 13, 3) := by decide +kernel
theorem d_O_children_30 : decode b_O_children 30 = .ok (.iload_n 3, 1) := by decide +kernel
theorem d_O_children_31 : decode b_O_children 31 = .ok (.iaload, 1) := by decide +kernel
theorem d_O_children_32 : decode b_O_children 32 = .ok (.iload_n 1, 1) := by decide +kernel
theorem d_O_children_33 : decode b_O_children 33 = .ok (.if_icmp .ne 9, 3) := by decide +kernel
theorem d_O_children_36 : decode b_O_children 36 = .ok (.iload_n 2, 1) := by decide +kernel
theorem d_O_children_37 : decode b_O_children 37 = .ok (.iconst 1, 1) := by decide +kernel
theorem d_O_children_38 : decode b_O_children 38 = .ok (.iadd, 1) := by decide +kernel
theorem d_O_children_39 : decode b_O_children 39 = .ok (.goto 4, 3) := by decide +kernel
theorem d_O_children_42 : decode b_O_children 42 = .ok (.iload_n 2, 1) := by decide +kernel
theorem d_O_children_43 : decode b_O_children 43 = .ok (.istore_n 2, 1) := by decide +kernel
theorem d_O_children_44 : decode b_O_children 44 = .ok (.iinc 3 1, 3) := by decide +kernel
theorem d_O_children_47 : decode b_O_children 47 = .ok (.goto (-29), 3) := by decide +kernel
theorem d_O_children_50 : decode b_O_children 50 = .ok (.iload_n 2, 1) := by decide +kernel
theorem d_O_children_51 : decode b_O_children 51 = .ok (.ireturn, 1) := by decide +kernel
theorem d_O_length_0 : decode b_O_length 0 = .ok (.aload_n 0, 1) := by decide +kernel
theorem d_O_length_1 : decode b_O_length 1 = .ok (.getfield 55, 3) := by decide +kernel
theorem d_O_length_4 : decode b_O_length 4 = .ok (.ireturn, 1) := by decide +kernel
theorem d_O_at_0 : decode b_O_at 0 = .ok (.iload_n 1, 1) := by decide +kernel
theorem d_O_at_1 : decode b_O_at 1 = .ok (.ifCond .lt 20, 3) := by decide +kernel
theorem d_O_at_4 : decode b_O_at 4 = .ok (.iload_n 1, 1) := by decide +kernel
theorem d_O_at_5 : decode b_O_at 5 = .ok (.aload_n 0, 1) := by decide +kernel
theorem d_O_at_6 : decode b_O_at 6 = .ok (.getfield 55, 3) := by decide +kernel
theorem d_O_at_9 : decode b_O_at 9 = .ok (.if_icmp .ge 12, 3) := by decide +kernel
theorem d_O_at_12 : decode b_O_at 12 = .ok (.aload_n 0, 1) := by decide +kernel
theorem d_O_at_13 : decode b_O_at 13 = .ok (.getfield 34, 3) := by decide +kernel
theorem d_O_at_16 : decode b_O_at 16 = .ok (.iload_n 1, 1) := by decide +kernel
theorem d_O_at_17 : decode b_O_at 17 = .ok (.caload, 1) := by decide +kernel
theorem d_O_at_18 : decode b_O_at 18 = .ok (.goto 4, 3) := by decide +kernel
theorem d_O_at_21 : decode b_O_at 21 = .ok (.iconst 0, 1) := by decide +kernel
theorem d_O_at_22 : decode b_O_at 22 = .ok (.ireturn, 1) := by decide +kernel
theorem d_O_lines_0 : decode b_O_lines 0 = .ok (.aload_n 0, 1) := by decide +kernel
theorem d_O_lines_1 : decode b_O_lines 1 = .ok (.aload_n 0, 1) := by decide +kernel
theorem d_O_lines_2 : decode b_O_lines 2 = .ok (.getfield 55, 3) := by decide +kernel
theorem d_O_lines_5 : decode b_O_lines 5 = .ok (.invokevirtual 103, 3) := by decide +kernel
theorem d_O_lines_8 : decode b_O_lines 8 = .ok (.iconst 1, 1) := by decide +kernel
theorem d_O_lines_9 : decode b_O_lines 9 = .ok (.iadd, 1) := by decide +kernel
theorem d_O_lines_10 : decode b_O_lines 10 = .ok (.ireturn, 1) := by decide +kernel
theorem d_O_lineStart_0 : decode b_O_lineStart 0 = .ok (.iconst 0, 1) := by decide +kernel
theorem d_O_lineStart_1 : decode b_O_lineStart 1 = .ok (.istore_n 2, 1) := by decide +kernel
theorem d_O_lineStart_2 : decode b_O_lineStart 2 = .ok (.iconst 0, 1) := by decide +kernel
theorem d_O_lineStart_3 : decode b_O_lineStart 3 = .ok (.istore_n 3, 1) := by decide +kernel
theorem d_O_lineStart_4 : decode b_O_lineStart 4 = .ok (.iload_n 3, 1) := by decide +kernel
theorem d_O_lineStart_5 : decode b_O_lineStart 5 = .ok (.aload_n 0, 1) := by decide +kernel
theorem d_O_lineStart_6 : decode b_O_lineStart 6 = .ok (.getfield 55, 3) := by decide +kernel
theorem d_O_lineStart_9 : decode b_O_lineStart 9 = .ok (.if_icmp .gt 41, 3) := by decide +kernel
theorem d_O_lineStart_12 : decode b_O_lineStart 12 = .ok (.iload_n 3, 1) := by decide +kernel
theorem d_O_lineStart_13 : decode b_O_lineStart 13 = .ok (.ifCond .le 22, 3) := by decide +kernel
theorem d_O_lineStart_16 : decode b_O_lineStart 16 = .ok (.aload_n 0, 1) := by decide +kernel
theorem d_O_lineStart_17 : decode b_O_lineStart 17 = .ok (.getfield 34, 3) := by decide +kernel
theorem d_O_lineStart_20 : decode b_O_lineStart 20 = .ok (.iload_n 3, 1) := by decide +kernel
theorem d_O_lineStart_21 : decode b_O_lineStart 21 = .ok (.iconst 1, 1) := by decide +kernel
theorem d_O_lineStart_22 : decode b_O_lineStart 22 = .ok (.isub, 1) := by decide +kernel
theorem d_O_lineStart_23 : decode b_O_lineStart 23 = .ok (.caload, 1) := by decide +kernel
theorem d_O_lineStart_24 : decode b_O_lineStart 24 = .ok (.bipush 10, 2) := by decide +kernel
theorem d_O_lineStart_26 : decode b_O_lineStart 26 = .ok (.if_icmp .ne 9, 3) := by decide +kernel
theorem d_O_lineStart_29 : decode b_O_lineStart 29 = .ok (.iload_n 2, 1) := by decide +kernel
theorem d_O_lineStart_30 : decode b_O_lineStart 30 = .ok (.iconst 1, 1) := by decide +kernel
theorem d_O_lineStart_31 : decode b_O_lineStart 31 = .ok (.iadd, 1) := by decide +kernel
theorem d_O_lineStart_32 : decode b_O_lineStart 32 = .ok (.goto 4, 3) := by decide +kernel
theorem d_O_lineStart_35 : decode b_O_lineStart 35 = .ok (.iload_n 2, 1) := by decide +kernel
theorem d_O_lineStart_36 : decode b_O_lineStart 36 = .ok (.istore_n 2, 1) := by decide +kernel
theorem d_O_lineStart_37 : decode b_O_lineStart 37 = .ok (.iload_n 2, 1) := by decide +kernel
theorem d_O_lineStart_38 : decode b_O_lineStart 38 = .ok (.iload_n 1, 1) := by decide +kernel
theorem d_O_lineStart_39 : decode b_O_lineStart 39 = .ok (.if_icmp .ne 5, 3) := by decide +kernel
theorem d_O_lineStart_42 : decode b_O_lineStart 42 = .ok (.iload_n 3, 1) := by decide +kernel
theorem d_O_lineStart_43 : decode b_O_lineStart 43 = .ok (.ireturn, 1) := by decide +kernel
theorem d_O_lineStart_44 : decode b_O_lineStart 44 = .ok (.iinc 3 1, 3) := by decide +kernel
theorem d_O_lineStart_47 : decode b_O_lineStart 47 = .ok (.goto (-43), 3) := by decide +kernel
theorem d_O_lineStart_50 : decode b_O_lineStart 50 = .ok (.iconst (-1), 1) := by decide +kernel
theorem d_O_lineStart_51 : decode b_O_lineStart 51 = .ok (.ireturn, 1) := by decide +kernel
theorem d_O_lineOf_0 : decode b_O_lineOf 0 = .ok (.aload_n 0, 1) := by decide +kernel
theorem d_O_lineOf_1 : decode b_O_lineOf 1 = .ok (.iload_n 1, 1) := by decide +kernel
theorem d_O_lineOf_2 : decode b_O_lineOf 2 = .ok (.invokevirtual 79, 3) := by decide +kernel
theorem d_O_lineOf_5 : decode b_O_lineOf 5 = .ok (.ifCond .ne 5, 3) := by decide +kernel
theorem d_O_lineOf_8 : decode b_O_lineOf 8 = .ok (.iconst (-1), 1) := by decide +kernel
theorem d_O_lineOf_9 : decode b_O_lineOf 9 = .ok (.ireturn, 1) := by decide +kernel
theorem d_O_lineOf_10 : decode b_O_lineOf 10 = .ok (.iconst 0, 1) := by decide +kernel
theorem d_O_lineOf_11 : decode b_O_lineOf 11 = .ok (.istore_n 2, 1) := by decide +kernel
theorem d_O_lineOf_12 : decode b_O_lineOf 12 = .ok (.iconst 0, 1) := by decide +kernel
theorem d_O_lineOf_13 : decode b_O_lineOf 13 = .ok (.istore_n 3, 1) := by decide +kernel
theorem d_O_lineOf_14 : decode b_O_lineOf 14 = .ok (.iload_n 3, 1) := by decide +kernel
theorem d_O_lineOf_15 : decode b_O_lineOf 15 = .ok (.iload_n 1, 1) := by decide +kernel
theorem d_O_lineOf_16 : decode b_O_lineOf 16 = .ok (.if_icmp .ge 28, 3) := by decide +kernel
theorem d_O_lineOf_19 : decode b_O_lineOf 19 = .ok (.aload_n 0, 1) := by decide +kernel
theorem d_O_lineOf_20 : decode b_O_lineOf 20 = .ok (.getfield 34, 3) := by decide +kernel
theorem d_O_lineOf_23 : decode b_O_lineOf 23 = .ok (.iload_n 3, 1) := by decide +kernel
theorem d_O_lineOf_24 : decode b_O_lineOf 24 = .ok (.caload, 1) := by decide +kernel
theorem d_O_lineOf_25 : decode b_O_lineOf 25 = .ok (.bipush 10, 2) := by decide +kernel
theorem d_O_lineOf_27 : decode b_O_lineOf 27 = .ok (.if_icmp .ne 9, 3) := by decide +kernel
theorem d_O_lineOf_30 : decode b_O_lineOf 30 = .ok (.iload_n 2, 1) := by decide +kernel
theorem d_O_lineOf_31 : decode b_O_lineOf 31 = .ok (.iconst 1, 1) := by decide +kernel
theorem d_O_lineOf_32 : decode b_O_lineOf 32 = .ok (.iadd, 1) := by decide +kernel
theorem d_O_lineOf_33 : decode b_O_lineOf 33 = .ok (.goto 4, 3) := by decide +kernel
theorem d_O_lineOf_36 : decode b_O_lineOf 36 = .ok (.iload_n 2, 1) := by decide +kernel
theorem d_O_lineOf_37 : decode b_O_lineOf 37 = .ok (.istore_n 2, 1) := by decide +kernel
theorem d_O_lineOf_38 : decode b_O_lineOf 38 = .ok (.iinc 3 1, 3) := by decide +kernel
theorem d_O_lineOf_41 : decode b_O_lineOf 41 = .ok (.goto (-27), 3) := by decide +kernel
theorem d_O_lineOf_44 : decode b_O_lineOf 44 = .ok (.iload_n 2, 1) := by decide +kernel
theorem d_O_lineOf_45 : decode b_O_lineOf 45 = .ok (.ireturn, 1) := by decide +kernel
theorem d_O_isScratch_0 : decode b_O_isScratch 0 = .ok (.iconst 0, 1) := by decide +kernel
theorem d_O_isScratch_1 : decode b_O_isScratch 1 = .ok (.istore_n 2, 1) := by decide +kernel
theorem d_O_isScratch_2 : decode b_O_isScratch 2 = .ok (.iload_n 2, 1) := by decide +kernel
theorem d_O_isScratch_3 : decode b_O_isScratch 3 = .ok (.aload_n 0, 1) := by decide +kernel
theorem d_O_isScratch_4 : decode b_O_isScratch 4 = .ok (.getfield 52, 3) := by decide +kernel
theorem d_O_isScratch_7 : decode b_O_isScratch 7 = .ok (.if_icmp .ge 38, 3) := by decide +kernel
theorem d_O_isScratch_10 : decode b_O_isScratch 10 = .ok (.iload_n 1, 1) := by decide +kernel
theorem d_O_isScratch_11 : decode b_O_isScratch 11 = .ok (.iload_n 2, 1) := by decide +kernel
theorem d_O_isScratch_12 : decode b_O_isScratch 12 = .ok (.iadd, 1) := by decide +kernel
theorem d_O_isScratch_13 : decode b_O_isScratch 13 = .ok (.aload_n 0, 1) := by decide +kernel
theorem d_O_isScratch_14 : decode b_O_isScratch 14 = .ok (.getfield 55, 3) := by decide +kernel
theorem d_O_isScratch_17 : decode b_O_isScratch 17 = .ok (.if_icmp .ge 20, 3) := by decide +kernel
theorem d_O_isScratch_20 : decode b_O_isScratch 20 = .ok (.aload_n 0, 1) := by decide +kernel
theorem d_O_isScratch_21 : decode b_O_isScratch 21 = .ok (.getfield 34, 3) := by decide +kernel
theorem d_O_isScratch_24 : decode b_O_isScratch 24 = .ok (.iload_n 1, 1) := by decide +kernel
theorem d_O_isScratch_25 : decode b_O_isScratch 25 = .ok (.iload_n 2, 1) := by decide +kernel
theorem d_O_isScratch_26 : decode b_O_isScratch 26 = .ok (.iadd, 1) := by decide +kernel
theorem d_O_isScratch_27 : decode b_O_isScratch 27 = .ok (.caload, 1) := by decide +kernel
theorem d_O_isScratch_28 : decode b_O_isScratch 28 = .ok (.aload_n 0, 1) := by decide +kernel
theorem d_O_isScratch_29 : decode b_O_isScratch 29 = .ok (.getfield 40, 3) := by decide +kernel
theorem d_O_isScratch_32 : decode b_O_isScratch 32 = .ok (.iload_n 2, 1) := by decide +kernel
theorem d_O_isScratch_33 : decode b_O_isScratch 33 = .ok (.caload, 1) := by decide +kernel
theorem d_O_isScratch_34 : decode b_O_isScratch 34 = .ok (.if_icmp .eq 5, 3) := by decide +kernel
theorem d_O_isScratch_37 : decode b_O_isScratch 37 = .ok (.iconst 0, 1) := by decide +kernel
theorem d_O_isScratch_38 : decode b_O_isScratch 38 = .ok (.ireturn, 1) := by decide +kernel
theorem d_O_isScratch_39 : decode b_O_isScratch 39 = .ok (.iinc 2 1, 3) := by decide +kernel
theorem d_O_isScratch_42 : decode b_O_isScratch 42 = .ok (.goto (-40), 3) := by decide +kernel
theorem d_O_isScratch_45 : decode b_O_isScratch 45 = .ok (.iconst 1, 1) := by decide +kernel
theorem d_O_isScratch_46 : decode b_O_isScratch 46 = .ok (.ireturn, 1) := by decide +kernel
theorem d_O_find_0 : decode b_O_find 0 = .ok (.aload_n 0, 1) := by decide +kernel
theorem d_O_find_1 : decode b_O_find 1 = .ok (.iload_n 1, 1) := by decide +kernel
theorem d_O_find_2 : decode b_O_find 2 = .ok (.invokevirtual 79, 3) := by decide +kernel
theorem d_O_find_5 : decode b_O_find 5 = .ok (.ifCond .ne 5, 3) := by decide +kernel
theorem d_O_find_8 : decode b_O_find 8 = .ok (.iconst (-1), 1) := by decide +kernel
theorem d_O_find_9 : decode b_O_find 9 = .ok (.ireturn, 1) := by decide +kernel
theorem d_O_find_10 : decode b_O_find 10 = .ok (.aload_n 0, 1) := by decide +kernel
theorem d_O_find_11 : decode b_O_find 11 = .ok (.getfield 52, 3) := by decide +kernel
theorem d_O_find_14 : decode b_O_find 14 = .ok (.ifCond .ne 6, 3) := by decide +kernel
theorem d_O_find_17 : decode b_O_find 17 = .ok (.bipush (-2), 2) := by decide +kernel
theorem d_O_find_19 : decode b_O_find 19 = .ok (.ireturn, 1) := by decide +kernel
theorem d_O_find_20 : decode b_O_find 20 = .ok (.iload_n 1, 1) := by decide +kernel
theorem d_O_find_21 : decode b_O_find 21 = .ok (.istore_n 2, 1) := by decide +kernel
theorem d_O_find_22 : decode b_O_find 22 = .ok (.iload_n 2, 1) := by decide +kernel
theorem d_O_find_23 : decode b_O_find 23 = .ok (.aload_n 0, 1) := by decide +kernel
theorem d_O_find_24 : decode b_O_find 24 = .ok (.getfield 55, 3) := by decide +kernel
theorem d_O_find_27 : decode b_O_find 27 = .ok (.if_icmp .ge 19, 3) := by decide +kernel
theorem d_O_find_30 : decode b_O_find 30 = .ok (.aload_n 0, 1) := by decide +kernel
theorem d_O_find_31 : decode b_O_find 31 = .ok (.iload_n 2, 1) := by decide +kernel
theorem d_O_find_32 : decode b_O_find 32 = .ok (.invokevirtual 106, 3) := by decide +kernel
theorem d_O_find_35 : decode b_O_find 35 = .ok (.ifCond .eq 5, 3) := by decide +kernel
theorem d_O_find_38 : decode b_O_find 38 = .ok (.iload_n 2, 1) := by decide +kernel
theorem d_O_find_39 : decode b_O_find 39 = .ok (.ireturn, 1) := by decide +kernel
theorem d_O_find_40 : decode b_O_find 40 = .ok (.iinc 2 1, 3) := by decide +kernel
theorem d_O_find_43 : decode b_O_find 43 = .ok (.goto (-21), 3) := by decide +kernel
theorem d_O_find_46 : decode b_O_find 46 = .ok (.bipush (-4), 2) := by decide +kernel
theorem d_O_find_48 : decode b_O_find 48 = .ok (.ireturn, 1) := by decide +kernel
theorem d_O_mark_0 : decode b_O_mark 0 = .ok (.iload_n 1, 1) := by decide +kernel
theorem d_O_mark_1 : decode b_O_mark 1 = .ok (.ifCond .lt 16, 3) := by decide +kernel
theorem d_O_mark_4 : decode b_O_mark 4 = .ok (.iload_n 1, 1) := by decide +kernel
theorem d_O_mark_5 : decode b_O_mark 5 = .ok (.iconst 5, 1) := by decide +kernel
theorem d_O_mark_6 : decode b_O_mark 6 = .ok (.if_icmp .gt 11, 3) := by decide +kernel
theorem d_O_mark_9 : decode b_O_mark 9 = .ok (.aload_n 0, 1) := by decide +kernel
theorem d_O_mark_10 : decode b_O_mark 10 = .ok (.iload_n 2, 1) := by decide +kernel
theorem d_O_mark_11 : decode b_O_mark 11 = .ok (.invokevirtual 79, 3) := by decide +kernel
theorem d_O_mark_14 : decode b_O_mark 14 = .ok (.ifCond .ne 5, 3) := by decide +kernel
theorem d_O_mark_17 : decode b_O_mark 17 = .ok (.iconst 0, 1) := by decide +kernel
theorem d_O_mark_18 : decode b_O_mark 18 = .ok (.ireturn, 1) := by decide +kernel
theorem d_O_mark_19 : decode b_O_mark 19 = .ok (.aload_n 0, 1) := by decide +kernel
theorem d_O_mark_20 : decode b_O_mark 20 = .ok (.getfield 43, 3) := by decide +kernel
theorem d_O_mark_23 : decode b_O_mark 23 = .ok (.iload_n 1, 1) := by decide +kernel
theorem d_O_mark_24 : decode b_O_mark 24 = .ok (.iconst 1, 1) := by decide +kernel
theorem d_O_mark_25 : decode b_O_mark 25 = .ok (.bastore, 1) := by decide +kernel
theorem d_O_mark_26 : decode b_O_mark 26 = .ok (.aload_n 0, 1) := by decide +kernel
theorem d_O_mark_27 : decode b_O_mark 27 = .ok (.getfield 46, 3) := by decide +kernel
theorem d_O_mark_30 : decode b_O_mark 30 = .ok (.iload_n 1, 1) := by decide +kernel
theorem d_O_mark_31 : decode b_O_mark 31 = .ok (.iload_n 2, 1) := by decide +kernel
theorem d_O_mark_32 : decode b_O_mark 32 = .ok (.iastore, 1) := by decide +kernel
theorem d_O_mark_33 : decode b_O_mark 33 = .ok (.aload_n 0, 1) := by decide +kernel
theorem d_O_mark_34 : decode b_O_mark 34 = .ok (.getfield 49, 3) := by decide +kernel
theorem d_O_mark_37 : decode b_O_mark 37 = .ok (.iload_n 1, 1) := by decide +kernel
theorem d_O_mark_38 : decode b_O_mark 38 = .ok (.iload_n 3, 1) := by decide +kernel
theorem d_O_mark_39 : decode b_O_mark 39 = .ok (.bastore, 1) := by decide +kernel
theorem d_O_mark_40 : decode b_O_mark 40 = .ok (.iconst 1, 1) := by decide +kernel
theorem d_O_mark_41 : decode b_O_mark 41 = .ok (.ireturn, 1) := by decide +kernel
theorem d_O_unmark_0 : decode b_O_unmark 0 = .ok (.iload_n 1, 1) := by decide +kernel
theorem d_O_unmark_1 : decode b_O_unmark 1 = .ok (.ifCond .lt 21, 3) := by decide +kernel
theorem d_O_unmark_4 : decode b_O_unmark 4 = .ok (.iload_n 1, 1) := by decide +kernel
theorem d_O_unmark_5 : decode b_O_unmark 5 = .ok (.iconst 5, 1) := by decide +kernel
theorem d_O_unmark_6 : decode b_O_unmark 6 = .ok (.if_icmp .gt 16, 3) := by decide +kernel
theorem d_O_unmark_9 : decode b_O_unmark 9 = .ok (.aload_n 0, 1) := by decide +kernel
theorem d_O_unmark_10 : decode b_O_unmark 10 = .ok (.getfield 43, 3) := by decide +kernel
theorem d_O_unmark_13 : decode b_O_unmark 13 = .ok (.iload_n 1, 1) := by decide +kernel
theorem d_O_unmark_14 : decode b_O_unmark 14 = .ok (.baload, 1) := by decide +kernel
theorem d_O_unmark_15 : decode b_O_unmark 15 = .ok (.ifCond .eq 7, 3) := by decide +kernel
theorem d_O_unmark_18 : decode b_O_unmark 18 = .ok (.iconst 1, 1) := by decide +kernel
theorem d_O_unmark_19 : decode b_O_unmark 19 = .ok (.goto 4, 3) := by decide +kernel
theorem d_O_unmark_22 : decode b_O_unmark 22 = .ok (.iconst 0, 1) := by decide +kernel
theorem d_O_unmark_23 : decode b_O_unmark 23 = .ok (.istore_n 2, 1) := by decide +kernel
theorem d_O_unmark_24 : decode b_O_unmark 24 = .ok (.iload_n 2, 1) := by decide +kernel
theorem d_O_unmark_25 : decode b_O_unmark 25 = .ok (.ifCond .eq 10, 3) := by decide +kernel
theorem d_O_unmark_28 : decode b_O_unmark 28 = .ok (.aload_n 0, 1) := by decide +kernel
theorem d_O_unmark_29 : decode b_O_unmark 29 = .ok (.getfield 43, 3) := by decide +kernel
theorem d_O_unmark_32 : decode b_O_unmark 32 = .ok (.iload_n 1, 1) := by decide +kernel
theorem d_O_unmark_33 : decode b_O_unmark 33 = .ok (.iconst 0, 1) := by decide +kernel
theorem d_O_unmark_34 : decode b_O_unmark 34 = .ok (.bastore, 1) := by decide +kernel
theorem d_O_unmark_35 : decode b_O_unmark 35 = .ok (.iload_n 2, 1) := by decide +kernel
theorem d_O_unmark_36 : decode b_O_unmark 36 = .ok (.ireturn, 1) := by decide +kernel
theorem d_O_where_0 : decode b_O_where 0 = .ok (.iload_n 1, 1) := by decide +kernel
theorem d_O_where_1 : decode b_O_where 1 = .ok (.ifCond .lt 26, 3) := by decide +kernel
theorem d_O_where_4 : decode b_O_where 4 = .ok (.iload_n 1, 1) := by decide +kernel
theorem d_O_where_5 : decode b_O_where 5 = .ok (.iconst 5, 1) := by decide +kernel
theorem d_O_where_6 : decode b_O_where 6 = .ok (.if_icmp .gt 21, 3) := by decide +kernel
theorem d_O_where_9 : decode b_O_where 9 = .ok (.aload_n 0, 1) := by decide +kernel
theorem d_O_where_10 : decode b_O_where 10 = .ok (.getfield 43, 3) := by decide +kernel
theorem d_O_where_13 : decode b_O_where 13 = .ok (.iload_n 1, 1) := by decide +kernel
theorem d_O_where_14 : decode b_O_where 14 = .ok (.baload, 1) := by decide +kernel
theorem d_O_where_15 : decode b_O_where 15 = .ok (.ifCond .eq 12, 3) := by decide +kernel
theorem d_O_where_18 : decode b_O_where 18 = .ok (.aload_n 0, 1) := by decide +kernel
theorem d_O_where_19 : decode b_O_where 19 = .ok (.getfield 46, 3) := by decide +kernel
theorem d_O_where_22 : decode b_O_where 22 = .ok (.iload_n 1, 1) := by decide +kernel
theorem d_O_where_23 : decode b_O_where 23 = .ok (.iaload, 1) := by decide +kernel
theorem d_O_where_24 : decode b_O_where 24 = .ok (.goto 4, 3) := by decide +kernel
theorem d_O_where_27 : decode b_O_where 27 = .ok (.iconst (-1), 1) := by decide +kernel
theorem d_O_where_28 : decode b_O_where 28 = .ok (.ireturn, 1) := by decide +kernel
theorem d_O_nextMark_0 : decode b_O_nextMark 0 = .ok (.aload_n 0, 1) := by decide +kernel
theorem d_O_nextMark_1 : decode b_O_nextMark 1 = .ok (.iload_n 1, 1) := by decide +kernel
theorem d_O_nextMark_2 : decode b_O_nextMark 2 = .ok (.invokevirtual 79, 3) := by decide +kernel
theorem d_O_nextMark_5 : decode b_O_nextMark 5 = .ok (.ifCond .ne 5, 3) := by decide +kernel
theorem d_O_nextMark_8 : decode b_O_nextMark 8 = .ok (.iconst (-1), 1) := by decide +kernel
theorem d_O_nextMark_9 : decode b_O_nextMark 9 = .ok (.ireturn, 1) := by decide +kernel
theorem d_O_nextMark_10 : decode b_O_nextMark 10 = .ok (.iconst (-1), 1) := by decide +kernel
theorem d_O_nextMark_11 : decode b_O_nextMark 11 = .ok (.istore_n 2, 1) := by decide +kernel
theorem d_O_nextMark_12 : decode b_O_nextMark 12 = .ok (.iconst 5, 1) := by decide +kernel
theorem d_O_nextMark_13 : decode b_O_nextMark 13 = .ok (.istore_n 3, 1) := by decide +kernel
theorem d_O_nextMark_14 : decode b_O_nextMark 14 = .ok (.iload_n 3, 1) := by decide +kernel
theorem d_O_nextMark_15 : decode b_O_nextMark 15 = .ok (.ifCond .lt 65, 3) := by decide +kernel
theorem d_O_nextMark_18 : decode b_O_nextMark 18 = .ok (.aload_n 0, 1) := by decide +kernel
theorem d_O_nextMark_19 : decode b_O_nextMark 19 = .ok (.getfield 43, 3) := by decide +kernel
theorem d_O_nextMark_22 : decode b_O_nextMark 22 = .ok (.iload_n 3, 1) := by decide +kernel
theorem d_O_nextMark_23 : decode b_O_nextMark 23 = .ok (.baload, 1) := by decide +kernel
theorem d_O_nextMark_24 : decode b_O_nextMark 24 = .ok (.ifCond .eq 17, 3) := by decide +kernel
theorem d_O_nextMark_27 : decode b_O_nextMark 27 = .ok (.aload_n 0, 1) := by decide +kernel
theorem d_O_nextMark_28 : decode b_O_nextMark 28 = .ok (.getfield 46, 3) := by decide +kernel
theorem d_O_nextMark_31 : decode b_O_nextMark 31 = .ok (.iload_n 3, 1) := by decide +kernel
theorem d_O_nextMark_32 : decode b_O_nextMark 32 = .ok (.iaload, 1) := by decide +kernel
theorem d_O_nextMark_33 : decode b_O_nextMark 33 = .ok (.iload_n 1, 1) := by decide +kernel
theorem d_O_nextMark_34 : decode b_O_nextMark 34 = .ok (.if_icmp .lt 7, 3) := by decide +kernel
theorem d_O_nextMark_37 : decode b_O_nextMark 37 = .ok (.iconst 1, 1) := by decide +kernel
theorem d_O_nextMark_38 : decode b_O_nextMark 38 = .ok (.goto 4, 3) := by decide +kernel
theorem d_O_nextMark_41 : decode b_O_nextMark 41 = .ok (.iconst 0, 1) := by decide +kernel
theorem d_O_nextMark_42 : decode b_O_nextMark 42 = .ok (.istore 4, 2) := by decide +kernel
theorem d_O_nextMark_44 : decode b_O_nextMark 44 = .ok (.iload 4, 2) := by decide +kernel
theorem d_O_nextMark_46 : decode b_O_nextMark 46 = .ok (.ifCond .eq 26, 3) := by decide +kernel
theorem d_O_nextMark_49 : decode b_O_nextMark 49 = .ok (.iload_n 2, 1) := by decide +kernel
theorem d_O_nextMark_50 : decode b_O_nextMark 50 = .ok (.ifCond .lt 18, 3) := by decide +kernel
theorem d_O_nextMark_53 : decode b_O_nextMark 53 = .ok (.aload_n 0, 1) := by decide +kernel
theorem d_O_nextMark_54 : decode b_O_nextMark 54 = .ok (.getfield 46, 3) := by decide +kernel
theorem d_O_nextMark_57 : decode b_O_nextMark 57 = .ok (.iload_n 3, 1) := by decide +kernel
theorem d_O_nextMark_58 : decode b_O_nextMark 58 = .ok (.iaload, 1) := by decide +kernel
theorem d_O_nextMark_59 : decode b_O_nextMark 59 = .ok (.aload_n 0, 1) := by decide +kernel
theorem d_O_nextMark_60 : decode b_O_nextMark 60 = .ok (.getfield 46, 3) := by decide +kernel
theorem d_O_nextMark_63 : decode b_O_nextMark 63 = .ok (.iload_n 2, 1) := by decide +kernel
theorem d_O_nextMark_64 : decode b_O_nextMark 64 = .ok (.iaload, 1) := by decide +kernel
theorem d_O_nextMark_65 : decode b_O_nextMark 65 = .ok (.if_icmp .gt 7, 3) := by decide +kernel
theorem d_O_nextMark_68 : decode b_O_nextMark 68 = .ok (.iload_n 3, 1) := by decide +kernel
theorem d_O_nextMark_69 : decode b_O_nextMark 69 = .ok (.goto 4, 3) := by decide +kernel
theorem d_O_nextMark_72 : decode b_O_nextMark 72 = .ok (.iload_n 2, 1) := by decide +kernel
theorem d_O_nextMark_73 : decode b_O_nextMark 73 = .ok (.istore_n 2, 1) := by decide +kernel
theorem d_O_nextMark_74 : decode b_O_nextMark 74 = .ok (.iinc 3 (-1), 3) := by decide +kernel
theorem d_O_nextMark_77 : decode b_O_nextMark 77 = .ok (.goto (-63), 3) := by decide +kernel
theorem d_O_nextMark_80 : decode b_O_nextMark 80 = .ok (.iload_n 2, 1) := by decide +kernel
theorem d_O_nextMark_81 : decode b_O_nextMark 81 = .ok (.ireturn, 1) := by decide +kernel
end
section
/-! a method's walk over a world that is a function from places to cells: place k stands at address q k and holds f k -/
abbrev zF : Type := Nat → va_E
abbrev zT : Type := Nat → Nat → Nat → List (Option Value) → List Value → Nat → (Nat → Nat) → zF → Prop
abbrev zP : Type := Option Value → Nat → (Nat → Nat) → zF → Prop
def zl (N : Nat) (q : Nat → Nat) (f : zF) : va_W := (List.range N).map (fun k => (q k, f k))
theorem zl_get {N : Nat} {q : Nat → Nat} {f : zF} {k : Nat} (h : k < N) : (zl N q f)[k]? = some (q k, f k) := by
  unfold zl
  rw [List.getElem?_map, List.getElem?_range h]
  rfl
theorem zl_at {N : Nat} {q : Nat → Nat} {f : zF} {k : Nat} {e : va_E} (h : k < N) (he : f k = e) : (zl N q f)[k]? = some (q k, e) := by
  rw [zl_get h, he]
theorem zl_len {N : Nat} {q : Nat → Nat} {f : zF} : (zl N q f).length = N := by
  unfold zl
  simp
theorem zl_set {N : Nat} {q : Nat → Nat} {f : zF} {k : Nat} {e : va_E} : (zl N q f).set k (q k, e) = zl N q (va_up f k e) := by
  apply List.ext_getElem?
  intro i
  by_cases hi : i < N
  · by_cases hk : i = k
    · subst hk
      rw [List.getElem?_set_self (by rw [zl_len]; exact hi), zl_get hi]
      simp [va_up]
    · rw [List.getElem?_set_ne (Ne.symm hk), zl_get hi, zl_get hi]
      simp [va_up, hk]
  · rw [List.getElem?_eq_none (by rw [List.length_set, zl_len]; omega), List.getElem?_eq_none (by rw [zl_len]; omega)]
theorem zl_push {N : Nat} {q : Nat → Nat} {f : zF} {a : Nat} {e : va_E} : zl N q f ++ [(a, e)] = zl (N + 1) (va_up q N a) (va_up f N e) := by
  unfold zl
  rw [List.range_succ, List.map_append]
  congr 1
  · apply List.map_congr_left
    intro k hk
    have := List.mem_range.mp hk
    simp [va_up, Nat.ne_of_lt this]
  · simp [va_up]
theorem up_eq {α : Type} {f : Nat → α} {k : Nat} {e : α} : va_up f k e k = e := by simp [va_up]
theorem up_ne {α : Type} {f : Nat → α} {k j : Nat} {e e' : α} (h : j ≠ k) (hj : f j = e') : va_up f k e j = e' := by
  simp [va_up, h, hj]
theorem up_ne' {α : Type} {f : Nat → α} {k j : Nat} {e : α} (h : j ≠ k) : va_up f k e j = f j := by
  simp [va_up, h]
def zlv (ls : Array Slot) (nL : Nat) (lv : List (Option Value)) : Prop := ls.size = nL ∧ lv_wf ls ∧ lv.length = nL ∧ ∀ (i : Nat) (v : Value), lv[i]? = some (some v) → v.category = 1 ∧ ls[i]? = some (.val v)
theorem zlv.get {ls : Array Slot} {nL : Nat} {lv : List (Option Value)} (h : zlv ls nL lv) {i : Nat} {v : Value} (hi : lv[i]? = some (some v)) : ls[i]? = some (.val v) := (h.2.2.2 i v hi).2
def zlvl (lv : List (Option Value)) : List (Nat × Value) := (List.range lv.length).filterMap (fun j => (lv[j]?).join.map (fun v => (j, v)))
theorem zlvl_mem {lv : List (Option Value)} {j : Nat} {v : Value} : (j, v) ∈ zlvl lv ↔ lv[j]? = some (some v) := by
  unfold zlvl
  rw [List.mem_filterMap]
  constructor
  · rintro ⟨i, -, h⟩
    cases hx : lv[i]? with
    | none => rw [hx] at h; simp at h
    | some o =>
      cases o with
      | none => rw [hx] at h; simp at h
      | some w => rw [hx] at h; simp at h; obtain ⟨rfl, rfl⟩ := h; exact hx
  · intro h
    refine ⟨j, List.mem_range.mpr (List.getElem?_eq_some_iff.mp h).1, ?_⟩
    rw [h]
    rfl
theorem zlv.has {ls : Array Slot} {nL : Nat} {lv : List (Option Value)} (h : zlv ls nL lv) : lv_has ls nL (zlvl lv) := ⟨h.1, h.2.1, fun q hq => (h.2.2.2 q.1 q.2 (zlvl_mem.mp hq)).2⟩
theorem zlv.store {ls ls' : Array Slot} {nL : Nat} {lv : List (Option Value)} {i : Nat} {v : Value} (h : zlv ls nL lv) (hi : i < nL) (hc : v.category = 1) (h' : lv_has ls' nL ((i, v) :: (zlvl lv).filter (fun q => !(q.1 == i) && !(q.1 + 1 == i && q.2.category == 2)))) : zlv ls' nL (lv.set i (some v)) := by
  refine ⟨h'.1, h'.2.1, by rw [List.length_set]; exact h.2.2.1, fun j w hj => ?_⟩
  by_cases hji : j = i
  · subst hji
    rw [List.getElem?_set_self (by rw [h.2.2.1]; exact hi)] at hj
    cases hj
    exact ⟨hc, h'.2.2 (j, v) List.mem_cons_self⟩
  · rw [List.getElem?_set_ne (Ne.symm hji)] at hj
    have h1 := (h.2.2.2 j w hj).1
    refine ⟨h1, h'.2.2 (j, w) (List.mem_cons_of_mem _ (List.mem_filter.mpr ⟨zlvl_mem.mpr hj, ?_⟩))⟩
    simp [hji, h1]
def zlv0 (av : List Value) (nL : Nat) : List (Option Value) := av.map some ++ List.replicate (nL - av.length) none
theorem z_sl : ∀ (av : List Value), (∀ v ∈ av, v.category = 1) → (lg_sl av).length = av.length
  | [], _ => rfl
  | v :: t, h => by
    have h1 := h v List.mem_cons_self
    have ih := z_sl t (fun w hw => h w (List.mem_cons_of_mem _ hw))
    unfold lg_sl at ih ⊢
    rw [List.flatMap_cons, List.length_append, ih, h1]
    simp
    omega
theorem z_args : ∀ (av : List Value), (∀ v ∈ av, v.category = 1) → ∀ (b i : Nat) (v : Value), av[i]? = some v → (b + i, v) ∈ lv_args b av
  | [], _, b, i, v, h => by simp at h
  | w :: t, hc, b, i, v, h => by
    unfold lv_args
    have h1 := hc w List.mem_cons_self
    rw [if_neg (by omega)]
    cases i with
    | zero => simp at h; subst h; exact List.mem_cons_self
    | succ i =>
      have h2 := z_args t (fun w hw => hc w (List.mem_cons_of_mem _ hw)) (b + 1) i v (by simpa using h)
      rw [show b + 1 + i = b + (i + 1) by omega] at h2
      exact List.mem_cons_of_mem _ h2
theorem zlv.entry {av : List Value} {nL : Nat} (hc : ∀ v ∈ av, v.category = 1) (hn : av.length ≤ nL) : zlv ((lg_sl av ++ List.replicate (nL - (lg_sl av).length) Slot.unset).toArray) nL (zlv0 av nL) := by
  have h := lv_entry av (n := nL) (by rw [z_sl av hc]; exact hn)
  refine ⟨h.1, h.2.1, by unfold zlv0; simp; omega, fun i v hi => ?_⟩
  unfold zlv0 at hi
  by_cases hl : i < av.length
  · rw [List.getElem?_append_left (by simpa using hl), List.getElem?_map] at hi
    cases hx : av[i]? with
    | none => rw [hx] at hi; simp at hi
    | some w =>
      rw [hx] at hi
      simp at hi
      subst hi
      have h2 := z_args av hc 0 i w hx
      rw [Nat.zero_add] at h2
      exact ⟨hc w (List.mem_of_getElem? hx), h.2.2 (i, w) h2⟩
  · rw [List.getElem?_append_right (by simpa using Nat.le_of_not_lt hl)] at hi
    have := List.mem_of_getElem? hi
    simp at this
def zgx (p : Program) (l : Launch) (e : Env) (R : Room) (s : State) (m : MethodId) (args : Array Value) (below : List Frame) (meth : Method) (c : Code) (D : va_G) (A : Nat → Prop) (Q : State → Prop) (nL : Nat) : zT := fun k n pc lv st N q f => ∀ (H : Heap) (locs : List Loc) (ls : Array Slot), zlv ls nL lv → va_P D zCl (zl N q f) H → va_D A (zl N q f) → va_S A s.heap H locs → W p l e R s m args below meth c H locs k n Q (F0 m pc ls st)
def zOK (G : zT) (l : Launch) (R : Room) (cc : ByteArray) (nL : Nat) (own nm : String) (D : va_G) (tys : List (ClassId × FieldType)) : Prop := ∃ (p : Program) (e : Env) (s : State) (m : MethodId) (args : Array Value) (below : List Frame) (meth : Method) (c : Code) (A : Nat → Prop) (Q : State → Prop), G = zgx p l e R s m args below meth c D A Q nL ∧ p.tables.exec = Jvm.exec ∧ c.code = cc ∧ c.maxLocals = nL ∧ s.vm.findClass own = some m.cls ∧ (∀ w ∈ zAll, w.before args s = true) ∧ va_K D zCl tys s ∧ (∀ q, s.heap.size ≤ q → A q) ∧ meth.name = nm ∧ va_AO "BranchingText$Version" s
def zQc (D : va_G) (A : Nat → Prop) (post : zP) : Array Value → State → Outcome → State → Prop := fun _ st oc t => ∃ (v : Option Value) (N : Nat) (q : Nat → Nat) (f : zF), oc = .returned v ∧ post v N q f ∧ va_P D zCl (zl N q f) t.heap ∧ va_D A (zl N q f) ∧ va_F A st t
def zEnd (G : zT) (cc : ByteArray) (ret : Option FieldType) (mc ms : Nat) (post : zP) : Prop := ∃ (p : Program) (l : Launch) (e : Env) (R : Room) (s : State) (m : MethodId) (args : Array Value) (below : List Frame) (meth : Method) (c : Code) (D : va_G) (A : Nat → Prop) (nL : Nat), G = zgx p l e R s m args below meth c D A (MQ below (zQc D A post) args s mc ms A) nL ∧ p.tables.exec = Jvm.exec ∧ c.code = cc ∧ meth.sig.returnType = ret ∧ meth.locks = false
def zPc (D : va_G) (tys : List (ClassId × FieldType)) (sz N : Nat) (q : Nat → Nat) (f : zF) : State → Prop := fun U => U.heap.size = sz ∧ va_P D zCl (zl N q f) U.heap ∧ va_K D zCl tys U ∧ va_D (fun _ => True) (zl N q f) ∧ va_AO "BranchingText$Version" U
def zC (l : Launch) (y : MethodName) (cc : ByteArray) (maxL : Nat) (ret : Option FieldType) (rm : Room) (D : va_G) (tys : List (ClassId × FieldType)) (av : List Value) (N : Nat) (q : Nat → Nat) (f : zF) (post : zP) : Prop := ∀ sz : Nat, Met l y (.code y cc maxL ret :: zAll) rm (va_Pc av (zPc D tys sz N q f)) (zQc D (va_A (zl N q f) sz) post) rm.cells rm.slots (va_A (zl N q f) sz)
theorem zC.of {l : Launch} {y : MethodName} {cc : ByteArray} {maxL : Nat} {ret : Option FieldType} {rm : Room} {D : va_G} {tys : List (ClassId × FieldType)} {av : List Value} {N : Nat} {q : Nat → Nat} {f : zF} {post : zP} (hy : plainName y.cls = true) (hc : ∀ v ∈ av, v.category = 1) (hn : av.length ≤ maxL)
    (body : ∀ G : zT, zOK G l rm cc maxL y.cls y.name D tys → zEnd G cc ret rm.cells rm.slots post → G 0 0 0 (zlv0 av maxL) [] N q f) : zC l y cc maxL ret rm D tys av N q f post := by
  intro sz
  refine Met.ofW (cc := cc) (maxL := maxL) (ret := ret) hy rfl ?_
  intro p e s m args below meth c s₁ B hml hv
  obtain ⟨rfl, hsz, hP, hK, hD0, hAO⟩ := hv
  have hts := atoms_spec (ws := .code y cc maxL ret :: zAll) B.pre
  have hown : s.vm.findClass y.cls = some m.cls := findClass_of_methodNamed B.named
  have hin : meth.name = y.name := (name_of_methodNamed B.named B.method).1
  subst hsz
  have hD := hD0.self (sz := s.heap.size)
  have hG := body (zgx p l e rm s m av.toArray below meth c D (va_A (zl N q f) s.heap.size) (MQ below (zQc D (va_A (zl N q f) s.heap.size) post) av.toArray s rm.cells rm.slots (va_A (zl N q f) s.heap.size)) maxL)
    ⟨p, e, s, m, av.toArray, below, meth, c, _, _, rfl, B.exec, B.bytes, hml, hown, fun w hw => hts w (List.mem_cons_of_mem _ hw), hK, fun x hx => Or.inr hx, hin, hAO⟩
    ⟨p, l, e, rm, s, m, av.toArray, below, meth, c, D, _, maxL, rfl, B.exec, B.bytes, B.returns, B.notSynchronized⟩
  rw [lg_entry_eq]
  exact hG s.heap [] _ (zlv.entry hc hn) hP hD va_S.rf
theorem zC.imp {l : Launch} {y : MethodName} {cc : ByteArray} {maxL : Nat} {ret : Option FieldType} {rm : Room} {D : va_G} {tys : List (ClassId × FieldType)} {av : List Value} {N : Nat} {q : Nat → Nat} {f : zF} {post post' : zP} (h : zC l y cc maxL ret rm D tys av N q f post) (hq : ∀ (v : Option Value) (N' : Nat) (q' : Nat → Nat) (f' : zF), post v N' q' f' → post' v N' q' f') : zC l y cc maxL ret rm D tys av N q f post' := by
  intro sz p e ha hc hk s m args below hf happ hP hK
  obtain ⟨n, o, h1, h2, h3, h4, h5⟩ := h sz p e ha hc hk s m args below hf happ hP hK
  obtain ⟨v, N', q', f', a1, a2, a3⟩ := h4
  exact ⟨n, o, h1, h2, h3, ⟨v, N', q', f', a1, hq _ _ _ _ a2, a3⟩, h5⟩
end
section
section ZR
variable {G : zT} {l : Launch} {R : Room} {cc : ByteArray} {nL : Nat} {own nm : String} {D : va_G} {tys : List (ClassId × FieldType)} {k n pc : Nat} {lv : List (Option Value)} {st : List Value} {N : Nat} {q : Nat → Nat} {f : zF}
theorem zr_iconst (X : zOK G l R cc nL own nm D tys) {i : Int} {v : Int32} (hd : decode cc pc = .ok (.iconst i, 1)) (hv : Int32.ofInt i = v) (kk : G k n (pc + 1) lv (.int v :: st) N q f) : G k n pc lv st N q f := by
  obtain ⟨p, e, s, m, args, below, meth, c, A, Q, rfl, hx, hb, hml, hown, hts, hK, hA, hnm, hAO⟩ := X
  intro H locs ls hl hP hD hS
  exact lv_iconst hx hb hd hv (kk H locs ls hl hP hD hS)
theorem zr_bipush (X : zOK G l R cc nL own nm D tys) {i : Int} {v : Int32} (hd : decode cc pc = .ok (.bipush i, 2)) (hv : (Int8.ofInt i).toInt32 = v) (kk : G k n (pc + 2) lv (.int v :: st) N q f) : G k n pc lv st N q f := by
  obtain ⟨p, e, s, m, args, below, meth, c, A, Q, rfl, hx, hb, hml, hown, hts, hK, hA, hnm, hAO⟩ := X
  intro H locs ls hl hP hD hS
  exact lv_bipush hx hb hd hv (kk H locs ls hl hP hD hS)
theorem zr_sipush (X : zOK G l R cc nL own nm D tys) {i : Int} {v : Int32} (hd : decode cc pc = .ok (.sipush i, 3)) (hv : (Int16.ofInt i).toInt32 = v) (kk : G k n (pc + 3) lv (.int v :: st) N q f) : G k n pc lv st N q f := by
  obtain ⟨p, e, s, m, args, below, meth, c, A, Q, rfl, hx, hb, hml, hown, hts, hK, hA, hnm, hAO⟩ := X
  intro H locs ls hl hP hD hS
  exact lv_sipush hx hb hd hv (kk H locs ls hl hP hD hS)
theorem zr_null (X : zOK G l R cc nL own nm D tys) (hd : decode cc pc = .ok (.aconst_null, 1)) (kk : G k n (pc + 1) lv (.null :: st) N q f) : G k n pc lv st N q f := by
  obtain ⟨p, e, s, m, args, below, meth, c, A, Q, rfl, hx, hb, hml, hown, hts, hK, hA, hnm, hAO⟩ := X
  intro H locs ls hl hP hD hS
  exact lv_null hx hb hd (kk H locs ls hl hP hD hS)
theorem zr_iload_n (X : zOK G l R cc nL own nm D tys) {i : Fin 4} {x : Int32} (hd : decode cc pc = .ok (.iload_n i, 1)) (h0 : lv[(i : Nat)]? = some (some (.int x))) (kk : G k n (pc + 1) lv (.int x :: st) N q f) : G k n pc lv st N q f := by
  obtain ⟨p, e, s, m, args, below, meth, c, A, Q, rfl, hx, hb, hml, hown, hts, hK, hA, hnm, hAO⟩ := X
  intro H locs ls hl hP hD hS
  exact lv_iload_n hx hb hd rfl (hl.get h0) (kk H locs ls hl hP hD hS)
theorem zr_iload (X : zOK G l R cc nL own nm D tys) {i : Nat} {x : Int32} (hd : decode cc pc = .ok (.iload i, 2)) (h0 : lv[i]? = some (some (.int x))) (kk : G k n (pc + 2) lv (.int x :: st) N q f) : G k n pc lv st N q f := by
  obtain ⟨p, e, s, m, args, below, meth, c, A, Q, rfl, hx, hb, hml, hown, hts, hK, hA, hnm, hAO⟩ := X
  intro H locs ls hl hP hD hS
  exact lv_iload hx hb hd (hl.get h0) (kk H locs ls hl hP hD hS)
theorem zr_istore_n (X : zOK G l R cc nL own nm D tys) {i : Fin 4} {x : Int32} {lv' : List (Option Value)} (hd : decode cc pc = .ok (.istore_n i, 1)) (hi : (i : Nat) < nL) (h0 : lv.set (i : Nat) (some (.int x)) = lv') (kk : G k n (pc + 1) lv' st N q f) : G k n pc lv (.int x :: st) N q f := by
  obtain ⟨p, e, s, m, args, below, meth, c, A, Q, rfl, hx, hb, hml, hown, hts, hK, hA, hnm, hAO⟩ := X
  intro H locs ls hl hP hD hS
  subst h0
  exact lv_istore_n hx hb hd rfl hl.has hi rfl (fun ls' h' => kk H locs ls' (hl.store hi rfl h') hP hD hS)
theorem zr_istore (X : zOK G l R cc nL own nm D tys) {i : Nat} {x : Int32} {lv' : List (Option Value)} (hd : decode cc pc = .ok (.istore i, 2)) (hi : i < nL) (h0 : lv.set i (some (.int x)) = lv') (kk : G k n (pc + 2) lv' st N q f) : G k n pc lv (.int x :: st) N q f := by
  obtain ⟨p, e, s, m, args, below, meth, c, A, Q, rfl, hx, hb, hml, hown, hts, hK, hA, hnm, hAO⟩ := X
  intro H locs ls hl hP hD hS
  subst h0
  exact lv_istore hx hb hd hl.has hi rfl (fun ls' h' => kk H locs ls' (hl.store hi rfl h') hP hD hS)
theorem zr_aload_n (X : zOK G l R cc nL own nm D tys) {i : Fin 4} {x : Nat} (hd : decode cc pc = .ok (.aload_n i, 1)) (h0 : lv[(i : Nat)]? = some (some (.ref x))) (kk : G k n (pc + 1) lv (.ref x :: st) N q f) : G k n pc lv st N q f := by
  obtain ⟨p, e, s, m, args, below, meth, c, A, Q, rfl, hx, hb, hml, hown, hts, hK, hA, hnm, hAO⟩ := X
  intro H locs ls hl hP hD hS
  exact lv_aload_n hx hb hd rfl (hl.get h0) (kk H locs ls hl hP hD hS)
theorem zr_aload (X : zOK G l R cc nL own nm D tys) {i : Nat} {x : Nat} (hd : decode cc pc = .ok (.aload i, 2)) (h0 : lv[i]? = some (some (.ref x))) (kk : G k n (pc + 2) lv (.ref x :: st) N q f) : G k n pc lv st N q f := by
  obtain ⟨p, e, s, m, args, below, meth, c, A, Q, rfl, hx, hb, hml, hown, hts, hK, hA, hnm, hAO⟩ := X
  intro H locs ls hl hP hD hS
  exact lv_aload hx hb hd (hl.get h0) (kk H locs ls hl hP hD hS)
theorem zr_astore_n (X : zOK G l R cc nL own nm D tys) {i : Fin 4} {x : Nat} {lv' : List (Option Value)} (hd : decode cc pc = .ok (.astore_n i, 1)) (hi : (i : Nat) < nL) (h0 : lv.set (i : Nat) (some (.ref x)) = lv') (kk : G k n (pc + 1) lv' st N q f) : G k n pc lv (.ref x :: st) N q f := by
  obtain ⟨p, e, s, m, args, below, meth, c, A, Q, rfl, hx, hb, hml, hown, hts, hK, hA, hnm, hAO⟩ := X
  intro H locs ls hl hP hD hS
  subst h0
  exact lv_astore_n hx hb hd rfl hl.has hi rfl (fun ls' h' => kk H locs ls' (hl.store hi rfl h') hP hD hS)
theorem zr_astore (X : zOK G l R cc nL own nm D tys) {i : Nat} {x : Nat} {lv' : List (Option Value)} (hd : decode cc pc = .ok (.astore i, 2)) (hi : i < nL) (h0 : lv.set i (some (.ref x)) = lv') (kk : G k n (pc + 2) lv' st N q f) : G k n pc lv (.ref x :: st) N q f := by
  obtain ⟨p, e, s, m, args, below, meth, c, A, Q, rfl, hx, hb, hml, hown, hts, hK, hA, hnm, hAO⟩ := X
  intro H locs ls hl hP hD hS
  subst h0
  exact lv_astore hx hb hd hl.has hi rfl (fun ls' h' => kk H locs ls' (hl.store hi rfl h') hP hD hS)
theorem zr_aload_nN (X : zOK G l R cc nL own nm D tys) {i : Fin 4} (hd : decode cc pc = .ok (.aload_n i, 1)) (h0 : lv[(i : Nat)]? = some (some .null)) (kk : G k n (pc + 1) lv (.null :: st) N q f) : G k n pc lv st N q f := by
  obtain ⟨p, e, s, m, args, below, meth, c, A, Q, rfl, hx, hb, hml, hown, hts, hK, hA, hnm, hAO⟩ := X
  intro H locs ls hl hP hD hS
  exact lv_aload_nN hx hb hd rfl (hl.get h0) (kk H locs ls hl hP hD hS)
theorem zr_aloadN (X : zOK G l R cc nL own nm D tys) {i : Nat} (hd : decode cc pc = .ok (.aload i, 2)) (h0 : lv[i]? = some (some .null)) (kk : G k n (pc + 2) lv (.null :: st) N q f) : G k n pc lv st N q f := by
  obtain ⟨p, e, s, m, args, below, meth, c, A, Q, rfl, hx, hb, hml, hown, hts, hK, hA, hnm, hAO⟩ := X
  intro H locs ls hl hP hD hS
  exact lv_aloadN hx hb hd (hl.get h0) (kk H locs ls hl hP hD hS)
theorem zr_astore_nN (X : zOK G l R cc nL own nm D tys) {i : Fin 4} {lv' : List (Option Value)} (hd : decode cc pc = .ok (.astore_n i, 1)) (hi : (i : Nat) < nL) (h0 : lv.set (i : Nat) (some .null) = lv') (kk : G k n (pc + 1) lv' st N q f) : G k n pc lv (.null :: st) N q f := by
  obtain ⟨p, e, s, m, args, below, meth, c, A, Q, rfl, hx, hb, hml, hown, hts, hK, hA, hnm, hAO⟩ := X
  intro H locs ls hl hP hD hS
  subst h0
  exact lv_astore_nN hx hb hd rfl hl.has hi rfl (fun ls' h' => kk H locs ls' (hl.store hi rfl h') hP hD hS)
theorem zr_astoreN (X : zOK G l R cc nL own nm D tys) {i : Nat} {lv' : List (Option Value)} (hd : decode cc pc = .ok (.astore i, 2)) (hi : i < nL) (h0 : lv.set i (some .null) = lv') (kk : G k n (pc + 2) lv' st N q f) : G k n pc lv (.null :: st) N q f := by
  obtain ⟨p, e, s, m, args, below, meth, c, A, Q, rfl, hx, hb, hml, hown, hts, hK, hA, hnm, hAO⟩ := X
  intro H locs ls hl hP hD hS
  subst h0
  exact lv_astoreN hx hb hd hl.has hi rfl (fun ls' h' => kk H locs ls' (hl.store hi rfl h') hP hD hS)
theorem zr_iinc (X : zOK G l R cc nL own nm D tys) {i : Nat} {d : Int} {x v : Int32} {lv' : List (Option Value)} (hd : decode cc pc = .ok (.iinc i d, 3)) (h1 : lv[i]? = some (some (.int x))) (hv : x + Int32.ofInt d = v) (hi : i < nL) (h0 : lv.set i (some (.int v)) = lv') (kk : G k n (pc + 3) lv' st N q f) : G k n pc lv st N q f := by
  obtain ⟨p, e, s, m, args, below, meth, c, A, Q, rfl, hx, hb, hml, hown, hts, hK, hA, hnm, hAO⟩ := X
  intro H locs ls hl hP hD hS
  subst h0
  obtain ⟨k0, hk0⟩ := List.getElem?_of_mem (zlvl_mem.mpr h1)
  exact lv_iinc hx hb hd hl.has hk0 hv hi rfl (fun ls' h' => kk H locs ls' (hl.store hi rfl h') hP hD hS)
theorem zr_iadd (X : zOK G l R cc nL own nm D tys) {x y z : Int32} (hd : decode cc pc = .ok (.iadd, 1)) (hz : x + y = z) (kk : G k n (pc + 1) lv (.int z :: st) N q f) : G k n pc lv (.int y :: .int x :: st) N q f := by
  obtain ⟨p, e, s, m, args, below, meth, c, A, Q, rfl, hx, hb, hml, hown, hts, hK, hA, hnm, hAO⟩ := X
  intro H locs ls hl hP hD hS
  subst hz
  exact lv_iadd hx hb hd (kk H locs ls hl hP hD hS)
theorem zr_isub (X : zOK G l R cc nL own nm D tys) {x y z : Int32} (hd : decode cc pc = .ok (.isub, 1)) (hz : x - y = z) (kk : G k n (pc + 1) lv (.int z :: st) N q f) : G k n pc lv (.int y :: .int x :: st) N q f := by
  obtain ⟨p, e, s, m, args, below, meth, c, A, Q, rfl, hx, hb, hml, hown, hts, hK, hA, hnm, hAO⟩ := X
  intro H locs ls hl hP hD hS
  subst hz
  exact lv_isub hx hb hd (kk H locs ls hl hP hD hS)
theorem zr_iand (X : zOK G l R cc nL own nm D tys) {x y z : Int32} (hd : decode cc pc = .ok (.iand, 1)) (hz : x &&& y = z) (kk : G k n (pc + 1) lv (.int z :: st) N q f) : G k n pc lv (.int y :: .int x :: st) N q f := by
  obtain ⟨p, e, s, m, args, below, meth, c, A, Q, rfl, hx, hb, hml, hown, hts, hK, hA, hnm, hAO⟩ := X
  intro H locs ls hl hP hD hS
  subst hz
  exact lv_iand hx hb hd (kk H locs ls hl hP hD hS)
theorem zr_i2c (X : zOK G l R cc nL own nm D tys) {x v : Int32} (hd : decode cc pc = .ok (.i2c, 1)) (hv : (x.toUInt32 % 65536).toInt32 = v) (kk : G k n (pc + 1) lv (.int v :: st) N q f) : G k n pc lv (.int x :: st) N q f := by
  obtain ⟨p, e, s, m, args, below, meth, c, A, Q, rfl, hx, hb, hml, hown, hts, hK, hA, hnm, hAO⟩ := X
  intro H locs ls hl hP hD hS
  exact lv_i2c hx hb hd hv (kk H locs ls hl hP hD hS)
theorem zr_dup (X : zOK G l R cc nL own nm D tys) {v : Value} (hd : decode cc pc = .ok (.dup, 1)) (hv : v.category = 1) (kk : G k n (pc + 1) lv (v :: v :: st) N q f) : G k n pc lv (v :: st) N q f := by
  obtain ⟨p, e, s, m, args, below, meth, c, A, Q, rfl, hx, hb, hml, hown, hts, hK, hA, hnm, hAO⟩ := X
  intro H locs ls hl hP hD hS
  exact lv_dup hx hb hd hv (kk H locs ls hl hP hD hS)
theorem zr_dup2 (X : zOK G l R cc nL own nm D tys) {v w : Value} (hd : decode cc pc = .ok (.dup2, 1)) (hv : v.category = 1) (hw : w.category = 1) (kk : G k n (pc + 1) lv (v :: w :: v :: w :: st) N q f) : G k n pc lv (v :: w :: st) N q f := by
  obtain ⟨p, e, s, m, args, below, meth, c, A, Q, rfl, hx, hb, hml, hown, hts, hK, hA, hnm, hAO⟩ := X
  intro H locs ls hl hP hD hS
  exact lv_dup2_11 hx hb hd hv hw (kk H locs ls hl hP hD hS)
theorem zr_goto (X : zOK G l R cc nL own nm D tys) {off : Int} {tgt : Nat} (hd : decode cc pc = .ok (.goto off, 3)) (ht : (pc : Int) + off = (tgt : Int)) (kk : G k n tgt lv st N q f) : G k n pc lv st N q f := by
  obtain ⟨p, e, s, m, args, below, meth, c, A, Q, rfl, hx, hb, hml, hown, hts, hK, hA, hnm, hAO⟩ := X
  intro H locs ls hl hP hD hS
  exact lv_goto hx hb hd ht (kk H locs ls hl hP hD hS)
theorem zr_if_eq (X : zOK G l R cc nL own nm D tys) {x : Int32} {off : Int} {tgt : Nat} (hd : decode cc pc = .ok (.ifCond .eq off, 3)) (ht : (pc : Int) + off = (tgt : Int)) (kt : x = 0 → G k n tgt lv st N q f) (kf : ¬ x = 0 → G k n (pc + 3) lv st N q f) : G k n pc lv (.int x :: st) N q f := by
  obtain ⟨p, e, s, m, args, below, meth, c, A, Q, rfl, hx, hb, hml, hown, hts, hK, hA, hnm, hAO⟩ := X
  intro H locs ls hl hP hD hS
  exact lv_if_eq hx hb hd ht (fun h => kt h H locs ls hl hP hD hS) (fun h => kf h H locs ls hl hP hD hS)
theorem zr_icmp_eq (X : zOK G l R cc nL own nm D tys) {x y : Int32} {off : Int} {tgt : Nat} (hd : decode cc pc = .ok (.if_icmp .eq off, 3)) (ht : (pc : Int) + off = (tgt : Int)) (kt : x = y → G k n tgt lv st N q f) (kf : ¬ x = y → G k n (pc + 3) lv st N q f) : G k n pc lv (.int y :: .int x :: st) N q f := by
  obtain ⟨p, e, s, m, args, below, meth, c, A, Q, rfl, hx, hb, hml, hown, hts, hK, hA, hnm, hAO⟩ := X
  intro H locs ls hl hP hD hS
  exact lv_icmp_eq hx hb hd ht (fun h => kt h H locs ls hl hP hD hS) (fun h => kf h H locs ls hl hP hD hS)
theorem zr_if_ne (X : zOK G l R cc nL own nm D tys) {x : Int32} {off : Int} {tgt : Nat} (hd : decode cc pc = .ok (.ifCond .ne off, 3)) (ht : (pc : Int) + off = (tgt : Int)) (kt : ¬ x = 0 → G k n tgt lv st N q f) (kf : x = 0 → G k n (pc + 3) lv st N q f) : G k n pc lv (.int x :: st) N q f := by
  obtain ⟨p, e, s, m, args, below, meth, c, A, Q, rfl, hx, hb, hml, hown, hts, hK, hA, hnm, hAO⟩ := X
  intro H locs ls hl hP hD hS
  exact lv_if_ne hx hb hd ht (fun h => kt h H locs ls hl hP hD hS) (fun h => kf h H locs ls hl hP hD hS)
theorem zr_icmp_ne (X : zOK G l R cc nL own nm D tys) {x y : Int32} {off : Int} {tgt : Nat} (hd : decode cc pc = .ok (.if_icmp .ne off, 3)) (ht : (pc : Int) + off = (tgt : Int)) (kt : ¬ x = y → G k n tgt lv st N q f) (kf : x = y → G k n (pc + 3) lv st N q f) : G k n pc lv (.int y :: .int x :: st) N q f := by
  obtain ⟨p, e, s, m, args, below, meth, c, A, Q, rfl, hx, hb, hml, hown, hts, hK, hA, hnm, hAO⟩ := X
  intro H locs ls hl hP hD hS
  exact lv_icmp_ne hx hb hd ht (fun h => kt h H locs ls hl hP hD hS) (fun h => kf h H locs ls hl hP hD hS)
theorem zr_if_lt (X : zOK G l R cc nL own nm D tys) {x : Int32} {off : Int} {tgt : Nat} (hd : decode cc pc = .ok (.ifCond .lt off, 3)) (ht : (pc : Int) + off = (tgt : Int)) (kt : x < 0 → G k n tgt lv st N q f) (kf : ¬ x < 0 → G k n (pc + 3) lv st N q f) : G k n pc lv (.int x :: st) N q f := by
  obtain ⟨p, e, s, m, args, below, meth, c, A, Q, rfl, hx, hb, hml, hown, hts, hK, hA, hnm, hAO⟩ := X
  intro H locs ls hl hP hD hS
  exact lv_if_lt hx hb hd ht (fun h => kt h H locs ls hl hP hD hS) (fun h => kf h H locs ls hl hP hD hS)
theorem zr_icmp_lt (X : zOK G l R cc nL own nm D tys) {x y : Int32} {off : Int} {tgt : Nat} (hd : decode cc pc = .ok (.if_icmp .lt off, 3)) (ht : (pc : Int) + off = (tgt : Int)) (kt : x < y → G k n tgt lv st N q f) (kf : ¬ x < y → G k n (pc + 3) lv st N q f) : G k n pc lv (.int y :: .int x :: st) N q f := by
  obtain ⟨p, e, s, m, args, below, meth, c, A, Q, rfl, hx, hb, hml, hown, hts, hK, hA, hnm, hAO⟩ := X
  intro H locs ls hl hP hD hS
  exact lv_icmp_lt hx hb hd ht (fun h => kt h H locs ls hl hP hD hS) (fun h => kf h H locs ls hl hP hD hS)
theorem zr_if_ge (X : zOK G l R cc nL own nm D tys) {x : Int32} {off : Int} {tgt : Nat} (hd : decode cc pc = .ok (.ifCond .ge off, 3)) (ht : (pc : Int) + off = (tgt : Int)) (kt : 0 ≤ x → G k n tgt lv st N q f) (kf : ¬ 0 ≤ x → G k n (pc + 3) lv st N q f) : G k n pc lv (.int x :: st) N q f := by
  obtain ⟨p, e, s, m, args, below, meth, c, A, Q, rfl, hx, hb, hml, hown, hts, hK, hA, hnm, hAO⟩ := X
  intro H locs ls hl hP hD hS
  exact lv_if_ge hx hb hd ht (fun h => kt h H locs ls hl hP hD hS) (fun h => kf h H locs ls hl hP hD hS)
theorem zr_icmp_ge (X : zOK G l R cc nL own nm D tys) {x y : Int32} {off : Int} {tgt : Nat} (hd : decode cc pc = .ok (.if_icmp .ge off, 3)) (ht : (pc : Int) + off = (tgt : Int)) (kt : y ≤ x → G k n tgt lv st N q f) (kf : ¬ y ≤ x → G k n (pc + 3) lv st N q f) : G k n pc lv (.int y :: .int x :: st) N q f := by
  obtain ⟨p, e, s, m, args, below, meth, c, A, Q, rfl, hx, hb, hml, hown, hts, hK, hA, hnm, hAO⟩ := X
  intro H locs ls hl hP hD hS
  exact lv_icmp_ge hx hb hd ht (fun h => kt h H locs ls hl hP hD hS) (fun h => kf h H locs ls hl hP hD hS)
theorem zr_if_gt (X : zOK G l R cc nL own nm D tys) {x : Int32} {off : Int} {tgt : Nat} (hd : decode cc pc = .ok (.ifCond .gt off, 3)) (ht : (pc : Int) + off = (tgt : Int)) (kt : 0 < x → G k n tgt lv st N q f) (kf : ¬ 0 < x → G k n (pc + 3) lv st N q f) : G k n pc lv (.int x :: st) N q f := by
  obtain ⟨p, e, s, m, args, below, meth, c, A, Q, rfl, hx, hb, hml, hown, hts, hK, hA, hnm, hAO⟩ := X
  intro H locs ls hl hP hD hS
  exact lv_if_gt hx hb hd ht (fun h => kt h H locs ls hl hP hD hS) (fun h => kf h H locs ls hl hP hD hS)
theorem zr_icmp_gt (X : zOK G l R cc nL own nm D tys) {x y : Int32} {off : Int} {tgt : Nat} (hd : decode cc pc = .ok (.if_icmp .gt off, 3)) (ht : (pc : Int) + off = (tgt : Int)) (kt : y < x → G k n tgt lv st N q f) (kf : ¬ y < x → G k n (pc + 3) lv st N q f) : G k n pc lv (.int y :: .int x :: st) N q f := by
  obtain ⟨p, e, s, m, args, below, meth, c, A, Q, rfl, hx, hb, hml, hown, hts, hK, hA, hnm, hAO⟩ := X
  intro H locs ls hl hP hD hS
  exact lv_icmp_gt hx hb hd ht (fun h => kt h H locs ls hl hP hD hS) (fun h => kf h H locs ls hl hP hD hS)
theorem zr_if_le (X : zOK G l R cc nL own nm D tys) {x : Int32} {off : Int} {tgt : Nat} (hd : decode cc pc = .ok (.ifCond .le off, 3)) (ht : (pc : Int) + off = (tgt : Int)) (kt : x ≤ 0 → G k n tgt lv st N q f) (kf : ¬ x ≤ 0 → G k n (pc + 3) lv st N q f) : G k n pc lv (.int x :: st) N q f := by
  obtain ⟨p, e, s, m, args, below, meth, c, A, Q, rfl, hx, hb, hml, hown, hts, hK, hA, hnm, hAO⟩ := X
  intro H locs ls hl hP hD hS
  exact lv_if_le hx hb hd ht (fun h => kt h H locs ls hl hP hD hS) (fun h => kf h H locs ls hl hP hD hS)
theorem zr_icmp_le (X : zOK G l R cc nL own nm D tys) {x y : Int32} {off : Int} {tgt : Nat} (hd : decode cc pc = .ok (.if_icmp .le off, 3)) (ht : (pc : Int) + off = (tgt : Int)) (kt : x ≤ y → G k n tgt lv st N q f) (kf : ¬ x ≤ y → G k n (pc + 3) lv st N q f) : G k n pc lv (.int y :: .int x :: st) N q f := by
  obtain ⟨p, e, s, m, args, below, meth, c, A, Q, rfl, hx, hb, hml, hown, hts, hK, hA, hnm, hAO⟩ := X
  intro H locs ls hl hP hD hS
  exact lv_icmp_le hx hb hd ht (fun h => kt h H locs ls hl hP hD hS) (fun h => kf h H locs ls hl hP hD hS)
theorem zr_acmp_eq (X : zOK G l R cc nL own nm D tys) {a b : Nat} {off : Int} {tgt : Nat} (hd : decode cc pc = .ok (.if_acmp .eq off, 3)) (ht : (pc : Int) + off = (tgt : Int)) (kt : a = b → G k n tgt lv st N q f) (kf : ¬ a = b → G k n (pc + 3) lv st N q f) : G k n pc lv (.ref b :: .ref a :: st) N q f := by
  obtain ⟨p, e, s, m, args, below, meth, c, A, Q, rfl, hx, hb, hml, hown, hts, hK, hA, hnm, hAO⟩ := X
  intro H locs ls hl hP hD hS
  exact lv_acmp_eq (rx := some a) (ry := some b) hx hb hd ht (fun h => kt (Option.some.inj h) H locs ls hl hP hD hS) (fun h => kf (fun h9 => h (by rw [h9])) H locs ls hl hP hD hS)
theorem zr_ifnonnull (X : zOK G l R cc nL own nm D tys) {x : Nat} {off : Int} {tgt : Nat} (hd : decode cc pc = .ok (.ifnonnull off, 3)) (ht : (pc : Int) + off = (tgt : Int)) (kk : G k n tgt lv st N q f) : G k n pc lv (.ref x :: st) N q f := by
  obtain ⟨p, e, s, m, args, below, meth, c, A, Q, rfl, hx, hb, hml, hown, hts, hK, hA, hnm, hAO⟩ := X
  intro H locs ls hl hP hD hS
  exact lv_ifnonnull hx hb hd ht (kk H locs ls hl hP hD hS)
theorem zr_ifnonnullN (X : zOK G l R cc nL own nm D tys) {off : Int} (hd : decode cc pc = .ok (.ifnonnull off, 3)) (kk : G k n (pc + 3) lv st N q f) : G k n pc lv (.null :: st) N q f := by
  obtain ⟨p, e, s, m, args, below, meth, c, A, Q, rfl, hx, hb, hml, hown, hts, hK, hA, hnm, hAO⟩ := X
  intro H locs ls hl hP hD hS
  exact lv_ifnonnullN hx hb hd (kk H locs ls hl hP hD hS)
theorem zr_ifnull (X : zOK G l R cc nL own nm D tys) {x : Nat} {off : Int} (hd : decode cc pc = .ok (.ifnull off, 3)) (kk : G k n (pc + 3) lv st N q f) : G k n pc lv (.ref x :: st) N q f := by
  obtain ⟨p, e, s, m, args, below, meth, c, A, Q, rfl, hx, hb, hml, hown, hts, hK, hA, hnm, hAO⟩ := X
  intro H locs ls hl hP hD hS
  exact lv_ifnull hx hb hd (kk H locs ls hl hP hD hS)
theorem zr_ifnullN (X : zOK G l R cc nL own nm D tys) {off : Int} {tgt : Nat} (hd : decode cc pc = .ok (.ifnull off, 3)) (ht : (pc : Int) + off = (tgt : Int)) (kk : G k n tgt lv st N q f) : G k n pc lv (.null :: st) N q f := by
  obtain ⟨p, e, s, m, args, below, meth, c, A, Q, rfl, hx, hb, hml, hown, hts, hK, hA, hnm, hAO⟩ := X
  intro H locs ls hl hP hD hS
  exact lv_ifnullN hx hb hd ht (kk H locs ls hl hP hD hS)
/-- what the tables say of a field that an instruction of class own names: place in its class, its type -/
def zFd (own : String) (index ci kf : Nat) (ty : FieldType) (fin w : Bool) : Prop := ∃ (C : String) (T : u_T) (NF : Nat) (tt : Nat → FieldType), zCl[ci]? = some (C, T, NF) ∧ kf < NF ∧ Cond.fieldLink own index (T kf).1 (T kf).2.1 (T kf).2.2.1 ∈ zAll ∧ (∀ w ∈ u_ws C T NF, w ∈ zAll) ∧ (∀ k, k < NF → parseFieldDescriptor (T k).2.2.1 = some (tt k)) ∧ (∀ a, a < NF → ∀ b, b < NF → a ≠ b → (T a).2.1 ≠ (T b).2.1) ∧ tt kf = ty ∧ (T kf).2.2.2 = fin ∧ (w = true → (T kf).1 = own)
theorem zr_get (X : zOK G l R cc nL own nm D tys) {index ci kf : Nat} {ty : FieldType} {fin w : Bool} (F : zFd own index ci kf ty fin w) {j : Nat} {fs : List Value} {v : Value} (hd : decode cc pc = .ok (.getfield index, 3)) (hj : j < N) (hf : f j = .inr (ci, fs)) (hv : fs[kf]? = some v) (kk : G k n (pc + 3) lv (v :: st) N q f) : G k n pc lv (.ref (q j) :: st) N q f := by
  obtain ⟨p, e, s, m, args, below, meth, c, A, Q, rfl, hx, hb, hml, hown, hts, hK, hA, hnm, hAO⟩ := X
  intro H locs ls hl hP hD hS
  obtain ⟨C, T, NF, tt, h1, h2, h3, h4, h5, h6, h7, h8, h9⟩ := F
  exact va_get hx hb hts h4 hown hK hP j (zl_at hj hf) h1 kf h2 (hts _ h3) (fun _ h => h) hv hd (kk H locs ls hl hP hD hS)
theorem zr_put (X : zOK G l R cc nL own nm D tys) {index ci kf : Nat} {ty : FieldType} {w : Bool} (F : zFd own index ci kf ty false w) {j : Nat} {fs fs' : List Value} {v : Value} (hd : decode cc pc = .ok (.putfield index, 3)) (hj : j < N) (hf : f j = .inr (ci, fs)) (hn : narrow ty v = v) (hfit : fits ty v = true) (hlen : kf < fs.length) (hs : fs.set kf v = fs') (kk : G k n (pc + 3) lv st N q (va_up f j (.inr (ci, fs')))) : G k n pc lv (v :: .ref (q j) :: st) N q f := by
  obtain ⟨p, e, s, m, args, below, meth, c, A, Q, rfl, hx, hb, hml, hown, hts, hK, hA, hnm, hAO⟩ := X
  intro H locs ls hl hP hD hS
  obtain ⟨C, T, NF, tt, h1, h2, h3, h4, h5, h6, h7, h8, h9⟩ := F
  subst hs
  subst h7
  refine va_put hx hb hts h4 tt h5 h6 hown hK hP hD hS j (zl_at hj hf) h1 kf h2 (hts _ h3) (fun _ h => h) h8 (h5 kf h2) hn hfit hlen hd (fun H1 locs1 hP1 hD1 hS1 => ?_)
  rw [zl_set] at hP1 hD1
  exact kk H1 locs1 ls hl hP1 hD1 hS1
theorem zr_putF (X : zOK G l R cc nL own nm D tys) {index ci kf : Nat} {ty : FieldType} (F : zFd own index ci kf ty true true) (hi : nm = "<init>") {j : Nat} {fs fs' : List Value} {v : Value} (hd : decode cc pc = .ok (.putfield index, 3)) (hj : j < N) (hf : f j = .inr (ci, fs)) (hn : narrow ty v = v) (hfit : fits ty v = true) (hlen : kf < fs.length) (hs : fs.set kf v = fs') (kk : G k n (pc + 3) lv st N q (va_up f j (.inr (ci, fs')))) : G k n pc lv (v :: .ref (q j) :: st) N q f := by
  obtain ⟨p, e, s, m, args, below, meth, c, A, Q, rfl, hx, hb, hml, hown, hts, hK, hA, hnm, hAO⟩ := X
  intro H locs ls hl hP hD hS
  obtain ⟨C, T, NF, tt, h1, h2, h3, h4, h5, h6, h7, h8, h9⟩ := F
  subst hs
  subst h7
  refine va_putF hx hb hts h4 tt h5 h6 hown hK hP hD hS j (zl_at hj hf) h1 kf h2 (hts _ h3) (fun _ h => h) h8 (hnm.trans hi) (h9 rfl) (h5 kf h2) hn hfit hlen hd (fun H1 locs1 hP1 hD1 hS1 => ?_)
  rw [zl_set] at hP1 hD1
  exact kk H1 locs1 ls hl hP1 hD1 hS1
theorem zr_iaload (X : zOK G l R cc nL own nm D tys) (t : Nat) {j a len : Nat} {cA : ClassId} {g : Nat → Int32} {v : Int32} (hd : decode cc pc = .ok (.iaload, 1)) (hj : j < N) (hf : f j = .inl (cA, len, .inl g)) (ht : tys[t]? = some (cA, .int)) (ha : a < len) (hL : len < 2 ^ 31) (hv : g a = v) (kk : G k n (pc + 1) lv (.int v :: st) N q f) : G k n pc lv (.int (nI a) :: .ref (q j) :: st) N q f := by
  obtain ⟨p, e, s, m, args, below, meth, c, A, Q, rfl, hx, hb, hml, hown, hts, hK, hA, hnm, hAO⟩ := X
  intro H locs ls hl hP hD hS
  subst hv
  refine va_iald hx hb hK hP j t (zl_at hj hf) ht (vp_in_nI ha hL) hd ?_
  rw [nI_clamp (Nat.lt_trans ha hL)]
  exact (kk H locs ls hl hP hD hS)
theorem zr_caload (X : zOK G l R cc nL own nm D tys) (t : Nat) {j a len : Nat} {cA : ClassId} {g : Nat → Int32} {v : Int32} (hd : decode cc pc = .ok (.caload, 1)) (hj : j < N) (hf : f j = .inl (cA, len, .inl g)) (ht : tys[t]? = some (cA, .char)) (ha : a < len) (hL : len < 2 ^ 31) (hv : g a = v) (kk : G k n (pc + 1) lv (.int v :: st) N q f) : G k n pc lv (.int (nI a) :: .ref (q j) :: st) N q f := by
  obtain ⟨p, e, s, m, args, below, meth, c, A, Q, rfl, hx, hb, hml, hown, hts, hK, hA, hnm, hAO⟩ := X
  intro H locs ls hl hP hD hS
  subst hv
  refine va_cald hx hb hK hP j t (zl_at hj hf) ht (vp_in_nI ha hL) hd ?_
  rw [nI_clamp (Nat.lt_trans ha hL)]
  exact (kk H locs ls hl hP hD hS)
theorem zr_baload (X : zOK G l R cc nL own nm D tys) (t : Nat) {j a len : Nat} {cA : ClassId} {g : Nat → Int32} {v : Int32} (hd : decode cc pc = .ok (.baload, 1)) (hj : j < N) (hf : f j = .inl (cA, len, .inl g)) (ht : tys[t]? = some (cA, .boolean)) (ha : a < len) (hL : len < 2 ^ 31) (hv : g a = v) (kk : G k n (pc + 1) lv (.int v :: st) N q f) : G k n pc lv (.int (nI a) :: .ref (q j) :: st) N q f := by
  obtain ⟨p, e, s, m, args, below, meth, c, A, Q, rfl, hx, hb, hml, hown, hts, hK, hA, hnm, hAO⟩ := X
  intro H locs ls hl hP hD hS
  subst hv
  refine va_zald hx hb hK hP j t (zl_at hj hf) ht (vp_in_nI ha hL) hd ?_
  rw [nI_clamp (Nat.lt_trans ha hL)]
  exact (kk H locs ls hl hP hD hS)
theorem zr_iastore (X : zOK G l R cc nL own nm D tys) (t : Nat) {j a len : Nat} {cA : ClassId} {g : Nat → Int32} {x : Int32} (hd : decode cc pc = .ok (.iastore, 1)) (hj : j < N) (hf : f j = .inl (cA, len, .inl g)) (ht : tys[t]? = some (cA, .int)) (ha : a < len) (hL : len < 2 ^ 31) (kk : G k n (pc + 1) lv st N q (va_up f j (.inl (cA, len, .inl (upd g a x))))) : G k n pc lv (.int x :: .int (nI a) :: .ref (q j) :: st) N q f := by
  obtain ⟨p, e, s, m, args, below, meth, c, A, Q, rfl, hx, hb, hml, hown, hts, hK, hA, hnm, hAO⟩ := X
  intro H locs ls hl hP hD hS
  refine va_iast hx hb hK hP hD hS j t (zl_at hj hf) ht (vp_in_nI ha hL) hd (fun H1 locs1 hP1 hD1 hS1 => ?_)
  rw [nI_clamp (Nat.lt_trans ha hL), zl_set] at hP1 hD1
  exact kk H1 locs1 ls hl hP1 hD1 hS1
theorem zr_castore (X : zOK G l R cc nL own nm D tys) (t : Nat) {j a len : Nat} {cA : ClassId} {g : Nat → Int32} {x : Int32} (hd : decode cc pc = .ok (.castore, 1)) (hj : j < N) (hf : f j = .inl (cA, len, .inl g)) (ht : tys[t]? = some (cA, .char)) (ha : a < len) (hL : len < 2 ^ 31) (hx1 : vp_nar .char x = x) (kk : G k n (pc + 1) lv st N q (va_up f j (.inl (cA, len, .inl (upd g a x))))) : G k n pc lv (.int x :: .int (nI a) :: .ref (q j) :: st) N q f := by
  obtain ⟨p, e, s, m, args, below, meth, c, A, Q, rfl, hx, hb, hml, hown, hts, hK, hA, hnm, hAO⟩ := X
  intro H locs ls hl hP hD hS
  refine va_cast hx hb hK hP hD hS j t (zl_at hj hf) ht (vp_in_nI ha hL) hd (fun H1 locs1 hP1 hD1 hS1 => ?_)
  rw [nI_clamp (Nat.lt_trans ha hL), hx1, zl_set] at hP1 hD1
  exact kk H1 locs1 ls hl hP1 hD1 hS1
theorem zr_bastore (X : zOK G l R cc nL own nm D tys) (t : Nat) {j a len : Nat} {cA : ClassId} {g : Nat → Int32} {x : Int32} (hd : decode cc pc = .ok (.bastore, 1)) (hj : j < N) (hf : f j = .inl (cA, len, .inl g)) (ht : tys[t]? = some (cA, .boolean)) (ha : a < len) (hL : len < 2 ^ 31) (hx1 : vp_nar .boolean x = x) (kk : G k n (pc + 1) lv st N q (va_up f j (.inl (cA, len, .inl (upd g a x))))) : G k n pc lv (.int x :: .int (nI a) :: .ref (q j) :: st) N q f := by
  obtain ⟨p, e, s, m, args, below, meth, c, A, Q, rfl, hx, hb, hml, hown, hts, hK, hA, hnm, hAO⟩ := X
  intro H locs ls hl hP hD hS
  refine va_zast hx hb hK hP hD hS j t (zl_at hj hf) ht (vp_in_nI ha hL) hd (fun H1 locs1 hP1 hD1 hS1 => ?_)
  rw [nI_clamp (Nat.lt_trans ha hL), hx1, zl_set] at hP1 hD1
  exact kk H1 locs1 ls hl hP1 hD1 hS1
theorem zr_aaload (X : zOK G l R cc nL own nm D tys) (t : Nat) {j a len : Nat} {cA : ClassId} {C : String} {g : Nat → Option Nat} {v : Option Nat} (hd : decode cc pc = .ok (.aaload, 1)) (hj : j < N) (hf : f j = .inl (cA, len, .inr (.inr (.inr (.inr g))))) (ht : tys[t]? = some (cA, .object C)) (ha : a < len) (hL : len < 2 ^ 31) (hv : g a = v) (kk : G k n (pc + 1) lv (va_rf v :: st) N q f) : G k n pc lv (.int (nI a) :: .ref (q j) :: st) N q f := by
  obtain ⟨p, e, s, m, args, below, meth, c, A, Q, rfl, hx, hb, hml, hown, hts, hK, hA, hnm, hAO⟩ := X
  intro H locs ls hl hP hD hS
  subst hv
  refine va_aldq hx hb hK hP j t (zl_at hj hf) ht (vp_in_nI ha hL) hd ?_
  rw [nI_clamp (Nat.lt_trans ha hL)]
  exact (kk H locs ls hl hP hD hS)
theorem zr_aastore (X : zOK G l R cc nL own nm D tys) (t : Nat) {j a len j2 ci : Nat} {cA : ClassId} {r : vw_C} {fs : List Value} {g : Nat → Option Nat} (hd : decode cc pc = .ok (.aastore, 1)) (hj : j < N) (hf : f j = .inl (cA, len, .inr (.inr (.inr (.inr g))))) (ht : tys[t]? = some (cA, .object r.1)) (ha : a < len) (hL : len < 2 ^ 31) (hj2 : j2 < N) (hf2 : f j2 = .inr (ci, fs)) (hc : zCl[ci]? = some r) (kk : G k n (pc + 1) lv st N q (va_up f j (.inl (cA, len, .inr (.inr (.inr (.inr (va_up g a (some (q j2)))))))))) : G k n pc lv (.ref (q j2) :: .int (nI a) :: .ref (q j) :: st) N q f := by
  obtain ⟨p, e, s, m, args, below, meth, c, A, Q, rfl, hx, hb, hml, hown, hts, hK, hA, hnm, hAO⟩ := X
  intro H locs ls hl hP hD hS
  refine va_astq hx hb hK hP hD hS j t j2 ci (zl_at hj hf) ht (zl_at hj2 hf2) hc (vp_in_nI ha hL) hd (fun H1 locs1 hP1 hD1 hS1 => ?_)
  rw [nI_clamp (Nat.lt_trans ha hL), zl_set] at hP1 hD1
  exact kk H1 locs1 ls hl hP1 hD1 hS1
theorem zr_alen (X : zOK G l R cc nL own nm D tys) (t : Nat) {j len : Nat} {cA : ClassId} {ty : FieldType} {g : (Nat → Int32) ⊕ (Nat → Int64) ⊕ (Nat → UInt32) ⊕ (Nat → UInt64) ⊕ (Nat → Option Nat)} (hd : decode cc pc = .ok (.arraylength, 1)) (hj : j < N) (hf : f j = .inl (cA, len, g)) (ht : tys[t]? = some (cA, ty)) (kk : G k n (pc + 1) lv (.int (nI len) :: st) N q f) : G k n pc lv (.ref (q j) :: st) N q f := by
  obtain ⟨p, e, s, m, args, below, meth, c, A, Q, rfl, hx, hb, hml, hown, hts, hK, hA, hnm, hAO⟩ := X
  intro H locs ls hl hP hD hS
  exact va_alen hx hb hK hP j t (zl_at hj hf) ht rfl hd (kk H locs ls hl hP hD hS)
theorem z_cls {U : State} {D : va_G} {cA cB : ClassId} {ty : FieldType} {tys : List (ClassId × FieldType)} {t : Nat} (hK : va_K D zCl (tys ++ [(cB, ty)]) U) (ht : tys[t]? = some (cA, ty)) : cB = cA := by
  have h1 := (hK.2 t (cA, ty) (by rw [List.getElem?_append_left (List.getElem?_eq_some_iff.mp ht).1]; exact ht)).2
  have h2 := (hK.2 tys.length (cB, ty) (by simp)).2
  cases ty with
  | object C =>
    obtain ⟨_, _, _, _, _, e1⟩ := h1
    obtain ⟨_, _, _, _, _, e2⟩ := h2
    exact Option.some.inj (e2.symm.trans e1)
  | _ => exact Option.some.inj (Eq.trans (Eq.symm h2) h1)
theorem zr_newaI (X : zOK G l R cc nL own nm D tys) (t : Nat) {len : Nat} {cA : ClassId} (hd : decode cc pc = .ok (.newarray .int, 2)) (hw : Cond.arrayClass .int ∈ zAll) (ht : tys[t]? = some (cA, .int)) (hL : len < 2 ^ 20) (hc : k + 1 ≤ R.cells) (hs : n + len ≤ R.slots) (kk : ∀ a : Nat, G (k + 1) (n + len) (pc + 2) lv (.ref a :: st) (N + 1) (va_up q N a) (va_up f N (.inl (cA, len, .inl (fun _ => 0))))) : G k n pc lv (.int (nI len) :: st) N q f := by
  obtain ⟨p, e, s, m, args, below, meth, c, A, Q, rfl, hx, hb, hml, hown, hts, hK, hA, hnm, hAO⟩ := X
  intro H locs ls hl hP hD hS
  have hL2 : len < 2 ^ 31 := Nat.lt_trans hL (by decide)
  refine va_newa (atype := .int) (ty := .int) (a0 := (len, .inl (fun _ => 0))) hx hb (hts _ hw) rfl hK hP hD hS hA (fun _ => rfl) (nI_pos hL2) (nI_clamp hL2) (by show len * _ ≤ _; simp [componentBytes]; omega) hc hs hd (fun a cB H1 hK1 hP1 hD1 hS1 => ?_)
  have hcl := z_cls hK1 ht
  subst hcl
  rw [zl_push] at hP1 hD1
  exact kk a H1 locs ls hl hP1 hD1 hS1
theorem zr_newaC (X : zOK G l R cc nL own nm D tys) (t : Nat) {len : Nat} {cA : ClassId} (hd : decode cc pc = .ok (.newarray .char, 2)) (hw : Cond.arrayClass .char ∈ zAll) (ht : tys[t]? = some (cA, .char)) (hL : len < 2 ^ 20) (hc : k + 1 ≤ R.cells) (hs : n + len ≤ R.slots) (kk : ∀ a : Nat, G (k + 1) (n + len) (pc + 2) lv (.ref a :: st) (N + 1) (va_up q N a) (va_up f N (.inl (cA, len, .inl (fun _ => 0))))) : G k n pc lv (.int (nI len) :: st) N q f := by
  obtain ⟨p, e, s, m, args, below, meth, c, A, Q, rfl, hx, hb, hml, hown, hts, hK, hA, hnm, hAO⟩ := X
  intro H locs ls hl hP hD hS
  have hL2 : len < 2 ^ 31 := Nat.lt_trans hL (by decide)
  refine va_newa (atype := .char) (ty := .char) (a0 := (len, .inl (fun _ => 0))) hx hb (hts _ hw) rfl hK hP hD hS hA (fun _ => rfl) (nI_pos hL2) (nI_clamp hL2) (by show len * _ ≤ _; simp [componentBytes]; omega) hc hs hd (fun a cB H1 hK1 hP1 hD1 hS1 => ?_)
  have hcl := z_cls hK1 ht
  subst hcl
  rw [zl_push] at hP1 hD1
  exact kk a H1 locs ls hl hP1 hD1 hS1
theorem zr_newaZ (X : zOK G l R cc nL own nm D tys) (t : Nat) {len : Nat} {cA : ClassId} (hd : decode cc pc = .ok (.newarray .boolean, 2)) (hw : Cond.arrayClass .boolean ∈ zAll) (ht : tys[t]? = some (cA, .boolean)) (hL : len < 2 ^ 20) (hc : k + 1 ≤ R.cells) (hs : n + len ≤ R.slots) (kk : ∀ a : Nat, G (k + 1) (n + len) (pc + 2) lv (.ref a :: st) (N + 1) (va_up q N a) (va_up f N (.inl (cA, len, .inl (fun _ => 0))))) : G k n pc lv (.int (nI len) :: st) N q f := by
  obtain ⟨p, e, s, m, args, below, meth, c, A, Q, rfl, hx, hb, hml, hown, hts, hK, hA, hnm, hAO⟩ := X
  intro H locs ls hl hP hD hS
  have hL2 : len < 2 ^ 31 := Nat.lt_trans hL (by decide)
  refine va_newa (atype := .boolean) (ty := .boolean) (a0 := (len, .inl (fun _ => 0))) hx hb (hts _ hw) rfl hK hP hD hS hA (fun _ => rfl) (nI_pos hL2) (nI_clamp hL2) (by show len * _ ≤ _; simp [componentBytes]; omega) hc hs hd (fun a cB H1 hK1 hP1 hD1 hS1 => ?_)
  have hcl := z_cls hK1 ht
  subst hcl
  rw [zl_push] at hP1 hD1
  exact kk a H1 locs ls hl hP1 hD1 hS1
theorem zr_anew (X : zOK G l R cc nL own nm D tys) (t : Nat) {len index : Nat} {cA : ClassId} {C : String} (hd : decode cc pc = .ok (.anewarray index, 3)) (hw1 : Cond.classLink own index C ∈ zAll) (hC : C = "BranchingText$Version") (ht : tys[t]? = some (cA, .object C)) (hL : len < 2 ^ 20) (hc : k + 1 ≤ R.cells) (hs : n + len ≤ R.slots) (kk : ∀ a : Nat, G (k + 1) (n + len) (pc + 3) lv (.ref a :: st) (N + 1) (va_up q N a) (va_up f N (.inl (cA, len, .inr (.inr (.inr (.inr (fun _ => none)))))))) : G k n pc lv (.int (nI len) :: st) N q f := by
  obtain ⟨p, e, s, m, args, below, meth, c, A, Q, rfl, hx, hb, hml, hown, hts, hK, hA, hnm, hAO⟩ := X
  intro H locs ls hl hP hD hS
  have hL2 : len < 2 ^ 31 := Nat.lt_trans hL (by decide)
  refine va_newq (C := C) hx hb hown (hts _ hw1) (by rw [hC]; exact hAO) hK hP hD hS hA (nI_pos hL2) (nI_clamp hL2) (by omega) hc hs hd (fun a cB H1 hK1 hP1 hD1 hS1 => ?_)
  have hcl := z_cls hK1 ht
  subst hcl
  rw [zl_push] at hP1 hD1
  exact kk a H1 locs ls hl hP1 hD1 hS1
def zNw (own : String) (index ci NF : Nat) (fs : List Value) : Prop := ∃ (C : String) (T : u_T) (tt : Nat → FieldType), zCl[ci]? = some (C, T, NF) ∧ Cond.classLink own index C ∈ zAll ∧ Cond.instantiable C NF ∈ zAll ∧ Cond.initialized C ∈ zAll ∧ (∀ w ∈ u_ws C T NF, w ∈ zAll) ∧ (∀ k, k < NF → parseFieldDescriptor (T k).2.2.1 = some (tt k)) ∧ (∀ j, j < NF → defaultValue (tt j) = vp_V fs j)
theorem zr_new (X : zOK G l R cc nL own nm D tys) {index ci NF : Nat} {fs : List Value} (F : zNw own index ci NF fs) (hd : decode cc pc = .ok (.new index, 3)) (hc : k + 1 ≤ R.cells) (hs : n + NF ≤ R.slots) (kk : ∀ a : Nat, G (k + 1) (n + NF) (pc + 3) lv (.ref a :: st) (N + 1) (va_up q N a) (va_up f N (.inr (ci, fs)))) : G k n pc lv st N q f := by
  obtain ⟨p, e, s, m, args, below, meth, c, A, Q, rfl, hx, hb, hml, hown, hts, hK, hA, hnm, hAO⟩ := X
  intro H locs ls hl hP hD hS
  obtain ⟨C, T, tt, h1, h2, h3, h4, h5, h6, h7⟩ := F
  refine va_new hx hb hts h5 tt h6 hown (hts _ h2) (hts _ h3) (hts _ h4) hK hP hD hS hA h1 h7 hc hs hd (fun a H1 hP1 hD1 hS1 => ?_)
  rw [zl_push] at hP1 hD1
  exact kk a H1 locs ls hl hP1 hD1 hS1
theorem zr_same (X : zOK G l R cc nL own nm D tys) {lv' : List (Option Value)} {st' : List Value} (h1 : lv = lv') (h2 : st = st') (kk : G k n pc lv' st' N q f) : G k n pc lv st N q f := by
  subst h1; subst h2; exact kk
def zAc (own : String) (index : Nat) : Prop := Cond.methodLink own index arraycopyName ∈ zAll ∧ Cond.native arraycopyName ∈ zAll ∧ Cond.static arraycopyName ∈ zAll ∧ Cond.initialized "java/lang/System" ∈ zAll
theorem zr_copy (X : zOK G l R cc nL own nm D tys) {index : Nat} (F : zAc own index) (t : Nat) {j0 j1 n0 n1 sp dp cnt : Nat} {cA : ClassId} {g0 g1 : Nat → Int32} (hd : decode cc pc = .ok (.invokestatic index, 3)) (hj0 : j0 < N) (hj1 : j1 < N) (hf0 : f j0 = .inl (cA, n0, .inl g0)) (hf1 : f j1 = .inl (cA, n1, .inl g1)) (ht : tys[t]? = some (cA, .char)) (h4 : sp + cnt ≤ n0) (h5 : dp + cnt ≤ n1) (hL0 : n0 < 2 ^ 31) (hL1 : n1 < 2 ^ 31) (hfit : ∀ i, i < cnt → fits .char (.int (g0 (sp + i))) = true) (hR1 : 1 ≤ R.frames) (hR2 : (st.map fun v => v.category).sum + (nativeFrameWords "java/lang/System" "arraycopy" 5 + 11) ≤ R.locals) (kk : G k n (pc + 3) lv st N q (va_up f j1 (.inl (cA, n1, .inl (va_cpy g0 g1 sp dp cnt))))) : G k n pc lv (.int (nI cnt) :: .int (nI dp) :: .ref (q j1) :: .int (nI sp) :: .ref (q j0) :: st) N q f := by
  obtain ⟨p, e, s, m, args, below, meth, c, A, Q, rfl, hx, hb, hml, hown, hts, hK, hA, hnm, hAO⟩ := X
  intro H locs ls hl hP hD hS
  obtain ⟨w1, w2, w3, w4⟩ := F
  have c1 : (nI sp).toNatClampNeg = sp := nI_clamp (by omega)
  have c2 : (nI dp).toNatClampNeg = dp := nI_clamp (by omega)
  have c3 : (nI cnt).toNatClampNeg = cnt := nI_clamp (by omega)
  refine va_copyi (ty := .char) hx hb (hml.trans hl.1.symm) hown (hts _ w1) (hts _ w2) (hts _ w3) (hts _ w4) hK hP hD hS j0 j1 t t (zl_at hj0 hf0) (zl_at hj1 hf1) ht ht rfl (nI_pos (by omega)) (nI_pos (by omega)) (nI_pos (by omega)) (by rw [c1, c3]; exact h4) (by rw [c2, c3]; exact h5) (by rw [c1, c3]; exact hfit) hR1 hR2 hd (fun H1 locs1 hP1 hD1 hS1 => ?_)
  rw [c1, c2, c3, zl_set] at hP1 hD1
  exact kk H1 locs1 ls hl hP1 hD1 hS1
def zOi (own : String) (index : Nat) : Prop := Cond.methodLink own index objectInit ∈ zAll ∧ Cond.instanceMethod objectInit ∈ zAll ∧ Cond.code objectInit ⟨#[0xb1]⟩ 1 none ∈ zAll
theorem zr_objInit (X : zOK G l R cc nL own nm D tys) {index a : Nat} (F : zOi own index) (hd : decode cc pc = .ok (.invokespecial index, 3)) (hR1 : 1 ≤ R.frames) (hR2 : (st.map fun v => v.category).sum + 12 ≤ R.locals) (kk : G k n (pc + 3) lv st N q f) : G k n pc lv (.ref a :: st) N q f := by
  obtain ⟨p, e, s, m, args, below, meth, c, A, Q, rfl, hx, hb, hml, hown, hts, hK, hA, hnm, hAO⟩ := X
  intro H locs ls hl hP hD hS
  obtain ⟨w1, w2, w3⟩ := F
  exact W.objInit hx hb hown (hts _ w1) (hts _ w2) (hts _ w3) rfl (hl.1.trans hml.symm) rfl hd hR1 (by show 2 * 0 + _ + 12 ≤ _; omega) (kk H locs ls hl hP hD hS)
theorem zr_ireturn {ty : FieldType} {mc ms : Nat} {post : zP} (Y : zEnd G cc (some ty) mc ms post) {v : Int32} (hd : decode cc pc = .ok (.ireturn, 1)) (hn : narrow ty (.int v) = .int v) (hk : k ≤ mc) (hs : n ≤ ms) (hp : post (some (.int v)) N q f) : G k n pc lv [.int v] N q f := by
  obtain ⟨p, l, e, R, s, m, args, below, meth, c, D, A, nL, rfl, hx, hb, hr, hlocks⟩ := Y
  intro H locs ls hl hP hD hS
  refine W.widen hk hs ?_
  exact W.zret hx hb hr hn (fun t ht hW => ⟨some (.int v), N, q, f, rfl, hp, by rw [ht]; exact hP, hD, hS.F ht⟩) hS.2.2 hd hlocks
theorem zr_return {mc ms : Nat} {post : zP} (Y : zEnd G cc none mc ms post) (hd : decode cc pc = .ok (.return_, 1)) (hk : k ≤ mc) (hs : n ≤ ms) (hp : post none N q f) : G k n pc lv [] N q f := by
  obtain ⟨p, l, e, R, s, m, args, below, meth, c, D, A, nL, rfl, hx, hb, hr, hlocks⟩ := Y
  intro H locs ls hl hP hD hS
  refine W.widen hk hs ?_
  exact W.vret hx hb hr (fun t ht hW => ⟨none, N, q, f, rfl, hp, by rw [ht]; exact hP, hD, hS.F ht⟩) hS.2.2 hd hlocks
theorem zr_areturn {rt : FieldType} {mc ms : Nat} {post : zP} (Y : zEnd G cc (some rt) mc ms post) {v : Value} (hd : decode cc pc = .ok (.areturn, 1)) (hrt : (∃ x, rt = .object x) ∨ ∃ x, rt = .array x) (hv : v = .null ∨ ∃ a, v = .ref a) (hk : k ≤ mc) (hs : n ≤ ms) (hp : post (some v) N q f) : G k n pc lv [v] N q f := by
  obtain ⟨p, l, e, R, s, m, args, below, meth, c, D, A, nL, rfl, hx, hb, hr, hlocks⟩ := Y
  intro H locs ls hl hP hD hS
  refine W.widen hk hs ?_
  exact W.aret hx hb hr hrt hv (fun t ht hW => ⟨some v, N, q, f, rfl, hp, by rw [ht]; exact hP, hD, hS.F ht⟩) hS.2.2 hd hlocks
/-- what the tables say of a call -/
def zCF (own : String) (index : Nat) (y : MethodName) (bytes : ByteArray) (maxL : Nat) (ret : Option FieldType) (np : Nat) : Prop := Cond.methodLink own index y ∈ zAll ∧ Cond.initialized y.cls ∈ zAll ∧ Cond.code y bytes maxL ret ∈ zAll ∧ (y.cls ≠ "java/lang/invoke/MethodHandle" ∧ y.cls ≠ "java/lang/invoke/VarHandle") ∧ (parseMethodDescriptor y.desc).map (fun d => d.parameters.length) = some np
theorem z_callB {R : Room} {s : State} {args : Array Value} {own : String} {index : Nat} {y : MethodName} {bytes : ByteArray} {maxL : Nat} {ret : Option FieldType} {rm : Room} {np : Nat} (hts : ∀ w ∈ zAll, w.before args s = true) (F : zCF own index y bytes maxL ret np) (hR : rm.frames + 1 ≤ R.frames ∧ 8 + (maxL + 11) + rm.locals ≤ R.locals) : CallB R s args own index y bytes maxL ret (.code y bytes maxL ret :: zAll) rm rm.cells rm.slots np := by
  obtain ⟨h1, h2, h3, h4, h5⟩ := F
  refine callB_of np hts (fun w hw => ?_) rfl rfl rfl (hts _ h2) (hts _ h1) ⟨h4.1, h4.2, h5⟩ hR
  rcases List.mem_cons.mp hw with rfl | hw
  · exact ⟨h3, good_of_word (List.all_eq_true.mp zAll_good _ h3)⟩
  · exact ⟨hw, good_of_word (List.all_eq_true.mp zAll_good _ hw)⟩
theorem z_blind {av : List Value} {D : va_G} {tys : List (ClassId × FieldType)} {sz N : Nat} {q : Nat → Nat} {f : zF} : FrameBlind (va_Pc av (zPc D tys sz N q f)) := fun a U g mk h => by
  obtain ⟨q0, q1, qP, qK, qD, qO⟩ := h
  exact ⟨q0, q1, qP, va_K.moved (u := U) (U := U.calling g mk a) (Vm.Alike.refl U.vm) qK, qD, va_AO.moved (u := U) (U := U.calling g mk a) (Vm.Alike.refl U.vm) qO⟩
theorem z_pre {s : State} {H : Heap} {D : va_G} {tys : List (ClassId × FieldType)} {A : Nat → Prop} {av : List Value} {N : Nat} {q : Nat → Nat} {f : zF} (hP : va_P D zCl (zl N q f) H) (hK : va_K D zCl tys s) (hO : va_AO "BranchingText$Version" s) (hD : va_D A (zl N q f)) : ∀ U : State, U.heap = H → s.WarmedH U.vm → va_Pc av (zPc D tys H.size N q f) av.toArray U := fun U hU hW => ⟨rfl, by rw [hU], by rw [hU]; exact hP, va_K.moved hW.alike hK, hD.weaken (fun _ _ _ _ => trivial), va_AO.moved hW.alike hO⟩
theorem z_after {p : Program} {l : Launch} {e : Env} {R : Room} {s : State} {m : MethodId} {args : Array Value} {below : List Frame} {meth : Method} {c : Code} {H : Heap} {locs : List Loc} {k n mc ms pc nL : Nat} {Q : State → Prop} {D : va_G} {A : Nat → Prop} {lv : List (Option Value)} {ls : Array Slot} {st st0 : List Value} {a : Array Value} {N : Nat} {q : Nat → Nat} {f : zF} {post : zP}
    (hA : ∀ x, s.heap.size ≤ x → A x) (hl : zlv ls nL lv) (hD : va_D A (zl N q f)) (hS : va_S A s.heap H locs)
    (run : va_Run p l e R s m args below meth c H locs k n mc ms (F0 m pc ls st0) st (zQc D (va_A (zl N q f) H.size) post a) (va_A (zl N q f) H.size))
    (kk : ∀ (v : Option Value) (N' : Nat) (q' : Nat → Nat) (f' : zF), post v N' q' f' → zgx p l e R s m args below meth c D A Q nL (k + mc) (n + ms) (pc + 3) lv (v.toList ++ st) N' q' f') : W p l e R s m args below meth c H locs k n Q (F0 m pc ls st0) := by
  have hFc : ∀ x, va_A (zl N q f) H.size x → A x := by
    intro x hx
    rcases hx with ⟨i, e9, h⟩ | h
    · exact hD.2 i (x, e9) h
    · exact hA x (Nat.le_trans hS.1 h)
  intro T hT X
  obtain ⟨v, st₀, t, T', L, h0, X', hL, e1, e2, ⟨v', N', q', f', hv, hp, hP1, hD1, hz, hk⟩, stp⟩ := run T hT X
  cases hv
  rw [h0] at hz hk
  obtain ⟨t2, a1, b1⟩ := kk v N' q' f' hp T'.heap (locs ++ L) ls hl (by rw [e1]; exact hP1) (hD1.weaken (fun _ _ _ h => hFc _ h))
    ⟨Nat.le_trans hS.1 (by rw [e1]; exact hz), fun x h1 h2 => by rw [e1, hk x (Nat.lt_of_lt_of_le h1 hS.1) (fun z => h2 (hFc x z))]; exact hS.2.1 x h1 h2, fun x hx => by
      rcases List.mem_append.mp hx with h | h
      · exact hS.2.2 x h
      · exact hFc _ (hL x h)⟩ T' rfl X'
  exact ⟨t2, stp t2 a1, b1⟩
theorem zr_callV (X : zOK G l R cc nL own nm D tys) {y : MethodName} {bytes : ByteArray} {maxL : Nat} {ret : Option FieldType} {rm : Room} {post : zP} {index np : Nat} {av : List Value} {st0 : List Value} {j ci : Nat} {fs : List Value} {T : u_T} {NF : Nat} (F : zCF own index y bytes maxL ret np) (F1 : Cond.instanceMethod y ∈ zAll) (F2 : Cond.selects y.cls y y ∈ zAll) (hM : zC l y bytes maxL ret rm D tys (.ref (q j) :: av) N q f post) (hd : decode cc pc = .ok (.invokevirtual index, 3)) (hj : j < N) (hf : f j = .inr (ci, fs)) (hc : zCl[ci]? = some (y.cls, T, NF)) (hn : av.length = np) (hR : rm.frames + 1 ≤ R.frames ∧ 8 + (maxL + 11) + rm.locals ≤ R.locals) (hs : (st.map fun v => v.category).sum ≤ 8) (hcs : k + rm.cells ≤ R.cells ∧ n + rm.slots ≤ R.slots) (hst : st0 = av.reverse ++ .ref (q j) :: st) (kk : ∀ (v : Option Value) (N' : Nat) (q' : Nat → Nat) (f' : zF), post v N' q' f' → G (k + rm.cells) (n + rm.slots) (pc + 3) lv (v.toList ++ st) N' q' f') : G k n pc lv st0 N q f := by
  obtain ⟨p, e, s, m, args, below, meth, c, A, Q, rfl, hx, hb, hml, hown, hts, hK, hA, hnm, hAO⟩ := X
  intro H locs ls hl hP hD hS
  exact z_after hA hl hD hS (va_runV (As := av) (rest := st) (b := q j) (C := y.cls) ⟨hx, hb, hml, hown, hts⟩ (hM H.size) ⟨z_callB hts F hR, hts _ F1, hts _ F2⟩ ⟨z_blind, va_recv hK hP hc (zl_at hj hf), z_pre hP hK hAO hD⟩ rfl hn hl.1 hst (lv_room hs) hd hcs) kk
theorem zr_callS (X : zOK G l R cc nL own nm D tys) {y : MethodName} {bytes : ByteArray} {maxL : Nat} {ret : Option FieldType} {rm : Room} {post : zP} {index np : Nat} {av : List Value} {st0 : List Value} (F : zCF own index y bytes maxL ret np) (F1 : Cond.static y ∈ zAll) (hM : zC l y bytes maxL ret rm D tys av N q f post) (hd : decode cc pc = .ok (.invokestatic index, 3)) (hn : av.length = np) (hR : rm.frames + 1 ≤ R.frames ∧ 8 + (maxL + 11) + rm.locals ≤ R.locals) (hs : (st.map fun v => v.category).sum ≤ 8) (hcs : k + rm.cells ≤ R.cells ∧ n + rm.slots ≤ R.slots) (hst : st0 = av.reverse ++ st) (kk : ∀ (v : Option Value) (N' : Nat) (q' : Nat → Nat) (f' : zF), post v N' q' f' → G (k + rm.cells) (n + rm.slots) (pc + 3) lv (v.toList ++ st) N' q' f') : G k n pc lv st0 N q f := by
  obtain ⟨p, e, s, m, args, below, meth, c, A, Q, rfl, hx, hb, hml, hown, hts, hK, hA, hnm, hAO⟩ := X
  intro H locs ls hl hP hD hS
  exact z_after hA hl hD hS (va_runS (As := av) (rest := st) ⟨hx, hb, hml, hown, hts⟩ (hM H.size) ⟨z_callB hts F hR, hts _ F1⟩ ⟨z_blind, z_pre hP hK hAO hD⟩ rfl hn hl.1 hst (lv_room hs) hd hcs) kk
theorem zr_callI (X : zOK G l R cc nL own nm D tys) {y : MethodName} {bytes : ByteArray} {maxL : Nat} {rm : Room} {post : zP} {index np : Nat} {av : List Value} {st0 : List Value} {a : Nat} (F : zCF own index y bytes maxL none np) (F1 : Cond.instanceMethod y ∈ zAll) (F2 : y.name = "<init>") (hM : zC l y bytes maxL none rm D tys (.ref a :: av) N q f post) (hd : decode cc pc = .ok (.invokespecial index, 3)) (hn : av.length = np) (hR : rm.frames + 1 ≤ R.frames ∧ 8 + (maxL + 11) + rm.locals ≤ R.locals) (hs : (st.map fun v => v.category).sum ≤ 8) (hcs : k + rm.cells ≤ R.cells ∧ n + rm.slots ≤ R.slots) (hst : st0 = av.reverse ++ .ref a :: st) (kk : ∀ (v : Option Value) (N' : Nat) (q' : Nat → Nat) (f' : zF), post v N' q' f' → G (k + rm.cells) (n + rm.slots) (pc + 3) lv (v.toList ++ st) N' q' f') : G k n pc lv st0 N q f := by
  obtain ⟨p, e, s, m, args, below, meth, c, A, Q, rfl, hx, hb, hml, hown, hts, hK, hA, hnm, hAO⟩ := X
  intro H locs ls hl hP hD hS
  exact z_after hA hl hD hS (va_runI (As := av) (rest := st) (b := a) ⟨hx, hb, hml, hown, hts⟩ (hM H.size) ⟨z_callB hts F hR, F2, hts _ F1⟩ ⟨z_blind, z_pre hP hK hAO hD⟩ rfl hn hl.1 hst (lv_room hs) hd hcs) kk
theorem zr_if_eqt (X : zOK G l R cc nL own nm D tys) {x : Int32} {off : Int} {tgt : Nat} (hd : decode cc pc = .ok (.ifCond .eq off, 3)) (ht : (pc : Int) + off = (tgt : Int)) (hc : x = 0) (kk : G k n tgt lv st N q f) : G k n pc lv (.int x :: st) N q f := zr_if_eq X hd ht (fun _ => kk) (fun h => absurd hc h)
theorem zr_if_eqf (X : zOK G l R cc nL own nm D tys) {x : Int32} {off : Int} {tgt : Nat} (hd : decode cc pc = .ok (.ifCond .eq off, 3)) (ht : (pc : Int) + off = (tgt : Int)) (hc : ¬ x = 0) (kk : G k n (pc + 3) lv st N q f) : G k n pc lv (.int x :: st) N q f := zr_if_eq X hd ht (fun h => absurd h hc) (fun _ => kk)
theorem zr_icmp_eqt (X : zOK G l R cc nL own nm D tys) {x y : Int32} {off : Int} {tgt : Nat} (hd : decode cc pc = .ok (.if_icmp .eq off, 3)) (ht : (pc : Int) + off = (tgt : Int)) (hc : x = y) (kk : G k n tgt lv st N q f) : G k n pc lv (.int y :: .int x :: st) N q f := zr_icmp_eq X hd ht (fun _ => kk) (fun h => absurd hc h)
theorem zr_icmp_eqf (X : zOK G l R cc nL own nm D tys) {x y : Int32} {off : Int} {tgt : Nat} (hd : decode cc pc = .ok (.if_icmp .eq off, 3)) (ht : (pc : Int) + off = (tgt : Int)) (hc : ¬ x = y) (kk : G k n (pc + 3) lv st N q f) : G k n pc lv (.int y :: .int x :: st) N q f := zr_icmp_eq X hd ht (fun h => absurd h hc) (fun _ => kk)
theorem zr_if_net (X : zOK G l R cc nL own nm D tys) {x : Int32} {off : Int} {tgt : Nat} (hd : decode cc pc = .ok (.ifCond .ne off, 3)) (ht : (pc : Int) + off = (tgt : Int)) (hc : ¬ x = 0) (kk : G k n tgt lv st N q f) : G k n pc lv (.int x :: st) N q f := zr_if_ne X hd ht (fun _ => kk) (fun h => absurd h hc)
theorem zr_if_nef (X : zOK G l R cc nL own nm D tys) {x : Int32} {off : Int} {tgt : Nat} (hd : decode cc pc = .ok (.ifCond .ne off, 3)) (ht : (pc : Int) + off = (tgt : Int)) (hc : x = 0) (kk : G k n (pc + 3) lv st N q f) : G k n pc lv (.int x :: st) N q f := zr_if_ne X hd ht (fun h => absurd hc h) (fun _ => kk)
theorem zr_icmp_net (X : zOK G l R cc nL own nm D tys) {x y : Int32} {off : Int} {tgt : Nat} (hd : decode cc pc = .ok (.if_icmp .ne off, 3)) (ht : (pc : Int) + off = (tgt : Int)) (hc : ¬ x = y) (kk : G k n tgt lv st N q f) : G k n pc lv (.int y :: .int x :: st) N q f := zr_icmp_ne X hd ht (fun _ => kk) (fun h => absurd h hc)
theorem zr_icmp_nef (X : zOK G l R cc nL own nm D tys) {x y : Int32} {off : Int} {tgt : Nat} (hd : decode cc pc = .ok (.if_icmp .ne off, 3)) (ht : (pc : Int) + off = (tgt : Int)) (hc : x = y) (kk : G k n (pc + 3) lv st N q f) : G k n pc lv (.int y :: .int x :: st) N q f := zr_icmp_ne X hd ht (fun h => absurd hc h) (fun _ => kk)
theorem zr_if_ltt (X : zOK G l R cc nL own nm D tys) {x : Int32} {off : Int} {tgt : Nat} (hd : decode cc pc = .ok (.ifCond .lt off, 3)) (ht : (pc : Int) + off = (tgt : Int)) (hc : x < 0) (kk : G k n tgt lv st N q f) : G k n pc lv (.int x :: st) N q f := zr_if_lt X hd ht (fun _ => kk) (fun h => absurd hc h)
theorem zr_if_ltf (X : zOK G l R cc nL own nm D tys) {x : Int32} {off : Int} {tgt : Nat} (hd : decode cc pc = .ok (.ifCond .lt off, 3)) (ht : (pc : Int) + off = (tgt : Int)) (hc : ¬ x < 0) (kk : G k n (pc + 3) lv st N q f) : G k n pc lv (.int x :: st) N q f := zr_if_lt X hd ht (fun h => absurd h hc) (fun _ => kk)
theorem zr_icmp_ltt (X : zOK G l R cc nL own nm D tys) {x y : Int32} {off : Int} {tgt : Nat} (hd : decode cc pc = .ok (.if_icmp .lt off, 3)) (ht : (pc : Int) + off = (tgt : Int)) (hc : x < y) (kk : G k n tgt lv st N q f) : G k n pc lv (.int y :: .int x :: st) N q f := zr_icmp_lt X hd ht (fun _ => kk) (fun h => absurd hc h)
theorem zr_icmp_ltf (X : zOK G l R cc nL own nm D tys) {x y : Int32} {off : Int} {tgt : Nat} (hd : decode cc pc = .ok (.if_icmp .lt off, 3)) (ht : (pc : Int) + off = (tgt : Int)) (hc : ¬ x < y) (kk : G k n (pc + 3) lv st N q f) : G k n pc lv (.int y :: .int x :: st) N q f := zr_icmp_lt X hd ht (fun h => absurd h hc) (fun _ => kk)
theorem zr_if_get (X : zOK G l R cc nL own nm D tys) {x : Int32} {off : Int} {tgt : Nat} (hd : decode cc pc = .ok (.ifCond .ge off, 3)) (ht : (pc : Int) + off = (tgt : Int)) (hc : 0 ≤ x) (kk : G k n tgt lv st N q f) : G k n pc lv (.int x :: st) N q f := zr_if_ge X hd ht (fun _ => kk) (fun h => absurd hc h)
theorem zr_if_gef (X : zOK G l R cc nL own nm D tys) {x : Int32} {off : Int} {tgt : Nat} (hd : decode cc pc = .ok (.ifCond .ge off, 3)) (ht : (pc : Int) + off = (tgt : Int)) (hc : ¬ 0 ≤ x) (kk : G k n (pc + 3) lv st N q f) : G k n pc lv (.int x :: st) N q f := zr_if_ge X hd ht (fun h => absurd h hc) (fun _ => kk)
theorem zr_icmp_get (X : zOK G l R cc nL own nm D tys) {x y : Int32} {off : Int} {tgt : Nat} (hd : decode cc pc = .ok (.if_icmp .ge off, 3)) (ht : (pc : Int) + off = (tgt : Int)) (hc : y ≤ x) (kk : G k n tgt lv st N q f) : G k n pc lv (.int y :: .int x :: st) N q f := zr_icmp_ge X hd ht (fun _ => kk) (fun h => absurd hc h)
theorem zr_icmp_gef (X : zOK G l R cc nL own nm D tys) {x y : Int32} {off : Int} {tgt : Nat} (hd : decode cc pc = .ok (.if_icmp .ge off, 3)) (ht : (pc : Int) + off = (tgt : Int)) (hc : ¬ y ≤ x) (kk : G k n (pc + 3) lv st N q f) : G k n pc lv (.int y :: .int x :: st) N q f := zr_icmp_ge X hd ht (fun h => absurd h hc) (fun _ => kk)
theorem zr_if_gtt (X : zOK G l R cc nL own nm D tys) {x : Int32} {off : Int} {tgt : Nat} (hd : decode cc pc = .ok (.ifCond .gt off, 3)) (ht : (pc : Int) + off = (tgt : Int)) (hc : 0 < x) (kk : G k n tgt lv st N q f) : G k n pc lv (.int x :: st) N q f := zr_if_gt X hd ht (fun _ => kk) (fun h => absurd hc h)
theorem zr_if_gtf (X : zOK G l R cc nL own nm D tys) {x : Int32} {off : Int} {tgt : Nat} (hd : decode cc pc = .ok (.ifCond .gt off, 3)) (ht : (pc : Int) + off = (tgt : Int)) (hc : ¬ 0 < x) (kk : G k n (pc + 3) lv st N q f) : G k n pc lv (.int x :: st) N q f := zr_if_gt X hd ht (fun h => absurd h hc) (fun _ => kk)
theorem zr_icmp_gtt (X : zOK G l R cc nL own nm D tys) {x y : Int32} {off : Int} {tgt : Nat} (hd : decode cc pc = .ok (.if_icmp .gt off, 3)) (ht : (pc : Int) + off = (tgt : Int)) (hc : y < x) (kk : G k n tgt lv st N q f) : G k n pc lv (.int y :: .int x :: st) N q f := zr_icmp_gt X hd ht (fun _ => kk) (fun h => absurd hc h)
theorem zr_icmp_gtf (X : zOK G l R cc nL own nm D tys) {x y : Int32} {off : Int} {tgt : Nat} (hd : decode cc pc = .ok (.if_icmp .gt off, 3)) (ht : (pc : Int) + off = (tgt : Int)) (hc : ¬ y < x) (kk : G k n (pc + 3) lv st N q f) : G k n pc lv (.int y :: .int x :: st) N q f := zr_icmp_gt X hd ht (fun h => absurd h hc) (fun _ => kk)
theorem zr_if_let (X : zOK G l R cc nL own nm D tys) {x : Int32} {off : Int} {tgt : Nat} (hd : decode cc pc = .ok (.ifCond .le off, 3)) (ht : (pc : Int) + off = (tgt : Int)) (hc : x ≤ 0) (kk : G k n tgt lv st N q f) : G k n pc lv (.int x :: st) N q f := zr_if_le X hd ht (fun _ => kk) (fun h => absurd hc h)
theorem zr_if_lef (X : zOK G l R cc nL own nm D tys) {x : Int32} {off : Int} {tgt : Nat} (hd : decode cc pc = .ok (.ifCond .le off, 3)) (ht : (pc : Int) + off = (tgt : Int)) (hc : ¬ x ≤ 0) (kk : G k n (pc + 3) lv st N q f) : G k n pc lv (.int x :: st) N q f := zr_if_le X hd ht (fun h => absurd h hc) (fun _ => kk)
theorem zr_icmp_let (X : zOK G l R cc nL own nm D tys) {x y : Int32} {off : Int} {tgt : Nat} (hd : decode cc pc = .ok (.if_icmp .le off, 3)) (ht : (pc : Int) + off = (tgt : Int)) (hc : x ≤ y) (kk : G k n tgt lv st N q f) : G k n pc lv (.int y :: .int x :: st) N q f := zr_icmp_le X hd ht (fun _ => kk) (fun h => absurd hc h)
theorem zr_icmp_lef (X : zOK G l R cc nL own nm D tys) {x y : Int32} {off : Int} {tgt : Nat} (hd : decode cc pc = .ok (.if_icmp .le off, 3)) (ht : (pc : Int) + off = (tgt : Int)) (hc : ¬ x ≤ y) (kk : G k n (pc + 3) lv st N q f) : G k n pc lv (.int y :: .int x :: st) N q f := zr_icmp_le X hd ht (fun h => absurd h hc) (fun _ => kk)
theorem zr_acmp_eqt (X : zOK G l R cc nL own nm D tys) {a b : Nat} {off : Int} {tgt : Nat} (hd : decode cc pc = .ok (.if_acmp .eq off, 3)) (ht : (pc : Int) + off = (tgt : Int)) (hc : a = b) (kk : G k n tgt lv st N q f) : G k n pc lv (.ref b :: .ref a :: st) N q f := zr_acmp_eq X hd ht (fun _ => kk) (fun h => absurd hc h)
theorem zr_acmp_eqf (X : zOK G l R cc nL own nm D tys) {a b : Nat} {off : Int} {tgt : Nat} (hd : decode cc pc = .ok (.if_acmp .eq off, 3)) (ht : (pc : Int) + off = (tgt : Int)) (hc : ¬ a = b) (kk : G k n (pc + 3) lv st N q f) : G k n pc lv (.ref b :: .ref a :: st) N q f := zr_acmp_eq X hd ht (fun h => absurd h hc) (fun _ => kk)
theorem zr_inj (X : zOK G l R cc nL own nm D tys) (kk : (∀ i j, i < N → j < N → q i = q j → i = j) → G k n pc lv st N q f) : G k n pc lv st N q f := by
  obtain ⟨p, e, s, m, args, below, meth, c, A, Q, rfl, hx, hb, hml, hown, hts, hK, hA, hnm, hAO⟩ := X
  intro H locs ls hl hP hD hS
  exact kk (fun i j hi hj h => hD.1 i j _ _ (zl_get hi) (zl_get hj) h) H locs ls hl hP hD hS
end ZR
end
section
abbrev rmD (d c n : Nat) : Room := { frames := d, cells := c, slots := n, locals := 40 * d }
/-! posts: a read with an exact answer, a write with an exact store, an answer with a property, a void with a property -/
def pRd (N : Nat) (q : Nat → Nat) (f : zF) (r : Int32) : zP := fun v N' q' f' => v = some (.int r) ∧ N' = N ∧ q' = q ∧ f' = f
def pW (N : Nat) (q : Nat → Nat) (f1 : zF) : zP := fun v N' q' f' => v = none ∧ N' = N ∧ q' = q ∧ f' = f1
def pI (N : Nat) (q : Nat → Nat) (P : Int32 → zF → Prop) : zP := fun v N' q' f' => ∃ r, v = some (.int r) ∧ N' = N ∧ q' = q ∧ P r f'
def pV (N : Nat) (q : Nat → Nat) (P : zF → Prop) : zP := fun v N' q' f' => v = none ∧ N' = N ∧ q' = q ∧ P f'
def pR (N : Nat) (q : Nat → Nat) (f : zF) (w : Value) : zP := fun v N' q' f' => v = some w ∧ N' = N ∧ q' = q ∧ f' = f
theorem kRd {G : zT} {k n pc : Nat} {lv : List (Option Value)} {st : List Value} {N : Nat} {q : Nat → Nat} {f : zF} {r : Int32} (h : G k n pc lv (.int r :: st) N q f) : ∀ (v : Option Value) (N' : Nat) (q' : Nat → Nat) (f' : zF), pRd N q f r v N' q' f' → G k n pc lv (v.toList ++ st) N' q' f' := by
  rintro v N' q' f' ⟨rfl, rfl, rfl, rfl⟩
  exact h
theorem kR {G : zT} {k n pc : Nat} {lv : List (Option Value)} {st : List Value} {N : Nat} {q : Nat → Nat} {f : zF} {w : Value} (h : G k n pc lv (w :: st) N q f) : ∀ (v : Option Value) (N' : Nat) (q' : Nat → Nat) (f' : zF), pR N q f w v N' q' f' → G k n pc lv (v.toList ++ st) N' q' f' := by
  rintro v N' q' f' ⟨rfl, rfl, rfl, rfl⟩
  exact h
theorem kW {G : zT} {k n pc : Nat} {lv : List (Option Value)} {st : List Value} {N : Nat} {q : Nat → Nat} {f1 : zF} (h : G k n pc lv st N q f1) : ∀ (v : Option Value) (N' : Nat) (q' : Nat → Nat) (f' : zF), pW N q f1 v N' q' f' → G k n pc lv (v.toList ++ st) N' q' f' := by
  rintro v N' q' f' ⟨rfl, rfl, rfl, rfl⟩
  exact h
theorem kI {G : zT} {k n pc : Nat} {lv : List (Option Value)} {st : List Value} {N : Nat} {q : Nat → Nat} {P : Int32 → zF → Prop} (h : ∀ (r : Int32) (f' : zF), P r f' → G k n pc lv (.int r :: st) N q f') : ∀ (v : Option Value) (N' : Nat) (q' : Nat → Nat) (f' : zF), pI N q P v N' q' f' → G k n pc lv (v.toList ++ st) N' q' f' := by
  rintro v N' q' f' ⟨r, rfl, rfl, rfl, hp⟩
  exact h r f' hp
theorem kV {G : zT} {k n pc : Nat} {lv : List (Option Value)} {st : List Value} {N : Nat} {q : Nat → Nat} {P : zF → Prop} (h : ∀ (f' : zF), P f' → G k n pc lv st N q f') : ∀ (v : Option Value) (N' : Nat) (q' : Nat → Nat) (f' : zF), pV N q P v N' q' f' → G k n pc lv (v.toList ++ st) N' q' f' := by
  rintro v N' q' f' ⟨rfl, rfl, rfl, hp⟩
  exact h f' hp
/-! numbers: x is none of 0 .. n -/
def zNo (x : Int32) (n : Nat) : Prop := x < 0 ∨ nI n < x
theorem z_posn (x : Int32) {n : Nat} (hn : n < 2 ^ 31) : (∃ p : Nat, p ≤ n ∧ x = nI p) ∨ zNo x n := by
  by_cases h : x < 0
  · exact Or.inr (Or.inl h)
  · obtain ⟨j, hj, rfl⟩ := nI_of h
    by_cases h2 : j ≤ n
    · exact Or.inl ⟨j, h2, rfl⟩
    · exact Or.inr (Or.inr (nI_lt (by omega) hj))
/-- neither a position x nor a count y behind it, of n -/
def zNoS (x y : Int32) (n : Nat) : Prop := zNo x n ∨ ∃ p : Nat, p ≤ n ∧ x = nI p ∧ zNo y (n - p)
theorem z_posS (x y : Int32) {n : Nat} (hn : n < 2 ^ 31) : (∃ p c : Nat, p + c ≤ n ∧ x = nI p ∧ y = nI c) ∨ zNoS x y n := by
  rcases z_posn x hn with ⟨p, hp, rfl⟩ | h
  · rcases z_posn y (n := n - p) (by omega) with ⟨c, hc, rfl⟩ | h
    · exact Or.inl ⟨p, c, by omega, rfl, rfl⟩
    · exact Or.inr (Or.inr ⟨p, hp, rfl, h⟩)
  · exact Or.inr (Or.inl h)
theorem nI_le_not {a b : Nat} (h : a < b) (hb : b < 2 ^ 31) : ¬ nI b ≤ nI a := nI_ge h hb
theorem z_le_of_not_lt {x y : Int32} (h : ¬ x < y) : y ≤ x := Int32.not_lt.mp h
theorem z_not_le {x y : Int32} (h : x < y) : ¬ y ≤ x := Int32.not_le.mpr h
theorem z_not_lt {x y : Int32} (h : x ≤ y) : ¬ y < x := Int32.not_lt.mpr h
theorem z_charN {x : Int32} (h : fits .char (.int x) = true) : vp_nar .char x = x := by
  have h1 : (0 : Int32) ≤ x ∧ x ≤ 65535 := by simpa [fits] using h
  have h2 : ¬ x < 0 := z_not_lt h1.1
  obtain ⟨j, hj, rfl⟩ := nI_of h2
  have h3 : j ≤ 65535 := by
    have := h1.2
    rw [show (65535 : Int32) = nI 65535 from rfl, nI_leI hj (by decide)] at this
    exact this
  have h4 := (pk_charN (q := j) (by omega)).1
  unfold vp_nar
  rw [h4]
/-- every value is a char -/
def zCh (g : Nat → Int32) : Prop := ∀ i, fits .char (.int (g i)) = true
theorem zCh.cpy {f g : Nat → Int32} {sp dp n : Nat} (hf : zCh f) (hg : zCh g) : zCh (va_cpy f g sp dp n) := fun i => by
  unfold va_cpy
  split
  · exact hf _
  · exact hg _
theorem zCh_upd {g : Nat → Int32} {k : Nat} {x : Int32} (hg : zCh g) (hx : fits .char (.int x) = true) : zCh (upd g k x) := fun i => by
  unfold upd
  split
  · exact hx
  · exact hg _
theorem zCh.z : zCh (fun _ => 0) := fun _ => by
  show fits .char (.int 0) = true
  decide
/-- newlines among the first n -/
def znl (g : Nat → Int32) : Nat → Nat
  | 0 => 0
  | n + 1 => znl g n + if g n = 10 then 1 else 0
theorem znl_le (g : Nat → Int32) : ∀ n, znl g n ≤ n
  | 0 => Nat.le_refl _
  | n + 1 => by
    have := znl_le g n
    unfold znl
    split <;> omega
theorem znl_nl {g : Nat → Int32} {n : Nat} (h : g n = 10) : znl g (n + 1) = znl g n + 1 := by
  show znl g n + _ = _
  rw [if_pos h]
theorem znl_no {g : Nat → Int32} {n : Nat} (h : ¬ g n = 10) : znl g (n + 1) = znl g n := by
  show znl g n + _ = _
  rw [if_neg h]
  rfl
theorem znl_mono (g : Nat → Int32) {a b : Nat} (h : a ≤ b) : znl g a ≤ znl g b := by
  induction h with
  | refl => exact Nat.le_refl _
  | step _ ih =>
    refine Nat.le_trans ih ?_
    show _ ≤ znl g _ + _
    omega
theorem znl_congr {g h : Nat → Int32} : ∀ {n : Nat}, (∀ i, i < n → g i = h i) → znl g n = znl h n
  | 0, _ => rfl
  | n + 1, e => by
    show znl g n + _ = znl h n + _
    rw [znl_congr (fun i hi => e i (by omega)), e n (by omega)]
end
section
theorem OI_R_3 : zOi R_R 3 := ⟨(zm 20 (by decide +kernel)), (zm 13 (by decide +kernel)), zm 14 (by decide +kernel)⟩
theorem F_R_9 : zFd R_R 9 iR 0 (.array .char) true true := ⟨R_R, T_R, 2, t_R, rfl, by decide, (zm 21 (by decide +kernel)), u_R_in, t_R_ok, n_R, rfl, rfl, fun _ => rfl⟩
theorem F_R_15 : zFd R_R 15 iR 1 (.int) false true := ⟨R_R, T_R, 2, t_R, rfl, by decide, (zm 23 (by decide +kernel)), u_R_in, t_R_ok, n_R, rfl, rfl, fun _ => rfl⟩
theorem K_R_19 : zCF R_R 19 y_R_hasPosition b_R_hasPosition 2 (some .boolean) 1 := ⟨(zm 132 (by decide +kernel)), (zm 2 (by decide +kernel)), zm 135 (by decide +kernel), ⟨by decide +kernel, by decide +kernel⟩, by decide +kernel⟩
theorem KI_R_19 : Cond.instanceMethod y_R_hasPosition ∈ zAll := (zm 133 (by decide +kernel))
theorem KS_R_19 : Cond.selects y_R_hasPosition.cls y_R_hasPosition y_R_hasPosition ∈ zAll := (zm 134 (by decide +kernel))
theorem AC_R_23 : zAc R_R 23 := ⟨(zm 148 (by decide +kernel)), (zm 138 (by decide +kernel)), (zm 137 (by decide +kernel)), (zm 6 (by decide +kernel))⟩
theorem OI_M_3 : zOi R_M 3 := ⟨(zm 36 (by decide +kernel)), (zm 13 (by decide +kernel)), zm 14 (by decide +kernel)⟩
theorem F_M_9 : zFd R_M 9 iM 0 (.array .int) true true := ⟨R_M, T_M, 2, t_M, rfl, by decide, (zm 37 (by decide +kernel)), u_M_in, t_M_ok, n_M, rfl, rfl, fun _ => rfl⟩
theorem F_M_15 : zFd R_M 15 iM 1 (.array .boolean) true true := ⟨R_M, T_M, 2, t_M, rfl, by decide, (zm 39 (by decide +kernel)), u_M_in, t_M_ok, n_M, rfl, rfl, fun _ => rfl⟩
theorem OI_V_1 : zOi R_V 1 := ⟨(zm 54 (by decide +kernel)), (zm 13 (by decide +kernel)), zm 14 (by decide +kernel)⟩
theorem F_V_7 : zFd R_V 7 iV 0 (.int) true true := ⟨R_V, T_V, 7, t_V, rfl, by decide, (zm 55 (by decide +kernel)), u_V_in, t_V_ok, n_V, rfl, rfl, fun _ => rfl⟩
theorem F_V_13 : zFd R_V 13 iV 1 (.object "BranchingText$Version") true true := ⟨R_V, T_V, 7, t_V, rfl, by decide, (zm 57 (by decide +kernel)), u_V_in, t_V_ok, n_V, rfl, rfl, fun _ => rfl⟩
theorem F_V_17 : zFd R_V 17 iV 2 (.boolean) true true := ⟨R_V, T_V, 7, t_V, rfl, by decide, (zm 59 (by decide +kernel)), u_V_in, t_V_ok, n_V, rfl, rfl, fun _ => rfl⟩
theorem F_V_21 : zFd R_V 21 iV 3 (.int) true true := ⟨R_V, T_V, 7, t_V, rfl, by decide, (zm 61 (by decide +kernel)), u_V_in, t_V_ok, n_V, rfl, rfl, fun _ => rfl⟩
theorem F_V_24 : zFd R_V 24 iV 4 (.array .char) true true := ⟨R_V, T_V, 7, t_V, rfl, by decide, (zm 63 (by decide +kernel)), u_V_in, t_V_ok, n_V, rfl, rfl, fun _ => rfl⟩
theorem F_V_28 : zFd R_V 28 iV 5 (.int) false true := ⟨R_V, T_V, 7, t_V, rfl, by decide, (zm 65 (by decide +kernel)), u_V_in, t_V_ok, n_V, rfl, rfl, fun _ => rfl⟩
theorem F_V_31 : zFd R_V 31 iV 6 (.object "BranchingText$Version") false true := ⟨R_V, T_V, 7, t_V, rfl, by decide, (zm 67 (by decide +kernel)), u_V_in, t_V_ok, n_V, rfl, rfl, fun _ => rfl⟩
theorem OI_B_1 : zOi R_B 1 := ⟨(zm 12 (by decide +kernel)), (zm 13 (by decide +kernel)), zm 14 (by decide +kernel)⟩
theorem NW_B_7 : zNw R_B 7 iR 2 [.null, .int 0] := ⟨R_R, T_R, t_R, rfl, (zm 15 (by decide +kernel)), (zm 16 (by decide +kernel)), (zm 2 (by decide +kernel)), u_R_in, t_R_ok, by decide +kernel⟩
theorem K_B_11 : zCF R_B 11 y_R_init b_R_init 2 none 1 := ⟨(zm 17 (by decide +kernel)), (zm 2 (by decide +kernel)), zm 19 (by decide +kernel), ⟨by decide +kernel, by decide +kernel⟩, by decide +kernel⟩
theorem KI_B_11 : Cond.instanceMethod y_R_init ∈ zAll := (zm 18 (by decide +kernel))
theorem F_B_14 : zFd R_B 14 iB 0 (.object "BranchingText$Row") true true := ⟨R_B, T_B, 8, t_B, rfl, by decide, (zm 84 (by decide +kernel)), u_B_in, t_B_ok, n_B, rfl, rfl, fun _ => rfl⟩
theorem F_B_18 : zFd R_B 18 iB 1 (.object "BranchingText$Row") true true := ⟨R_B, T_B, 8, t_B, rfl, by decide, (zm 85 (by decide +kernel)), u_B_in, t_B_ok, n_B, rfl, rfl, fun _ => rfl⟩
theorem NW_B_21 : zNw R_B 21 iM 2 [.null, .null] := ⟨R_M, T_M, t_M, rfl, (zm 31 (by decide +kernel)), (zm 32 (by decide +kernel)), (zm 3 (by decide +kernel)), u_M_in, t_M_ok, by decide +kernel⟩
theorem K_B_23 : zCF R_B 23 y_M_init b_M_init 2 none 0 := ⟨(zm 33 (by decide +kernel)), (zm 3 (by decide +kernel)), zm 35 (by decide +kernel), ⟨by decide +kernel, by decide +kernel⟩, by decide +kernel⟩
theorem KI_B_23 : Cond.instanceMethod y_M_init ∈ zAll := (zm 34 (by decide +kernel))
theorem F_B_24 : zFd R_B 24 iB 2 (.object "BranchingText$Marks") true true := ⟨R_B, T_B, 8, t_B, rfl, by decide, (zm 86 (by decide +kernel)), u_B_in, t_B_ok, n_B, rfl, rfl, fun _ => rfl⟩
theorem AN_B_28 : Cond.classLink R_B 28 "BranchingText$Version" ∈ zAll := (zm 48 (by decide +kernel))
theorem F_B_30 : zFd R_B 30 iB 3 (.array (.object "BranchingText$Version")) true true := ⟨R_B, T_B, 8, t_B, rfl, by decide, (zm 87 (by decide +kernel)), u_B_in, t_B_ok, n_B, rfl, rfl, fun _ => rfl⟩
theorem F_B_34 : zFd R_B 34 iB 4 (.array (.object "BranchingText$Version")) true true := ⟨R_B, T_B, 8, t_B, rfl, by decide, (zm 88 (by decide +kernel)), u_B_in, t_B_ok, n_B, rfl, rfl, fun _ => rfl⟩
theorem NW_B_28 : zNw R_B 28 iV 7 [.int 0, .null, .int 0, .int 0, .null, .int 0, .null] := ⟨R_V, T_V, t_V, rfl, (zm 48 (by decide +kernel)), (zm 50 (by decide +kernel)), (zm 4 (by decide +kernel)), u_V_in, t_V_ok, by decide +kernel⟩
theorem K_B_37 : zCF R_B 37 y_V_init b_V_init 6 none 5 := ⟨(zm 51 (by decide +kernel)), (zm 4 (by decide +kernel)), zm 53 (by decide +kernel), ⟨by decide +kernel, by decide +kernel⟩, by decide +kernel⟩
theorem KI_B_37 : Cond.instanceMethod y_V_init ∈ zAll := (zm 52 (by decide +kernel))
theorem F_B_40 : zFd R_B 40 iB 7 (.object "BranchingText$Version") false true := ⟨R_B, T_B, 8, t_B, rfl, by decide, (zm 91 (by decide +kernel)), u_B_in, t_B_ok, n_B, rfl, rfl, fun _ => rfl⟩
theorem F_B_44 : zFd R_B 44 iB 5 (.int) false true := ⟨R_B, T_B, 8, t_B, rfl, by decide, (zm 89 (by decide +kernel)), u_B_in, t_B_ok, n_B, rfl, rfl, fun _ => rfl⟩
theorem F_B_48 : zFd R_B 48 iB 6 (.int) false true := ⟨R_B, T_B, 8, t_B, rfl, by decide, (zm 90 (by decide +kernel)), u_B_in, t_B_ok, n_B, rfl, rfl, fun _ => rfl⟩
theorem K_B_51 : zCF R_B 51 y_B_isCharacter b_B_isCharacter 1 (some .boolean) 1 := ⟨(zm 113 (by decide +kernel)), (zm 1 (by decide +kernel)), zm 115 (by decide +kernel), ⟨by decide +kernel, by decide +kernel⟩, by decide +kernel⟩
theorem KS_B_51 : Cond.static y_B_isCharacter ∈ zAll := (zm 114 (by decide +kernel))
theorem F_B_55 : zFd R_B 55 iR 1 (.int) false false := ⟨R_R, T_R, 2, t_R, rfl, by decide, (zm 24 (by decide +kernel)), u_R_in, t_R_ok, n_R, rfl, rfl, fun h => by cases h⟩
theorem F_B_58 : zFd R_B 58 iR 0 (.array .char) true false := ⟨R_R, T_R, 2, t_R, rfl, by decide, (zm 22 (by decide +kernel)), u_R_in, t_R_ok, n_R, rfl, rfl, fun h => by cases h⟩
theorem K_B_62 : zCF R_B 62 y_R_hasStretch b_R_hasStretch 3 (some .boolean) 2 := ⟨(zm 128 (by decide +kernel)), (zm 2 (by decide +kernel)), zm 131 (by decide +kernel), ⟨by decide +kernel, by decide +kernel⟩, by decide +kernel⟩
theorem KI_B_62 : Cond.instanceMethod y_R_hasStretch ∈ zAll := (zm 129 (by decide +kernel))
theorem KS_B_62 : Cond.selects y_R_hasStretch.cls y_R_hasStretch y_R_hasStretch ∈ zAll := (zm 130 (by decide +kernel))
theorem AC_B_66 : zAc R_B 66 := ⟨(zm 136 (by decide +kernel)), (zm 138 (by decide +kernel)), (zm 137 (by decide +kernel)), (zm 6 (by decide +kernel))⟩
theorem K_B_72 : zCF R_B 72 y_R_hasPosition b_R_hasPosition 2 (some .boolean) 1 := ⟨(zm 143 (by decide +kernel)), (zm 2 (by decide +kernel)), zm 135 (by decide +kernel), ⟨by decide +kernel, by decide +kernel⟩, by decide +kernel⟩
theorem KI_B_72 : Cond.instanceMethod y_R_hasPosition ∈ zAll := (zm 133 (by decide +kernel))
theorem KS_B_72 : Cond.selects y_R_hasPosition.cls y_R_hasPosition y_R_hasPosition ∈ zAll := (zm 134 (by decide +kernel))
theorem K_B_76 : zCF R_B 76 y_R_pieceOf b_R_pieceOf 4 (some (.array .char)) 2 := ⟨(zm 144 (by decide +kernel)), (zm 2 (by decide +kernel)), zm 147 (by decide +kernel), ⟨by decide +kernel, by decide +kernel⟩, by decide +kernel⟩
theorem KI_B_76 : Cond.instanceMethod y_R_pieceOf ∈ zAll := (zm 145 (by decide +kernel))
theorem KS_B_76 : Cond.selects y_R_pieceOf.cls y_R_pieceOf y_R_pieceOf ∈ zAll := (zm 146 (by decide +kernel))
theorem K_B_80 : zCF R_B 80 y_B_makeChild b_B_makeChild 5 (some .int) 3 := ⟨(zm 149 (by decide +kernel)), (zm 1 (by decide +kernel)), zm 152 (by decide +kernel), ⟨by decide +kernel, by decide +kernel⟩, by decide +kernel⟩
theorem KI_B_80 : Cond.instanceMethod y_B_makeChild ∈ zAll := (zm 151 (by decide +kernel))
theorem KS_B_80 : Cond.selects y_B_makeChild.cls y_B_makeChild y_B_makeChild ∈ zAll := zms 0 (by decide +kernel)
theorem F_B_84 : zFd R_B 84 iV 1 (.object "BranchingText$Version") true false := ⟨R_V, T_V, 7, t_V, rfl, by decide, (zm 58 (by decide +kernel)), u_V_in, t_V_ok, n_V, rfl, rfl, fun h => by cases h⟩
theorem K_B_87 : zCF R_B 87 y_B_stepBackTo b_B_stepBackTo 2 none 1 := ⟨(zm 189 (by decide +kernel)), (zm 1 (by decide +kernel)), zm 192 (by decide +kernel), ⟨by decide +kernel, by decide +kernel⟩, by decide +kernel⟩
theorem KI_B_87 : Cond.instanceMethod y_B_stepBackTo ∈ zAll := (zm 191 (by decide +kernel))
theorem KS_B_87 : Cond.selects y_B_stepBackTo.cls y_B_stepBackTo y_B_stepBackTo ∈ zAll := zms 4 (by decide +kernel)
theorem F_B_91 : zFd R_B 91 iV 0 (.int) true false := ⟨R_V, T_V, 7, t_V, rfl, by decide, (zm 56 (by decide +kernel)), u_V_in, t_V_ok, n_V, rfl, rfl, fun h => by cases h⟩
theorem F_B_94 : zFd R_B 94 iV 6 (.object "BranchingText$Version") false false := ⟨R_V, T_V, 7, t_V, rfl, by decide, (zm 68 (by decide +kernel)), u_V_in, t_V_ok, n_V, rfl, rfl, fun h => by cases h⟩
theorem K_B_97 : zCF R_B 97 y_B_stepOnTo b_B_stepOnTo 2 none 1 := ⟨(zm 153 (by decide +kernel)), (zm 1 (by decide +kernel)), zm 156 (by decide +kernel), ⟨by decide +kernel, by decide +kernel⟩, by decide +kernel⟩
theorem KI_B_97 : Cond.instanceMethod y_B_stepOnTo ∈ zAll := (zm 155 (by decide +kernel))
theorem KS_B_97 : Cond.selects y_B_stepOnTo.cls y_B_stepOnTo y_B_stepOnTo ∈ zAll := zms 1 (by decide +kernel)
theorem K_B_100 : zCF R_B 100 y_B_numbered b_B_numbered 2 (some (.object "BranchingText$Version")) 1 := ⟨(zm 201 (by decide +kernel)), (zm 1 (by decide +kernel)), zm 204 (by decide +kernel), ⟨by decide +kernel, by decide +kernel⟩, by decide +kernel⟩
theorem KI_B_100 : Cond.instanceMethod y_B_numbered ∈ zAll := (zm 203 (by decide +kernel))
theorem KS_B_100 : Cond.selects y_B_numbered.cls y_B_numbered y_B_numbered ∈ zAll := zms 5 (by decide +kernel)
theorem K_B_104 : zCF R_B 104 y_B_stepAlongWay b_B_stepAlongWay 4 none 1 := ⟨(zm 205 (by decide +kernel)), (zm 1 (by decide +kernel)), zm 208 (by decide +kernel), ⟨by decide +kernel, by decide +kernel⟩, by decide +kernel⟩
theorem KI_B_104 : Cond.instanceMethod y_B_stepAlongWay ∈ zAll := (zm 207 (by decide +kernel))
theorem KS_B_104 : Cond.selects y_B_stepAlongWay.cls y_B_stepAlongWay y_B_stepAlongWay ∈ zAll := zms 6 (by decide +kernel)
theorem F_B_107 : zFd R_B 107 iV 5 (.int) false false := ⟨R_V, T_V, 7, t_V, rfl, by decide, (zm 66 (by decide +kernel)), u_V_in, t_V_ok, n_V, rfl, rfl, fun h => by cases h⟩
theorem K_B_110 : zCF R_B 110 y_R_newlinesBefore b_R_newlinesBefore 4 (some .int) 1 := ⟨(zm 237 (by decide +kernel)), (zm 2 (by decide +kernel)), zm 240 (by decide +kernel), ⟨by decide +kernel, by decide +kernel⟩, by decide +kernel⟩
theorem KI_B_110 : Cond.instanceMethod y_R_newlinesBefore ∈ zAll := (zm 238 (by decide +kernel))
theorem KS_B_110 : Cond.selects y_R_newlinesBefore.cls y_R_newlinesBefore y_R_newlinesBefore ∈ zAll := (zm 239 (by decide +kernel))
theorem K_B_114 : zCF R_B 114 y_R_behindNewline b_R_behindNewline 4 (some .int) 1 := ⟨(zm 245 (by decide +kernel)), (zm 2 (by decide +kernel)), zm 248 (by decide +kernel), ⟨by decide +kernel, by decide +kernel⟩, by decide +kernel⟩
theorem KI_B_114 : Cond.instanceMethod y_R_behindNewline ∈ zAll := (zm 246 (by decide +kernel))
theorem KS_B_114 : Cond.selects y_R_behindNewline.cls y_R_behindNewline y_R_behindNewline ∈ zAll := (zm 247 (by decide +kernel))
theorem K_B_117 : zCF R_B 117 y_R_readsAt b_R_readsAt 4 (some .boolean) 2 := ⟨(zm 257 (by decide +kernel)), (zm 2 (by decide +kernel)), zm 260 (by decide +kernel), ⟨by decide +kernel, by decide +kernel⟩, by decide +kernel⟩
theorem KI_B_117 : Cond.instanceMethod y_R_readsAt ∈ zAll := (zm 258 (by decide +kernel))
theorem KS_B_117 : Cond.selects y_R_readsAt.cls y_R_readsAt y_R_readsAt ∈ zAll := (zm 259 (by decide +kernel))
theorem K_B_121 : zCF R_B 121 y_B_isMark b_B_isMark 1 (some .boolean) 1 := ⟨(zm 265 (by decide +kernel)), (zm 1 (by decide +kernel)), zm 267 (by decide +kernel), ⟨by decide +kernel, by decide +kernel⟩, by decide +kernel⟩
theorem KS_B_121 : Cond.static y_B_isMark ∈ zAll := (zm 266 (by decide +kernel))
theorem F_B_124 : zFd R_B 124 iM 0 (.array .int) true false := ⟨R_M, T_M, 2, t_M, rfl, by decide, (zm 38 (by decide +kernel)), u_M_in, t_M_ok, n_M, rfl, rfl, fun h => by cases h⟩
theorem F_B_128 : zFd R_B 128 iM 1 (.array .boolean) true false := ⟨R_M, T_M, 2, t_M, rfl, by decide, (zm 40 (by decide +kernel)), u_M_in, t_M_ok, n_M, rfl, rfl, fun h => by cases h⟩
theorem K_B_132 : zCF R_B 132 y_M_firstFrom b_M_firstFrom 4 (some .int) 1 := ⟨(zm 280 (by decide +kernel)), (zm 3 (by decide +kernel)), zm 283 (by decide +kernel), ⟨by decide +kernel, by decide +kernel⟩, by decide +kernel⟩
theorem KI_B_132 : Cond.instanceMethod y_M_firstFrom ∈ zAll := (zm 281 (by decide +kernel))
theorem KS_B_132 : Cond.selects y_M_firstFrom.cls y_M_firstFrom y_M_firstFrom ∈ zAll := (zm 282 (by decide +kernel))
theorem F_B_135 : zFd R_B 135 iV 2 (.boolean) true false := ⟨R_V, T_V, 7, t_V, rfl, by decide, (zm 60 (by decide +kernel)), u_V_in, t_V_ok, n_V, rfl, rfl, fun h => by cases h⟩
theorem F_B_139 : zFd R_B 139 iV 3 (.int) true false := ⟨R_V, T_V, 7, t_V, rfl, by decide, (zm 62 (by decide +kernel)), u_V_in, t_V_ok, n_V, rfl, rfl, fun h => by cases h⟩
theorem F_B_142 : zFd R_B 142 iV 4 (.array .char) true false := ⟨R_V, T_V, 7, t_V, rfl, by decide, (zm 64 (by decide +kernel)), u_V_in, t_V_ok, n_V, rfl, rfl, fun h => by cases h⟩
theorem K_B_145 : zCF R_B 145 y_B_takeOut b_B_takeOut 3 none 2 := ⟨(zm 169 (by decide +kernel)), (zm 1 (by decide +kernel)), zm 172 (by decide +kernel), ⟨by decide +kernel, by decide +kernel⟩, by decide +kernel⟩
theorem KI_B_145 : Cond.instanceMethod y_B_takeOut ∈ zAll := (zm 171 (by decide +kernel))
theorem KS_B_145 : Cond.selects y_B_takeOut.cls y_B_takeOut y_B_takeOut ∈ zAll := zms 3 (by decide +kernel)
theorem K_B_149 : zCF R_B 149 y_B_putIn b_B_putIn 3 none 2 := ⟨(zm 157 (by decide +kernel)), (zm 1 (by decide +kernel)), zm 160 (by decide +kernel), ⟨by decide +kernel, by decide +kernel⟩, by decide +kernel⟩
theorem KI_B_149 : Cond.instanceMethod y_B_putIn ∈ zAll := (zm 159 (by decide +kernel))
theorem KS_B_149 : Cond.selects y_B_putIn.cls y_B_putIn y_B_putIn ∈ zAll := zms 2 (by decide +kernel)
theorem K_B_153 : zCF R_B 153 y_R_open b_R_open 3 none 2 := ⟨(zm 161 (by decide +kernel)), (zm 2 (by decide +kernel)), zm 164 (by decide +kernel), ⟨by decide +kernel, by decide +kernel⟩, by decide +kernel⟩
theorem KI_B_153 : Cond.instanceMethod y_R_open ∈ zAll := (zm 162 (by decide +kernel))
theorem KS_B_153 : Cond.selects y_R_open.cls y_R_open y_R_open ∈ zAll := (zm 163 (by decide +kernel))
theorem K_B_156 : zCF R_B 156 y_M_moveForComing b_M_moveForComing 4 none 2 := ⟨(zm 165 (by decide +kernel)), (zm 3 (by decide +kernel)), zm 168 (by decide +kernel), ⟨by decide +kernel, by decide +kernel⟩, by decide +kernel⟩
theorem KI_B_156 : Cond.instanceMethod y_M_moveForComing ∈ zAll := (zm 166 (by decide +kernel))
theorem KS_B_156 : Cond.selects y_M_moveForComing.cls y_M_moveForComing y_M_moveForComing ∈ zAll := (zm 167 (by decide +kernel))
theorem K_B_159 : zCF R_B 159 y_R_close b_R_close 4 none 2 := ⟨(zm 173 (by decide +kernel)), (zm 2 (by decide +kernel)), zm 176 (by decide +kernel), ⟨by decide +kernel, by decide +kernel⟩, by decide +kernel⟩
theorem KI_B_159 : Cond.instanceMethod y_R_close ∈ zAll := (zm 174 (by decide +kernel))
theorem KS_B_159 : Cond.selects y_R_close.cls y_R_close y_R_close ∈ zAll := (zm 175 (by decide +kernel))
theorem K_B_162 : zCF R_B 162 y_M_moveForGoing b_M_moveForGoing 4 none 2 := ⟨(zm 177 (by decide +kernel)), (zm 3 (by decide +kernel)), zm 180 (by decide +kernel), ⟨by decide +kernel, by decide +kernel⟩, by decide +kernel⟩
theorem KI_B_162 : Cond.instanceMethod y_M_moveForGoing ∈ zAll := (zm 178 (by decide +kernel))
theorem KS_B_162 : Cond.selects y_M_moveForGoing.cls y_M_moveForGoing y_M_moveForGoing ∈ zAll := (zm 179 (by decide +kernel))
theorem OI_O_1 : zOi R_O 1 := ⟨(zm 289 (by decide +kernel)), (zm 13 (by decide +kernel)), zm 14 (by decide +kernel)⟩
theorem F_O_7 : zFd R_O 7 iO 0 (.int) false true := ⟨R_O, T_O, 17, t_O, rfl, by decide, (zm 290 (by decide +kernel)), u_O_in, t_O_ok, n_O, rfl, rfl, fun _ => rfl⟩
theorem F_O_13 : zFd R_O 13 iO 1 (.array .int) false true := ⟨R_O, T_O, 17, t_O, rfl, by decide, (zm 291 (by decide +kernel)), u_O_in, t_O_ok, n_O, rfl, rfl, fun _ => rfl⟩
theorem F_O_17 : zFd R_O 17 iO 2 (.array .boolean) false true := ⟨R_O, T_O, 17, t_O, rfl, by decide, (zm 292 (by decide +kernel)), u_O_in, t_O_ok, n_O, rfl, rfl, fun _ => rfl⟩
theorem F_O_21 : zFd R_O 21 iO 3 (.array .int) false true := ⟨R_O, T_O, 17, t_O, rfl, by decide, (zm 293 (by decide +kernel)), u_O_in, t_O_ok, n_O, rfl, rfl, fun _ => rfl⟩
theorem F_O_24 : zFd R_O 24 iO 4 (.array .int) false true := ⟨R_O, T_O, 17, t_O, rfl, by decide, (zm 294 (by decide +kernel)), u_O_in, t_O_ok, n_O, rfl, rfl, fun _ => rfl⟩
theorem F_O_27 : zFd R_O 27 iO 5 (.array .int) false true := ⟨R_O, T_O, 17, t_O, rfl, by decide, (zm 295 (by decide +kernel)), u_O_in, t_O_ok, n_O, rfl, rfl, fun _ => rfl⟩
theorem F_O_30 : zFd R_O 30 iO 7 (.array .char) false true := ⟨R_O, T_O, 17, t_O, rfl, by decide, (zm 297 (by decide +kernel)), u_O_in, t_O_ok, n_O, rfl, rfl, fun _ => rfl⟩
theorem F_O_34 : zFd R_O 34 iO 10 (.array .char) false true := ⟨R_O, T_O, 17, t_O, rfl, by decide, (zm 300 (by decide +kernel)), u_O_in, t_O_ok, n_O, rfl, rfl, fun _ => rfl⟩
theorem F_O_37 : zFd R_O 37 iO 11 (.array .int) false true := ⟨R_O, T_O, 17, t_O, rfl, by decide, (zm 301 (by decide +kernel)), u_O_in, t_O_ok, n_O, rfl, rfl, fun _ => rfl⟩
theorem F_O_40 : zFd R_O 40 iO 13 (.array .char) false true := ⟨R_O, T_O, 17, t_O, rfl, by decide, (zm 303 (by decide +kernel)), u_O_in, t_O_ok, n_O, rfl, rfl, fun _ => rfl⟩
theorem F_O_43 : zFd R_O 43 iO 14 (.array .boolean) false true := ⟨R_O, T_O, 17, t_O, rfl, by decide, (zm 304 (by decide +kernel)), u_O_in, t_O_ok, n_O, rfl, rfl, fun _ => rfl⟩
theorem F_O_46 : zFd R_O 46 iO 15 (.array .int) false true := ⟨R_O, T_O, 17, t_O, rfl, by decide, (zm 305 (by decide +kernel)), u_O_in, t_O_ok, n_O, rfl, rfl, fun _ => rfl⟩
theorem F_O_49 : zFd R_O 49 iO 16 (.array .boolean) false true := ⟨R_O, T_O, 17, t_O, rfl, by decide, (zm 306 (by decide +kernel)), u_O_in, t_O_ok, n_O, rfl, rfl, fun _ => rfl⟩
theorem F_O_52 : zFd R_O 52 iO 12 (.int) false true := ⟨R_O, T_O, 17, t_O, rfl, by decide, (zm 302 (by decide +kernel)), u_O_in, t_O_ok, n_O, rfl, rfl, fun _ => rfl⟩
theorem F_O_55 : zFd R_O 55 iO 9 (.int) false true := ⟨R_O, T_O, 17, t_O, rfl, by decide, (zm 299 (by decide +kernel)), u_O_in, t_O_ok, n_O, rfl, rfl, fun _ => rfl⟩
theorem K_O_58 : zCF R_O 58 y_O_isStretch b_O_isStretch 3 (some .boolean) 2 := ⟨(zm 358 (by decide +kernel)), (zm 5 (by decide +kernel)), zm 361 (by decide +kernel), ⟨by decide +kernel, by decide +kernel⟩, by decide +kernel⟩
theorem KI_O_58 : Cond.instanceMethod y_O_isStretch ∈ zAll := (zm 360 (by decide +kernel))
theorem KS_O_58 : Cond.selects y_O_isStretch.cls y_O_isStretch y_O_isStretch ∈ zAll := zms 7 (by decide +kernel)
theorem F_O_62 : zFd R_O 62 iO 8 (.int) false true := ⟨R_O, T_O, 17, t_O, rfl, by decide, (zm 298 (by decide +kernel)), u_O_in, t_O_ok, n_O, rfl, rfl, fun _ => rfl⟩
theorem K_O_65 : zCF R_O 65 y_O_bring b_O_bring 3 none 1 := ⟨(zm 382 (by decide +kernel)), (zm 5 (by decide +kernel)), zm 385 (by decide +kernel), ⟨by decide +kernel, by decide +kernel⟩, by decide +kernel⟩
theorem KI_O_65 : Cond.instanceMethod y_O_bring ∈ zAll := (zm 384 (by decide +kernel))
theorem KS_O_65 : Cond.selects y_O_bring.cls y_O_bring y_O_bring ∈ zAll := zms 12 (by decide +kernel)
theorem K_O_69 : zCF R_O 69 y_O_take b_O_take 3 none 1 := ⟨(zm 386 (by decide +kernel)), (zm 5 (by decide +kernel)), zm 389 (by decide +kernel), ⟨by decide +kernel, by decide +kernel⟩, by decide +kernel⟩
theorem KI_O_69 : Cond.instanceMethod y_O_take ∈ zAll := (zm 388 (by decide +kernel))
theorem KS_O_69 : Cond.selects y_O_take.cls y_O_take y_O_take ∈ zAll := zms 13 (by decide +kernel)
theorem K_O_72 : zCF R_O 72 y_O_moveMarks b_O_moveMarks 6 none 3 := ⟨(zm 374 (by decide +kernel)), (zm 5 (by decide +kernel)), zm 377 (by decide +kernel), ⟨by decide +kernel, by decide +kernel⟩, by decide +kernel⟩
theorem KI_O_72 : Cond.instanceMethod y_O_moveMarks ∈ zAll := (zm 376 (by decide +kernel))
theorem KS_O_72 : Cond.selects y_O_moveMarks.cls y_O_moveMarks y_O_moveMarks ∈ zAll := zms 10 (by decide +kernel)
theorem K_O_76 : zCF R_O 76 y_O_make b_O_make 3 none 0 := ⟨(zm 378 (by decide +kernel)), (zm 5 (by decide +kernel)), zm 381 (by decide +kernel), ⟨by decide +kernel, by decide +kernel⟩, by decide +kernel⟩
theorem KI_O_76 : Cond.instanceMethod y_O_make ∈ zAll := (zm 380 (by decide +kernel))
theorem KS_O_76 : Cond.selects y_O_make.cls y_O_make y_O_make ∈ zAll := zms 11 (by decide +kernel)
theorem K_O_79 : zCF R_O 79 y_O_isPosition b_O_isPosition 2 (some .boolean) 1 := ⟨(zm 366 (by decide +kernel)), (zm 5 (by decide +kernel)), zm 369 (by decide +kernel), ⟨by decide +kernel, by decide +kernel⟩, by decide +kernel⟩
theorem KI_O_79 : Cond.instanceMethod y_O_isPosition ∈ zAll := (zm 368 (by decide +kernel))
theorem KS_O_79 : Cond.selects y_O_isPosition.cls y_O_isPosition y_O_isPosition ∈ zAll := zms 8 (by decide +kernel)
theorem F_O_83 : zFd R_O 83 iO 6 (.int) false true := ⟨R_O, T_O, 17, t_O, rfl, by decide, (zm 296 (by decide +kernel)), u_O_in, t_O_ok, n_O, rfl, rfl, fun _ => rfl⟩
theorem K_O_86 : zCF R_O 86 y_O_edit b_O_edit 5 (some .int) 3 := ⟨(zm 370 (by decide +kernel)), (zm 5 (by decide +kernel)), zm 373 (by decide +kernel), ⟨by decide +kernel, by decide +kernel⟩, by decide +kernel⟩
theorem KI_O_86 : Cond.instanceMethod y_O_edit ∈ zAll := (zm 372 (by decide +kernel))
theorem KS_O_86 : Cond.selects y_O_edit.cls y_O_edit y_O_edit ∈ zAll := zms 9 (by decide +kernel)
theorem K_O_90 : zCF R_O 90 y_O_stepBack b_O_stepBack 1 none 0 := ⟨(zm 398 (by decide +kernel)), (zm 5 (by decide +kernel)), zm 401 (by decide +kernel), ⟨by decide +kernel, by decide +kernel⟩, by decide +kernel⟩
theorem KI_O_90 : Cond.instanceMethod y_O_stepBack ∈ zAll := (zm 400 (by decide +kernel))
theorem KS_O_90 : Cond.selects y_O_stepBack.cls y_O_stepBack y_O_stepBack ∈ zAll := zms 14 (by decide +kernel)
theorem K_O_93 : zCF R_O 93 y_O_stepOn b_O_stepOn 2 none 1 := ⟨(zm 406 (by decide +kernel)), (zm 5 (by decide +kernel)), zm 409 (by decide +kernel), ⟨by decide +kernel, by decide +kernel⟩, by decide +kernel⟩
theorem KI_O_93 : Cond.instanceMethod y_O_stepOn ∈ zAll := (zm 408 (by decide +kernel))
theorem KS_O_93 : Cond.selects y_O_stepOn.cls y_O_stepOn y_O_stepOn ∈ zAll := zms 15 (by decide +kernel)
theorem K_O_96 : zCF R_O 96 y_O_leads b_O_leads 4 (some .boolean) 2 := ⟨(zm 414 (by decide +kernel)), (zm 5 (by decide +kernel)), zm 417 (by decide +kernel), ⟨by decide +kernel, by decide +kernel⟩, by decide +kernel⟩
theorem KI_O_96 : Cond.instanceMethod y_O_leads ∈ zAll := (zm 416 (by decide +kernel))
theorem KS_O_96 : Cond.selects y_O_leads.cls y_O_leads y_O_leads ∈ zAll := zms 16 (by decide +kernel)
theorem K_O_99 : zCF R_O 99 y_O_next b_O_next 3 (some .int) 1 := ⟨(zm 418 (by decide +kernel)), (zm 5 (by decide +kernel)), zm 421 (by decide +kernel), ⟨by decide +kernel, by decide +kernel⟩, by decide +kernel⟩
theorem KI_O_99 : Cond.instanceMethod y_O_next ∈ zAll := (zm 420 (by decide +kernel))
theorem KS_O_99 : Cond.selects y_O_next.cls y_O_next y_O_next ∈ zAll := zms 17 (by decide +kernel)
theorem K_O_103 : zCF R_O 103 y_O_lineOf b_O_lineOf 4 (some .int) 1 := ⟨(zm 450 (by decide +kernel)), (zm 5 (by decide +kernel)), zm 453 (by decide +kernel), ⟨by decide +kernel, by decide +kernel⟩, by decide +kernel⟩
theorem KI_O_103 : Cond.instanceMethod y_O_lineOf ∈ zAll := (zm 451 (by decide +kernel))
theorem KS_O_103 : Cond.selects y_O_lineOf.cls y_O_lineOf y_O_lineOf ∈ zAll := (zm 452 (by decide +kernel))
theorem K_O_106 : zCF R_O 106 y_O_isScratch b_O_isScratch 3 (some .boolean) 1 := ⟨(zm 463 (by decide +kernel)), (zm 5 (by decide +kernel)), zm 466 (by decide +kernel), ⟨by decide +kernel, by decide +kernel⟩, by decide +kernel⟩
theorem KI_O_106 : Cond.instanceMethod y_O_isScratch ∈ zAll := (zm 465 (by decide +kernel))
theorem KS_O_106 : Cond.selects y_O_isScratch.cls y_O_isScratch y_O_isScratch ∈ zAll := zms 18 (by decide +kernel)
theorem W_arrC : Cond.arrayClass .char ∈ zAll := (zm 30 (by decide +kernel))
theorem W_arrI : Cond.arrayClass .int ∈ zAll := (zm 46 (by decide +kernel))
theorem W_arrZ : Cond.arrayClass .boolean ∈ zAll := (zm 47 (by decide +kernel))
end
section
set_option maxRecDepth 100000 in
set_option maxHeartbeats 4000000 in
theorem c_R_hasPosition_y {l : Launch} {D : va_G} {cI cC cZ cV : ClassId} {N : Nat} {q : Nat → Nat} {f : zF} {j jc sz p : Nat} (hj : j < N) (hf : f j = .inr (iR, [.ref (q jc), .int (nI sz)])) (hs : sz < 2 ^ 31) (hp : p ≤ sz) : zC l y_R_hasPosition b_R_hasPosition 2 (some .boolean) (rmD 0 0 0) D (zty cI cC cZ cV) [.ref (q j), .int (nI p)] N q f (pRd N q f (nI 1)) := by
  refine zC.of (by decide) (by simp [Value.category]) (Nat.le_of_ble_eq_true rfl) (fun G X Y => ?_)
  show G 0 0 0 [some (.ref (q j)), some (.int (nI p))] [] N q f
  refine zr_iload_n X d_R_hasPosition_0 rfl ?_
  refine zr_if_ltf (tgt := 16) X d_R_hasPosition_1 rfl (nI_pos (by omega)) ?_
  refine zr_iload_n X d_R_hasPosition_4 rfl ?_
  refine zr_aload_n X d_R_hasPosition_5 rfl ?_
  refine zr_get X F_R_15 d_R_hasPosition_6 hj hf (v := .int (nI sz)) rfl ?_
  refine zr_icmp_gtf (tgt := 16) X d_R_hasPosition_9 rfl (nI_nlt hp hs) ?_
  refine zr_iconst (v := nI 1) X d_R_hasPosition_12 (by decide) ?_
  refine zr_goto (tgt := 17) X d_R_hasPosition_13 rfl ?_
  refine zr_ireturn Y d_R_hasPosition_17 rfl (Nat.le_of_ble_eq_true rfl) (Nat.le_of_ble_eq_true rfl) ?_
  exact ⟨rfl, rfl, rfl, rfl⟩

set_option maxRecDepth 100000 in
set_option maxHeartbeats 4000000 in
theorem c_R_hasPosition_n {l : Launch} {D : va_G} {cI cC cZ cV : ClassId} {N : Nat} {q : Nat → Nat} {f : zF} {j jc sz : Nat} {x : Int32} (hj : j < N) (hf : f j = .inr (iR, [.ref (q jc), .int (nI sz)])) (hx : zNo x sz) : zC l y_R_hasPosition b_R_hasPosition 2 (some .boolean) (rmD 0 0 0) D (zty cI cC cZ cV) [.ref (q j), .int x] N q f (pRd N q f (nI 0)) := by
  refine zC.of (by decide) (by simp [Value.category]) (Nat.le_of_ble_eq_true rfl) (fun G X Y => ?_)
  show G 0 0 0 [some (.ref (q j)), some (.int x)] [] N q f
  refine zr_iload_n X d_R_hasPosition_0 rfl ?_
  refine zr_if_lt (tgt := 16) X d_R_hasPosition_1 rfl (fun h1 => ?_) (fun h1 => ?_)
  · skip
    refine zr_iconst (v := nI 0) X d_R_hasPosition_16 (by decide) ?_
    refine zr_ireturn Y d_R_hasPosition_17 rfl (Nat.le_of_ble_eq_true rfl) (Nat.le_of_ble_eq_true rfl) ?_
    exact ⟨rfl, rfl, rfl, rfl⟩
  · skip
    refine zr_iload_n X d_R_hasPosition_4 rfl ?_
    refine zr_aload_n X d_R_hasPosition_5 rfl ?_
    refine zr_get X F_R_15 d_R_hasPosition_6 hj hf (v := .int (nI sz)) rfl ?_
    refine zr_icmp_gtt (tgt := 16) X d_R_hasPosition_9 rfl (hx.resolve_left h1) ?_
    refine zr_iconst (v := nI 0) X d_R_hasPosition_16 (by decide) ?_
    refine zr_ireturn Y d_R_hasPosition_17 rfl (Nat.le_of_ble_eq_true rfl) (Nat.le_of_ble_eq_true rfl) ?_
    exact ⟨rfl, rfl, rfl, rfl⟩

set_option maxRecDepth 100000 in
set_option maxHeartbeats 4000000 in
theorem c_R_hasStretch_y {l : Launch} {D : va_G} {cI cC cZ cV : ClassId} {N : Nat} {q : Nat → Nat} {f : zF} {j jc sz p c : Nat} (hj : j < N) (hf : f j = .inr (iR, [.ref (q jc), .int (nI sz)])) (hs : sz < 2 ^ 31) (hp : p + c ≤ sz) : zC l y_R_hasStretch b_R_hasStretch 3 (some .boolean) (rmD 1 0 0) D (zty cI cC cZ cV) [.ref (q j), .int (nI p), .int (nI c)] N q f (pRd N q f (nI 1)) := by
  refine zC.of (by decide) (by simp [Value.category]) (Nat.le_of_ble_eq_true rfl) (fun G X Y => ?_)
  show G 0 0 0 [some (.ref (q j)), some (.int (nI p)), some (.int (nI c))] [] N q f
  refine zr_aload_n X d_R_hasStretch_0 rfl ?_
  refine zr_iload_n X d_R_hasStretch_1 rfl ?_
  refine zr_callV X K_R_19 KI_R_19 KS_R_19 (c_R_hasPosition_y hj hf hs (by omega)) d_R_hasStretch_2 hj hf rfl rfl (by decide) (Nat.le_of_ble_eq_true rfl) (by decide) (st := []) rfl (kRd ?_)
  show G 0 0 5 [some (.ref (q j)), some (.int (nI p)), some (.int (nI c))] [.int (nI 1)] N q f
  refine zr_if_eqf (tgt := 26) X d_R_hasStretch_5 rfl (by decide) ?_
  refine zr_iload_n X d_R_hasStretch_8 rfl ?_
  refine zr_if_ltf (tgt := 26) X d_R_hasStretch_9 rfl (nI_pos (by omega)) ?_
  refine zr_iload_n X d_R_hasStretch_12 rfl ?_
  refine zr_aload_n X d_R_hasStretch_13 rfl ?_
  refine zr_get X F_R_15 d_R_hasStretch_14 hj hf (v := .int (nI sz)) rfl ?_
  refine zr_iload_n X d_R_hasStretch_17 rfl ?_
  refine zr_isub (z := nI (sz - p)) X d_R_hasStretch_18 (pk_sub (by omega)) ?_
  refine zr_icmp_gtf (tgt := 26) X d_R_hasStretch_19 rfl (nI_nlt (by omega) (by omega)) ?_
  refine zr_iconst (v := nI 1) X d_R_hasStretch_22 (by decide) ?_
  refine zr_goto (tgt := 27) X d_R_hasStretch_23 rfl ?_
  refine zr_ireturn Y d_R_hasStretch_27 rfl (Nat.le_of_ble_eq_true rfl) (Nat.le_of_ble_eq_true rfl) ?_
  exact ⟨rfl, rfl, rfl, rfl⟩

set_option maxRecDepth 100000 in
set_option maxHeartbeats 4000000 in
theorem c_R_hasStretch_n1 {l : Launch} {D : va_G} {cI cC cZ cV : ClassId} {N : Nat} {q : Nat → Nat} {f : zF} {j jc sz : Nat} {x y : Int32} (hj : j < N) (hf : f j = .inr (iR, [.ref (q jc), .int (nI sz)])) (hx : zNo x sz) : zC l y_R_hasStretch b_R_hasStretch 3 (some .boolean) (rmD 1 0 0) D (zty cI cC cZ cV) [.ref (q j), .int x, .int y] N q f (pRd N q f (nI 0)) := by
  refine zC.of (by decide) (by simp [Value.category]) (Nat.le_of_ble_eq_true rfl) (fun G X Y => ?_)
  show G 0 0 0 [some (.ref (q j)), some (.int x), some (.int y)] [] N q f
  refine zr_aload_n X d_R_hasStretch_0 rfl ?_
  refine zr_iload_n X d_R_hasStretch_1 rfl ?_
  refine zr_callV X K_R_19 KI_R_19 KS_R_19 (c_R_hasPosition_n hj hf hx) d_R_hasStretch_2 hj hf rfl rfl (by decide) (Nat.le_of_ble_eq_true rfl) (by decide) (st := []) rfl (kRd ?_)
  show G 0 0 5 [some (.ref (q j)), some (.int x), some (.int y)] [.int (nI 0)] N q f
  refine zr_if_eqt (tgt := 26) X d_R_hasStretch_5 rfl (by decide) ?_
  refine zr_iconst (v := nI 0) X d_R_hasStretch_26 (by decide) ?_
  refine zr_ireturn Y d_R_hasStretch_27 rfl (Nat.le_of_ble_eq_true rfl) (Nat.le_of_ble_eq_true rfl) ?_
  exact ⟨rfl, rfl, rfl, rfl⟩

set_option maxRecDepth 100000 in
set_option maxHeartbeats 4000000 in
theorem c_R_hasStretch_n2 {l : Launch} {D : va_G} {cI cC cZ cV : ClassId} {N : Nat} {q : Nat → Nat} {f : zF} {j jc sz p : Nat} {y : Int32} (hj : j < N) (hf : f j = .inr (iR, [.ref (q jc), .int (nI sz)])) (hs : sz < 2 ^ 31) (hp : p ≤ sz) (hy : zNo y (sz - p)) : zC l y_R_hasStretch b_R_hasStretch 3 (some .boolean) (rmD 1 0 0) D (zty cI cC cZ cV) [.ref (q j), .int (nI p), .int y] N q f (pRd N q f (nI 0)) := by
  refine zC.of (by decide) (by simp [Value.category]) (Nat.le_of_ble_eq_true rfl) (fun G X Y => ?_)
  show G 0 0 0 [some (.ref (q j)), some (.int (nI p)), some (.int y)] [] N q f
  refine zr_aload_n X d_R_hasStretch_0 rfl ?_
  refine zr_iload_n X d_R_hasStretch_1 rfl ?_
  refine zr_callV X K_R_19 KI_R_19 KS_R_19 (c_R_hasPosition_y hj hf hs hp) d_R_hasStretch_2 hj hf rfl rfl (by decide) (Nat.le_of_ble_eq_true rfl) (by decide) (st := []) rfl (kRd ?_)
  show G 0 0 5 [some (.ref (q j)), some (.int (nI p)), some (.int y)] [.int (nI 1)] N q f
  refine zr_if_eqf (tgt := 26) X d_R_hasStretch_5 rfl (by decide) ?_
  refine zr_iload_n X d_R_hasStretch_8 rfl ?_
  refine zr_if_lt (tgt := 26) X d_R_hasStretch_9 rfl (fun h9 => ?_) (fun h9 => ?_)
  · skip
    refine zr_iconst (v := nI 0) X d_R_hasStretch_26 (by decide) ?_
    refine zr_ireturn Y d_R_hasStretch_27 rfl (Nat.le_of_ble_eq_true rfl) (Nat.le_of_ble_eq_true rfl) ?_
    exact ⟨rfl, rfl, rfl, rfl⟩
  · skip
    refine zr_iload_n X d_R_hasStretch_12 rfl ?_
    refine zr_aload_n X d_R_hasStretch_13 rfl ?_
    refine zr_get X F_R_15 d_R_hasStretch_14 hj hf (v := .int (nI sz)) rfl ?_
    refine zr_iload_n X d_R_hasStretch_17 rfl ?_
    refine zr_isub (z := nI (sz - p)) X d_R_hasStretch_18 (pk_sub (by omega)) ?_
    refine zr_icmp_gtt (tgt := 26) X d_R_hasStretch_19 rfl (hy.resolve_left h9) ?_
    refine zr_iconst (v := nI 0) X d_R_hasStretch_26 (by decide) ?_
    refine zr_ireturn Y d_R_hasStretch_27 rfl (Nat.le_of_ble_eq_true rfl) (Nat.le_of_ble_eq_true rfl) ?_
    exact ⟨rfl, rfl, rfl, rfl⟩

theorem c_R_hasStretch_n {l : Launch} {D : va_G} {cI cC cZ cV : ClassId} {N : Nat} {q : Nat → Nat} {f : zF} {j jc sz : Nat} {x y : Int32} (hj : j < N) (hf : f j = .inr (iR, [.ref (q jc), .int (nI sz)])) (hs : sz < 2 ^ 31) (hx : zNoS x y sz) : zC l y_R_hasStretch b_R_hasStretch 3 (some .boolean) (rmD 1 0 0) D (zty cI cC cZ cV) [.ref (q j), .int x, .int y] N q f (pRd N q f (nI 0)) := by
  rcases hx with hx | ⟨p, hp, rfl, hy⟩
  · exact c_R_hasStretch_n1 hj hf hx
  · exact c_R_hasStretch_n2 hj hf hs hp hy

set_option maxRecDepth 100000 in
set_option maxHeartbeats 4000000 in
theorem c_R_pieceOf {l : Launch} {D : va_G} {cI cC cZ cV : ClassId} {N : Nat} {q : Nat → Nat} {f : zF} {j jc sz p c cap : Nat} {g : Nat → Int32} (hj : j < N) (hf : f j = .inr (iR, [.ref (q jc), .int (nI sz)])) (hjc : jc < N) (hfc : f jc = .inl (cC, cap, .inl g)) (hg : zCh g) (hcap : cap < 2 ^ 20) (hp : p + c ≤ cap) (hc : c ≤ 2000) : zC l y_R_pieceOf b_R_pieceOf 4 (some (.array .char)) (rmD 1 1 2000) D (zty cI cC cZ cV) [.ref (q j), .int (nI p), .int (nI c)] N q f (fun v N' q' f' => ∃ a, v = some (.ref a) ∧ N' = N + 1 ∧ q' = va_up q N a ∧ f' = va_up f N (.inl (cC, c, .inl (va_cpy g (fun _ => 0) p 0 c)))) := by
  refine zC.of (by decide) (by simp [Value.category]) (Nat.le_of_ble_eq_true rfl) (fun G X Y => ?_)
  show G 0 0 0 [some (.ref (q j)), some (.int (nI p)), some (.int (nI c)), none] [] N q f
  refine zr_iload_n X d_R_pieceOf_0 rfl ?_
  refine zr_newaC X 1 d_R_pieceOf_1 W_arrC rfl (by omega) (by decide) (by show 0 + c ≤ 2000; omega) (fun a => ?_)
  generalize hq' : va_up q N a = q'
  have hqj : q j = q' j := by rw [← hq', up_ne' (by omega)]
  have hqc : q jc = q' jc := by rw [← hq', up_ne' (by omega)]
  have hqN : a = q' N := by rw [← hq', up_eq]
  rw [hqc] at hf
  rw [hqj, hqN]
  show G (0 + 1) (0 + c) 3 [some (.ref (q' j)), some (.int (nI p)), some (.int (nI c)), none] [.ref (q' N)] (N + 1) q' (va_up f N (.inl (cC, c, .inl (fun _ => 0))))
  refine zr_astore_n (lv' := [some (.ref (q' j)), some (.int (nI p)), some (.int (nI c)), some (.ref (q' N))]) X d_R_pieceOf_3 (by decide) rfl ?_
  refine zr_aload_n X d_R_pieceOf_4 rfl ?_
  refine zr_get X F_R_9 d_R_pieceOf_5 (by omega) (up_ne (by omega) hf) (v := .ref (q' jc)) rfl ?_
  refine zr_iload_n X d_R_pieceOf_8 rfl ?_
  refine zr_aload_n X d_R_pieceOf_9 rfl ?_
  refine zr_iconst (v := nI 0) X d_R_pieceOf_10 (by decide) ?_
  refine zr_iload_n X d_R_pieceOf_11 rfl ?_
  refine zr_copy X AC_R_23 1 d_R_pieceOf_12 (by omega) (by omega) (up_ne (by omega) hfc) up_eq rfl (by omega) (by omega) (by omega) (by omega) (fun i _ => hg _) (by decide) (Nat.le_of_ble_eq_true rfl) ?_
  refine zr_aload_n X d_R_pieceOf_15 rfl ?_
  refine zr_areturn Y d_R_pieceOf_16 (Or.inr ⟨_, rfl⟩) (Or.inr ⟨_, rfl⟩) (Nat.le_of_ble_eq_true rfl) (by show 0 + c ≤ 2000; omega) ?_
  exact ⟨a, by rw [hqN], rfl, hq'.symm, bx_uu _ _ _ _⟩

def zopen (g gp : Nat → Int32) (p c sz : Nat) : Nat → Int32 := va_cpy gp (va_cpy g g p (p + c) (sz - p)) 0 p c
def zclose (g : Nat → Int32) (p c sz : Nat) : Nat → Int32 := va_cpy g g (p + c) p (sz - (p + c))

set_option maxRecDepth 100000 in
set_option maxHeartbeats 4000000 in
theorem c_R_open {l : Launch} {D : va_G} {cI cC cZ cV : ClassId} {N : Nat} {q : Nat → Nat} {f : zF} {j jc jp sz p c cap : Nat} {g gp : Nat → Int32} (hj : j < N) (hf : f j = .inr (iR, [.ref (q jc), .int (nI sz)])) (hjc : jc < N) (hfc : f jc = .inl (cC, cap, .inl g)) (hjp : jp < N) (hfp : f jp = .inl (cC, c, .inl gp)) (n1 : j ≠ jc) (n2 : jp ≠ jc) (n3 : j ≠ jp) (hg : zCh g) (hgp : zCh gp) (hcap : cap < 2 ^ 20) (hp : p ≤ sz) (hc : sz + c ≤ cap) : zC l y_R_open b_R_open 3 none (rmD 1 0 0) D (zty cI cC cZ cV) [.ref (q j), .int (nI p), .ref (q jp)] N q f (pW N q (va_up (va_up f jc (.inl (cC, cap, .inl (zopen g gp p c sz)))) j (.inr (iR, [.ref (q jc), .int (nI (sz + c))])))) := by
  refine zC.of (by decide) (by simp [Value.category]) (Nat.le_of_ble_eq_true rfl) (fun G X Y => ?_)
  show G 0 0 0 [some (.ref (q j)), some (.int (nI p)), some (.ref (q jp))] [] N q f
  refine zr_aload_n X d_R_open_0 rfl ?_
  refine zr_get X F_R_9 d_R_open_1 (by omega) hf (v := .ref (q jc)) rfl ?_
  refine zr_iload_n X d_R_open_4 rfl ?_
  refine zr_aload_n X d_R_open_5 rfl ?_
  refine zr_get X F_R_9 d_R_open_6 (by omega) hf (v := .ref (q jc)) rfl ?_
  refine zr_iload_n X d_R_open_9 rfl ?_
  refine zr_aload_n X d_R_open_10 rfl ?_
  refine zr_alen X 1 d_R_open_11 (by omega) hfp rfl ?_
  refine zr_iadd (z := nI (p + c)) X d_R_open_12 (nI_add _ _) ?_
  refine zr_aload_n X d_R_open_13 rfl ?_
  refine zr_get X F_R_15 d_R_open_14 (by omega) hf (v := .int (nI sz)) rfl ?_
  refine zr_iload_n X d_R_open_17 rfl ?_
  refine zr_isub (z := nI (sz - p)) X d_R_open_18 (pk_sub (by omega)) ?_
  refine zr_copy X AC_R_23 1 d_R_open_19 (by omega) (by omega) hfc hfc rfl (by omega) (by omega) (by omega) (by omega) (fun i _ => hg _) (by decide) (Nat.le_of_ble_eq_true rfl) ?_
  refine zr_aload_n X d_R_open_22 rfl ?_
  refine zr_iconst (v := nI 0) X d_R_open_23 (by decide) ?_
  refine zr_aload_n X d_R_open_24 rfl ?_
  refine zr_get X F_R_9 d_R_open_25 (by omega) (up_ne (by omega) hf) (v := .ref (q jc)) rfl ?_
  refine zr_iload_n X d_R_open_28 rfl ?_
  refine zr_aload_n X d_R_open_29 rfl ?_
  refine zr_alen X 1 d_R_open_30 (by omega) (up_ne (by omega) hfp) rfl ?_
  refine zr_copy X AC_R_23 1 d_R_open_31 (by omega) (by omega) (up_ne (by omega) hfp) up_eq rfl (by omega) (by omega) (by omega) (by omega) (fun i _ => hgp _) (by decide) (Nat.le_of_ble_eq_true rfl) ?_
  refine zr_aload_n X d_R_open_34 rfl ?_
  refine zr_dup X d_R_open_35 rfl ?_
  refine zr_get X F_R_15 d_R_open_36 (by omega) (up_ne (by omega) (up_ne (by omega) hf)) (v := .int (nI sz)) rfl ?_
  refine zr_aload_n X d_R_open_39 rfl ?_
  refine zr_alen X 1 d_R_open_40 (by omega) (up_ne (by omega) (up_ne (by omega) hfp)) rfl ?_
  refine zr_iadd (z := nI (sz + c)) X d_R_open_41 (nI_add _ _) ?_
  refine zr_put (fs' := [.ref (q jc), .int (nI (sz + c))]) X F_R_15 d_R_open_42 (by omega) (up_ne (by omega) (up_ne (by omega) hf)) rfl rfl (Nat.le_of_ble_eq_true rfl) rfl ?_
  refine zr_return Y d_R_open_45 (Nat.le_of_ble_eq_true rfl) (Nat.le_of_ble_eq_true rfl) ?_
  exact ⟨rfl, rfl, rfl, by rw [bx_uu]; rfl⟩

set_option maxRecDepth 100000 in
set_option maxHeartbeats 4000000 in
theorem c_R_close {l : Launch} {D : va_G} {cI cC cZ cV : ClassId} {N : Nat} {q : Nat → Nat} {f : zF} {j jc sz p c cap : Nat} {g : Nat → Int32} (hj : j < N) (hf : f j = .inr (iR, [.ref (q jc), .int (nI sz)])) (hjc : jc < N) (hfc : f jc = .inl (cC, cap, .inl g)) (n1 : j ≠ jc) (hg : zCh g) (hcap : cap < 2 ^ 20) (hp : p + c ≤ sz) (hc : sz ≤ cap) : zC l y_R_close b_R_close 4 none (rmD 1 0 0) D (zty cI cC cZ cV) [.ref (q j), .int (nI p), .int (nI c)] N q f (pW N q (va_up (va_up f jc (.inl (cC, cap, .inl (zclose g p c sz)))) j (.inr (iR, [.ref (q jc), .int (nI (sz - c))])))) := by
  refine zC.of (by decide) (by simp [Value.category]) (Nat.le_of_ble_eq_true rfl) (fun G X Y => ?_)
  show G 0 0 0 [some (.ref (q j)), some (.int (nI p)), some (.int (nI c)), none] [] N q f
  refine zr_iload_n X d_R_close_0 rfl ?_
  refine zr_iload_n X d_R_close_1 rfl ?_
  refine zr_iadd (z := nI (p + c)) X d_R_close_2 (nI_add _ _) ?_
  refine zr_istore_n (lv' := [some (.ref (q j)), some (.int (nI p)), some (.int (nI c)), some (.int (nI (p + c)))]) X d_R_close_3 (by decide) rfl ?_
  refine zr_aload_n X d_R_close_4 rfl ?_
  refine zr_get X F_R_9 d_R_close_5 (by omega) hf (v := .ref (q jc)) rfl ?_
  refine zr_iload_n X d_R_close_8 rfl ?_
  refine zr_aload_n X d_R_close_9 rfl ?_
  refine zr_get X F_R_9 d_R_close_10 (by omega) hf (v := .ref (q jc)) rfl ?_
  refine zr_iload_n X d_R_close_13 rfl ?_
  refine zr_aload_n X d_R_close_14 rfl ?_
  refine zr_get X F_R_15 d_R_close_15 (by omega) hf (v := .int (nI sz)) rfl ?_
  refine zr_iload_n X d_R_close_18 rfl ?_
  refine zr_isub (z := nI (sz - (p + c))) X d_R_close_19 (pk_sub (by omega)) ?_
  refine zr_copy X AC_R_23 1 d_R_close_20 (by omega) (by omega) hfc hfc rfl (by omega) (by omega) (by omega) (by omega) (fun i _ => hg _) (by decide) (Nat.le_of_ble_eq_true rfl) ?_
  refine zr_aload_n X d_R_close_23 rfl ?_
  refine zr_dup X d_R_close_24 rfl ?_
  refine zr_get X F_R_15 d_R_close_25 (by omega) (up_ne (by omega) hf) (v := .int (nI sz)) rfl ?_
  refine zr_iload_n X d_R_close_28 rfl ?_
  refine zr_isub (z := nI (sz - c)) X d_R_close_29 (pk_sub (by omega)) ?_
  refine zr_put (fs' := [.ref (q jc), .int (nI (sz - c))]) X F_R_15 d_R_close_30 (by omega) (up_ne (by omega) hf) rfl rfl (Nat.le_of_ble_eq_true rfl) rfl ?_
  refine zr_return Y d_R_close_33 (Nat.le_of_ble_eq_true rfl) (Nat.le_of_ble_eq_true rfl) ?_
  exact ⟨rfl, rfl, rfl, rfl⟩

set_option maxRecDepth 100000 in
set_option maxHeartbeats 4000000 in
theorem c_R_newlinesBefore {l : Launch} {D : va_G} {cI cC cZ cV : ClassId} {N : Nat} {q : Nat → Nat} {f : zF} {j jc sz p cap : Nat} {g : Nat → Int32} (hj : j < N) (hf : f j = .inr (iR, [.ref (q jc), .int (nI sz)])) (hjc : jc < N) (hfc : f jc = .inl (cC, cap, .inl g)) (hcap : cap < 2 ^ 20) (hp : p ≤ cap) : zC l y_R_newlinesBefore b_R_newlinesBefore 4 (some .int) (rmD 0 0 0) D (zty cI cC cZ cV) [.ref (q j), .int (nI p)] N q f (pRd N q f (nI (znl g p))) := by
  refine zC.of (by decide) (by simp [Value.category]) (Nat.le_of_ble_eq_true rfl) (fun G X Y => ?_)
  show G 0 0 0 [some (.ref (q j)), some (.int (nI p)), none, none] [] N q f
  have loop : ∀ (d i : Nat), i + d = p → G 0 0 4 [some (.ref (q j)), some (.int (nI p)), some (.int (nI (znl g i))), some (.int (nI i))] [] N q f := by
    intro d
    induction d with
    | zero =>
      intro i hi
      show G 0 0 4 [some (.ref (q j)), some (.int (nI p)), some (.int (nI (znl g i))), some (.int (nI i))] [] N q f
      refine zr_iload_n X d_R_newlinesBefore_4 rfl ?_
      refine zr_iload_n X d_R_newlinesBefore_5 rfl ?_
      refine zr_icmp_get (tgt := 29) X d_R_newlinesBefore_6 rfl (nI_le (by omega) (by omega)) ?_
      refine zr_iload_n X d_R_newlinesBefore_29 rfl ?_
      refine zr_ireturn Y d_R_newlinesBefore_30 rfl (Nat.le_of_ble_eq_true rfl) (Nat.le_of_ble_eq_true rfl) ?_
      exact ⟨by rw [show i = p by omega], rfl, rfl, rfl⟩
    | succ d ih =>
      intro i hi
      show G 0 0 4 [some (.ref (q j)), some (.int (nI p)), some (.int (nI (znl g i))), some (.int (nI i))] [] N q f
      refine zr_iload_n X d_R_newlinesBefore_4 rfl ?_
      refine zr_iload_n X d_R_newlinesBefore_5 rfl ?_
      refine zr_icmp_gef (tgt := 29) X d_R_newlinesBefore_6 rfl (nI_ge (by omega) (by omega)) ?_
      refine zr_aload_n X d_R_newlinesBefore_9 rfl ?_
      refine zr_get X F_R_9 d_R_newlinesBefore_10 (by omega) hf (v := .ref (q jc)) rfl ?_
      refine zr_iload_n X d_R_newlinesBefore_13 rfl ?_
      refine zr_caload (v := g i) X 1 d_R_newlinesBefore_14 (by omega) hfc rfl (by omega) (by omega) rfl ?_
      refine zr_bipush (v := 10) X d_R_newlinesBefore_15 (by decide) ?_
      refine zr_icmp_ne (tgt := 23) X d_R_newlinesBefore_17 rfl (fun h17 => ?_) (fun h17 => ?_)
      · skip
        refine zr_iinc (v := nI (i + 1)) (lv' := [some (.ref (q j)), some (.int (nI p)), some (.int (nI (znl g i))), some (.int (nI (i + 1)))]) X d_R_newlinesBefore_23 rfl (nI_1 _) (by decide) rfl ?_
        refine zr_goto (tgt := 4) X d_R_newlinesBefore_26 rfl ?_
        have h9 := ih (i + 1) (by omega)
        rw [znl_no h17] at h9
        exact h9
      · skip
        refine zr_iinc (v := nI (znl g i + 1)) (lv' := [some (.ref (q j)), some (.int (nI p)), some (.int (nI (znl g i + 1))), some (.int (nI i))]) X d_R_newlinesBefore_20 rfl (nI_1 _) (by decide) rfl ?_
        refine zr_iinc (v := nI (i + 1)) (lv' := [some (.ref (q j)), some (.int (nI p)), some (.int (nI (znl g i + 1))), some (.int (nI (i + 1)))]) X d_R_newlinesBefore_23 rfl (nI_1 _) (by decide) rfl ?_
        refine zr_goto (tgt := 4) X d_R_newlinesBefore_26 rfl ?_
        have h9 := ih (i + 1) (by omega)
        rw [znl_nl h17] at h9
        exact h9
  refine zr_iconst (v := nI 0) X d_R_newlinesBefore_0 (by decide) ?_
  refine zr_istore_n (lv' := [some (.ref (q j)), some (.int (nI p)), some (.int (nI 0)), none]) X d_R_newlinesBefore_1 (by decide) rfl ?_
  refine zr_iconst (v := nI 0) X d_R_newlinesBefore_2 (by decide) ?_
  refine zr_istore_n (lv' := [some (.ref (q j)), some (.int (nI p)), some (.int (nI 0)), some (.int (nI 0))]) X d_R_newlinesBefore_3 (by decide) rfl ?_
  exact loop p 0 (by omega)

/-- where line k starts: r is the least position with k newlines before it, or -1 -/
def zLS (g : Nat → Int32) (sz k : Nat) (r : Int32) : Prop := (∃ p, p ≤ sz ∧ r = nI p ∧ znl g p = k ∧ ∀ p', p' < p → znl g p' ≠ k) ∨ (r = -1 ∧ ∀ p, p ≤ sz → znl g p ≠ k)

set_option maxRecDepth 100000 in
set_option maxHeartbeats 4000000 in
theorem c_R_behindNewline {l : Launch} {D : va_G} {cI cC cZ cV : ClassId} {N : Nat} {q : Nat → Nat} {f : zF} {j jc sz k cap : Nat} {g : Nat → Int32} (hj : j < N) (hf : f j = .inr (iR, [.ref (q jc), .int (nI sz)])) (hjc : jc < N) (hfc : f jc = .inl (cC, cap, .inl g)) (hcap : cap < 2 ^ 20) (hs : sz ≤ cap) (hk : 0 < k) (hk2 : k < 2 ^ 31) : zC l y_R_behindNewline b_R_behindNewline 4 (some .int) (rmD 0 0 0) D (zty cI cC cZ cV) [.ref (q j), .int (nI k)] N q f (pI N q (fun r f' => f' = f ∧ zLS g sz k r)) := by
  refine zC.of (by decide) (by simp [Value.category]) (Nat.le_of_ble_eq_true rfl) (fun G X Y => ?_)
  show G 0 0 0 [some (.ref (q j)), some (.int (nI k)), none, none] [] N q f
  have loop : ∀ (d i : Nat), i + d = sz → znl g i < k → G 0 0 4 [some (.ref (q j)), some (.int (nI k)), some (.int (nI (znl g i))), some (.int (nI i))] [] N q f := by
    intro d
    induction d with
    | zero =>
      intro i hi hk
      show G 0 0 4 [some (.ref (q j)), some (.int (nI k)), some (.int (nI (znl g i))), some (.int (nI i))] [] N q f
      refine zr_iload_n X d_R_behindNewline_4 rfl ?_
      refine zr_aload_n X d_R_behindNewline_5 rfl ?_
      refine zr_get X F_R_15 d_R_behindNewline_6 (by omega) hf (v := .int (nI sz)) rfl ?_
      refine zr_icmp_get (tgt := 41) X d_R_behindNewline_9 rfl (nI_le (by omega) (by omega)) ?_
      refine zr_iconst (v := (-1)) X d_R_behindNewline_41 (by decide) ?_
      refine zr_ireturn Y d_R_behindNewline_42 rfl (Nat.le_of_ble_eq_true rfl) (Nat.le_of_ble_eq_true rfl) ?_
      refine ⟨_, rfl, rfl, rfl, rfl, Or.inr ⟨rfl, fun p9 hp9 => ?_⟩⟩
      have h9 := znl_mono g (show p9 ≤ i by omega)
      omega
    | succ d ih =>
      intro i hi hk
      show G 0 0 4 [some (.ref (q j)), some (.int (nI k)), some (.int (nI (znl g i))), some (.int (nI i))] [] N q f
      have hzi := znl_le g i
      refine zr_iload_n X d_R_behindNewline_4 rfl ?_
      refine zr_aload_n X d_R_behindNewline_5 rfl ?_
      refine zr_get X F_R_15 d_R_behindNewline_6 (by omega) hf (v := .int (nI sz)) rfl ?_
      refine zr_icmp_gef (tgt := 41) X d_R_behindNewline_9 rfl (nI_ge (by omega) (by omega)) ?_
      refine zr_aload_n X d_R_behindNewline_12 rfl ?_
      refine zr_get X F_R_9 d_R_behindNewline_13 (by omega) hf (v := .ref (q jc)) rfl ?_
      refine zr_iload_n X d_R_behindNewline_16 rfl ?_
      refine zr_caload (v := g i) X 1 d_R_behindNewline_17 (by omega) hfc rfl (by omega) (by omega) rfl ?_
      refine zr_bipush (v := 10) X d_R_behindNewline_18 (by decide) ?_
      refine zr_icmp_ne (tgt := 35) X d_R_behindNewline_20 rfl (fun h20 => ?_) (fun h20 => ?_)
      · skip
        refine zr_iinc (v := nI (i + 1)) (lv' := [some (.ref (q j)), some (.int (nI k)), some (.int (nI (znl g i))), some (.int (nI (i + 1)))]) X d_R_behindNewline_35 rfl (nI_1 _) (by decide) rfl ?_
        refine zr_goto (tgt := 4) X d_R_behindNewline_38 rfl ?_
        have h9 := ih (i + 1) (by omega) (by rw [znl_no h20]; exact hk)
        rw [znl_no h20] at h9
        exact h9
      · skip
        refine zr_iinc (v := nI (znl g i + 1)) (lv' := [some (.ref (q j)), some (.int (nI k)), some (.int (nI (znl g i + 1))), some (.int (nI i))]) X d_R_behindNewline_23 rfl (nI_1 _) (by decide) rfl ?_
        refine zr_iload_n X d_R_behindNewline_26 rfl ?_
        refine zr_iload_n X d_R_behindNewline_27 rfl ?_
        refine zr_icmp_ne (tgt := 35) X d_R_behindNewline_28 rfl (fun h28 => ?_) (fun h28 => ?_)
        · skip
          refine zr_iinc (v := nI (i + 1)) (lv' := [some (.ref (q j)), some (.int (nI k)), some (.int (nI (znl g i + 1))), some (.int (nI (i + 1)))]) X d_R_behindNewline_35 rfl (nI_1 _) (by decide) rfl ?_
          refine zr_goto (tgt := 4) X d_R_behindNewline_38 rfl ?_
          have h9 := ih (i + 1) (by omega) (by rw [znl_nl h20]; exact Nat.lt_of_le_of_ne hk (fun h8 => h28 (by rw [h8])))
          rw [znl_nl h20] at h9
          exact h9
        · skip
          refine zr_iload_n X d_R_behindNewline_31 rfl ?_
          refine zr_iconst (v := nI 1) X d_R_behindNewline_32 (by decide) ?_
          refine zr_iadd (z := nI (i + 1)) X d_R_behindNewline_33 (nI_add _ _) ?_
          refine zr_ireturn Y d_R_behindNewline_34 rfl (Nat.le_of_ble_eq_true rfl) (Nat.le_of_ble_eq_true rfl) ?_
          have h8 : znl g i + 1 = k := (nI_eq (by omega) (by omega)).mp h28
          refine ⟨_, rfl, rfl, rfl, rfl, Or.inl ⟨i + 1, by omega, rfl, by rw [znl_nl h20]; exact h8, fun p9 hp9 => ?_⟩⟩
          have h9 := znl_mono g (show p9 ≤ i by omega)
          omega
  refine zr_iconst (v := nI 0) X d_R_behindNewline_0 (by decide) ?_
  refine zr_istore_n (lv' := [some (.ref (q j)), some (.int (nI k)), some (.int (nI 0)), none]) X d_R_behindNewline_1 (by decide) rfl ?_
  refine zr_iconst (v := nI 0) X d_R_behindNewline_2 (by decide) ?_
  refine zr_istore_n (lv' := [some (.ref (q j)), some (.int (nI k)), some (.int (nI 0)), some (.int (nI 0))]) X d_R_behindNewline_3 (by decide) rfl ?_
  exact loop sz 0 (by omega) hk

set_option maxRecDepth 100000 in
set_option maxHeartbeats 4000000 in
theorem c_R_readsAt {l : Launch} {D : va_G} {cI cC cZ cV : ClassId} {N : Nat} {q : Nat → Nat} {f : zF} {j jc sz j2 jc2 k p cap cap2 : Nat} {g g2 : Nat → Int32} (hj : j < N) (hf : f j = .inr (iR, [.ref (q jc), .int (nI sz)])) (hjc : jc < N) (hfc : f jc = .inl (cC, cap, .inl g)) (hj2 : j2 < N) (hf2 : f j2 = .inr (iR, [.ref (q jc2), .int (nI k)])) (hjc2 : jc2 < N) (hfc2 : f jc2 = .inl (cC, cap2, .inl g2)) (hcap : cap < 2 ^ 20) (hcap2 : cap2 < 2 ^ 20) (hp : p + k ≤ cap) (hk : k ≤ cap2) : zC l y_R_readsAt b_R_readsAt 4 (some .boolean) (rmD 0 0 0) D (zty cI cC cZ cV) [.ref (q j), .int (nI p), .ref (q j2)] N q f (pI N q (fun r f' => f' = f ∧ ((r = nI 1 ∧ ∀ a, a < k → g (p + a) = g2 a) ∨ (r = nI 0 ∧ ∃ a, a < k ∧ ¬ g (p + a) = g2 a)))) := by
  refine zC.of (by decide) (by simp [Value.category]) (Nat.le_of_ble_eq_true rfl) (fun G X Y => ?_)
  show G 0 0 0 [some (.ref (q j)), some (.int (nI p)), some (.ref (q j2)), none] [] N q f
  have loop : ∀ (d i : Nat), i + d = k → (∀ a, a < i → g (p + a) = g2 a) → G 0 0 2 [some (.ref (q j)), some (.int (nI p)), some (.ref (q j2)), some (.int (nI i))] [] N q f := by
    intro d
    induction d with
    | zero =>
      intro i hi hk
      show G 0 0 2 [some (.ref (q j)), some (.int (nI p)), some (.ref (q j2)), some (.int (nI i))] [] N q f
      refine zr_iload_n X d_R_readsAt_2 rfl ?_
      refine zr_aload_n X d_R_readsAt_3 rfl ?_
      refine zr_get X F_R_15 d_R_readsAt_4 (by omega) hf2 (v := .int (nI k)) rfl ?_
      refine zr_icmp_get (tgt := 35) X d_R_readsAt_7 rfl (nI_le (by omega) (by omega)) ?_
      refine zr_iconst (v := nI 1) X d_R_readsAt_35 (by decide) ?_
      refine zr_ireturn Y d_R_readsAt_36 rfl (Nat.le_of_ble_eq_true rfl) (Nat.le_of_ble_eq_true rfl) ?_
      exact ⟨_, rfl, rfl, rfl, rfl, Or.inl ⟨rfl, fun a ha => hk a (by omega)⟩⟩
    | succ d ih =>
      intro i hi hk
      show G 0 0 2 [some (.ref (q j)), some (.int (nI p)), some (.ref (q j2)), some (.int (nI i))] [] N q f
      refine zr_iload_n X d_R_readsAt_2 rfl ?_
      refine zr_aload_n X d_R_readsAt_3 rfl ?_
      refine zr_get X F_R_15 d_R_readsAt_4 (by omega) hf2 (v := .int (nI k)) rfl ?_
      refine zr_icmp_gef (tgt := 35) X d_R_readsAt_7 rfl (nI_ge (by omega) (by omega)) ?_
      refine zr_aload_n X d_R_readsAt_10 rfl ?_
      refine zr_get X F_R_9 d_R_readsAt_11 (by omega) hf (v := .ref (q jc)) rfl ?_
      refine zr_iload_n X d_R_readsAt_14 rfl ?_
      refine zr_iload_n X d_R_readsAt_15 rfl ?_
      refine zr_iadd (z := nI (p + i)) X d_R_readsAt_16 (nI_add _ _) ?_
      refine zr_caload (v := g (p + i)) X 1 d_R_readsAt_17 (by omega) hfc rfl (by omega) (by omega) rfl ?_
      refine zr_aload_n X d_R_readsAt_18 rfl ?_
      refine zr_get X F_R_9 d_R_readsAt_19 (by omega) hf2 (v := .ref (q jc2)) rfl ?_
      refine zr_iload_n X d_R_readsAt_22 rfl ?_
      refine zr_caload (v := g2 i) X 1 d_R_readsAt_23 (by omega) hfc2 rfl (by omega) (by omega) rfl ?_
      refine zr_icmp_eq (tgt := 29) X d_R_readsAt_24 rfl (fun h24 => ?_) (fun h24 => ?_)
      · skip
        refine zr_iinc (v := nI (i + 1)) (lv' := [some (.ref (q j)), some (.int (nI p)), some (.ref (q j2)), some (.int (nI (i + 1)))]) X d_R_readsAt_29 rfl (nI_1 _) (by decide) rfl ?_
        refine zr_goto (tgt := 2) X d_R_readsAt_32 rfl ?_
        exact ih (i + 1) (by omega) (lt_s hk h24)
      · skip
        refine zr_iconst (v := nI 0) X d_R_readsAt_27 (by decide) ?_
        refine zr_ireturn Y d_R_readsAt_28 rfl (Nat.le_of_ble_eq_true rfl) (Nat.le_of_ble_eq_true rfl) ?_
        exact ⟨_, rfl, rfl, rfl, rfl, Or.inr ⟨rfl, i, by omega, h24⟩⟩
  refine zr_iconst (v := nI 0) X d_R_readsAt_0 (by decide) ?_
  refine zr_istore_n (lv' := [some (.ref (q j)), some (.int (nI p)), some (.ref (q j2)), some (.int (nI 0))]) X d_R_readsAt_1 (by decide) rfl ?_
  exact loop k 0 (by omega) (fun a ha => absurd ha (Nat.not_lt_zero a))
end
section
/-- the first i of a, the rest of b -/
def zst (i : Nat) (a b : Nat → Int32) : Nat → Int32 := fun m => if m < i then a m else b m
theorem zst_0 {a b : Nat → Int32} : zst 0 a b = b := by
  funext m
  simp [zst]
theorem zst_at {i : Nat} {a b : Nat → Int32} : zst i a b i = b i := by simp [zst]
theorem zst_up {i : Nat} {a b : Nat → Int32} {v : Int32} (h : a i = v) : upd (zst i a b) i v = zst (i + 1) a b := by
  funext m
  unfold upd zst
  by_cases h1 : m = i
  · subst h1
    rw [if_pos rfl, if_pos (Nat.lt_succ_self _), h]
  · rw [if_neg h1]
    by_cases h2 : m < i
    · rw [if_pos h2, if_pos (by omega)]
    · rw [if_neg h2, if_neg (by omega)]
theorem zst_no {i : Nat} {a b : Nat → Int32} (h : a i = b i) : zst (i + 1) a b = zst i a b := by
  funext m
  unfold zst
  by_cases h1 : m = i
  · subst h1
    rw [if_pos (Nat.lt_succ_self _), if_neg (Nat.lt_irrefl _), h]
  · by_cases h2 : m < i
    · rw [if_pos h2, if_pos (by omega)]
    · rw [if_neg h2, if_neg (by omega)]
theorem up_self {α : Type} {f : Nat → α} {k : Nat} {e : α} (h : f k = e) : va_up f k e = f := by
  funext j
  unfold va_up
  split
  · next h1 => rw [h1, h]
  · rfl
/-- a mark at x when C characters come in at P, when C go from P on -/
def zcm (P C x r : Int32) : Int32 := if P < x ∨ (x = P ∧ ¬ r = 0) then x + C else x
def zgm (P C x : Int32) : Int32 := if ¬ x < P + C then x - C else if ¬ x ≤ P then P else x

set_option maxRecDepth 100000 in
set_option maxHeartbeats 4000000 in
theorem c_M_coming {l : Launch} {D : va_G} {cI cC cZ cV : ClassId} {N : Nat} {q : Nat → Nat} {f : zF} {j jp jr : Nat} {mp mr : Nat → Int32} {P C : Int32} (hj : j < N) (hf : f j = .inr (iM, [.ref (q jp), .ref (q jr)])) (hjp : jp < N) (hfp : f jp = .inl (cI, 6, .inl mp)) (hjr : jr < N) (hfr : f jr = .inl (cZ, 6, .inl mr)) (n1 : j ≠ jp) (n2 : jr ≠ jp) : zC l y_M_moveForComing b_M_moveForComing 4 none (rmD 0 0 0) D (zty cI cC cZ cV) [.ref (q j), .int P, .int C] N q f (pW N q (va_up f jp (.inl (cI, 6, .inl (zst 6 (fun m => zcm P C (mp m) (mr m)) mp))))) := by
  refine zC.of (by decide) (by simp [Value.category]) (Nat.le_of_ble_eq_true rfl) (fun G X Y => ?_)
  show G 0 0 0 [some (.ref (q j)), some (.int P), some (.int C), none] [] N q f
  have loop : ∀ (d i : Nat), i + d = 6 → G 0 0 2 [some (.ref (q j)), some (.int P), some (.int C), some (.int (nI i))] [] N q (va_up f jp (.inl (cI, 6, .inl (zst i (fun m => zcm P C (mp m) (mr m)) mp)))) := by
    intro d
    induction d with
    | zero =>
      intro i hi
      show G 0 0 2 [some (.ref (q j)), some (.int P), some (.int C), some (.int (nI i))] [] N q (va_up f jp (.inl (cI, 6, .inl (zst i (fun m => zcm P C (mp m) (mr m)) mp))))
      refine zr_iload_n X d_M_moveForComing_2 rfl ?_
      refine zr_bipush (v := nI 6) X d_M_moveForComing_3 (by decide) ?_
      refine zr_icmp_get (tgt := 53) X d_M_moveForComing_5 rfl (nI_le (by omega) (by omega)) ?_
      refine zr_return Y d_M_moveForComing_53 (Nat.le_of_ble_eq_true rfl) (Nat.le_of_ble_eq_true rfl) ?_
      exact ⟨rfl, rfl, rfl, by rw [show i = 6 by omega]⟩
    | succ d ih =>
      intro i hi
      show G 0 0 2 [some (.ref (q j)), some (.int P), some (.int C), some (.int (nI i))] [] N q (va_up f jp (.inl (cI, 6, .inl (zst i (fun m => zcm P C (mp m) (mr m)) mp))))
      refine zr_iload_n X d_M_moveForComing_2 rfl ?_
      refine zr_bipush (v := nI 6) X d_M_moveForComing_3 (by decide) ?_
      refine zr_icmp_gef (tgt := 53) X d_M_moveForComing_5 rfl (nI_ge (by omega) (by decide)) ?_
      refine zr_aload_n X d_M_moveForComing_8 rfl ?_
      refine zr_get X F_M_9 d_M_moveForComing_9 (by omega) (up_ne n1 hf) (v := .ref (q jp)) rfl ?_
      refine zr_iload_n X d_M_moveForComing_12 rfl ?_
      refine zr_iaload (v := mp i) X 0 d_M_moveForComing_13 (by omega) up_eq rfl (by omega) (by decide) zst_at ?_
      refine zr_iload_n X d_M_moveForComing_14 rfl ?_
      refine zr_icmp_gt (tgt := 37) X d_M_moveForComing_15 rfl (fun h15 => ?_) (fun h15 => ?_)
      · skip
        refine zr_aload_n X d_M_moveForComing_37 rfl ?_
        refine zr_get X F_M_9 d_M_moveForComing_38 (by omega) (up_ne n1 hf) (v := .ref (q jp)) rfl ?_
        refine zr_iload_n X d_M_moveForComing_41 rfl ?_
        refine zr_dup2 X d_M_moveForComing_42 rfl rfl ?_
        refine zr_iaload (v := mp i) X 0 d_M_moveForComing_43 (by omega) up_eq rfl (by omega) (by decide) zst_at ?_
        refine zr_iload_n X d_M_moveForComing_44 rfl ?_
        refine zr_iadd (z := (mp i) + C) X d_M_moveForComing_45 rfl ?_
        refine zr_iastore X 0 d_M_moveForComing_46 (by omega) up_eq rfl (by omega) (by decide) ?_
        refine zr_iinc (v := nI (i + 1)) (lv' := [some (.ref (q j)), some (.int P), some (.int C), some (.int (nI (i + 1)))]) X d_M_moveForComing_47 rfl (nI_1 _) (by decide) rfl ?_
        refine zr_goto (tgt := 2) X d_M_moveForComing_50 rfl ?_
        have h9 := ih (i + 1) (by omega)
        rw [← zst_up (v := mp i + C) (if_pos (Or.inl h15))] at h9
        rw [bx_uu]
        exact h9
      · skip
        refine zr_aload_n X d_M_moveForComing_18 rfl ?_
        refine zr_get X F_M_9 d_M_moveForComing_19 (by omega) (up_ne n1 hf) (v := .ref (q jp)) rfl ?_
        refine zr_iload_n X d_M_moveForComing_22 rfl ?_
        refine zr_iaload (v := mp i) X 0 d_M_moveForComing_23 (by omega) up_eq rfl (by omega) (by decide) zst_at ?_
        refine zr_iload_n X d_M_moveForComing_24 rfl ?_
        refine zr_icmp_ne (tgt := 47) X d_M_moveForComing_25 rfl (fun h25 => ?_) (fun h25 => ?_)
        · skip
          refine zr_iinc (v := nI (i + 1)) (lv' := [some (.ref (q j)), some (.int P), some (.int C), some (.int (nI (i + 1)))]) X d_M_moveForComing_47 rfl (nI_1 _) (by decide) rfl ?_
          refine zr_goto (tgt := 2) X d_M_moveForComing_50 rfl ?_
          have h9 := ih (i + 1) (by omega)
          rw [zst_no (if_neg (fun h9 => h9.elim h15 (fun h8 => h25 h8.1)))] at h9
          exact h9
        · skip
          refine zr_aload_n X d_M_moveForComing_28 rfl ?_
          refine zr_get X F_M_15 d_M_moveForComing_29 (by omega) (up_ne n1 hf) (v := .ref (q jr)) rfl ?_
          refine zr_iload_n X d_M_moveForComing_32 rfl ?_
          refine zr_baload (v := mr i) X 2 d_M_moveForComing_33 (by omega) (up_ne n2 hfr) rfl (by omega) (by decide) rfl ?_
          refine zr_if_eq (tgt := 47) X d_M_moveForComing_34 rfl (fun h34 => ?_) (fun h34 => ?_)
          · skip
            refine zr_iinc (v := nI (i + 1)) (lv' := [some (.ref (q j)), some (.int P), some (.int C), some (.int (nI (i + 1)))]) X d_M_moveForComing_47 rfl (nI_1 _) (by decide) rfl ?_
            refine zr_goto (tgt := 2) X d_M_moveForComing_50 rfl ?_
            have h9 := ih (i + 1) (by omega)
            rw [zst_no (if_neg (fun h9 => h9.elim h15 (fun h8 => h8.2 h34)))] at h9
            exact h9
          · skip
            refine zr_aload_n X d_M_moveForComing_37 rfl ?_
            refine zr_get X F_M_9 d_M_moveForComing_38 (by omega) (up_ne n1 hf) (v := .ref (q jp)) rfl ?_
            refine zr_iload_n X d_M_moveForComing_41 rfl ?_
            refine zr_dup2 X d_M_moveForComing_42 rfl rfl ?_
            refine zr_iaload (v := mp i) X 0 d_M_moveForComing_43 (by omega) up_eq rfl (by omega) (by decide) zst_at ?_
            refine zr_iload_n X d_M_moveForComing_44 rfl ?_
            refine zr_iadd (z := (mp i) + C) X d_M_moveForComing_45 rfl ?_
            refine zr_iastore X 0 d_M_moveForComing_46 (by omega) up_eq rfl (by omega) (by decide) ?_
            refine zr_iinc (v := nI (i + 1)) (lv' := [some (.ref (q j)), some (.int P), some (.int C), some (.int (nI (i + 1)))]) X d_M_moveForComing_47 rfl (nI_1 _) (by decide) rfl ?_
            refine zr_goto (tgt := 2) X d_M_moveForComing_50 rfl ?_
            have h9 := ih (i + 1) (by omega)
            rw [← zst_up (v := mp i + C) (if_pos (Or.inr ⟨h25, h34⟩))] at h9
            rw [bx_uu]
            exact h9
  refine zr_iconst (v := nI 0) X d_M_moveForComing_0 (by decide) ?_
  refine zr_istore_n (lv' := [some (.ref (q j)), some (.int P), some (.int C), some (.int (nI 0))]) X d_M_moveForComing_1 (by decide) rfl ?_
  have h0 := loop 6 0 (by omega)
  rw [zst_0, up_self hfp] at h0
  exact h0

set_option maxRecDepth 100000 in
set_option maxHeartbeats 4000000 in
theorem c_M_going {l : Launch} {D : va_G} {cI cC cZ cV : ClassId} {N : Nat} {q : Nat → Nat} {f : zF} {j jp jr : Nat} {mp mr : Nat → Int32} {P C : Int32} (hj : j < N) (hf : f j = .inr (iM, [.ref (q jp), .ref (q jr)])) (hjp : jp < N) (hfp : f jp = .inl (cI, 6, .inl mp)) (hjr : jr < N) (hfr : f jr = .inl (cZ, 6, .inl mr)) (n1 : j ≠ jp) (n2 : jr ≠ jp) : zC l y_M_moveForGoing b_M_moveForGoing 4 none (rmD 0 0 0) D (zty cI cC cZ cV) [.ref (q j), .int P, .int C] N q f (pW N q (va_up f jp (.inl (cI, 6, .inl (zst 6 (fun m => zgm P C (mp m)) mp))))) := by
  refine zC.of (by decide) (by simp [Value.category]) (Nat.le_of_ble_eq_true rfl) (fun G X Y => ?_)
  show G 0 0 0 [some (.ref (q j)), some (.int P), some (.int C), none] [] N q f
  have loop : ∀ (d i : Nat), i + d = 6 → G 0 0 2 [some (.ref (q j)), some (.int P), some (.int C), some (.int (nI i))] [] N q (va_up f jp (.inl (cI, 6, .inl (zst i (fun m => zgm P C (mp m)) mp)))) := by
    intro d
    induction d with
    | zero =>
      intro i hi
      show G 0 0 2 [some (.ref (q j)), some (.int P), some (.int C), some (.int (nI i))] [] N q (va_up f jp (.inl (cI, 6, .inl (zst i (fun m => zgm P C (mp m)) mp))))
      refine zr_iload_n X d_M_moveForGoing_2 rfl ?_
      refine zr_bipush (v := nI 6) X d_M_moveForGoing_3 (by decide) ?_
      refine zr_icmp_get (tgt := 56) X d_M_moveForGoing_5 rfl (nI_le (by omega) (by omega)) ?_
      refine zr_return Y d_M_moveForGoing_56 (Nat.le_of_ble_eq_true rfl) (Nat.le_of_ble_eq_true rfl) ?_
      exact ⟨rfl, rfl, rfl, by rw [show i = 6 by omega]⟩
    | succ d ih =>
      intro i hi
      show G 0 0 2 [some (.ref (q j)), some (.int P), some (.int C), some (.int (nI i))] [] N q (va_up f jp (.inl (cI, 6, .inl (zst i (fun m => zgm P C (mp m)) mp))))
      refine zr_iload_n X d_M_moveForGoing_2 rfl ?_
      refine zr_bipush (v := nI 6) X d_M_moveForGoing_3 (by decide) ?_
      refine zr_icmp_gef (tgt := 56) X d_M_moveForGoing_5 rfl (nI_ge (by omega) (by decide)) ?_
      refine zr_aload_n X d_M_moveForGoing_8 rfl ?_
      refine zr_get X F_M_9 d_M_moveForGoing_9 (by omega) (up_ne n1 hf) (v := .ref (q jp)) rfl ?_
      refine zr_iload_n X d_M_moveForGoing_12 rfl ?_
      refine zr_iaload (v := mp i) X 0 d_M_moveForGoing_13 (by omega) up_eq rfl (by omega) (by decide) zst_at ?_
      refine zr_iload_n X d_M_moveForGoing_14 rfl ?_
      refine zr_iload_n X d_M_moveForGoing_15 rfl ?_
      refine zr_iadd (z := P + C) X d_M_moveForGoing_16 rfl ?_
      refine zr_icmp_lt (tgt := 33) X d_M_moveForGoing_17 rfl (fun h17 => ?_) (fun h17 => ?_)
      · skip
        refine zr_aload_n X d_M_moveForGoing_33 rfl ?_
        refine zr_get X F_M_9 d_M_moveForGoing_34 (by omega) (up_ne n1 hf) (v := .ref (q jp)) rfl ?_
        refine zr_iload_n X d_M_moveForGoing_37 rfl ?_
        refine zr_iaload (v := mp i) X 0 d_M_moveForGoing_38 (by omega) up_eq rfl (by omega) (by decide) zst_at ?_
        refine zr_iload_n X d_M_moveForGoing_39 rfl ?_
        refine zr_icmp_le (tgt := 50) X d_M_moveForGoing_40 rfl (fun h40 => ?_) (fun h40 => ?_)
        · skip
          refine zr_iinc (v := nI (i + 1)) (lv' := [some (.ref (q j)), some (.int P), some (.int C), some (.int (nI (i + 1)))]) X d_M_moveForGoing_50 rfl (nI_1 _) (by decide) rfl ?_
          refine zr_goto (tgt := 2) X d_M_moveForGoing_53 rfl ?_
          have h9 := ih (i + 1) (by omega)
          rw [zst_no ((if_neg (fun h9 => h9 h17)).trans (if_neg (fun h9 => h9 h40)))] at h9
          exact h9
        · skip
          refine zr_aload_n X d_M_moveForGoing_43 rfl ?_
          refine zr_get X F_M_9 d_M_moveForGoing_44 (by omega) (up_ne n1 hf) (v := .ref (q jp)) rfl ?_
          refine zr_iload_n X d_M_moveForGoing_47 rfl ?_
          refine zr_iload_n X d_M_moveForGoing_48 rfl ?_
          refine zr_iastore X 0 d_M_moveForGoing_49 (by omega) up_eq rfl (by omega) (by decide) ?_
          refine zr_iinc (v := nI (i + 1)) (lv' := [some (.ref (q j)), some (.int P), some (.int C), some (.int (nI (i + 1)))]) X d_M_moveForGoing_50 rfl (nI_1 _) (by decide) rfl ?_
          refine zr_goto (tgt := 2) X d_M_moveForGoing_53 rfl ?_
          have h9 := ih (i + 1) (by omega)
          rw [← zst_up (v := P) ((if_neg (fun h9 => h9 h17)).trans (if_pos h40))] at h9
          rw [bx_uu]
          exact h9
      · skip
        refine zr_aload_n X d_M_moveForGoing_20 rfl ?_
        refine zr_get X F_M_9 d_M_moveForGoing_21 (by omega) (up_ne n1 hf) (v := .ref (q jp)) rfl ?_
        refine zr_iload_n X d_M_moveForGoing_24 rfl ?_
        refine zr_dup2 X d_M_moveForGoing_25 rfl rfl ?_
        refine zr_iaload (v := mp i) X 0 d_M_moveForGoing_26 (by omega) up_eq rfl (by omega) (by decide) zst_at ?_
        refine zr_iload_n X d_M_moveForGoing_27 rfl ?_
        refine zr_isub (z := (mp i) - C) X d_M_moveForGoing_28 rfl ?_
        refine zr_iastore X 0 d_M_moveForGoing_29 (by omega) up_eq rfl (by omega) (by decide) ?_
        refine zr_goto (tgt := 50) X d_M_moveForGoing_30 rfl ?_
        refine zr_iinc (v := nI (i + 1)) (lv' := [some (.ref (q j)), some (.int P), some (.int C), some (.int (nI (i + 1)))]) X d_M_moveForGoing_50 rfl (nI_1 _) (by decide) rfl ?_
        refine zr_goto (tgt := 2) X d_M_moveForGoing_53 rfl ?_
        have h9 := ih (i + 1) (by omega)
        rw [← zst_up (v := mp i - C) (if_pos h17)] at h9
        rw [bx_uu]
        exact h9
  refine zr_iconst (v := nI 0) X d_M_moveForGoing_0 (by decide) ?_
  refine zr_istore_n (lv' := [some (.ref (q j)), some (.int P), some (.int C), some (.int (nI 0))]) X d_M_moveForGoing_1 (by decide) rfl ?_
  have h0 := loop 6 0 (by omega)
  rw [zst_0, up_self hfp] at h0
  exact h0

/-- of the first m marks the one that the class's loop has found: at x or beyond, least place, least number -/
def zff (mp : Nat → Int32) (x : Int32) : Nat → Option Nat
  | 0 => none
  | m + 1 => match zff mp x m with
    | none => if mp m < x then none else some m
    | some b => if mp m < x then some b else if mp b ≤ mp m then some b else some m
def zfi : Option Nat → Int32
  | none => -1
  | some b => nI b

set_option maxRecDepth 100000 in
set_option maxHeartbeats 4000000 in
theorem c_M_firstFrom {l : Launch} {D : va_G} {cI cC cZ cV : ClassId} {N : Nat} {q : Nat → Nat} {f : zF} {j jp jr : Nat} {mp : Nat → Int32} {x : Int32} (hj : j < N) (hf : f j = .inr (iM, [.ref (q jp), .ref (q jr)])) (hjp : jp < N) (hfp : f jp = .inl (cI, 6, .inl mp)) : zC l y_M_firstFrom b_M_firstFrom 4 (some .int) (rmD 0 0 0) D (zty cI cC cZ cV) [.ref (q j), .int x] N q f (pRd N q f (zfi (zff mp x 6))) := by
  refine zC.of (by decide) (by simp [Value.category]) (Nat.le_of_ble_eq_true rfl) (fun G X Y => ?_)
  show G 0 0 0 [some (.ref (q j)), some (.int x), none, none] [] N q f
  have loop : ∀ (d i : Nat) (o : Option Nat), i + d = 6 → o = zff mp x i → (∀ b, o = some b → b < i) → G 0 0 4 [some (.ref (q j)), some (.int x), some (.int (zfi o)), some (.int (nI i))] [] N q f := by
    intro d
    induction d with
    | zero =>
      intro i o hi ho hb
      show G 0 0 4 [some (.ref (q j)), some (.int x), some (.int (zfi o)), some (.int (nI i))] [] N q f
      refine zr_iload_n X d_M_firstFrom_4 rfl ?_
      refine zr_bipush (v := nI 6) X d_M_firstFrom_5 (by decide) ?_
      refine zr_icmp_get (tgt := 48) X d_M_firstFrom_7 rfl (nI_le (by omega) (by omega)) ?_
      refine zr_iload_n X d_M_firstFrom_48 rfl ?_
      refine zr_ireturn Y d_M_firstFrom_49 rfl (Nat.le_of_ble_eq_true rfl) (Nat.le_of_ble_eq_true rfl) ?_
      exact ⟨by rw [ho, show i = 6 by omega], rfl, rfl, rfl⟩
    | succ d ih =>
      intro i o hi ho hb
      have hz : zff mp x (i + 1) = match zff mp x i with | none => if mp i < x then none else some i | some b => if mp i < x then some b else if mp b ≤ mp i then some b else some i := rfl
      rw [← ho] at hz
      show G 0 0 4 [some (.ref (q j)), some (.int x), some (.int (zfi o)), some (.int (nI i))] [] N q f
      refine zr_iload_n X d_M_firstFrom_4 rfl ?_
      refine zr_bipush (v := nI 6) X d_M_firstFrom_5 (by decide) ?_
      refine zr_icmp_gef (tgt := 48) X d_M_firstFrom_7 rfl (nI_ge (by omega) (by decide)) ?_
      refine zr_aload_n X d_M_firstFrom_10 rfl ?_
      refine zr_get X F_M_9 d_M_firstFrom_11 (by omega) hf (v := .ref (q jp)) rfl ?_
      refine zr_iload_n X d_M_firstFrom_14 rfl ?_
      refine zr_iaload (v := mp i) X 0 d_M_firstFrom_15 (by omega) hfp rfl (by omega) (by decide) rfl ?_
      refine zr_iload_n X d_M_firstFrom_16 rfl ?_
      refine zr_icmp_lt (tgt := 42) X d_M_firstFrom_17 rfl (fun h17 => ?_) (fun h17 => ?_)
      · skip
        refine zr_iinc (v := nI (i + 1)) (lv' := [some (.ref (q j)), some (.int x), some (.int (zfi o)), some (.int (nI (i + 1)))]) X d_M_firstFrom_42 rfl (nI_1 _) (by decide) rfl ?_
        refine zr_goto (tgt := 4) X d_M_firstFrom_45 rfl ?_
        exact ih (i + 1) o (by omega) (by rw [hz]; cases o <;> simp [h17]) (fun b h => Nat.lt_succ_of_lt (hb b h))
      · skip
        cases o with
        | none =>
          show G 0 0 20 [some (.ref (q j)), some (.int x), some (.int (-1)), some (.int (nI i))] [] N q f
          refine zr_iload_n X d_M_firstFrom_20 rfl ?_
          refine zr_iconst (v := (-1)) X d_M_firstFrom_21 (by decide) ?_
          refine zr_icmp_eqt (tgt := 40) X d_M_firstFrom_22 rfl rfl ?_
          refine zr_iload_n X d_M_firstFrom_40 rfl ?_
          refine zr_istore_n (lv' := [some (.ref (q j)), some (.int x), some (.int (nI i)), some (.int (nI i))]) X d_M_firstFrom_41 (by decide) rfl ?_
          refine zr_iinc (v := nI (i + 1)) (lv' := [some (.ref (q j)), some (.int x), some (.int (nI i)), some (.int (nI (i + 1)))]) X d_M_firstFrom_42 rfl (nI_1 _) (by decide) rfl ?_
          refine zr_goto (tgt := 4) X d_M_firstFrom_45 rfl ?_
          exact ih (i + 1) (some i) (by omega) (by rw [hz]; simp [h17]) (fun b h => by cases h; omega)
        | some b =>
          have hb6 : b < i := hb b rfl
          show G 0 0 20 [some (.ref (q j)), some (.int x), some (.int (nI b)), some (.int (nI i))] [] N q f
          refine zr_iload_n X d_M_firstFrom_20 rfl ?_
          refine zr_iconst (v := (-1)) X d_M_firstFrom_21 (by decide) ?_
          refine zr_icmp_eqf (tgt := 40) X d_M_firstFrom_22 rfl (fun h9 => absurd (h9 ▸ nI_pos' (n := b) (by omega)) (by decide)) ?_
          refine zr_aload_n X d_M_firstFrom_25 rfl ?_
          refine zr_get X F_M_9 d_M_firstFrom_26 (by omega) hf (v := .ref (q jp)) rfl ?_
          refine zr_iload_n X d_M_firstFrom_29 rfl ?_
          refine zr_iaload (v := mp i) X 0 d_M_firstFrom_30 (by omega) hfp rfl (by omega) (by decide) rfl ?_
          refine zr_aload_n X d_M_firstFrom_31 rfl ?_
          refine zr_get X F_M_9 d_M_firstFrom_32 (by omega) hf (v := .ref (q jp)) rfl ?_
          refine zr_iload_n X d_M_firstFrom_35 rfl ?_
          refine zr_iaload (v := mp b) X 0 d_M_firstFrom_36 (by omega) hfp rfl (by omega) (by decide) rfl ?_
          refine zr_icmp_ge (tgt := 42) X d_M_firstFrom_37 rfl (fun h37 => ?_) (fun h37 => ?_)
          · skip
            refine zr_iinc (v := nI (i + 1)) (lv' := [some (.ref (q j)), some (.int x), some (.int (nI b)), some (.int (nI (i + 1)))]) X d_M_firstFrom_42 rfl (nI_1 _) (by decide) rfl ?_
            refine zr_goto (tgt := 4) X d_M_firstFrom_45 rfl ?_
            exact ih (i + 1) (some b) (by omega) (by rw [hz]; simp [h17, h37]) (fun b' h => by cases h; omega)
          · skip
            refine zr_iload_n X d_M_firstFrom_40 rfl ?_
            refine zr_istore_n (lv' := [some (.ref (q j)), some (.int x), some (.int (nI i)), some (.int (nI i))]) X d_M_firstFrom_41 (by decide) rfl ?_
            refine zr_iinc (v := nI (i + 1)) (lv' := [some (.ref (q j)), some (.int x), some (.int (nI i)), some (.int (nI (i + 1)))]) X d_M_firstFrom_42 rfl (nI_1 _) (by decide) rfl ?_
            refine zr_goto (tgt := 4) X d_M_firstFrom_45 rfl ?_
            exact ih (i + 1) (some i) (by omega) (by rw [hz]; simp [h17, h37]) (fun b h => by cases h; omega)
  refine zr_iconst (v := (-1)) X d_M_firstFrom_0 (by decide) ?_
  refine zr_istore_n (lv' := [some (.ref (q j)), some (.int x), some (.int ((-1))), none]) X d_M_firstFrom_1 (by decide) rfl ?_
  refine zr_iconst (v := nI 0) X d_M_firstFrom_2 (by decide) ?_
  refine zr_istore_n (lv' := [some (.ref (q j)), some (.int x), some (.int ((-1))), some (.int (nI 0))]) X d_M_firstFrom_3 (by decide) rfl ?_
  exact loop 6 0 none (by omega) rfl (fun b h => by cases h)
end
section
/-- the reference's own cell -/
abbrev zmo (q : Nat → Nat) (n po th sz ty : Nat) : va_E := .inr (iO, [.int (nI n), .ref (q 11), .ref (q 12), .ref (q 13), .ref (q 14), .ref (q 15), .int (nI po), .ref (q 16), .int (nI th), .int (nI sz), .ref (q 17), .ref (q 18), .int (nI ty), .ref (q 19), .ref (q 20), .ref (q 21), .ref (q 22)])

/-- x is a character that the scratch takes -/
def zIsCh (x : Int32) : Prop := x = 10 ∨ (¬ x < 32 ∧ ¬ 126 < x)
theorem z_charR {x : Int32} (h : fits .char (.int x) = true) : narrow .char (.int x) = .int x := by
  have h1 := z_charN h
  show Value.int (vp_nar .char x) = .int x
  rw [h1]
theorem cpy_up {f g : Nat → Int32} {sp dp k : Nat} : upd (va_cpy f g sp dp k) (dp + k) (f (sp + k)) = va_cpy f g sp dp (k + 1) := by
  funext m
  unfold upd va_cpy
  by_cases h1 : m = dp + k
  · subst h1
    rw [if_pos rfl, if_pos (by omega), show dp + k - dp = k by omega]
  · rw [if_neg h1]
    by_cases h2 : dp ≤ m ∧ m < dp + k
    · rw [if_pos h2, if_pos (by omega)]
    · rw [if_neg h2, if_neg (by omega)]
theorem cpy_up0 {f g : Nat → Int32} {sp k : Nat} : upd (va_cpy f g sp 0 k) k (f (sp + k)) = va_cpy f g sp 0 (k + 1) := by
  have h := cpy_up (f := f) (g := g) (sp := sp) (dp := 0) (k := k)
  rwa [Nat.zero_add] at h
theorem cpy_0 {f g : Nat → Int32} {sp dp : Nat} : va_cpy f g sp dp 0 = g := by
  funext m
  unfold va_cpy
  rw [if_neg (by omega)]
theorem cpy_dn {g : Nat → Int32} {i c sz : Nat} (h : i < sz) : upd (va_cpy g g (i + 1) (i + 1 + c) (sz - (i + 1))) (i + c) (g i) = va_cpy g g i (i + c) (sz - i) := by
  funext m
  unfold upd va_cpy
  by_cases h1 : m = i + c
  · subst h1
    rw [if_pos rfl, if_pos (by omega), show i + (i + c - (i + c)) = i by omega]
  · rw [if_neg h1]
    by_cases h2 : i + 1 + c ≤ m ∧ m < i + 1 + c + (sz - (i + 1))
    · rw [if_pos h2, if_pos (by omega), show i + 1 + (m - (i + 1 + c)) = i + (m - (i + c)) by omega]
    · rw [if_neg h2, if_neg (by omega)]
theorem cpy_out {f g : Nat → Int32} {sp dp n j : Nat} (h : j < dp ∨ dp + n ≤ j) : va_cpy f g sp dp n j = g j := pk_cpy_out h
/-- x is none of 0 .. n - 1 -/
def zNa (x : Int32) (n : Nat) : Prop := x < 0 ∨ nI n ≤ x
theorem z_ix (x : Int32) {n : Nat} (hn : n < 2 ^ 31) : (∃ j : Nat, j < n ∧ x = nI j) ∨ zNa x n := by
  rcases pk_ix x hn with h | h | h
  · exact Or.inr (Or.inl h)
  · exact Or.inr (Or.inr h)
  · exact Or.inl h
theorem z_dec (x : Int32) : x + Int32.ofInt (-1) = x - 1 := by
  rw [Int32.sub_eq_add_neg]
  rfl
theorem z_m1 {b : Nat} (h : b < 2 ^ 31) : ¬ nI b = -1 := fun e => absurd (e ▸ nI_pos' h) (by decide)

set_option maxRecDepth 100000 in
set_option maxHeartbeats 4000000 in
theorem c_O_wipe {l : Launch} {D : va_G} {cI cC cZ cV : ClassId} {N : Nat} {q : Nat → Nat} {f : zF} (hN : 23 ≤ N) {n po th sz ty : Nat} (h10 : f 10 = zmo q n po th sz ty) : zC l y_O_wipe b_O_wipe 1 none (rmD 0 0 0) D (zty cI cC cZ cV) [.ref (q 10)] N q f (pW N q (va_up f 10 (zmo q n po th sz 0))) := by
  refine zC.of (by decide) (by simp [Value.category]) (Nat.le_of_ble_eq_true rfl) (fun G X Y => ?_)
  show G 0 0 0 [some (.ref (q 10))] [] N q f
  refine zr_aload_n X d_O_wipe_0 rfl ?_
  refine zr_iconst (v := nI 0) X d_O_wipe_1 (by decide) ?_
  refine zr_put (fs' := [.int (nI n), .ref (q 11), .ref (q 12), .ref (q 13), .ref (q 14), .ref (q 15), .int (nI po), .ref (q 16), .int (nI th), .int (nI sz), .ref (q 17), .ref (q 18), .int (nI 0), .ref (q 19), .ref (q 20), .ref (q 21), .ref (q 22)]) X F_O_52 d_O_wipe_2 (by omega) h10 rfl rfl (Nat.le_of_ble_eq_true rfl) rfl ?_
  refine zr_return Y d_O_wipe_5 (Nat.le_of_ble_eq_true rfl) (Nat.le_of_ble_eq_true rfl) ?_
  exact ⟨rfl, rfl, rfl, rfl⟩

set_option maxRecDepth 100000 in
set_option maxHeartbeats 4000000 in
theorem c_O_scratch {l : Launch} {D : va_G} {cI cC cZ cV : ClassId} {N : Nat} {q : Nat → Nat} {f : zF} (hN : 23 ≤ N) {n po th sz ty : Nat} (h10 : f 10 = zmo q n po th sz ty) : zC l y_O_scratch b_O_scratch 1 (some .int) (rmD 0 0 0) D (zty cI cC cZ cV) [.ref (q 10)] N q f (pRd N q f (nI ty)) := by
  refine zC.of (by decide) (by simp [Value.category]) (Nat.le_of_ble_eq_true rfl) (fun G X Y => ?_)
  show G 0 0 0 [some (.ref (q 10))] [] N q f
  refine zr_aload_n X d_O_scratch_0 rfl ?_
  refine zr_get X F_O_52 d_O_scratch_1 (by omega) h10 (v := .int (nI ty)) rfl ?_
  refine zr_ireturn Y d_O_scratch_4 rfl (Nat.le_of_ble_eq_true rfl) (Nat.le_of_ble_eq_true rfl) ?_
  exact ⟨rfl, rfl, rfl, rfl⟩

set_option maxRecDepth 100000 in
set_option maxHeartbeats 4000000 in
theorem c_O_version {l : Launch} {D : va_G} {cI cC cZ cV : ClassId} {N : Nat} {q : Nat → Nat} {f : zF} (hN : 23 ≤ N) {n po th sz ty : Nat} (h10 : f 10 = zmo q n po th sz ty) : zC l y_O_version b_O_version 1 (some .int) (rmD 0 0 0) D (zty cI cC cZ cV) [.ref (q 10)] N q f (pRd N q f (nI th)) := by
  refine zC.of (by decide) (by simp [Value.category]) (Nat.le_of_ble_eq_true rfl) (fun G X Y => ?_)
  show G 0 0 0 [some (.ref (q 10))] [] N q f
  refine zr_aload_n X d_O_version_0 rfl ?_
  refine zr_get X F_O_62 d_O_version_1 (by omega) h10 (v := .int (nI th)) rfl ?_
  refine zr_ireturn Y d_O_version_4 rfl (Nat.le_of_ble_eq_true rfl) (Nat.le_of_ble_eq_true rfl) ?_
  exact ⟨rfl, rfl, rfl, rfl⟩

set_option maxRecDepth 100000 in
set_option maxHeartbeats 4000000 in
theorem c_O_versions {l : Launch} {D : va_G} {cI cC cZ cV : ClassId} {N : Nat} {q : Nat → Nat} {f : zF} (hN : 23 ≤ N) {n po th sz ty : Nat} (h10 : f 10 = zmo q n po th sz ty) : zC l y_O_versions b_O_versions 1 (some .int) (rmD 0 0 0) D (zty cI cC cZ cV) [.ref (q 10)] N q f (pRd N q f (nI n)) := by
  refine zC.of (by decide) (by simp [Value.category]) (Nat.le_of_ble_eq_true rfl) (fun G X Y => ?_)
  show G 0 0 0 [some (.ref (q 10))] [] N q f
  refine zr_aload_n X d_O_versions_0 rfl ?_
  refine zr_get X F_O_7 d_O_versions_1 (by omega) h10 (v := .int (nI n)) rfl ?_
  refine zr_ireturn Y d_O_versions_4 rfl (Nat.le_of_ble_eq_true rfl) (Nat.le_of_ble_eq_true rfl) ?_
  exact ⟨rfl, rfl, rfl, rfl⟩

set_option maxRecDepth 100000 in
set_option maxHeartbeats 4000000 in
theorem c_O_length {l : Launch} {D : va_G} {cI cC cZ cV : ClassId} {N : Nat} {q : Nat → Nat} {f : zF} (hN : 23 ≤ N) {n po th sz ty : Nat} (h10 : f 10 = zmo q n po th sz ty) : zC l y_O_length b_O_length 1 (some .int) (rmD 0 0 0) D (zty cI cC cZ cV) [.ref (q 10)] N q f (pRd N q f (nI sz)) := by
  refine zC.of (by decide) (by simp [Value.category]) (Nat.le_of_ble_eq_true rfl) (fun G X Y => ?_)
  show G 0 0 0 [some (.ref (q 10))] [] N q f
  refine zr_aload_n X d_O_length_0 rfl ?_
  refine zr_get X F_O_55 d_O_length_1 (by omega) h10 (v := .int (nI sz)) rfl ?_
  refine zr_ireturn Y d_O_length_4 rfl (Nat.le_of_ble_eq_true rfl) (Nat.le_of_ble_eq_true rfl) ?_
  exact ⟨rfl, rfl, rfl, rfl⟩

set_option maxRecDepth 100000 in
set_option maxHeartbeats 4000000 in
theorem c_O_isPosition_y {l : Launch} {D : va_G} {cI cC cZ cV : ClassId} {N : Nat} {q : Nat → Nat} {f : zF} (hN : 23 ≤ N) {n po th sz ty : Nat} (h10 : f 10 = zmo q n po th sz ty) {p : Nat} (hs : sz < 2 ^ 31) (hp : p ≤ sz) : zC l y_O_isPosition b_O_isPosition 2 (some .boolean) (rmD 0 0 0) D (zty cI cC cZ cV) [.ref (q 10), .int (nI p)] N q f (pRd N q f (nI 1)) := by
  refine zC.of (by decide) (by simp [Value.category]) (Nat.le_of_ble_eq_true rfl) (fun G X Y => ?_)
  show G 0 0 0 [some (.ref (q 10)), some (.int (nI p))] [] N q f
  refine zr_iload_n X d_O_isPosition_0 rfl ?_
  refine zr_if_ltf (tgt := 16) X d_O_isPosition_1 rfl (nI_pos (by omega)) ?_
  refine zr_iload_n X d_O_isPosition_4 rfl ?_
  refine zr_aload_n X d_O_isPosition_5 rfl ?_
  refine zr_get X F_O_55 d_O_isPosition_6 (by omega) h10 (v := .int (nI sz)) rfl ?_
  refine zr_icmp_gtf (tgt := 16) X d_O_isPosition_9 rfl (nI_nlt hp hs) ?_
  refine zr_iconst (v := nI 1) X d_O_isPosition_12 (by decide) ?_
  refine zr_goto (tgt := 17) X d_O_isPosition_13 rfl ?_
  refine zr_ireturn Y d_O_isPosition_17 rfl (Nat.le_of_ble_eq_true rfl) (Nat.le_of_ble_eq_true rfl) ?_
  exact ⟨rfl, rfl, rfl, rfl⟩

set_option maxRecDepth 100000 in
set_option maxHeartbeats 4000000 in
theorem c_O_isPosition_n {l : Launch} {D : va_G} {cI cC cZ cV : ClassId} {N : Nat} {q : Nat → Nat} {f : zF} (hN : 23 ≤ N) {n po th sz ty : Nat} (h10 : f 10 = zmo q n po th sz ty) {x : Int32} (hx : zNo x sz) : zC l y_O_isPosition b_O_isPosition 2 (some .boolean) (rmD 0 0 0) D (zty cI cC cZ cV) [.ref (q 10), .int x] N q f (pRd N q f (nI 0)) := by
  refine zC.of (by decide) (by simp [Value.category]) (Nat.le_of_ble_eq_true rfl) (fun G X Y => ?_)
  show G 0 0 0 [some (.ref (q 10)), some (.int x)] [] N q f
  refine zr_iload_n X d_O_isPosition_0 rfl ?_
  refine zr_if_lt (tgt := 16) X d_O_isPosition_1 rfl (fun h1 => ?_) (fun h1 => ?_)
  · skip
    refine zr_iconst (v := nI 0) X d_O_isPosition_16 (by decide) ?_
    refine zr_ireturn Y d_O_isPosition_17 rfl (Nat.le_of_ble_eq_true rfl) (Nat.le_of_ble_eq_true rfl) ?_
    exact ⟨rfl, rfl, rfl, rfl⟩
  · skip
    refine zr_iload_n X d_O_isPosition_4 rfl ?_
    refine zr_aload_n X d_O_isPosition_5 rfl ?_
    refine zr_get X F_O_55 d_O_isPosition_6 (by omega) h10 (v := .int (nI sz)) rfl ?_
    refine zr_icmp_gtt (tgt := 16) X d_O_isPosition_9 rfl (hx.resolve_left h1) ?_
    refine zr_iconst (v := nI 0) X d_O_isPosition_16 (by decide) ?_
    refine zr_ireturn Y d_O_isPosition_17 rfl (Nat.le_of_ble_eq_true rfl) (Nat.le_of_ble_eq_true rfl) ?_
    exact ⟨rfl, rfl, rfl, rfl⟩

set_option maxRecDepth 100000 in
set_option maxHeartbeats 4000000 in
theorem c_O_isStretch_y {l : Launch} {D : va_G} {cI cC cZ cV : ClassId} {N : Nat} {q : Nat → Nat} {f : zF} (hN : 23 ≤ N) {n po th sz ty : Nat} (h10 : f 10 = zmo q n po th sz ty) {p c : Nat} (hs : sz < 2 ^ 31) (hp : p + c ≤ sz) : zC l y_O_isStretch b_O_isStretch 3 (some .boolean) (rmD 0 0 0) D (zty cI cC cZ cV) [.ref (q 10), .int (nI p), .int (nI c)] N q f (pRd N q f (nI 1)) := by
  refine zC.of (by decide) (by simp [Value.category]) (Nat.le_of_ble_eq_true rfl) (fun G X Y => ?_)
  show G 0 0 0 [some (.ref (q 10)), some (.int (nI p)), some (.int (nI c))] [] N q f
  refine zr_iload_n X d_O_isStretch_0 rfl ?_
  refine zr_if_ltf (tgt := 30) X d_O_isStretch_1 rfl (nI_pos (by omega)) ?_
  refine zr_iload_n X d_O_isStretch_4 rfl ?_
  refine zr_aload_n X d_O_isStretch_5 rfl ?_
  refine zr_get X F_O_55 d_O_isStretch_6 (by omega) h10 (v := .int (nI sz)) rfl ?_
  refine zr_icmp_gtf (tgt := 30) X d_O_isStretch_9 rfl (nI_nlt (by omega) hs) ?_
  refine zr_iload_n X d_O_isStretch_12 rfl ?_
  refine zr_if_ltf (tgt := 30) X d_O_isStretch_13 rfl (nI_pos (by omega)) ?_
  refine zr_iload_n X d_O_isStretch_16 rfl ?_
  refine zr_aload_n X d_O_isStretch_17 rfl ?_
  refine zr_get X F_O_55 d_O_isStretch_18 (by omega) h10 (v := .int (nI sz)) rfl ?_
  refine zr_iload_n X d_O_isStretch_21 rfl ?_
  refine zr_isub (z := nI (sz - p)) X d_O_isStretch_22 (pk_sub (by omega)) ?_
  refine zr_icmp_gtf (tgt := 30) X d_O_isStretch_23 rfl (nI_nlt (by omega) (by omega)) ?_
  refine zr_iconst (v := nI 1) X d_O_isStretch_26 (by decide) ?_
  refine zr_goto (tgt := 31) X d_O_isStretch_27 rfl ?_
  refine zr_ireturn Y d_O_isStretch_31 rfl (Nat.le_of_ble_eq_true rfl) (Nat.le_of_ble_eq_true rfl) ?_
  exact ⟨rfl, rfl, rfl, rfl⟩

set_option maxRecDepth 100000 in
set_option maxHeartbeats 4000000 in
theorem c_O_isStretch_n1 {l : Launch} {D : va_G} {cI cC cZ cV : ClassId} {N : Nat} {q : Nat → Nat} {f : zF} (hN : 23 ≤ N) {n po th sz ty : Nat} (h10 : f 10 = zmo q n po th sz ty) {x y : Int32} (hx : zNo x sz) : zC l y_O_isStretch b_O_isStretch 3 (some .boolean) (rmD 0 0 0) D (zty cI cC cZ cV) [.ref (q 10), .int x, .int y] N q f (pRd N q f (nI 0)) := by
  refine zC.of (by decide) (by simp [Value.category]) (Nat.le_of_ble_eq_true rfl) (fun G X Y => ?_)
  show G 0 0 0 [some (.ref (q 10)), some (.int x), some (.int y)] [] N q f
  refine zr_iload_n X d_O_isStretch_0 rfl ?_
  refine zr_if_lt (tgt := 30) X d_O_isStretch_1 rfl (fun h1 => ?_) (fun h1 => ?_)
  · skip
    refine zr_iconst (v := nI 0) X d_O_isStretch_30 (by decide) ?_
    refine zr_ireturn Y d_O_isStretch_31 rfl (Nat.le_of_ble_eq_true rfl) (Nat.le_of_ble_eq_true rfl) ?_
    exact ⟨rfl, rfl, rfl, rfl⟩
  · skip
    refine zr_iload_n X d_O_isStretch_4 rfl ?_
    refine zr_aload_n X d_O_isStretch_5 rfl ?_
    refine zr_get X F_O_55 d_O_isStretch_6 (by omega) h10 (v := .int (nI sz)) rfl ?_
    refine zr_icmp_gtt (tgt := 30) X d_O_isStretch_9 rfl (hx.resolve_left h1) ?_
    refine zr_iconst (v := nI 0) X d_O_isStretch_30 (by decide) ?_
    refine zr_ireturn Y d_O_isStretch_31 rfl (Nat.le_of_ble_eq_true rfl) (Nat.le_of_ble_eq_true rfl) ?_
    exact ⟨rfl, rfl, rfl, rfl⟩

set_option maxRecDepth 100000 in
set_option maxHeartbeats 4000000 in
theorem c_O_isStretch_n2 {l : Launch} {D : va_G} {cI cC cZ cV : ClassId} {N : Nat} {q : Nat → Nat} {f : zF} (hN : 23 ≤ N) {n po th sz ty : Nat} (h10 : f 10 = zmo q n po th sz ty) {p : Nat} {y : Int32} (hs : sz < 2 ^ 31) (hp : p ≤ sz) (hy : zNo y (sz - p)) : zC l y_O_isStretch b_O_isStretch 3 (some .boolean) (rmD 0 0 0) D (zty cI cC cZ cV) [.ref (q 10), .int (nI p), .int y] N q f (pRd N q f (nI 0)) := by
  refine zC.of (by decide) (by simp [Value.category]) (Nat.le_of_ble_eq_true rfl) (fun G X Y => ?_)
  show G 0 0 0 [some (.ref (q 10)), some (.int (nI p)), some (.int y)] [] N q f
  refine zr_iload_n X d_O_isStretch_0 rfl ?_
  refine zr_if_ltf (tgt := 30) X d_O_isStretch_1 rfl (nI_pos (by omega)) ?_
  refine zr_iload_n X d_O_isStretch_4 rfl ?_
  refine zr_aload_n X d_O_isStretch_5 rfl ?_
  refine zr_get X F_O_55 d_O_isStretch_6 (by omega) h10 (v := .int (nI sz)) rfl ?_
  refine zr_icmp_gtf (tgt := 30) X d_O_isStretch_9 rfl (nI_nlt (by omega) hs) ?_
  refine zr_iload_n X d_O_isStretch_12 rfl ?_
  refine zr_if_lt (tgt := 30) X d_O_isStretch_13 rfl (fun h13 => ?_) (fun h13 => ?_)
  · skip
    refine zr_iconst (v := nI 0) X d_O_isStretch_30 (by decide) ?_
    refine zr_ireturn Y d_O_isStretch_31 rfl (Nat.le_of_ble_eq_true rfl) (Nat.le_of_ble_eq_true rfl) ?_
    exact ⟨rfl, rfl, rfl, rfl⟩
  · skip
    refine zr_iload_n X d_O_isStretch_16 rfl ?_
    refine zr_aload_n X d_O_isStretch_17 rfl ?_
    refine zr_get X F_O_55 d_O_isStretch_18 (by omega) h10 (v := .int (nI sz)) rfl ?_
    refine zr_iload_n X d_O_isStretch_21 rfl ?_
    refine zr_isub (z := nI (sz - p)) X d_O_isStretch_22 (pk_sub (by omega)) ?_
    refine zr_icmp_gtt (tgt := 30) X d_O_isStretch_23 rfl (hy.resolve_left h13) ?_
    refine zr_iconst (v := nI 0) X d_O_isStretch_30 (by decide) ?_
    refine zr_ireturn Y d_O_isStretch_31 rfl (Nat.le_of_ble_eq_true rfl) (Nat.le_of_ble_eq_true rfl) ?_
    exact ⟨rfl, rfl, rfl, rfl⟩

theorem c_O_isStretch_n {l : Launch} {D : va_G} {cI cC cZ cV : ClassId} {N : Nat} {q : Nat → Nat} {f : zF} (hN : 23 ≤ N) {n po th sz ty : Nat} (h10 : f 10 = zmo q n po th sz ty) {x y : Int32} (hs : sz < 2 ^ 31) (hx : zNoS x y sz) : zC l y_O_isStretch b_O_isStretch 3 (some .boolean) (rmD 0 0 0) D (zty cI cC cZ cV) [.ref (q 10), .int x, .int y] N q f (pRd N q f (nI 0)) := by
  rcases hx with hx | ⟨p, hp, rfl, hy⟩
  · exact c_O_isStretch_n1 hN h10 hx
  · exact c_O_isStretch_n2 hN h10 hs hp hy

set_option maxRecDepth 100000 in
set_option maxHeartbeats 4000000 in
theorem c_O_type_y {l : Launch} {D : va_G} {cI cC cZ cV : ClassId} {N : Nat} {q : Nat → Nat} {f : zF} (hN : 23 ≤ N) {n po th sz ty : Nat} (h10 : f 10 = zmo q n po th sz ty) {sc : Nat → Int32} (h19 : f 19 = .inl (cC, 40, .inl sc)) {x : Int32} (hx : zIsCh x) (hf : fits .char (.int x) = true) (ht : ty < 40) : zC l y_O_type b_O_type 2 (some .boolean) (rmD 0 0 0) D (zty cI cC cZ cV) [.ref (q 10), .int x] N q f (fun v N' q' f' => v = some (.int (nI 1)) ∧ N' = N ∧ q' = q ∧ f' = va_up (va_up f 19 (.inl (cC, 40, .inl (upd sc ty x)))) 10 (zmo q n po th sz (ty + 1))) := by
  refine zC.of (by decide) (by simp [Value.category]) (Nat.le_of_ble_eq_true rfl) (fun G X Y => ?_)
  show G 0 0 0 [some (.ref (q 10)), some (.int x)] [] N q f
  refine zr_iload_n X d_O_type_0 rfl ?_
  refine zr_bipush (v := 10) X d_O_type_1 (by decide) ?_
  refine zr_icmp_eq (tgt := 18) X d_O_type_3 rfl (fun h3 => ?_) (fun h3 => ?_)
  · skip
    refine zr_aload_n X d_O_type_18 rfl ?_
    refine zr_get X F_O_52 d_O_type_19 (by omega) h10 (v := .int (nI ty)) rfl ?_
    refine zr_bipush (v := nI 40) X d_O_type_22 (by decide) ?_
    refine zr_icmp_net (tgt := 29) X d_O_type_24 rfl (fun h9 => absurd ((nI_eq (by omega) (by decide)).mp h9) (by omega)) ?_
    refine zr_aload_n X d_O_type_29 rfl ?_
    refine zr_get X F_O_40 d_O_type_30 (by omega) h10 (v := .ref (q 19)) rfl ?_
    refine zr_aload_n X d_O_type_33 rfl ?_
    refine zr_get X F_O_52 d_O_type_34 (by omega) h10 (v := .int (nI ty)) rfl ?_
    refine zr_iload_n X d_O_type_37 rfl ?_
    refine zr_castore X 1 d_O_type_38 (by omega) h19 rfl (by omega) (by decide) (z_charN hf) ?_
    refine zr_aload_n X d_O_type_39 rfl ?_
    refine zr_dup X d_O_type_40 rfl ?_
    refine zr_get X F_O_52 d_O_type_41 (by omega) (up_ne (by decide) h10) (v := .int (nI ty)) rfl ?_
    refine zr_iconst (v := nI 1) X d_O_type_44 (by decide) ?_
    refine zr_iadd (z := nI (ty + 1)) X d_O_type_45 (nI_add _ _) ?_
    refine zr_put (fs' := [.int (nI n), .ref (q 11), .ref (q 12), .ref (q 13), .ref (q 14), .ref (q 15), .int (nI po), .ref (q 16), .int (nI th), .int (nI sz), .ref (q 17), .ref (q 18), .int (nI (ty + 1)), .ref (q 19), .ref (q 20), .ref (q 21), .ref (q 22)]) X F_O_52 d_O_type_46 (by omega) (up_ne (by decide) h10) rfl rfl (Nat.le_of_ble_eq_true rfl) rfl ?_
    refine zr_iconst (v := nI 1) X d_O_type_49 (by decide) ?_
    refine zr_ireturn Y d_O_type_50 rfl (Nat.le_of_ble_eq_true rfl) (Nat.le_of_ble_eq_true rfl) ?_
    exact ⟨rfl, rfl, rfl, rfl⟩
  · skip
    refine zr_iload_n X d_O_type_6 rfl ?_
    refine zr_bipush (v := 32) X d_O_type_7 (by decide) ?_
    refine zr_icmp_ltf (tgt := 27) X d_O_type_9 rfl (hx.resolve_left h3).1 ?_
    refine zr_iload_n X d_O_type_12 rfl ?_
    refine zr_bipush (v := 126) X d_O_type_13 (by decide) ?_
    refine zr_icmp_gtf (tgt := 27) X d_O_type_15 rfl (hx.resolve_left h3).2 ?_
    refine zr_aload_n X d_O_type_18 rfl ?_
    refine zr_get X F_O_52 d_O_type_19 (by omega) h10 (v := .int (nI ty)) rfl ?_
    refine zr_bipush (v := nI 40) X d_O_type_22 (by decide) ?_
    refine zr_icmp_net (tgt := 29) X d_O_type_24 rfl (fun h9 => absurd ((nI_eq (by omega) (by decide)).mp h9) (by omega)) ?_
    refine zr_aload_n X d_O_type_29 rfl ?_
    refine zr_get X F_O_40 d_O_type_30 (by omega) h10 (v := .ref (q 19)) rfl ?_
    refine zr_aload_n X d_O_type_33 rfl ?_
    refine zr_get X F_O_52 d_O_type_34 (by omega) h10 (v := .int (nI ty)) rfl ?_
    refine zr_iload_n X d_O_type_37 rfl ?_
    refine zr_castore X 1 d_O_type_38 (by omega) h19 rfl (by omega) (by decide) (z_charN hf) ?_
    refine zr_aload_n X d_O_type_39 rfl ?_
    refine zr_dup X d_O_type_40 rfl ?_
    refine zr_get X F_O_52 d_O_type_41 (by omega) (up_ne (by decide) h10) (v := .int (nI ty)) rfl ?_
    refine zr_iconst (v := nI 1) X d_O_type_44 (by decide) ?_
    refine zr_iadd (z := nI (ty + 1)) X d_O_type_45 (nI_add _ _) ?_
    refine zr_put (fs' := [.int (nI n), .ref (q 11), .ref (q 12), .ref (q 13), .ref (q 14), .ref (q 15), .int (nI po), .ref (q 16), .int (nI th), .int (nI sz), .ref (q 17), .ref (q 18), .int (nI (ty + 1)), .ref (q 19), .ref (q 20), .ref (q 21), .ref (q 22)]) X F_O_52 d_O_type_46 (by omega) (up_ne (by decide) h10) rfl rfl (Nat.le_of_ble_eq_true rfl) rfl ?_
    refine zr_iconst (v := nI 1) X d_O_type_49 (by decide) ?_
    refine zr_ireturn Y d_O_type_50 rfl (Nat.le_of_ble_eq_true rfl) (Nat.le_of_ble_eq_true rfl) ?_
    exact ⟨rfl, rfl, rfl, rfl⟩

set_option maxRecDepth 100000 in
set_option maxHeartbeats 4000000 in
theorem c_O_type_n {l : Launch} {D : va_G} {cI cC cZ cV : ClassId} {N : Nat} {q : Nat → Nat} {f : zF} (hN : 23 ≤ N) {n po th sz ty : Nat} (h10 : f 10 = zmo q n po th sz ty) {x : Int32} (hx : ¬ zIsCh x) : zC l y_O_type b_O_type 2 (some .boolean) (rmD 0 0 0) D (zty cI cC cZ cV) [.ref (q 10), .int x] N q f (pRd N q f (nI 0)) := by
  refine zC.of (by decide) (by simp [Value.category]) (Nat.le_of_ble_eq_true rfl) (fun G X Y => ?_)
  show G 0 0 0 [some (.ref (q 10)), some (.int x)] [] N q f
  refine zr_iload_n X d_O_type_0 rfl ?_
  refine zr_bipush (v := 10) X d_O_type_1 (by decide) ?_
  refine zr_icmp_eqf (tgt := 18) X d_O_type_3 rfl (fun h => hx (Or.inl h)) ?_
  refine zr_iload_n X d_O_type_6 rfl ?_
  refine zr_bipush (v := 32) X d_O_type_7 (by decide) ?_
  refine zr_icmp_lt (tgt := 27) X d_O_type_9 rfl (fun h9 => ?_) (fun h9 => ?_)
  · skip
    refine zr_iconst (v := nI 0) X d_O_type_27 (by decide) ?_
    refine zr_ireturn Y d_O_type_28 rfl (Nat.le_of_ble_eq_true rfl) (Nat.le_of_ble_eq_true rfl) ?_
    exact ⟨rfl, rfl, rfl, rfl⟩
  · skip
    refine zr_iload_n X d_O_type_12 rfl ?_
    refine zr_bipush (v := 126) X d_O_type_13 (by decide) ?_
    refine zr_icmp_gtt (tgt := 27) X d_O_type_15 rfl (Decidable.byContradiction (fun h => hx (Or.inr ⟨h9, h⟩))) ?_
    refine zr_iconst (v := nI 0) X d_O_type_27 (by decide) ?_
    refine zr_ireturn Y d_O_type_28 rfl (Nat.le_of_ble_eq_true rfl) (Nat.le_of_ble_eq_true rfl) ?_
    exact ⟨rfl, rfl, rfl, rfl⟩

set_option maxRecDepth 100000 in
set_option maxHeartbeats 4000000 in
theorem c_O_type_f {l : Launch} {D : va_G} {cI cC cZ cV : ClassId} {N : Nat} {q : Nat → Nat} {f : zF} (hN : 23 ≤ N) {n po th sz ty : Nat} (h10 : f 10 = zmo q n po th sz ty) {x : Int32} (hx : zIsCh x) (ht : ty = 40) : zC l y_O_type b_O_type 2 (some .boolean) (rmD 0 0 0) D (zty cI cC cZ cV) [.ref (q 10), .int x] N q f (pRd N q f (nI 0)) := by
  refine zC.of (by decide) (by simp [Value.category]) (Nat.le_of_ble_eq_true rfl) (fun G X Y => ?_)
  show G 0 0 0 [some (.ref (q 10)), some (.int x)] [] N q f
  refine zr_iload_n X d_O_type_0 rfl ?_
  refine zr_bipush (v := 10) X d_O_type_1 (by decide) ?_
  refine zr_icmp_eq (tgt := 18) X d_O_type_3 rfl (fun h3 => ?_) (fun h3 => ?_)
  · skip
    refine zr_aload_n X d_O_type_18 rfl ?_
    refine zr_get X F_O_52 d_O_type_19 (by omega) h10 (v := .int (nI ty)) rfl ?_
    refine zr_bipush (v := nI 40) X d_O_type_22 (by decide) ?_
    refine zr_icmp_nef (tgt := 29) X d_O_type_24 rfl (by rw [ht]) ?_
    refine zr_iconst (v := nI 0) X d_O_type_27 (by decide) ?_
    refine zr_ireturn Y d_O_type_28 rfl (Nat.le_of_ble_eq_true rfl) (Nat.le_of_ble_eq_true rfl) ?_
    exact ⟨rfl, rfl, rfl, rfl⟩
  · skip
    refine zr_iload_n X d_O_type_6 rfl ?_
    refine zr_bipush (v := 32) X d_O_type_7 (by decide) ?_
    refine zr_icmp_ltf (tgt := 27) X d_O_type_9 rfl (hx.resolve_left h3).1 ?_
    refine zr_iload_n X d_O_type_12 rfl ?_
    refine zr_bipush (v := 126) X d_O_type_13 (by decide) ?_
    refine zr_icmp_gtf (tgt := 27) X d_O_type_15 rfl (hx.resolve_left h3).2 ?_
    refine zr_aload_n X d_O_type_18 rfl ?_
    refine zr_get X F_O_52 d_O_type_19 (by omega) h10 (v := .int (nI ty)) rfl ?_
    refine zr_bipush (v := nI 40) X d_O_type_22 (by decide) ?_
    refine zr_icmp_nef (tgt := 29) X d_O_type_24 rfl (by rw [ht]) ?_
    refine zr_iconst (v := nI 0) X d_O_type_27 (by decide) ?_
    refine zr_ireturn Y d_O_type_28 rfl (Nat.le_of_ble_eq_true rfl) (Nat.le_of_ble_eq_true rfl) ?_
    exact ⟨rfl, rfl, rfl, rfl⟩

set_option maxRecDepth 100000 in
set_option maxHeartbeats 4000000 in
theorem c_O_copy_n1 {l : Launch} {D : va_G} {cI cC cZ cV : ClassId} {N : Nat} {q : Nat → Nat} {f : zF} (hN : 23 ≤ N) {n po th sz ty : Nat} (h10 : f 10 = zmo q n po th sz ty) {x y : Int32} (hs : sz < 2 ^ 31) (hx : zNoS x y sz) : zC l y_O_copy b_O_copy 4 (some .int) (rmD 1 0 0) D (zty cI cC cZ cV) [.ref (q 10), .int x, .int y] N q f (pRd N q f (-1)) := by
  refine zC.of (by decide) (by simp [Value.category]) (Nat.le_of_ble_eq_true rfl) (fun G X Y => ?_)
  show G 0 0 0 [some (.ref (q 10)), some (.int x), some (.int y), none] [] N q f
  refine zr_aload_n X d_O_copy_0 rfl ?_
  refine zr_iload_n X d_O_copy_1 rfl ?_
  refine zr_iload_n X d_O_copy_2 rfl ?_
  refine zr_callV X K_O_58 KI_O_58 KS_O_58 (c_O_isStretch_n hN h10 hs hx) d_O_copy_3 (by omega) h10 rfl rfl (by decide) (Nat.le_of_ble_eq_true rfl) (by decide) (st := []) rfl (kRd ?_)
  show G 0 0 6 [some (.ref (q 10)), some (.int x), some (.int y), none] [.int (nI 0)] N q f
  refine zr_if_eqt (tgt := 15) X d_O_copy_6 rfl (by decide) ?_
  refine zr_iconst (v := (-1)) X d_O_copy_15 (by decide) ?_
  refine zr_ireturn Y d_O_copy_16 rfl (Nat.le_of_ble_eq_true rfl) (Nat.le_of_ble_eq_true rfl) ?_
  exact ⟨rfl, rfl, rfl, rfl⟩

set_option maxRecDepth 100000 in
set_option maxHeartbeats 4000000 in
theorem c_O_copy_n2 {l : Launch} {D : va_G} {cI cC cZ cV : ClassId} {N : Nat} {q : Nat → Nat} {f : zF} (hN : 23 ≤ N) {n po th sz ty : Nat} (h10 : f 10 = zmo q n po th sz ty) {p c : Nat} (hs : sz < 2 ^ 31) (hp : p + c ≤ sz) (hc : 40 < c) : zC l y_O_copy b_O_copy 4 (some .int) (rmD 1 0 0) D (zty cI cC cZ cV) [.ref (q 10), .int (nI p), .int (nI c)] N q f (pRd N q f (-1)) := by
  refine zC.of (by decide) (by simp [Value.category]) (Nat.le_of_ble_eq_true rfl) (fun G X Y => ?_)
  show G 0 0 0 [some (.ref (q 10)), some (.int (nI p)), some (.int (nI c)), none] [] N q f
  refine zr_aload_n X d_O_copy_0 rfl ?_
  refine zr_iload_n X d_O_copy_1 rfl ?_
  refine zr_iload_n X d_O_copy_2 rfl ?_
  refine zr_callV X K_O_58 KI_O_58 KS_O_58 (c_O_isStretch_y hN h10 hs hp) d_O_copy_3 (by omega) h10 rfl rfl (by decide) (Nat.le_of_ble_eq_true rfl) (by decide) (st := []) rfl (kRd ?_)
  show G 0 0 6 [some (.ref (q 10)), some (.int (nI p)), some (.int (nI c)), none] [.int (nI 1)] N q f
  refine zr_if_eqf (tgt := 15) X d_O_copy_6 rfl (by decide) ?_
  refine zr_iload_n X d_O_copy_9 rfl ?_
  refine zr_bipush (v := nI 40) X d_O_copy_10 (by decide) ?_
  refine zr_icmp_lef (tgt := 17) X d_O_copy_12 rfl (nI_ge hc (by omega)) ?_
  refine zr_iconst (v := (-1)) X d_O_copy_15 (by decide) ?_
  refine zr_ireturn Y d_O_copy_16 rfl (Nat.le_of_ble_eq_true rfl) (Nat.le_of_ble_eq_true rfl) ?_
  exact ⟨rfl, rfl, rfl, rfl⟩

set_option maxRecDepth 100000 in
set_option maxHeartbeats 4000000 in
theorem c_O_copy_y {l : Launch} {D : va_G} {cI cC cZ cV : ClassId} {N : Nat} {q : Nat → Nat} {f : zF} (hN : 23 ≤ N) {n po th sz ty : Nat} (h10 : f 10 = zmo q n po th sz ty) {tx : Nat → Int32} (h17 : f 17 = .inl (cC, 2000, .inl tx)) {sc : Nat → Int32} (h19 : f 19 = .inl (cC, 40, .inl sc)) (htx : zCh tx) {p c : Nat} (hs : sz ≤ 2000) (hp : p + c ≤ sz) (hc : c ≤ 40) : zC l y_O_copy b_O_copy 4 (some .int) (rmD 1 0 0) D (zty cI cC cZ cV) [.ref (q 10), .int (nI p), .int (nI c)] N q f (fun v N' q' f' => v = some (.int (nI c)) ∧ N' = N ∧ q' = q ∧ f' = va_up (va_up f 19 (.inl (cC, 40, .inl (va_cpy tx sc p 0 c)))) 10 (zmo q n po th sz c)) := by
  refine zC.of (by decide) (by simp [Value.category]) (Nat.le_of_ble_eq_true rfl) (fun G X Y => ?_)
  show G 0 0 0 [some (.ref (q 10)), some (.int (nI p)), some (.int (nI c)), none] [] N q f
  have loop : ∀ (d i : Nat), i + d = c → G 0 0 19 [some (.ref (q 10)), some (.int (nI p)), some (.int (nI c)), some (.int (nI i))] [] N q (va_up f 19 (.inl (cC, 40, .inl (va_cpy tx sc p 0 i)))) := by
    intro d
    induction d with
    | zero =>
      intro i hi
      show G 0 0 19 [some (.ref (q 10)), some (.int (nI p)), some (.int (nI c)), some (.int (nI i))] [] N q (va_up f 19 (.inl (cC, 40, .inl (va_cpy tx sc p 0 i))))
      refine zr_iload_n X d_O_copy_19 rfl ?_
      refine zr_iload_n X d_O_copy_20 rfl ?_
      refine zr_icmp_get (tgt := 44) X d_O_copy_21 rfl (nI_le (by omega) (by omega)) ?_
      refine zr_aload_n X d_O_copy_44 rfl ?_
      refine zr_iload_n X d_O_copy_45 rfl ?_
      refine zr_put (fs' := [.int (nI n), .ref (q 11), .ref (q 12), .ref (q 13), .ref (q 14), .ref (q 15), .int (nI po), .ref (q 16), .int (nI th), .int (nI sz), .ref (q 17), .ref (q 18), .int (nI c), .ref (q 19), .ref (q 20), .ref (q 21), .ref (q 22)]) X F_O_52 d_O_copy_46 (by omega) (up_ne (by decide) h10) rfl rfl (Nat.le_of_ble_eq_true rfl) rfl ?_
      refine zr_iload_n X d_O_copy_49 rfl ?_
      refine zr_ireturn Y d_O_copy_50 rfl (Nat.le_of_ble_eq_true rfl) (Nat.le_of_ble_eq_true rfl) ?_
      exact ⟨rfl, rfl, rfl, by rw [show i = c by omega]⟩
    | succ d ih =>
      intro i hi
      show G 0 0 19 [some (.ref (q 10)), some (.int (nI p)), some (.int (nI c)), some (.int (nI i))] [] N q (va_up f 19 (.inl (cC, 40, .inl (va_cpy tx sc p 0 i))))
      refine zr_iload_n X d_O_copy_19 rfl ?_
      refine zr_iload_n X d_O_copy_20 rfl ?_
      refine zr_icmp_gef (tgt := 44) X d_O_copy_21 rfl (nI_ge (by omega) (by omega)) ?_
      refine zr_aload_n X d_O_copy_24 rfl ?_
      refine zr_get X F_O_40 d_O_copy_25 (by omega) (up_ne (by decide) h10) (v := .ref (q 19)) rfl ?_
      refine zr_iload_n X d_O_copy_28 rfl ?_
      refine zr_aload_n X d_O_copy_29 rfl ?_
      refine zr_get X F_O_34 d_O_copy_30 (by omega) (up_ne (by decide) h10) (v := .ref (q 17)) rfl ?_
      refine zr_iload_n X d_O_copy_33 rfl ?_
      refine zr_iload_n X d_O_copy_34 rfl ?_
      refine zr_iadd (z := nI (p + i)) X d_O_copy_35 (nI_add _ _) ?_
      refine zr_caload (v := tx (p + i)) X 1 d_O_copy_36 (by omega) (up_ne (by decide) h17) rfl (by omega) (by decide) rfl ?_
      refine zr_castore X 1 d_O_copy_37 (by omega) up_eq rfl (by omega) (by decide) (z_charN (htx _)) ?_
      refine zr_iinc (v := nI (i + 1)) (lv' := [some (.ref (q 10)), some (.int (nI p)), some (.int (nI c)), some (.int (nI (i + 1)))]) X d_O_copy_38 rfl (nI_1 _) (by decide) rfl ?_
      refine zr_goto (tgt := 19) X d_O_copy_41 rfl ?_
      have h9 := ih (i + 1) (by omega)
      rw [← cpy_up0] at h9
      rw [bx_uu]
      exact h9
  refine zr_aload_n X d_O_copy_0 rfl ?_
  refine zr_iload_n X d_O_copy_1 rfl ?_
  refine zr_iload_n X d_O_copy_2 rfl ?_
  refine zr_callV X K_O_58 KI_O_58 KS_O_58 (c_O_isStretch_y hN h10 (by omega) hp) d_O_copy_3 (by omega) h10 rfl rfl (by decide) (Nat.le_of_ble_eq_true rfl) (by decide) (st := []) rfl (kRd ?_)
  show G 0 0 6 [some (.ref (q 10)), some (.int (nI p)), some (.int (nI c)), none] [.int (nI 1)] N q f
  refine zr_if_eqf (tgt := 15) X d_O_copy_6 rfl (by decide) ?_
  refine zr_iload_n X d_O_copy_9 rfl ?_
  refine zr_bipush (v := nI 40) X d_O_copy_10 (by decide) ?_
  refine zr_icmp_let (tgt := 17) X d_O_copy_12 rfl (nI_le hc (by decide)) ?_
  refine zr_iconst (v := nI 0) X d_O_copy_17 (by decide) ?_
  refine zr_istore_n (lv' := [some (.ref (q 10)), some (.int (nI p)), some (.int (nI c)), some (.int (nI 0))]) X d_O_copy_18 (by decide) rfl ?_
  have h0 := loop c 0 (by omega)
  rw [cpy_0, up_self h19] at h0
  exact h0

theorem z_pred_lt {i p : Nat} (h : i ≤ p) (hp : p < 2 ^ 31) : nI i - 1 < nI p := by
  cases i with
  | zero =>
    rw [show nI 0 - 1 = -1 from rfl, Int32.lt_iff_toInt_lt, nI_toInt hp]
    show (-1 : Int) < _
    omega
  | succ i =>
    rw [nI_pred]
    exact nI_lt (by omega) hp

set_option maxRecDepth 100000 in
set_option maxHeartbeats 4000000 in
theorem c_O_bring {l : Launch} {D : va_G} {cI cC cZ cV : ClassId} {N : Nat} {q : Nat → Nat} {f : zF} (hN : 23 ≤ N) {n po th sz ty : Nat} (h10 : f 10 = zmo q n po th sz ty) {pl : Nat → Int32} (h13 : f 13 = .inl (cI, 122, .inl pl)) {mn : Nat → Int32} (h14 : f 14 = .inl (cI, 122, .inl mn)) {fi : Nat → Int32} (h15 : f 15 = .inl (cI, 122, .inl fi)) {pool : Nat → Int32} (h16 : f 16 = .inl (cC, 2000, .inl pool)) {tx : Nat → Int32} (h17 : f 17 = .inl (cC, 2000, .inl tx)) (htx : zCh tx) (hpool : zCh pool) {v p c a : Nat} (hv : v < 122) (hp : pl v = nI p) (hc : mn v = nI c) (ha : fi v = nI a) (hps : p ≤ sz) (hsz : sz + c ≤ 2000) (hac : a + c ≤ 2000) : zC l y_O_bring b_O_bring 3 none (rmD 0 0 0) D (zty cI cC cZ cV) [.ref (q 10), .int (nI v)] N q f (pW N q (va_up (va_up f 17 (.inl (cC, 2000, .inl (va_cpy pool (va_cpy tx tx p (p + c) (sz - p)) a p c)))) 10 (zmo q n po th (sz + c) ty))) := by
  refine zC.of (by decide) (by simp [Value.category]) (Nat.le_of_ble_eq_true rfl) (fun G X Y => ?_)
  show G 0 0 0 [some (.ref (q 10)), some (.int (nI v)), none] [] N q f
  have loop2 : ∀ (d i : Nat), i + d = c → G 0 0 44 [some (.ref (q 10)), some (.int (nI v)), some (.int (nI i))] [] N q (va_up f 17 (.inl (cC, 2000, .inl (va_cpy pool (va_cpy tx tx p (p + c) (sz - p)) a p i)))) := by
    intro d
    induction d with
    | zero =>
      intro i hi
      show G 0 0 44 [some (.ref (q 10)), some (.int (nI v)), some (.int (nI i))] [] N q (va_up f 17 (.inl (cC, 2000, .inl (va_cpy pool (va_cpy tx tx p (p + c) (sz - p)) a p i))))
      refine zr_iload_n X d_O_bring_44 rfl ?_
      refine zr_aload_n X d_O_bring_45 rfl ?_
      refine zr_get X F_O_24 d_O_bring_46 (by omega) (up_ne (by decide) h10) (v := .ref (q 14)) rfl ?_
      refine zr_iload_n X d_O_bring_49 rfl ?_
      refine zr_iaload (v := nI c) X 0 d_O_bring_50 (by omega) (up_ne (by decide) h14) rfl (by omega) (by decide) hc ?_
      refine zr_icmp_get (tgt := 86) X d_O_bring_51 rfl (nI_le (by omega) (by omega)) ?_
      refine zr_aload_n X d_O_bring_86 rfl ?_
      refine zr_aload_n X d_O_bring_87 rfl ?_
      refine zr_get X F_O_55 d_O_bring_88 (by omega) (up_ne (by decide) h10) (v := .int (nI sz)) rfl ?_
      refine zr_aload_n X d_O_bring_91 rfl ?_
      refine zr_get X F_O_24 d_O_bring_92 (by omega) (up_ne (by decide) h10) (v := .ref (q 14)) rfl ?_
      refine zr_iload_n X d_O_bring_95 rfl ?_
      refine zr_iaload (v := nI c) X 0 d_O_bring_96 (by omega) (up_ne (by decide) h14) rfl (by omega) (by decide) hc ?_
      refine zr_iadd (z := nI (sz + c)) X d_O_bring_97 (nI_add _ _) ?_
      refine zr_put (fs' := [.int (nI n), .ref (q 11), .ref (q 12), .ref (q 13), .ref (q 14), .ref (q 15), .int (nI po), .ref (q 16), .int (nI th), .int (nI (sz + c)), .ref (q 17), .ref (q 18), .int (nI ty), .ref (q 19), .ref (q 20), .ref (q 21), .ref (q 22)]) X F_O_55 d_O_bring_98 (by omega) (up_ne (by decide) h10) rfl rfl (Nat.le_of_ble_eq_true rfl) rfl ?_
      refine zr_return Y d_O_bring_101 (Nat.le_of_ble_eq_true rfl) (Nat.le_of_ble_eq_true rfl) ?_
      exact ⟨rfl, rfl, rfl, by rw [show i = c by omega]⟩
    | succ d ih =>
      intro i hi
      show G 0 0 44 [some (.ref (q 10)), some (.int (nI v)), some (.int (nI i))] [] N q (va_up f 17 (.inl (cC, 2000, .inl (va_cpy pool (va_cpy tx tx p (p + c) (sz - p)) a p i))))
      refine zr_iload_n X d_O_bring_44 rfl ?_
      refine zr_aload_n X d_O_bring_45 rfl ?_
      refine zr_get X F_O_24 d_O_bring_46 (by omega) (up_ne (by decide) h10) (v := .ref (q 14)) rfl ?_
      refine zr_iload_n X d_O_bring_49 rfl ?_
      refine zr_iaload (v := nI c) X 0 d_O_bring_50 (by omega) (up_ne (by decide) h14) rfl (by omega) (by decide) hc ?_
      refine zr_icmp_gef (tgt := 86) X d_O_bring_51 rfl (nI_ge (by omega) (by omega)) ?_
      refine zr_aload_n X d_O_bring_54 rfl ?_
      refine zr_get X F_O_34 d_O_bring_55 (by omega) (up_ne (by decide) h10) (v := .ref (q 17)) rfl ?_
      refine zr_aload_n X d_O_bring_58 rfl ?_
      refine zr_get X F_O_21 d_O_bring_59 (by omega) (up_ne (by decide) h10) (v := .ref (q 13)) rfl ?_
      refine zr_iload_n X d_O_bring_62 rfl ?_
      refine zr_iaload (v := nI p) X 0 d_O_bring_63 (by omega) (up_ne (by decide) h13) rfl (by omega) (by decide) hp ?_
      refine zr_iload_n X d_O_bring_64 rfl ?_
      refine zr_iadd (z := nI (p + i)) X d_O_bring_65 (nI_add _ _) ?_
      refine zr_aload_n X d_O_bring_66 rfl ?_
      refine zr_get X F_O_30 d_O_bring_67 (by omega) (up_ne (by decide) h10) (v := .ref (q 16)) rfl ?_
      refine zr_aload_n X d_O_bring_70 rfl ?_
      refine zr_get X F_O_27 d_O_bring_71 (by omega) (up_ne (by decide) h10) (v := .ref (q 15)) rfl ?_
      refine zr_iload_n X d_O_bring_74 rfl ?_
      refine zr_iaload (v := nI a) X 0 d_O_bring_75 (by omega) (up_ne (by decide) h15) rfl (by omega) (by decide) ha ?_
      refine zr_iload_n X d_O_bring_76 rfl ?_
      refine zr_iadd (z := nI (a + i)) X d_O_bring_77 (nI_add _ _) ?_
      refine zr_caload (v := pool (a + i)) X 1 d_O_bring_78 (by omega) (up_ne (by decide) h16) rfl (by omega) (by decide) rfl ?_
      refine zr_castore X 1 d_O_bring_79 (by omega) up_eq rfl (by omega) (by decide) (z_charN (hpool _)) ?_
      refine zr_iinc (v := nI (i + 1)) (lv' := [some (.ref (q 10)), some (.int (nI v)), some (.int (nI (i + 1)))]) X d_O_bring_80 rfl (nI_1 _) (by decide) rfl ?_
      refine zr_goto (tgt := 44) X d_O_bring_83 rfl ?_
      have h9 := ih (i + 1) (by omega)
      rw [← cpy_up] at h9
      rw [bx_uu]
      exact h9
  have loop1 : ∀ (d i : Nat), i = p + d → i ≤ sz → G 0 0 7 [some (.ref (q 10)), some (.int (nI v)), some (.int (nI i - 1))] [] N q (va_up f 17 (.inl (cC, 2000, .inl (va_cpy tx tx i (i + c) (sz - i))))) := by
    intro d
    induction d with
    | zero =>
      intro i hi his
      show G 0 0 7 [some (.ref (q 10)), some (.int (nI v)), some (.int (nI i - 1))] [] N q (va_up f 17 (.inl (cC, 2000, .inl (va_cpy tx tx i (i + c) (sz - i)))))
      refine zr_iload_n X d_O_bring_7 rfl ?_
      refine zr_aload_n X d_O_bring_8 rfl ?_
      refine zr_get X F_O_21 d_O_bring_9 (by omega) (up_ne (by decide) h10) (v := .ref (q 13)) rfl ?_
      refine zr_iload_n X d_O_bring_12 rfl ?_
      refine zr_iaload (v := nI p) X 0 d_O_bring_13 (by omega) (up_ne (by decide) h13) rfl (by omega) (by decide) hp ?_
      refine zr_icmp_ltt (tgt := 42) X d_O_bring_14 rfl (z_pred_lt (by omega) (by omega)) ?_
      refine zr_iconst (v := nI 0) X d_O_bring_42 (by decide) ?_
      refine zr_istore_n (lv' := [some (.ref (q 10)), some (.int (nI v)), some (.int (nI 0))]) X d_O_bring_43 (by decide) rfl ?_
      have h9 := loop2 c 0 (by omega)
      rw [cpy_0] at h9
      rw [show i = p by omega]
      exact h9
    | succ d ih =>
      intro i hi his
      obtain ⟨i, rfl⟩ : ∃ z, i = z + 1 := ⟨i - 1, by omega⟩
      rw [nI_pred i]
      show G 0 0 7 [some (.ref (q 10)), some (.int (nI v)), some (.int (nI i))] [] N q (va_up f 17 (.inl (cC, 2000, .inl (va_cpy tx tx (i + 1) (i + 1 + c) (sz - (i + 1))))))
      refine zr_iload_n X d_O_bring_7 rfl ?_
      refine zr_aload_n X d_O_bring_8 rfl ?_
      refine zr_get X F_O_21 d_O_bring_9 (by omega) (up_ne (by decide) h10) (v := .ref (q 13)) rfl ?_
      refine zr_iload_n X d_O_bring_12 rfl ?_
      refine zr_iaload (v := nI p) X 0 d_O_bring_13 (by omega) (up_ne (by decide) h13) rfl (by omega) (by decide) hp ?_
      refine zr_icmp_ltf (tgt := 42) X d_O_bring_14 rfl (nI_nlt (by omega) (by omega)) ?_
      refine zr_aload_n X d_O_bring_17 rfl ?_
      refine zr_get X F_O_34 d_O_bring_18 (by omega) (up_ne (by decide) h10) (v := .ref (q 17)) rfl ?_
      refine zr_iload_n X d_O_bring_21 rfl ?_
      refine zr_aload_n X d_O_bring_22 rfl ?_
      refine zr_get X F_O_24 d_O_bring_23 (by omega) (up_ne (by decide) h10) (v := .ref (q 14)) rfl ?_
      refine zr_iload_n X d_O_bring_26 rfl ?_
      refine zr_iaload (v := nI c) X 0 d_O_bring_27 (by omega) (up_ne (by decide) h14) rfl (by omega) (by decide) hc ?_
      refine zr_iadd (z := nI (i + c)) X d_O_bring_28 (nI_add _ _) ?_
      refine zr_aload_n X d_O_bring_29 rfl ?_
      refine zr_get X F_O_34 d_O_bring_30 (by omega) (up_ne (by decide) h10) (v := .ref (q 17)) rfl ?_
      refine zr_iload_n X d_O_bring_33 rfl ?_
      refine zr_caload (v := tx i) X 1 d_O_bring_34 (by omega) up_eq rfl (by omega) (by decide) (cpy_out (Or.inl (by omega))) ?_
      refine zr_castore X 1 d_O_bring_35 (by omega) up_eq rfl (by omega) (by decide) (z_charN (htx _)) ?_
      refine zr_iinc (v := nI i - 1) (lv' := [some (.ref (q 10)), some (.int (nI v)), some (.int (nI i - 1))]) X d_O_bring_36 rfl (z_dec _) (by decide) rfl ?_
      refine zr_goto (tgt := 7) X d_O_bring_39 rfl ?_
      have h9 := ih i (by omega) (by omega)
      rw [← cpy_dn (show i < sz by omega)] at h9
      rw [bx_uu]
      exact h9
  refine zr_aload_n X d_O_bring_0 rfl ?_
  refine zr_get X F_O_55 d_O_bring_1 (by omega) h10 (v := .int (nI sz)) rfl ?_
  refine zr_iconst (v := 1) X d_O_bring_4 (by decide) ?_
  refine zr_isub (z := nI sz - 1) X d_O_bring_5 rfl ?_
  refine zr_istore_n (lv' := [some (.ref (q 10)), some (.int (nI v)), some (.int (nI sz - 1))]) X d_O_bring_6 (by decide) rfl ?_
  have h0 := loop1 (sz - p) sz (by omega) (Nat.le_refl _)
  rw [Nat.sub_self, cpy_0, up_self h17] at h0
  exact h0

set_option maxRecDepth 100000 in
set_option maxHeartbeats 4000000 in
theorem c_O_take {l : Launch} {D : va_G} {cI cC cZ cV : ClassId} {N : Nat} {q : Nat → Nat} {f : zF} (hN : 23 ≤ N) {n po th sz ty : Nat} (h10 : f 10 = zmo q n po th sz ty) {pl : Nat → Int32} (h13 : f 13 = .inl (cI, 122, .inl pl)) {mn : Nat → Int32} (h14 : f 14 = .inl (cI, 122, .inl mn)) {tx : Nat → Int32} (h17 : f 17 = .inl (cC, 2000, .inl tx)) (htx : zCh tx) {v p c : Nat} (hv : v < 122) (hp : pl v = nI p) (hc : mn v = nI c) (hps : p + c ≤ sz) (hsz : sz ≤ 2000) : zC l y_O_take b_O_take 3 none (rmD 0 0 0) D (zty cI cC cZ cV) [.ref (q 10), .int (nI v)] N q f (pW N q (va_up (va_up f 10 (zmo q n po th (sz - c) ty)) 17 (.inl (cC, 2000, .inl (va_cpy tx tx (p + c) p (sz - c - p)))))) := by
  refine zC.of (by decide) (by simp [Value.category]) (Nat.le_of_ble_eq_true rfl) (fun G X Y => ?_)
  show G 0 0 0 [some (.ref (q 10)), some (.int (nI v)), none] [] N q f
  have loop : ∀ (d i : Nat), p + i + d = sz - c → G 0 0 22 [some (.ref (q 10)), some (.int (nI v)), some (.int (nI (p + i)))] [] N q (va_up (va_up f 10 (zmo q n po th (sz - c) ty)) 17 (.inl (cC, 2000, .inl (va_cpy tx tx (p + c) p i)))) := by
    intro d
    induction d with
    | zero =>
      intro i hi
      show G 0 0 22 [some (.ref (q 10)), some (.int (nI v)), some (.int (nI (p + i)))] [] N q (va_up (va_up f 10 (zmo q n po th (sz - c) ty)) 17 (.inl (cC, 2000, .inl (va_cpy tx tx (p + c) p i))))
      refine zr_iload_n X d_O_take_22 rfl ?_
      refine zr_aload_n X d_O_take_23 rfl ?_
      refine zr_get X F_O_55 d_O_take_24 (by omega) (up_ne (by decide) up_eq) (v := .int (nI (sz - c))) rfl ?_
      refine zr_icmp_get (tgt := 55) X d_O_take_27 rfl (nI_le (by omega) (by omega)) ?_
      refine zr_return Y d_O_take_55 (Nat.le_of_ble_eq_true rfl) (Nat.le_of_ble_eq_true rfl) ?_
      exact ⟨rfl, rfl, rfl, by rw [show i = sz - c - p by omega]⟩
    | succ d ih =>
      intro i hi
      show G 0 0 22 [some (.ref (q 10)), some (.int (nI v)), some (.int (nI (p + i)))] [] N q (va_up (va_up f 10 (zmo q n po th (sz - c) ty)) 17 (.inl (cC, 2000, .inl (va_cpy tx tx (p + c) p i))))
      refine zr_iload_n X d_O_take_22 rfl ?_
      refine zr_aload_n X d_O_take_23 rfl ?_
      refine zr_get X F_O_55 d_O_take_24 (by omega) (up_ne (by decide) up_eq) (v := .int (nI (sz - c))) rfl ?_
      refine zr_icmp_gef (tgt := 55) X d_O_take_27 rfl (nI_ge (by omega) (by omega)) ?_
      refine zr_aload_n X d_O_take_30 rfl ?_
      refine zr_get X F_O_34 d_O_take_31 (by omega) (up_ne (by decide) up_eq) (v := .ref (q 17)) rfl ?_
      refine zr_iload_n X d_O_take_34 rfl ?_
      refine zr_aload_n X d_O_take_35 rfl ?_
      refine zr_get X F_O_34 d_O_take_36 (by omega) (up_ne (by decide) up_eq) (v := .ref (q 17)) rfl ?_
      refine zr_iload_n X d_O_take_39 rfl ?_
      refine zr_aload_n X d_O_take_40 rfl ?_
      refine zr_get X F_O_24 d_O_take_41 (by omega) (up_ne (by decide) up_eq) (v := .ref (q 14)) rfl ?_
      refine zr_iload_n X d_O_take_44 rfl ?_
      refine zr_iaload (v := nI c) X 0 d_O_take_45 (by omega) (up_ne (by decide) (up_ne (by decide) h14)) rfl (by omega) (by decide) hc ?_
      refine zr_iadd (z := nI ((p + i) + c)) X d_O_take_46 (nI_add _ _) ?_
      refine zr_caload (v := tx (p + c + i)) X 1 d_O_take_47 (by omega) up_eq rfl (by omega) (by decide) ((cpy_out (Or.inr (by omega))).trans (by rw [show p + i + c = p + c + i by omega])) ?_
      refine zr_castore X 1 d_O_take_48 (by omega) up_eq rfl (by omega) (by decide) (z_charN (htx _)) ?_
      refine zr_iinc (v := nI (p + i + 1)) (lv' := [some (.ref (q 10)), some (.int (nI v)), some (.int (nI (p + i + 1)))]) X d_O_take_49 rfl (nI_1 _) (by decide) rfl ?_
      refine zr_goto (tgt := 22) X d_O_take_52 rfl ?_
      have h9 := ih (i + 1) (by omega)
      rw [← cpy_up] at h9
      rw [bx_uu]
      exact h9
  refine zr_aload_n X d_O_take_0 rfl ?_
  refine zr_aload_n X d_O_take_1 rfl ?_
  refine zr_get X F_O_55 d_O_take_2 (by omega) h10 (v := .int (nI sz)) rfl ?_
  refine zr_aload_n X d_O_take_5 rfl ?_
  refine zr_get X F_O_24 d_O_take_6 (by omega) h10 (v := .ref (q 14)) rfl ?_
  refine zr_iload_n X d_O_take_9 rfl ?_
  refine zr_iaload (v := nI c) X 0 d_O_take_10 (by omega) h14 rfl (by omega) (by decide) hc ?_
  refine zr_isub (z := nI (sz - c)) X d_O_take_11 (pk_sub (by omega)) ?_
  refine zr_put (fs' := [.int (nI n), .ref (q 11), .ref (q 12), .ref (q 13), .ref (q 14), .ref (q 15), .int (nI po), .ref (q 16), .int (nI th), .int (nI (sz - c)), .ref (q 17), .ref (q 18), .int (nI ty), .ref (q 19), .ref (q 20), .ref (q 21), .ref (q 22)]) X F_O_55 d_O_take_12 (by omega) h10 rfl rfl (Nat.le_of_ble_eq_true rfl) rfl ?_
  refine zr_aload_n X d_O_take_15 rfl ?_
  refine zr_get X F_O_21 d_O_take_16 (by omega) up_eq (v := .ref (q 13)) rfl ?_
  refine zr_iload_n X d_O_take_19 rfl ?_
  refine zr_iaload (v := nI p) X 0 d_O_take_20 (by omega) (up_ne (by decide) h13) rfl (by omega) (by decide) hp ?_
  refine zr_istore_n (lv' := [some (.ref (q 10)), some (.int (nI v)), some (.int (nI p))]) X d_O_take_21 (by decide) rfl ?_
  have h0 := loop (sz - c - p) 0 (by omega)
  rw [cpy_0, up_self (up_ne (by decide) h17)] at h0
  exact h0

set_option maxRecDepth 100000 in
set_option maxHeartbeats 4000000 in
theorem c_O_moveIn {l : Launch} {D : va_G} {cI cC cZ cV : ClassId} {N : Nat} {q : Nat → Nat} {f : zF} (hN : 23 ≤ N) {n po th sz ty : Nat} (h10 : f 10 = zmo q n po th sz ty) {ma : Nat → Int32} (h21 : f 21 = .inl (cI, 6, .inl ma)) {mr : Nat → Int32} (h22 : f 22 = .inl (cZ, 6, .inl mr)) {P C : Int32} : zC l y_O_moveMarks b_O_moveMarks 6 none (rmD 0 0 0) D (zty cI cC cZ cV) [.ref (q 10), .int P, .int C, .int (nI 1)] N q f (pW N q (va_up f 21 (.inl (cI, 6, .inl (zst 6 (fun m => zcm P C (ma m) (mr m)) ma))))) := by
  refine zC.of (by decide) (by simp [Value.category]) (Nat.le_of_ble_eq_true rfl) (fun G X Y => ?_)
  show G 0 0 0 [some (.ref (q 10)), some (.int P), some (.int C), some (.int (nI 1)), none, none] [] N q f
  have loop : ∀ (d i : Nat) (o : Option Value), i + d = 6 → G 0 0 3 [some (.ref (q 10)), some (.int P), some (.int C), some (.int (nI 1)), some (.int (nI i)), o] [] N q (va_up f 21 (.inl (cI, 6, .inl (zst i (fun m => zcm P C (ma m) (mr m)) ma)))) := by
    intro d
    induction d with
    | zero =>
      intro i o hi
      show G 0 0 3 [some (.ref (q 10)), some (.int P), some (.int C), some (.int (nI 1)), some (.int (nI i)), o] [] N q (va_up f 21 (.inl (cI, 6, .inl (zst i (fun m => zcm P C (ma m) (mr m)) ma))))
      refine zr_iload X d_O_moveMarks_3 rfl ?_
      refine zr_bipush (v := nI 6) X d_O_moveMarks_5 (by decide) ?_
      refine zr_icmp_get (tgt := 104) X d_O_moveMarks_7 rfl (nI_le (by omega) (by omega)) ?_
      refine zr_return Y d_O_moveMarks_104 (Nat.le_of_ble_eq_true rfl) (Nat.le_of_ble_eq_true rfl) ?_
      exact ⟨rfl, rfl, rfl, by rw [show i = 6 by omega]⟩
    | succ d ih =>
      intro i o hi
      show G 0 0 3 [some (.ref (q 10)), some (.int P), some (.int C), some (.int (nI 1)), some (.int (nI i)), o] [] N q (va_up f 21 (.inl (cI, 6, .inl (zst i (fun m => zcm P C (ma m) (mr m)) ma))))
      refine zr_iload X d_O_moveMarks_3 rfl ?_
      refine zr_bipush (v := nI 6) X d_O_moveMarks_5 (by decide) ?_
      refine zr_icmp_gef (tgt := 104) X d_O_moveMarks_7 rfl (nI_ge (by omega) (by decide)) ?_
      refine zr_aload_n X d_O_moveMarks_10 rfl ?_
      refine zr_get X F_O_46 d_O_moveMarks_11 (by omega) (up_ne (by decide) h10) (v := .ref (q 21)) rfl ?_
      refine zr_iload X d_O_moveMarks_14 rfl ?_
      refine zr_iaload (v := ma i) X 0 d_O_moveMarks_16 (by omega) up_eq rfl (by omega) (by decide) zst_at ?_
      refine zr_istore (lv' := [some (.ref (q 10)), some (.int P), some (.int C), some (.int (nI 1)), some (.int (nI i)), some (.int (ma i))]) X d_O_moveMarks_17 (by decide) rfl ?_
      refine zr_iload_n X d_O_moveMarks_19 rfl ?_
      refine zr_if_eqf (tgt := 64) X d_O_moveMarks_20 rfl (by decide) ?_
      refine zr_aload_n X d_O_moveMarks_23 rfl ?_
      refine zr_get X F_O_46 d_O_moveMarks_24 (by omega) (up_ne (by decide) h10) (v := .ref (q 21)) rfl ?_
      refine zr_iload X d_O_moveMarks_27 rfl ?_
      refine zr_iload X d_O_moveMarks_29 rfl ?_
      refine zr_iload_n X d_O_moveMarks_31 rfl ?_
      refine zr_icmp_gt (tgt := 51) X d_O_moveMarks_32 rfl (fun h32 => ?_) (fun h32 => ?_)
      · skip
        refine zr_iload X d_O_moveMarks_51 rfl ?_
        refine zr_iload_n X d_O_moveMarks_53 rfl ?_
        refine zr_iadd (z := (ma i) + C) X d_O_moveMarks_54 rfl ?_
        refine zr_goto (tgt := 60) X d_O_moveMarks_55 rfl ?_
        refine zr_iastore X 0 d_O_moveMarks_60 (by omega) up_eq rfl (by omega) (by decide) ?_
        refine zr_goto (tgt := 98) X d_O_moveMarks_61 rfl ?_
        refine zr_iinc (v := nI (i + 1)) (lv' := [some (.ref (q 10)), some (.int P), some (.int C), some (.int (nI 1)), some (.int (nI (i + 1))), some (.int (ma i))]) X d_O_moveMarks_98 rfl (nI_1 _) (by decide) rfl ?_
        refine zr_goto (tgt := 3) X d_O_moveMarks_101 rfl ?_
        have h9 := ih (i + 1) (some (.int (ma i))) (by omega)
        rw [← zst_up (v := ma i + C) (if_pos (Or.inl h32))] at h9
        rw [bx_uu]
        exact h9
      · skip
        refine zr_iload X d_O_moveMarks_35 rfl ?_
        refine zr_iload_n X d_O_moveMarks_37 rfl ?_
        refine zr_icmp_ne (tgt := 58) X d_O_moveMarks_38 rfl (fun h38 => ?_) (fun h38 => ?_)
        · skip
          refine zr_iload X d_O_moveMarks_58 rfl ?_
          refine zr_iastore X 0 d_O_moveMarks_60 (by omega) up_eq rfl (by omega) (by decide) ?_
          refine zr_goto (tgt := 98) X d_O_moveMarks_61 rfl ?_
          refine zr_iinc (v := nI (i + 1)) (lv' := [some (.ref (q 10)), some (.int P), some (.int C), some (.int (nI 1)), some (.int (nI (i + 1))), some (.int (ma i))]) X d_O_moveMarks_98 rfl (nI_1 _) (by decide) rfl ?_
          refine zr_goto (tgt := 3) X d_O_moveMarks_101 rfl ?_
          have h9 := ih (i + 1) (some (.int (ma i))) (by omega)
          rw [← zst_up (v := ma i) (if_neg (fun h9 => h9.elim h32 (fun h8 => h38 h8.1)))] at h9
          rw [bx_uu]
          exact h9
        · skip
          refine zr_aload_n X d_O_moveMarks_41 rfl ?_
          refine zr_get X F_O_49 d_O_moveMarks_42 (by omega) (up_ne (by decide) h10) (v := .ref (q 22)) rfl ?_
          refine zr_iload X d_O_moveMarks_45 rfl ?_
          refine zr_baload (v := mr i) X 2 d_O_moveMarks_47 (by omega) (up_ne (by decide) h22) rfl (by omega) (by decide) rfl ?_
          refine zr_if_eq (tgt := 58) X d_O_moveMarks_48 rfl (fun h48 => ?_) (fun h48 => ?_)
          · skip
            refine zr_iload X d_O_moveMarks_58 rfl ?_
            refine zr_iastore X 0 d_O_moveMarks_60 (by omega) up_eq rfl (by omega) (by decide) ?_
            refine zr_goto (tgt := 98) X d_O_moveMarks_61 rfl ?_
            refine zr_iinc (v := nI (i + 1)) (lv' := [some (.ref (q 10)), some (.int P), some (.int C), some (.int (nI 1)), some (.int (nI (i + 1))), some (.int (ma i))]) X d_O_moveMarks_98 rfl (nI_1 _) (by decide) rfl ?_
            refine zr_goto (tgt := 3) X d_O_moveMarks_101 rfl ?_
            have h9 := ih (i + 1) (some (.int (ma i))) (by omega)
            rw [← zst_up (v := ma i) (if_neg (fun h9 => h9.elim h32 (fun h8 => h8.2 h48)))] at h9
            rw [bx_uu]
            exact h9
          · skip
            refine zr_iload X d_O_moveMarks_51 rfl ?_
            refine zr_iload_n X d_O_moveMarks_53 rfl ?_
            refine zr_iadd (z := (ma i) + C) X d_O_moveMarks_54 rfl ?_
            refine zr_goto (tgt := 60) X d_O_moveMarks_55 rfl ?_
            refine zr_iastore X 0 d_O_moveMarks_60 (by omega) up_eq rfl (by omega) (by decide) ?_
            refine zr_goto (tgt := 98) X d_O_moveMarks_61 rfl ?_
            refine zr_iinc (v := nI (i + 1)) (lv' := [some (.ref (q 10)), some (.int P), some (.int C), some (.int (nI 1)), some (.int (nI (i + 1))), some (.int (ma i))]) X d_O_moveMarks_98 rfl (nI_1 _) (by decide) rfl ?_
            refine zr_goto (tgt := 3) X d_O_moveMarks_101 rfl ?_
            have h9 := ih (i + 1) (some (.int (ma i))) (by omega)
            rw [← zst_up (v := ma i + C) (if_pos (Or.inr ⟨h38, h48⟩))] at h9
            rw [bx_uu]
            exact h9
  refine zr_iconst (v := nI 0) X d_O_moveMarks_0 (by decide) ?_
  refine zr_istore (lv' := [some (.ref (q 10)), some (.int P), some (.int C), some (.int (nI 1)), some (.int (nI 0)), none]) X d_O_moveMarks_1 (by decide) rfl ?_
  have h0 := loop 6 0 none (by omega)
  rw [zst_0, up_self h21] at h0
  exact h0

set_option maxRecDepth 100000 in
set_option maxHeartbeats 4000000 in
theorem c_O_moveOut {l : Launch} {D : va_G} {cI cC cZ cV : ClassId} {N : Nat} {q : Nat → Nat} {f : zF} (hN : 23 ≤ N) {n po th sz ty : Nat} (h10 : f 10 = zmo q n po th sz ty) {ma : Nat → Int32} (h21 : f 21 = .inl (cI, 6, .inl ma)) {mr : Nat → Int32} (h22 : f 22 = .inl (cZ, 6, .inl mr)) {P C : Int32} : zC l y_O_moveMarks b_O_moveMarks 6 none (rmD 0 0 0) D (zty cI cC cZ cV) [.ref (q 10), .int P, .int C, .int (nI 0)] N q f (pW N q (va_up f 21 (.inl (cI, 6, .inl (zst 6 (fun m => zgm P C (ma m)) ma))))) := by
  refine zC.of (by decide) (by simp [Value.category]) (Nat.le_of_ble_eq_true rfl) (fun G X Y => ?_)
  show G 0 0 0 [some (.ref (q 10)), some (.int P), some (.int C), some (.int (nI 0)), none, none] [] N q f
  have loop : ∀ (d i : Nat) (o : Option Value), i + d = 6 → G 0 0 3 [some (.ref (q 10)), some (.int P), some (.int C), some (.int (nI 0)), some (.int (nI i)), o] [] N q (va_up f 21 (.inl (cI, 6, .inl (zst i (fun m => zgm P C (ma m)) ma)))) := by
    intro d
    induction d with
    | zero =>
      intro i o hi
      show G 0 0 3 [some (.ref (q 10)), some (.int P), some (.int C), some (.int (nI 0)), some (.int (nI i)), o] [] N q (va_up f 21 (.inl (cI, 6, .inl (zst i (fun m => zgm P C (ma m)) ma))))
      refine zr_iload X d_O_moveMarks_3 rfl ?_
      refine zr_bipush (v := nI 6) X d_O_moveMarks_5 (by decide) ?_
      refine zr_icmp_get (tgt := 104) X d_O_moveMarks_7 rfl (nI_le (by omega) (by omega)) ?_
      refine zr_return Y d_O_moveMarks_104 (Nat.le_of_ble_eq_true rfl) (Nat.le_of_ble_eq_true rfl) ?_
      exact ⟨rfl, rfl, rfl, by rw [show i = 6 by omega]⟩
    | succ d ih =>
      intro i o hi
      show G 0 0 3 [some (.ref (q 10)), some (.int P), some (.int C), some (.int (nI 0)), some (.int (nI i)), o] [] N q (va_up f 21 (.inl (cI, 6, .inl (zst i (fun m => zgm P C (ma m)) ma))))
      refine zr_iload X d_O_moveMarks_3 rfl ?_
      refine zr_bipush (v := nI 6) X d_O_moveMarks_5 (by decide) ?_
      refine zr_icmp_gef (tgt := 104) X d_O_moveMarks_7 rfl (nI_ge (by omega) (by decide)) ?_
      refine zr_aload_n X d_O_moveMarks_10 rfl ?_
      refine zr_get X F_O_46 d_O_moveMarks_11 (by omega) (up_ne (by decide) h10) (v := .ref (q 21)) rfl ?_
      refine zr_iload X d_O_moveMarks_14 rfl ?_
      refine zr_iaload (v := ma i) X 0 d_O_moveMarks_16 (by omega) up_eq rfl (by omega) (by decide) zst_at ?_
      refine zr_istore (lv' := [some (.ref (q 10)), some (.int P), some (.int C), some (.int (nI 0)), some (.int (nI i)), some (.int (ma i))]) X d_O_moveMarks_17 (by decide) rfl ?_
      refine zr_iload_n X d_O_moveMarks_19 rfl ?_
      refine zr_if_eqt (tgt := 64) X d_O_moveMarks_20 rfl (by decide) ?_
      refine zr_aload_n X d_O_moveMarks_64 rfl ?_
      refine zr_get X F_O_46 d_O_moveMarks_65 (by omega) (up_ne (by decide) h10) (v := .ref (q 21)) rfl ?_
      refine zr_iload X d_O_moveMarks_68 rfl ?_
      refine zr_iload X d_O_moveMarks_70 rfl ?_
      refine zr_iload_n X d_O_moveMarks_72 rfl ?_
      refine zr_iload_n X d_O_moveMarks_73 rfl ?_
      refine zr_iadd (z := P + C) X d_O_moveMarks_74 rfl ?_
      refine zr_icmp_lt (tgt := 85) X d_O_moveMarks_75 rfl (fun h75 => ?_) (fun h75 => ?_)
      · skip
        refine zr_iload X d_O_moveMarks_85 rfl ?_
        refine zr_iload_n X d_O_moveMarks_87 rfl ?_
        refine zr_icmp_le (tgt := 95) X d_O_moveMarks_88 rfl (fun h88 => ?_) (fun h88 => ?_)
        · skip
          refine zr_iload X d_O_moveMarks_95 rfl ?_
          refine zr_iastore X 0 d_O_moveMarks_97 (by omega) up_eq rfl (by omega) (by decide) ?_
          refine zr_iinc (v := nI (i + 1)) (lv' := [some (.ref (q 10)), some (.int P), some (.int C), some (.int (nI 0)), some (.int (nI (i + 1))), some (.int (ma i))]) X d_O_moveMarks_98 rfl (nI_1 _) (by decide) rfl ?_
          refine zr_goto (tgt := 3) X d_O_moveMarks_101 rfl ?_
          have h9 := ih (i + 1) (some (.int (ma i))) (by omega)
          rw [← zst_up (v := ma i) ((if_neg (fun h9 => h9 h75)).trans (if_neg (fun h9 => h9 h88)))] at h9
          rw [bx_uu]
          exact h9
        · skip
          refine zr_iload_n X d_O_moveMarks_91 rfl ?_
          refine zr_goto (tgt := 97) X d_O_moveMarks_92 rfl ?_
          refine zr_iastore X 0 d_O_moveMarks_97 (by omega) up_eq rfl (by omega) (by decide) ?_
          refine zr_iinc (v := nI (i + 1)) (lv' := [some (.ref (q 10)), some (.int P), some (.int C), some (.int (nI 0)), some (.int (nI (i + 1))), some (.int (ma i))]) X d_O_moveMarks_98 rfl (nI_1 _) (by decide) rfl ?_
          refine zr_goto (tgt := 3) X d_O_moveMarks_101 rfl ?_
          have h9 := ih (i + 1) (some (.int (ma i))) (by omega)
          rw [← zst_up (v := P) ((if_neg (fun h9 => h9 h75)).trans (if_pos h88))] at h9
          rw [bx_uu]
          exact h9
      · skip
        refine zr_iload X d_O_moveMarks_78 rfl ?_
        refine zr_iload_n X d_O_moveMarks_80 rfl ?_
        refine zr_isub (z := (ma i) - C) X d_O_moveMarks_81 rfl ?_
        refine zr_goto (tgt := 97) X d_O_moveMarks_82 rfl ?_
        refine zr_iastore X 0 d_O_moveMarks_97 (by omega) up_eq rfl (by omega) (by decide) ?_
        refine zr_iinc (v := nI (i + 1)) (lv' := [some (.ref (q 10)), some (.int P), some (.int C), some (.int (nI 0)), some (.int (nI (i + 1))), some (.int (ma i))]) X d_O_moveMarks_98 rfl (nI_1 _) (by decide) rfl ?_
        refine zr_goto (tgt := 3) X d_O_moveMarks_101 rfl ?_
        have h9 := ih (i + 1) (some (.int (ma i))) (by omega)
        rw [← zst_up (v := ma i - C) (if_pos h75)] at h9
        rw [bx_uu]
        exact h9
  refine zr_iconst (v := nI 0) X d_O_moveMarks_0 (by decide) ?_
  refine zr_istore (lv' := [some (.ref (q 10)), some (.int P), some (.int C), some (.int (nI 0)), some (.int (nI 0)), none]) X d_O_moveMarks_1 (by decide) rfl ?_
  have h0 := loop 6 0 none (by omega)
  rw [zst_0, up_self h21] at h0
  exact h0
end
section
set_option maxRecDepth 100000 in
set_option maxHeartbeats 4000000 in
theorem c_O_at_y {l : Launch} {D : va_G} {cI cC cZ cV : ClassId} {N : Nat} {q : Nat → Nat} {f : zF} (hN : 23 ≤ N) {n po th sz ty : Nat} (h10 : f 10 = zmo q n po th sz ty) {tx : Nat → Int32} (h17 : f 17 = .inl (cC, 2000, .inl tx)) (htx : zCh tx) {i : Nat} (hi : i < sz) (hs : sz ≤ 2000) : zC l y_O_at b_O_at 2 (some .char) (rmD 0 0 0) D (zty cI cC cZ cV) [.ref (q 10), .int (nI i)] N q f (pRd N q f (tx i)) := by
  refine zC.of (by decide) (by simp [Value.category]) (Nat.le_of_ble_eq_true rfl) (fun G X Y => ?_)
  show G 0 0 0 [some (.ref (q 10)), some (.int (nI i))] [] N q f
  refine zr_iload_n X d_O_at_0 rfl ?_
  refine zr_if_ltf (tgt := 21) X d_O_at_1 rfl (nI_pos (by omega)) ?_
  refine zr_iload_n X d_O_at_4 rfl ?_
  refine zr_aload_n X d_O_at_5 rfl ?_
  refine zr_get X F_O_55 d_O_at_6 (by omega) h10 (v := .int (nI sz)) rfl ?_
  refine zr_icmp_gef (tgt := 21) X d_O_at_9 rfl (nI_ge hi (by omega)) ?_
  refine zr_aload_n X d_O_at_12 rfl ?_
  refine zr_get X F_O_34 d_O_at_13 (by omega) h10 (v := .ref (q 17)) rfl ?_
  refine zr_iload_n X d_O_at_16 rfl ?_
  refine zr_caload (v := tx i) X 1 d_O_at_17 (by omega) h17 rfl (by omega) (by decide) rfl ?_
  refine zr_goto (tgt := 22) X d_O_at_18 rfl ?_
  refine zr_ireturn Y d_O_at_22 (z_charR (htx _)) (Nat.le_of_ble_eq_true rfl) (Nat.le_of_ble_eq_true rfl) ?_
  exact ⟨rfl, rfl, rfl, rfl⟩

set_option maxRecDepth 100000 in
set_option maxHeartbeats 4000000 in
theorem c_O_at_n {l : Launch} {D : va_G} {cI cC cZ cV : ClassId} {N : Nat} {q : Nat → Nat} {f : zF} (hN : 23 ≤ N) {n po th sz ty : Nat} (h10 : f 10 = zmo q n po th sz ty) {x : Int32} (hx : zNa x sz) : zC l y_O_at b_O_at 2 (some .char) (rmD 0 0 0) D (zty cI cC cZ cV) [.ref (q 10), .int x] N q f (pRd N q f (nI 0)) := by
  refine zC.of (by decide) (by simp [Value.category]) (Nat.le_of_ble_eq_true rfl) (fun G X Y => ?_)
  show G 0 0 0 [some (.ref (q 10)), some (.int x)] [] N q f
  refine zr_iload_n X d_O_at_0 rfl ?_
  refine zr_if_lt (tgt := 21) X d_O_at_1 rfl (fun h1 => ?_) (fun h1 => ?_)
  · skip
    refine zr_iconst (v := nI 0) X d_O_at_21 (by decide) ?_
    refine zr_ireturn Y d_O_at_22 rfl (Nat.le_of_ble_eq_true rfl) (Nat.le_of_ble_eq_true rfl) ?_
    exact ⟨rfl, rfl, rfl, rfl⟩
  · skip
    refine zr_iload_n X d_O_at_4 rfl ?_
    refine zr_aload_n X d_O_at_5 rfl ?_
    refine zr_get X F_O_55 d_O_at_6 (by omega) h10 (v := .int (nI sz)) rfl ?_
    refine zr_icmp_get (tgt := 21) X d_O_at_9 rfl (hx.resolve_left h1) ?_
    refine zr_iconst (v := nI 0) X d_O_at_21 (by decide) ?_
    refine zr_ireturn Y d_O_at_22 rfl (Nat.le_of_ble_eq_true rfl) (Nat.le_of_ble_eq_true rfl) ?_
    exact ⟨rfl, rfl, rfl, rfl⟩

set_option maxRecDepth 100000 in
set_option maxHeartbeats 4000000 in
theorem c_O_parent_y {l : Launch} {D : va_G} {cI cC cZ cV : ClassId} {N : Nat} {q : Nat → Nat} {f : zF} (hN : 23 ≤ N) {n po th sz ty : Nat} (h10 : f 10 = zmo q n po th sz ty) {pa : Nat → Int32} (h11 : f 11 = .inl (cI, 122, .inl pa)) {v : Nat} (hv : 0 < v) (hn : v < n) (hn2 : n ≤ 122) : zC l y_O_parent b_O_parent 2 (some .int) (rmD 0 0 0) D (zty cI cC cZ cV) [.ref (q 10), .int (nI v)] N q f (pRd N q f (pa v)) := by
  refine zC.of (by decide) (by simp [Value.category]) (Nat.le_of_ble_eq_true rfl) (fun G X Y => ?_)
  show G 0 0 0 [some (.ref (q 10)), some (.int (nI v))] [] N q f
  refine zr_iload_n X d_O_parent_0 rfl ?_
  refine zr_if_lef (tgt := 12) X d_O_parent_1 rfl (nI_nle hv (by omega)) ?_
  refine zr_iload_n X d_O_parent_4 rfl ?_
  refine zr_aload_n X d_O_parent_5 rfl ?_
  refine zr_get X F_O_7 d_O_parent_6 (by omega) h10 (v := .int (nI n)) rfl ?_
  refine zr_icmp_ltt (tgt := 16) X d_O_parent_9 rfl (nI_lt hn (by omega)) ?_
  refine zr_aload_n X d_O_parent_16 rfl ?_
  refine zr_get X F_O_13 d_O_parent_17 (by omega) h10 (v := .ref (q 11)) rfl ?_
  refine zr_iload_n X d_O_parent_20 rfl ?_
  refine zr_iaload (v := pa v) X 0 d_O_parent_21 (by omega) h11 rfl (by omega) (by decide) rfl ?_
  refine zr_ireturn Y d_O_parent_22 rfl (Nat.le_of_ble_eq_true rfl) (Nat.le_of_ble_eq_true rfl) ?_
  exact ⟨rfl, rfl, rfl, rfl⟩

set_option maxRecDepth 100000 in
set_option maxHeartbeats 4000000 in
theorem c_O_parent_0 {l : Launch} {D : va_G} {cI cC cZ cV : ClassId} {N : Nat} {q : Nat → Nat} {f : zF} (hN : 23 ≤ N) {n po th sz ty : Nat} (h10 : f 10 = zmo q n po th sz ty) : zC l y_O_parent b_O_parent 2 (some .int) (rmD 0 0 0) D (zty cI cC cZ cV) [.ref (q 10), .int (nI 0)] N q f (pRd N q f (-1)) := by
  refine zC.of (by decide) (by simp [Value.category]) (Nat.le_of_ble_eq_true rfl) (fun G X Y => ?_)
  show G 0 0 0 [some (.ref (q 10)), some (.int (nI 0))] [] N q f
  refine zr_iload_n X d_O_parent_0 rfl ?_
  refine zr_if_let (tgt := 12) X d_O_parent_1 rfl (by decide) ?_
  refine zr_iconst (v := (-1)) X d_O_parent_12 (by decide) ?_
  refine zr_goto (tgt := 22) X d_O_parent_13 rfl ?_
  refine zr_ireturn Y d_O_parent_22 rfl (Nat.le_of_ble_eq_true rfl) (Nat.le_of_ble_eq_true rfl) ?_
  exact ⟨rfl, rfl, rfl, rfl⟩

set_option maxRecDepth 100000 in
set_option maxHeartbeats 4000000 in
theorem c_O_parent_n {l : Launch} {D : va_G} {cI cC cZ cV : ClassId} {N : Nat} {q : Nat → Nat} {f : zF} (hN : 23 ≤ N) {n po th sz ty : Nat} (h10 : f 10 = zmo q n po th sz ty) {x : Int32} (hx : zNa x n) : zC l y_O_parent b_O_parent 2 (some .int) (rmD 0 0 0) D (zty cI cC cZ cV) [.ref (q 10), .int x] N q f (pRd N q f (-1)) := by
  refine zC.of (by decide) (by simp [Value.category]) (Nat.le_of_ble_eq_true rfl) (fun G X Y => ?_)
  show G 0 0 0 [some (.ref (q 10)), some (.int x)] [] N q f
  refine zr_iload_n X d_O_parent_0 rfl ?_
  refine zr_if_le (tgt := 12) X d_O_parent_1 rfl (fun h1 => ?_) (fun h1 => ?_)
  · skip
    refine zr_iconst (v := (-1)) X d_O_parent_12 (by decide) ?_
    refine zr_goto (tgt := 22) X d_O_parent_13 rfl ?_
    refine zr_ireturn Y d_O_parent_22 rfl (Nat.le_of_ble_eq_true rfl) (Nat.le_of_ble_eq_true rfl) ?_
    exact ⟨rfl, rfl, rfl, rfl⟩
  · skip
    refine zr_iload_n X d_O_parent_4 rfl ?_
    refine zr_aload_n X d_O_parent_5 rfl ?_
    refine zr_get X F_O_7 d_O_parent_6 (by omega) h10 (v := .int (nI n)) rfl ?_
    refine zr_icmp_ltf (tgt := 16) X d_O_parent_9 rfl (z_not_lt (hx.resolve_left (fun h9 => h1 (Int32.le_of_lt h9)))) ?_
    refine zr_iconst (v := (-1)) X d_O_parent_12 (by decide) ?_
    refine zr_goto (tgt := 22) X d_O_parent_13 rfl ?_
    refine zr_ireturn Y d_O_parent_22 rfl (Nat.le_of_ble_eq_true rfl) (Nat.le_of_ble_eq_true rfl) ?_
    exact ⟨rfl, rfl, rfl, rfl⟩

/-- children of t among the versions 1 .. n - 1: how many; the latest -/
def zcc (pa : Nat → Int32) (t : Nat) : Nat → Nat
  | 0 => 0
  | u + 1 => zcc pa t u + if 0 < u ∧ pa u = nI t then 1 else 0
def zlt (pa : Nat → Int32) (t : Nat) : Nat → Option Nat
  | 0 => none
  | u + 1 => if 0 < u ∧ pa u = nI t then some u else zlt pa t u
theorem zcc_le (pa : Nat → Int32) (t : Nat) : ∀ u, zcc pa t u ≤ u
  | 0 => Nat.le_refl _
  | u + 1 => by
    have := zcc_le pa t u
    unfold zcc
    split <;> omega
theorem zcc_1 {pa : Nat → Int32} {t : Nat} : zcc pa t 1 = 0 := by simp [zcc]
theorem zlt_1 {pa : Nat → Int32} {t : Nat} : zlt pa t 1 = none := by simp [zlt]

set_option maxRecDepth 100000 in
set_option maxHeartbeats 4000000 in
theorem c_O_children_y {l : Launch} {D : va_G} {cI cC cZ cV : ClassId} {N : Nat} {q : Nat → Nat} {f : zF} (hN : 23 ≤ N) {n po th sz ty : Nat} (h10 : f 10 = zmo q n po th sz ty) {pa : Nat → Int32} (h11 : f 11 = .inl (cI, 122, .inl pa)) {v : Nat} (hv : v < n) (hn2 : n ≤ 122) : zC l y_O_children b_O_children 4 (some .int) (rmD 0 0 0) D (zty cI cC cZ cV) [.ref (q 10), .int (nI v)] N q f (pRd N q f (nI (zcc pa v n))) := by
  refine zC.of (by decide) (by simp [Value.category]) (Nat.le_of_ble_eq_true rfl) (fun G X Y => ?_)
  show G 0 0 0 [some (.ref (q 10)), some (.int (nI v)), none, none] [] N q f
  have loop : ∀ (d i : Nat), i + d = n → 0 < i → G 0 0 18 [some (.ref (q 10)), some (.int (nI v)), some (.int (nI (zcc pa v i))), some (.int (nI i))] [] N q f := by
    intro d
    induction d with
    | zero =>
      intro i hi hi0
      show G 0 0 18 [some (.ref (q 10)), some (.int (nI v)), some (.int (nI (zcc pa v i))), some (.int (nI i))] [] N q f
      refine zr_iload_n X d_O_children_18 rfl ?_
      refine zr_aload_n X d_O_children_19 rfl ?_
      refine zr_get X F_O_7 d_O_children_20 (by omega) h10 (v := .int (nI n)) rfl ?_
      refine zr_icmp_get (tgt := 50) X d_O_children_23 rfl (nI_le (by omega) (by omega)) ?_
      refine zr_iload_n X d_O_children_50 rfl ?_
      refine zr_ireturn Y d_O_children_51 rfl (Nat.le_of_ble_eq_true rfl) (Nat.le_of_ble_eq_true rfl) ?_
      exact ⟨by rw [show i = n by omega], rfl, rfl, rfl⟩
    | succ d ih =>
      intro i hi hi0
      show G 0 0 18 [some (.ref (q 10)), some (.int (nI v)), some (.int (nI (zcc pa v i))), some (.int (nI i))] [] N q f
      refine zr_iload_n X d_O_children_18 rfl ?_
      refine zr_aload_n X d_O_children_19 rfl ?_
      refine zr_get X F_O_7 d_O_children_20 (by omega) h10 (v := .int (nI n)) rfl ?_
      refine zr_icmp_gef (tgt := 50) X d_O_children_23 rfl (nI_ge (by omega) (by omega)) ?_
      refine zr_aload_n X d_O_children_26 rfl ?_
      refine zr_get X F_O_13 d_O_children_27 (by omega) h10 (v := .ref (q 11)) rfl ?_
      refine zr_iload_n X d_O_children_30 rfl ?_
      refine zr_iaload (v := pa i) X 0 d_O_children_31 (by omega) h11 rfl (by omega) (by decide) rfl ?_
      refine zr_iload_n X d_O_children_32 rfl ?_
      refine zr_icmp_ne (tgt := 42) X d_O_children_33 rfl (fun h33 => ?_) (fun h33 => ?_)
      · skip
        refine zr_iload_n X d_O_children_42 rfl ?_
        refine zr_istore_n (lv' := [some (.ref (q 10)), some (.int (nI v)), some (.int (nI (zcc pa v i))), some (.int (nI i))]) X d_O_children_43 (by decide) rfl ?_
        refine zr_iinc (v := nI (i + 1)) (lv' := [some (.ref (q 10)), some (.int (nI v)), some (.int (nI (zcc pa v i))), some (.int (nI (i + 1)))]) X d_O_children_44 rfl (nI_1 _) (by decide) rfl ?_
        refine zr_goto (tgt := 18) X d_O_children_47 rfl ?_
        have h9 := ih (i + 1) (by omega) (by omega)
        rw [show zcc pa v (i + 1) = zcc pa v i from by show zcc pa v i + _ = _; rw [if_neg (fun h8 => h33 h8.2)]; rfl] at h9
        exact h9
      · skip
        refine zr_iload_n X d_O_children_36 rfl ?_
        refine zr_iconst (v := nI 1) X d_O_children_37 (by decide) ?_
        refine zr_iadd (z := nI ((zcc pa v i) + 1)) X d_O_children_38 (nI_add _ _) ?_
        refine zr_goto (tgt := 43) X d_O_children_39 rfl ?_
        refine zr_istore_n (lv' := [some (.ref (q 10)), some (.int (nI v)), some (.int (nI ((zcc pa v i) + 1))), some (.int (nI i))]) X d_O_children_43 (by decide) rfl ?_
        refine zr_iinc (v := nI (i + 1)) (lv' := [some (.ref (q 10)), some (.int (nI v)), some (.int (nI ((zcc pa v i) + 1))), some (.int (nI (i + 1)))]) X d_O_children_44 rfl (nI_1 _) (by decide) rfl ?_
        refine zr_goto (tgt := 18) X d_O_children_47 rfl ?_
        have h9 := ih (i + 1) (by omega) (by omega)
        rw [show zcc pa v (i + 1) = zcc pa v i + 1 from by show zcc pa v i + _ = _; rw [if_pos ⟨hi0, h33⟩]] at h9
        exact h9
  refine zr_iload_n X d_O_children_0 rfl ?_
  refine zr_if_ltf (tgt := 12) X d_O_children_1 rfl (nI_pos (by omega)) ?_
  refine zr_iload_n X d_O_children_4 rfl ?_
  refine zr_aload_n X d_O_children_5 rfl ?_
  refine zr_get X F_O_7 d_O_children_6 (by omega) h10 (v := .int (nI n)) rfl ?_
  refine zr_icmp_ltt (tgt := 14) X d_O_children_9 rfl (nI_lt hv (by omega)) ?_
  refine zr_iconst (v := nI 0) X d_O_children_14 (by decide) ?_
  refine zr_istore_n (lv' := [some (.ref (q 10)), some (.int (nI v)), some (.int (nI 0)), none]) X d_O_children_15 (by decide) rfl ?_
  refine zr_iconst (v := nI 1) X d_O_children_16 (by decide) ?_
  refine zr_istore_n (lv' := [some (.ref (q 10)), some (.int (nI v)), some (.int (nI 0)), some (.int (nI 1))]) X d_O_children_17 (by decide) rfl ?_
  have h0 := loop (n - 1) 1 (by omega) (by omega)
  rw [zcc_1] at h0
  exact h0

set_option maxRecDepth 100000 in
set_option maxHeartbeats 4000000 in
theorem c_O_children_n {l : Launch} {D : va_G} {cI cC cZ cV : ClassId} {N : Nat} {q : Nat → Nat} {f : zF} (hN : 23 ≤ N) {n po th sz ty : Nat} (h10 : f 10 = zmo q n po th sz ty) {x : Int32} (hx : zNa x n) : zC l y_O_children b_O_children 4 (some .int) (rmD 0 0 0) D (zty cI cC cZ cV) [.ref (q 10), .int x] N q f (pRd N q f (-1)) := by
  refine zC.of (by decide) (by simp [Value.category]) (Nat.le_of_ble_eq_true rfl) (fun G X Y => ?_)
  show G 0 0 0 [some (.ref (q 10)), some (.int x), none, none] [] N q f
  refine zr_iload_n X d_O_children_0 rfl ?_
  refine zr_if_lt (tgt := 12) X d_O_children_1 rfl (fun h1 => ?_) (fun h1 => ?_)
  · skip
    refine zr_iconst (v := (-1)) X d_O_children_12 (by decide) ?_
    refine zr_ireturn Y d_O_children_13 rfl (Nat.le_of_ble_eq_true rfl) (Nat.le_of_ble_eq_true rfl) ?_
    exact ⟨rfl, rfl, rfl, rfl⟩
  · skip
    refine zr_iload_n X d_O_children_4 rfl ?_
    refine zr_aload_n X d_O_children_5 rfl ?_
    refine zr_get X F_O_7 d_O_children_6 (by omega) h10 (v := .int (nI n)) rfl ?_
    refine zr_icmp_ltf (tgt := 14) X d_O_children_9 rfl (z_not_lt (hx.resolve_left h1)) ?_
    refine zr_iconst (v := (-1)) X d_O_children_12 (by decide) ?_
    refine zr_ireturn Y d_O_children_13 rfl (Nat.le_of_ble_eq_true rfl) (Nat.le_of_ble_eq_true rfl) ?_
    exact ⟨rfl, rfl, rfl, rfl⟩

set_option maxRecDepth 100000 in
set_option maxHeartbeats 4000000 in
theorem c_O_lineOf_y {l : Launch} {D : va_G} {cI cC cZ cV : ClassId} {N : Nat} {q : Nat → Nat} {f : zF} (hN : 23 ≤ N) {n po th sz ty : Nat} (h10 : f 10 = zmo q n po th sz ty) {tx : Nat → Int32} (h17 : f 17 = .inl (cC, 2000, .inl tx)) {p : Nat} (hp : p ≤ sz) (hs : sz ≤ 2000) : zC l y_O_lineOf b_O_lineOf 4 (some .int) (rmD 1 0 0) D (zty cI cC cZ cV) [.ref (q 10), .int (nI p)] N q f (pRd N q f (nI (znl tx p))) := by
  refine zC.of (by decide) (by simp [Value.category]) (Nat.le_of_ble_eq_true rfl) (fun G X Y => ?_)
  show G 0 0 0 [some (.ref (q 10)), some (.int (nI p)), none, none] [] N q f
  have loop : ∀ (d i : Nat), i + d = p → G 0 0 14 [some (.ref (q 10)), some (.int (nI p)), some (.int (nI (znl tx i))), some (.int (nI i))] [] N q f := by
    intro d
    induction d with
    | zero =>
      intro i hi
      show G 0 0 14 [some (.ref (q 10)), some (.int (nI p)), some (.int (nI (znl tx i))), some (.int (nI i))] [] N q f
      refine zr_iload_n X d_O_lineOf_14 rfl ?_
      refine zr_iload_n X d_O_lineOf_15 rfl ?_
      refine zr_icmp_get (tgt := 44) X d_O_lineOf_16 rfl (nI_le (by omega) (by omega)) ?_
      refine zr_iload_n X d_O_lineOf_44 rfl ?_
      refine zr_ireturn Y d_O_lineOf_45 rfl (Nat.le_of_ble_eq_true rfl) (Nat.le_of_ble_eq_true rfl) ?_
      exact ⟨by rw [show i = p by omega], rfl, rfl, rfl⟩
    | succ d ih =>
      intro i hi
      show G 0 0 14 [some (.ref (q 10)), some (.int (nI p)), some (.int (nI (znl tx i))), some (.int (nI i))] [] N q f
      refine zr_iload_n X d_O_lineOf_14 rfl ?_
      refine zr_iload_n X d_O_lineOf_15 rfl ?_
      refine zr_icmp_gef (tgt := 44) X d_O_lineOf_16 rfl (nI_ge (by omega) (by omega)) ?_
      refine zr_aload_n X d_O_lineOf_19 rfl ?_
      refine zr_get X F_O_34 d_O_lineOf_20 (by omega) h10 (v := .ref (q 17)) rfl ?_
      refine zr_iload_n X d_O_lineOf_23 rfl ?_
      refine zr_caload (v := tx i) X 1 d_O_lineOf_24 (by omega) h17 rfl (by omega) (by decide) rfl ?_
      refine zr_bipush (v := 10) X d_O_lineOf_25 (by decide) ?_
      refine zr_icmp_ne (tgt := 36) X d_O_lineOf_27 rfl (fun h27 => ?_) (fun h27 => ?_)
      · skip
        refine zr_iload_n X d_O_lineOf_36 rfl ?_
        refine zr_istore_n (lv' := [some (.ref (q 10)), some (.int (nI p)), some (.int (nI (znl tx i))), some (.int (nI i))]) X d_O_lineOf_37 (by decide) rfl ?_
        refine zr_iinc (v := nI (i + 1)) (lv' := [some (.ref (q 10)), some (.int (nI p)), some (.int (nI (znl tx i))), some (.int (nI (i + 1)))]) X d_O_lineOf_38 rfl (nI_1 _) (by decide) rfl ?_
        refine zr_goto (tgt := 14) X d_O_lineOf_41 rfl ?_
        have h9 := ih (i + 1) (by omega)
        rw [znl_no h27] at h9
        exact h9
      · skip
        refine zr_iload_n X d_O_lineOf_30 rfl ?_
        refine zr_iconst (v := nI 1) X d_O_lineOf_31 (by decide) ?_
        refine zr_iadd (z := nI ((znl tx i) + 1)) X d_O_lineOf_32 (nI_add _ _) ?_
        refine zr_goto (tgt := 37) X d_O_lineOf_33 rfl ?_
        refine zr_istore_n (lv' := [some (.ref (q 10)), some (.int (nI p)), some (.int (nI ((znl tx i) + 1))), some (.int (nI i))]) X d_O_lineOf_37 (by decide) rfl ?_
        refine zr_iinc (v := nI (i + 1)) (lv' := [some (.ref (q 10)), some (.int (nI p)), some (.int (nI ((znl tx i) + 1))), some (.int (nI (i + 1)))]) X d_O_lineOf_38 rfl (nI_1 _) (by decide) rfl ?_
        refine zr_goto (tgt := 14) X d_O_lineOf_41 rfl ?_
        have h9 := ih (i + 1) (by omega)
        rw [znl_nl h27] at h9
        exact h9
  refine zr_aload_n X d_O_lineOf_0 rfl ?_
  refine zr_iload_n X d_O_lineOf_1 rfl ?_
  refine zr_callV X K_O_79 KI_O_79 KS_O_79 (c_O_isPosition_y hN h10 (by omega) hp) d_O_lineOf_2 (by omega) h10 rfl rfl (by decide) (Nat.le_of_ble_eq_true rfl) (by decide) (st := []) rfl (kRd ?_)
  show G 0 0 5 [some (.ref (q 10)), some (.int (nI p)), none, none] [.int (nI 1)] N q f
  refine zr_if_net (tgt := 10) X d_O_lineOf_5 rfl (by decide) ?_
  refine zr_iconst (v := nI 0) X d_O_lineOf_10 (by decide) ?_
  refine zr_istore_n (lv' := [some (.ref (q 10)), some (.int (nI p)), some (.int (nI 0)), none]) X d_O_lineOf_11 (by decide) rfl ?_
  refine zr_iconst (v := nI 0) X d_O_lineOf_12 (by decide) ?_
  refine zr_istore_n (lv' := [some (.ref (q 10)), some (.int (nI p)), some (.int (nI 0)), some (.int (nI 0))]) X d_O_lineOf_13 (by decide) rfl ?_
  exact loop p 0 (by omega)

set_option maxRecDepth 100000 in
set_option maxHeartbeats 4000000 in
theorem c_O_lineOf_n {l : Launch} {D : va_G} {cI cC cZ cV : ClassId} {N : Nat} {q : Nat → Nat} {f : zF} (hN : 23 ≤ N) {n po th sz ty : Nat} (h10 : f 10 = zmo q n po th sz ty) {x : Int32} (hx : zNo x sz) : zC l y_O_lineOf b_O_lineOf 4 (some .int) (rmD 1 0 0) D (zty cI cC cZ cV) [.ref (q 10), .int x] N q f (pRd N q f (-1)) := by
  refine zC.of (by decide) (by simp [Value.category]) (Nat.le_of_ble_eq_true rfl) (fun G X Y => ?_)
  show G 0 0 0 [some (.ref (q 10)), some (.int x), none, none] [] N q f
  refine zr_aload_n X d_O_lineOf_0 rfl ?_
  refine zr_iload_n X d_O_lineOf_1 rfl ?_
  refine zr_callV X K_O_79 KI_O_79 KS_O_79 (c_O_isPosition_n hN h10 hx) d_O_lineOf_2 (by omega) h10 rfl rfl (by decide) (Nat.le_of_ble_eq_true rfl) (by decide) (st := []) rfl (kRd ?_)
  show G 0 0 5 [some (.ref (q 10)), some (.int x), none, none] [.int (nI 0)] N q f
  refine zr_if_nef (tgt := 10) X d_O_lineOf_5 rfl (by decide) ?_
  refine zr_iconst (v := (-1)) X d_O_lineOf_8 (by decide) ?_
  refine zr_ireturn Y d_O_lineOf_9 rfl (Nat.le_of_ble_eq_true rfl) (Nat.le_of_ble_eq_true rfl) ?_
  exact ⟨rfl, rfl, rfl, rfl⟩

set_option maxRecDepth 100000 in
set_option maxHeartbeats 4000000 in
theorem c_O_lines {l : Launch} {D : va_G} {cI cC cZ cV : ClassId} {N : Nat} {q : Nat → Nat} {f : zF} (hN : 23 ≤ N) {n po th sz ty : Nat} (h10 : f 10 = zmo q n po th sz ty) {tx : Nat → Int32} (h17 : f 17 = .inl (cC, 2000, .inl tx)) (hs : sz ≤ 2000) : zC l y_O_lines b_O_lines 1 (some .int) (rmD 2 0 0) D (zty cI cC cZ cV) [.ref (q 10)] N q f (pRd N q f (nI (znl tx sz + 1))) := by
  refine zC.of (by decide) (by simp [Value.category]) (Nat.le_of_ble_eq_true rfl) (fun G X Y => ?_)
  show G 0 0 0 [some (.ref (q 10))] [] N q f
  refine zr_aload_n X d_O_lines_0 rfl ?_
  refine zr_aload_n X d_O_lines_1 rfl ?_
  refine zr_get X F_O_55 d_O_lines_2 (by omega) h10 (v := .int (nI sz)) rfl ?_
  refine zr_callV X K_O_103 KI_O_103 KS_O_103 (c_O_lineOf_y hN h10 h17 (Nat.le_refl _) hs) d_O_lines_5 (by omega) h10 rfl rfl (by decide) (Nat.le_of_ble_eq_true rfl) (by decide) (st := []) rfl (kRd ?_)
  show G 0 0 8 [some (.ref (q 10))] [.int (nI (znl tx sz))] N q f
  refine zr_iconst (v := nI 1) X d_O_lines_8 (by decide) ?_
  refine zr_iadd (z := nI ((znl tx sz) + 1)) X d_O_lines_9 (nI_add _ _) ?_
  refine zr_ireturn Y d_O_lines_10 rfl (Nat.le_of_ble_eq_true rfl) (Nat.le_of_ble_eq_true rfl) ?_
  exact ⟨rfl, rfl, rfl, rfl⟩

def zLSx (g : Nat → Int32) (sz : Nat) (x r : Int32) : Prop := (∃ p, p ≤ sz ∧ r = nI p ∧ nI (znl g p) = x ∧ ∀ p', p' < p → ¬ nI (znl g p') = x) ∨ (r = -1 ∧ ∀ p, p ≤ sz → ¬ nI (znl g p) = x)

set_option maxRecDepth 100000 in
set_option maxHeartbeats 4000000 in
theorem c_O_lineStart {l : Launch} {D : va_G} {cI cC cZ cV : ClassId} {N : Nat} {q : Nat → Nat} {f : zF} (hN : 23 ≤ N) {n po th sz ty : Nat} (h10 : f 10 = zmo q n po th sz ty) {tx : Nat → Int32} (h17 : f 17 = .inl (cC, 2000, .inl tx)) {x : Int32} (hs : sz ≤ 2000) : zC l y_O_lineStart b_O_lineStart 4 (some .int) (rmD 0 0 0) D (zty cI cC cZ cV) [.ref (q 10), .int x] N q f (pI N q (fun r f' => f' = f ∧ zLSx tx sz x r)) := by
  refine zC.of (by decide) (by simp [Value.category]) (Nat.le_of_ble_eq_true rfl) (fun G X Y => ?_)
  show G 0 0 0 [some (.ref (q 10)), some (.int x), none, none] [] N q f
  have loop : ∀ (d i : Nat), i + d = sz + 1 → (∀ a, a < i → ¬ nI (znl tx a) = x) → G 0 0 4 [some (.ref (q 10)), some (.int x), some (.int (nI (znl tx (i - 1)))), some (.int (nI i))] [] N q f := by
    intro d
    induction d with
    | zero =>
      intro i hi hk
      show G 0 0 4 [some (.ref (q 10)), some (.int x), some (.int (nI (znl tx (i - 1)))), some (.int (nI i))] [] N q f
      refine zr_iload_n X d_O_lineStart_4 rfl ?_
      refine zr_aload_n X d_O_lineStart_5 rfl ?_
      refine zr_get X F_O_55 d_O_lineStart_6 (by omega) h10 (v := .int (nI sz)) rfl ?_
      refine zr_icmp_gtt (tgt := 50) X d_O_lineStart_9 rfl (nI_lt (by omega) (by omega)) ?_
      refine zr_iconst (v := (-1)) X d_O_lineStart_50 (by decide) ?_
      refine zr_ireturn Y d_O_lineStart_51 rfl (Nat.le_of_ble_eq_true rfl) (Nat.le_of_ble_eq_true rfl) ?_
      exact ⟨_, rfl, rfl, rfl, rfl, Or.inr ⟨rfl, fun p9 hp9 => hk p9 (by omega)⟩⟩
    | succ d ih =>
      intro i hi hk
      cases i with
      | zero =>
        show G 0 0 4 [some (.ref (q 10)), some (.int x), some (.int (nI 0)), some (.int (nI 0))] [] N q f
        refine zr_iload_n X d_O_lineStart_4 rfl ?_
        refine zr_aload_n X d_O_lineStart_5 rfl ?_
        refine zr_get X F_O_55 d_O_lineStart_6 (by omega) h10 (v := .int (nI sz)) rfl ?_
        refine zr_icmp_gtf (tgt := 50) X d_O_lineStart_9 rfl (nI_nlt (by omega) (by omega)) ?_
        refine zr_iload_n X d_O_lineStart_12 rfl ?_
        refine zr_if_let (tgt := 35) X d_O_lineStart_13 rfl (by decide) ?_
        refine zr_iload_n X d_O_lineStart_35 rfl ?_
        refine zr_istore_n (lv' := [some (.ref (q 10)), some (.int x), some (.int (nI 0)), some (.int (nI 0))]) X d_O_lineStart_36 (by decide) rfl ?_
        refine zr_iload_n X d_O_lineStart_37 rfl ?_
        refine zr_iload_n X d_O_lineStart_38 rfl ?_
        refine zr_icmp_ne (tgt := 44) X d_O_lineStart_39 rfl (fun h39 => ?_) (fun h39 => ?_)
        · skip
          refine zr_iinc (v := nI (0 + 1)) (lv' := [some (.ref (q 10)), some (.int x), some (.int (nI 0)), some (.int (nI (0 + 1)))]) X d_O_lineStart_44 rfl (nI_1 _) (by decide) rfl ?_
          refine zr_goto (tgt := 4) X d_O_lineStart_47 rfl ?_
          exact ih 1 (by omega) (lt_s (fun a ha => absurd ha (Nat.not_lt_zero _)) h39)
        · skip
          refine zr_iload_n X d_O_lineStart_42 rfl ?_
          refine zr_ireturn Y d_O_lineStart_43 rfl (Nat.le_of_ble_eq_true rfl) (Nat.le_of_ble_eq_true rfl) ?_
          exact ⟨_, rfl, rfl, rfl, rfl, Or.inl ⟨0, by omega, rfl, h39, fun p9 hp9 => absurd hp9 (Nat.not_lt_zero _)⟩⟩
      | succ i =>
        show G 0 0 4 [some (.ref (q 10)), some (.int x), some (.int (nI (znl tx i))), some (.int (nI (i + 1)))] [] N q f
        refine zr_iload_n X d_O_lineStart_4 rfl ?_
        refine zr_aload_n X d_O_lineStart_5 rfl ?_
        refine zr_get X F_O_55 d_O_lineStart_6 (by omega) h10 (v := .int (nI sz)) rfl ?_
        refine zr_icmp_gtf (tgt := 50) X d_O_lineStart_9 rfl (nI_nlt (by omega) (by omega)) ?_
        refine zr_iload_n X d_O_lineStart_12 rfl ?_
        refine zr_if_lef (tgt := 35) X d_O_lineStart_13 rfl (nI_nle (by omega) (by omega)) ?_
        refine zr_aload_n X d_O_lineStart_16 rfl ?_
        refine zr_get X F_O_34 d_O_lineStart_17 (by omega) h10 (v := .ref (q 17)) rfl ?_
        refine zr_iload_n X d_O_lineStart_20 rfl ?_
        refine zr_iconst (v := 1) X d_O_lineStart_21 (by decide) ?_
        refine zr_isub (z := nI i) X d_O_lineStart_22 (nI_pred i) ?_
        refine zr_caload (v := tx i) X 1 d_O_lineStart_23 (by omega) h17 rfl (by omega) (by decide) rfl ?_
        refine zr_bipush (v := 10) X d_O_lineStart_24 (by decide) ?_
        refine zr_icmp_ne (tgt := 35) X d_O_lineStart_26 rfl (fun h26 => ?_) (fun h26 => ?_)
        · skip
          refine zr_iload_n X d_O_lineStart_35 rfl ?_
          refine zr_istore_n (lv' := [some (.ref (q 10)), some (.int x), some (.int (nI (znl tx i))), some (.int (nI (i + 1)))]) X d_O_lineStart_36 (by decide) rfl ?_
          refine zr_iload_n X d_O_lineStart_37 rfl ?_
          refine zr_iload_n X d_O_lineStart_38 rfl ?_
          refine zr_icmp_ne (tgt := 44) X d_O_lineStart_39 rfl (fun h39 => ?_) (fun h39 => ?_)
          · skip
            refine zr_iinc (v := nI (i + 1 + 1)) (lv' := [some (.ref (q 10)), some (.int x), some (.int (nI (znl tx i))), some (.int (nI (i + 1 + 1)))]) X d_O_lineStart_44 rfl (nI_1 _) (by decide) rfl ?_
            refine zr_goto (tgt := 4) X d_O_lineStart_47 rfl ?_
            have h9 := ih (i + 1 + 1) (by omega) (lt_s hk (by rw [znl_no h26]; exact h39))
            rw [show i + 1 + 1 - 1 = i + 1 from rfl, znl_no h26] at h9
            exact h9
          · skip
            refine zr_iload_n X d_O_lineStart_42 rfl ?_
            refine zr_ireturn Y d_O_lineStart_43 rfl (Nat.le_of_ble_eq_true rfl) (Nat.le_of_ble_eq_true rfl) ?_
            exact ⟨_, rfl, rfl, rfl, rfl, Or.inl ⟨i + 1, by omega, rfl, by rw [znl_no h26]; exact h39, hk⟩⟩
        · skip
          refine zr_iload_n X d_O_lineStart_29 rfl ?_
          refine zr_iconst (v := nI 1) X d_O_lineStart_30 (by decide) ?_
          refine zr_iadd (z := nI ((znl tx i) + 1)) X d_O_lineStart_31 (nI_add _ _) ?_
          refine zr_goto (tgt := 36) X d_O_lineStart_32 rfl ?_
          refine zr_istore_n (lv' := [some (.ref (q 10)), some (.int x), some (.int (nI ((znl tx i) + 1))), some (.int (nI (i + 1)))]) X d_O_lineStart_36 (by decide) rfl ?_
          refine zr_iload_n X d_O_lineStart_37 rfl ?_
          refine zr_iload_n X d_O_lineStart_38 rfl ?_
          refine zr_icmp_ne (tgt := 44) X d_O_lineStart_39 rfl (fun h39 => ?_) (fun h39 => ?_)
          · skip
            refine zr_iinc (v := nI (i + 1 + 1)) (lv' := [some (.ref (q 10)), some (.int x), some (.int (nI ((znl tx i) + 1))), some (.int (nI (i + 1 + 1)))]) X d_O_lineStart_44 rfl (nI_1 _) (by decide) rfl ?_
            refine zr_goto (tgt := 4) X d_O_lineStart_47 rfl ?_
            have h9 := ih (i + 1 + 1) (by omega) (lt_s hk (by rw [znl_nl h26]; exact h39))
            rw [show i + 1 + 1 - 1 = i + 1 from rfl, znl_nl h26] at h9
            exact h9
          · skip
            refine zr_iload_n X d_O_lineStart_42 rfl ?_
            refine zr_ireturn Y d_O_lineStart_43 rfl (Nat.le_of_ble_eq_true rfl) (Nat.le_of_ble_eq_true rfl) ?_
            exact ⟨_, rfl, rfl, rfl, rfl, Or.inl ⟨i + 1, by omega, rfl, by rw [znl_nl h26]; exact h39, hk⟩⟩
  refine zr_iconst (v := nI 0) X d_O_lineStart_0 (by decide) ?_
  refine zr_istore_n (lv' := [some (.ref (q 10)), some (.int x), some (.int (nI 0)), none]) X d_O_lineStart_1 (by decide) rfl ?_
  refine zr_iconst (v := nI 0) X d_O_lineStart_2 (by decide) ?_
  refine zr_istore_n (lv' := [some (.ref (q 10)), some (.int x), some (.int (nI 0)), some (.int (nI 0))]) X d_O_lineStart_3 (by decide) rfl ?_
  exact loop (sz + 1) 0 (by omega) (fun a ha => absurd ha (Nat.not_lt_zero _))

set_option maxRecDepth 100000 in
set_option maxHeartbeats 4000000 in
theorem c_O_isScratch {l : Launch} {D : va_G} {cI cC cZ cV : ClassId} {N : Nat} {q : Nat → Nat} {f : zF} (hN : 23 ≤ N) {n po th sz ty : Nat} (h10 : f 10 = zmo q n po th sz ty) {tx : Nat → Int32} (h17 : f 17 = .inl (cC, 2000, .inl tx)) {sc : Nat → Int32} (h19 : f 19 = .inl (cC, 40, .inl sc)) {p : Nat} (hp : p ≤ 2000) (hs : sz ≤ 2000) (ht : ty ≤ 40) : zC l y_O_isScratch b_O_isScratch 3 (some .boolean) (rmD 0 0 0) D (zty cI cC cZ cV) [.ref (q 10), .int (nI p)] N q f (pI N q (fun r f' => f' = f ∧ ((r = nI 1 ∧ ∀ a, a < ty → p + a < sz ∧ tx (p + a) = sc a) ∨ (r = nI 0 ∧ ∃ a, a < ty ∧ ¬ (p + a < sz ∧ tx (p + a) = sc a))))) := by
  refine zC.of (by decide) (by simp [Value.category]) (Nat.le_of_ble_eq_true rfl) (fun G X Y => ?_)
  show G 0 0 0 [some (.ref (q 10)), some (.int (nI p)), none] [] N q f
  have loop : ∀ (d i : Nat), i + d = ty → (∀ a, a < i → p + a < sz ∧ tx (p + a) = sc a) → G 0 0 2 [some (.ref (q 10)), some (.int (nI p)), some (.int (nI i))] [] N q f := by
    intro d
    induction d with
    | zero =>
      intro i hi hk
      show G 0 0 2 [some (.ref (q 10)), some (.int (nI p)), some (.int (nI i))] [] N q f
      refine zr_iload_n X d_O_isScratch_2 rfl ?_
      refine zr_aload_n X d_O_isScratch_3 rfl ?_
      refine zr_get X F_O_52 d_O_isScratch_4 (by omega) h10 (v := .int (nI ty)) rfl ?_
      refine zr_icmp_get (tgt := 45) X d_O_isScratch_7 rfl (nI_le (by omega) (by omega)) ?_
      refine zr_iconst (v := nI 1) X d_O_isScratch_45 (by decide) ?_
      refine zr_ireturn Y d_O_isScratch_46 rfl (Nat.le_of_ble_eq_true rfl) (Nat.le_of_ble_eq_true rfl) ?_
      exact ⟨_, rfl, rfl, rfl, rfl, Or.inl ⟨rfl, fun a ha => hk a (by omega)⟩⟩
    | succ d ih =>
      intro i hi hk
      by_cases hin : p + i < sz
      · skip
        show G 0 0 2 [some (.ref (q 10)), some (.int (nI p)), some (.int (nI i))] [] N q f
        refine zr_iload_n X d_O_isScratch_2 rfl ?_
        refine zr_aload_n X d_O_isScratch_3 rfl ?_
        refine zr_get X F_O_52 d_O_isScratch_4 (by omega) h10 (v := .int (nI ty)) rfl ?_
        refine zr_icmp_gef (tgt := 45) X d_O_isScratch_7 rfl (nI_ge (by omega) (by omega)) ?_
        refine zr_iload_n X d_O_isScratch_10 rfl ?_
        refine zr_iload_n X d_O_isScratch_11 rfl ?_
        refine zr_iadd (z := nI (p + i)) X d_O_isScratch_12 (nI_add _ _) ?_
        refine zr_aload_n X d_O_isScratch_13 rfl ?_
        refine zr_get X F_O_55 d_O_isScratch_14 (by omega) h10 (v := .int (nI sz)) rfl ?_
        refine zr_icmp_gef (tgt := 37) X d_O_isScratch_17 rfl (nI_ge hin (by omega)) ?_
        refine zr_aload_n X d_O_isScratch_20 rfl ?_
        refine zr_get X F_O_34 d_O_isScratch_21 (by omega) h10 (v := .ref (q 17)) rfl ?_
        refine zr_iload_n X d_O_isScratch_24 rfl ?_
        refine zr_iload_n X d_O_isScratch_25 rfl ?_
        refine zr_iadd (z := nI (p + i)) X d_O_isScratch_26 (nI_add _ _) ?_
        refine zr_caload (v := tx (p + i)) X 1 d_O_isScratch_27 (by omega) h17 rfl (by omega) (by decide) rfl ?_
        refine zr_aload_n X d_O_isScratch_28 rfl ?_
        refine zr_get X F_O_40 d_O_isScratch_29 (by omega) h10 (v := .ref (q 19)) rfl ?_
        refine zr_iload_n X d_O_isScratch_32 rfl ?_
        refine zr_caload (v := sc i) X 1 d_O_isScratch_33 (by omega) h19 rfl (by omega) (by decide) rfl ?_
        refine zr_icmp_eq (tgt := 39) X d_O_isScratch_34 rfl (fun h34 => ?_) (fun h34 => ?_)
        · skip
          refine zr_iinc (v := nI (i + 1)) (lv' := [some (.ref (q 10)), some (.int (nI p)), some (.int (nI (i + 1)))]) X d_O_isScratch_39 rfl (nI_1 _) (by decide) rfl ?_
          refine zr_goto (tgt := 2) X d_O_isScratch_42 rfl ?_
          exact ih (i + 1) (by omega) (lt_s hk ⟨hin, h34⟩)
        · skip
          refine zr_iconst (v := nI 0) X d_O_isScratch_37 (by decide) ?_
          refine zr_ireturn Y d_O_isScratch_38 rfl (Nat.le_of_ble_eq_true rfl) (Nat.le_of_ble_eq_true rfl) ?_
          exact ⟨_, rfl, rfl, rfl, rfl, Or.inr ⟨rfl, i, by omega, fun h9 => h34 h9.2⟩⟩
      · skip
        show G 0 0 2 [some (.ref (q 10)), some (.int (nI p)), some (.int (nI i))] [] N q f
        refine zr_iload_n X d_O_isScratch_2 rfl ?_
        refine zr_aload_n X d_O_isScratch_3 rfl ?_
        refine zr_get X F_O_52 d_O_isScratch_4 (by omega) h10 (v := .int (nI ty)) rfl ?_
        refine zr_icmp_gef (tgt := 45) X d_O_isScratch_7 rfl (nI_ge (by omega) (by omega)) ?_
        refine zr_iload_n X d_O_isScratch_10 rfl ?_
        refine zr_iload_n X d_O_isScratch_11 rfl ?_
        refine zr_iadd (z := nI (p + i)) X d_O_isScratch_12 (nI_add _ _) ?_
        refine zr_aload_n X d_O_isScratch_13 rfl ?_
        refine zr_get X F_O_55 d_O_isScratch_14 (by omega) h10 (v := .int (nI sz)) rfl ?_
        refine zr_icmp_get (tgt := 37) X d_O_isScratch_17 rfl (nI_le (by omega) (by omega)) ?_
        refine zr_iconst (v := nI 0) X d_O_isScratch_37 (by decide) ?_
        refine zr_ireturn Y d_O_isScratch_38 rfl (Nat.le_of_ble_eq_true rfl) (Nat.le_of_ble_eq_true rfl) ?_
        exact ⟨_, rfl, rfl, rfl, rfl, Or.inr ⟨rfl, i, by omega, fun h9 => hin h9.1⟩⟩
  refine zr_iconst (v := nI 0) X d_O_isScratch_0 (by decide) ?_
  refine zr_istore_n (lv' := [some (.ref (q 10)), some (.int (nI p)), some (.int (nI 0))]) X d_O_isScratch_1 (by decide) rfl ?_
  exact loop ty 0 (by omega) (fun a ha => absurd ha (Nat.not_lt_zero _))

/-- the scratch begins at p; r is the least such position from p0 on, or -4 -/
def zHit (g : Nat → Int32) (sz : Nat) (s : Nat → Int32) (k p : Nat) : Prop := p + k ≤ sz ∧ ∀ a, a < k → g (p + a) = s a
def zFnd (g : Nat → Int32) (sz : Nat) (s : Nat → Int32) (k p0 : Nat) (r : Int32) : Prop := (∃ p, p0 ≤ p ∧ zHit g sz s k p ∧ r = nI p ∧ ∀ p', p0 ≤ p' → p' < p → ¬ zHit g sz s k p') ∨ (r = -4 ∧ ∀ p', p0 ≤ p' → ¬ zHit g sz s k p')
theorem zHit_iff {g : Nat → Int32} {sz : Nat} {s : Nat → Int32} {k p : Nat} (hk : 0 < k) : zHit g sz s k p ↔ ∀ a, a < k → p + a < sz ∧ g (p + a) = s a := by
  constructor
  · intro h a ha
    exact ⟨by have := h.1; omega, h.2 a ha⟩
  · intro h
    have := (h (k - 1) (by omega)).1
    exact ⟨by omega, fun a ha => (h a ha).2⟩
theorem zFnd_one {g : Nat → Int32} {sz : Nat} {s : Nat → Int32} {k p0 : Nat} {r r' : Int32} (h : zFnd g sz s k p0 r) (h' : zFnd g sz s k p0 r') : r = r' := by
  rcases h with ⟨p, h1, h2, rfl, h3⟩ | ⟨rfl, h3⟩ <;> rcases h' with ⟨p', h1', h2', rfl, h3'⟩ | ⟨rfl, h3'⟩
  · by_cases ha : p < p'
    · exact absurd h2 (h3' p h1 ha)
    · by_cases hb : p' < p
      · exact absurd h2' (h3 p' h1' hb)
      · rw [show p = p' by omega]
  · exact absurd h2 (h3' p h1)
  · exact absurd h2' (h3 p' h1')
  · rfl

set_option maxRecDepth 100000 in
set_option maxHeartbeats 4000000 in
theorem c_O_find_y {l : Launch} {D : va_G} {cI cC cZ cV : ClassId} {N : Nat} {q : Nat → Nat} {f : zF} (hN : 23 ≤ N) {n po th sz ty : Nat} (h10 : f 10 = zmo q n po th sz ty) {tx : Nat → Int32} (h17 : f 17 = .inl (cC, 2000, .inl tx)) {sc : Nat → Int32} (h19 : f 19 = .inl (cC, 40, .inl sc)) {p0 : Nat} (hp : p0 ≤ sz) (hs : sz ≤ 2000) (ht : ty ≤ 40) (ht0 : 0 < ty) : zC l y_O_find b_O_find 3 (some .int) (rmD 1 0 0) D (zty cI cC cZ cV) [.ref (q 10), .int (nI p0)] N q f (pI N q (fun r f' => f' = f ∧ zFnd tx sz sc ty p0 r)) := by
  refine zC.of (by decide) (by simp [Value.category]) (Nat.le_of_ble_eq_true rfl) (fun G X Y => ?_)
  show G 0 0 0 [some (.ref (q 10)), some (.int (nI p0)), none] [] N q f
  have loop : ∀ (d i : Nat), i + d = sz → p0 ≤ i → (∀ p', p0 ≤ p' → p' < i → ¬ zHit tx sz sc ty p') → G 0 0 22 [some (.ref (q 10)), some (.int (nI p0)), some (.int (nI i))] [] N q f := by
    intro d
    induction d with
    | zero =>
      intro i hi hp hk
      show G 0 0 22 [some (.ref (q 10)), some (.int (nI p0)), some (.int (nI i))] [] N q f
      refine zr_iload_n X d_O_find_22 rfl ?_
      refine zr_aload_n X d_O_find_23 rfl ?_
      refine zr_get X F_O_55 d_O_find_24 (by omega) h10 (v := .int (nI sz)) rfl ?_
      refine zr_icmp_get (tgt := 46) X d_O_find_27 rfl (nI_le (by omega) (by omega)) ?_
      refine zr_bipush (v := (-4)) X d_O_find_46 (by decide) ?_
      refine zr_ireturn Y d_O_find_48 rfl (Nat.le_of_ble_eq_true rfl) (Nat.le_of_ble_eq_true rfl) ?_
      refine ⟨_, rfl, rfl, rfl, rfl, Or.inr ⟨rfl, fun p9 hp9 h9 => ?_⟩⟩
      by_cases h8 : p9 < i
      · exact hk p9 hp9 h8 h9
      · have := h9.1
        omega
    | succ d ih =>
      intro i hi hp hk
      show G 0 0 22 [some (.ref (q 10)), some (.int (nI p0)), some (.int (nI i))] [] N q f
      refine zr_iload_n X d_O_find_22 rfl ?_
      refine zr_aload_n X d_O_find_23 rfl ?_
      refine zr_get X F_O_55 d_O_find_24 (by omega) h10 (v := .int (nI sz)) rfl ?_
      refine zr_icmp_gef (tgt := 46) X d_O_find_27 rfl (nI_ge (by omega) (by omega)) ?_
      refine zr_aload_n X d_O_find_30 rfl ?_
      refine zr_iload_n X d_O_find_31 rfl ?_
      refine zr_callV X K_O_106 KI_O_106 KS_O_106 (c_O_isScratch hN h10 h17 h19 (by omega) hs ht) d_O_find_32 (by omega) h10 rfl rfl (by decide) (Nat.le_of_ble_eq_true rfl) (by decide) (st := []) rfl (kI fun r1 f1 h1 => ?_)
      show G 0 0 35 [some (.ref (q 10)), some (.int (nI p0)), some (.int (nI i))] [.int r1] N q f1
      obtain ⟨e1, h8⟩ := h1
      rw [e1]
      rcases h8 with ⟨rfl, h8⟩ | ⟨rfl, a, ha, h8⟩
      · skip
        show G 0 0 35 [some (.ref (q 10)), some (.int (nI p0)), some (.int (nI i))] [.int (nI 1)] N q f
        refine zr_if_eqf (tgt := 40) X d_O_find_35 rfl (by decide) ?_
        refine zr_iload_n X d_O_find_38 rfl ?_
        refine zr_ireturn Y d_O_find_39 rfl (Nat.le_of_ble_eq_true rfl) (Nat.le_of_ble_eq_true rfl) ?_
        exact ⟨_, rfl, rfl, rfl, rfl, Or.inl ⟨i, by omega, (zHit_iff ht0).mpr h8, rfl, hk⟩⟩
      · skip
        show G 0 0 35 [some (.ref (q 10)), some (.int (nI p0)), some (.int (nI i))] [.int (nI 0)] N q f
        refine zr_if_eqt (tgt := 40) X d_O_find_35 rfl (by decide) ?_
        refine zr_iinc (v := nI (i + 1)) (lv' := [some (.ref (q 10)), some (.int (nI p0)), some (.int (nI (i + 1)))]) X d_O_find_40 rfl (nI_1 _) (by decide) rfl ?_
        refine zr_goto (tgt := 22) X d_O_find_43 rfl ?_
        refine ih (i + 1) (by omega) (by omega) (fun p9 h5 h6 h7 => ?_)
        by_cases h4 : p9 < i
        · exact hk p9 h5 h4 h7
        · exact h8 (show _ from by rw [show i = p9 by omega]; exact (zHit_iff ht0).mp h7 a ha)
  refine zr_aload_n X d_O_find_0 rfl ?_
  refine zr_iload_n X d_O_find_1 rfl ?_
  refine zr_callV X K_O_79 KI_O_79 KS_O_79 (c_O_isPosition_y hN h10 (by omega) hp) d_O_find_2 (by omega) h10 rfl rfl (by decide) (Nat.le_of_ble_eq_true rfl) (by decide) (st := []) rfl (kRd ?_)
  show G 0 0 5 [some (.ref (q 10)), some (.int (nI p0)), none] [.int (nI 1)] N q f
  refine zr_if_net (tgt := 10) X d_O_find_5 rfl (by decide) ?_
  refine zr_aload_n X d_O_find_10 rfl ?_
  refine zr_get X F_O_52 d_O_find_11 (by omega) h10 (v := .int (nI ty)) rfl ?_
  refine zr_if_net (tgt := 20) X d_O_find_14 rfl (nI_ne0 ht0 (by omega)) ?_
  refine zr_iload_n X d_O_find_20 rfl ?_
  refine zr_istore_n (lv' := [some (.ref (q 10)), some (.int (nI p0)), some (.int (nI p0))]) X d_O_find_21 (by decide) rfl ?_
  exact loop (sz - p0) p0 (by omega) (Nat.le_refl _) (fun p' h1 h2 => absurd h2 (by omega))

set_option maxRecDepth 100000 in
set_option maxHeartbeats 4000000 in
theorem c_O_find_n {l : Launch} {D : va_G} {cI cC cZ cV : ClassId} {N : Nat} {q : Nat → Nat} {f : zF} (hN : 23 ≤ N) {n po th sz ty : Nat} (h10 : f 10 = zmo q n po th sz ty) {x : Int32} (hx : zNo x sz) : zC l y_O_find b_O_find 3 (some .int) (rmD 1 0 0) D (zty cI cC cZ cV) [.ref (q 10), .int x] N q f (pRd N q f (-1)) := by
  refine zC.of (by decide) (by simp [Value.category]) (Nat.le_of_ble_eq_true rfl) (fun G X Y => ?_)
  show G 0 0 0 [some (.ref (q 10)), some (.int x), none] [] N q f
  refine zr_aload_n X d_O_find_0 rfl ?_
  refine zr_iload_n X d_O_find_1 rfl ?_
  refine zr_callV X K_O_79 KI_O_79 KS_O_79 (c_O_isPosition_n hN h10 hx) d_O_find_2 (by omega) h10 rfl rfl (by decide) (Nat.le_of_ble_eq_true rfl) (by decide) (st := []) rfl (kRd ?_)
  show G 0 0 5 [some (.ref (q 10)), some (.int x), none] [.int (nI 0)] N q f
  refine zr_if_nef (tgt := 10) X d_O_find_5 rfl (by decide) ?_
  refine zr_iconst (v := (-1)) X d_O_find_8 (by decide) ?_
  refine zr_ireturn Y d_O_find_9 rfl (Nat.le_of_ble_eq_true rfl) (Nat.le_of_ble_eq_true rfl) ?_
  exact ⟨rfl, rfl, rfl, rfl⟩

set_option maxRecDepth 100000 in
set_option maxHeartbeats 4000000 in
theorem c_O_find_e {l : Launch} {D : va_G} {cI cC cZ cV : ClassId} {N : Nat} {q : Nat → Nat} {f : zF} (hN : 23 ≤ N) {n po th sz ty : Nat} (h10 : f 10 = zmo q n po th sz ty) {p0 : Nat} (hp : p0 ≤ sz) (hs : sz ≤ 2000) (ht0 : ty = 0) : zC l y_O_find b_O_find 3 (some .int) (rmD 1 0 0) D (zty cI cC cZ cV) [.ref (q 10), .int (nI p0)] N q f (pRd N q f (-2)) := by
  refine zC.of (by decide) (by simp [Value.category]) (Nat.le_of_ble_eq_true rfl) (fun G X Y => ?_)
  show G 0 0 0 [some (.ref (q 10)), some (.int (nI p0)), none] [] N q f
  refine zr_aload_n X d_O_find_0 rfl ?_
  refine zr_iload_n X d_O_find_1 rfl ?_
  refine zr_callV X K_O_79 KI_O_79 KS_O_79 (c_O_isPosition_y hN h10 (by omega) hp) d_O_find_2 (by omega) h10 rfl rfl (by decide) (Nat.le_of_ble_eq_true rfl) (by decide) (st := []) rfl (kRd ?_)
  show G 0 0 5 [some (.ref (q 10)), some (.int (nI p0)), none] [.int (nI 1)] N q f
  refine zr_if_net (tgt := 10) X d_O_find_5 rfl (by decide) ?_
  refine zr_aload_n X d_O_find_10 rfl ?_
  refine zr_get X F_O_52 d_O_find_11 (by omega) h10 (v := .int (nI ty)) rfl ?_
  refine zr_if_nef (tgt := 20) X d_O_find_14 rfl (by rw [ht0]; rfl) ?_
  refine zr_bipush (v := (-2)) X d_O_find_17 (by decide) ?_
  refine zr_ireturn Y d_O_find_19 rfl (Nat.le_of_ble_eq_true rfl) (Nat.le_of_ble_eq_true rfl) ?_
  exact ⟨rfl, rfl, rfl, rfl⟩

set_option maxRecDepth 100000 in
set_option maxHeartbeats 4000000 in
theorem c_O_mark_y {l : Launch} {D : va_G} {cI cC cZ cV : ClassId} {N : Nat} {q : Nat → Nat} {f : zF} (hN : 23 ≤ N) {n po th sz ty : Nat} (h10 : f 10 = zmo q n po th sz ty) {iset : Nat → Int32} (h20 : f 20 = .inl (cZ, 6, .inl iset)) {ma : Nat → Int32} (h21 : f 21 = .inl (cI, 6, .inl ma)) {mr : Nat → Int32} (h22 : f 22 = .inl (cZ, 6, .inl mr)) {m p : Nat} {r : Int32} (hm : m < 6) (hp : p ≤ sz) (hs : sz ≤ 2000) (hr : vp_nar .boolean r = r) : zC l y_O_mark b_O_mark 4 (some .boolean) (rmD 1 0 0) D (zty cI cC cZ cV) [.ref (q 10), .int (nI m), .int (nI p), .int r] N q f (fun v N' q' f' => v = some (.int (nI 1)) ∧ N' = N ∧ q' = q ∧ f' = va_up (va_up (va_up f 20 (.inl (cZ, 6, .inl (upd iset m (nI 1))))) 21 (.inl (cI, 6, .inl (upd ma m (nI p))))) 22 (.inl (cZ, 6, .inl (upd mr m r)))) := by
  refine zC.of (by decide) (by simp [Value.category]) (Nat.le_of_ble_eq_true rfl) (fun G X Y => ?_)
  show G 0 0 0 [some (.ref (q 10)), some (.int (nI m)), some (.int (nI p)), some (.int r)] [] N q f
  refine zr_iload_n X d_O_mark_0 rfl ?_
  refine zr_if_ltf (tgt := 17) X d_O_mark_1 rfl (nI_pos (by omega)) ?_
  refine zr_iload_n X d_O_mark_4 rfl ?_
  refine zr_iconst (v := nI 5) X d_O_mark_5 (by decide) ?_
  refine zr_icmp_gtf (tgt := 17) X d_O_mark_6 rfl (nI_nlt (by omega) (by decide)) ?_
  refine zr_aload_n X d_O_mark_9 rfl ?_
  refine zr_iload_n X d_O_mark_10 rfl ?_
  refine zr_callV X K_O_79 KI_O_79 KS_O_79 (c_O_isPosition_y hN h10 (by omega) hp) d_O_mark_11 (by omega) h10 rfl rfl (by decide) (Nat.le_of_ble_eq_true rfl) (by decide) (st := []) rfl (kRd ?_)
  show G 0 0 14 [some (.ref (q 10)), some (.int (nI m)), some (.int (nI p)), some (.int r)] [.int (nI 1)] N q f
  refine zr_if_net (tgt := 19) X d_O_mark_14 rfl (by decide) ?_
  refine zr_aload_n X d_O_mark_19 rfl ?_
  refine zr_get X F_O_43 d_O_mark_20 (by omega) h10 (v := .ref (q 20)) rfl ?_
  refine zr_iload_n X d_O_mark_23 rfl ?_
  refine zr_iconst (v := nI 1) X d_O_mark_24 (by decide) ?_
  refine zr_bastore X 2 d_O_mark_25 (by omega) h20 rfl (by omega) (by decide) (by decide) ?_
  refine zr_aload_n X d_O_mark_26 rfl ?_
  refine zr_get X F_O_46 d_O_mark_27 (by omega) (up_ne (by decide) h10) (v := .ref (q 21)) rfl ?_
  refine zr_iload_n X d_O_mark_30 rfl ?_
  refine zr_iload_n X d_O_mark_31 rfl ?_
  refine zr_iastore X 0 d_O_mark_32 (by omega) (up_ne (by decide) h21) rfl (by omega) (by decide) ?_
  refine zr_aload_n X d_O_mark_33 rfl ?_
  refine zr_get X F_O_49 d_O_mark_34 (by omega) (up_ne (by decide) (up_ne (by decide) h10)) (v := .ref (q 22)) rfl ?_
  refine zr_iload_n X d_O_mark_37 rfl ?_
  refine zr_iload_n X d_O_mark_38 rfl ?_
  refine zr_bastore X 2 d_O_mark_39 (by omega) (up_ne (by decide) (up_ne (by decide) h22)) rfl (by omega) (by decide) hr ?_
  refine zr_iconst (v := nI 1) X d_O_mark_40 (by decide) ?_
  refine zr_ireturn Y d_O_mark_41 rfl (Nat.le_of_ble_eq_true rfl) (Nat.le_of_ble_eq_true rfl) ?_
  exact ⟨rfl, rfl, rfl, rfl⟩

set_option maxRecDepth 100000 in
set_option maxHeartbeats 4000000 in
theorem c_O_mark_n1 {l : Launch} {D : va_G} {cI cC cZ cV : ClassId} {N : Nat} {q : Nat → Nat} {f : zF} (hN : 23 ≤ N) {n po th sz ty : Nat} (h10 : f 10 = zmo q n po th sz ty) {x y r : Int32} (hx : zNo x 5) : zC l y_O_mark b_O_mark 4 (some .boolean) (rmD 1 0 0) D (zty cI cC cZ cV) [.ref (q 10), .int x, .int y, .int r] N q f (pRd N q f (nI 0)) := by
  refine zC.of (by decide) (by simp [Value.category]) (Nat.le_of_ble_eq_true rfl) (fun G X Y => ?_)
  show G 0 0 0 [some (.ref (q 10)), some (.int x), some (.int y), some (.int r)] [] N q f
  refine zr_iload_n X d_O_mark_0 rfl ?_
  refine zr_if_lt (tgt := 17) X d_O_mark_1 rfl (fun h1 => ?_) (fun h1 => ?_)
  · skip
    refine zr_iconst (v := nI 0) X d_O_mark_17 (by decide) ?_
    refine zr_ireturn Y d_O_mark_18 rfl (Nat.le_of_ble_eq_true rfl) (Nat.le_of_ble_eq_true rfl) ?_
    exact ⟨rfl, rfl, rfl, rfl⟩
  · skip
    refine zr_iload_n X d_O_mark_4 rfl ?_
    refine zr_iconst (v := nI 5) X d_O_mark_5 (by decide) ?_
    refine zr_icmp_gtt (tgt := 17) X d_O_mark_6 rfl (hx.resolve_left h1) ?_
    refine zr_iconst (v := nI 0) X d_O_mark_17 (by decide) ?_
    refine zr_ireturn Y d_O_mark_18 rfl (Nat.le_of_ble_eq_true rfl) (Nat.le_of_ble_eq_true rfl) ?_
    exact ⟨rfl, rfl, rfl, rfl⟩

set_option maxRecDepth 100000 in
set_option maxHeartbeats 4000000 in
theorem c_O_mark_n2 {l : Launch} {D : va_G} {cI cC cZ cV : ClassId} {N : Nat} {q : Nat → Nat} {f : zF} (hN : 23 ≤ N) {n po th sz ty : Nat} (h10 : f 10 = zmo q n po th sz ty) {m : Nat} {y r : Int32} (hm : m < 6) (hy : zNo y sz) : zC l y_O_mark b_O_mark 4 (some .boolean) (rmD 1 0 0) D (zty cI cC cZ cV) [.ref (q 10), .int (nI m), .int y, .int r] N q f (pRd N q f (nI 0)) := by
  refine zC.of (by decide) (by simp [Value.category]) (Nat.le_of_ble_eq_true rfl) (fun G X Y => ?_)
  show G 0 0 0 [some (.ref (q 10)), some (.int (nI m)), some (.int y), some (.int r)] [] N q f
  refine zr_iload_n X d_O_mark_0 rfl ?_
  refine zr_if_ltf (tgt := 17) X d_O_mark_1 rfl (nI_pos (by omega)) ?_
  refine zr_iload_n X d_O_mark_4 rfl ?_
  refine zr_iconst (v := nI 5) X d_O_mark_5 (by decide) ?_
  refine zr_icmp_gtf (tgt := 17) X d_O_mark_6 rfl (nI_nlt (by omega) (by decide)) ?_
  refine zr_aload_n X d_O_mark_9 rfl ?_
  refine zr_iload_n X d_O_mark_10 rfl ?_
  refine zr_callV X K_O_79 KI_O_79 KS_O_79 (c_O_isPosition_n hN h10 hy) d_O_mark_11 (by omega) h10 rfl rfl (by decide) (Nat.le_of_ble_eq_true rfl) (by decide) (st := []) rfl (kRd ?_)
  show G 0 0 14 [some (.ref (q 10)), some (.int (nI m)), some (.int y), some (.int r)] [.int (nI 0)] N q f
  refine zr_if_nef (tgt := 19) X d_O_mark_14 rfl (by decide) ?_
  refine zr_iconst (v := nI 0) X d_O_mark_17 (by decide) ?_
  refine zr_ireturn Y d_O_mark_18 rfl (Nat.le_of_ble_eq_true rfl) (Nat.le_of_ble_eq_true rfl) ?_
  exact ⟨rfl, rfl, rfl, rfl⟩

set_option maxRecDepth 100000 in
set_option maxHeartbeats 4000000 in
theorem c_O_unmark_y {l : Launch} {D : va_G} {cI cC cZ cV : ClassId} {N : Nat} {q : Nat → Nat} {f : zF} (hN : 23 ≤ N) {n po th sz ty : Nat} (h10 : f 10 = zmo q n po th sz ty) {iset : Nat → Int32} (h20 : f 20 = .inl (cZ, 6, .inl iset)) {m : Nat} (hm : m < 6) (hi : iset m = nI 1) : zC l y_O_unmark b_O_unmark 3 (some .boolean) (rmD 0 0 0) D (zty cI cC cZ cV) [.ref (q 10), .int (nI m)] N q f (fun v N' q' f' => v = some (.int (nI 1)) ∧ N' = N ∧ q' = q ∧ f' = va_up f 20 (.inl (cZ, 6, .inl (upd iset m (nI 0))))) := by
  refine zC.of (by decide) (by simp [Value.category]) (Nat.le_of_ble_eq_true rfl) (fun G X Y => ?_)
  show G 0 0 0 [some (.ref (q 10)), some (.int (nI m)), none] [] N q f
  refine zr_iload_n X d_O_unmark_0 rfl ?_
  refine zr_if_ltf (tgt := 22) X d_O_unmark_1 rfl (nI_pos (by omega)) ?_
  refine zr_iload_n X d_O_unmark_4 rfl ?_
  refine zr_iconst (v := nI 5) X d_O_unmark_5 (by decide) ?_
  refine zr_icmp_gtf (tgt := 22) X d_O_unmark_6 rfl (nI_nlt (by omega) (by decide)) ?_
  refine zr_aload_n X d_O_unmark_9 rfl ?_
  refine zr_get X F_O_43 d_O_unmark_10 (by omega) h10 (v := .ref (q 20)) rfl ?_
  refine zr_iload_n X d_O_unmark_13 rfl ?_
  refine zr_baload (v := nI 1) X 2 d_O_unmark_14 (by omega) h20 rfl (by omega) (by decide) hi ?_
  refine zr_if_eqf (tgt := 22) X d_O_unmark_15 rfl (by decide) ?_
  refine zr_iconst (v := nI 1) X d_O_unmark_18 (by decide) ?_
  refine zr_goto (tgt := 23) X d_O_unmark_19 rfl ?_
  refine zr_istore_n (lv' := [some (.ref (q 10)), some (.int (nI m)), some (.int (nI 1))]) X d_O_unmark_23 (by decide) rfl ?_
  refine zr_iload_n X d_O_unmark_24 rfl ?_
  refine zr_if_eqf (tgt := 35) X d_O_unmark_25 rfl (by decide) ?_
  refine zr_aload_n X d_O_unmark_28 rfl ?_
  refine zr_get X F_O_43 d_O_unmark_29 (by omega) h10 (v := .ref (q 20)) rfl ?_
  refine zr_iload_n X d_O_unmark_32 rfl ?_
  refine zr_iconst (v := nI 0) X d_O_unmark_33 (by decide) ?_
  refine zr_bastore X 2 d_O_unmark_34 (by omega) h20 rfl (by omega) (by decide) (by decide) ?_
  refine zr_iload_n X d_O_unmark_35 rfl ?_
  refine zr_ireturn Y d_O_unmark_36 rfl (Nat.le_of_ble_eq_true rfl) (Nat.le_of_ble_eq_true rfl) ?_
  exact ⟨rfl, rfl, rfl, rfl⟩

set_option maxRecDepth 100000 in
set_option maxHeartbeats 4000000 in
theorem c_O_unmark_0 {l : Launch} {D : va_G} {cI cC cZ cV : ClassId} {N : Nat} {q : Nat → Nat} {f : zF} (hN : 23 ≤ N) {n po th sz ty : Nat} (h10 : f 10 = zmo q n po th sz ty) {iset : Nat → Int32} (h20 : f 20 = .inl (cZ, 6, .inl iset)) {m : Nat} (hm : m < 6) (hi : iset m = nI 0) : zC l y_O_unmark b_O_unmark 3 (some .boolean) (rmD 0 0 0) D (zty cI cC cZ cV) [.ref (q 10), .int (nI m)] N q f (pRd N q f (nI 0)) := by
  refine zC.of (by decide) (by simp [Value.category]) (Nat.le_of_ble_eq_true rfl) (fun G X Y => ?_)
  show G 0 0 0 [some (.ref (q 10)), some (.int (nI m)), none] [] N q f
  refine zr_iload_n X d_O_unmark_0 rfl ?_
  refine zr_if_ltf (tgt := 22) X d_O_unmark_1 rfl (nI_pos (by omega)) ?_
  refine zr_iload_n X d_O_unmark_4 rfl ?_
  refine zr_iconst (v := nI 5) X d_O_unmark_5 (by decide) ?_
  refine zr_icmp_gtf (tgt := 22) X d_O_unmark_6 rfl (nI_nlt (by omega) (by decide)) ?_
  refine zr_aload_n X d_O_unmark_9 rfl ?_
  refine zr_get X F_O_43 d_O_unmark_10 (by omega) h10 (v := .ref (q 20)) rfl ?_
  refine zr_iload_n X d_O_unmark_13 rfl ?_
  refine zr_baload (v := nI 0) X 2 d_O_unmark_14 (by omega) h20 rfl (by omega) (by decide) hi ?_
  refine zr_if_eqt (tgt := 22) X d_O_unmark_15 rfl (by decide) ?_
  refine zr_iconst (v := nI 0) X d_O_unmark_22 (by decide) ?_
  refine zr_istore_n (lv' := [some (.ref (q 10)), some (.int (nI m)), some (.int (nI 0))]) X d_O_unmark_23 (by decide) rfl ?_
  refine zr_iload_n X d_O_unmark_24 rfl ?_
  refine zr_if_eqt (tgt := 35) X d_O_unmark_25 rfl (by decide) ?_
  refine zr_iload_n X d_O_unmark_35 rfl ?_
  refine zr_ireturn Y d_O_unmark_36 rfl (Nat.le_of_ble_eq_true rfl) (Nat.le_of_ble_eq_true rfl) ?_
  exact ⟨rfl, rfl, rfl, rfl⟩

set_option maxRecDepth 100000 in
set_option maxHeartbeats 4000000 in
theorem c_O_unmark_n {l : Launch} {D : va_G} {cI cC cZ cV : ClassId} {N : Nat} {q : Nat → Nat} {f : zF} (hN : 23 ≤ N) {n po th sz ty : Nat} (h10 : f 10 = zmo q n po th sz ty) {x : Int32} (hx : zNo x 5) : zC l y_O_unmark b_O_unmark 3 (some .boolean) (rmD 0 0 0) D (zty cI cC cZ cV) [.ref (q 10), .int x] N q f (pRd N q f (nI 0)) := by
  refine zC.of (by decide) (by simp [Value.category]) (Nat.le_of_ble_eq_true rfl) (fun G X Y => ?_)
  show G 0 0 0 [some (.ref (q 10)), some (.int x), none] [] N q f
  refine zr_iload_n X d_O_unmark_0 rfl ?_
  refine zr_if_lt (tgt := 22) X d_O_unmark_1 rfl (fun h1 => ?_) (fun h1 => ?_)
  · skip
    refine zr_iconst (v := nI 0) X d_O_unmark_22 (by decide) ?_
    refine zr_istore_n (lv' := [some (.ref (q 10)), some (.int x), some (.int (nI 0))]) X d_O_unmark_23 (by decide) rfl ?_
    refine zr_iload_n X d_O_unmark_24 rfl ?_
    refine zr_if_eqt (tgt := 35) X d_O_unmark_25 rfl (by decide) ?_
    refine zr_iload_n X d_O_unmark_35 rfl ?_
    refine zr_ireturn Y d_O_unmark_36 rfl (Nat.le_of_ble_eq_true rfl) (Nat.le_of_ble_eq_true rfl) ?_
    exact ⟨rfl, rfl, rfl, rfl⟩
  · skip
    refine zr_iload_n X d_O_unmark_4 rfl ?_
    refine zr_iconst (v := nI 5) X d_O_unmark_5 (by decide) ?_
    refine zr_icmp_gtt (tgt := 22) X d_O_unmark_6 rfl (hx.resolve_left h1) ?_
    refine zr_iconst (v := nI 0) X d_O_unmark_22 (by decide) ?_
    refine zr_istore_n (lv' := [some (.ref (q 10)), some (.int x), some (.int (nI 0))]) X d_O_unmark_23 (by decide) rfl ?_
    refine zr_iload_n X d_O_unmark_24 rfl ?_
    refine zr_if_eqt (tgt := 35) X d_O_unmark_25 rfl (by decide) ?_
    refine zr_iload_n X d_O_unmark_35 rfl ?_
    refine zr_ireturn Y d_O_unmark_36 rfl (Nat.le_of_ble_eq_true rfl) (Nat.le_of_ble_eq_true rfl) ?_
    exact ⟨rfl, rfl, rfl, rfl⟩

set_option maxRecDepth 100000 in
set_option maxHeartbeats 4000000 in
theorem c_O_where_y {l : Launch} {D : va_G} {cI cC cZ cV : ClassId} {N : Nat} {q : Nat → Nat} {f : zF} (hN : 23 ≤ N) {n po th sz ty : Nat} (h10 : f 10 = zmo q n po th sz ty) {iset : Nat → Int32} (h20 : f 20 = .inl (cZ, 6, .inl iset)) {ma : Nat → Int32} (h21 : f 21 = .inl (cI, 6, .inl ma)) {m : Nat} (hm : m < 6) (hi : iset m = nI 1) : zC l y_O_where b_O_where 2 (some .int) (rmD 0 0 0) D (zty cI cC cZ cV) [.ref (q 10), .int (nI m)] N q f (pRd N q f (ma m)) := by
  refine zC.of (by decide) (by simp [Value.category]) (Nat.le_of_ble_eq_true rfl) (fun G X Y => ?_)
  show G 0 0 0 [some (.ref (q 10)), some (.int (nI m))] [] N q f
  refine zr_iload_n X d_O_where_0 rfl ?_
  refine zr_if_ltf (tgt := 27) X d_O_where_1 rfl (nI_pos (by omega)) ?_
  refine zr_iload_n X d_O_where_4 rfl ?_
  refine zr_iconst (v := nI 5) X d_O_where_5 (by decide) ?_
  refine zr_icmp_gtf (tgt := 27) X d_O_where_6 rfl (nI_nlt (by omega) (by decide)) ?_
  refine zr_aload_n X d_O_where_9 rfl ?_
  refine zr_get X F_O_43 d_O_where_10 (by omega) h10 (v := .ref (q 20)) rfl ?_
  refine zr_iload_n X d_O_where_13 rfl ?_
  refine zr_baload (v := nI 1) X 2 d_O_where_14 (by omega) h20 rfl (by omega) (by decide) hi ?_
  refine zr_if_eqf (tgt := 27) X d_O_where_15 rfl (by decide) ?_
  refine zr_aload_n X d_O_where_18 rfl ?_
  refine zr_get X F_O_46 d_O_where_19 (by omega) h10 (v := .ref (q 21)) rfl ?_
  refine zr_iload_n X d_O_where_22 rfl ?_
  refine zr_iaload (v := ma m) X 0 d_O_where_23 (by omega) h21 rfl (by omega) (by decide) rfl ?_
  refine zr_goto (tgt := 28) X d_O_where_24 rfl ?_
  refine zr_ireturn Y d_O_where_28 rfl (Nat.le_of_ble_eq_true rfl) (Nat.le_of_ble_eq_true rfl) ?_
  exact ⟨rfl, rfl, rfl, rfl⟩

set_option maxRecDepth 100000 in
set_option maxHeartbeats 4000000 in
theorem c_O_where_0 {l : Launch} {D : va_G} {cI cC cZ cV : ClassId} {N : Nat} {q : Nat → Nat} {f : zF} (hN : 23 ≤ N) {n po th sz ty : Nat} (h10 : f 10 = zmo q n po th sz ty) {iset : Nat → Int32} (h20 : f 20 = .inl (cZ, 6, .inl iset)) {m : Nat} (hm : m < 6) (hi : iset m = nI 0) : zC l y_O_where b_O_where 2 (some .int) (rmD 0 0 0) D (zty cI cC cZ cV) [.ref (q 10), .int (nI m)] N q f (pRd N q f (-1)) := by
  refine zC.of (by decide) (by simp [Value.category]) (Nat.le_of_ble_eq_true rfl) (fun G X Y => ?_)
  show G 0 0 0 [some (.ref (q 10)), some (.int (nI m))] [] N q f
  refine zr_iload_n X d_O_where_0 rfl ?_
  refine zr_if_ltf (tgt := 27) X d_O_where_1 rfl (nI_pos (by omega)) ?_
  refine zr_iload_n X d_O_where_4 rfl ?_
  refine zr_iconst (v := nI 5) X d_O_where_5 (by decide) ?_
  refine zr_icmp_gtf (tgt := 27) X d_O_where_6 rfl (nI_nlt (by omega) (by decide)) ?_
  refine zr_aload_n X d_O_where_9 rfl ?_
  refine zr_get X F_O_43 d_O_where_10 (by omega) h10 (v := .ref (q 20)) rfl ?_
  refine zr_iload_n X d_O_where_13 rfl ?_
  refine zr_baload (v := nI 0) X 2 d_O_where_14 (by omega) h20 rfl (by omega) (by decide) hi ?_
  refine zr_if_eqt (tgt := 27) X d_O_where_15 rfl (by decide) ?_
  refine zr_iconst (v := (-1)) X d_O_where_27 (by decide) ?_
  refine zr_ireturn Y d_O_where_28 rfl (Nat.le_of_ble_eq_true rfl) (Nat.le_of_ble_eq_true rfl) ?_
  exact ⟨rfl, rfl, rfl, rfl⟩

set_option maxRecDepth 100000 in
set_option maxHeartbeats 4000000 in
theorem c_O_where_n {l : Launch} {D : va_G} {cI cC cZ cV : ClassId} {N : Nat} {q : Nat → Nat} {f : zF} (hN : 23 ≤ N) {n po th sz ty : Nat} (h10 : f 10 = zmo q n po th sz ty) {x : Int32} (hx : zNo x 5) : zC l y_O_where b_O_where 2 (some .int) (rmD 0 0 0) D (zty cI cC cZ cV) [.ref (q 10), .int x] N q f (pRd N q f (-1)) := by
  refine zC.of (by decide) (by simp [Value.category]) (Nat.le_of_ble_eq_true rfl) (fun G X Y => ?_)
  show G 0 0 0 [some (.ref (q 10)), some (.int x)] [] N q f
  refine zr_iload_n X d_O_where_0 rfl ?_
  refine zr_if_lt (tgt := 27) X d_O_where_1 rfl (fun h1 => ?_) (fun h1 => ?_)
  · skip
    refine zr_iconst (v := (-1)) X d_O_where_27 (by decide) ?_
    refine zr_ireturn Y d_O_where_28 rfl (Nat.le_of_ble_eq_true rfl) (Nat.le_of_ble_eq_true rfl) ?_
    exact ⟨rfl, rfl, rfl, rfl⟩
  · skip
    refine zr_iload_n X d_O_where_4 rfl ?_
    refine zr_iconst (v := nI 5) X d_O_where_5 (by decide) ?_
    refine zr_icmp_gtt (tgt := 27) X d_O_where_6 rfl (hx.resolve_left h1) ?_
    refine zr_iconst (v := (-1)) X d_O_where_27 (by decide) ?_
    refine zr_ireturn Y d_O_where_28 rfl (Nat.le_of_ble_eq_true rfl) (Nat.le_of_ble_eq_true rfl) ?_
    exact ⟨rfl, rfl, rfl, rfl⟩

/-- of the marks 5, 4, .. the one that the reference's loop has found after d of them -/
def znm (iset ma : Nat → Int32) (x : Int32) : Nat → Option Nat
  | 0 => none
  | d + 1 => match znm iset ma x d with
    | none => if iset (5 - d) = 0 then none else if ma (5 - d) < x then none else some (5 - d)
    | some b => if iset (5 - d) = 0 then some b else if ma (5 - d) < x then some b else if ma b < ma (5 - d) then some b else some (5 - d)

set_option maxRecDepth 100000 in
set_option maxHeartbeats 4000000 in
theorem c_O_nextMark_y {l : Launch} {D : va_G} {cI cC cZ cV : ClassId} {N : Nat} {q : Nat → Nat} {f : zF} (hN : 23 ≤ N) {n po th sz ty : Nat} (h10 : f 10 = zmo q n po th sz ty) {iset : Nat → Int32} (h20 : f 20 = .inl (cZ, 6, .inl iset)) {ma : Nat → Int32} (h21 : f 21 = .inl (cI, 6, .inl ma)) {p : Nat} (hp : p ≤ sz) (hs : sz ≤ 2000) {x : Int32} (hx : nI p = x) : zC l y_O_nextMark b_O_nextMark 5 (some .int) (rmD 1 0 0) D (zty cI cC cZ cV) [.ref (q 10), .int x] N q f (pRd N q f (zfi (znm iset ma x 6))) := by
  refine zC.of (by decide) (by simp [Value.category]) (Nat.le_of_ble_eq_true rfl) (fun G X Y => ?_)
  show G 0 0 0 [some (.ref (q 10)), some (.int x), none, none, none] [] N q f
  have loop : ∀ (i : Nat) (o : Option Nat) (w : Option Value), i ≤ 6 → o = znm iset ma x (6 - i) → (∀ b, o = some b → b < 6) → G 0 0 14 [some (.ref (q 10)), some (.int x), some (.int (zfi o)), some (.int (nI i - 1)), w] [] N q f := by
    intro i
    induction i with
    | zero =>
      intro o w hi ho hb
      show G 0 0 14 [some (.ref (q 10)), some (.int x), some (.int (zfi o)), some (.int (nI 0 - 1)), w] [] N q f
      refine zr_iload_n X d_O_nextMark_14 rfl ?_
      refine zr_if_ltt (tgt := 80) X d_O_nextMark_15 rfl (by decide) ?_
      refine zr_iload_n X d_O_nextMark_80 rfl ?_
      refine zr_ireturn Y d_O_nextMark_81 rfl (Nat.le_of_ble_eq_true rfl) (Nat.le_of_ble_eq_true rfl) ?_
      exact ⟨by rw [ho], rfl, rfl, rfl⟩
    | succ i ih =>
      intro o w hi ho hb
      rw [nI_pred i]
      have hz : znm iset ma x (6 - i) = match znm iset ma x (6 - (i + 1)) with | none => if iset (5 - (6 - (i + 1))) = 0 then none else if ma (5 - (6 - (i + 1))) < x then none else some (5 - (6 - (i + 1))) | some b => if iset (5 - (6 - (i + 1))) = 0 then some b else if ma (5 - (6 - (i + 1))) < x then some b else if ma b < ma (5 - (6 - (i + 1))) then some b else some (5 - (6 - (i + 1))) := by rw [show 6 - i = (6 - (i + 1)) + 1 by omega]; rfl
      rw [← ho, show 5 - (6 - (i + 1)) = i by omega] at hz
      show G 0 0 14 [some (.ref (q 10)), some (.int x), some (.int (zfi o)), some (.int (nI i)), w] [] N q f
      refine zr_iload_n X d_O_nextMark_14 rfl ?_
      refine zr_if_ltf (tgt := 80) X d_O_nextMark_15 rfl (nI_pos (by omega)) ?_
      refine zr_aload_n X d_O_nextMark_18 rfl ?_
      refine zr_get X F_O_43 d_O_nextMark_19 (by omega) h10 (v := .ref (q 20)) rfl ?_
      refine zr_iload_n X d_O_nextMark_22 rfl ?_
      refine zr_baload (v := iset i) X 2 d_O_nextMark_23 (by omega) h20 rfl (by omega) (by decide) rfl ?_
      refine zr_if_eq (tgt := 41) X d_O_nextMark_24 rfl (fun h24 => ?_) (fun h24 => ?_)
      · skip
        refine zr_iconst (v := nI 0) X d_O_nextMark_41 (by decide) ?_
        refine zr_istore (lv' := [some (.ref (q 10)), some (.int x), some (.int (zfi o)), some (.int (nI i)), some (.int (nI 0))]) X d_O_nextMark_42 (by decide) rfl ?_
        refine zr_iload X d_O_nextMark_44 rfl ?_
        refine zr_if_eqt (tgt := 72) X d_O_nextMark_46 rfl (by decide) ?_
        refine zr_iload_n X d_O_nextMark_72 rfl ?_
        refine zr_istore_n (lv' := [some (.ref (q 10)), some (.int x), some (.int (zfi o)), some (.int (nI i)), some (.int (nI 0))]) X d_O_nextMark_73 (by decide) rfl ?_
        refine zr_iinc (v := nI i - 1) (lv' := [some (.ref (q 10)), some (.int x), some (.int (zfi o)), some (.int (nI i - 1)), some (.int (nI 0))]) X d_O_nextMark_74 rfl (z_dec _) (by decide) rfl ?_
        refine zr_goto (tgt := 14) X d_O_nextMark_77 rfl ?_
        exact ih o _ (by omega) (by rw [hz]; cases o <;> simp [h24]) hb
      · skip
        refine zr_aload_n X d_O_nextMark_27 rfl ?_
        refine zr_get X F_O_46 d_O_nextMark_28 (by omega) h10 (v := .ref (q 21)) rfl ?_
        refine zr_iload_n X d_O_nextMark_31 rfl ?_
        refine zr_iaload (v := ma i) X 0 d_O_nextMark_32 (by omega) h21 rfl (by omega) (by decide) rfl ?_
        refine zr_iload_n X d_O_nextMark_33 rfl ?_
        refine zr_icmp_lt (tgt := 41) X d_O_nextMark_34 rfl (fun h34 => ?_) (fun h34 => ?_)
        · skip
          refine zr_iconst (v := nI 0) X d_O_nextMark_41 (by decide) ?_
          refine zr_istore (lv' := [some (.ref (q 10)), some (.int x), some (.int (zfi o)), some (.int (nI i)), some (.int (nI 0))]) X d_O_nextMark_42 (by decide) rfl ?_
          refine zr_iload X d_O_nextMark_44 rfl ?_
          refine zr_if_eqt (tgt := 72) X d_O_nextMark_46 rfl (by decide) ?_
          refine zr_iload_n X d_O_nextMark_72 rfl ?_
          refine zr_istore_n (lv' := [some (.ref (q 10)), some (.int x), some (.int (zfi o)), some (.int (nI i)), some (.int (nI 0))]) X d_O_nextMark_73 (by decide) rfl ?_
          refine zr_iinc (v := nI i - 1) (lv' := [some (.ref (q 10)), some (.int x), some (.int (zfi o)), some (.int (nI i - 1)), some (.int (nI 0))]) X d_O_nextMark_74 rfl (z_dec _) (by decide) rfl ?_
          refine zr_goto (tgt := 14) X d_O_nextMark_77 rfl ?_
          exact ih o _ (by omega) (by rw [hz]; cases o <;> simp [h24, h34]) hb
        · skip
          refine zr_iconst (v := nI 1) X d_O_nextMark_37 (by decide) ?_
          refine zr_goto (tgt := 42) X d_O_nextMark_38 rfl ?_
          refine zr_istore (lv' := [some (.ref (q 10)), some (.int x), some (.int (zfi o)), some (.int (nI i)), some (.int (nI 1))]) X d_O_nextMark_42 (by decide) rfl ?_
          refine zr_iload X d_O_nextMark_44 rfl ?_
          refine zr_if_eqf (tgt := 72) X d_O_nextMark_46 rfl (by decide) ?_
          cases o with
          | none =>
            show G 0 0 49 [some (.ref (q 10)), some (.int x), some (.int (-1)), some (.int (nI i)), some (.int (nI 1))] [] N q f
            refine zr_iload_n X d_O_nextMark_49 rfl ?_
            refine zr_if_ltt (tgt := 68) X d_O_nextMark_50 rfl (by decide) ?_
            refine zr_iload_n X d_O_nextMark_68 rfl ?_
            refine zr_goto (tgt := 73) X d_O_nextMark_69 rfl ?_
            refine zr_istore_n (lv' := [some (.ref (q 10)), some (.int x), some (.int (nI i)), some (.int (nI i)), some (.int (nI 1))]) X d_O_nextMark_73 (by decide) rfl ?_
            refine zr_iinc (v := nI i - 1) (lv' := [some (.ref (q 10)), some (.int x), some (.int (nI i)), some (.int (nI i - 1)), some (.int (nI 1))]) X d_O_nextMark_74 rfl (z_dec _) (by decide) rfl ?_
            refine zr_goto (tgt := 14) X d_O_nextMark_77 rfl ?_
            exact ih (some i) _ (by omega) (by rw [hz]; simp [h24, h34]) (fun b h => by cases h; omega)
          | some b =>
            have hb6 : b < 6 := hb b rfl
            show G 0 0 49 [some (.ref (q 10)), some (.int x), some (.int (nI b)), some (.int (nI i)), some (.int (nI 1))] [] N q f
            refine zr_iload_n X d_O_nextMark_49 rfl ?_
            refine zr_if_ltf (tgt := 68) X d_O_nextMark_50 rfl (nI_pos (by omega)) ?_
            refine zr_aload_n X d_O_nextMark_53 rfl ?_
            refine zr_get X F_O_46 d_O_nextMark_54 (by omega) h10 (v := .ref (q 21)) rfl ?_
            refine zr_iload_n X d_O_nextMark_57 rfl ?_
            refine zr_iaload (v := ma i) X 0 d_O_nextMark_58 (by omega) h21 rfl (by omega) (by decide) rfl ?_
            refine zr_aload_n X d_O_nextMark_59 rfl ?_
            refine zr_get X F_O_46 d_O_nextMark_60 (by omega) h10 (v := .ref (q 21)) rfl ?_
            refine zr_iload_n X d_O_nextMark_63 rfl ?_
            refine zr_iaload (v := ma b) X 0 d_O_nextMark_64 (by omega) h21 rfl (by omega) (by decide) rfl ?_
            refine zr_icmp_gt (tgt := 72) X d_O_nextMark_65 rfl (fun h65 => ?_) (fun h65 => ?_)
            · skip
              refine zr_iload_n X d_O_nextMark_72 rfl ?_
              refine zr_istore_n (lv' := [some (.ref (q 10)), some (.int x), some (.int (nI b)), some (.int (nI i)), some (.int (nI 1))]) X d_O_nextMark_73 (by decide) rfl ?_
              refine zr_iinc (v := nI i - 1) (lv' := [some (.ref (q 10)), some (.int x), some (.int (nI b)), some (.int (nI i - 1)), some (.int (nI 1))]) X d_O_nextMark_74 rfl (z_dec _) (by decide) rfl ?_
              refine zr_goto (tgt := 14) X d_O_nextMark_77 rfl ?_
              exact ih (some b) _ (by omega) (by rw [hz]; simp [h24, h34, h65]) hb
            · skip
              refine zr_iload_n X d_O_nextMark_68 rfl ?_
              refine zr_goto (tgt := 73) X d_O_nextMark_69 rfl ?_
              refine zr_istore_n (lv' := [some (.ref (q 10)), some (.int x), some (.int (nI i)), some (.int (nI i)), some (.int (nI 1))]) X d_O_nextMark_73 (by decide) rfl ?_
              refine zr_iinc (v := nI i - 1) (lv' := [some (.ref (q 10)), some (.int x), some (.int (nI i)), some (.int (nI i - 1)), some (.int (nI 1))]) X d_O_nextMark_74 rfl (z_dec _) (by decide) rfl ?_
              refine zr_goto (tgt := 14) X d_O_nextMark_77 rfl ?_
              exact ih (some i) _ (by omega) (by rw [hz]; simp [h24, h34, h65]) (fun b h => by cases h; omega)
  refine zr_aload_n X d_O_nextMark_0 rfl ?_
  refine zr_iload_n X d_O_nextMark_1 rfl ?_
  refine zr_callV X K_O_79 KI_O_79 KS_O_79 (hx ▸ c_O_isPosition_y hN h10 (by omega) hp) d_O_nextMark_2 (by omega) h10 rfl rfl (by decide) (Nat.le_of_ble_eq_true rfl) (by decide) (st := []) rfl (kRd ?_)
  show G 0 0 5 [some (.ref (q 10)), some (.int x), none, none, none] [.int (nI 1)] N q f
  refine zr_if_net (tgt := 10) X d_O_nextMark_5 rfl (by decide) ?_
  refine zr_iconst (v := (-1)) X d_O_nextMark_10 (by decide) ?_
  refine zr_istore_n (lv' := [some (.ref (q 10)), some (.int x), some (.int ((-1))), none, none]) X d_O_nextMark_11 (by decide) rfl ?_
  refine zr_iconst (v := nI 6 - 1) X d_O_nextMark_12 (by decide) ?_
  refine zr_istore_n (lv' := [some (.ref (q 10)), some (.int x), some (.int ((-1))), some (.int (nI 6 - 1)), none]) X d_O_nextMark_13 (by decide) rfl ?_
  exact loop 6 none none (by omega) rfl (fun b h => by cases h)

set_option maxRecDepth 100000 in
set_option maxHeartbeats 4000000 in
theorem c_O_nextMark_n {l : Launch} {D : va_G} {cI cC cZ cV : ClassId} {N : Nat} {q : Nat → Nat} {f : zF} (hN : 23 ≤ N) {n po th sz ty : Nat} (h10 : f 10 = zmo q n po th sz ty) {x : Int32} (hx : zNo x sz) : zC l y_O_nextMark b_O_nextMark 5 (some .int) (rmD 1 0 0) D (zty cI cC cZ cV) [.ref (q 10), .int x] N q f (pRd N q f (-1)) := by
  refine zC.of (by decide) (by simp [Value.category]) (Nat.le_of_ble_eq_true rfl) (fun G X Y => ?_)
  show G 0 0 0 [some (.ref (q 10)), some (.int x), none, none, none] [] N q f
  refine zr_aload_n X d_O_nextMark_0 rfl ?_
  refine zr_iload_n X d_O_nextMark_1 rfl ?_
  refine zr_callV X K_O_79 KI_O_79 KS_O_79 (c_O_isPosition_n hN h10 hx) d_O_nextMark_2 (by omega) h10 rfl rfl (by decide) (Nat.le_of_ble_eq_true rfl) (by decide) (st := []) rfl (kRd ?_)
  show G 0 0 5 [some (.ref (q 10)), some (.int x), none, none, none] [.int (nI 0)] N q f
  refine zr_if_nef (tgt := 10) X d_O_nextMark_5 rfl (by decide) ?_
  refine zr_iconst (v := (-1)) X d_O_nextMark_8 (by decide) ?_
  refine zr_ireturn Y d_O_nextMark_9 rfl (Nat.le_of_ble_eq_true rfl) (Nat.le_of_ble_eq_true rfl) ?_
  exact ⟨rfl, rfl, rfl, rfl⟩
end
section
/-- the class's own cell -/
abbrev zbo (q : Nat → Nat) (n ins jt : Nat) : va_E := .inr (iB, [.ref (q 1), .ref (q 3), .ref (q 5), .ref (q 8), .ref (q 9), .int (nI n), .int (nI ins), .ref (q jt)])
abbrev zrow (q : Nat → Nat) (jc sz : Nat) : va_E := .inr (iR, [.ref (q jc), .int (nI sz)])
abbrev zver (q : Nat → Nat) (num : Nat) (par : Value) (com : Int32) (at_ jp cc : Nat) (lat : Value) : va_E := .inr (iV, [.int (nI num), par, .int com, .int (nI at_), .ref (q jp), .int (nI cc), lat])

theorem z_5_6 {x : Int32} (h : nI 5 < x) : nI 6 ≤ x := by
  rw [Int32.lt_iff_toInt_lt, nI_toInt (by decide)] at h
  rw [Int32.le_iff_toInt_le, nI_toInt (by decide)]
  omega

set_option maxRecDepth 100000 in
set_option maxHeartbeats 4000000 in
theorem c_B_isCharacter_y {l : Launch} {D : va_G} {cI cC cZ cV : ClassId} {N : Nat} {q : Nat → Nat} {f : zF} {x : Int32} (hx : zIsCh x) : zC l y_B_isCharacter b_B_isCharacter 1 (some .boolean) (rmD 0 0 0) D (zty cI cC cZ cV) [.int x] N q f (pRd N q f (nI 1)) := by
  refine zC.of (by decide) (by simp [Value.category]) (Nat.le_of_ble_eq_true rfl) (fun G X Y => ?_)
  show G 0 0 0 [some (.int x)] [] N q f
  refine zr_iload_n X d_B_isCharacter_0 rfl ?_
  refine zr_bipush (v := 10) X d_B_isCharacter_1 (by decide) ?_
  refine zr_icmp_eq (tgt := 18) X d_B_isCharacter_3 rfl (fun h3 => ?_) (fun h3 => ?_)
  · skip
    refine zr_iconst (v := nI 1) X d_B_isCharacter_18 (by decide) ?_
    refine zr_goto (tgt := 23) X d_B_isCharacter_19 rfl ?_
    refine zr_ireturn Y d_B_isCharacter_23 rfl (Nat.le_of_ble_eq_true rfl) (Nat.le_of_ble_eq_true rfl) ?_
    exact ⟨rfl, rfl, rfl, rfl⟩
  · skip
    refine zr_iload_n X d_B_isCharacter_6 rfl ?_
    refine zr_bipush (v := 32) X d_B_isCharacter_7 (by decide) ?_
    refine zr_icmp_ltf (tgt := 22) X d_B_isCharacter_9 rfl (hx.resolve_left h3).1 ?_
    refine zr_iload_n X d_B_isCharacter_12 rfl ?_
    refine zr_bipush (v := 126) X d_B_isCharacter_13 (by decide) ?_
    refine zr_icmp_gtf (tgt := 22) X d_B_isCharacter_15 rfl (hx.resolve_left h3).2 ?_
    refine zr_iconst (v := nI 1) X d_B_isCharacter_18 (by decide) ?_
    refine zr_goto (tgt := 23) X d_B_isCharacter_19 rfl ?_
    refine zr_ireturn Y d_B_isCharacter_23 rfl (Nat.le_of_ble_eq_true rfl) (Nat.le_of_ble_eq_true rfl) ?_
    exact ⟨rfl, rfl, rfl, rfl⟩

set_option maxRecDepth 100000 in
set_option maxHeartbeats 4000000 in
theorem c_B_isCharacter_n {l : Launch} {D : va_G} {cI cC cZ cV : ClassId} {N : Nat} {q : Nat → Nat} {f : zF} {x : Int32} (hx : ¬ zIsCh x) : zC l y_B_isCharacter b_B_isCharacter 1 (some .boolean) (rmD 0 0 0) D (zty cI cC cZ cV) [.int x] N q f (pRd N q f (nI 0)) := by
  refine zC.of (by decide) (by simp [Value.category]) (Nat.le_of_ble_eq_true rfl) (fun G X Y => ?_)
  show G 0 0 0 [some (.int x)] [] N q f
  refine zr_iload_n X d_B_isCharacter_0 rfl ?_
  refine zr_bipush (v := 10) X d_B_isCharacter_1 (by decide) ?_
  refine zr_icmp_eqf (tgt := 18) X d_B_isCharacter_3 rfl (fun h => hx (Or.inl h)) ?_
  refine zr_iload_n X d_B_isCharacter_6 rfl ?_
  refine zr_bipush (v := 32) X d_B_isCharacter_7 (by decide) ?_
  refine zr_icmp_lt (tgt := 22) X d_B_isCharacter_9 rfl (fun h9 => ?_) (fun h9 => ?_)
  · skip
    refine zr_iconst (v := nI 0) X d_B_isCharacter_22 (by decide) ?_
    refine zr_ireturn Y d_B_isCharacter_23 rfl (Nat.le_of_ble_eq_true rfl) (Nat.le_of_ble_eq_true rfl) ?_
    exact ⟨rfl, rfl, rfl, rfl⟩
  · skip
    refine zr_iload_n X d_B_isCharacter_12 rfl ?_
    refine zr_bipush (v := 126) X d_B_isCharacter_13 (by decide) ?_
    refine zr_icmp_gtt (tgt := 22) X d_B_isCharacter_15 rfl (Decidable.byContradiction (fun h => hx (Or.inr ⟨h9, h⟩))) ?_
    refine zr_iconst (v := nI 0) X d_B_isCharacter_22 (by decide) ?_
    refine zr_ireturn Y d_B_isCharacter_23 rfl (Nat.le_of_ble_eq_true rfl) (Nat.le_of_ble_eq_true rfl) ?_
    exact ⟨rfl, rfl, rfl, rfl⟩

set_option maxRecDepth 100000 in
set_option maxHeartbeats 4000000 in
theorem c_B_isMark_y {l : Launch} {D : va_G} {cI cC cZ cV : ClassId} {N : Nat} {q : Nat → Nat} {f : zF} {m : Nat} (hm : m < 6) : zC l y_B_isMark b_B_isMark 1 (some .boolean) (rmD 0 0 0) D (zty cI cC cZ cV) [.int (nI m)] N q f (pRd N q f (nI 1)) := by
  refine zC.of (by decide) (by simp [Value.category]) (Nat.le_of_ble_eq_true rfl) (fun G X Y => ?_)
  show G 0 0 0 [some (.int (nI m))] [] N q f
  refine zr_iload_n X d_B_isMark_0 rfl ?_
  refine zr_if_ltf (tgt := 14) X d_B_isMark_1 rfl (nI_pos (by omega)) ?_
  refine zr_iload_n X d_B_isMark_4 rfl ?_
  refine zr_bipush (v := nI 6) X d_B_isMark_5 (by decide) ?_
  refine zr_icmp_gef (tgt := 14) X d_B_isMark_7 rfl (nI_ge hm (by decide)) ?_
  refine zr_iconst (v := nI 1) X d_B_isMark_10 (by decide) ?_
  refine zr_goto (tgt := 15) X d_B_isMark_11 rfl ?_
  refine zr_ireturn Y d_B_isMark_15 rfl (Nat.le_of_ble_eq_true rfl) (Nat.le_of_ble_eq_true rfl) ?_
  exact ⟨rfl, rfl, rfl, rfl⟩

set_option maxRecDepth 100000 in
set_option maxHeartbeats 4000000 in
theorem c_B_isMark_n {l : Launch} {D : va_G} {cI cC cZ cV : ClassId} {N : Nat} {q : Nat → Nat} {f : zF} {x : Int32} (hx : zNo x 5) : zC l y_B_isMark b_B_isMark 1 (some .boolean) (rmD 0 0 0) D (zty cI cC cZ cV) [.int x] N q f (pRd N q f (nI 0)) := by
  refine zC.of (by decide) (by simp [Value.category]) (Nat.le_of_ble_eq_true rfl) (fun G X Y => ?_)
  show G 0 0 0 [some (.int x)] [] N q f
  refine zr_iload_n X d_B_isMark_0 rfl ?_
  refine zr_if_lt (tgt := 14) X d_B_isMark_1 rfl (fun h1 => ?_) (fun h1 => ?_)
  · skip
    refine zr_iconst (v := nI 0) X d_B_isMark_14 (by decide) ?_
    refine zr_ireturn Y d_B_isMark_15 rfl (Nat.le_of_ble_eq_true rfl) (Nat.le_of_ble_eq_true rfl) ?_
    exact ⟨rfl, rfl, rfl, rfl⟩
  · skip
    refine zr_iload_n X d_B_isMark_4 rfl ?_
    refine zr_bipush (v := nI 6) X d_B_isMark_5 (by decide) ?_
    refine zr_icmp_get (tgt := 14) X d_B_isMark_7 rfl (z_5_6 (hx.resolve_left h1)) ?_
    refine zr_iconst (v := nI 0) X d_B_isMark_14 (by decide) ?_
    refine zr_ireturn Y d_B_isMark_15 rfl (Nat.le_of_ble_eq_true rfl) (Nat.le_of_ble_eq_true rfl) ?_
    exact ⟨rfl, rfl, rfl, rfl⟩

set_option maxRecDepth 100000 in
set_option maxHeartbeats 4000000 in
theorem c_B_type_y {l : Launch} {D : va_G} {cI cC cZ cV : ClassId} {N : Nat} {q : Nat → Nat} {f : zF} (hN : 23 ≤ N) {n ins jt : Nat} (h0 : f 0 = zbo q n ins jt) {k : Nat} (h3 : f 3 = zrow q 4 k) {sc : Nat → Int32} (h4 : f 4 = .inl (cC, 40, .inl sc)) {x : Int32} (hx : zIsCh x) (hf : fits .char (.int x) = true) (hk : k < 40) : zC l y_B_type b_B_type 2 (some .boolean) (rmD 1 0 0) D (zty cI cC cZ cV) [.ref (q 0), .int x] N q f (fun v N' q' f' => v = some (.int (nI 1)) ∧ N' = N ∧ q' = q ∧ f' = va_up (va_up f 4 (.inl (cC, 40, .inl (upd sc k x)))) 3 (zrow q 4 (k + 1))) := by
  refine zC.of (by decide) (by simp [Value.category]) (Nat.le_of_ble_eq_true rfl) (fun G X Y => ?_)
  show G 0 0 0 [some (.ref (q 0)), some (.int x)] [] N q f
  refine zr_iload_n X d_B_type_0 rfl ?_
  refine zr_callS X K_B_51 KS_B_51 (c_B_isCharacter_y hx) d_B_type_1 rfl (by decide) (Nat.le_of_ble_eq_true rfl) (by decide) (st := []) rfl (kRd ?_)
  show G 0 0 4 [some (.ref (q 0)), some (.int x)] [.int (nI 1)] N q f
  refine zr_if_eqf (tgt := 19) X d_B_type_4 rfl (by decide) ?_
  refine zr_aload_n X d_B_type_7 rfl ?_
  refine zr_get X F_B_18 d_B_type_8 (by omega) h0 (v := .ref (q 3)) rfl ?_
  refine zr_get X F_B_55 d_B_type_11 (by omega) h3 (v := .int (nI k)) rfl ?_
  refine zr_bipush (v := nI 40) X d_B_type_14 (by decide) ?_
  refine zr_icmp_net (tgt := 21) X d_B_type_16 rfl (fun h9 => absurd ((nI_eq (by omega) (by decide)).mp h9) (by omega)) ?_
  refine zr_aload_n X d_B_type_21 rfl ?_
  refine zr_get X F_B_18 d_B_type_22 (by omega) h0 (v := .ref (q 3)) rfl ?_
  refine zr_get X F_B_58 d_B_type_25 (by omega) h3 (v := .ref (q 4)) rfl ?_
  refine zr_aload_n X d_B_type_28 rfl ?_
  refine zr_get X F_B_18 d_B_type_29 (by omega) h0 (v := .ref (q 3)) rfl ?_
  refine zr_get X F_B_55 d_B_type_32 (by omega) h3 (v := .int (nI k)) rfl ?_
  refine zr_iload_n X d_B_type_35 rfl ?_
  refine zr_castore X 1 d_B_type_36 (by omega) h4 rfl (by omega) (by decide) (z_charN hf) ?_
  refine zr_aload_n X d_B_type_37 rfl ?_
  refine zr_get X F_B_18 d_B_type_38 (by omega) (up_ne (by decide) h0) (v := .ref (q 3)) rfl ?_
  refine zr_dup X d_B_type_41 rfl ?_
  refine zr_get X F_B_55 d_B_type_42 (by omega) (up_ne (by decide) h3) (v := .int (nI k)) rfl ?_
  refine zr_iconst (v := nI 1) X d_B_type_45 (by decide) ?_
  refine zr_iadd (z := nI (k + 1)) X d_B_type_46 (nI_add _ _) ?_
  refine zr_put (fs' := [.ref (q 4), .int (nI (k + 1))]) X F_B_55 d_B_type_47 (by omega) (up_ne (by decide) h3) rfl rfl (Nat.le_of_ble_eq_true rfl) rfl ?_
  refine zr_iconst (v := nI 1) X d_B_type_50 (by decide) ?_
  refine zr_ireturn Y d_B_type_51 rfl (Nat.le_of_ble_eq_true rfl) (Nat.le_of_ble_eq_true rfl) ?_
  exact ⟨rfl, rfl, rfl, rfl⟩

set_option maxRecDepth 100000 in
set_option maxHeartbeats 4000000 in
theorem c_B_type_n {l : Launch} {D : va_G} {cI cC cZ cV : ClassId} {N : Nat} {q : Nat → Nat} {f : zF} (hN : 23 ≤ N) {n ins jt : Nat} (h0 : f 0 = zbo q n ins jt) {x : Int32} (hx : ¬ zIsCh x) : zC l y_B_type b_B_type 2 (some .boolean) (rmD 1 0 0) D (zty cI cC cZ cV) [.ref (q 0), .int x] N q f (pRd N q f (nI 0)) := by
  refine zC.of (by decide) (by simp [Value.category]) (Nat.le_of_ble_eq_true rfl) (fun G X Y => ?_)
  show G 0 0 0 [some (.ref (q 0)), some (.int x)] [] N q f
  refine zr_iload_n X d_B_type_0 rfl ?_
  refine zr_callS X K_B_51 KS_B_51 (c_B_isCharacter_n hx) d_B_type_1 rfl (by decide) (Nat.le_of_ble_eq_true rfl) (by decide) (st := []) rfl (kRd ?_)
  show G 0 0 4 [some (.ref (q 0)), some (.int x)] [.int (nI 0)] N q f
  refine zr_if_eqt (tgt := 19) X d_B_type_4 rfl (by decide) ?_
  refine zr_iconst (v := nI 0) X d_B_type_19 (by decide) ?_
  refine zr_ireturn Y d_B_type_20 rfl (Nat.le_of_ble_eq_true rfl) (Nat.le_of_ble_eq_true rfl) ?_
  exact ⟨rfl, rfl, rfl, rfl⟩

set_option maxRecDepth 100000 in
set_option maxHeartbeats 4000000 in
theorem c_B_type_f {l : Launch} {D : va_G} {cI cC cZ cV : ClassId} {N : Nat} {q : Nat → Nat} {f : zF} (hN : 23 ≤ N) {n ins jt : Nat} (h0 : f 0 = zbo q n ins jt) {k : Nat} (h3 : f 3 = zrow q 4 k) {x : Int32} (hx : zIsCh x) (hk : k = 40) : zC l y_B_type b_B_type 2 (some .boolean) (rmD 1 0 0) D (zty cI cC cZ cV) [.ref (q 0), .int x] N q f (pRd N q f (nI 0)) := by
  refine zC.of (by decide) (by simp [Value.category]) (Nat.le_of_ble_eq_true rfl) (fun G X Y => ?_)
  show G 0 0 0 [some (.ref (q 0)), some (.int x)] [] N q f
  refine zr_iload_n X d_B_type_0 rfl ?_
  refine zr_callS X K_B_51 KS_B_51 (c_B_isCharacter_y hx) d_B_type_1 rfl (by decide) (Nat.le_of_ble_eq_true rfl) (by decide) (st := []) rfl (kRd ?_)
  show G 0 0 4 [some (.ref (q 0)), some (.int x)] [.int (nI 1)] N q f
  refine zr_if_eqf (tgt := 19) X d_B_type_4 rfl (by decide) ?_
  refine zr_aload_n X d_B_type_7 rfl ?_
  refine zr_get X F_B_18 d_B_type_8 (by omega) h0 (v := .ref (q 3)) rfl ?_
  refine zr_get X F_B_55 d_B_type_11 (by omega) h3 (v := .int (nI k)) rfl ?_
  refine zr_bipush (v := nI 40) X d_B_type_14 (by decide) ?_
  refine zr_icmp_nef (tgt := 21) X d_B_type_16 rfl (by rw [hk]) ?_
  refine zr_iconst (v := nI 0) X d_B_type_19 (by decide) ?_
  refine zr_ireturn Y d_B_type_20 rfl (Nat.le_of_ble_eq_true rfl) (Nat.le_of_ble_eq_true rfl) ?_
  exact ⟨rfl, rfl, rfl, rfl⟩

set_option maxRecDepth 100000 in
set_option maxHeartbeats 4000000 in
theorem c_B_wipe {l : Launch} {D : va_G} {cI cC cZ cV : ClassId} {N : Nat} {q : Nat → Nat} {f : zF} (hN : 23 ≤ N) {n ins jt : Nat} (h0 : f 0 = zbo q n ins jt) {k : Nat} (h3 : f 3 = zrow q 4 k) : zC l y_B_wipe b_B_wipe 1 none (rmD 0 0 0) D (zty cI cC cZ cV) [.ref (q 0)] N q f (pW N q (va_up f 3 (zrow q 4 0))) := by
  refine zC.of (by decide) (by simp [Value.category]) (Nat.le_of_ble_eq_true rfl) (fun G X Y => ?_)
  show G 0 0 0 [some (.ref (q 0))] [] N q f
  refine zr_aload_n X d_B_wipe_0 rfl ?_
  refine zr_get X F_B_18 d_B_wipe_1 (by omega) h0 (v := .ref (q 3)) rfl ?_
  refine zr_iconst (v := nI 0) X d_B_wipe_4 (by decide) ?_
  refine zr_put (fs' := [.ref (q 4), .int (nI 0)]) X F_B_55 d_B_wipe_5 (by omega) h3 rfl rfl (Nat.le_of_ble_eq_true rfl) rfl ?_
  refine zr_return Y d_B_wipe_8 (Nat.le_of_ble_eq_true rfl) (Nat.le_of_ble_eq_true rfl) ?_
  exact ⟨rfl, rfl, rfl, rfl⟩

set_option maxRecDepth 100000 in
set_option maxHeartbeats 4000000 in
theorem c_B_scratch {l : Launch} {D : va_G} {cI cC cZ cV : ClassId} {N : Nat} {q : Nat → Nat} {f : zF} (hN : 23 ≤ N) {n ins jt : Nat} (h0 : f 0 = zbo q n ins jt) {k : Nat} (h3 : f 3 = zrow q 4 k) : zC l y_B_scratch b_B_scratch 1 (some .int) (rmD 0 0 0) D (zty cI cC cZ cV) [.ref (q 0)] N q f (pRd N q f (nI k)) := by
  refine zC.of (by decide) (by simp [Value.category]) (Nat.le_of_ble_eq_true rfl) (fun G X Y => ?_)
  show G 0 0 0 [some (.ref (q 0))] [] N q f
  refine zr_aload_n X d_B_scratch_0 rfl ?_
  refine zr_get X F_B_18 d_B_scratch_1 (by omega) h0 (v := .ref (q 3)) rfl ?_
  refine zr_get X F_B_55 d_B_scratch_4 (by omega) h3 (v := .int (nI k)) rfl ?_
  refine zr_ireturn Y d_B_scratch_7 rfl (Nat.le_of_ble_eq_true rfl) (Nat.le_of_ble_eq_true rfl) ?_
  exact ⟨rfl, rfl, rfl, rfl⟩

set_option maxRecDepth 100000 in
set_option maxHeartbeats 4000000 in
theorem c_B_versions {l : Launch} {D : va_G} {cI cC cZ cV : ClassId} {N : Nat} {q : Nat → Nat} {f : zF} (hN : 23 ≤ N) {n ins jt : Nat} (h0 : f 0 = zbo q n ins jt) : zC l y_B_versions b_B_versions 1 (some .int) (rmD 0 0 0) D (zty cI cC cZ cV) [.ref (q 0)] N q f (pRd N q f (nI n)) := by
  refine zC.of (by decide) (by simp [Value.category]) (Nat.le_of_ble_eq_true rfl) (fun G X Y => ?_)
  show G 0 0 0 [some (.ref (q 0))] [] N q f
  refine zr_aload_n X d_B_versions_0 rfl ?_
  refine zr_get X F_B_44 d_B_versions_1 (by omega) h0 (v := .int (nI n)) rfl ?_
  refine zr_ireturn Y d_B_versions_4 rfl (Nat.le_of_ble_eq_true rfl) (Nat.le_of_ble_eq_true rfl) ?_
  exact ⟨rfl, rfl, rfl, rfl⟩

set_option maxRecDepth 100000 in
set_option maxHeartbeats 4000000 in
theorem c_B_length {l : Launch} {D : va_G} {cI cC cZ cV : ClassId} {N : Nat} {q : Nat → Nat} {f : zF} (hN : 23 ≤ N) {n ins jt : Nat} (h0 : f 0 = zbo q n ins jt) {sz : Nat} (h1 : f 1 = zrow q 2 sz) : zC l y_B_length b_B_length 1 (some .int) (rmD 0 0 0) D (zty cI cC cZ cV) [.ref (q 0)] N q f (pRd N q f (nI sz)) := by
  refine zC.of (by decide) (by simp [Value.category]) (Nat.le_of_ble_eq_true rfl) (fun G X Y => ?_)
  show G 0 0 0 [some (.ref (q 0))] [] N q f
  refine zr_aload_n X d_B_length_0 rfl ?_
  refine zr_get X F_B_14 d_B_length_1 (by omega) h0 (v := .ref (q 1)) rfl ?_
  refine zr_get X F_B_55 d_B_length_4 (by omega) h1 (v := .int (nI sz)) rfl ?_
  refine zr_ireturn Y d_B_length_7 rfl (Nat.le_of_ble_eq_true rfl) (Nat.le_of_ble_eq_true rfl) ?_
  exact ⟨rfl, rfl, rfl, rfl⟩

set_option maxRecDepth 100000 in
set_option maxHeartbeats 4000000 in
theorem c_B_copy_n1 {l : Launch} {D : va_G} {cI cC cZ cV : ClassId} {N : Nat} {q : Nat → Nat} {f : zF} (hN : 23 ≤ N) {n ins jt : Nat} (h0 : f 0 = zbo q n ins jt) {sz : Nat} (h1 : f 1 = zrow q 2 sz) {x y : Int32} (hs : sz < 2 ^ 31) (hx : zNoS x y sz) : zC l y_B_copy b_B_copy 3 (some .int) (rmD 2 0 0) D (zty cI cC cZ cV) [.ref (q 0), .int x, .int y] N q f (pRd N q f (-1)) := by
  refine zC.of (by decide) (by simp [Value.category]) (Nat.le_of_ble_eq_true rfl) (fun G X Y => ?_)
  show G 0 0 0 [some (.ref (q 0)), some (.int x), some (.int y)] [] N q f
  refine zr_aload_n X d_B_copy_0 rfl ?_
  refine zr_get X F_B_14 d_B_copy_1 (by omega) h0 (v := .ref (q 1)) rfl ?_
  refine zr_iload_n X d_B_copy_4 rfl ?_
  refine zr_iload_n X d_B_copy_5 rfl ?_
  refine zr_callV X K_B_62 KI_B_62 KS_B_62 (c_R_hasStretch_n (by omega) h1 hs hx) d_B_copy_6 (by omega) h1 rfl rfl (by decide) (Nat.le_of_ble_eq_true rfl) (by decide) (st := []) rfl (kRd ?_)
  show G 0 0 9 [some (.ref (q 0)), some (.int x), some (.int y)] [.int (nI 0)] N q f
  refine zr_if_eqt (tgt := 18) X d_B_copy_9 rfl (by decide) ?_
  refine zr_iconst (v := (-1)) X d_B_copy_18 (by decide) ?_
  refine zr_ireturn Y d_B_copy_19 rfl (Nat.le_of_ble_eq_true rfl) (Nat.le_of_ble_eq_true rfl) ?_
  exact ⟨rfl, rfl, rfl, rfl⟩

set_option maxRecDepth 100000 in
set_option maxHeartbeats 4000000 in
theorem c_B_copy_n2 {l : Launch} {D : va_G} {cI cC cZ cV : ClassId} {N : Nat} {q : Nat → Nat} {f : zF} (hN : 23 ≤ N) {n ins jt : Nat} (h0 : f 0 = zbo q n ins jt) {sz : Nat} (h1 : f 1 = zrow q 2 sz) {p c : Nat} (hs : sz < 2 ^ 31) (hp : p + c ≤ sz) (hc : 40 < c) : zC l y_B_copy b_B_copy 3 (some .int) (rmD 2 0 0) D (zty cI cC cZ cV) [.ref (q 0), .int (nI p), .int (nI c)] N q f (pRd N q f (-1)) := by
  refine zC.of (by decide) (by simp [Value.category]) (Nat.le_of_ble_eq_true rfl) (fun G X Y => ?_)
  show G 0 0 0 [some (.ref (q 0)), some (.int (nI p)), some (.int (nI c))] [] N q f
  refine zr_aload_n X d_B_copy_0 rfl ?_
  refine zr_get X F_B_14 d_B_copy_1 (by omega) h0 (v := .ref (q 1)) rfl ?_
  refine zr_iload_n X d_B_copy_4 rfl ?_
  refine zr_iload_n X d_B_copy_5 rfl ?_
  refine zr_callV X K_B_62 KI_B_62 KS_B_62 (c_R_hasStretch_y (by omega) h1 hs hp) d_B_copy_6 (by omega) h1 rfl rfl (by decide) (Nat.le_of_ble_eq_true rfl) (by decide) (st := []) rfl (kRd ?_)
  show G 0 0 9 [some (.ref (q 0)), some (.int (nI p)), some (.int (nI c))] [.int (nI 1)] N q f
  refine zr_if_eqf (tgt := 18) X d_B_copy_9 rfl (by decide) ?_
  refine zr_iload_n X d_B_copy_12 rfl ?_
  refine zr_bipush (v := nI 40) X d_B_copy_13 (by decide) ?_
  refine zr_icmp_lef (tgt := 20) X d_B_copy_15 rfl (nI_ge hc (by omega)) ?_
  refine zr_iconst (v := (-1)) X d_B_copy_18 (by decide) ?_
  refine zr_ireturn Y d_B_copy_19 rfl (Nat.le_of_ble_eq_true rfl) (Nat.le_of_ble_eq_true rfl) ?_
  exact ⟨rfl, rfl, rfl, rfl⟩

set_option maxRecDepth 100000 in
set_option maxHeartbeats 4000000 in
theorem c_B_copy_y {l : Launch} {D : va_G} {cI cC cZ cV : ClassId} {N : Nat} {q : Nat → Nat} {f : zF} (hN : 23 ≤ N) {n ins jt : Nat} (h0 : f 0 = zbo q n ins jt) {sz : Nat} (h1 : f 1 = zrow q 2 sz) {tx : Nat → Int32} (h2 : f 2 = .inl (cC, 2000, .inl tx)) {k : Nat} (h3 : f 3 = zrow q 4 k) {sc : Nat → Int32} (h4 : f 4 = .inl (cC, 40, .inl sc)) (htx : zCh tx) {p c : Nat} (hs : sz ≤ 2000) (hp : p + c ≤ sz) (hc : c ≤ 40) : zC l y_B_copy b_B_copy 3 (some .int) (rmD 2 0 0) D (zty cI cC cZ cV) [.ref (q 0), .int (nI p), .int (nI c)] N q f (fun v N' q' f' => v = some (.int (nI c)) ∧ N' = N ∧ q' = q ∧ f' = va_up (va_up f 4 (.inl (cC, 40, .inl (va_cpy tx sc p 0 c)))) 3 (zrow q 4 c)) := by
  refine zC.of (by decide) (by simp [Value.category]) (Nat.le_of_ble_eq_true rfl) (fun G X Y => ?_)
  show G 0 0 0 [some (.ref (q 0)), some (.int (nI p)), some (.int (nI c))] [] N q f
  refine zr_aload_n X d_B_copy_0 rfl ?_
  refine zr_get X F_B_14 d_B_copy_1 (by omega) h0 (v := .ref (q 1)) rfl ?_
  refine zr_iload_n X d_B_copy_4 rfl ?_
  refine zr_iload_n X d_B_copy_5 rfl ?_
  refine zr_callV X K_B_62 KI_B_62 KS_B_62 (c_R_hasStretch_y (by omega) h1 (by omega) hp) d_B_copy_6 (by omega) h1 rfl rfl (by decide) (Nat.le_of_ble_eq_true rfl) (by decide) (st := []) rfl (kRd ?_)
  show G 0 0 9 [some (.ref (q 0)), some (.int (nI p)), some (.int (nI c))] [.int (nI 1)] N q f
  refine zr_if_eqf (tgt := 18) X d_B_copy_9 rfl (by decide) ?_
  refine zr_iload_n X d_B_copy_12 rfl ?_
  refine zr_bipush (v := nI 40) X d_B_copy_13 (by decide) ?_
  refine zr_icmp_let (tgt := 20) X d_B_copy_15 rfl (nI_le hc (by decide)) ?_
  refine zr_aload_n X d_B_copy_20 rfl ?_
  refine zr_get X F_B_14 d_B_copy_21 (by omega) h0 (v := .ref (q 1)) rfl ?_
  refine zr_get X F_B_58 d_B_copy_24 (by omega) h1 (v := .ref (q 2)) rfl ?_
  refine zr_iload_n X d_B_copy_27 rfl ?_
  refine zr_aload_n X d_B_copy_28 rfl ?_
  refine zr_get X F_B_18 d_B_copy_29 (by omega) h0 (v := .ref (q 3)) rfl ?_
  refine zr_get X F_B_58 d_B_copy_32 (by omega) h3 (v := .ref (q 4)) rfl ?_
  refine zr_iconst (v := nI 0) X d_B_copy_35 (by decide) ?_
  refine zr_iload_n X d_B_copy_36 rfl ?_
  refine zr_copy X AC_B_66 1 d_B_copy_37 (by omega) (by omega) h2 h4 rfl (by omega) (by omega) (by omega) (by omega) (fun i _ => htx _) (by decide) (Nat.le_of_ble_eq_true rfl) ?_
  refine zr_aload_n X d_B_copy_40 rfl ?_
  refine zr_get X F_B_18 d_B_copy_41 (by omega) (up_ne (by decide) h0) (v := .ref (q 3)) rfl ?_
  refine zr_iload_n X d_B_copy_44 rfl ?_
  refine zr_put (fs' := [.ref (q 4), .int (nI c)]) X F_B_55 d_B_copy_45 (by omega) (up_ne (by decide) h3) rfl rfl (Nat.le_of_ble_eq_true rfl) rfl ?_
  refine zr_iload_n X d_B_copy_48 rfl ?_
  refine zr_ireturn Y d_B_copy_49 rfl (Nat.le_of_ble_eq_true rfl) (Nat.le_of_ble_eq_true rfl) ?_
  exact ⟨rfl, rfl, rfl, rfl⟩

set_option maxRecDepth 100000 in
set_option maxHeartbeats 4000000 in
theorem c_B_at_y {l : Launch} {D : va_G} {cI cC cZ cV : ClassId} {N : Nat} {q : Nat → Nat} {f : zF} (hN : 23 ≤ N) {n ins jt : Nat} (h0 : f 0 = zbo q n ins jt) {sz : Nat} (h1 : f 1 = zrow q 2 sz) {tx : Nat → Int32} (h2 : f 2 = .inl (cC, 2000, .inl tx)) (htx : zCh tx) {i : Nat} (hi : i < sz) (hs : sz ≤ 2000) : zC l y_B_at b_B_at 2 (some .char) (rmD 0 0 0) D (zty cI cC cZ cV) [.ref (q 0), .int (nI i)] N q f (pRd N q f (tx i)) := by
  refine zC.of (by decide) (by simp [Value.category]) (Nat.le_of_ble_eq_true rfl) (fun G X Y => ?_)
  show G 0 0 0 [some (.ref (q 0)), some (.int (nI i))] [] N q f
  refine zr_iload_n X d_B_at_0 rfl ?_
  refine zr_if_ltf (tgt := 27) X d_B_at_1 rfl (nI_pos (by omega)) ?_
  refine zr_iload_n X d_B_at_4 rfl ?_
  refine zr_aload_n X d_B_at_5 rfl ?_
  refine zr_get X F_B_14 d_B_at_6 (by omega) h0 (v := .ref (q 1)) rfl ?_
  refine zr_get X F_B_55 d_B_at_9 (by omega) h1 (v := .int (nI sz)) rfl ?_
  refine zr_icmp_gef (tgt := 27) X d_B_at_12 rfl (nI_ge hi (by omega)) ?_
  refine zr_aload_n X d_B_at_15 rfl ?_
  refine zr_get X F_B_14 d_B_at_16 (by omega) h0 (v := .ref (q 1)) rfl ?_
  refine zr_get X F_B_58 d_B_at_19 (by omega) h1 (v := .ref (q 2)) rfl ?_
  refine zr_iload_n X d_B_at_22 rfl ?_
  refine zr_caload (v := tx i) X 1 d_B_at_23 (by omega) h2 rfl (by omega) (by decide) rfl ?_
  refine zr_goto (tgt := 28) X d_B_at_24 rfl ?_
  refine zr_ireturn Y d_B_at_28 (z_charR (htx _)) (Nat.le_of_ble_eq_true rfl) (Nat.le_of_ble_eq_true rfl) ?_
  exact ⟨rfl, rfl, rfl, rfl⟩

set_option maxRecDepth 100000 in
set_option maxHeartbeats 4000000 in
theorem c_B_at_n {l : Launch} {D : va_G} {cI cC cZ cV : ClassId} {N : Nat} {q : Nat → Nat} {f : zF} (hN : 23 ≤ N) {n ins jt : Nat} (h0 : f 0 = zbo q n ins jt) {sz : Nat} (h1 : f 1 = zrow q 2 sz) {x : Int32} (hx : zNa x sz) : zC l y_B_at b_B_at 2 (some .char) (rmD 0 0 0) D (zty cI cC cZ cV) [.ref (q 0), .int x] N q f (pRd N q f (nI 0)) := by
  refine zC.of (by decide) (by simp [Value.category]) (Nat.le_of_ble_eq_true rfl) (fun G X Y => ?_)
  show G 0 0 0 [some (.ref (q 0)), some (.int x)] [] N q f
  refine zr_iload_n X d_B_at_0 rfl ?_
  refine zr_if_lt (tgt := 27) X d_B_at_1 rfl (fun k1 => ?_) (fun k1 => ?_)
  · skip
    refine zr_iconst (v := nI 0) X d_B_at_27 (by decide) ?_
    refine zr_ireturn Y d_B_at_28 rfl (Nat.le_of_ble_eq_true rfl) (Nat.le_of_ble_eq_true rfl) ?_
    exact ⟨rfl, rfl, rfl, rfl⟩
  · skip
    refine zr_iload_n X d_B_at_4 rfl ?_
    refine zr_aload_n X d_B_at_5 rfl ?_
    refine zr_get X F_B_14 d_B_at_6 (by omega) h0 (v := .ref (q 1)) rfl ?_
    refine zr_get X F_B_55 d_B_at_9 (by omega) h1 (v := .int (nI sz)) rfl ?_
    refine zr_icmp_get (tgt := 27) X d_B_at_12 rfl (hx.resolve_left k1) ?_
    refine zr_iconst (v := nI 0) X d_B_at_27 (by decide) ?_
    refine zr_ireturn Y d_B_at_28 rfl (Nat.le_of_ble_eq_true rfl) (Nat.le_of_ble_eq_true rfl) ?_
    exact ⟨rfl, rfl, rfl, rfl⟩

set_option maxRecDepth 100000 in
set_option maxHeartbeats 4000000 in
theorem c_B_lines {l : Launch} {D : va_G} {cI cC cZ cV : ClassId} {N : Nat} {q : Nat → Nat} {f : zF} (hN : 23 ≤ N) {n ins jt : Nat} (h0 : f 0 = zbo q n ins jt) {sz : Nat} (h1 : f 1 = zrow q 2 sz) {tx : Nat → Int32} (h2 : f 2 = .inl (cC, 2000, .inl tx)) (hs : sz ≤ 2000) : zC l y_B_lines b_B_lines 1 (some .int) (rmD 1 0 0) D (zty cI cC cZ cV) [.ref (q 0)] N q f (pRd N q f (nI (znl tx sz + 1))) := by
  refine zC.of (by decide) (by simp [Value.category]) (Nat.le_of_ble_eq_true rfl) (fun G X Y => ?_)
  show G 0 0 0 [some (.ref (q 0))] [] N q f
  refine zr_aload_n X d_B_lines_0 rfl ?_
  refine zr_get X F_B_14 d_B_lines_1 (by omega) h0 (v := .ref (q 1)) rfl ?_
  refine zr_aload_n X d_B_lines_4 rfl ?_
  refine zr_get X F_B_14 d_B_lines_5 (by omega) h0 (v := .ref (q 1)) rfl ?_
  refine zr_get X F_B_55 d_B_lines_8 (by omega) h1 (v := .int (nI sz)) rfl ?_
  refine zr_callV X K_B_110 KI_B_110 KS_B_110 (c_R_newlinesBefore (by omega) h1 (by omega) h2 (by decide) hs) d_B_lines_11 (by omega) h1 rfl rfl (by decide) (Nat.le_of_ble_eq_true rfl) (by decide) (st := []) rfl (kRd ?_)
  show G 0 0 14 [some (.ref (q 0))] [.int (nI (znl tx sz))] N q f
  refine zr_iconst (v := nI 1) X d_B_lines_14 (by decide) ?_
  refine zr_iadd (z := nI ((znl tx sz) + 1)) X d_B_lines_15 (nI_add _ _) ?_
  refine zr_ireturn Y d_B_lines_16 rfl (Nat.le_of_ble_eq_true rfl) (Nat.le_of_ble_eq_true rfl) ?_
  exact ⟨rfl, rfl, rfl, rfl⟩

set_option maxRecDepth 100000 in
set_option maxHeartbeats 4000000 in
theorem c_B_lineOf_y {l : Launch} {D : va_G} {cI cC cZ cV : ClassId} {N : Nat} {q : Nat → Nat} {f : zF} (hN : 23 ≤ N) {n ins jt : Nat} (h0 : f 0 = zbo q n ins jt) {sz : Nat} (h1 : f 1 = zrow q 2 sz) {tx : Nat → Int32} (h2 : f 2 = .inl (cC, 2000, .inl tx)) {p : Nat} (hp : p ≤ sz) (hs : sz ≤ 2000) : zC l y_B_lineOf b_B_lineOf 2 (some .int) (rmD 1 0 0) D (zty cI cC cZ cV) [.ref (q 0), .int (nI p)] N q f (pRd N q f (nI (znl tx p))) := by
  refine zC.of (by decide) (by simp [Value.category]) (Nat.le_of_ble_eq_true rfl) (fun G X Y => ?_)
  show G 0 0 0 [some (.ref (q 0)), some (.int (nI p))] [] N q f
  refine zr_aload_n X d_B_lineOf_0 rfl ?_
  refine zr_get X F_B_14 d_B_lineOf_1 (by omega) h0 (v := .ref (q 1)) rfl ?_
  refine zr_iload_n X d_B_lineOf_4 rfl ?_
  refine zr_callV X K_B_72 KI_B_72 KS_B_72 (c_R_hasPosition_y (by omega) h1 (by omega) hp) d_B_lineOf_5 (by omega) h1 rfl rfl (by decide) (Nat.le_of_ble_eq_true rfl) (by decide) (st := []) rfl (kRd ?_)
  show G 0 0 8 [some (.ref (q 0)), some (.int (nI p))] [.int (nI 1)] N q f
  refine zr_if_eqf (tgt := 22) X d_B_lineOf_8 rfl (by decide) ?_
  refine zr_aload_n X d_B_lineOf_11 rfl ?_
  refine zr_get X F_B_14 d_B_lineOf_12 (by omega) h0 (v := .ref (q 1)) rfl ?_
  refine zr_iload_n X d_B_lineOf_15 rfl ?_
  refine zr_callV X K_B_110 KI_B_110 KS_B_110 (c_R_newlinesBefore (by omega) h1 (by omega) h2 (by decide) (by omega)) d_B_lineOf_16 (by omega) h1 rfl rfl (by decide) (Nat.le_of_ble_eq_true rfl) (by decide) (st := []) rfl (kRd ?_)
  show G 0 0 19 [some (.ref (q 0)), some (.int (nI p))] [.int (nI (znl tx p))] N q f
  refine zr_goto (tgt := 23) X d_B_lineOf_19 rfl ?_
  refine zr_ireturn Y d_B_lineOf_23 rfl (Nat.le_of_ble_eq_true rfl) (Nat.le_of_ble_eq_true rfl) ?_
  exact ⟨rfl, rfl, rfl, rfl⟩

set_option maxRecDepth 100000 in
set_option maxHeartbeats 4000000 in
theorem c_B_lineOf_n {l : Launch} {D : va_G} {cI cC cZ cV : ClassId} {N : Nat} {q : Nat → Nat} {f : zF} (hN : 23 ≤ N) {n ins jt : Nat} (h0 : f 0 = zbo q n ins jt) {sz : Nat} (h1 : f 1 = zrow q 2 sz) {x : Int32} (hx : zNo x sz) : zC l y_B_lineOf b_B_lineOf 2 (some .int) (rmD 1 0 0) D (zty cI cC cZ cV) [.ref (q 0), .int x] N q f (pRd N q f (-1)) := by
  refine zC.of (by decide) (by simp [Value.category]) (Nat.le_of_ble_eq_true rfl) (fun G X Y => ?_)
  show G 0 0 0 [some (.ref (q 0)), some (.int x)] [] N q f
  refine zr_aload_n X d_B_lineOf_0 rfl ?_
  refine zr_get X F_B_14 d_B_lineOf_1 (by omega) h0 (v := .ref (q 1)) rfl ?_
  refine zr_iload_n X d_B_lineOf_4 rfl ?_
  refine zr_callV X K_B_72 KI_B_72 KS_B_72 (c_R_hasPosition_n (by omega) h1 hx) d_B_lineOf_5 (by omega) h1 rfl rfl (by decide) (Nat.le_of_ble_eq_true rfl) (by decide) (st := []) rfl (kRd ?_)
  show G 0 0 8 [some (.ref (q 0)), some (.int x)] [.int (nI 0)] N q f
  refine zr_if_eqt (tgt := 22) X d_B_lineOf_8 rfl (by decide) ?_
  refine zr_iconst (v := (-1)) X d_B_lineOf_22 (by decide) ?_
  refine zr_ireturn Y d_B_lineOf_23 rfl (Nat.le_of_ble_eq_true rfl) (Nat.le_of_ble_eq_true rfl) ?_
  exact ⟨rfl, rfl, rfl, rfl⟩

set_option maxRecDepth 100000 in
set_option maxHeartbeats 4000000 in
theorem c_B_lineStart_n {l : Launch} {D : va_G} {cI cC cZ cV : ClassId} {N : Nat} {q : Nat → Nat} {f : zF} (hN : 23 ≤ N) {n ins jt : Nat} (h0 : f 0 = zbo q n ins jt) {x : Int32} (hx : x < 0) : zC l y_B_lineStart b_B_lineStart 2 (some .int) (rmD 1 0 0) D (zty cI cC cZ cV) [.ref (q 0), .int x] N q f (pRd N q f (-1)) := by
  refine zC.of (by decide) (by simp [Value.category]) (Nat.le_of_ble_eq_true rfl) (fun G X Y => ?_)
  show G 0 0 0 [some (.ref (q 0)), some (.int x)] [] N q f
  refine zr_iload_n X d_B_lineStart_0 rfl ?_
  refine zr_if_gef (tgt := 6) X d_B_lineStart_1 rfl (z_not_le hx) ?_
  refine zr_iconst (v := (-1)) X d_B_lineStart_4 (by decide) ?_
  refine zr_ireturn Y d_B_lineStart_5 rfl (Nat.le_of_ble_eq_true rfl) (Nat.le_of_ble_eq_true rfl) ?_
  exact ⟨rfl, rfl, rfl, rfl⟩

set_option maxRecDepth 100000 in
set_option maxHeartbeats 4000000 in
theorem c_B_lineStart_0 {l : Launch} {D : va_G} {cI cC cZ cV : ClassId} {N : Nat} {q : Nat → Nat} {f : zF} (hN : 23 ≤ N) {n ins jt : Nat} (h0 : f 0 = zbo q n ins jt) : zC l y_B_lineStart b_B_lineStart 2 (some .int) (rmD 1 0 0) D (zty cI cC cZ cV) [.ref (q 0), .int (nI 0)] N q f (pRd N q f (nI 0)) := by
  refine zC.of (by decide) (by simp [Value.category]) (Nat.le_of_ble_eq_true rfl) (fun G X Y => ?_)
  show G 0 0 0 [some (.ref (q 0)), some (.int (nI 0))] [] N q f
  refine zr_iload_n X d_B_lineStart_0 rfl ?_
  refine zr_if_get (tgt := 6) X d_B_lineStart_1 rfl (by decide) ?_
  refine zr_iload_n X d_B_lineStart_6 rfl ?_
  refine zr_if_nef (tgt := 14) X d_B_lineStart_7 rfl rfl ?_
  refine zr_iconst (v := nI 0) X d_B_lineStart_10 (by decide) ?_
  refine zr_goto (tgt := 22) X d_B_lineStart_11 rfl ?_
  refine zr_ireturn Y d_B_lineStart_22 rfl (Nat.le_of_ble_eq_true rfl) (Nat.le_of_ble_eq_true rfl) ?_
  exact ⟨rfl, rfl, rfl, rfl⟩

set_option maxRecDepth 100000 in
set_option maxHeartbeats 4000000 in
theorem c_B_lineStart_y {l : Launch} {D : va_G} {cI cC cZ cV : ClassId} {N : Nat} {q : Nat → Nat} {f : zF} (hN : 23 ≤ N) {n ins jt : Nat} (h0 : f 0 = zbo q n ins jt) {sz : Nat} (h1 : f 1 = zrow q 2 sz) {tx : Nat → Int32} (h2 : f 2 = .inl (cC, 2000, .inl tx)) {a : Nat} (ha : 0 < a) (ha2 : a < 2 ^ 31) (hs : sz ≤ 2000) : zC l y_B_lineStart b_B_lineStart 2 (some .int) (rmD 1 0 0) D (zty cI cC cZ cV) [.ref (q 0), .int (nI a)] N q f (pI N q (fun r f' => f' = f ∧ zLS tx sz a r)) := by
  refine zC.of (by decide) (by simp [Value.category]) (Nat.le_of_ble_eq_true rfl) (fun G X Y => ?_)
  show G 0 0 0 [some (.ref (q 0)), some (.int (nI a))] [] N q f
  refine zr_iload_n X d_B_lineStart_0 rfl ?_
  refine zr_if_get (tgt := 6) X d_B_lineStart_1 rfl (nI_pos' ha2) ?_
  refine zr_iload_n X d_B_lineStart_6 rfl ?_
  refine zr_if_net (tgt := 14) X d_B_lineStart_7 rfl (nI_ne0 ha ha2) ?_
  refine zr_aload_n X d_B_lineStart_14 rfl ?_
  refine zr_get X F_B_14 d_B_lineStart_15 (by omega) h0 (v := .ref (q 1)) rfl ?_
  refine zr_iload_n X d_B_lineStart_18 rfl ?_
  refine zr_callV X K_B_114 KI_B_114 KS_B_114 (c_R_behindNewline (by omega) h1 (by omega) h2 (by decide) hs ha ha2) d_B_lineStart_19 (by omega) h1 rfl rfl (by decide) (Nat.le_of_ble_eq_true rfl) (by decide) (st := []) rfl (kI fun r1 f1 hr1 => ?_)
  show G 0 0 22 [some (.ref (q 0)), some (.int (nI a))] [.int r1] N q f1
  refine zr_ireturn Y d_B_lineStart_22 rfl (Nat.le_of_ble_eq_true rfl) (Nat.le_of_ble_eq_true rfl) ?_
  exact ⟨_, rfl, rfl, rfl, hr1⟩

set_option maxRecDepth 100000 in
set_option maxHeartbeats 4000000 in
theorem c_B_find_y {l : Launch} {D : va_G} {cI cC cZ cV : ClassId} {N : Nat} {q : Nat → Nat} {f : zF} (hN : 23 ≤ N) {n ins jt : Nat} (h0 : f 0 = zbo q n ins jt) {sz : Nat} (h1 : f 1 = zrow q 2 sz) {tx : Nat → Int32} (h2 : f 2 = .inl (cC, 2000, .inl tx)) {k : Nat} (h3 : f 3 = zrow q 4 k) {sc : Nat → Int32} (h4 : f 4 = .inl (cC, 40, .inl sc)) {p0 : Nat} (hp : p0 ≤ sz) (hs : sz ≤ 2000) (hk : k ≤ 40) (hk0 : 0 < k) : zC l y_B_find b_B_find 3 (some .int) (rmD 1 0 0) D (zty cI cC cZ cV) [.ref (q 0), .int (nI p0)] N q f (pI N q (fun r f' => f' = f ∧ zFnd tx sz sc k p0 r)) := by
  refine zC.of (by decide) (by simp [Value.category]) (Nat.le_of_ble_eq_true rfl) (fun G X Y => ?_)
  show G 0 0 0 [some (.ref (q 0)), some (.int (nI p0)), none] [] N q f
  by_cases hsk : k ≤ sz
  · skip
    have loop : ∀ (d i : Nat), i + d = sz - k + 1 → p0 ≤ i → (∀ p', p0 ≤ p' → p' < i → ¬ zHit tx sz sc k p') → G 0 0 28 [some (.ref (q 0)), some (.int (nI p0)), some (.int (nI i))] [] N q f := by
      intro d
      induction d with
      | zero =>
        intro i hi hp9 hk9
        show G 0 0 28 [some (.ref (q 0)), some (.int (nI p0)), some (.int (nI i))] [] N q f
        refine zr_iload_n X d_B_find_28 rfl ?_
        refine zr_aload_n X d_B_find_29 rfl ?_
        refine zr_get X F_B_14 d_B_find_30 (by omega) h0 (v := .ref (q 1)) rfl ?_
        refine zr_get X F_B_55 d_B_find_33 (by omega) h1 (v := .int (nI sz)) rfl ?_
        refine zr_aload_n X d_B_find_36 rfl ?_
        refine zr_get X F_B_18 d_B_find_37 (by omega) h0 (v := .ref (q 3)) rfl ?_
        refine zr_get X F_B_55 d_B_find_40 (by omega) h3 (v := .int (nI k)) rfl ?_
        refine zr_isub (z := nI (sz - k)) X d_B_find_43 (pk_sub (by omega)) ?_
        refine zr_icmp_gtt (tgt := 70) X d_B_find_44 rfl (nI_lt (by omega) (by omega)) ?_
        refine zr_bipush (v := (-4)) X d_B_find_70 (by decide) ?_
        refine zr_ireturn Y d_B_find_72 rfl (Nat.le_of_ble_eq_true rfl) (Nat.le_of_ble_eq_true rfl) ?_
        refine ⟨_, rfl, rfl, rfl, rfl, Or.inr ⟨rfl, fun p9 hp8 h9 => ?_⟩⟩
        by_cases h8 : p9 < i
        · exact hk9 p9 hp8 h8 h9
        · have := h9.1
          omega
      | succ d ih =>
        intro i hi hp9 hk9
        show G 0 0 28 [some (.ref (q 0)), some (.int (nI p0)), some (.int (nI i))] [] N q f
        refine zr_iload_n X d_B_find_28 rfl ?_
        refine zr_aload_n X d_B_find_29 rfl ?_
        refine zr_get X F_B_14 d_B_find_30 (by omega) h0 (v := .ref (q 1)) rfl ?_
        refine zr_get X F_B_55 d_B_find_33 (by omega) h1 (v := .int (nI sz)) rfl ?_
        refine zr_aload_n X d_B_find_36 rfl ?_
        refine zr_get X F_B_18 d_B_find_37 (by omega) h0 (v := .ref (q 3)) rfl ?_
        refine zr_get X F_B_55 d_B_find_40 (by omega) h3 (v := .int (nI k)) rfl ?_
        refine zr_isub (z := nI (sz - k)) X d_B_find_43 (pk_sub (by omega)) ?_
        refine zr_icmp_gtf (tgt := 70) X d_B_find_44 rfl (nI_nlt (by omega) (by omega)) ?_
        refine zr_aload_n X d_B_find_47 rfl ?_
        refine zr_get X F_B_14 d_B_find_48 (by omega) h0 (v := .ref (q 1)) rfl ?_
        refine zr_iload_n X d_B_find_51 rfl ?_
        refine zr_aload_n X d_B_find_52 rfl ?_
        refine zr_get X F_B_18 d_B_find_53 (by omega) h0 (v := .ref (q 3)) rfl ?_
        refine zr_callV X K_B_117 KI_B_117 KS_B_117 (c_R_readsAt (by omega) h1 (by omega) h2 (by omega) h3 (by omega) h4 (by decide) (by decide) (by omega) hk) d_B_find_56 (by omega) h1 rfl rfl (by decide) (Nat.le_of_ble_eq_true rfl) (by decide) (st := []) rfl (kI fun r1 f1 hr1 => ?_)
        show G 0 0 59 [some (.ref (q 0)), some (.int (nI p0)), some (.int (nI i))] [.int r1] N q f1
        obtain ⟨e1, h8⟩ := hr1
        rw [e1]
        rcases h8 with ⟨rfl, h8⟩ | ⟨rfl, a, ha, h8⟩
        · skip
          show G 0 0 59 [some (.ref (q 0)), some (.int (nI p0)), some (.int (nI i))] [.int (nI 1)] N q f
          refine zr_if_eqf (tgt := 64) X d_B_find_59 rfl (by decide) ?_
          refine zr_iload_n X d_B_find_62 rfl ?_
          refine zr_ireturn Y d_B_find_63 rfl (Nat.le_of_ble_eq_true rfl) (Nat.le_of_ble_eq_true rfl) ?_
          exact ⟨_, rfl, rfl, rfl, rfl, Or.inl ⟨i, by omega, ⟨by omega, h8⟩, rfl, hk9⟩⟩
        · skip
          show G 0 0 59 [some (.ref (q 0)), some (.int (nI p0)), some (.int (nI i))] [.int (nI 0)] N q f
          refine zr_if_eqt (tgt := 64) X d_B_find_59 rfl (by decide) ?_
          refine zr_iinc (v := nI (i + 1)) (lv' := [some (.ref (q 0)), some (.int (nI p0)), some (.int (nI (i + 1)))]) X d_B_find_64 rfl (nI_1 _) (by decide) rfl ?_
          refine zr_goto (tgt := 28) X d_B_find_67 rfl ?_
          refine ih (i + 1) (by omega) (by omega) (fun p9 h5 h6 h7 => ?_)
          by_cases h4 : p9 < i
          · exact hk9 p9 h5 h4 h7
          · exact h8 (show _ from by rw [show i = p9 by omega]; exact h7.2 a ha)
    refine zr_aload_n X d_B_find_0 rfl ?_
    refine zr_get X F_B_14 d_B_find_1 (by omega) h0 (v := .ref (q 1)) rfl ?_
    refine zr_iload_n X d_B_find_4 rfl ?_
    refine zr_callV X K_B_72 KI_B_72 KS_B_72 (c_R_hasPosition_y (by omega) h1 (by omega) hp) d_B_find_5 (by omega) h1 rfl rfl (by decide) (Nat.le_of_ble_eq_true rfl) (by decide) (st := []) rfl (kRd ?_)
    show G 0 0 8 [some (.ref (q 0)), some (.int (nI p0)), none] [.int (nI 1)] N q f
    refine zr_if_net (tgt := 13) X d_B_find_8 rfl (by decide) ?_
    refine zr_aload_n X d_B_find_13 rfl ?_
    refine zr_get X F_B_18 d_B_find_14 (by omega) h0 (v := .ref (q 3)) rfl ?_
    refine zr_get X F_B_55 d_B_find_17 (by omega) h3 (v := .int (nI k)) rfl ?_
    refine zr_if_net (tgt := 26) X d_B_find_20 rfl (nI_ne0 hk0 (by omega)) ?_
    refine zr_iload_n X d_B_find_26 rfl ?_
    refine zr_istore_n (lv' := [some (.ref (q 0)), some (.int (nI p0)), some (.int (nI p0))]) X d_B_find_27 (by decide) rfl ?_
    by_cases hpk : p0 ≤ sz - k + 1
    · exact loop (sz - k + 1 - p0) p0 (by omega) (Nat.le_refl _) (fun p' h1 h2 => absurd h2 (by omega))
    · skip
      show G 0 0 28 [some (.ref (q 0)), some (.int (nI p0)), some (.int (nI p0))] [] N q f
      refine zr_iload_n X d_B_find_28 rfl ?_
      refine zr_aload_n X d_B_find_29 rfl ?_
      refine zr_get X F_B_14 d_B_find_30 (by omega) h0 (v := .ref (q 1)) rfl ?_
      refine zr_get X F_B_55 d_B_find_33 (by omega) h1 (v := .int (nI sz)) rfl ?_
      refine zr_aload_n X d_B_find_36 rfl ?_
      refine zr_get X F_B_18 d_B_find_37 (by omega) h0 (v := .ref (q 3)) rfl ?_
      refine zr_get X F_B_55 d_B_find_40 (by omega) h3 (v := .int (nI k)) rfl ?_
      refine zr_isub (z := nI (sz - k)) X d_B_find_43 (pk_sub (by omega)) ?_
      refine zr_icmp_gtt (tgt := 70) X d_B_find_44 rfl (nI_lt (by omega) (by omega)) ?_
      refine zr_bipush (v := (-4)) X d_B_find_70 (by decide) ?_
      refine zr_ireturn Y d_B_find_72 rfl (Nat.le_of_ble_eq_true rfl) (Nat.le_of_ble_eq_true rfl) ?_
      refine ⟨_, rfl, rfl, rfl, rfl, Or.inr ⟨rfl, fun p9 hp8 h9 => ?_⟩⟩
      have := h9.1
      omega
  · skip
    refine zr_aload_n X d_B_find_0 rfl ?_
    refine zr_get X F_B_14 d_B_find_1 (by omega) h0 (v := .ref (q 1)) rfl ?_
    refine zr_iload_n X d_B_find_4 rfl ?_
    refine zr_callV X K_B_72 KI_B_72 KS_B_72 (c_R_hasPosition_y (by omega) h1 (by omega) hp) d_B_find_5 (by omega) h1 rfl rfl (by decide) (Nat.le_of_ble_eq_true rfl) (by decide) (st := []) rfl (kRd ?_)
    show G 0 0 8 [some (.ref (q 0)), some (.int (nI p0)), none] [.int (nI 1)] N q f
    refine zr_if_net (tgt := 13) X d_B_find_8 rfl (by decide) ?_
    refine zr_aload_n X d_B_find_13 rfl ?_
    refine zr_get X F_B_18 d_B_find_14 (by omega) h0 (v := .ref (q 3)) rfl ?_
    refine zr_get X F_B_55 d_B_find_17 (by omega) h3 (v := .int (nI k)) rfl ?_
    refine zr_if_net (tgt := 26) X d_B_find_20 rfl (nI_ne0 hk0 (by omega)) ?_
    refine zr_iload_n X d_B_find_26 rfl ?_
    refine zr_istore_n (lv' := [some (.ref (q 0)), some (.int (nI p0)), some (.int (nI p0))]) X d_B_find_27 (by decide) rfl ?_
    refine zr_iload_n X d_B_find_28 rfl ?_
    refine zr_aload_n X d_B_find_29 rfl ?_
    refine zr_get X F_B_14 d_B_find_30 (by omega) h0 (v := .ref (q 1)) rfl ?_
    refine zr_get X F_B_55 d_B_find_33 (by omega) h1 (v := .int (nI sz)) rfl ?_
    refine zr_aload_n X d_B_find_36 rfl ?_
    refine zr_get X F_B_18 d_B_find_37 (by omega) h0 (v := .ref (q 3)) rfl ?_
    refine zr_get X F_B_55 d_B_find_40 (by omega) h3 (v := .int (nI k)) rfl ?_
    refine zr_isub (z := nI sz - nI k) X d_B_find_43 rfl ?_
    refine zr_icmp_gtt (tgt := 70) X d_B_find_44 rfl (Int32.lt_of_lt_of_le (pk_sneg (by omega) (by omega)) (nI_pos' (by omega))) ?_
    refine zr_bipush (v := (-4)) X d_B_find_70 (by decide) ?_
    refine zr_ireturn Y d_B_find_72 rfl (Nat.le_of_ble_eq_true rfl) (Nat.le_of_ble_eq_true rfl) ?_
    refine ⟨_, rfl, rfl, rfl, rfl, Or.inr ⟨rfl, fun p9 hp8 h9 => ?_⟩⟩
    have := h9.1
    omega

set_option maxRecDepth 100000 in
set_option maxHeartbeats 4000000 in
theorem c_B_find_n {l : Launch} {D : va_G} {cI cC cZ cV : ClassId} {N : Nat} {q : Nat → Nat} {f : zF} (hN : 23 ≤ N) {n ins jt : Nat} (h0 : f 0 = zbo q n ins jt) {sz : Nat} (h1 : f 1 = zrow q 2 sz) {x : Int32} (hx : zNo x sz) : zC l y_B_find b_B_find 3 (some .int) (rmD 1 0 0) D (zty cI cC cZ cV) [.ref (q 0), .int x] N q f (pRd N q f (-1)) := by
  refine zC.of (by decide) (by simp [Value.category]) (Nat.le_of_ble_eq_true rfl) (fun G X Y => ?_)
  show G 0 0 0 [some (.ref (q 0)), some (.int x), none] [] N q f
  refine zr_aload_n X d_B_find_0 rfl ?_
  refine zr_get X F_B_14 d_B_find_1 (by omega) h0 (v := .ref (q 1)) rfl ?_
  refine zr_iload_n X d_B_find_4 rfl ?_
  refine zr_callV X K_B_72 KI_B_72 KS_B_72 (c_R_hasPosition_n (by omega) h1 hx) d_B_find_5 (by omega) h1 rfl rfl (by decide) (Nat.le_of_ble_eq_true rfl) (by decide) (st := []) rfl (kRd ?_)
  show G 0 0 8 [some (.ref (q 0)), some (.int x), none] [.int (nI 0)] N q f
  refine zr_if_nef (tgt := 13) X d_B_find_8 rfl (by decide) ?_
  refine zr_iconst (v := (-1)) X d_B_find_11 (by decide) ?_
  refine zr_ireturn Y d_B_find_12 rfl (Nat.le_of_ble_eq_true rfl) (Nat.le_of_ble_eq_true rfl) ?_
  exact ⟨rfl, rfl, rfl, rfl⟩

set_option maxRecDepth 100000 in
set_option maxHeartbeats 4000000 in
theorem c_B_find_e {l : Launch} {D : va_G} {cI cC cZ cV : ClassId} {N : Nat} {q : Nat → Nat} {f : zF} (hN : 23 ≤ N) {n ins jt : Nat} (h0 : f 0 = zbo q n ins jt) {sz : Nat} (h1 : f 1 = zrow q 2 sz) {k : Nat} (h3 : f 3 = zrow q 4 k) {p0 : Nat} (hp : p0 ≤ sz) (hs : sz ≤ 2000) (hk0 : k = 0) : zC l y_B_find b_B_find 3 (some .int) (rmD 1 0 0) D (zty cI cC cZ cV) [.ref (q 0), .int (nI p0)] N q f (pRd N q f (-2)) := by
  refine zC.of (by decide) (by simp [Value.category]) (Nat.le_of_ble_eq_true rfl) (fun G X Y => ?_)
  show G 0 0 0 [some (.ref (q 0)), some (.int (nI p0)), none] [] N q f
  refine zr_aload_n X d_B_find_0 rfl ?_
  refine zr_get X F_B_14 d_B_find_1 (by omega) h0 (v := .ref (q 1)) rfl ?_
  refine zr_iload_n X d_B_find_4 rfl ?_
  refine zr_callV X K_B_72 KI_B_72 KS_B_72 (c_R_hasPosition_y (by omega) h1 (by omega) hp) d_B_find_5 (by omega) h1 rfl rfl (by decide) (Nat.le_of_ble_eq_true rfl) (by decide) (st := []) rfl (kRd ?_)
  show G 0 0 8 [some (.ref (q 0)), some (.int (nI p0)), none] [.int (nI 1)] N q f
  refine zr_if_net (tgt := 13) X d_B_find_8 rfl (by decide) ?_
  refine zr_aload_n X d_B_find_13 rfl ?_
  refine zr_get X F_B_18 d_B_find_14 (by omega) h0 (v := .ref (q 3)) rfl ?_
  refine zr_get X F_B_55 d_B_find_17 (by omega) h3 (v := .int (nI k)) rfl ?_
  refine zr_if_nef (tgt := 26) X d_B_find_20 rfl (by rw [hk0]; rfl) ?_
  refine zr_bipush (v := (-2)) X d_B_find_23 (by decide) ?_
  refine zr_ireturn Y d_B_find_25 rfl (Nat.le_of_ble_eq_true rfl) (Nat.le_of_ble_eq_true rfl) ?_
  exact ⟨rfl, rfl, rfl, rfl⟩

set_option maxRecDepth 100000 in
set_option maxHeartbeats 4000000 in
theorem c_B_mark_y {l : Launch} {D : va_G} {cI cC cZ cV : ClassId} {N : Nat} {q : Nat → Nat} {f : zF} (hN : 23 ≤ N) {n ins jt : Nat} (h0 : f 0 = zbo q n ins jt) {sz : Nat} (h1 : f 1 = zrow q 2 sz)  (h5 : f 5 = .inr (iM, [.ref (q 6), .ref (q 7)])) {mp : Nat → Int32} (h6 : f 6 = .inl (cI, 6, .inl mp)) {mr : Nat → Int32} (h7 : f 7 = .inl (cZ, 6, .inl mr)) {m p : Nat} {r : Int32} (hm : m < 6) (hp : p ≤ sz) (hs : sz ≤ 2000) (hr : vp_nar .boolean r = r) : zC l y_B_mark b_B_mark 4 (some .boolean) (rmD 1 0 0) D (zty cI cC cZ cV) [.ref (q 0), .int (nI m), .int (nI p), .int r] N q f (fun v N' q' f' => v = some (.int (nI 1)) ∧ N' = N ∧ q' = q ∧ f' = va_up (va_up f 6 (.inl (cI, 6, .inl (upd mp m (nI p))))) 7 (.inl (cZ, 6, .inl (upd mr m r)))) := by
  refine zC.of (by decide) (by simp [Value.category]) (Nat.le_of_ble_eq_true rfl) (fun G X Y => ?_)
  show G 0 0 0 [some (.ref (q 0)), some (.int (nI m)), some (.int (nI p)), some (.int r)] [] N q f
  refine zr_iload_n X d_B_mark_0 rfl ?_
  refine zr_callS X K_B_121 KS_B_121 (c_B_isMark_y hm) d_B_mark_1 rfl (by decide) (Nat.le_of_ble_eq_true rfl) (by decide) (st := []) rfl (kRd ?_)
  show G 0 0 4 [some (.ref (q 0)), some (.int (nI m)), some (.int (nI p)), some (.int r)] [.int (nI 1)] N q f
  refine zr_if_eqf (tgt := 18) X d_B_mark_4 rfl (by decide) ?_
  refine zr_aload_n X d_B_mark_7 rfl ?_
  refine zr_get X F_B_14 d_B_mark_8 (by omega) h0 (v := .ref (q 1)) rfl ?_
  refine zr_iload_n X d_B_mark_11 rfl ?_
  refine zr_callV X K_B_72 KI_B_72 KS_B_72 (c_R_hasPosition_y (by omega) h1 (by omega) hp) d_B_mark_12 (by omega) h1 rfl rfl (by decide) (Nat.le_of_ble_eq_true rfl) (by decide) (st := []) rfl (kRd ?_)
  show G 0 0 15 [some (.ref (q 0)), some (.int (nI m)), some (.int (nI p)), some (.int r)] [.int (nI 1)] N q f
  refine zr_if_net (tgt := 20) X d_B_mark_15 rfl (by decide) ?_
  refine zr_aload_n X d_B_mark_20 rfl ?_
  refine zr_get X F_B_24 d_B_mark_21 (by omega) h0 (v := .ref (q 5)) rfl ?_
  refine zr_get X F_B_124 d_B_mark_24 (by omega) h5 (v := .ref (q 6)) rfl ?_
  refine zr_iload_n X d_B_mark_27 rfl ?_
  refine zr_iload_n X d_B_mark_28 rfl ?_
  refine zr_iastore X 0 d_B_mark_29 (by omega) h6 rfl (by omega) (by decide) ?_
  refine zr_aload_n X d_B_mark_30 rfl ?_
  refine zr_get X F_B_24 d_B_mark_31 (by omega) (up_ne (by decide) h0) (v := .ref (q 5)) rfl ?_
  refine zr_get X F_B_128 d_B_mark_34 (by omega) (up_ne (by decide) h5) (v := .ref (q 7)) rfl ?_
  refine zr_iload_n X d_B_mark_37 rfl ?_
  refine zr_iload_n X d_B_mark_38 rfl ?_
  refine zr_bastore X 2 d_B_mark_39 (by omega) (up_ne (by decide) h7) rfl (by omega) (by decide) hr ?_
  refine zr_iconst (v := nI 1) X d_B_mark_40 (by decide) ?_
  refine zr_ireturn Y d_B_mark_41 rfl (Nat.le_of_ble_eq_true rfl) (Nat.le_of_ble_eq_true rfl) ?_
  exact ⟨rfl, rfl, rfl, rfl⟩

set_option maxRecDepth 100000 in
set_option maxHeartbeats 4000000 in
theorem c_B_mark_n1 {l : Launch} {D : va_G} {cI cC cZ cV : ClassId} {N : Nat} {q : Nat → Nat} {f : zF} (hN : 23 ≤ N) {n ins jt : Nat} (h0 : f 0 = zbo q n ins jt) {x y r : Int32} (hx : zNo x 5) : zC l y_B_mark b_B_mark 4 (some .boolean) (rmD 1 0 0) D (zty cI cC cZ cV) [.ref (q 0), .int x, .int y, .int r] N q f (pRd N q f (nI 0)) := by
  refine zC.of (by decide) (by simp [Value.category]) (Nat.le_of_ble_eq_true rfl) (fun G X Y => ?_)
  show G 0 0 0 [some (.ref (q 0)), some (.int x), some (.int y), some (.int r)] [] N q f
  refine zr_iload_n X d_B_mark_0 rfl ?_
  refine zr_callS X K_B_121 KS_B_121 (c_B_isMark_n hx) d_B_mark_1 rfl (by decide) (Nat.le_of_ble_eq_true rfl) (by decide) (st := []) rfl (kRd ?_)
  show G 0 0 4 [some (.ref (q 0)), some (.int x), some (.int y), some (.int r)] [.int (nI 0)] N q f
  refine zr_if_eqt (tgt := 18) X d_B_mark_4 rfl (by decide) ?_
  refine zr_iconst (v := nI 0) X d_B_mark_18 (by decide) ?_
  refine zr_ireturn Y d_B_mark_19 rfl (Nat.le_of_ble_eq_true rfl) (Nat.le_of_ble_eq_true rfl) ?_
  exact ⟨rfl, rfl, rfl, rfl⟩

set_option maxRecDepth 100000 in
set_option maxHeartbeats 4000000 in
theorem c_B_mark_n2 {l : Launch} {D : va_G} {cI cC cZ cV : ClassId} {N : Nat} {q : Nat → Nat} {f : zF} (hN : 23 ≤ N) {n ins jt : Nat} (h0 : f 0 = zbo q n ins jt) {sz : Nat} (h1 : f 1 = zrow q 2 sz) {m : Nat} {y r : Int32} (hm : m < 6) (hy : zNo y sz) : zC l y_B_mark b_B_mark 4 (some .boolean) (rmD 1 0 0) D (zty cI cC cZ cV) [.ref (q 0), .int (nI m), .int y, .int r] N q f (pRd N q f (nI 0)) := by
  refine zC.of (by decide) (by simp [Value.category]) (Nat.le_of_ble_eq_true rfl) (fun G X Y => ?_)
  show G 0 0 0 [some (.ref (q 0)), some (.int (nI m)), some (.int y), some (.int r)] [] N q f
  refine zr_iload_n X d_B_mark_0 rfl ?_
  refine zr_callS X K_B_121 KS_B_121 (c_B_isMark_y hm) d_B_mark_1 rfl (by decide) (Nat.le_of_ble_eq_true rfl) (by decide) (st := []) rfl (kRd ?_)
  show G 0 0 4 [some (.ref (q 0)), some (.int (nI m)), some (.int y), some (.int r)] [.int (nI 1)] N q f
  refine zr_if_eqf (tgt := 18) X d_B_mark_4 rfl (by decide) ?_
  refine zr_aload_n X d_B_mark_7 rfl ?_
  refine zr_get X F_B_14 d_B_mark_8 (by omega) h0 (v := .ref (q 1)) rfl ?_
  refine zr_iload_n X d_B_mark_11 rfl ?_
  refine zr_callV X K_B_72 KI_B_72 KS_B_72 (c_R_hasPosition_n (by omega) h1 hy) d_B_mark_12 (by omega) h1 rfl rfl (by decide) (Nat.le_of_ble_eq_true rfl) (by decide) (st := []) rfl (kRd ?_)
  show G 0 0 15 [some (.ref (q 0)), some (.int (nI m)), some (.int y), some (.int r)] [.int (nI 0)] N q f
  refine zr_if_nef (tgt := 20) X d_B_mark_15 rfl (by decide) ?_
  refine zr_iconst (v := nI 0) X d_B_mark_18 (by decide) ?_
  refine zr_ireturn Y d_B_mark_19 rfl (Nat.le_of_ble_eq_true rfl) (Nat.le_of_ble_eq_true rfl) ?_
  exact ⟨rfl, rfl, rfl, rfl⟩

set_option maxRecDepth 100000 in
set_option maxHeartbeats 4000000 in
theorem c_B_unmark_y {l : Launch} {D : va_G} {cI cC cZ cV : ClassId} {N : Nat} {q : Nat → Nat} {f : zF} (hN : 23 ≤ N) {n ins jt : Nat} (h0 : f 0 = zbo q n ins jt)  (h5 : f 5 = .inr (iM, [.ref (q 6), .ref (q 7)])) {mp : Nat → Int32} (h6 : f 6 = .inl (cI, 6, .inl mp)) {m : Nat} (hm : m < 6) (hi : ¬ mp m = -1) : zC l y_B_unmark b_B_unmark 2 (some .boolean) (rmD 1 0 0) D (zty cI cC cZ cV) [.ref (q 0), .int (nI m)] N q f (fun v N' q' f' => v = some (.int (nI 1)) ∧ N' = N ∧ q' = q ∧ f' = va_up f 6 (.inl (cI, 6, .inl (upd mp m (-1))))) := by
  refine zC.of (by decide) (by simp [Value.category]) (Nat.le_of_ble_eq_true rfl) (fun G X Y => ?_)
  show G 0 0 0 [some (.ref (q 0)), some (.int (nI m))] [] N q f
  refine zr_iload_n X d_B_unmark_0 rfl ?_
  refine zr_callS X K_B_121 KS_B_121 (c_B_isMark_y hm) d_B_unmark_1 rfl (by decide) (Nat.le_of_ble_eq_true rfl) (by decide) (st := []) rfl (kRd ?_)
  show G 0 0 4 [some (.ref (q 0)), some (.int (nI m))] [.int (nI 1)] N q f
  refine zr_if_eqf (tgt := 20) X d_B_unmark_4 rfl (by decide) ?_
  refine zr_aload_n X d_B_unmark_7 rfl ?_
  refine zr_get X F_B_24 d_B_unmark_8 (by omega) h0 (v := .ref (q 5)) rfl ?_
  refine zr_get X F_B_124 d_B_unmark_11 (by omega) h5 (v := .ref (q 6)) rfl ?_
  refine zr_iload_n X d_B_unmark_14 rfl ?_
  refine zr_iaload (v := mp m) X 0 d_B_unmark_15 (by omega) h6 rfl (by omega) (by decide) rfl ?_
  refine zr_iconst (v := (-1)) X d_B_unmark_16 (by decide) ?_
  refine zr_icmp_net (tgt := 22) X d_B_unmark_17 rfl hi ?_
  refine zr_aload_n X d_B_unmark_22 rfl ?_
  refine zr_get X F_B_24 d_B_unmark_23 (by omega) h0 (v := .ref (q 5)) rfl ?_
  refine zr_get X F_B_124 d_B_unmark_26 (by omega) h5 (v := .ref (q 6)) rfl ?_
  refine zr_iload_n X d_B_unmark_29 rfl ?_
  refine zr_iconst (v := (-1)) X d_B_unmark_30 (by decide) ?_
  refine zr_iastore X 0 d_B_unmark_31 (by omega) h6 rfl (by omega) (by decide) ?_
  refine zr_iconst (v := nI 1) X d_B_unmark_32 (by decide) ?_
  refine zr_ireturn Y d_B_unmark_33 rfl (Nat.le_of_ble_eq_true rfl) (Nat.le_of_ble_eq_true rfl) ?_
  exact ⟨rfl, rfl, rfl, rfl⟩

set_option maxRecDepth 100000 in
set_option maxHeartbeats 4000000 in
theorem c_B_unmark_0 {l : Launch} {D : va_G} {cI cC cZ cV : ClassId} {N : Nat} {q : Nat → Nat} {f : zF} (hN : 23 ≤ N) {n ins jt : Nat} (h0 : f 0 = zbo q n ins jt)  (h5 : f 5 = .inr (iM, [.ref (q 6), .ref (q 7)])) {mp : Nat → Int32} (h6 : f 6 = .inl (cI, 6, .inl mp)) {m : Nat} (hm : m < 6) (hi : mp m = -1) : zC l y_B_unmark b_B_unmark 2 (some .boolean) (rmD 1 0 0) D (zty cI cC cZ cV) [.ref (q 0), .int (nI m)] N q f (pRd N q f (nI 0)) := by
  refine zC.of (by decide) (by simp [Value.category]) (Nat.le_of_ble_eq_true rfl) (fun G X Y => ?_)
  show G 0 0 0 [some (.ref (q 0)), some (.int (nI m))] [] N q f
  refine zr_iload_n X d_B_unmark_0 rfl ?_
  refine zr_callS X K_B_121 KS_B_121 (c_B_isMark_y hm) d_B_unmark_1 rfl (by decide) (Nat.le_of_ble_eq_true rfl) (by decide) (st := []) rfl (kRd ?_)
  show G 0 0 4 [some (.ref (q 0)), some (.int (nI m))] [.int (nI 1)] N q f
  refine zr_if_eqf (tgt := 20) X d_B_unmark_4 rfl (by decide) ?_
  refine zr_aload_n X d_B_unmark_7 rfl ?_
  refine zr_get X F_B_24 d_B_unmark_8 (by omega) h0 (v := .ref (q 5)) rfl ?_
  refine zr_get X F_B_124 d_B_unmark_11 (by omega) h5 (v := .ref (q 6)) rfl ?_
  refine zr_iload_n X d_B_unmark_14 rfl ?_
  refine zr_iaload (v := mp m) X 0 d_B_unmark_15 (by omega) h6 rfl (by omega) (by decide) rfl ?_
  refine zr_iconst (v := (-1)) X d_B_unmark_16 (by decide) ?_
  refine zr_icmp_nef (tgt := 22) X d_B_unmark_17 rfl hi ?_
  refine zr_iconst (v := nI 0) X d_B_unmark_20 (by decide) ?_
  refine zr_ireturn Y d_B_unmark_21 rfl (Nat.le_of_ble_eq_true rfl) (Nat.le_of_ble_eq_true rfl) ?_
  exact ⟨rfl, rfl, rfl, rfl⟩

set_option maxRecDepth 100000 in
set_option maxHeartbeats 4000000 in
theorem c_B_unmark_n {l : Launch} {D : va_G} {cI cC cZ cV : ClassId} {N : Nat} {q : Nat → Nat} {f : zF} (hN : 23 ≤ N) {n ins jt : Nat} (h0 : f 0 = zbo q n ins jt) {x : Int32} (hx : zNo x 5) : zC l y_B_unmark b_B_unmark 2 (some .boolean) (rmD 1 0 0) D (zty cI cC cZ cV) [.ref (q 0), .int x] N q f (pRd N q f (nI 0)) := by
  refine zC.of (by decide) (by simp [Value.category]) (Nat.le_of_ble_eq_true rfl) (fun G X Y => ?_)
  show G 0 0 0 [some (.ref (q 0)), some (.int x)] [] N q f
  refine zr_iload_n X d_B_unmark_0 rfl ?_
  refine zr_callS X K_B_121 KS_B_121 (c_B_isMark_n hx) d_B_unmark_1 rfl (by decide) (Nat.le_of_ble_eq_true rfl) (by decide) (st := []) rfl (kRd ?_)
  show G 0 0 4 [some (.ref (q 0)), some (.int x)] [.int (nI 0)] N q f
  refine zr_if_eqt (tgt := 20) X d_B_unmark_4 rfl (by decide) ?_
  refine zr_iconst (v := nI 0) X d_B_unmark_20 (by decide) ?_
  refine zr_ireturn Y d_B_unmark_21 rfl (Nat.le_of_ble_eq_true rfl) (Nat.le_of_ble_eq_true rfl) ?_
  exact ⟨rfl, rfl, rfl, rfl⟩

set_option maxRecDepth 100000 in
set_option maxHeartbeats 4000000 in
theorem c_B_where_y {l : Launch} {D : va_G} {cI cC cZ cV : ClassId} {N : Nat} {q : Nat → Nat} {f : zF} (hN : 23 ≤ N) {n ins jt : Nat} (h0 : f 0 = zbo q n ins jt)  (h5 : f 5 = .inr (iM, [.ref (q 6), .ref (q 7)])) {mp : Nat → Int32} (h6 : f 6 = .inl (cI, 6, .inl mp)) {m : Nat} (hm : m < 6) (hi : ¬ mp m = -1) : zC l y_B_where b_B_where 2 (some .int) (rmD 1 0 0) D (zty cI cC cZ cV) [.ref (q 0), .int (nI m)] N q f (pRd N q f (mp m)) := by
  refine zC.of (by decide) (by simp [Value.category]) (Nat.le_of_ble_eq_true rfl) (fun G X Y => ?_)
  show G 0 0 0 [some (.ref (q 0)), some (.int (nI m))] [] N q f
  refine zr_iload_n X d_B_where_0 rfl ?_
  refine zr_callS X K_B_121 KS_B_121 (c_B_isMark_y hm) d_B_where_1 rfl (by decide) (Nat.le_of_ble_eq_true rfl) (by decide) (st := []) rfl (kRd ?_)
  show G 0 0 4 [some (.ref (q 0)), some (.int (nI m))] [.int (nI 1)] N q f
  refine zr_if_eqf (tgt := 20) X d_B_where_4 rfl (by decide) ?_
  refine zr_aload_n X d_B_where_7 rfl ?_
  refine zr_get X F_B_24 d_B_where_8 (by omega) h0 (v := .ref (q 5)) rfl ?_
  refine zr_get X F_B_124 d_B_where_11 (by omega) h5 (v := .ref (q 6)) rfl ?_
  refine zr_iload_n X d_B_where_14 rfl ?_
  refine zr_iaload (v := mp m) X 0 d_B_where_15 (by omega) h6 rfl (by omega) (by decide) rfl ?_
  refine zr_iconst (v := (-1)) X d_B_where_16 (by decide) ?_
  refine zr_icmp_net (tgt := 22) X d_B_where_17 rfl hi ?_
  refine zr_aload_n X d_B_where_22 rfl ?_
  refine zr_get X F_B_24 d_B_where_23 (by omega) h0 (v := .ref (q 5)) rfl ?_
  refine zr_get X F_B_124 d_B_where_26 (by omega) h5 (v := .ref (q 6)) rfl ?_
  refine zr_iload_n X d_B_where_29 rfl ?_
  refine zr_iaload (v := mp m) X 0 d_B_where_30 (by omega) h6 rfl (by omega) (by decide) rfl ?_
  refine zr_ireturn Y d_B_where_31 rfl (Nat.le_of_ble_eq_true rfl) (Nat.le_of_ble_eq_true rfl) ?_
  exact ⟨rfl, rfl, rfl, rfl⟩

set_option maxRecDepth 100000 in
set_option maxHeartbeats 4000000 in
theorem c_B_where_0 {l : Launch} {D : va_G} {cI cC cZ cV : ClassId} {N : Nat} {q : Nat → Nat} {f : zF} (hN : 23 ≤ N) {n ins jt : Nat} (h0 : f 0 = zbo q n ins jt)  (h5 : f 5 = .inr (iM, [.ref (q 6), .ref (q 7)])) {mp : Nat → Int32} (h6 : f 6 = .inl (cI, 6, .inl mp)) {m : Nat} (hm : m < 6) (hi : mp m = -1) : zC l y_B_where b_B_where 2 (some .int) (rmD 1 0 0) D (zty cI cC cZ cV) [.ref (q 0), .int (nI m)] N q f (pRd N q f (-1)) := by
  refine zC.of (by decide) (by simp [Value.category]) (Nat.le_of_ble_eq_true rfl) (fun G X Y => ?_)
  show G 0 0 0 [some (.ref (q 0)), some (.int (nI m))] [] N q f
  refine zr_iload_n X d_B_where_0 rfl ?_
  refine zr_callS X K_B_121 KS_B_121 (c_B_isMark_y hm) d_B_where_1 rfl (by decide) (Nat.le_of_ble_eq_true rfl) (by decide) (st := []) rfl (kRd ?_)
  show G 0 0 4 [some (.ref (q 0)), some (.int (nI m))] [.int (nI 1)] N q f
  refine zr_if_eqf (tgt := 20) X d_B_where_4 rfl (by decide) ?_
  refine zr_aload_n X d_B_where_7 rfl ?_
  refine zr_get X F_B_24 d_B_where_8 (by omega) h0 (v := .ref (q 5)) rfl ?_
  refine zr_get X F_B_124 d_B_where_11 (by omega) h5 (v := .ref (q 6)) rfl ?_
  refine zr_iload_n X d_B_where_14 rfl ?_
  refine zr_iaload (v := mp m) X 0 d_B_where_15 (by omega) h6 rfl (by omega) (by decide) rfl ?_
  refine zr_iconst (v := (-1)) X d_B_where_16 (by decide) ?_
  refine zr_icmp_nef (tgt := 22) X d_B_where_17 rfl hi ?_
  refine zr_iconst (v := (-1)) X d_B_where_20 (by decide) ?_
  refine zr_ireturn Y d_B_where_21 rfl (Nat.le_of_ble_eq_true rfl) (Nat.le_of_ble_eq_true rfl) ?_
  exact ⟨rfl, rfl, rfl, rfl⟩

set_option maxRecDepth 100000 in
set_option maxHeartbeats 4000000 in
theorem c_B_where_n {l : Launch} {D : va_G} {cI cC cZ cV : ClassId} {N : Nat} {q : Nat → Nat} {f : zF} (hN : 23 ≤ N) {n ins jt : Nat} (h0 : f 0 = zbo q n ins jt) {x : Int32} (hx : zNo x 5) : zC l y_B_where b_B_where 2 (some .int) (rmD 1 0 0) D (zty cI cC cZ cV) [.ref (q 0), .int x] N q f (pRd N q f (-1)) := by
  refine zC.of (by decide) (by simp [Value.category]) (Nat.le_of_ble_eq_true rfl) (fun G X Y => ?_)
  show G 0 0 0 [some (.ref (q 0)), some (.int x)] [] N q f
  refine zr_iload_n X d_B_where_0 rfl ?_
  refine zr_callS X K_B_121 KS_B_121 (c_B_isMark_n hx) d_B_where_1 rfl (by decide) (Nat.le_of_ble_eq_true rfl) (by decide) (st := []) rfl (kRd ?_)
  show G 0 0 4 [some (.ref (q 0)), some (.int x)] [.int (nI 0)] N q f
  refine zr_if_eqt (tgt := 20) X d_B_where_4 rfl (by decide) ?_
  refine zr_iconst (v := (-1)) X d_B_where_20 (by decide) ?_
  refine zr_ireturn Y d_B_where_21 rfl (Nat.le_of_ble_eq_true rfl) (Nat.le_of_ble_eq_true rfl) ?_
  exact ⟨rfl, rfl, rfl, rfl⟩

set_option maxRecDepth 100000 in
set_option maxHeartbeats 4000000 in
theorem c_B_nextMark_y {l : Launch} {D : va_G} {cI cC cZ cV : ClassId} {N : Nat} {q : Nat → Nat} {f : zF} (hN : 23 ≤ N) {n ins jt : Nat} (h0 : f 0 = zbo q n ins jt) {sz : Nat} (h1 : f 1 = zrow q 2 sz)  (h5 : f 5 = .inr (iM, [.ref (q 6), .ref (q 7)])) {mp : Nat → Int32} (h6 : f 6 = .inl (cI, 6, .inl mp)) {p : Nat} (hp : p ≤ sz) (hs : sz ≤ 2000) {x : Int32} (hx : nI p = x) : zC l y_B_nextMark b_B_nextMark 2 (some .int) (rmD 1 0 0) D (zty cI cC cZ cV) [.ref (q 0), .int x] N q f (pRd N q f (zfi (zff mp x 6))) := by
  refine zC.of (by decide) (by simp [Value.category]) (Nat.le_of_ble_eq_true rfl) (fun G X Y => ?_)
  show G 0 0 0 [some (.ref (q 0)), some (.int x)] [] N q f
  refine zr_aload_n X d_B_nextMark_0 rfl ?_
  refine zr_get X F_B_14 d_B_nextMark_1 (by omega) h0 (v := .ref (q 1)) rfl ?_
  refine zr_iload_n X d_B_nextMark_4 rfl ?_
  refine zr_callV X K_B_72 KI_B_72 KS_B_72 (hx ▸ c_R_hasPosition_y (by omega) h1 (by omega) hp) d_B_nextMark_5 (by omega) h1 rfl rfl (by decide) (Nat.le_of_ble_eq_true rfl) (by decide) (st := []) rfl (kRd ?_)
  show G 0 0 8 [some (.ref (q 0)), some (.int x)] [.int (nI 1)] N q f
  refine zr_if_eqf (tgt := 22) X d_B_nextMark_8 rfl (by decide) ?_
  refine zr_aload_n X d_B_nextMark_11 rfl ?_
  refine zr_get X F_B_24 d_B_nextMark_12 (by omega) h0 (v := .ref (q 5)) rfl ?_
  refine zr_iload_n X d_B_nextMark_15 rfl ?_
  refine zr_callV X K_B_132 KI_B_132 KS_B_132 (c_M_firstFrom (by omega) h5 (by omega) h6) d_B_nextMark_16 (by omega) h5 rfl rfl (by decide) (Nat.le_of_ble_eq_true rfl) (by decide) (st := []) rfl (kRd ?_)
  show G 0 0 19 [some (.ref (q 0)), some (.int x)] [.int (zfi (zff mp x 6))] N q f
  refine zr_goto (tgt := 23) X d_B_nextMark_19 rfl ?_
  refine zr_ireturn Y d_B_nextMark_23 rfl (Nat.le_of_ble_eq_true rfl) (Nat.le_of_ble_eq_true rfl) ?_
  exact ⟨rfl, rfl, rfl, rfl⟩

set_option maxRecDepth 100000 in
set_option maxHeartbeats 4000000 in
theorem c_B_nextMark_n {l : Launch} {D : va_G} {cI cC cZ cV : ClassId} {N : Nat} {q : Nat → Nat} {f : zF} (hN : 23 ≤ N) {n ins jt : Nat} (h0 : f 0 = zbo q n ins jt) {sz : Nat} (h1 : f 1 = zrow q 2 sz) {x : Int32} (hx : zNo x sz) : zC l y_B_nextMark b_B_nextMark 2 (some .int) (rmD 1 0 0) D (zty cI cC cZ cV) [.ref (q 0), .int x] N q f (pRd N q f (-1)) := by
  refine zC.of (by decide) (by simp [Value.category]) (Nat.le_of_ble_eq_true rfl) (fun G X Y => ?_)
  show G 0 0 0 [some (.ref (q 0)), some (.int x)] [] N q f
  refine zr_aload_n X d_B_nextMark_0 rfl ?_
  refine zr_get X F_B_14 d_B_nextMark_1 (by omega) h0 (v := .ref (q 1)) rfl ?_
  refine zr_iload_n X d_B_nextMark_4 rfl ?_
  refine zr_callV X K_B_72 KI_B_72 KS_B_72 (c_R_hasPosition_n (by omega) h1 hx) d_B_nextMark_5 (by omega) h1 rfl rfl (by decide) (Nat.le_of_ble_eq_true rfl) (by decide) (st := []) rfl (kRd ?_)
  show G 0 0 8 [some (.ref (q 0)), some (.int x)] [.int (nI 0)] N q f
  refine zr_if_eqt (tgt := 22) X d_B_nextMark_8 rfl (by decide) ?_
  refine zr_iconst (v := (-1)) X d_B_nextMark_22 (by decide) ?_
  refine zr_ireturn Y d_B_nextMark_23 rfl (Nat.le_of_ble_eq_true rfl) (Nat.le_of_ble_eq_true rfl) ?_
  exact ⟨rfl, rfl, rfl, rfl⟩

set_option maxRecDepth 100000 in
set_option maxHeartbeats 4000000 in
theorem c_B_version {l : Launch} {D : va_G} {cI cC cZ cV : ClassId} {N : Nat} {q : Nat → Nat} {f : zF} (hN : 23 ≤ N) {n ins jv : Nat} (h0 : f 0 = zbo q n ins jv) {num at_ jp cc : Nat} {com : Int32} {pr lat : Value} (hjv : jv < N) (hv : f jv = zver q num pr com at_ jp cc lat) : zC l y_B_version b_B_version 1 (some .int) (rmD 0 0 0) D (zty cI cC cZ cV) [.ref (q 0)] N q f (pRd N q f (nI num)) := by
  refine zC.of (by decide) (by simp [Value.category]) (Nat.le_of_ble_eq_true rfl) (fun G X Y => ?_)
  show G 0 0 0 [some (.ref (q 0))] [] N q f
  refine zr_aload_n X d_B_version_0 rfl ?_
  refine zr_get X F_B_40 d_B_version_1 (by omega) h0 (v := .ref (q jv)) rfl ?_
  refine zr_get X F_B_91 d_B_version_4 (by omega) hv (v := .int (nI num)) rfl ?_
  refine zr_ireturn Y d_B_version_7 rfl (Nat.le_of_ble_eq_true rfl) (Nat.le_of_ble_eq_true rfl) ?_
  exact ⟨rfl, rfl, rfl, rfl⟩

set_option maxRecDepth 100000 in
set_option maxHeartbeats 4000000 in
theorem c_B_numbered_y {l : Launch} {D : va_G} {cI cC cZ cV : ClassId} {N : Nat} {q : Nat → Nat} {f : zF} (hN : 23 ≤ N) {n ins jt : Nat} (h0 : f 0 = zbo q n ins jt) {md : Nat → Option Nat} (h8 : f 8 = .inl (cV, 122, .inr (.inr (.inr (.inr md))))) {v jv : Nat} (hv : v < n) (hn : n ≤ 122) (hm : md v = some (q jv)) : zC l y_B_numbered b_B_numbered 2 (some (.object "BranchingText$Version")) (rmD 0 0 0) D (zty cI cC cZ cV) [.ref (q 0), .int (nI v)] N q f (pR N q f (.ref (q jv))) := by
  refine zC.of (by decide) (by simp [Value.category]) (Nat.le_of_ble_eq_true rfl) (fun G X Y => ?_)
  show G 0 0 0 [some (.ref (q 0)), some (.int (nI v))] [] N q f
  refine zr_iload_n X d_B_numbered_0 rfl ?_
  refine zr_if_ltf (tgt := 21) X d_B_numbered_1 rfl (nI_pos (by omega)) ?_
  refine zr_iload_n X d_B_numbered_4 rfl ?_
  refine zr_aload_n X d_B_numbered_5 rfl ?_
  refine zr_get X F_B_44 d_B_numbered_6 (by omega) h0 (v := .int (nI n)) rfl ?_
  refine zr_icmp_gef (tgt := 21) X d_B_numbered_9 rfl (nI_ge hv (by omega)) ?_
  refine zr_aload_n X d_B_numbered_12 rfl ?_
  refine zr_get X F_B_30 d_B_numbered_13 (by omega) h0 (v := .ref (q 8)) rfl ?_
  refine zr_iload_n X d_B_numbered_16 rfl ?_
  refine zr_aaload (v := some ((q jv))) X 3 d_B_numbered_17 (by omega) h8 rfl (by omega) (by decide) hm ?_
  show G 0 0 18 [some (.ref (q 0)), some (.int (nI v))] [.ref (q jv)] N q f
  refine zr_goto (tgt := 22) X d_B_numbered_18 rfl ?_
  refine zr_areturn Y d_B_numbered_22 (Or.inl ⟨_, rfl⟩) (Or.inr ⟨_, rfl⟩) (Nat.le_of_ble_eq_true rfl) (Nat.le_of_ble_eq_true rfl) ?_
  exact ⟨rfl, rfl, rfl, rfl⟩

set_option maxRecDepth 100000 in
set_option maxHeartbeats 4000000 in
theorem c_B_numbered_n {l : Launch} {D : va_G} {cI cC cZ cV : ClassId} {N : Nat} {q : Nat → Nat} {f : zF} (hN : 23 ≤ N) {n ins jt : Nat} (h0 : f 0 = zbo q n ins jt) {x : Int32} (hx : zNa x n) : zC l y_B_numbered b_B_numbered 2 (some (.object "BranchingText$Version")) (rmD 0 0 0) D (zty cI cC cZ cV) [.ref (q 0), .int x] N q f (pR N q f .null) := by
  refine zC.of (by decide) (by simp [Value.category]) (Nat.le_of_ble_eq_true rfl) (fun G X Y => ?_)
  show G 0 0 0 [some (.ref (q 0)), some (.int x)] [] N q f
  refine zr_iload_n X d_B_numbered_0 rfl ?_
  refine zr_if_lt (tgt := 21) X d_B_numbered_1 rfl (fun h1 => ?_) (fun h1 => ?_)
  · skip
    refine zr_null X d_B_numbered_21 ?_
    refine zr_areturn Y d_B_numbered_22 (Or.inl ⟨_, rfl⟩) (Or.inl rfl) (Nat.le_of_ble_eq_true rfl) (Nat.le_of_ble_eq_true rfl) ?_
    exact ⟨rfl, rfl, rfl, rfl⟩
  · skip
    refine zr_iload_n X d_B_numbered_4 rfl ?_
    refine zr_aload_n X d_B_numbered_5 rfl ?_
    refine zr_get X F_B_44 d_B_numbered_6 (by omega) h0 (v := .int (nI n)) rfl ?_
    refine zr_icmp_get (tgt := 21) X d_B_numbered_9 rfl (hx.resolve_left h1) ?_
    refine zr_null X d_B_numbered_21 ?_
    refine zr_areturn Y d_B_numbered_22 (Or.inl ⟨_, rfl⟩) (Or.inl rfl) (Nat.le_of_ble_eq_true rfl) (Nat.le_of_ble_eq_true rfl) ?_
    exact ⟨rfl, rfl, rfl, rfl⟩

set_option maxRecDepth 100000 in
set_option maxHeartbeats 4000000 in
theorem c_B_children_y {l : Launch} {D : va_G} {cI cC cZ cV : ClassId} {N : Nat} {q : Nat → Nat} {f : zF} (hN : 23 ≤ N) {n ins jt : Nat} (h0 : f 0 = zbo q n ins jt) {md : Nat → Option Nat} (h8 : f 8 = .inl (cV, 122, .inr (.inr (.inr (.inr md))))) {jv num at_ jp cc : Nat} {com : Int32} {pr lat : Value} (hjv : jv < N) (hv : f jv = zver q num pr com at_ jp cc lat) {v : Nat} (hvn : v < n) (hn : n ≤ 122) (hm : md v = some (q jv)) : zC l y_B_children b_B_children 3 (some .int) (rmD 1 0 0) D (zty cI cC cZ cV) [.ref (q 0), .int (nI v)] N q f (pRd N q f (nI cc)) := by
  refine zC.of (by decide) (by simp [Value.category]) (Nat.le_of_ble_eq_true rfl) (fun G X Y => ?_)
  show G 0 0 0 [some (.ref (q 0)), some (.int (nI v)), none] [] N q f
  refine zr_aload_n X d_B_children_0 rfl ?_
  refine zr_iload_n X d_B_children_1 rfl ?_
  refine zr_callV X K_B_100 KI_B_100 KS_B_100 (c_B_numbered_y hN h0 h8 hvn hn hm) d_B_children_2 (by omega) h0 rfl rfl (by decide) (Nat.le_of_ble_eq_true rfl) (by decide) (st := []) rfl (kR ?_)
  show G 0 0 5 [some (.ref (q 0)), some (.int (nI v)), none] [.ref (q jv)] N q f
  refine zr_astore_n (lv' := [some (.ref (q 0)), some (.int (nI v)), some (.ref (q jv))]) X d_B_children_5 (by decide) rfl ?_
  refine zr_aload_n X d_B_children_6 rfl ?_
  refine zr_ifnonnull (tgt := 14) X d_B_children_7 rfl ?_
  refine zr_aload_n X d_B_children_14 rfl ?_
  refine zr_get X F_B_107 d_B_children_15 (by omega) hv (v := .int (nI cc)) rfl ?_
  refine zr_ireturn Y d_B_children_18 rfl (Nat.le_of_ble_eq_true rfl) (Nat.le_of_ble_eq_true rfl) ?_
  exact ⟨rfl, rfl, rfl, rfl⟩

set_option maxRecDepth 100000 in
set_option maxHeartbeats 4000000 in
theorem c_B_children_n {l : Launch} {D : va_G} {cI cC cZ cV : ClassId} {N : Nat} {q : Nat → Nat} {f : zF} (hN : 23 ≤ N) {n ins jt : Nat} (h0 : f 0 = zbo q n ins jt) {x : Int32} (hx : zNa x n) : zC l y_B_children b_B_children 3 (some .int) (rmD 1 0 0) D (zty cI cC cZ cV) [.ref (q 0), .int x] N q f (pRd N q f (-1)) := by
  refine zC.of (by decide) (by simp [Value.category]) (Nat.le_of_ble_eq_true rfl) (fun G X Y => ?_)
  show G 0 0 0 [some (.ref (q 0)), some (.int x), none] [] N q f
  refine zr_aload_n X d_B_children_0 rfl ?_
  refine zr_iload_n X d_B_children_1 rfl ?_
  refine zr_callV X K_B_100 KI_B_100 KS_B_100 (c_B_numbered_n hN h0 hx) d_B_children_2 (by omega) h0 rfl rfl (by decide) (Nat.le_of_ble_eq_true rfl) (by decide) (st := []) rfl (kR ?_)
  show G 0 0 5 [some (.ref (q 0)), some (.int x), none] [.null] N q f
  refine zr_astore_nN (lv' := [some (.ref (q 0)), some (.int x), some (.null)]) X d_B_children_5 (by decide) rfl ?_
  refine zr_aload_nN X d_B_children_6 rfl ?_
  refine zr_ifnonnullN X d_B_children_7 ?_
  refine zr_iconst (v := (-1)) X d_B_children_10 (by decide) ?_
  refine zr_goto (tgt := 18) X d_B_children_11 rfl ?_
  refine zr_ireturn Y d_B_children_18 rfl (Nat.le_of_ble_eq_true rfl) (Nat.le_of_ble_eq_true rfl) ?_
  exact ⟨rfl, rfl, rfl, rfl⟩

set_option maxRecDepth 100000 in
set_option maxHeartbeats 4000000 in
theorem c_B_parent_n {l : Launch} {D : va_G} {cI cC cZ cV : ClassId} {N : Nat} {q : Nat → Nat} {f : zF} (hN : 23 ≤ N) {n ins jt : Nat} (h0 : f 0 = zbo q n ins jt) {x : Int32} (hx : zNa x n) : zC l y_B_parent b_B_parent 3 (some .int) (rmD 1 0 0) D (zty cI cC cZ cV) [.ref (q 0), .int x] N q f (pRd N q f (-1)) := by
  refine zC.of (by decide) (by simp [Value.category]) (Nat.le_of_ble_eq_true rfl) (fun G X Y => ?_)
  show G 0 0 0 [some (.ref (q 0)), some (.int x), none] [] N q f
  refine zr_aload_n X d_B_parent_0 rfl ?_
  refine zr_iload_n X d_B_parent_1 rfl ?_
  refine zr_callV X K_B_100 KI_B_100 KS_B_100 (c_B_numbered_n hN h0 hx) d_B_parent_2 (by omega) h0 rfl rfl (by decide) (Nat.le_of_ble_eq_true rfl) (by decide) (st := []) rfl (kR ?_)
  show G 0 0 5 [some (.ref (q 0)), some (.int x), none] [.null] N q f
  refine zr_astore_nN (lv' := [some (.ref (q 0)), some (.int x), some (.null)]) X d_B_parent_5 (by decide) rfl ?_
  refine zr_aload_nN X d_B_parent_6 rfl ?_
  refine zr_ifnullN (tgt := 17) X d_B_parent_7 rfl ?_
  refine zr_iconst (v := (-1)) X d_B_parent_17 (by decide) ?_
  refine zr_ireturn Y d_B_parent_18 rfl (Nat.le_of_ble_eq_true rfl) (Nat.le_of_ble_eq_true rfl) ?_
  exact ⟨rfl, rfl, rfl, rfl⟩

set_option maxRecDepth 100000 in
set_option maxHeartbeats 4000000 in
theorem c_B_parent_0 {l : Launch} {D : va_G} {cI cC cZ cV : ClassId} {N : Nat} {q : Nat → Nat} {f : zF} (hN : 23 ≤ N) {n ins jt : Nat} (h0 : f 0 = zbo q n ins jt) {md : Nat → Option Nat} (h8 : f 8 = .inl (cV, 122, .inr (.inr (.inr (.inr md))))) {jv num at_ jp cc : Nat} {com : Int32} {lat : Value} (hjv : jv < N) (hv : f jv = zver q num .null com at_ jp cc lat) {v : Nat} (hvn : v < n) (hn : n ≤ 122) (hm : md v = some (q jv)) : zC l y_B_parent b_B_parent 3 (some .int) (rmD 1 0 0) D (zty cI cC cZ cV) [.ref (q 0), .int (nI v)] N q f (pRd N q f (-1)) := by
  refine zC.of (by decide) (by simp [Value.category]) (Nat.le_of_ble_eq_true rfl) (fun G X Y => ?_)
  show G 0 0 0 [some (.ref (q 0)), some (.int (nI v)), none] [] N q f
  refine zr_aload_n X d_B_parent_0 rfl ?_
  refine zr_iload_n X d_B_parent_1 rfl ?_
  refine zr_callV X K_B_100 KI_B_100 KS_B_100 (c_B_numbered_y hN h0 h8 hvn hn hm) d_B_parent_2 (by omega) h0 rfl rfl (by decide) (Nat.le_of_ble_eq_true rfl) (by decide) (st := []) rfl (kR ?_)
  show G 0 0 5 [some (.ref (q 0)), some (.int (nI v)), none] [.ref (q jv)] N q f
  refine zr_astore_n (lv' := [some (.ref (q 0)), some (.int (nI v)), some (.ref (q jv))]) X d_B_parent_5 (by decide) rfl ?_
  refine zr_aload_n X d_B_parent_6 rfl ?_
  refine zr_ifnull X d_B_parent_7 ?_
  refine zr_aload_n X d_B_parent_10 rfl ?_
  refine zr_get X F_B_84 d_B_parent_11 (by omega) hv (v := .null) rfl ?_
  refine zr_ifnonnullN X d_B_parent_14 ?_
  refine zr_iconst (v := (-1)) X d_B_parent_17 (by decide) ?_
  refine zr_ireturn Y d_B_parent_18 rfl (Nat.le_of_ble_eq_true rfl) (Nat.le_of_ble_eq_true rfl) ?_
  exact ⟨rfl, rfl, rfl, rfl⟩

set_option maxRecDepth 100000 in
set_option maxHeartbeats 4000000 in
theorem c_B_parent_y {l : Launch} {D : va_G} {cI cC cZ cV : ClassId} {N : Nat} {q : Nat → Nat} {f : zF} (hN : 23 ≤ N) {n ins jt : Nat} (h0 : f 0 = zbo q n ins jt) {md : Nat → Option Nat} (h8 : f 8 = .inl (cV, 122, .inr (.inr (.inr (.inr md))))) {jv num at_ jp cc : Nat} {com : Int32} {lat : Value} {ju : Nat} (hjv : jv < N) (hv : f jv = zver q num (.ref (q ju)) com at_ jp cc lat) {num1 at1 jp1 cc1 : Nat} {com1 : Int32} {pr1 lat1 : Value} (hju : ju < N) (hu : f ju = zver q num1 pr1 com1 at1 jp1 cc1 lat1) {v : Nat} (hvn : v < n) (hn : n ≤ 122) (hm : md v = some (q jv)) : zC l y_B_parent b_B_parent 3 (some .int) (rmD 1 0 0) D (zty cI cC cZ cV) [.ref (q 0), .int (nI v)] N q f (pRd N q f (nI num1)) := by
  refine zC.of (by decide) (by simp [Value.category]) (Nat.le_of_ble_eq_true rfl) (fun G X Y => ?_)
  show G 0 0 0 [some (.ref (q 0)), some (.int (nI v)), none] [] N q f
  refine zr_aload_n X d_B_parent_0 rfl ?_
  refine zr_iload_n X d_B_parent_1 rfl ?_
  refine zr_callV X K_B_100 KI_B_100 KS_B_100 (c_B_numbered_y hN h0 h8 hvn hn hm) d_B_parent_2 (by omega) h0 rfl rfl (by decide) (Nat.le_of_ble_eq_true rfl) (by decide) (st := []) rfl (kR ?_)
  show G 0 0 5 [some (.ref (q 0)), some (.int (nI v)), none] [.ref (q jv)] N q f
  refine zr_astore_n (lv' := [some (.ref (q 0)), some (.int (nI v)), some (.ref (q jv))]) X d_B_parent_5 (by decide) rfl ?_
  refine zr_aload_n X d_B_parent_6 rfl ?_
  refine zr_ifnull X d_B_parent_7 ?_
  refine zr_aload_n X d_B_parent_10 rfl ?_
  refine zr_get X F_B_84 d_B_parent_11 (by omega) hv (v := .ref (q ju)) rfl ?_
  refine zr_ifnonnull (tgt := 19) X d_B_parent_14 rfl ?_
  refine zr_aload_n X d_B_parent_19 rfl ?_
  refine zr_get X F_B_84 d_B_parent_20 (by omega) hv (v := .ref (q ju)) rfl ?_
  refine zr_get X F_B_91 d_B_parent_23 (by omega) hu (v := .int (nI num1)) rfl ?_
  refine zr_ireturn Y d_B_parent_26 rfl (Nat.le_of_ble_eq_true rfl) (Nat.le_of_ble_eq_true rfl) ?_
  exact ⟨rfl, rfl, rfl, rfl⟩
end
section
/-- an edit done: b, characters come; else they go -/
def zbi (b : Bool) : Int32 := if b then nI 1 else nI 0
def zoT (b : Bool) (tx gp : Nat → Int32) (p c sz : Nat) : Nat → Int32 := if b then zopen tx gp p c sz else zclose tx p c sz
def zoS (b : Bool) (sz c : Nat) : Nat := if b then sz + c else sz - c
def zoM (b : Bool) (p c : Nat) (mp mr : Nat → Int32) : Nat → Int32 := if b then zst 6 (fun m => zcm (nI p) (nI c) (mp m) (mr m)) mp else zst 6 (fun m => zgm (nI p) (nI c) (mp m)) mp
def zoK (b : Bool) (p c sz : Nat) : Prop := if b then p ≤ sz ∧ sz + c ≤ 2000 else p + c ≤ sz ∧ sz ≤ 2000

set_option maxRecDepth 100000 in
set_option maxHeartbeats 4000000 in
theorem c_B_putIn {l : Launch} {D : va_G} {cI cC cZ cV : ClassId} {N : Nat} {q : Nat → Nat} {f : zF} (hN : 23 ≤ N) {n ins jt : Nat} (h0 : f 0 = zbo q n ins jt) {sz : Nat} (h1 : f 1 = zrow q 2 sz) {tx : Nat → Int32} (h2 : f 2 = .inl (cC, 2000, .inl tx))  (h5 : f 5 = .inr (iM, [.ref (q 6), .ref (q 7)])) {mp : Nat → Int32} (h6 : f 6 = .inl (cI, 6, .inl mp)) {mr : Nat → Int32} (h7 : f 7 = .inl (cZ, 6, .inl mr)) {jp p c : Nat} {gp : Nat → Int32} (hjp : jp < N) (h23 : 23 ≤ jp) (hfp : f jp = .inl (cC, c, .inl gp)) (htx : zCh tx) (hgp : zCh gp) (hps : p ≤ sz) (hsz : sz + c ≤ 2000) : zC l y_B_putIn b_B_putIn 3 none (rmD 2 0 0) D (zty cI cC cZ cV) [.ref (q 0), .int (nI p), .ref (q jp)] N q f (pW N q (va_up (va_up (va_up f 2 (.inl (cC, 2000, .inl (zopen tx gp p c sz)))) 1 (zrow q 2 (sz + c))) 6 (.inl (cI, 6, .inl (zst 6 (fun m => zcm (nI p) (nI c) (mp m) (mr m)) mp))))) := by
  refine zC.of (by decide) (by simp [Value.category]) (Nat.le_of_ble_eq_true rfl) (fun G X Y => ?_)
  show G 0 0 0 [some (.ref (q 0)), some (.int (nI p)), some (.ref (q jp))] [] N q f
  refine zr_aload_n X d_B_putIn_0 rfl ?_
  refine zr_get X F_B_14 d_B_putIn_1 (by omega) h0 (v := .ref (q 1)) rfl ?_
  refine zr_iload_n X d_B_putIn_4 rfl ?_
  refine zr_aload_n X d_B_putIn_5 rfl ?_
  refine zr_callV X K_B_153 KI_B_153 KS_B_153 (c_R_open (by omega) h1 (by omega) h2 hjp hfp (by decide) (by omega) (by omega) htx hgp (by decide) hps hsz) d_B_putIn_6 (by omega) h1 rfl rfl (by decide) (Nat.le_of_ble_eq_true rfl) (by decide) (st := []) rfl (kW ?_)
  show G 0 0 9 [some (.ref (q 0)), some (.int (nI p)), some (.ref (q jp))] [] N q (va_up (va_up f 2 (.inl (cC, 2000, .inl (zopen tx gp p c sz)))) 1 (.inr (iR, [.ref (q 2), .int (nI (sz + c))])))
  refine zr_aload_n X d_B_putIn_9 rfl ?_
  refine zr_get X F_B_24 d_B_putIn_10 (by omega) (up_ne (by decide) (up_ne (by decide) h0)) (v := .ref (q 5)) rfl ?_
  refine zr_iload_n X d_B_putIn_13 rfl ?_
  refine zr_aload_n X d_B_putIn_14 rfl ?_
  refine zr_alen X 1 d_B_putIn_15 (by omega) (up_ne (by omega) (up_ne (by omega) hfp)) rfl ?_
  refine zr_callV X K_B_156 KI_B_156 KS_B_156 (c_M_coming (by omega) (up_ne (by decide) (up_ne (by decide) h5)) (by omega) (up_ne (by decide) (up_ne (by decide) h6)) (by omega) (up_ne (by decide) (up_ne (by decide) h7)) (by decide) (by decide)) d_B_putIn_16 (by omega) (up_ne (by decide) (up_ne (by decide) h5)) rfl rfl (by decide) (Nat.le_of_ble_eq_true rfl) (by decide) (st := []) rfl (kW ?_)
  show G 0 0 19 [some (.ref (q 0)), some (.int (nI p)), some (.ref (q jp))] [] N q (va_up (va_up (va_up f 2 (.inl (cC, 2000, .inl (zopen tx gp p c sz)))) 1 (.inr (iR, [.ref (q 2), .int (nI (sz + c))]))) 6 (.inl (cI, 6, .inl (zst 6 (fun m => zcm (nI p) (nI c) (mp m) (mr m)) mp))))
  refine zr_return Y d_B_putIn_19 (Nat.le_of_ble_eq_true rfl) (Nat.le_of_ble_eq_true rfl) ?_
  exact ⟨rfl, rfl, rfl, rfl⟩

set_option maxRecDepth 100000 in
set_option maxHeartbeats 4000000 in
theorem c_B_takeOut {l : Launch} {D : va_G} {cI cC cZ cV : ClassId} {N : Nat} {q : Nat → Nat} {f : zF} (hN : 23 ≤ N) {n ins jt : Nat} (h0 : f 0 = zbo q n ins jt) {sz : Nat} (h1 : f 1 = zrow q 2 sz) {tx : Nat → Int32} (h2 : f 2 = .inl (cC, 2000, .inl tx))  (h5 : f 5 = .inr (iM, [.ref (q 6), .ref (q 7)])) {mp : Nat → Int32} (h6 : f 6 = .inl (cI, 6, .inl mp)) {mr : Nat → Int32} (h7 : f 7 = .inl (cZ, 6, .inl mr)) {p c : Nat} (htx : zCh tx) (hps : p + c ≤ sz) (hsz : sz ≤ 2000) : zC l y_B_takeOut b_B_takeOut 3 none (rmD 2 0 0) D (zty cI cC cZ cV) [.ref (q 0), .int (nI p), .int (nI c)] N q f (pW N q (va_up (va_up (va_up f 2 (.inl (cC, 2000, .inl (zclose tx p c sz)))) 1 (zrow q 2 (sz - c))) 6 (.inl (cI, 6, .inl (zst 6 (fun m => zgm (nI p) (nI c) (mp m)) mp))))) := by
  refine zC.of (by decide) (by simp [Value.category]) (Nat.le_of_ble_eq_true rfl) (fun G X Y => ?_)
  show G 0 0 0 [some (.ref (q 0)), some (.int (nI p)), some (.int (nI c))] [] N q f
  refine zr_aload_n X d_B_takeOut_0 rfl ?_
  refine zr_get X F_B_14 d_B_takeOut_1 (by omega) h0 (v := .ref (q 1)) rfl ?_
  refine zr_iload_n X d_B_takeOut_4 rfl ?_
  refine zr_iload_n X d_B_takeOut_5 rfl ?_
  refine zr_callV X K_B_159 KI_B_159 KS_B_159 (c_R_close (by omega) h1 (by omega) h2 (by decide) htx (by decide) hps hsz) d_B_takeOut_6 (by omega) h1 rfl rfl (by decide) (Nat.le_of_ble_eq_true rfl) (by decide) (st := []) rfl (kW ?_)
  show G 0 0 9 [some (.ref (q 0)), some (.int (nI p)), some (.int (nI c))] [] N q (va_up (va_up f 2 (.inl (cC, 2000, .inl (zclose tx p c sz)))) 1 (.inr (iR, [.ref (q 2), .int (nI (sz - c))])))
  refine zr_aload_n X d_B_takeOut_9 rfl ?_
  refine zr_get X F_B_24 d_B_takeOut_10 (by omega) (up_ne (by decide) (up_ne (by decide) h0)) (v := .ref (q 5)) rfl ?_
  refine zr_iload_n X d_B_takeOut_13 rfl ?_
  refine zr_iload_n X d_B_takeOut_14 rfl ?_
  refine zr_callV X K_B_162 KI_B_162 KS_B_162 (c_M_going (by omega) (up_ne (by decide) (up_ne (by decide) h5)) (by omega) (up_ne (by decide) (up_ne (by decide) h6)) (by omega) (up_ne (by decide) (up_ne (by decide) h7)) (by decide) (by decide)) d_B_takeOut_15 (by omega) (up_ne (by decide) (up_ne (by decide) h5)) rfl rfl (by decide) (Nat.le_of_ble_eq_true rfl) (by decide) (st := []) rfl (kW ?_)
  show G 0 0 18 [some (.ref (q 0)), some (.int (nI p)), some (.int (nI c))] [] N q (va_up (va_up (va_up f 2 (.inl (cC, 2000, .inl (zclose tx p c sz)))) 1 (.inr (iR, [.ref (q 2), .int (nI (sz - c))]))) 6 (.inl (cI, 6, .inl (zst 6 (fun m => zgm (nI p) (nI c) (mp m)) mp))))
  refine zr_return Y d_B_takeOut_18 (Nat.le_of_ble_eq_true rfl) (Nat.le_of_ble_eq_true rfl) ?_
  exact ⟨rfl, rfl, rfl, rfl⟩

set_option maxRecDepth 100000 in
set_option maxHeartbeats 4000000 in
theorem c_B_stepOnTo_1 {l : Launch} {D : va_G} {cI cC cZ cV : ClassId} {N : Nat} {q : Nat → Nat} {f : zF} (hN : 23 ≤ N) {n ins jt : Nat} (h0 : f 0 = zbo q n ins jt) {sz : Nat} (h1 : f 1 = zrow q 2 sz) {tx : Nat → Int32} (h2 : f 2 = .inl (cC, 2000, .inl tx))  (h5 : f 5 = .inr (iM, [.ref (q 6), .ref (q 7)])) {mp : Nat → Int32} (h6 : f 6 = .inl (cI, 6, .inl mp)) {mr : Nat → Int32} (h7 : f 7 = .inl (cZ, 6, .inl mr)) {jp p c : Nat} {gp : Nat → Int32} (hjp : jp < N) (h23 : 23 ≤ jp) (hfp : f jp = .inl (cC, c, .inl gp)) (htx : zCh tx) (hgp : zCh gp) {jv num cc : Nat} {pr lat : Value} (hjv : jv < N) (hj23 : 23 ≤ jv) (hv : f jv = zver q num pr (nI 1) p jp cc lat) (hps : p ≤ sz) (hsz : sz + c ≤ 2000) : zC l y_B_stepOnTo b_B_stepOnTo 2 none (rmD 3 0 0) D (zty cI cC cZ cV) [.ref (q 0), .ref (q jv)] N q f (pW N q (va_up (va_up (va_up (va_up f 2 (.inl (cC, 2000, .inl (zopen tx gp p c sz)))) 1 (zrow q 2 (sz + c))) 6 (.inl (cI, 6, .inl (zst 6 (fun m => zcm (nI p) (nI c) (mp m) (mr m)) mp)))) 0 (zbo q n ins jv))) := by
  refine zC.of (by decide) (by simp [Value.category]) (Nat.le_of_ble_eq_true rfl) (fun G X Y => ?_)
  show G 0 0 0 [some (.ref (q 0)), some (.ref (q jv))] [] N q f
  refine zr_aload_n X d_B_stepOnTo_0 rfl ?_
  refine zr_get X F_B_135 d_B_stepOnTo_1 (by omega) hv (v := .int (nI 1)) rfl ?_
  refine zr_if_eqf (tgt := 22) X d_B_stepOnTo_4 rfl (by decide) ?_
  refine zr_aload_n X d_B_stepOnTo_7 rfl ?_
  refine zr_aload_n X d_B_stepOnTo_8 rfl ?_
  refine zr_get X F_B_139 d_B_stepOnTo_9 (by omega) hv (v := .int (nI p)) rfl ?_
  refine zr_aload_n X d_B_stepOnTo_12 rfl ?_
  refine zr_get X F_B_142 d_B_stepOnTo_13 (by omega) hv (v := .ref (q jp)) rfl ?_
  refine zr_callV X K_B_149 KI_B_149 KS_B_149 (c_B_putIn hN h0 h1 h2 h5 h6 h7 hjp h23 hfp htx hgp hps hsz) d_B_stepOnTo_16 (by omega) h0 rfl rfl (by decide) (Nat.le_of_ble_eq_true rfl) (by decide) (st := []) rfl (kW ?_)
  show G 0 0 19 [some (.ref (q 0)), some (.ref (q jv))] [] N q (va_up (va_up (va_up f 2 (.inl (cC, 2000, .inl (zopen tx gp p c sz)))) 1 (.inr (iR, [.ref (q 2), .int (nI (sz + c))]))) 6 (.inl (cI, 6, .inl (zst 6 (fun m => zcm (nI p) (nI c) (mp m) (mr m)) mp))))
  refine zr_goto (tgt := 35) X d_B_stepOnTo_19 rfl ?_
  refine zr_aload_n X d_B_stepOnTo_35 rfl ?_
  refine zr_aload_n X d_B_stepOnTo_36 rfl ?_
  refine zr_put (fs' := [.ref (q 1), .ref (q 3), .ref (q 5), .ref (q 8), .ref (q 9), .int (nI n), .int (nI ins), .ref (q jv)]) X F_B_40 d_B_stepOnTo_37 (by omega) (up_ne (by decide) (up_ne (by decide) (up_ne (by decide) h0))) rfl rfl (Nat.le_of_ble_eq_true rfl) rfl ?_
  refine zr_return Y d_B_stepOnTo_40 (Nat.le_of_ble_eq_true rfl) (Nat.le_of_ble_eq_true rfl) ?_
  exact ⟨rfl, rfl, rfl, rfl⟩

set_option maxRecDepth 100000 in
set_option maxHeartbeats 4000000 in
theorem c_B_stepBackTo_1 {l : Launch} {D : va_G} {cI cC cZ cV : ClassId} {N : Nat} {q : Nat → Nat} {f : zF} (hN : 23 ≤ N) {n ins jv : Nat} (h0 : f 0 = zbo q n ins jv) {sz : Nat} (h1 : f 1 = zrow q 2 sz) {tx : Nat → Int32} (h2 : f 2 = .inl (cC, 2000, .inl tx))  (h5 : f 5 = .inr (iM, [.ref (q 6), .ref (q 7)])) {mp : Nat → Int32} (h6 : f 6 = .inl (cI, 6, .inl mp)) {mr : Nat → Int32} (h7 : f 7 = .inl (cZ, 6, .inl mr)) {jp p c : Nat} {gp : Nat → Int32} (hjp : jp < N) (h23 : 23 ≤ jp) (hfp : f jp = .inl (cC, c, .inl gp)) (htx : zCh tx) (hgp : zCh gp) {num cc : Nat} {pr lat : Value} (hjv : jv < N) (hj23 : 23 ≤ jv) (hv : f jv = zver q num pr (nI 1) p jp cc lat) (hps : p + c ≤ sz) (hsz : sz ≤ 2000) {ju : Nat} : zC l y_B_stepBackTo b_B_stepBackTo 2 none (rmD 3 0 0) D (zty cI cC cZ cV) [.ref (q 0), .ref (q ju)] N q f (pW N q (va_up (va_up (va_up (va_up f 2 (.inl (cC, 2000, .inl (zclose tx p c sz)))) 1 (zrow q 2 (sz - c))) 6 (.inl (cI, 6, .inl (zst 6 (fun m => zgm (nI p) (nI c) (mp m)) mp)))) 0 (zbo q n ins ju))) := by
  refine zC.of (by decide) (by simp [Value.category]) (Nat.le_of_ble_eq_true rfl) (fun G X Y => ?_)
  show G 0 0 0 [some (.ref (q 0)), some (.ref (q ju))] [] N q f
  refine zr_aload_n X d_B_stepBackTo_0 rfl ?_
  refine zr_get X F_B_40 d_B_stepBackTo_1 (by omega) h0 (v := .ref (q jv)) rfl ?_
  refine zr_get X F_B_135 d_B_stepBackTo_4 (by omega) hv (v := .int (nI 1)) rfl ?_
  refine zr_if_eqf (tgt := 32) X d_B_stepBackTo_7 rfl (by decide) ?_
  refine zr_aload_n X d_B_stepBackTo_10 rfl ?_
  refine zr_aload_n X d_B_stepBackTo_11 rfl ?_
  refine zr_get X F_B_40 d_B_stepBackTo_12 (by omega) h0 (v := .ref (q jv)) rfl ?_
  refine zr_get X F_B_139 d_B_stepBackTo_15 (by omega) hv (v := .int (nI p)) rfl ?_
  refine zr_aload_n X d_B_stepBackTo_18 rfl ?_
  refine zr_get X F_B_40 d_B_stepBackTo_19 (by omega) h0 (v := .ref (q jv)) rfl ?_
  refine zr_get X F_B_142 d_B_stepBackTo_22 (by omega) hv (v := .ref (q jp)) rfl ?_
  refine zr_alen X 1 d_B_stepBackTo_25 (by omega) hfp rfl ?_
  refine zr_callV X K_B_145 KI_B_145 KS_B_145 (c_B_takeOut hN h0 h1 h2 h5 h6 h7 htx hps hsz) d_B_stepBackTo_26 (by omega) h0 rfl rfl (by decide) (Nat.le_of_ble_eq_true rfl) (by decide) (st := []) rfl (kW ?_)
  show G 0 0 29 [some (.ref (q 0)), some (.ref (q ju))] [] N q (va_up (va_up (va_up f 2 (.inl (cC, 2000, .inl (zclose tx p c sz)))) 1 (.inr (iR, [.ref (q 2), .int (nI (sz - c))]))) 6 (.inl (cI, 6, .inl (zst 6 (fun m => zgm (nI p) (nI c) (mp m)) mp))))
  refine zr_goto (tgt := 50) X d_B_stepBackTo_29 rfl ?_
  refine zr_aload_n X d_B_stepBackTo_50 rfl ?_
  refine zr_aload_n X d_B_stepBackTo_51 rfl ?_
  refine zr_put (fs' := [.ref (q 1), .ref (q 3), .ref (q 5), .ref (q 8), .ref (q 9), .int (nI n), .int (nI ins), .ref (q ju)]) X F_B_40 d_B_stepBackTo_52 (by omega) (up_ne (by decide) (up_ne (by decide) (up_ne (by decide) h0))) rfl rfl (Nat.le_of_ble_eq_true rfl) rfl ?_
  refine zr_return Y d_B_stepBackTo_55 (Nat.le_of_ble_eq_true rfl) (Nat.le_of_ble_eq_true rfl) ?_
  exact ⟨rfl, rfl, rfl, rfl⟩

set_option maxRecDepth 100000 in
set_option maxHeartbeats 4000000 in
theorem c_B_stepOnTo_0 {l : Launch} {D : va_G} {cI cC cZ cV : ClassId} {N : Nat} {q : Nat → Nat} {f : zF} (hN : 23 ≤ N) {n ins jt : Nat} (h0 : f 0 = zbo q n ins jt) {sz : Nat} (h1 : f 1 = zrow q 2 sz) {tx : Nat → Int32} (h2 : f 2 = .inl (cC, 2000, .inl tx))  (h5 : f 5 = .inr (iM, [.ref (q 6), .ref (q 7)])) {mp : Nat → Int32} (h6 : f 6 = .inl (cI, 6, .inl mp)) {mr : Nat → Int32} (h7 : f 7 = .inl (cZ, 6, .inl mr)) {jp p c : Nat} {gp : Nat → Int32} (hjp : jp < N) (h23 : 23 ≤ jp) (hfp : f jp = .inl (cC, c, .inl gp)) (htx : zCh tx) (hgp : zCh gp) {jv num cc : Nat} {pr lat : Value} (hjv : jv < N) (hj23 : 23 ≤ jv) (hv : f jv = zver q num pr (nI 0) p jp cc lat) (hps : p + c ≤ sz) (hsz : sz ≤ 2000) : zC l y_B_stepOnTo b_B_stepOnTo 2 none (rmD 3 0 0) D (zty cI cC cZ cV) [.ref (q 0), .ref (q jv)] N q f (pW N q (va_up (va_up (va_up (va_up f 2 (.inl (cC, 2000, .inl (zclose tx p c sz)))) 1 (zrow q 2 (sz - c))) 6 (.inl (cI, 6, .inl (zst 6 (fun m => zgm (nI p) (nI c) (mp m)) mp)))) 0 (zbo q n ins jv))) := by
  refine zC.of (by decide) (by simp [Value.category]) (Nat.le_of_ble_eq_true rfl) (fun G X Y => ?_)
  show G 0 0 0 [some (.ref (q 0)), some (.ref (q jv))] [] N q f
  refine zr_aload_n X d_B_stepOnTo_0 rfl ?_
  refine zr_get X F_B_135 d_B_stepOnTo_1 (by omega) hv (v := .int (nI 0)) rfl ?_
  refine zr_if_eqt (tgt := 22) X d_B_stepOnTo_4 rfl (by decide) ?_
  refine zr_aload_n X d_B_stepOnTo_22 rfl ?_
  refine zr_aload_n X d_B_stepOnTo_23 rfl ?_
  refine zr_get X F_B_139 d_B_stepOnTo_24 (by omega) hv (v := .int (nI p)) rfl ?_
  refine zr_aload_n X d_B_stepOnTo_27 rfl ?_
  refine zr_get X F_B_142 d_B_stepOnTo_28 (by omega) hv (v := .ref (q jp)) rfl ?_
  refine zr_alen X 1 d_B_stepOnTo_31 (by omega) hfp rfl ?_
  refine zr_callV X K_B_145 KI_B_145 KS_B_145 (c_B_takeOut hN h0 h1 h2 h5 h6 h7 htx hps hsz) d_B_stepOnTo_32 (by omega) h0 rfl rfl (by decide) (Nat.le_of_ble_eq_true rfl) (by decide) (st := []) rfl (kW ?_)
  show G 0 0 35 [some (.ref (q 0)), some (.ref (q jv))] [] N q (va_up (va_up (va_up f 2 (.inl (cC, 2000, .inl (zclose tx p c sz)))) 1 (.inr (iR, [.ref (q 2), .int (nI (sz - c))]))) 6 (.inl (cI, 6, .inl (zst 6 (fun m => zgm (nI p) (nI c) (mp m)) mp))))
  refine zr_aload_n X d_B_stepOnTo_35 rfl ?_
  refine zr_aload_n X d_B_stepOnTo_36 rfl ?_
  refine zr_put (fs' := [.ref (q 1), .ref (q 3), .ref (q 5), .ref (q 8), .ref (q 9), .int (nI n), .int (nI ins), .ref (q jv)]) X F_B_40 d_B_stepOnTo_37 (by omega) (up_ne (by decide) (up_ne (by decide) (up_ne (by decide) h0))) rfl rfl (Nat.le_of_ble_eq_true rfl) rfl ?_
  refine zr_return Y d_B_stepOnTo_40 (Nat.le_of_ble_eq_true rfl) (Nat.le_of_ble_eq_true rfl) ?_
  exact ⟨rfl, rfl, rfl, rfl⟩

set_option maxRecDepth 100000 in
set_option maxHeartbeats 4000000 in
theorem c_B_stepBackTo_0 {l : Launch} {D : va_G} {cI cC cZ cV : ClassId} {N : Nat} {q : Nat → Nat} {f : zF} (hN : 23 ≤ N) {n ins jv : Nat} (h0 : f 0 = zbo q n ins jv) {sz : Nat} (h1 : f 1 = zrow q 2 sz) {tx : Nat → Int32} (h2 : f 2 = .inl (cC, 2000, .inl tx))  (h5 : f 5 = .inr (iM, [.ref (q 6), .ref (q 7)])) {mp : Nat → Int32} (h6 : f 6 = .inl (cI, 6, .inl mp)) {mr : Nat → Int32} (h7 : f 7 = .inl (cZ, 6, .inl mr)) {jp p c : Nat} {gp : Nat → Int32} (hjp : jp < N) (h23 : 23 ≤ jp) (hfp : f jp = .inl (cC, c, .inl gp)) (htx : zCh tx) (hgp : zCh gp) {num cc : Nat} {pr lat : Value} (hjv : jv < N) (hj23 : 23 ≤ jv) (hv : f jv = zver q num pr (nI 0) p jp cc lat) (hps : p ≤ sz) (hsz : sz + c ≤ 2000) {ju : Nat} : zC l y_B_stepBackTo b_B_stepBackTo 2 none (rmD 3 0 0) D (zty cI cC cZ cV) [.ref (q 0), .ref (q ju)] N q f (pW N q (va_up (va_up (va_up (va_up f 2 (.inl (cC, 2000, .inl (zopen tx gp p c sz)))) 1 (zrow q 2 (sz + c))) 6 (.inl (cI, 6, .inl (zst 6 (fun m => zcm (nI p) (nI c) (mp m) (mr m)) mp)))) 0 (zbo q n ins ju))) := by
  refine zC.of (by decide) (by simp [Value.category]) (Nat.le_of_ble_eq_true rfl) (fun G X Y => ?_)
  show G 0 0 0 [some (.ref (q 0)), some (.ref (q ju))] [] N q f
  refine zr_aload_n X d_B_stepBackTo_0 rfl ?_
  refine zr_get X F_B_40 d_B_stepBackTo_1 (by omega) h0 (v := .ref (q jv)) rfl ?_
  refine zr_get X F_B_135 d_B_stepBackTo_4 (by omega) hv (v := .int (nI 0)) rfl ?_
  refine zr_if_eqt (tgt := 32) X d_B_stepBackTo_7 rfl (by decide) ?_
  refine zr_aload_n X d_B_stepBackTo_32 rfl ?_
  refine zr_aload_n X d_B_stepBackTo_33 rfl ?_
  refine zr_get X F_B_40 d_B_stepBackTo_34 (by omega) h0 (v := .ref (q jv)) rfl ?_
  refine zr_get X F_B_139 d_B_stepBackTo_37 (by omega) hv (v := .int (nI p)) rfl ?_
  refine zr_aload_n X d_B_stepBackTo_40 rfl ?_
  refine zr_get X F_B_40 d_B_stepBackTo_41 (by omega) h0 (v := .ref (q jv)) rfl ?_
  refine zr_get X F_B_142 d_B_stepBackTo_44 (by omega) hv (v := .ref (q jp)) rfl ?_
  refine zr_callV X K_B_149 KI_B_149 KS_B_149 (c_B_putIn hN h0 h1 h2 h5 h6 h7 hjp h23 hfp htx hgp hps hsz) d_B_stepBackTo_47 (by omega) h0 rfl rfl (by decide) (Nat.le_of_ble_eq_true rfl) (by decide) (st := []) rfl (kW ?_)
  show G 0 0 50 [some (.ref (q 0)), some (.ref (q ju))] [] N q (va_up (va_up (va_up f 2 (.inl (cC, 2000, .inl (zopen tx gp p c sz)))) 1 (.inr (iR, [.ref (q 2), .int (nI (sz + c))]))) 6 (.inl (cI, 6, .inl (zst 6 (fun m => zcm (nI p) (nI c) (mp m) (mr m)) mp))))
  refine zr_aload_n X d_B_stepBackTo_50 rfl ?_
  refine zr_aload_n X d_B_stepBackTo_51 rfl ?_
  refine zr_put (fs' := [.ref (q 1), .ref (q 3), .ref (q 5), .ref (q 8), .ref (q 9), .int (nI n), .int (nI ins), .ref (q ju)]) X F_B_40 d_B_stepBackTo_52 (by omega) (up_ne (by decide) (up_ne (by decide) (up_ne (by decide) h0))) rfl rfl (Nat.le_of_ble_eq_true rfl) rfl ?_
  refine zr_return Y d_B_stepBackTo_55 (Nat.le_of_ble_eq_true rfl) (Nat.le_of_ble_eq_true rfl) ?_
  exact ⟨rfl, rfl, rfl, rfl⟩

theorem c_B_stepOnTo {l : Launch} {D : va_G} {cI cC cZ cV : ClassId} {N : Nat} {q : Nat → Nat} {f : zF} (hN : 23 ≤ N) {n ins jt : Nat} (h0 : f 0 = zbo q n ins jt) {sz : Nat} (h1 : f 1 = zrow q 2 sz) {tx : Nat → Int32} (h2 : f 2 = .inl (cC, 2000, .inl tx))  (h5 : f 5 = .inr (iM, [.ref (q 6), .ref (q 7)])) {mp : Nat → Int32} (h6 : f 6 = .inl (cI, 6, .inl mp)) {mr : Nat → Int32} (h7 : f 7 = .inl (cZ, 6, .inl mr)) {jp p c : Nat} {gp : Nat → Int32} (hjp : jp < N) (h23 : 23 ≤ jp) (hfp : f jp = .inl (cC, c, .inl gp)) (htx : zCh tx) (hgp : zCh gp) {jv num cc : Nat} {pr lat : Value} {b : Bool} (hjv : jv < N) (hj23 : 23 ≤ jv) (hv : f jv = zver q num pr (zbi b) p jp cc lat) (hok : zoK b p c sz) : zC l y_B_stepOnTo b_B_stepOnTo 2 none (rmD 3 0 0) D (zty cI cC cZ cV) [.ref (q 0), .ref (q jv)] N q f (pW N q (va_up (va_up (va_up (va_up f 2 (.inl (cC, 2000, .inl (zoT b tx gp p c sz)))) 1 (zrow q 2 (zoS b sz c))) 6 (.inl (cI, 6, .inl (zoM b p c mp mr)))) 0 (zbo q n ins jv))) := by
  cases b with
  | true => exact c_B_stepOnTo_1 hN h0 h1 h2 h5 h6 h7 hjp h23 hfp htx hgp hjv hj23 hv hok.1 hok.2
  | false => exact c_B_stepOnTo_0 hN h0 h1 h2 h5 h6 h7 hjp h23 hfp htx hgp hjv hj23 hv hok.1 hok.2

theorem c_B_stepBackTo {l : Launch} {D : va_G} {cI cC cZ cV : ClassId} {N : Nat} {q : Nat → Nat} {f : zF} (hN : 23 ≤ N) {n ins jv : Nat} (h0 : f 0 = zbo q n ins jv) {sz : Nat} (h1 : f 1 = zrow q 2 sz) {tx : Nat → Int32} (h2 : f 2 = .inl (cC, 2000, .inl tx))  (h5 : f 5 = .inr (iM, [.ref (q 6), .ref (q 7)])) {mp : Nat → Int32} (h6 : f 6 = .inl (cI, 6, .inl mp)) {mr : Nat → Int32} (h7 : f 7 = .inl (cZ, 6, .inl mr)) {jp p c : Nat} {gp : Nat → Int32} (hjp : jp < N) (h23 : 23 ≤ jp) (hfp : f jp = .inl (cC, c, .inl gp)) (htx : zCh tx) (hgp : zCh gp) {num cc : Nat} {pr lat : Value} {b : Bool} (hjv : jv < N) (hj23 : 23 ≤ jv) (hv : f jv = zver q num pr (zbi b) p jp cc lat) (hok : zoK (!b) p c sz) {ju : Nat} : zC l y_B_stepBackTo b_B_stepBackTo 2 none (rmD 3 0 0) D (zty cI cC cZ cV) [.ref (q 0), .ref (q ju)] N q f (pW N q (va_up (va_up (va_up (va_up f 2 (.inl (cC, 2000, .inl (zoT (!b) tx gp p c sz)))) 1 (zrow q 2 (zoS (!b) sz c))) 6 (.inl (cI, 6, .inl (zoM (!b) p c mp mr)))) 0 (zbo q n ins ju))) := by
  cases b with
  | true => exact c_B_stepBackTo_1 hN h0 h1 h2 h5 h6 h7 hjp h23 hfp htx hgp hjv hj23 hv hok.1 hok.2
  | false => exact c_B_stepBackTo_0 hN h0 h1 h2 h5 h6 h7 hjp h23 hfp htx hgp hjv hj23 hv hok.1 hok.2

set_option maxRecDepth 100000 in
set_option maxHeartbeats 4000000 in
theorem c_B_undo_0 {l : Launch} {D : va_G} {cI cC cZ cV : ClassId} {N : Nat} {q : Nat → Nat} {f : zF} (hN : 23 ≤ N) {n ins jv : Nat} (h0 : f 0 = zbo q n ins jv) {num at_ jp cc : Nat} {com : Int32} {lat : Value} (hjv : jv < N) (hv : f jv = zver q num .null com at_ jp cc lat) : zC l y_B_undo b_B_undo 2 (some .int) (rmD 4 0 0) D (zty cI cC cZ cV) [.ref (q 0)] N q f (pRd N q f (-1)) := by
  refine zC.of (by decide) (by simp [Value.category]) (Nat.le_of_ble_eq_true rfl) (fun G X Y => ?_)
  show G 0 0 0 [some (.ref (q 0)), none] [] N q f
  refine zr_aload_n X d_B_undo_0 rfl ?_
  refine zr_get X F_B_40 d_B_undo_1 (by omega) h0 (v := .ref (q jv)) rfl ?_
  refine zr_get X F_B_84 d_B_undo_4 (by omega) hv (v := .null) rfl ?_
  refine zr_astore_nN (lv' := [some (.ref (q 0)), some (.null)]) X d_B_undo_7 (by decide) rfl ?_
  refine zr_aload_nN X d_B_undo_8 rfl ?_
  refine zr_ifnonnullN X d_B_undo_9 ?_
  refine zr_iconst (v := (-1)) X d_B_undo_12 (by decide) ?_
  refine zr_ireturn Y d_B_undo_13 rfl (Nat.le_of_ble_eq_true rfl) (Nat.le_of_ble_eq_true rfl) ?_
  exact ⟨rfl, rfl, rfl, rfl⟩

set_option maxRecDepth 100000 in
set_option maxHeartbeats 4000000 in
theorem c_B_redo_0 {l : Launch} {D : va_G} {cI cC cZ cV : ClassId} {N : Nat} {q : Nat → Nat} {f : zF} (hN : 23 ≤ N) {n ins jv : Nat} (h0 : f 0 = zbo q n ins jv) {num at_ jp cc : Nat} {com : Int32} {pr : Value} (hjv : jv < N) (hv : f jv = zver q num pr com at_ jp cc .null) : zC l y_B_redo b_B_redo 2 (some .int) (rmD 4 0 0) D (zty cI cC cZ cV) [.ref (q 0)] N q f (pRd N q f (-1)) := by
  refine zC.of (by decide) (by simp [Value.category]) (Nat.le_of_ble_eq_true rfl) (fun G X Y => ?_)
  show G 0 0 0 [some (.ref (q 0)), none] [] N q f
  refine zr_aload_n X d_B_redo_0 rfl ?_
  refine zr_get X F_B_40 d_B_redo_1 (by omega) h0 (v := .ref (q jv)) rfl ?_
  refine zr_get X F_B_94 d_B_redo_4 (by omega) hv (v := .null) rfl ?_
  refine zr_astore_nN (lv' := [some (.ref (q 0)), some (.null)]) X d_B_redo_7 (by decide) rfl ?_
  refine zr_aload_nN X d_B_redo_8 rfl ?_
  refine zr_ifnonnullN X d_B_redo_9 ?_
  refine zr_iconst (v := (-1)) X d_B_redo_12 (by decide) ?_
  refine zr_ireturn Y d_B_redo_13 rfl (Nat.le_of_ble_eq_true rfl) (Nat.le_of_ble_eq_true rfl) ?_
  exact ⟨rfl, rfl, rfl, rfl⟩

set_option maxRecDepth 100000 in
set_option maxHeartbeats 4000000 in
theorem c_B_undo_y {l : Launch} {D : va_G} {cI cC cZ cV : ClassId} {N : Nat} {q : Nat → Nat} {f : zF} (hN : 23 ≤ N) {n ins jv : Nat} (h0 : f 0 = zbo q n ins jv) {sz : Nat} (h1 : f 1 = zrow q 2 sz) {tx : Nat → Int32} (h2 : f 2 = .inl (cC, 2000, .inl tx))  (h5 : f 5 = .inr (iM, [.ref (q 6), .ref (q 7)])) {mp : Nat → Int32} (h6 : f 6 = .inl (cI, 6, .inl mp)) {mr : Nat → Int32} (h7 : f 7 = .inl (cZ, 6, .inl mr)) {jp p c : Nat} {gp : Nat → Int32} (hjp : jp < N) (h23 : 23 ≤ jp) (hfp : f jp = .inl (cC, c, .inl gp)) (htx : zCh tx) (hgp : zCh gp) {num cc : Nat} {lat : Value} {b : Bool} {ju : Nat} (hjv : jv < N) (hj23 : 23 ≤ jv) (hv : f jv = zver q num (.ref (q ju)) (zbi b) p jp cc lat) (hok : zoK (!b) p c sz) {num1 at1 jp1 cc1 : Nat} {com1 : Int32} {pr1 lat1 : Value} (hju : ju < N) (hju23 : 23 ≤ ju) (hu : f ju = zver q num1 pr1 com1 at1 jp1 cc1 lat1) : zC l y_B_undo b_B_undo 2 (some .int) (rmD 4 0 0) D (zty cI cC cZ cV) [.ref (q 0)] N q f (fun v N' q' f' => v = some (.int (nI num1)) ∧ N' = N ∧ q' = q ∧ f' = va_up (va_up (va_up (va_up f 2 (.inl (cC, 2000, .inl (zoT (!b) tx gp p c sz)))) 1 (zrow q 2 (zoS (!b) sz c))) 6 (.inl (cI, 6, .inl (zoM (!b) p c mp mr)))) 0 (zbo q n ins ju)) := by
  refine zC.of (by decide) (by simp [Value.category]) (Nat.le_of_ble_eq_true rfl) (fun G X Y => ?_)
  show G 0 0 0 [some (.ref (q 0)), none] [] N q f
  refine zr_aload_n X d_B_undo_0 rfl ?_
  refine zr_get X F_B_40 d_B_undo_1 (by omega) h0 (v := .ref (q jv)) rfl ?_
  refine zr_get X F_B_84 d_B_undo_4 (by omega) hv (v := .ref (q ju)) rfl ?_
  refine zr_astore_n (lv' := [some (.ref (q 0)), some (.ref (q ju))]) X d_B_undo_7 (by decide) rfl ?_
  refine zr_aload_n X d_B_undo_8 rfl ?_
  refine zr_ifnonnull (tgt := 14) X d_B_undo_9 rfl ?_
  refine zr_aload_n X d_B_undo_14 rfl ?_
  refine zr_aload_n X d_B_undo_15 rfl ?_
  refine zr_callV X K_B_87 KI_B_87 KS_B_87 (c_B_stepBackTo hN h0 h1 h2 h5 h6 h7 hjp h23 hfp htx hgp hjv hj23 hv hok) d_B_undo_16 (by omega) h0 rfl rfl (by decide) (Nat.le_of_ble_eq_true rfl) (by decide) (st := []) rfl (kW ?_)
  show G 0 0 19 [some (.ref (q 0)), some (.ref (q ju))] [] N q (va_up (va_up (va_up (va_up f 2 (.inl (cC, 2000, .inl (zoT (!b) tx gp p c sz)))) 1 (.inr (iR, [.ref (q 2), .int (nI (zoS (!b) sz c))]))) 6 (.inl (cI, 6, .inl (zoM (!b) p c mp mr)))) 0 (.inr (iB, [.ref (q 1), .ref (q 3), .ref (q 5), .ref (q 8), .ref (q 9), .int (nI n), .int (nI ins), .ref (q ju)])))
  refine zr_aload_n X d_B_undo_19 rfl ?_
  refine zr_get X F_B_40 d_B_undo_20 (by omega) up_eq (v := .ref (q ju)) rfl ?_
  refine zr_get X F_B_91 d_B_undo_23 (by omega) (up_ne (by omega) (up_ne (by omega) (up_ne (by omega) (up_ne (by omega) hu)))) (v := .int (nI num1)) rfl ?_
  refine zr_ireturn Y d_B_undo_26 rfl (Nat.le_of_ble_eq_true rfl) (Nat.le_of_ble_eq_true rfl) ?_
  exact ⟨rfl, rfl, rfl, rfl⟩

set_option maxRecDepth 100000 in
set_option maxHeartbeats 4000000 in
theorem c_B_redo_y {l : Launch} {D : va_G} {cI cC cZ cV : ClassId} {N : Nat} {q : Nat → Nat} {f : zF} (hN : 23 ≤ N) {n ins jv : Nat} (h0 : f 0 = zbo q n ins jv) {sz : Nat} (h1 : f 1 = zrow q 2 sz) {tx : Nat → Int32} (h2 : f 2 = .inl (cC, 2000, .inl tx))  (h5 : f 5 = .inr (iM, [.ref (q 6), .ref (q 7)])) {mp : Nat → Int32} (h6 : f 6 = .inl (cI, 6, .inl mp)) {mr : Nat → Int32} (h7 : f 7 = .inl (cZ, 6, .inl mr)) {jp p c : Nat} {gp : Nat → Int32} (hjp : jp < N) (h23 : 23 ≤ jp) (hfp : f jp = .inl (cC, c, .inl gp)) (htx : zCh tx) (hgp : zCh gp) {num cc : Nat} {pr : Value} {com : Int32} {at_ jp9 ju : Nat} (hjv : jv < N) (hj23 : 23 ≤ jv) (hv : f jv = zver q num pr com at_ jp9 cc (.ref (q ju))) {num1 cc1 : Nat} {b : Bool} {pr1 lat1 : Value} (hju : ju < N) (hju23 : 23 ≤ ju) (hu : f ju = zver q num1 pr1 (zbi b) p jp cc1 lat1) (hok : zoK b p c sz) : zC l y_B_redo b_B_redo 2 (some .int) (rmD 4 0 0) D (zty cI cC cZ cV) [.ref (q 0)] N q f (fun v N' q' f' => v = some (.int (nI num1)) ∧ N' = N ∧ q' = q ∧ f' = va_up (va_up (va_up (va_up f 2 (.inl (cC, 2000, .inl (zoT b tx gp p c sz)))) 1 (zrow q 2 (zoS b sz c))) 6 (.inl (cI, 6, .inl (zoM b p c mp mr)))) 0 (zbo q n ins ju)) := by
  refine zC.of (by decide) (by simp [Value.category]) (Nat.le_of_ble_eq_true rfl) (fun G X Y => ?_)
  show G 0 0 0 [some (.ref (q 0)), none] [] N q f
  refine zr_aload_n X d_B_redo_0 rfl ?_
  refine zr_get X F_B_40 d_B_redo_1 (by omega) h0 (v := .ref (q jv)) rfl ?_
  refine zr_get X F_B_94 d_B_redo_4 (by omega) hv (v := .ref (q ju)) rfl ?_
  refine zr_astore_n (lv' := [some (.ref (q 0)), some (.ref (q ju))]) X d_B_redo_7 (by decide) rfl ?_
  refine zr_aload_n X d_B_redo_8 rfl ?_
  refine zr_ifnonnull (tgt := 14) X d_B_redo_9 rfl ?_
  refine zr_aload_n X d_B_redo_14 rfl ?_
  refine zr_aload_n X d_B_redo_15 rfl ?_
  refine zr_callV X K_B_97 KI_B_97 KS_B_97 (c_B_stepOnTo hN h0 h1 h2 h5 h6 h7 hjp h23 hfp htx hgp hju hju23 hu hok) d_B_redo_16 (by omega) h0 rfl rfl (by decide) (Nat.le_of_ble_eq_true rfl) (by decide) (st := []) rfl (kW ?_)
  show G 0 0 19 [some (.ref (q 0)), some (.ref (q ju))] [] N q (va_up (va_up (va_up (va_up f 2 (.inl (cC, 2000, .inl (zoT b tx gp p c sz)))) 1 (.inr (iR, [.ref (q 2), .int (nI (zoS b sz c))]))) 6 (.inl (cI, 6, .inl (zoM b p c mp mr)))) 0 (.inr (iB, [.ref (q 1), .ref (q 3), .ref (q 5), .ref (q 8), .ref (q 9), .int (nI n), .int (nI ins), .ref (q ju)])))
  refine zr_aload_n X d_B_redo_19 rfl ?_
  refine zr_get X F_B_40 d_B_redo_20 (by omega) up_eq (v := .ref (q ju)) rfl ?_
  refine zr_get X F_B_91 d_B_redo_23 (by omega) (up_ne (by omega) (up_ne (by omega) (up_ne (by omega) (up_ne (by omega) hu)))) (v := .int (nI num1)) rfl ?_
  refine zr_ireturn Y d_B_redo_26 rfl (Nat.le_of_ble_eq_true rfl) (Nat.le_of_ble_eq_true rfl) ?_
  exact ⟨rfl, rfl, rfl, rfl⟩
end
section
theorem zbi_n {b : Bool} : narrow .boolean (.int (zbi b)) = .int (zbi b) := by cases b <;> rfl
theorem zbi_f {b : Bool} : fits .boolean (.int (zbi b)) = true := by cases b <;> rfl

set_option maxRecDepth 100000 in
set_option maxHeartbeats 4000000 in
theorem c_V_init_null {l : Launch} {D : va_G} {cI cC cZ cV : ClassId} {N : Nat} {q : Nat → Nat} {f : zF} {j num p jp : Nat} {b : Bool} (hj : j < N) (hf : f j = .inr (iV, [.int 0, .null, .int 0, .int 0, .null, .int 0, .null])) : zC l y_V_init b_V_init 6 none (rmD 1 0 0) D (zty cI cC cZ cV) [.ref (q j), .int (nI num), .null, .int (zbi b), .int (nI p), .ref (q jp)] N q f (pW N q (va_up f j (zver q num (.null) (zbi b) p jp 0 .null))) := by
  refine zC.of (by decide) (by simp [Value.category]) (Nat.le_of_ble_eq_true rfl) (fun G X Y => ?_)
  show G 0 0 0 [some (.ref (q j)), some (.int (nI num)), some (.null), some (.int (zbi b)), some (.int (nI p)), some (.ref (q jp))] [] N q f
  refine zr_aload_n X d_V_init_0 rfl ?_
  refine zr_objInit X OI_V_1 d_V_init_1 (by decide) (Nat.le_of_ble_eq_true rfl) ?_
  refine zr_aload_n X d_V_init_4 rfl ?_
  refine zr_iload_n X d_V_init_5 rfl ?_
  refine zr_putF (fs' := [.int (nI num), .null, .int 0, .int 0, .null, .int 0, .null]) X F_V_7 rfl d_V_init_6 hj hf rfl rfl (Nat.le_of_ble_eq_true rfl) rfl ?_
  refine zr_aload_n X d_V_init_9 rfl ?_
  refine zr_aload_nN X d_V_init_10 rfl ?_
  refine zr_putF (fs' := [.int (nI num), .null, .int 0, .int 0, .null, .int 0, .null]) X F_V_13 rfl d_V_init_11 hj up_eq rfl rfl (Nat.le_of_ble_eq_true rfl) rfl ?_
  refine zr_aload_n X d_V_init_14 rfl ?_
  refine zr_iload_n X d_V_init_15 rfl ?_
  refine zr_putF (fs' := [.int (nI num), .null, .int (zbi b), .int 0, .null, .int 0, .null]) X F_V_17 rfl d_V_init_16 hj up_eq zbi_n zbi_f (Nat.le_of_ble_eq_true rfl) rfl ?_
  refine zr_aload_n X d_V_init_19 rfl ?_
  refine zr_iload X d_V_init_20 rfl ?_
  refine zr_putF (fs' := [.int (nI num), .null, .int (zbi b), .int (nI p), .null, .int 0, .null]) X F_V_21 rfl d_V_init_22 hj up_eq rfl rfl (Nat.le_of_ble_eq_true rfl) rfl ?_
  refine zr_aload_n X d_V_init_25 rfl ?_
  refine zr_aload X d_V_init_26 rfl ?_
  refine zr_putF (fs' := [.int (nI num), .null, .int (zbi b), .int (nI p), .ref (q jp), .int 0, .null]) X F_V_24 rfl d_V_init_28 hj up_eq rfl rfl (Nat.le_of_ble_eq_true rfl) rfl ?_
  refine zr_aload_n X d_V_init_31 rfl ?_
  refine zr_iconst (v := nI 0) X d_V_init_32 (by decide) ?_
  refine zr_put (fs' := [.int (nI num), .null, .int (zbi b), .int (nI p), .ref (q jp), .int (nI 0), .null]) X F_V_28 d_V_init_33 hj up_eq rfl rfl (Nat.le_of_ble_eq_true rfl) rfl ?_
  refine zr_aload_n X d_V_init_36 rfl ?_
  refine zr_null X d_V_init_37 ?_
  refine zr_put (fs' := [.int (nI num), .null, .int (zbi b), .int (nI p), .ref (q jp), .int (nI 0), .null]) X F_V_31 d_V_init_38 hj up_eq rfl rfl (Nat.le_of_ble_eq_true rfl) rfl ?_
  refine zr_return Y d_V_init_41 (Nat.le_of_ble_eq_true rfl) (Nat.le_of_ble_eq_true rfl) ?_
  exact ⟨rfl, rfl, rfl, by simp only [bx_uu]⟩

set_option maxRecDepth 100000 in
set_option maxHeartbeats 4000000 in
theorem c_V_init_ref {l : Launch} {D : va_G} {cI cC cZ cV : ClassId} {N : Nat} {q : Nat → Nat} {f : zF} {j num p jp : Nat} {b : Bool} {x : Nat} (hj : j < N) (hf : f j = .inr (iV, [.int 0, .null, .int 0, .int 0, .null, .int 0, .null])) : zC l y_V_init b_V_init 6 none (rmD 1 0 0) D (zty cI cC cZ cV) [.ref (q j), .int (nI num), .ref x, .int (zbi b), .int (nI p), .ref (q jp)] N q f (pW N q (va_up f j (zver q num (.ref x) (zbi b) p jp 0 .null))) := by
  refine zC.of (by decide) (by simp [Value.category]) (Nat.le_of_ble_eq_true rfl) (fun G X Y => ?_)
  show G 0 0 0 [some (.ref (q j)), some (.int (nI num)), some (.ref x), some (.int (zbi b)), some (.int (nI p)), some (.ref (q jp))] [] N q f
  refine zr_aload_n X d_V_init_0 rfl ?_
  refine zr_objInit X OI_V_1 d_V_init_1 (by decide) (Nat.le_of_ble_eq_true rfl) ?_
  refine zr_aload_n X d_V_init_4 rfl ?_
  refine zr_iload_n X d_V_init_5 rfl ?_
  refine zr_putF (fs' := [.int (nI num), .null, .int 0, .int 0, .null, .int 0, .null]) X F_V_7 rfl d_V_init_6 hj hf rfl rfl (Nat.le_of_ble_eq_true rfl) rfl ?_
  refine zr_aload_n X d_V_init_9 rfl ?_
  refine zr_aload_n X d_V_init_10 rfl ?_
  refine zr_putF (fs' := [.int (nI num), .ref x, .int 0, .int 0, .null, .int 0, .null]) X F_V_13 rfl d_V_init_11 hj up_eq rfl rfl (Nat.le_of_ble_eq_true rfl) rfl ?_
  refine zr_aload_n X d_V_init_14 rfl ?_
  refine zr_iload_n X d_V_init_15 rfl ?_
  refine zr_putF (fs' := [.int (nI num), .ref x, .int (zbi b), .int 0, .null, .int 0, .null]) X F_V_17 rfl d_V_init_16 hj up_eq zbi_n zbi_f (Nat.le_of_ble_eq_true rfl) rfl ?_
  refine zr_aload_n X d_V_init_19 rfl ?_
  refine zr_iload X d_V_init_20 rfl ?_
  refine zr_putF (fs' := [.int (nI num), .ref x, .int (zbi b), .int (nI p), .null, .int 0, .null]) X F_V_21 rfl d_V_init_22 hj up_eq rfl rfl (Nat.le_of_ble_eq_true rfl) rfl ?_
  refine zr_aload_n X d_V_init_25 rfl ?_
  refine zr_aload X d_V_init_26 rfl ?_
  refine zr_putF (fs' := [.int (nI num), .ref x, .int (zbi b), .int (nI p), .ref (q jp), .int 0, .null]) X F_V_24 rfl d_V_init_28 hj up_eq rfl rfl (Nat.le_of_ble_eq_true rfl) rfl ?_
  refine zr_aload_n X d_V_init_31 rfl ?_
  refine zr_iconst (v := nI 0) X d_V_init_32 (by decide) ?_
  refine zr_put (fs' := [.int (nI num), .ref x, .int (zbi b), .int (nI p), .ref (q jp), .int (nI 0), .null]) X F_V_28 d_V_init_33 hj up_eq rfl rfl (Nat.le_of_ble_eq_true rfl) rfl ?_
  refine zr_aload_n X d_V_init_36 rfl ?_
  refine zr_null X d_V_init_37 ?_
  refine zr_put (fs' := [.int (nI num), .ref x, .int (zbi b), .int (nI p), .ref (q jp), .int (nI 0), .null]) X F_V_31 d_V_init_38 hj up_eq rfl rfl (Nat.le_of_ble_eq_true rfl) rfl ?_
  refine zr_return Y d_V_init_41 (Nat.le_of_ble_eq_true rfl) (Nat.le_of_ble_eq_true rfl) ?_
  exact ⟨rfl, rfl, rfl, by simp only [bx_uu]⟩

set_option maxRecDepth 100000 in
set_option maxHeartbeats 4000000 in
theorem c_B_makeChild {l : Launch} {D : va_G} {cI cC cZ cV : ClassId} {N : Nat} {q : Nat → Nat} {f : zF} (hN : 23 ≤ N) {n ins jt : Nat} (h0 : f 0 = zbo q n ins jt) {sz : Nat} (h1 : f 1 = zrow q 2 sz) {tx : Nat → Int32} (h2 : f 2 = .inl (cC, 2000, .inl tx))  (h5 : f 5 = .inr (iM, [.ref (q 6), .ref (q 7)])) {mp : Nat → Int32} (h6 : f 6 = .inl (cI, 6, .inl mp)) {mr : Nat → Int32} (h7 : f 7 = .inl (cZ, 6, .inl mr)) {md : Nat → Option Nat} (h8 : f 8 = .inl (cV, 122, .inr (.inr (.inr (.inr md))))) {jp p c : Nat} {gp : Nat → Int32} (hjp : jp < N) (h23 : 23 ≤ jp) (hfp : f jp = .inl (cC, c, .inl gp)) (htx : zCh tx) (hgp : zCh gp) {num cc at_ jp9 : Nat} {com : Int32} {pr lat : Value} {b : Bool} (hjt : jt < N) (hjt23 : 23 ≤ jt) (hjp9 : jp9 < N) (hne : jp ≠ jt) (hv : f jt = zver q num pr com at_ jp9 cc lat) (hok : zoK b p c sz) (hn : n < 122) : zC l y_B_makeChild b_B_makeChild 5 (some .int) (rmD 4 1 7) D (zty cI cC cZ cV) [.ref (q 0), .int (zbi b), .int (nI p), .ref (q jp)] N q f (fun v N' q' f' => v = some (.int (nI n)) ∧ N' = N + 1 ∧ (∃ a, q' = va_up q N a) ∧ f' N = zver q' n (.ref (q' jt)) (zbi b) p jp 0 .null ∧ f' 8 = .inl (cV, 122, .inr (.inr (.inr (.inr (va_up md n (some (q' N))))))) ∧ f' 0 = zbo q' (n + 1) ins N ∧ f' jt = zver q' num pr com at_ jp9 (cc + 1) (.ref (q' N)) ∧ f' 2 = .inl (cC, 2000, .inl (zoT b tx gp p c sz)) ∧ f' 1 = zrow q' 2 (zoS b sz c) ∧ f' 6 = .inl (cI, 6, .inl (zoM b p c mp mr)) ∧ ∀ jj, jj < N → 2 < jj → jj ≠ 6 → jj ≠ 8 → jj ≠ jt → f' jj = f jj) := by
  refine zC.of (by decide) (by simp [Value.category]) (Nat.le_of_ble_eq_true rfl) (fun G X Y => ?_)
  show G 0 0 0 [some (.ref (q 0)), some (.int (zbi b)), some (.int (nI p)), some (.ref (q jp)), none] [] N q f
  refine zr_new X NW_B_28 d_B_makeChild_0 (by decide) (by decide) (fun a1 => ?_)
  generalize hq1 : va_up q N a1 = q1
  have e1_1 : q 1 = q1 1 := by rw [← hq1, up_ne' (by omega)]
  have e1_3 : q 3 = q1 3 := by rw [← hq1, up_ne' (by omega)]
  have e1_5 : q 5 = q1 5 := by rw [← hq1, up_ne' (by omega)]
  have e1_8 : q 8 = q1 8 := by rw [← hq1, up_ne' (by omega)]
  have e1_9 : q 9 = q1 9 := by rw [← hq1, up_ne' (by omega)]
  have e1_jt : q jt = q1 jt := by rw [← hq1, up_ne' (by omega)]
  have e1_2 : q 2 = q1 2 := by rw [← hq1, up_ne' (by omega)]
  have e1_6 : q 6 = q1 6 := by rw [← hq1, up_ne' (by omega)]
  have e1_7 : q 7 = q1 7 := by rw [← hq1, up_ne' (by omega)]
  have e1_jp9 : q jp9 = q1 jp9 := by rw [← hq1, up_ne' (by omega)]
  have e1_0 : q 0 = q1 0 := by rw [← hq1, up_ne' (by omega)]
  have e1_jp : q jp = q1 jp := by rw [← hq1, up_ne' (by omega)]
  have e1_n : a1 = q1 N := by rw [← hq1, up_eq]
  simp only [zbo, zrow, zver, e1_1, e1_3, e1_5, e1_8, e1_9, e1_jt, e1_2, e1_6, e1_7, e1_jp9, e1_0, e1_jp] at h0
  simp only [zbo, zrow, zver, e1_1, e1_3, e1_5, e1_8, e1_9, e1_jt, e1_2, e1_6, e1_7, e1_jp9, e1_0, e1_jp] at h1
  simp only [zbo, zrow, zver, e1_1, e1_3, e1_5, e1_8, e1_9, e1_jt, e1_2, e1_6, e1_7, e1_jp9, e1_0, e1_jp] at h5
  simp only [zbo, zrow, zver, e1_1, e1_3, e1_5, e1_8, e1_9, e1_jt, e1_2, e1_6, e1_7, e1_jp9, e1_0, e1_jp] at hv
  try simp only [e1_1, e1_3, e1_5, e1_8, e1_9, e1_jt, e1_2, e1_6, e1_7, e1_jp9, e1_0, e1_jp]
  rw [e1_n]
  show G (0 + 1) (0 + 7) 3 [some (.ref (q1 0)), some (.int (zbi b)), some (.int (nI p)), some (.ref (q1 jp)), none] [.ref (q1 N)] (N + 1) q1 (va_up f N (.inr (iV, [.int 0, .null, .int 0, .int 0, .null, .int 0, .null])))
  refine zr_dup X d_B_makeChild_3 rfl ?_
  refine zr_aload_n X d_B_makeChild_4 rfl ?_
  refine zr_get X F_B_44 d_B_makeChild_5 (by omega) (up_ne (by omega) h0) (v := .int (nI n)) rfl ?_
  refine zr_aload_n X d_B_makeChild_8 rfl ?_
  refine zr_get X F_B_40 d_B_makeChild_9 (by omega) (up_ne (by omega) h0) (v := .ref (q1 jt)) rfl ?_
  refine zr_iload_n X d_B_makeChild_12 rfl ?_
  refine zr_iload_n X d_B_makeChild_13 rfl ?_
  refine zr_aload_n X d_B_makeChild_14 rfl ?_
  refine zr_callI X K_B_37 KI_B_37 rfl (c_V_init_ref (by omega) up_eq) d_B_makeChild_15 rfl (by decide) (Nat.le_of_ble_eq_true rfl) (by decide) (st := [.ref (q1 N)]) rfl (kW ?_)
  show G (0 + 1) (0 + 7) 18 [some (.ref (q1 0)), some (.int (zbi b)), some (.int (nI p)), some (.ref (q1 jp)), none] [.ref (q1 N)] (N + 1) q1 (va_up (va_up f N (.inr (iV, [.int 0, .null, .int 0, .int 0, .null, .int 0, .null]))) N (.inr (iV, [.int (nI n), .ref (q1 jt), .int (zbi b), .int (nI p), .ref (q1 jp), .int (nI 0), .null])))
  refine zr_astore (lv' := [some (.ref (q1 0)), some (.int (zbi b)), some (.int (nI p)), some (.ref (q1 jp)), some (.ref (q1 N))]) X d_B_makeChild_18 (by decide) rfl ?_
  refine zr_aload_n X d_B_makeChild_20 rfl ?_
  refine zr_get X F_B_30 d_B_makeChild_21 (by omega) (up_ne (by omega) (up_ne (by omega) h0)) (v := .ref (q1 8)) rfl ?_
  refine zr_aload_n X d_B_makeChild_24 rfl ?_
  refine zr_get X F_B_44 d_B_makeChild_25 (by omega) (up_ne (by omega) (up_ne (by omega) h0)) (v := .int (nI n)) rfl ?_
  refine zr_aload X d_B_makeChild_28 rfl ?_
  refine zr_aastore X 3 d_B_makeChild_30 (by omega) (up_ne (by omega) (up_ne (by omega) h8)) rfl (by omega) (by decide) (by omega) up_eq rfl ?_
  refine zr_aload_n X d_B_makeChild_31 rfl ?_
  refine zr_dup X d_B_makeChild_32 rfl ?_
  refine zr_get X F_B_44 d_B_makeChild_33 (by omega) (up_ne (by decide) (up_ne (by omega) (up_ne (by omega) h0))) (v := .int (nI n)) rfl ?_
  refine zr_iconst (v := nI 1) X d_B_makeChild_36 (by decide) ?_
  refine zr_iadd (z := nI (n + 1)) X d_B_makeChild_37 (nI_add _ _) ?_
  refine zr_put (fs' := [.ref (q1 1), .ref (q1 3), .ref (q1 5), .ref (q1 8), .ref (q1 9), .int (nI (n + 1)), .int (nI ins), .ref (q1 jt)]) X F_B_44 d_B_makeChild_38 (by omega) (up_ne (by decide) (up_ne (by omega) (up_ne (by omega) h0))) rfl rfl (Nat.le_of_ble_eq_true rfl) rfl ?_
  refine zr_aload_n X d_B_makeChild_41 rfl ?_
  refine zr_get X F_B_40 d_B_makeChild_42 (by omega) up_eq (v := .ref (q1 jt)) rfl ?_
  refine zr_dup X d_B_makeChild_45 rfl ?_
  refine zr_get X F_B_107 d_B_makeChild_46 (by omega) (up_ne (by omega) (up_ne (by omega) (up_ne (by omega) (up_ne (by omega) hv)))) (v := .int (nI cc)) rfl ?_
  refine zr_iconst (v := nI 1) X d_B_makeChild_49 (by decide) ?_
  refine zr_iadd (z := nI (cc + 1)) X d_B_makeChild_50 (nI_add _ _) ?_
  refine zr_put (fs' := [.int (nI num), pr, .int com, .int (nI at_), .ref (q1 jp9), .int (nI (cc + 1)), lat]) X F_B_107 d_B_makeChild_51 (by omega) (up_ne (by omega) (up_ne (by omega) (up_ne (by omega) (up_ne (by omega) hv)))) rfl rfl (Nat.le_of_ble_eq_true rfl) rfl ?_
  refine zr_aload_n X d_B_makeChild_54 rfl ?_
  refine zr_get X F_B_40 d_B_makeChild_55 (by omega) (up_ne (by omega) up_eq) (v := .ref (q1 jt)) rfl ?_
  refine zr_aload X d_B_makeChild_58 rfl ?_
  refine zr_put (fs' := [.int (nI num), pr, .int com, .int (nI at_), .ref (q1 jp9), .int (nI (cc + 1)), .ref (q1 N)]) X F_B_94 d_B_makeChild_60 (by omega) up_eq rfl rfl (Nat.le_of_ble_eq_true rfl) rfl ?_
  refine zr_aload_n X d_B_makeChild_63 rfl ?_
  refine zr_aload X d_B_makeChild_64 rfl ?_
  refine zr_callV X K_B_97 KI_B_97 KS_B_97 (c_B_stepOnTo (by omega) (up_ne (by omega) (up_ne (by omega) up_eq)) (up_ne (by omega) (up_ne (by omega) (up_ne (by decide) (up_ne (by decide) (up_ne (by omega) (up_ne (by omega) h1)))))) (up_ne (by omega) (up_ne (by omega) (up_ne (by decide) (up_ne (by decide) (up_ne (by omega) (up_ne (by omega) h2)))))) (up_ne (by omega) (up_ne (by omega) (up_ne (by decide) (up_ne (by decide) (up_ne (by omega) (up_ne (by omega) h5)))))) (up_ne (by omega) (up_ne (by omega) (up_ne (by decide) (up_ne (by decide) (up_ne (by omega) (up_ne (by omega) h6)))))) (up_ne (by omega) (up_ne (by omega) (up_ne (by decide) (up_ne (by decide) (up_ne (by omega) (up_ne (by omega) h7)))))) (by omega) h23 (up_ne (by omega) (up_ne (by omega) (up_ne (by omega) (up_ne (by omega) (up_ne (by omega) (up_ne (by omega) hfp)))))) htx hgp (by omega) (by omega) (up_ne (by omega) (up_ne (by omega) (up_ne (by omega) (up_ne (by omega) up_eq)))) hok) d_B_makeChild_66 (by omega) (up_ne (by omega) (up_ne (by omega) up_eq)) rfl rfl (by decide) (Nat.le_of_ble_eq_true rfl) (by decide) (st := []) rfl (kW ?_)
  show G (0 + 1) (0 + 7) 69 [some (.ref (q1 0)), some (.int (zbi b)), some (.int (nI p)), some (.ref (q1 jp)), some (.ref (q1 N))] [] (N + 1) q1 (va_up (va_up (va_up (va_up (va_up (va_up (va_up (va_up (va_up (va_up f N (.inr (iV, [.int 0, .null, .int 0, .int 0, .null, .int 0, .null]))) N (.inr (iV, [.int (nI n), .ref (q1 jt), .int (zbi b), .int (nI p), .ref (q1 jp), .int (nI 0), .null]))) 8 (.inl (cV, 122, .inr (.inr (.inr (.inr (va_up md n (some (q1 N))))))))) 0 (.inr (iB, [.ref (q1 1), .ref (q1 3), .ref (q1 5), .ref (q1 8), .ref (q1 9), .int (nI (n + 1)), .int (nI ins), .ref (q1 jt)]))) jt (.inr (iV, [.int (nI num), pr, .int com, .int (nI at_), .ref (q1 jp9), .int (nI (cc + 1)), lat]))) jt (.inr (iV, [.int (nI num), pr, .int com, .int (nI at_), .ref (q1 jp9), .int (nI (cc + 1)), .ref (q1 N)]))) 2 (.inl (cC, 2000, .inl (zoT b tx gp p c sz)))) 1 (.inr (iR, [.ref (q1 2), .int (nI (zoS b sz c))]))) 6 (.inl (cI, 6, .inl (zoM b p c mp mr)))) 0 (.inr (iB, [.ref (q1 1), .ref (q1 3), .ref (q1 5), .ref (q1 8), .ref (q1 9), .int (nI (n + 1)), .int (nI ins), .ref (q1 N)])))
  refine zr_aload X d_B_makeChild_69 rfl ?_
  refine zr_get X F_B_91 d_B_makeChild_71 (by omega) (up_ne (by omega) (up_ne (by omega) (up_ne (by omega) (up_ne (by omega) (up_ne (by omega) (up_ne (by omega) (up_ne (by omega) (up_ne (by omega) up_eq)))))))) (v := .int (nI n)) rfl ?_
  refine zr_ireturn Y d_B_makeChild_74 rfl (Nat.le_of_ble_eq_true rfl) (Nat.le_of_ble_eq_true rfl) ?_
  exact ⟨rfl, rfl, ⟨a1, hq1.symm⟩, (up_ne (by omega) (up_ne (by omega) (up_ne (by omega) (up_ne (by omega) (up_ne (by omega) (up_ne (by omega) (up_ne (by omega) (up_ne (by omega) up_eq)))))))), (up_ne (by decide) (up_ne (by decide) (up_ne (by decide) (up_ne (by decide) (up_ne (by omega) (up_ne (by omega) (up_ne (by decide) up_eq))))))), up_eq, (up_ne (by omega) (up_ne (by omega) (up_ne (by omega) (up_ne (by omega) up_eq)))), (up_ne (by decide) (up_ne (by decide) (up_ne (by decide) up_eq))), (up_ne (by decide) (up_ne (by decide) up_eq)), (up_ne (by decide) up_eq), fun jj k1 k2 k3 k4 k5 => (up_ne (by omega) (up_ne (by omega) (up_ne (by omega) (up_ne (by omega) (up_ne (by omega) (up_ne (by omega) (up_ne (by omega) (up_ne (by omega) (up_ne (by omega) (up_ne (by omega) rfl))))))))))⟩
end
section
/-- the store behind an edit that made version n: piece at N, version at N + 1 -/
def zNewP (cC cI cV : ClassId) (N : Nat) (q : Nat → Nat) (f : zF) (n ins jt num at_ jp9 cc : Nat) (com : Int32) (pr : Value) (b : Bool) (p c sz : Nat) (gp tx mp mr : Nat → Int32) (md : Nat → Option Nat) (N' : Nat) (q' : Nat → Nat) (f' : zF) : Prop := N' = N + 2 ∧ (∃ a1 a2, q' = va_up (va_up q N a1) (N + 1) a2) ∧ f' N = .inl (cC, c, .inl gp) ∧ f' (N + 1) = zver q' n (.ref (q' jt)) (zbi b) p N 0 .null ∧ f' 8 = .inl (cV, 122, .inr (.inr (.inr (.inr (va_up md n (some (q' (N + 1)))))))) ∧ f' 0 = zbo q' (n + 1) ins (N + 1) ∧ f' jt = zver q' num pr com at_ jp9 (cc + 1) (.ref (q' (N + 1))) ∧ f' 2 = .inl (cC, 2000, .inl (zoT b tx gp p c sz)) ∧ f' 1 = zrow q' 2 (zoS b sz c) ∧ f' 6 = .inl (cI, 6, .inl (zoM b p c mp mr)) ∧ ∀ jj, jj < N → 2 < jj → jj ≠ 6 → jj ≠ 8 → jj ≠ jt → f' jj = f jj

set_option maxRecDepth 100000 in
set_option maxHeartbeats 4000000 in
theorem c_B_insert_n {l : Launch} {D : va_G} {cI cC cZ cV : ClassId} {N : Nat} {q : Nat → Nat} {f : zF} (hN : 23 ≤ N) {n ins jt : Nat} (h0 : f 0 = zbo q n ins jt) {sz : Nat} (h1 : f 1 = zrow q 2 sz) {x : Int32} (hx : zNo x sz) : zC l y_B_insert b_B_insert 2 (some .int) (rmD 5 2 2007) D (zty cI cC cZ cV) [.ref (q 0), .int x] N q f (pRd N q f (-1)) := by
  refine zC.of (by decide) (by simp [Value.category]) (Nat.le_of_ble_eq_true rfl) (fun G X Y => ?_)
  show G 0 0 0 [some (.ref (q 0)), some (.int x)] [] N q f
  refine zr_aload_n X d_B_insert_0 rfl ?_
  refine zr_get X F_B_14 d_B_insert_1 (by omega) h0 (v := .ref (q 1)) rfl ?_
  refine zr_iload_n X d_B_insert_4 rfl ?_
  refine zr_callV X K_B_72 KI_B_72 KS_B_72 (c_R_hasPosition_n (by omega) h1 hx) d_B_insert_5 (by omega) h1 rfl rfl (by decide) (Nat.le_of_ble_eq_true rfl) (by decide) (st := []) rfl (kRd ?_)
  show G 0 0 8 [some (.ref (q 0)), some (.int x)] [.int (nI 0)] N q f
  refine zr_if_nef (tgt := 13) X d_B_insert_8 rfl (by decide) ?_
  refine zr_iconst (v := (-1)) X d_B_insert_11 (by decide) ?_
  refine zr_ireturn Y d_B_insert_12 rfl (Nat.le_of_ble_eq_true rfl) (Nat.le_of_ble_eq_true rfl) ?_
  exact ⟨rfl, rfl, rfl, rfl⟩

set_option maxRecDepth 100000 in
set_option maxHeartbeats 4000000 in
theorem c_B_insert_e {l : Launch} {D : va_G} {cI cC cZ cV : ClassId} {N : Nat} {q : Nat → Nat} {f : zF} (hN : 23 ≤ N) {n ins jt : Nat} (h0 : f 0 = zbo q n ins jt) {sz : Nat} (h1 : f 1 = zrow q 2 sz) {k : Nat} (h3 : f 3 = zrow q 4 k) {p : Nat} (hp : p ≤ sz) (hs : sz ≤ 2000) (hk0 : k = 0) : zC l y_B_insert b_B_insert 2 (some .int) (rmD 5 2 2007) D (zty cI cC cZ cV) [.ref (q 0), .int (nI p)] N q f (pRd N q f (-2)) := by
  refine zC.of (by decide) (by simp [Value.category]) (Nat.le_of_ble_eq_true rfl) (fun G X Y => ?_)
  show G 0 0 0 [some (.ref (q 0)), some (.int (nI p))] [] N q f
  refine zr_aload_n X d_B_insert_0 rfl ?_
  refine zr_get X F_B_14 d_B_insert_1 (by omega) h0 (v := .ref (q 1)) rfl ?_
  refine zr_iload_n X d_B_insert_4 rfl ?_
  refine zr_callV X K_B_72 KI_B_72 KS_B_72 (c_R_hasPosition_y (by omega) h1 (by omega) hp) d_B_insert_5 (by omega) h1 rfl rfl (by decide) (Nat.le_of_ble_eq_true rfl) (by decide) (st := []) rfl (kRd ?_)
  show G 0 0 8 [some (.ref (q 0)), some (.int (nI p))] [.int (nI 1)] N q f
  refine zr_if_net (tgt := 13) X d_B_insert_8 rfl (by decide) ?_
  refine zr_aload_n X d_B_insert_13 rfl ?_
  refine zr_get X F_B_18 d_B_insert_14 (by omega) h0 (v := .ref (q 3)) rfl ?_
  refine zr_get X F_B_55 d_B_insert_17 (by omega) h3 (v := .int (nI k)) rfl ?_
  refine zr_if_nef (tgt := 26) X d_B_insert_20 rfl (by rw [hk0]; rfl) ?_
  refine zr_bipush (v := (-2)) X d_B_insert_23 (by decide) ?_
  refine zr_ireturn Y d_B_insert_25 rfl (Nat.le_of_ble_eq_true rfl) (Nat.le_of_ble_eq_true rfl) ?_
  exact ⟨rfl, rfl, rfl, rfl⟩

set_option maxRecDepth 100000 in
set_option maxHeartbeats 4000000 in
theorem c_B_insert_f1 {l : Launch} {D : va_G} {cI cC cZ cV : ClassId} {N : Nat} {q : Nat → Nat} {f : zF} (hN : 23 ≤ N) {n ins jt : Nat} (h0 : f 0 = zbo q n ins jt) {sz : Nat} (h1 : f 1 = zrow q 2 sz) {k : Nat} (h3 : f 3 = zrow q 4 k) {p : Nat} (hp : p ≤ sz) (hs : sz ≤ 2000) (hk0 : 0 < k) (hk : k ≤ 40) (hn : n = 122) : zC l y_B_insert b_B_insert 2 (some .int) (rmD 5 2 2007) D (zty cI cC cZ cV) [.ref (q 0), .int (nI p)] N q f (pRd N q f (-3)) := by
  refine zC.of (by decide) (by simp [Value.category]) (Nat.le_of_ble_eq_true rfl) (fun G X Y => ?_)
  show G 0 0 0 [some (.ref (q 0)), some (.int (nI p))] [] N q f
  refine zr_aload_n X d_B_insert_0 rfl ?_
  refine zr_get X F_B_14 d_B_insert_1 (by omega) h0 (v := .ref (q 1)) rfl ?_
  refine zr_iload_n X d_B_insert_4 rfl ?_
  refine zr_callV X K_B_72 KI_B_72 KS_B_72 (c_R_hasPosition_y (by omega) h1 (by omega) hp) d_B_insert_5 (by omega) h1 rfl rfl (by decide) (Nat.le_of_ble_eq_true rfl) (by decide) (st := []) rfl (kRd ?_)
  show G 0 0 8 [some (.ref (q 0)), some (.int (nI p))] [.int (nI 1)] N q f
  refine zr_if_net (tgt := 13) X d_B_insert_8 rfl (by decide) ?_
  refine zr_aload_n X d_B_insert_13 rfl ?_
  refine zr_get X F_B_18 d_B_insert_14 (by omega) h0 (v := .ref (q 3)) rfl ?_
  refine zr_get X F_B_55 d_B_insert_17 (by omega) h3 (v := .int (nI k)) rfl ?_
  refine zr_if_net (tgt := 26) X d_B_insert_20 rfl (nI_ne0 hk0 (by omega)) ?_
  refine zr_aload_n X d_B_insert_26 rfl ?_
  refine zr_get X F_B_44 d_B_insert_27 (by omega) h0 (v := .int (nI n)) rfl ?_
  refine zr_bipush (v := nI 122) X d_B_insert_30 (by decide) ?_
  refine zr_icmp_eqt (tgt := 53) X d_B_insert_32 rfl (by rw [hn]) ?_
  refine zr_bipush (v := (-3)) X d_B_insert_53 (by decide) ?_
  refine zr_ireturn Y d_B_insert_55 rfl (Nat.le_of_ble_eq_true rfl) (Nat.le_of_ble_eq_true rfl) ?_
  exact ⟨rfl, rfl, rfl, rfl⟩

set_option maxRecDepth 100000 in
set_option maxHeartbeats 4000000 in
theorem c_B_insert_f2 {l : Launch} {D : va_G} {cI cC cZ cV : ClassId} {N : Nat} {q : Nat → Nat} {f : zF} (hN : 23 ≤ N) {n ins jt : Nat} (h0 : f 0 = zbo q n ins jt) {sz : Nat} (h1 : f 1 = zrow q 2 sz) {k : Nat} (h3 : f 3 = zrow q 4 k) {p : Nat} (hp : p ≤ sz) (hs : sz ≤ 2000) (hk0 : 0 < k) (hk : k ≤ 40) (hn : n < 122) (hi : ins ≤ 2000) (hik : 2000 < ins + k) : zC l y_B_insert b_B_insert 2 (some .int) (rmD 5 2 2007) D (zty cI cC cZ cV) [.ref (q 0), .int (nI p)] N q f (pRd N q f (-3)) := by
  refine zC.of (by decide) (by simp [Value.category]) (Nat.le_of_ble_eq_true rfl) (fun G X Y => ?_)
  show G 0 0 0 [some (.ref (q 0)), some (.int (nI p))] [] N q f
  refine zr_aload_n X d_B_insert_0 rfl ?_
  refine zr_get X F_B_14 d_B_insert_1 (by omega) h0 (v := .ref (q 1)) rfl ?_
  refine zr_iload_n X d_B_insert_4 rfl ?_
  refine zr_callV X K_B_72 KI_B_72 KS_B_72 (c_R_hasPosition_y (by omega) h1 (by omega) hp) d_B_insert_5 (by omega) h1 rfl rfl (by decide) (Nat.le_of_ble_eq_true rfl) (by decide) (st := []) rfl (kRd ?_)
  show G 0 0 8 [some (.ref (q 0)), some (.int (nI p))] [.int (nI 1)] N q f
  refine zr_if_net (tgt := 13) X d_B_insert_8 rfl (by decide) ?_
  refine zr_aload_n X d_B_insert_13 rfl ?_
  refine zr_get X F_B_18 d_B_insert_14 (by omega) h0 (v := .ref (q 3)) rfl ?_
  refine zr_get X F_B_55 d_B_insert_17 (by omega) h3 (v := .int (nI k)) rfl ?_
  refine zr_if_net (tgt := 26) X d_B_insert_20 rfl (nI_ne0 hk0 (by omega)) ?_
  refine zr_aload_n X d_B_insert_26 rfl ?_
  refine zr_get X F_B_44 d_B_insert_27 (by omega) h0 (v := .int (nI n)) rfl ?_
  refine zr_bipush (v := nI 122) X d_B_insert_30 (by decide) ?_
  refine zr_icmp_eqf (tgt := 53) X d_B_insert_32 rfl (fun h9 => absurd ((nI_eq (by omega) (by decide)).mp h9) (by omega)) ?_
  refine zr_aload_n X d_B_insert_35 rfl ?_
  refine zr_get X F_B_48 d_B_insert_36 (by omega) h0 (v := .int (nI ins)) rfl ?_
  refine zr_aload_n X d_B_insert_39 rfl ?_
  refine zr_get X F_B_18 d_B_insert_40 (by omega) h0 (v := .ref (q 3)) rfl ?_
  refine zr_get X F_B_55 d_B_insert_43 (by omega) h3 (v := .int (nI k)) rfl ?_
  refine zr_iadd (z := nI (ins + k)) X d_B_insert_46 (nI_add _ _) ?_
  refine zr_sipush (v := nI 2000) X d_B_insert_47 (by decide) ?_
  refine zr_icmp_lef (tgt := 56) X d_B_insert_50 rfl (nI_ge hik (by omega)) ?_
  refine zr_bipush (v := (-3)) X d_B_insert_53 (by decide) ?_
  refine zr_ireturn Y d_B_insert_55 rfl (Nat.le_of_ble_eq_true rfl) (Nat.le_of_ble_eq_true rfl) ?_
  exact ⟨rfl, rfl, rfl, rfl⟩

set_option maxRecDepth 100000 in
set_option maxHeartbeats 4000000 in
theorem c_B_delete_n {l : Launch} {D : va_G} {cI cC cZ cV : ClassId} {N : Nat} {q : Nat → Nat} {f : zF} (hN : 23 ≤ N) {n ins jt : Nat} (h0 : f 0 = zbo q n ins jt) {sz : Nat} (h1 : f 1 = zrow q 2 sz) {x y : Int32} (hs : sz < 2 ^ 31) (hx : zNoS x y sz) : zC l y_B_delete b_B_delete 3 (some .int) (rmD 5 2 2007) D (zty cI cC cZ cV) [.ref (q 0), .int x, .int y] N q f (pRd N q f (-1)) := by
  refine zC.of (by decide) (by simp [Value.category]) (Nat.le_of_ble_eq_true rfl) (fun G X Y => ?_)
  show G 0 0 0 [some (.ref (q 0)), some (.int x), some (.int y)] [] N q f
  refine zr_aload_n X d_B_delete_0 rfl ?_
  refine zr_get X F_B_14 d_B_delete_1 (by omega) h0 (v := .ref (q 1)) rfl ?_
  refine zr_iload_n X d_B_delete_4 rfl ?_
  refine zr_iload_n X d_B_delete_5 rfl ?_
  refine zr_callV X K_B_62 KI_B_62 KS_B_62 (c_R_hasStretch_n (by omega) h1 hs hx) d_B_delete_6 (by omega) h1 rfl rfl (by decide) (Nat.le_of_ble_eq_true rfl) (by decide) (st := []) rfl (kRd ?_)
  show G 0 0 9 [some (.ref (q 0)), some (.int x), some (.int y)] [.int (nI 0)] N q f
  refine zr_if_nef (tgt := 14) X d_B_delete_9 rfl (by decide) ?_
  refine zr_iconst (v := (-1)) X d_B_delete_12 (by decide) ?_
  refine zr_ireturn Y d_B_delete_13 rfl (Nat.le_of_ble_eq_true rfl) (Nat.le_of_ble_eq_true rfl) ?_
  exact ⟨rfl, rfl, rfl, rfl⟩

set_option maxRecDepth 100000 in
set_option maxHeartbeats 4000000 in
theorem c_B_delete_e {l : Launch} {D : va_G} {cI cC cZ cV : ClassId} {N : Nat} {q : Nat → Nat} {f : zF} (hN : 23 ≤ N) {n ins jt : Nat} (h0 : f 0 = zbo q n ins jt) {sz : Nat} (h1 : f 1 = zrow q 2 sz) {p c : Nat} (hp : p + c ≤ sz) (hs : sz ≤ 2000) (hc0 : c = 0) : zC l y_B_delete b_B_delete 3 (some .int) (rmD 5 2 2007) D (zty cI cC cZ cV) [.ref (q 0), .int (nI p), .int (nI c)] N q f (pRd N q f (-2)) := by
  refine zC.of (by decide) (by simp [Value.category]) (Nat.le_of_ble_eq_true rfl) (fun G X Y => ?_)
  show G 0 0 0 [some (.ref (q 0)), some (.int (nI p)), some (.int (nI c))] [] N q f
  refine zr_aload_n X d_B_delete_0 rfl ?_
  refine zr_get X F_B_14 d_B_delete_1 (by omega) h0 (v := .ref (q 1)) rfl ?_
  refine zr_iload_n X d_B_delete_4 rfl ?_
  refine zr_iload_n X d_B_delete_5 rfl ?_
  refine zr_callV X K_B_62 KI_B_62 KS_B_62 (c_R_hasStretch_y (by omega) h1 (by omega) hp) d_B_delete_6 (by omega) h1 rfl rfl (by decide) (Nat.le_of_ble_eq_true rfl) (by decide) (st := []) rfl (kRd ?_)
  show G 0 0 9 [some (.ref (q 0)), some (.int (nI p)), some (.int (nI c))] [.int (nI 1)] N q f
  refine zr_if_net (tgt := 14) X d_B_delete_9 rfl (by decide) ?_
  refine zr_iload_n X d_B_delete_14 rfl ?_
  refine zr_if_nef (tgt := 21) X d_B_delete_15 rfl (by rw [hc0]; rfl) ?_
  refine zr_bipush (v := (-2)) X d_B_delete_18 (by decide) ?_
  refine zr_ireturn Y d_B_delete_20 rfl (Nat.le_of_ble_eq_true rfl) (Nat.le_of_ble_eq_true rfl) ?_
  exact ⟨rfl, rfl, rfl, rfl⟩

set_option maxRecDepth 100000 in
set_option maxHeartbeats 4000000 in
theorem c_B_delete_f {l : Launch} {D : va_G} {cI cC cZ cV : ClassId} {N : Nat} {q : Nat → Nat} {f : zF} (hN : 23 ≤ N) {n ins jt : Nat} (h0 : f 0 = zbo q n ins jt) {sz : Nat} (h1 : f 1 = zrow q 2 sz) {p c : Nat} (hp : p + c ≤ sz) (hs : sz ≤ 2000) (hc0 : 0 < c) (hn : n = 122) : zC l y_B_delete b_B_delete 3 (some .int) (rmD 5 2 2007) D (zty cI cC cZ cV) [.ref (q 0), .int (nI p), .int (nI c)] N q f (pRd N q f (-3)) := by
  refine zC.of (by decide) (by simp [Value.category]) (Nat.le_of_ble_eq_true rfl) (fun G X Y => ?_)
  show G 0 0 0 [some (.ref (q 0)), some (.int (nI p)), some (.int (nI c))] [] N q f
  refine zr_aload_n X d_B_delete_0 rfl ?_
  refine zr_get X F_B_14 d_B_delete_1 (by omega) h0 (v := .ref (q 1)) rfl ?_
  refine zr_iload_n X d_B_delete_4 rfl ?_
  refine zr_iload_n X d_B_delete_5 rfl ?_
  refine zr_callV X K_B_62 KI_B_62 KS_B_62 (c_R_hasStretch_y (by omega) h1 (by omega) hp) d_B_delete_6 (by omega) h1 rfl rfl (by decide) (Nat.le_of_ble_eq_true rfl) (by decide) (st := []) rfl (kRd ?_)
  show G 0 0 9 [some (.ref (q 0)), some (.int (nI p)), some (.int (nI c))] [.int (nI 1)] N q f
  refine zr_if_net (tgt := 14) X d_B_delete_9 rfl (by decide) ?_
  refine zr_iload_n X d_B_delete_14 rfl ?_
  refine zr_if_net (tgt := 21) X d_B_delete_15 rfl (nI_ne0 hc0 (by omega)) ?_
  refine zr_aload_n X d_B_delete_21 rfl ?_
  refine zr_get X F_B_44 d_B_delete_22 (by omega) h0 (v := .int (nI n)) rfl ?_
  refine zr_bipush (v := nI 122) X d_B_delete_25 (by decide) ?_
  refine zr_icmp_nef (tgt := 33) X d_B_delete_27 rfl (by rw [hn]) ?_
  refine zr_bipush (v := (-3)) X d_B_delete_30 (by decide) ?_
  refine zr_ireturn Y d_B_delete_32 rfl (Nat.le_of_ble_eq_true rfl) (Nat.le_of_ble_eq_true rfl) ?_
  exact ⟨rfl, rfl, rfl, rfl⟩

set_option maxRecDepth 100000 in
set_option maxHeartbeats 4000000 in
theorem c_B_insert_y {l : Launch} {D : va_G} {cI cC cZ cV : ClassId} {N : Nat} {q : Nat → Nat} {f : zF} (hN : 23 ≤ N) {n ins jt : Nat} (h0 : f 0 = zbo q n ins jt) {sz : Nat} (h1 : f 1 = zrow q 2 sz) {tx : Nat → Int32} (h2 : f 2 = .inl (cC, 2000, .inl tx)) {k : Nat} (h3 : f 3 = zrow q 4 k) {sc : Nat → Int32} (h4 : f 4 = .inl (cC, 40, .inl sc))  (h5 : f 5 = .inr (iM, [.ref (q 6), .ref (q 7)])) {mp : Nat → Int32} (h6 : f 6 = .inl (cI, 6, .inl mp)) {mr : Nat → Int32} (h7 : f 7 = .inl (cZ, 6, .inl mr)) {md : Nat → Option Nat} (h8 : f 8 = .inl (cV, 122, .inr (.inr (.inr (.inr md))))) {num cc at_ jp9 : Nat} {com : Int32} {pr lat : Value} (hjt : jt < N) (hjt23 : 23 ≤ jt) (hjp9 : jp9 < N) (hv : f jt = zver q num pr com at_ jp9 cc lat) {p : Nat} (hp : p ≤ sz) (hs : sz ≤ 2000) (hk0 : 0 < k) (hk : k ≤ 40) (hn : n < 122) (hik : ins + k ≤ 2000) (hok : zoK true p k sz) (htx : zCh tx) (hsc : zCh sc) : zC l y_B_insert b_B_insert 2 (some .int) (rmD 5 2 2007) D (zty cI cC cZ cV) [.ref (q 0), .int (nI p)] N q f (fun v N' q' f' => v = some (.int (nI n)) ∧ zNewP cC cI cV N q f n (ins + k) jt num at_ jp9 cc com pr true p k sz (va_cpy sc (fun _ => 0) 0 0 k) tx mp mr md N' q' f') := by
  refine zC.of (by decide) (by simp [Value.category]) (Nat.le_of_ble_eq_true rfl) (fun G X Y => ?_)
  show G 0 0 0 [some (.ref (q 0)), some (.int (nI p))] [] N q f
  refine zr_aload_n X d_B_insert_0 rfl ?_
  refine zr_get X F_B_14 d_B_insert_1 (by omega) h0 (v := .ref (q 1)) rfl ?_
  refine zr_iload_n X d_B_insert_4 rfl ?_
  refine zr_callV X K_B_72 KI_B_72 KS_B_72 (c_R_hasPosition_y (by omega) h1 (by omega) hp) d_B_insert_5 (by omega) h1 rfl rfl (by decide) (Nat.le_of_ble_eq_true rfl) (by decide) (st := []) rfl (kRd ?_)
  show G 0 0 8 [some (.ref (q 0)), some (.int (nI p))] [.int (nI 1)] N q f
  refine zr_if_net (tgt := 13) X d_B_insert_8 rfl (by decide) ?_
  refine zr_aload_n X d_B_insert_13 rfl ?_
  refine zr_get X F_B_18 d_B_insert_14 (by omega) h0 (v := .ref (q 3)) rfl ?_
  refine zr_get X F_B_55 d_B_insert_17 (by omega) h3 (v := .int (nI k)) rfl ?_
  refine zr_if_net (tgt := 26) X d_B_insert_20 rfl (nI_ne0 hk0 (by omega)) ?_
  refine zr_aload_n X d_B_insert_26 rfl ?_
  refine zr_get X F_B_44 d_B_insert_27 (by omega) h0 (v := .int (nI n)) rfl ?_
  refine zr_bipush (v := nI 122) X d_B_insert_30 (by decide) ?_
  refine zr_icmp_eqf (tgt := 53) X d_B_insert_32 rfl (fun h9 => absurd ((nI_eq (by omega) (by decide)).mp h9) (by omega)) ?_
  refine zr_aload_n X d_B_insert_35 rfl ?_
  refine zr_get X F_B_48 d_B_insert_36 (by omega) h0 (v := .int (nI ins)) rfl ?_
  refine zr_aload_n X d_B_insert_39 rfl ?_
  refine zr_get X F_B_18 d_B_insert_40 (by omega) h0 (v := .ref (q 3)) rfl ?_
  refine zr_get X F_B_55 d_B_insert_43 (by omega) h3 (v := .int (nI k)) rfl ?_
  refine zr_iadd (z := nI (ins + k)) X d_B_insert_46 (nI_add _ _) ?_
  refine zr_sipush (v := nI 2000) X d_B_insert_47 (by decide) ?_
  refine zr_icmp_let (tgt := 56) X d_B_insert_50 rfl (nI_le hik (by decide)) ?_
  refine zr_aload_n X d_B_insert_56 rfl ?_
  refine zr_dup X d_B_insert_57 rfl ?_
  refine zr_get X F_B_48 d_B_insert_58 (by omega) h0 (v := .int (nI ins)) rfl ?_
  refine zr_aload_n X d_B_insert_61 rfl ?_
  refine zr_get X F_B_18 d_B_insert_62 (by omega) h0 (v := .ref (q 3)) rfl ?_
  refine zr_get X F_B_55 d_B_insert_65 (by omega) h3 (v := .int (nI k)) rfl ?_
  refine zr_iadd (z := nI (ins + k)) X d_B_insert_68 (nI_add _ _) ?_
  refine zr_put (fs' := [.ref (q 1), .ref (q 3), .ref (q 5), .ref (q 8), .ref (q 9), .int (nI n), .int (nI (ins + k)), .ref (q jt)]) X F_B_48 d_B_insert_69 (by omega) h0 rfl rfl (Nat.le_of_ble_eq_true rfl) rfl ?_
  obtain ⟨f1, ef1⟩ : ∃ z, z = va_up f 0 (.inr (iB, [.ref (q 1), .ref (q 3), .ref (q 5), .ref (q 8), .ref (q 9), .int (nI n), .int (nI (ins + k)), .ref (q jt)])) := ⟨_, rfl⟩
  rw [← ef1]
  have s1_0 : f1 0 = .inr (iB, [.ref (q 1), .ref (q 3), .ref (q 5), .ref (q 8), .ref (q 9), .int (nI n), .int (nI (ins + k)), .ref (q jt)]) := by rw [ef1]; exact up_eq
  have s1_1 : f1 1 = .inr (iR, [.ref (q 2), .int (nI sz)]) := by rw [ef1]; exact (up_ne (by decide) h1)
  have s1_2 : f1 2 = .inl (cC, 2000, .inl tx) := by rw [ef1]; exact (up_ne (by decide) h2)
  have s1_3 : f1 3 = .inr (iR, [.ref (q 4), .int (nI k)]) := by rw [ef1]; exact (up_ne (by decide) h3)
  have s1_4 : f1 4 = .inl (cC, 40, .inl sc) := by rw [ef1]; exact (up_ne (by decide) h4)
  have s1_5 : f1 5 = .inr (iM, [.ref (q 6), .ref (q 7)]) := by rw [ef1]; exact (up_ne (by decide) h5)
  have s1_6 : f1 6 = .inl (cI, 6, .inl mp) := by rw [ef1]; exact (up_ne (by decide) h6)
  have s1_7 : f1 7 = .inl (cZ, 6, .inl mr) := by rw [ef1]; exact (up_ne (by decide) h7)
  have s1_8 : f1 8 = .inl (cV, 122, .inr (.inr (.inr (.inr md)))) := by rw [ef1]; exact (up_ne (by decide) h8)
  have s1_jt : f1 jt = .inr (iV, [.int (nI num), pr, .int com, .int (nI at_), .ref (q jp9), .int (nI cc), lat]) := by rw [ef1]; exact (up_ne (by omega) hv)
  refine zr_aload_n X d_B_insert_72 rfl ?_
  refine zr_iconst (v := zbi true) X d_B_insert_73 (by decide) ?_
  refine zr_iload_n X d_B_insert_74 rfl ?_
  refine zr_aload_n X d_B_insert_75 rfl ?_
  refine zr_get X F_B_18 d_B_insert_76 (by omega) s1_0 (v := .ref (q 3)) rfl ?_
  refine zr_iconst (v := nI 0) X d_B_insert_79 (by decide) ?_
  refine zr_aload_n X d_B_insert_80 rfl ?_
  refine zr_get X F_B_18 d_B_insert_81 (by omega) s1_0 (v := .ref (q 3)) rfl ?_
  refine zr_get X F_B_55 d_B_insert_84 (by omega) s1_3 (v := .int (nI k)) rfl ?_
  refine zr_callV X K_B_76 KI_B_76 KS_B_76 (c_R_pieceOf (by omega) s1_3 (by omega) s1_4 hsc (by decide) (by omega) (by omega)) d_B_insert_87 (by omega) s1_3 rfl rfl (by decide) (Nat.le_of_ble_eq_true rfl) (by decide) (st := [.int (nI p), .int (zbi true), .ref (q 0)]) rfl (fun v9 N9 q9 f9 hr9 => ?_)
  obtain ⟨a2, rfl, rfl, rfl, rfl⟩ := hr9
  show G (0 + 1) (0 + 2000) 90 [some (.ref (q 0)), some (.int (nI p))] (.ref a2 :: [.int (nI p), .int (zbi true), .ref (q 0)]) (N + 1) (va_up q N a2) (va_up f1 N (.inl (cC, k, .inl (va_cpy sc (fun _ => 0) 0 0 k))))
  generalize hq2 : va_up q N a2 = q2
  have e2_1 : q 1 = q2 1 := by rw [← hq2, up_ne' (by omega)]
  have e2_3 : q 3 = q2 3 := by rw [← hq2, up_ne' (by omega)]
  have e2_5 : q 5 = q2 5 := by rw [← hq2, up_ne' (by omega)]
  have e2_8 : q 8 = q2 8 := by rw [← hq2, up_ne' (by omega)]
  have e2_9 : q 9 = q2 9 := by rw [← hq2, up_ne' (by omega)]
  have e2_jt : q jt = q2 jt := by rw [← hq2, up_ne' (by omega)]
  have e2_2 : q 2 = q2 2 := by rw [← hq2, up_ne' (by omega)]
  have e2_4 : q 4 = q2 4 := by rw [← hq2, up_ne' (by omega)]
  have e2_6 : q 6 = q2 6 := by rw [← hq2, up_ne' (by omega)]
  have e2_7 : q 7 = q2 7 := by rw [← hq2, up_ne' (by omega)]
  have e2_jp9 : q jp9 = q2 jp9 := by rw [← hq2, up_ne' (by omega)]
  have e2_0 : q 0 = q2 0 := by rw [← hq2, up_ne' (by omega)]
  have e2_n : a2 = q2 N := by rw [← hq2, up_eq]
  simp only [zbo, zrow, zver, e2_1, e2_3, e2_5, e2_8, e2_9, e2_jt, e2_2, e2_4, e2_6, e2_7, e2_jp9, e2_0] at s1_0
  simp only [zbo, zrow, zver, e2_1, e2_3, e2_5, e2_8, e2_9, e2_jt, e2_2, e2_4, e2_6, e2_7, e2_jp9, e2_0] at s1_1
  simp only [zbo, zrow, zver, e2_1, e2_3, e2_5, e2_8, e2_9, e2_jt, e2_2, e2_4, e2_6, e2_7, e2_jp9, e2_0] at s1_3
  simp only [zbo, zrow, zver, e2_1, e2_3, e2_5, e2_8, e2_9, e2_jt, e2_2, e2_4, e2_6, e2_7, e2_jp9, e2_0] at s1_5
  simp only [zbo, zrow, zver, e2_1, e2_3, e2_5, e2_8, e2_9, e2_jt, e2_2, e2_4, e2_6, e2_7, e2_jp9, e2_0] at s1_jt
  try simp only [e2_1, e2_3, e2_5, e2_8, e2_9, e2_jt, e2_2, e2_4, e2_6, e2_7, e2_jp9, e2_0]
  rw [e2_n]
  show G (0 + 1) (0 + 2000) 90 [some (.ref (q2 0)), some (.int (nI p))] [.ref (q2 N), .int (nI p), .int (zbi true), .ref (q2 0)] (N + 1) q2 (va_up f1 N (.inl (cC, k, .inl (va_cpy sc (fun _ => 0) 0 0 k))))
  show G (0 + 1) (0 + 2000) 90 [some (.ref (q2 0)), some (.int (nI p))] [.ref (q2 N), .int (nI p), .int (zbi true), .ref (q2 0)] (N + 1) q2 (va_up f1 N (.inl (cC, k, .inl (va_cpy sc (fun _ => 0) 0 0 k))))
  refine zr_callV X K_B_80 KI_B_80 KS_B_80 (c_B_makeChild (b := true) (by omega) (up_ne (by omega) s1_0) (up_ne (by omega) s1_1) (up_ne (by omega) s1_2) (up_ne (by omega) s1_5) (up_ne (by omega) s1_6) (up_ne (by omega) s1_7) (up_ne (by omega) s1_8) (by omega) hN up_eq htx (zCh.cpy hsc zCh.z) (by omega) hjt23 (by omega) (by omega) (up_ne (by omega) s1_jt) hok hn) d_B_insert_90 (by omega) (up_ne (by omega) s1_0) rfl rfl (by decide) (Nat.le_of_ble_eq_true rfl) (by decide) (st := []) rfl (fun v8 N8 q8 f8 hr8 => ?_)
  obtain ⟨rfl, rfl, ⟨a8, hq8⟩, p1, p2, p3, p4, p5, p6, p7, p8⟩ := hr8
  show G (0 + 1 + 1) (0 + 2000 + 7) 93 [some (.ref (q2 0)), some (.int (nI p))] [.int (nI n)] (N + 1 + 1) q8 f8
  refine zr_ireturn Y d_B_insert_93 rfl (Nat.le_of_ble_eq_true rfl) (Nat.le_of_ble_eq_true rfl) ?_
  refine ⟨rfl, rfl, ⟨a2, a8, by rw [hq8, ← hq2]⟩, (p8 N (by omega) (by omega) (by omega) (by omega) (by omega)).trans up_eq, p1, p2, p3, p4, p5, p6, p7, fun jj k1 k2 k3 k4 k5 => (p8 jj (by omega) k2 k3 k4 k5).trans (up_ne (by omega) (show f1 jj = f jj by rw [ef1]; exact (up_ne (by omega) rfl)))⟩

set_option maxRecDepth 100000 in
set_option maxHeartbeats 4000000 in
theorem c_B_delete_y {l : Launch} {D : va_G} {cI cC cZ cV : ClassId} {N : Nat} {q : Nat → Nat} {f : zF} (hN : 23 ≤ N) {n ins jt : Nat} (h0 : f 0 = zbo q n ins jt) {sz : Nat} (h1 : f 1 = zrow q 2 sz) {tx : Nat → Int32} (h2 : f 2 = .inl (cC, 2000, .inl tx))  (h5 : f 5 = .inr (iM, [.ref (q 6), .ref (q 7)])) {mp : Nat → Int32} (h6 : f 6 = .inl (cI, 6, .inl mp)) {mr : Nat → Int32} (h7 : f 7 = .inl (cZ, 6, .inl mr)) {md : Nat → Option Nat} (h8 : f 8 = .inl (cV, 122, .inr (.inr (.inr (.inr md))))) {num cc at_ jp9 : Nat} {com : Int32} {pr lat : Value} (hjt : jt < N) (hjt23 : 23 ≤ jt) (hjp9 : jp9 < N) (hv : f jt = zver q num pr com at_ jp9 cc lat) {p c : Nat} (hp : p + c ≤ sz) (hs : sz ≤ 2000) (hc0 : 0 < c) (hn : n < 122) (hok : zoK false p c sz) (htx : zCh tx) : zC l y_B_delete b_B_delete 3 (some .int) (rmD 5 2 2007) D (zty cI cC cZ cV) [.ref (q 0), .int (nI p), .int (nI c)] N q f (fun v N' q' f' => v = some (.int (nI n)) ∧ zNewP cC cI cV N q f n ins jt num at_ jp9 cc com pr false p c sz (va_cpy tx (fun _ => 0) p 0 c) tx mp mr md N' q' f') := by
  refine zC.of (by decide) (by simp [Value.category]) (Nat.le_of_ble_eq_true rfl) (fun G X Y => ?_)
  show G 0 0 0 [some (.ref (q 0)), some (.int (nI p)), some (.int (nI c))] [] N q f
  refine zr_aload_n X d_B_delete_0 rfl ?_
  refine zr_get X F_B_14 d_B_delete_1 (by omega) h0 (v := .ref (q 1)) rfl ?_
  refine zr_iload_n X d_B_delete_4 rfl ?_
  refine zr_iload_n X d_B_delete_5 rfl ?_
  refine zr_callV X K_B_62 KI_B_62 KS_B_62 (c_R_hasStretch_y (by omega) h1 (by omega) hp) d_B_delete_6 (by omega) h1 rfl rfl (by decide) (Nat.le_of_ble_eq_true rfl) (by decide) (st := []) rfl (kRd ?_)
  show G 0 0 9 [some (.ref (q 0)), some (.int (nI p)), some (.int (nI c))] [.int (nI 1)] N q f
  refine zr_if_net (tgt := 14) X d_B_delete_9 rfl (by decide) ?_
  refine zr_iload_n X d_B_delete_14 rfl ?_
  refine zr_if_net (tgt := 21) X d_B_delete_15 rfl (nI_ne0 hc0 (by omega)) ?_
  refine zr_aload_n X d_B_delete_21 rfl ?_
  refine zr_get X F_B_44 d_B_delete_22 (by omega) h0 (v := .int (nI n)) rfl ?_
  refine zr_bipush (v := nI 122) X d_B_delete_25 (by decide) ?_
  refine zr_icmp_net (tgt := 33) X d_B_delete_27 rfl (fun h9 => absurd ((nI_eq (by omega) (by decide)).mp h9) (by omega)) ?_
  refine zr_aload_n X d_B_delete_33 rfl ?_
  refine zr_iconst (v := zbi false) X d_B_delete_34 (by decide) ?_
  refine zr_iload_n X d_B_delete_35 rfl ?_
  refine zr_aload_n X d_B_delete_36 rfl ?_
  refine zr_get X F_B_14 d_B_delete_37 (by omega) h0 (v := .ref (q 1)) rfl ?_
  refine zr_iload_n X d_B_delete_40 rfl ?_
  refine zr_iload_n X d_B_delete_41 rfl ?_
  refine zr_callV X K_B_76 KI_B_76 KS_B_76 (c_R_pieceOf (by omega) h1 (by omega) h2 htx (by decide) (by omega) (by omega)) d_B_delete_42 (by omega) h1 rfl rfl (by decide) (Nat.le_of_ble_eq_true rfl) (by decide) (st := [.int (nI p), .int (zbi false), .ref (q 0)]) rfl (fun v9 N9 q9 f9 hr9 => ?_)
  obtain ⟨a1, rfl, rfl, rfl, rfl⟩ := hr9
  show G (0 + 1) (0 + 2000) 45 [some (.ref (q 0)), some (.int (nI p)), some (.int (nI c))] (.ref a1 :: [.int (nI p), .int (zbi false), .ref (q 0)]) (N + 1) (va_up q N a1) (va_up f N (.inl (cC, c, .inl (va_cpy tx (fun _ => 0) p 0 c))))
  generalize hq1 : va_up q N a1 = q1
  have e1_1 : q 1 = q1 1 := by rw [← hq1, up_ne' (by omega)]
  have e1_3 : q 3 = q1 3 := by rw [← hq1, up_ne' (by omega)]
  have e1_5 : q 5 = q1 5 := by rw [← hq1, up_ne' (by omega)]
  have e1_8 : q 8 = q1 8 := by rw [← hq1, up_ne' (by omega)]
  have e1_9 : q 9 = q1 9 := by rw [← hq1, up_ne' (by omega)]
  have e1_jt : q jt = q1 jt := by rw [← hq1, up_ne' (by omega)]
  have e1_2 : q 2 = q1 2 := by rw [← hq1, up_ne' (by omega)]
  have e1_6 : q 6 = q1 6 := by rw [← hq1, up_ne' (by omega)]
  have e1_7 : q 7 = q1 7 := by rw [← hq1, up_ne' (by omega)]
  have e1_jp9 : q jp9 = q1 jp9 := by rw [← hq1, up_ne' (by omega)]
  have e1_0 : q 0 = q1 0 := by rw [← hq1, up_ne' (by omega)]
  have e1_n : a1 = q1 N := by rw [← hq1, up_eq]
  simp only [zbo, zrow, zver, e1_1, e1_3, e1_5, e1_8, e1_9, e1_jt, e1_2, e1_6, e1_7, e1_jp9, e1_0] at h0
  simp only [zbo, zrow, zver, e1_1, e1_3, e1_5, e1_8, e1_9, e1_jt, e1_2, e1_6, e1_7, e1_jp9, e1_0] at h1
  simp only [zbo, zrow, zver, e1_1, e1_3, e1_5, e1_8, e1_9, e1_jt, e1_2, e1_6, e1_7, e1_jp9, e1_0] at h5
  simp only [zbo, zrow, zver, e1_1, e1_3, e1_5, e1_8, e1_9, e1_jt, e1_2, e1_6, e1_7, e1_jp9, e1_0] at hv
  try simp only [e1_1, e1_3, e1_5, e1_8, e1_9, e1_jt, e1_2, e1_6, e1_7, e1_jp9, e1_0]
  rw [e1_n]
  show G (0 + 1) (0 + 2000) 45 [some (.ref (q1 0)), some (.int (nI p)), some (.int (nI c))] [.ref (q1 N), .int (nI p), .int (zbi false), .ref (q1 0)] (N + 1) q1 (va_up f N (.inl (cC, c, .inl (va_cpy tx (fun _ => 0) p 0 c))))
  show G (0 + 1) (0 + 2000) 45 [some (.ref (q1 0)), some (.int (nI p)), some (.int (nI c))] [.ref (q1 N), .int (nI p), .int (zbi false), .ref (q1 0)] (N + 1) q1 (va_up f N (.inl (cC, c, .inl (va_cpy tx (fun _ => 0) p 0 c))))
  refine zr_callV X K_B_80 KI_B_80 KS_B_80 (c_B_makeChild (b := false) (by omega) (up_ne (by omega) h0) (up_ne (by omega) h1) (up_ne (by omega) h2) (up_ne (by omega) h5) (up_ne (by omega) h6) (up_ne (by omega) h7) (up_ne (by omega) h8) (by omega) hN up_eq htx (zCh.cpy htx zCh.z) (by omega) hjt23 (by omega) (by omega) (up_ne (by omega) hv) hok hn) d_B_delete_45 (by omega) (up_ne (by omega) h0) rfl rfl (by decide) (Nat.le_of_ble_eq_true rfl) (by decide) (st := []) rfl (fun v8 N8 q8 f8 hr8 => ?_)
  obtain ⟨rfl, rfl, ⟨a8, hq8⟩, p1, p2, p3, p4, p5, p6, p7, p8⟩ := hr8
  show G (0 + 1 + 1) (0 + 2000 + 7) 48 [some (.ref (q1 0)), some (.int (nI p)), some (.int (nI c))] [.int (nI n)] (N + 1 + 1) q8 f8
  refine zr_ireturn Y d_B_delete_48 rfl (Nat.le_of_ble_eq_true rfl) (Nat.le_of_ble_eq_true rfl) ?_
  refine ⟨rfl, rfl, ⟨a1, a8, by rw [hq8, ← hq1]⟩, (p8 N (by omega) (by omega) (by omega) (by omega) (by omega)).trans up_eq, p1, p2, p3, p4, p5, p6, p7, fun jj k1 k2 k3 k4 k5 => (p8 jj (by omega) k2 k3 k4 k5).trans (up_ne (by omega) rfl)⟩
end
section
/-! the tree of versions: par, com (characters come), pl, mn (place, how many), pc (the piece), tz, tt (the text of a version) -/
def zTree (n : Nat) (par : Nat → Nat) (com : Nat → Bool) (pl mn : Nat → Nat) (pc : Nat → Nat → Int32) (tz : Nat → Nat) (tt : Nat → Nat → Int32) : Prop := tz 0 = 0 ∧ (∀ v, v < n → tz v ≤ 2000) ∧ ∀ v, 0 < v → v < n → par v < v ∧ zoK (com v) (pl v) (mn v) (tz (par v)) ∧ tz v = zoS (com v) (tz (par v)) (mn v) ∧ (∀ i, i < tz v → tt v i = zoT (com v) (tt (par v)) (pc v) (pl v) (mn v) (tz (par v)) i) ∧ (com v = false → ∀ i, i < mn v → pc v i = tt (par v) (pl v + i))
theorem zopen_in {g gp : Nat → Int32} {p c sz i : Nat} (h1 : p ≤ i) (h2 : i < p + c) : zopen g gp p c sz i = gp (i - p) := by
  unfold zopen va_cpy
  rw [if_pos ⟨h1, h2⟩, Nat.zero_add]
theorem zopen_hi {g gp : Nat → Int32} {p c sz i : Nat} (h1 : p + c ≤ i) (h2 : i < sz + c) (h3 : p ≤ sz) : zopen g gp p c sz i = g (i - c) := by
  unfold zopen va_cpy
  rw [if_neg (by omega), if_pos (by omega), show p + (i - (p + c)) = i - c by omega]
theorem zopen_lo {g gp : Nat → Int32} {p c sz i : Nat} (h1 : i < p) : zopen g gp p c sz i = g i := by
  unfold zopen va_cpy
  rw [if_neg (by omega), if_neg (by omega)]
theorem zclose_lo {g : Nat → Int32} {p c sz i : Nat} (h1 : i < p) : zclose g p c sz i = g i := by
  unfold zclose va_cpy
  rw [if_neg (by omega)]
theorem zclose_hi {g : Nat → Int32} {p c sz i : Nat} (h1 : p ≤ i) (h2 : i < sz - c) (h3 : p + c ≤ sz) : zclose g p c sz i = g (i + c) := by
  unfold zclose va_cpy
  rw [if_pos (by omega), show p + c + (i - p) = i + c by omega]
theorem zoT_congr {b : Bool} {tx t gp gq : Nat → Int32} {p c sz : Nat} (hk : zoK b p c sz) (h : ∀ i, i < sz → tx i = t i) (hg : b = true → ∀ i, i < c → gp i = gq i) : ∀ i, i < zoS b sz c → zoT b tx gp p c sz i = zoT b t gq p c sz i := by
  intro i hi
  cases b with
  | true =>
    have hk : p ≤ sz ∧ sz + c ≤ 2000 := hk
    have hi : i < sz + c := hi
    show zopen tx gp p c sz i = zopen t gq p c sz i
    by_cases h1 : i < p
    · rw [zopen_lo h1, zopen_lo h1, h i (by omega)]
    · by_cases h2 : i < p + c
      · rw [zopen_in (by omega) h2, zopen_in (by omega) h2, hg rfl _ (by omega)]
      · rw [zopen_hi (by omega) hi hk.1, zopen_hi (by omega) hi hk.1, h _ (by omega)]
  | false =>
    have hk : p + c ≤ sz ∧ sz ≤ 2000 := hk
    have hi : i < sz - c := hi
    show zclose tx p c sz i = zclose t p c sz i
    by_cases h1 : i < p
    · rw [zclose_lo h1, zclose_lo h1, h i (by omega)]
    · rw [zclose_hi (by omega) hi hk.1, zclose_hi (by omega) hi hk.1, h _ (by omega)]
section ZTree
variable {n : Nat} {par : Nat → Nat} {com : Nat → Bool} {pl mn : Nat → Nat} {pc : Nat → Nat → Int32} {tz : Nat → Nat} {tt : Nat → Nat → Int32}
theorem zTree.lt (T : zTree n par com pl mn pc tz tt) {v : Nat} (h0 : 0 < v) (h : v < n) : par v < v := (T.2.2 v h0 h).1
theorem zTree.ok (T : zTree n par com pl mn pc tz tt) {v : Nat} (h0 : 0 < v) (h : v < n) : zoK (com v) (pl v) (mn v) (tz (par v)) := (T.2.2 v h0 h).2.1
theorem zTree.sz (T : zTree n par com pl mn pc tz tt) {v : Nat} (h0 : 0 < v) (h : v < n) : tz v = zoS (com v) (tz (par v)) (mn v) := (T.2.2 v h0 h).2.2.1
/-- stepping on: the text of the parent gives the child's -/
theorem zTree.on (T : zTree n par com pl mn pc tz tt) {v : Nat} (h0 : 0 < v) (h : v < n) {tx gp : Nat → Int32} (hx : ∀ i, i < tz (par v) → tx i = tt (par v) i) (hg : com v = true → ∀ i, i < mn v → gp i = pc v i) : ∀ i, i < tz v → zoT (com v) tx gp (pl v) (mn v) (tz (par v)) i = tt v i := by
  intro i hi
  obtain ⟨-, hk, hs, ht, -⟩ := T.2.2 v h0 h
  rw [ht i hi]
  exact zoT_congr hk hx hg i (by rw [← hs]; exact hi)
/-- stepping back: the edit undone -/
theorem zTree.back (T : zTree n par com pl mn pc tz tt) {v : Nat} (h0 : 0 < v) (h : v < n) : zoK (!(com v)) (pl v) (mn v) (tz v) ∧ zoS (!(com v)) (tz v) (mn v) = tz (par v) ∧ ∀ (tx : Nat → Int32), (∀ i, i < tz v → tx i = tt v i) → ∀ i, i < tz (par v) → zoT (!(com v)) tx (pc v) (pl v) (mn v) (tz v) i = tt (par v) i := by
  obtain ⟨hlt, hk, hs, ht, hd⟩ := T.2.2 v h0 h
  have h2 := T.2.1 v h
  have h3 := T.2.1 (par v) (by omega)
  cases hb : com v with
  | true =>
    rw [hb] at hk hs ht
    have hk : pl v ≤ tz (par v) ∧ tz (par v) + mn v ≤ 2000 := hk
    have hs : tz v = tz (par v) + mn v := hs
    refine ⟨⟨by omega, h2⟩, by show tz v - mn v = _; omega, fun tx hx i hi => ?_⟩
    show zclose tx (pl v) (mn v) (tz v) i = _
    by_cases h1 : i < pl v
    · rw [zclose_lo h1, hx i (by omega), ht i (by omega)]
      show zopen _ _ _ _ _ _ = _
      rw [zopen_lo h1]
    · rw [zclose_hi (by omega) (by omega) (by omega), hx _ (by omega), ht _ (by omega)]
      show zopen _ _ _ _ _ _ = _
      rw [zopen_hi (by omega) (by omega) hk.1, show i + mn v - mn v = i by omega]
  | false =>
    rw [hb] at hk hs ht
    have hk : pl v + mn v ≤ tz (par v) ∧ tz (par v) ≤ 2000 := hk
    have hs : tz v = tz (par v) - mn v := hs
    refine ⟨⟨by omega, by omega⟩, by show tz v + mn v = _; omega, fun tx hx i hi => ?_⟩
    show zopen tx (pc v) (pl v) (mn v) (tz v) i = _
    by_cases h1 : i < pl v
    · rw [zopen_lo h1, hx i (by omega), ht i (by omega)]
      show zclose _ _ _ _ _ = _
      rw [zclose_lo h1]
    · by_cases h4 : i < pl v + mn v
      · rw [zopen_in (by omega) h4, hd hb _ (by omega), show pl v + (i - pl v) = i by omega]
      · rw [zopen_hi (by omega) (by omega) (by omega), hx _ (by omega), ht _ (by omega)]
        show zclose _ _ _ _ _ = _
        rw [zclose_hi (by omega) (by omega) hk.1, show i - mn v + mn v = i by omega]
end ZTree
/-- the way to the root: k steps up from v -/
def zit (par : Nat → Nat) (v : Nat) : Nat → Nat
  | 0 => v
  | k + 1 => par (zit par v k)
/-! marks: of six, set ones have the same place on both sides -/
def zMk (sz : Nat) (iset ma mp : Nat → Int32) : Prop := ∀ m, m < 6 → ∃ a : Nat, a ≤ sz ∧ ma m = nI a ∧ ((iset m = nI 1 ∧ mp m = nI a) ∨ (iset m = nI 0 ∧ mp m = -1))
theorem zoM_at {b : Bool} {p c m : Nat} {mp mr : Nat → Int32} (hm : m < 6) : zoM b p c mp mr m = if b then zcm (nI p) (nI c) (mp m) (mr m) else zgm (nI p) (nI c) (mp m) := by
  cases b <;> simp [zoM, zst, hm]
theorem z_m1_lt {n : Nat} (h : n < 2 ^ 31) : (-1 : Int32) < nI n := by
  rw [Int32.lt_iff_toInt_lt, nI_toInt h]
  show (-1 : Int) < _
  omega
theorem zcm_m1 {p : Nat} (hp : p < 2 ^ 31) {C r : Int32} : zcm (nI p) C (-1) r = -1 := by
  unfold zcm
  rw [if_neg]
  rintro (h | ⟨h, -⟩)
  · exact absurd h (z_not_lt (Int32.le_of_lt (z_m1_lt hp)))
  · exact absurd h.symm (z_m1 hp)
theorem zgm_m1 {p c : Nat} (hp : p + c < 2 ^ 31) : zgm (nI p) (nI c) (-1) = -1 := by
  unfold zgm
  rw [nI_add, if_neg (fun h => h (z_m1_lt hp)), if_neg (fun h => h (Int32.le_of_lt (z_m1_lt (by omega))))]
theorem zcm_nI {p c a : Nat} {r : Int32} (hp : p < 2 ^ 31) (ha : a < 2 ^ 31) : zcm (nI p) (nI c) (nI a) r = nI (if p < a ∨ (a = p ∧ ¬ r = 0) then a + c else a) := by
  unfold zcm
  by_cases h : p < a ∨ (a = p ∧ ¬ r = 0)
  · rw [if_pos h, if_pos, nI_add]
    exact h.elim (fun h => Or.inl (nI_lt h ha)) (fun h => Or.inr ⟨by rw [h.1], h.2⟩)
  · rw [if_neg h, if_neg]
    rintro (h1 | ⟨h1, h2⟩)
    · exact h (Or.inl ((nI_ltI hp ha).mp h1))
    · exact h (Or.inr ⟨(nI_eq ha hp).mp h1, h2⟩)
theorem zgm_nI {p c a : Nat} (hp : p + c < 2 ^ 31) (ha : a < 2 ^ 31) : zgm (nI p) (nI c) (nI a) = nI (if p + c ≤ a then a - c else if p < a then p else a) := by
  unfold zgm
  rw [nI_add]
  by_cases h : p + c ≤ a
  · rw [if_pos h, if_pos (nI_nlt h ha), pk_sub (by omega)]
  · rw [if_neg h, if_neg (fun h1 => h1 (nI_lt (by omega) hp))]
    by_cases h2 : p < a
    · rw [if_pos h2, if_pos (nI_ge h2 ha)]
    · rw [if_neg h2, if_neg (fun h1 => h1 (nI_le (by omega) (by omega)))]
theorem zMk.step {b : Bool} {p c sz : Nat} {iset ma mp mr mr' : Nat → Int32} (h : zMk sz iset ma mp) (hk : zoK b p c sz) (hr : ∀ m, m < 6 → mr m = mr' m) : zMk (zoS b sz c) iset (zoM b p c ma mr) (zoM b p c mp mr') := by
  intro m hm
  obtain ⟨a, ha, h1, h2⟩ := h m hm
  rw [zoM_at hm, zoM_at hm, h1, ← hr m hm]
  cases b with
  | true =>
    have hk : p ≤ sz ∧ sz + c ≤ 2000 := hk
    simp only [if_true]
    rw [zcm_nI (by omega) (by omega)]
    refine ⟨_, ?_, rfl, ?_⟩
    · show _ ≤ sz + c
      split <;> omega
    · rcases h2 with ⟨h3, h4⟩ | ⟨h3, h4⟩
      · exact Or.inl ⟨h3, by rw [h4, zcm_nI (by omega) (by omega)]⟩
      · exact Or.inr ⟨h3, by rw [h4, zcm_m1 (by omega)]⟩
  | false =>
    have hk : p + c ≤ sz ∧ sz ≤ 2000 := hk
    simp only [Bool.false_eq_true, if_false]
    rw [zgm_nI (by omega) (by omega)]
    refine ⟨_, ?_, rfl, ?_⟩
    · show _ ≤ sz - c
      split
      · omega
      · split <;> omega
    · rcases h2 with ⟨h3, h4⟩ | ⟨h3, h4⟩
      · exact Or.inl ⟨h3, by rw [h4, zgm_nI (by omega) (by omega)]⟩
      · exact Or.inr ⟨h3, by rw [h4, zgm_m1 (by omega)]⟩
end
section
/-- the reference's arrays hold the tree -/
def zMT (n : Nat) (par : Nat → Nat) (com : Nat → Bool) (tp tc : Nat → Nat) (tq : Nat → Nat → Int32) (pa co pl mn fi pool : Nat → Int32) : Prop := ∀ v, 0 < v → v < n → pa v = nI (par v) ∧ co v = zbi (com v) ∧ pl v = nI (tp v) ∧ mn v = nI (tc v) ∧ (com v = true → ∃ a, fi v = nI a ∧ a + tc v ≤ 2000 ∧ ∀ i, i < tc v → pool (a + i) = tq v i)
theorem z_pool {pool X : Nat → Int32} {a p c : Nat} : va_cpy pool X a p c = va_cpy (fun i => pool (a + i)) X 0 p c := by
  funext m
  unfold va_cpy
  split
  · show _ = pool (a + (0 + (m - p)))
    rw [Nat.zero_add]
  · rfl
theorem zit_succ {par : Nat → Nat} {v k : Nat} : zit par v (k + 1) = par (zit par v k) := rfl

theorem c_O_moveMarks {l : Launch} {D : va_G} {cI cC cZ cV : ClassId} {N : Nat} {q : Nat → Nat} {f : zF} (hN : 23 ≤ N) {n po th sz ty : Nat} (h10 : f 10 = zmo q n po th sz ty) {ma : Nat → Int32} (h21 : f 21 = .inl (cI, 6, .inl ma)) {mr : Nat → Int32} (h22 : f 22 = .inl (cZ, 6, .inl mr)) {p c : Nat} {b : Bool} : zC l y_O_moveMarks b_O_moveMarks 6 none (rmD 0 0 0) D (zty cI cC cZ cV) [.ref (q 10), .int (nI p), .int (nI c), .int (zbi b)] N q f (pW N q (va_up f 21 (.inl (cI, 6, .inl (zoM b p c ma mr))))) := by
  cases b with
  | true => exact c_O_moveIn hN h10 h21 h22
  | false => exact c_O_moveOut hN h10 h21 h22

set_option maxRecDepth 100000 in
set_option maxHeartbeats 4000000 in
theorem c_O_make {l : Launch} {D : va_G} {cI cC cZ cV : ClassId} {N : Nat} {q : Nat → Nat} {f : zF} (hN : 23 ≤ N) {n po th sz ty : Nat} (h10 : f 10 = zmo q n po th sz ty) {pa : Nat → Int32} (h11 : f 11 = .inl (cI, 122, .inl pa)) {co : Nat → Int32} (h12 : f 12 = .inl (cZ, 122, .inl co)) {pl : Nat → Int32} (h13 : f 13 = .inl (cI, 122, .inl pl)) {mn : Nat → Int32} (h14 : f 14 = .inl (cI, 122, .inl mn)) {fi : Nat → Int32} (h15 : f 15 = .inl (cI, 122, .inl fi)) {pool : Nat → Int32} (h16 : f 16 = .inl (cC, 2000, .inl pool)) {tx : Nat → Int32} (h17 : f 17 = .inl (cC, 2000, .inl tx)) {way : Nat → Int32} (h18 : f 18 = .inl (cI, 122, .inl way)) (htx : zCh tx) (hpool : zCh pool) {par : Nat → Nat} {com : Nat → Bool} {tp tc : Nat → Nat} {tq : Nat → Nat → Int32} {tz : Nat → Nat} {tt : Nat → Nat → Int32} (T : zTree n par com tp tc tq tz tt) (M : zMT n par com tp tc tq pa co pl mn fi pool) (hth : th < n) (hn : n ≤ 122) : zC l y_O_make b_O_make 3 none (rmD 1 0 0) D (zty cI cC cZ cV) [.ref (q 10)] N q f (pV N q (fun f' => ∃ g w, f' 10 = zmo q n po th (tz th) ty ∧ f' 17 = .inl (cC, 2000, .inl g) ∧ f' 18 = .inl (cI, 122, .inl w) ∧ zCh g ∧ (∀ j, j < tz th → g j = tt th j) ∧ ∀ jj, jj ≠ 10 → jj ≠ 17 → jj ≠ 18 → f' jj = f jj)) := by
  refine zC.of (by decide) (by simp [Value.category]) (Nat.le_of_ble_eq_true rfl) (fun G X Y => ?_)
  show G 0 0 0 [some (.ref (q 10)), none, none] [] N q f
  have loop2 : ∀ (m : Nat) (w : Nat → Int32), m < 122 → (∀ k, k < m → w k = nI (zit par th k) ∧ 0 < zit par th k ∧ zit par th k < n) → ∀ (i : Nat) (F : zF) (g : Nat → Int32), i ≤ m → F 10 = zmo q n po th (tz (zit par th i)) ty → F 17 = .inl (cC, 2000, .inl g) → zCh g → (∀ j, j < tz (zit par th i) → g j = tt (zit par th i) j) → F 18 = .inl (cI, 122, .inl w) → (∀ jj, jj ≠ 10 → jj ≠ 17 → jj ≠ 18 → F jj = f jj) → G 0 0 40 [some (.ref (q 10)), some (.int (nI m)), some (.int (nI i - 1))] [] N q F := by
    intro m w hm hw i
    induction i with
    | zero =>
      intro F g hi hF10 hF17 hg hgt hF18 hF
      show G 0 0 40 [some (.ref (q 10)), some (.int (nI m)), some (.int (nI 0 - 1))] [] N q F
      refine zr_iload_n X d_O_make_40 rfl ?_
      refine zr_if_ltt (tgt := 87) X d_O_make_41 rfl (by decide) ?_
      refine zr_return Y d_O_make_87 (Nat.le_of_ble_eq_true rfl) (Nat.le_of_ble_eq_true rfl) ?_
      exact ⟨rfl, rfl, rfl, g, w, hF10, hF17, hF18, hg, hgt, hF⟩
    | succ i ih =>
      intro F g hi hF10 hF17 hg hgt hF18 hF
      rw [nI_pred i]
      obtain ⟨hw1, hw2, hw3⟩ := hw i (by omega)
      have hF11 : F 11 = .inl (cI, 122, .inl pa) := (hF 11 (by decide) (by decide) (by decide)).trans h11
      have hF12 : F 12 = .inl (cZ, 122, .inl co) := (hF 12 (by decide) (by decide) (by decide)).trans h12
      have hF13 : F 13 = .inl (cI, 122, .inl pl) := (hF 13 (by decide) (by decide) (by decide)).trans h13
      have hF14 : F 14 = .inl (cI, 122, .inl mn) := (hF 14 (by decide) (by decide) (by decide)).trans h14
      have hF15 : F 15 = .inl (cI, 122, .inl fi) := (hF 15 (by decide) (by decide) (by decide)).trans h15
      have hF16 : F 16 = .inl (cC, 2000, .inl pool) := (hF 16 (by decide) (by decide) (by decide)).trans h16
      obtain ⟨hM1, hM2, hM3, hM4, hM5⟩ := M _ hw2 hw3
      have hk := T.ok hw2 hw3
      have hs := T.sz hw2 hw3
      have h2k := T.2.1 _ hw3
      have hon := fun gp => T.on hw2 hw3 (tx := g) (gp := gp)
      rw [← zit_succ (par := par) (v := th) (k := i)] at hk hs hon
      cases hb : com (zit par th i) with
      | true =>
        rw [hb] at hk hs hM2 hM5 hon
        have hk : tp (zit par th i) ≤ tz (zit par th (i + 1)) ∧ tz (zit par th (i + 1)) + tc (zit par th i) ≤ 2000 := hk
        have hs : tz (zit par th i) = tz (zit par th (i + 1)) + tc (zit par th i) := hs
        obtain ⟨a, ha, hac, hpp⟩ := hM5 rfl
        show G 0 0 40 [some (.ref (q 10)), some (.int (nI m)), some (.int (nI i))] [] N q F
        refine zr_iload_n X d_O_make_40 rfl ?_
        refine zr_if_ltf (tgt := 87) X d_O_make_41 rfl (nI_pos (by omega)) ?_
        refine zr_aload_n X d_O_make_44 rfl ?_
        refine zr_get X F_O_17 d_O_make_45 (by omega) hF10 (v := .ref (q 12)) rfl ?_
        refine zr_aload_n X d_O_make_48 rfl ?_
        refine zr_get X F_O_37 d_O_make_49 (by omega) hF10 (v := .ref (q 18)) rfl ?_
        refine zr_iload_n X d_O_make_52 rfl ?_
        refine zr_iaload (v := nI (zit par th i)) X 0 d_O_make_53 (by omega) hF18 rfl (by omega) (by decide) hw1 ?_
        refine zr_baload (v := zbi true) X 2 d_O_make_54 (by omega) hF12 rfl (by omega) (by decide) hM2 ?_
        refine zr_if_eqf (tgt := 71) X d_O_make_55 rfl (by decide) ?_
        refine zr_aload_n X d_O_make_58 rfl ?_
        refine zr_aload_n X d_O_make_59 rfl ?_
        refine zr_get X F_O_37 d_O_make_60 (by omega) hF10 (v := .ref (q 18)) rfl ?_
        refine zr_iload_n X d_O_make_63 rfl ?_
        refine zr_iaload (v := nI (zit par th i)) X 0 d_O_make_64 (by omega) hF18 rfl (by omega) (by decide) hw1 ?_
        refine zr_callV X K_O_65 KI_O_65 KS_O_65 (c_O_bring hN hF10 hF13 hF14 hF15 hF16 hF17 hg hpool (by omega) hM3 hM4 ha hk.1 hk.2 hac) d_O_make_65 (by omega) hF10 rfl rfl (by decide) (Nat.le_of_ble_eq_true rfl) (by decide) (st := []) rfl (kW ?_)
        show G 0 0 68 [some (.ref (q 10)), some (.int (nI m)), some (.int (nI i))] [] N q (va_up (va_up F 17 (.inl (cC, 2000, .inl (va_cpy pool (va_cpy g g (tp (zit par th i)) (tp (zit par th i) + tc (zit par th i)) (tz (zit par th (i + 1)) - tp (zit par th i))) a (tp (zit par th i)) (tc (zit par th i)))))) 10 (.inr (iO, [.int (nI n), .ref (q 11), .ref (q 12), .ref (q 13), .ref (q 14), .ref (q 15), .int (nI po), .ref (q 16), .int (nI th), .int (nI (tz (zit par th (i + 1)) + tc (zit par th i))), .ref (q 17), .ref (q 18), .int (nI ty), .ref (q 19), .ref (q 20), .ref (q 21), .ref (q 22)])))
        refine zr_goto (tgt := 81) X d_O_make_68 rfl ?_
        refine zr_iinc (v := nI i - 1) (lv' := [some (.ref (q 10)), some (.int (nI m)), some (.int (nI i - 1))]) X d_O_make_81 rfl (z_dec _) (by decide) rfl ?_
        refine zr_goto (tgt := 40) X d_O_make_84 rfl ?_
        refine ih _ _ (by omega) (up_eq.trans (by rw [hs])) (up_ne (by decide) up_eq) (zCh.cpy hpool (zCh.cpy hg hg)) (fun j hj => ?_) (up_ne (by decide) (up_ne (by decide) hF18)) (fun jj k1 k2 k3 => (up_ne k1 (up_ne k2 (hF jj k1 k2 k3))))
        have h9 := hon (fun i => pool (a + i)) hgt (fun _ => hpp) j hj
        rw [z_pool]
        exact h9
      | false =>
        rw [hb] at hk hs hM2 hM5 hon
        have hk : tp (zit par th i) + tc (zit par th i) ≤ tz (zit par th (i + 1)) ∧ tz (zit par th (i + 1)) ≤ 2000 := hk
        have hs : tz (zit par th i) = tz (zit par th (i + 1)) - tc (zit par th i) := hs
        show G 0 0 40 [some (.ref (q 10)), some (.int (nI m)), some (.int (nI i))] [] N q F
        refine zr_iload_n X d_O_make_40 rfl ?_
        refine zr_if_ltf (tgt := 87) X d_O_make_41 rfl (nI_pos (by omega)) ?_
        refine zr_aload_n X d_O_make_44 rfl ?_
        refine zr_get X F_O_17 d_O_make_45 (by omega) hF10 (v := .ref (q 12)) rfl ?_
        refine zr_aload_n X d_O_make_48 rfl ?_
        refine zr_get X F_O_37 d_O_make_49 (by omega) hF10 (v := .ref (q 18)) rfl ?_
        refine zr_iload_n X d_O_make_52 rfl ?_
        refine zr_iaload (v := nI (zit par th i)) X 0 d_O_make_53 (by omega) hF18 rfl (by omega) (by decide) hw1 ?_
        refine zr_baload (v := zbi false) X 2 d_O_make_54 (by omega) hF12 rfl (by omega) (by decide) hM2 ?_
        refine zr_if_eqt (tgt := 71) X d_O_make_55 rfl (by decide) ?_
        refine zr_aload_n X d_O_make_71 rfl ?_
        refine zr_aload_n X d_O_make_72 rfl ?_
        refine zr_get X F_O_37 d_O_make_73 (by omega) hF10 (v := .ref (q 18)) rfl ?_
        refine zr_iload_n X d_O_make_76 rfl ?_
        refine zr_iaload (v := nI (zit par th i)) X 0 d_O_make_77 (by omega) hF18 rfl (by omega) (by decide) hw1 ?_
        refine zr_callV X K_O_69 KI_O_69 KS_O_69 (c_O_take hN hF10 hF13 hF14 hF17 hg (by omega) hM3 hM4 hk.1 hk.2) d_O_make_78 (by omega) hF10 rfl rfl (by decide) (Nat.le_of_ble_eq_true rfl) (by decide) (st := []) rfl (kW ?_)
        show G 0 0 81 [some (.ref (q 10)), some (.int (nI m)), some (.int (nI i))] [] N q (va_up (va_up F 10 (.inr (iO, [.int (nI n), .ref (q 11), .ref (q 12), .ref (q 13), .ref (q 14), .ref (q 15), .int (nI po), .ref (q 16), .int (nI th), .int (nI (tz (zit par th (i + 1)) - tc (zit par th i))), .ref (q 17), .ref (q 18), .int (nI ty), .ref (q 19), .ref (q 20), .ref (q 21), .ref (q 22)]))) 17 (.inl (cC, 2000, .inl (va_cpy g g (tp (zit par th i) + tc (zit par th i)) (tp (zit par th i)) (tz (zit par th (i + 1)) - tc (zit par th i) - tp (zit par th i))))))
        refine zr_iinc (v := nI i - 1) (lv' := [some (.ref (q 10)), some (.int (nI m)), some (.int (nI i - 1))]) X d_O_make_81 rfl (z_dec _) (by decide) rfl ?_
        refine zr_goto (tgt := 40) X d_O_make_84 rfl ?_
        refine ih _ _ (by omega) (up_ne (by decide) (up_eq.trans (by rw [hs]))) up_eq (zCh.cpy hg hg) (fun j hj => ?_) (up_ne (by decide) (up_ne (by decide) hF18)) (fun jj k1 k2 k3 => (up_ne k2 (up_ne k1 (hF jj k1 k2 k3))))
        have h9 := hon tx hgt (fun h8 => by cases h8) j hj
        rw [show tz (zit par th (i + 1)) - tc (zit par th i) - tp (zit par th i) = tz (zit par th (i + 1)) - (tp (zit par th i) + tc (zit par th i)) by omega]
        exact h9
  have loop1 : ∀ (d i : Nat) (w : Nat → Int32), zit par th i ≤ d → i + zit par th i ≤ th → (∀ k, k < i → w k = nI (zit par th k) ∧ 0 < zit par th k ∧ zit par th k < n) → G 0 0 7 [some (.ref (q 10)), some (.int (nI i)), some (.int (nI (zit par th i)))] [] N q (va_up f 18 (.inl (cI, 122, .inl w))) := by
    intro d
    induction d with
    | zero =>
      intro i w hd hb hw
      have hz : zit par th i = 0 := by omega
      show G 0 0 7 [some (.ref (q 10)), some (.int (nI i)), some (.int (nI (zit par th i)))] [] N q (va_up f 18 (.inl (cI, 122, .inl w)))
      refine zr_iload_n X d_O_make_7 rfl ?_
      refine zr_if_let (tgt := 31) X d_O_make_8 rfl (by rw [hz]; decide) ?_
      refine zr_aload_n X d_O_make_31 rfl ?_
      refine zr_iconst (v := nI 0) X d_O_make_32 (by decide) ?_
      refine zr_put (fs' := [.int (nI n), .ref (q 11), .ref (q 12), .ref (q 13), .ref (q 14), .ref (q 15), .int (nI po), .ref (q 16), .int (nI th), .int (nI 0), .ref (q 17), .ref (q 18), .int (nI ty), .ref (q 19), .ref (q 20), .ref (q 21), .ref (q 22)]) X F_O_55 d_O_make_33 (by omega) (up_ne (by decide) h10) rfl rfl (Nat.le_of_ble_eq_true rfl) rfl ?_
      refine zr_iload_n X d_O_make_36 rfl ?_
      refine zr_iconst (v := nI 1) X d_O_make_37 (by decide) ?_
      refine zr_isub (z := nI i - 1) X d_O_make_38 rfl ?_
      refine zr_istore_n (lv' := [some (.ref (q 10)), some (.int (nI i)), some (.int (nI i - 1))]) X d_O_make_39 (by decide) rfl ?_
      refine loop2 i w (by omega) (fun k hk => ⟨(hw k hk).1, (hw k hk).2.1, (hw k hk).2.2⟩) i _ tx (Nat.le_refl _) (up_eq.trans (by rw [hz, T.1])) (up_ne (by decide) (up_ne (by decide) h17)) htx (fun j hj => ?_) (up_ne (by decide) up_eq) (fun jj k1 k2 k3 => up_ne k1 (up_ne k3 rfl))
      rw [hz, T.1] at hj
      exact absurd hj (Nat.not_lt_zero _)
    | succ d ih =>
      intro i w hd hb hw
      by_cases hz : zit par th i = 0
      · skip
        show G 0 0 7 [some (.ref (q 10)), some (.int (nI i)), some (.int (nI (zit par th i)))] [] N q (va_up f 18 (.inl (cI, 122, .inl w)))
        refine zr_iload_n X d_O_make_7 rfl ?_
        refine zr_if_let (tgt := 31) X d_O_make_8 rfl (by rw [hz]; decide) ?_
        refine zr_aload_n X d_O_make_31 rfl ?_
        refine zr_iconst (v := nI 0) X d_O_make_32 (by decide) ?_
        refine zr_put (fs' := [.int (nI n), .ref (q 11), .ref (q 12), .ref (q 13), .ref (q 14), .ref (q 15), .int (nI po), .ref (q 16), .int (nI th), .int (nI 0), .ref (q 17), .ref (q 18), .int (nI ty), .ref (q 19), .ref (q 20), .ref (q 21), .ref (q 22)]) X F_O_55 d_O_make_33 (by omega) (up_ne (by decide) h10) rfl rfl (Nat.le_of_ble_eq_true rfl) rfl ?_
        refine zr_iload_n X d_O_make_36 rfl ?_
        refine zr_iconst (v := nI 1) X d_O_make_37 (by decide) ?_
        refine zr_isub (z := nI i - 1) X d_O_make_38 rfl ?_
        refine zr_istore_n (lv' := [some (.ref (q 10)), some (.int (nI i)), some (.int (nI i - 1))]) X d_O_make_39 (by decide) rfl ?_
        refine loop2 i w (by omega) (fun k hk => ⟨(hw k hk).1, (hw k hk).2.1, (hw k hk).2.2⟩) i _ tx (Nat.le_refl _) (up_eq.trans (by rw [hz, T.1])) (up_ne (by decide) (up_ne (by decide) h17)) htx (fun j hj => ?_) (up_ne (by decide) up_eq) (fun jj k1 k2 k3 => up_ne k1 (up_ne k3 rfl))
        rw [hz, T.1] at hj
        exact absurd hj (Nat.not_lt_zero _)
      · skip
        have hz2 : 0 < zit par th i := by omega
        have hz3 : zit par th i < n := by omega
        have hlt := T.lt hz2 hz3
        rw [← zit_succ (par := par) (v := th) (k := i)] at hlt
        show G 0 0 7 [some (.ref (q 10)), some (.int (nI i)), some (.int (nI (zit par th i)))] [] N q (va_up f 18 (.inl (cI, 122, .inl w)))
        refine zr_iload_n X d_O_make_7 rfl ?_
        refine zr_if_lef (tgt := 31) X d_O_make_8 rfl (nI_nle hz2 (by omega)) ?_
        refine zr_aload_n X d_O_make_11 rfl ?_
        refine zr_get X F_O_37 d_O_make_12 (by omega) (up_ne (by decide) h10) (v := .ref (q 18)) rfl ?_
        refine zr_iload_n X d_O_make_15 rfl ?_
        refine zr_iload_n X d_O_make_16 rfl ?_
        refine zr_iastore X 0 d_O_make_17 (by omega) up_eq rfl (by omega) (by decide) ?_
        refine zr_iinc (v := nI (i + 1)) (lv' := [some (.ref (q 10)), some (.int (nI (i + 1))), some (.int (nI (zit par th i)))]) X d_O_make_18 rfl (nI_1 _) (by decide) rfl ?_
        refine zr_aload_n X d_O_make_21 rfl ?_
        refine zr_get X F_O_13 d_O_make_22 (by omega) (up_ne (by decide) (up_ne (by decide) h10)) (v := .ref (q 11)) rfl ?_
        refine zr_iload_n X d_O_make_25 rfl ?_
        refine zr_iaload (v := nI (zit par th (i + 1))) X 0 d_O_make_26 (by omega) (up_ne (by decide) (up_ne (by decide) h11)) rfl (by omega) (by decide) (M _ hz2 hz3).1 ?_
        refine zr_istore_n (lv' := [some (.ref (q 10)), some (.int (nI (i + 1))), some (.int (nI (zit par th (i + 1))))]) X d_O_make_27 (by decide) rfl ?_
        refine zr_goto (tgt := 7) X d_O_make_28 rfl ?_
        rw [bx_uu]
        refine ih (i + 1) _ (by omega) (by omega) (fun k hk => ?_)
        by_cases hk2 : k = i
        · rw [hk2]
          exact ⟨pk_us, hz2, hz3⟩
        · exact ⟨(pk_un hk2).trans (hw k (by omega)).1, (hw k (by omega)).2⟩
  refine zr_iconst (v := nI 0) X d_O_make_0 (by decide) ?_
  refine zr_istore_n (lv' := [some (.ref (q 10)), some (.int (nI 0)), none]) X d_O_make_1 (by decide) rfl ?_
  refine zr_aload_n X d_O_make_2 rfl ?_
  refine zr_get X F_O_62 d_O_make_3 (by omega) h10 (v := .int (nI th)) rfl ?_
  refine zr_istore_n (lv' := [some (.ref (q 10)), some (.int (nI 0)), some (.int (nI th))]) X d_O_make_6 (by decide) rfl ?_
  have h9 := loop1 th 0 way (Nat.le_refl _) (by show 0 + th ≤ th; omega) (fun k hk => absurd hk (Nat.not_lt_zero _))
  rw [up_self h18] at h9
  exact h9
end
section
section ZIt
variable {n : Nat} {par : Nat → Nat}
theorem zit_step (hp : ∀ v, 0 < v → v < n → par v < v) (h0 : par 0 = 0) {v : Nat} (hv : v < n) : ∀ k, zit par v (k + 1) ≤ zit par v k ∧ zit par v k < n
  | 0 => by
    refine ⟨?_, hv⟩
    show par v ≤ v
    by_cases h : v = 0
    · rw [h, h0]; exact Nat.le_refl _
    · exact Nat.le_of_lt (hp v (by omega) hv)
  | k + 1 => by
    have ih := zit_step hp h0 hv k
    have h1 : zit par v (k + 1) < n := by omega
    refine ⟨?_, h1⟩
    show par (zit par v (k + 1)) ≤ zit par v (k + 1)
    by_cases h : zit par v (k + 1) = 0
    · rw [h, h0]; exact Nat.le_refl _
    · exact Nat.le_of_lt (hp _ (by omega) h1)
theorem zit_mono (hp : ∀ v, 0 < v → v < n → par v < v) (h0 : par 0 = 0) {v : Nat} (hv : v < n) {j k : Nat} (h : j ≤ k) : zit par v k ≤ zit par v j := by
  induction h with
  | refl => exact Nat.le_refl _
  | step _ ih => exact Nat.le_trans (zit_step hp h0 hv _).1 ih
theorem zit_lt (hp : ∀ v, 0 < v → v < n → par v < v) (h0 : par 0 = 0) {v : Nat} (hv : v < n) (k : Nat) : zit par v k < n := (zit_step hp h0 hv k).2
/-- each step up from a version that isn't the root takes one off -/
theorem zit_down (hp : ∀ v, 0 < v → v < n → par v < v) (h0 : par 0 = 0) {v : Nat} (hv : v < n) : ∀ k, zit par v k = 0 ∨ zit par v k + k ≤ v
  | 0 => Or.inr (Nat.le_refl _)
  | k + 1 => by
    rcases zit_down hp h0 hv k with h | h
    · exact Or.inl (by show par (zit par v k) = 0; rw [h, h0])
    · by_cases h1 : zit par v k = 0
      · exact Or.inl (by show par (zit par v k) = 0; rw [h1, h0])
      · have h2 := hp (zit par v k) (by omega) (zit_lt hp h0 hv k)
        exact Or.inr (by show par (zit par v k) + (k + 1) ≤ v; omega)
theorem zit_root (hp : ∀ v, 0 < v → v < n → par v < v) (h0 : par 0 = 0) {v : Nat} (hv : v < n) : zit par v v = 0 := by
  rcases zit_down hp h0 hv v with h | h <;> omega
theorem zit_zero (h0 : par 0 = 0) {v j : Nat} (h : zit par v j = 0) : ∀ k, zit par v (j + k) = 0
  | 0 => h
  | k + 1 => by show par (zit par v (j + k)) = 0; rw [zit_zero h0 h k, h0]
/-- going from a to b: back so many steps, then on so many -/
def zWay (par : Nat → Nat) (a b kb ko : Nat) : Prop := zit par a kb = zit par b ko ∧ (∀ i, i < kb → ∀ k, zit par b k ≠ zit par a i) ∧ ∀ k, k < ko → zit par b k ≠ zit par a kb
theorem zWay_is (hp : ∀ v, 0 < v → v < n → par v < v) (h0 : par 0 = 0) {a b : Nat} (ha : a < n) (hb : b < n) : ∃ kb ko, zWay par a b kb ko := by
  obtain ⟨kb, ⟨k0, h1⟩, h2⟩ := pk_least (fun i => ∃ k, zit par b k = zit par a i) ⟨a, b, by rw [zit_root hp h0 ha, zit_root hp h0 hb]⟩
  obtain ⟨ko, h3, h4⟩ := pk_least (fun k => zit par b k = zit par a kb) ⟨k0, h1⟩
  exact ⟨kb, ko, h3.symm, fun i hi k h => h2 i hi ⟨k, h⟩, fun k hk => h4 k hk⟩
/-- as long as the way back isn't gone, no root: no more steps than a's number -/
theorem zWay.back (hp : ∀ v, 0 < v → v < n → par v < v) (h0 : par 0 = 0) {a b kb ko : Nat} (ha : a < n) (hb : b < n) (w : zWay par a b kb ko) {i : Nat} (hi : i < kb) : 0 < zit par a i := by
  by_cases h : zit par a i = 0
  · exact absurd (by rw [h, zit_root hp h0 hb]) (w.2.1 i hi b)
  · omega
theorem zWay.on (h0 : par 0 = 0) {a b kb ko : Nat} (w : zWay par a b kb ko) {k : Nat} (hk : k < ko) : 0 < zit par b k := by
  by_cases h : zit par b k = 0
  · have h1 := zit_zero h0 h (ko - k)
    rw [show k + (ko - k) = ko by omega] at h1
    exact absurd (h.trans (h1.symm.trans w.1.symm)) (w.2.2 k hk)
  · omega
theorem zWay.kb (hp : ∀ v, 0 < v → v < n → par v < v) (h0 : par 0 = 0) {a b kb ko : Nat} (ha : a < n) (hb : b < n) (w : zWay par a b kb ko) : kb ≤ a := by
  by_cases h : kb = 0
  · omega
  · have h1 := w.back hp h0 ha hb (i := kb - 1) (by omega)
    rcases zit_down hp h0 ha (kb - 1) with h2 | h2 <;> omega
theorem zWay.ko (hp : ∀ v, 0 < v → v < n → par v < v) (h0 : par 0 = 0) {a b kb ko : Nat} (hb : b < n) (w : zWay par a b kb ko) : ko ≤ b := by
  by_cases h : ko = 0
  · omega
  · have h1 := w.on h0 (k := ko - 1) (by omega)
    rcases zit_down hp h0 hb (ko - 1) with h2 | h2 <;> omega
/-- the class's walk: of two different versions on the two ways the greater one isn't where they meet -/
theorem zWay.gt (hp : ∀ v, 0 < v → v < n → par v < v) (h0 : par 0 = 0) {a b kb ko : Nat} (ha : a < n) (hb : b < n) (w : zWay par a b kb ko) {i j : Nat} (hi : i ≤ kb) (hj : j ≤ ko) : (zit par b j < zit par a i → i < kb) ∧ (zit par a i < zit par b j → j < ko) ∧ (zit par a i = zit par b j → i = kb ∧ j = ko) := by
  have m1 := zit_mono hp h0 ha hi
  have m2 := zit_mono hp h0 hb hj
  have e := w.1
  refine ⟨fun h => ?_, fun h => ?_, fun h => ?_⟩
  · by_cases h1 : i = kb
    · subst h1; omega
    · omega
  · by_cases h1 : j = ko
    · subst h1; omega
    · omega
  · have h1 : i = kb := by
      by_cases h1 : i = kb
      · exact h1
      · exact absurd h.symm (w.2.1 i (by omega) j)
    subst h1
    refine ⟨rfl, ?_⟩
    by_cases h2 : j = ko
    · exact h2
    · exact absurd h.symm (w.2.2 j (by omega))
end ZIt
/-- marks behind i steps back from a; behind k steps on of the last ko up to b -/
def zbks (par : Nat → Nat) (com : Nat → Bool) (tp tc : Nat → Nat) (a : Nat) (mr ma : Nat → Int32) : Nat → Nat → Int32
  | 0 => ma
  | i + 1 => zoM (!(com (zit par a i))) (tp (zit par a i)) (tc (zit par a i)) (zbks par com tp tc a mr ma i) mr
def zons (par : Nat → Nat) (com : Nat → Bool) (tp tc : Nat → Nat) (b ko : Nat) (mr ma : Nat → Int32) : Nat → Nat → Int32
  | 0 => ma
  | s + 1 => zoM (com (zit par b (ko - (s + 1)))) (tp (zit par b (ko - (s + 1)))) (tc (zit par b (ko - (s + 1)))) (zons par com tp tc b ko mr ma s) mr
/-! the class's cells of the versions, and of the version that is there -/
def zVs (cC : ClassId) (q : Nat → Nat) (f : zF) (n : Nat) (par : Nat → Nat) (com : Nat → Bool) (tp tc : Nat → Nat) (tq : Nat → Nat → Int32) (cn : Nat → Nat) (lat : Nat → Value) : Prop := ∀ v, v < n → f (24 + 2 * v) = zver q v (if v = 0 then .null else .ref (q (24 + 2 * par v))) (zbi (com v)) (tp v) (23 + 2 * v) (cn v) (lat v) ∧ f (23 + 2 * v) = .inl (cC, tc v, .inl (tq v)) ∧ zCh (tq v)
def zCur (cC cI : ClassId) (q : Nat → Nat) (n ins u : Nat) (tz : Nat → Nat) (tt : Nat → Nat → Int32) (mp : Nat → Int32) (f : zF) : Prop := f 0 = zbo q n ins (24 + 2 * u) ∧ f 1 = zrow q 2 (tz u) ∧ (∃ tx, f 2 = .inl (cC, 2000, .inl tx) ∧ zCh tx ∧ ∀ i, i < tz u → tx i = tt u i) ∧ f 6 = .inl (cI, 6, .inl mp)
theorem zVs.par {cC : ClassId} {q : Nat → Nat} {f : zF} {n : Nat} {par : Nat → Nat} {com : Nat → Bool} {tp tc : Nat → Nat} {tq : Nat → Nat → Int32} {cn : Nat → Nat} {lat : Nat → Value} (V : zVs cC q f n par com tp tc tq cn lat) {v : Nat} (h0 : 0 < v) (hv : v < n) : f (24 + 2 * v) = zver q v (.ref (q (24 + 2 * par v))) (zbi (com v)) (tp v) (23 + 2 * v) (cn v) (lat v) := by
  have h := (V v hv).1
  rwa [if_neg (by omega)] at h
theorem zVs.root {cC : ClassId} {q : Nat → Nat} {f : zF} {n : Nat} {par : Nat → Nat} {com : Nat → Bool} {tp tc : Nat → Nat} {tq : Nat → Nat → Int32} {cn : Nat → Nat} {lat : Nat → Value} (V : zVs cC q f n par com tp tc tq cn lat) (hv : 0 < n) : f 24 = zver q 0 .null (zbi (com 0)) (tp 0) 23 (cn 0) (lat 0) := by
  have h := (V 0 hv).1
  rwa [if_pos rfl] at h
theorem zVs.keep {cC : ClassId} {q : Nat → Nat} {f f' : zF} {n : Nat} {par : Nat → Nat} {com : Nat → Bool} {tp tc : Nat → Nat} {tq : Nat → Nat → Int32} {cn : Nat → Nat} {lat : Nat → Value} (V : zVs cC q f n par com tp tc tq cn lat) (h : ∀ jj, 23 ≤ jj → f' jj = f jj) : zVs cC q f' n par com tp tc tq cn lat := fun v hv => by
  obtain ⟨h1, h2, h3⟩ := V v hv
  exact ⟨(h _ (by omega)).trans h1, (h _ (by omega)).trans h2, h3⟩
section ZSteps
variable {l : Launch} {D : va_G} {cI cC cZ cV : ClassId} {N : Nat} {q : Nat → Nat} {f : zF} {n ins u : Nat} {par : Nat → Nat} {com : Nat → Bool} {tp tc : Nat → Nat} {tq : Nat → Nat → Int32} {tz : Nat → Nat} {tt : Nat → Nat → Int32} {cn : Nat → Nat} {lat : Nat → Value} {mp mr : Nat → Int32}
theorem c_B_stepBackV (hNn : 23 + 2 * n ≤ N) (Cu : zCur cC cI q n ins u tz tt mp f) (h5 : f 5 = .inr (iM, [.ref (q 6), .ref (q 7)])) (h7 : f 7 = .inl (cZ, 6, .inl mr)) (V : zVs cC q f n par com tp tc tq cn lat) (T : zTree n par com tp tc tq tz tt) (hu0 : 0 < u) (hu : u < n) : zC l y_B_stepBackTo b_B_stepBackTo 2 none (rmD 3 0 0) D (zty cI cC cZ cV) [.ref (q 0), .ref (q (24 + 2 * par u))] N q f (pV N q (fun f' => zCur cC cI q n ins (par u) tz tt (zoM (!(com u)) (tp u) (tc u) mp mr) f' ∧ ∀ jj, jj ≠ 0 → jj ≠ 1 → jj ≠ 2 → jj ≠ 6 → f' jj = f jj)) := by
  obtain ⟨h0, h1, ⟨tx, h2, htx, hag⟩, h6⟩ := Cu
  obtain ⟨k1, k2, k3⟩ := T.back hu0 hu
  refine zC.imp (c_B_stepBackTo (by omega) h0 h1 h2 h5 h6 h7 (jp := 23 + 2 * u) (by omega) (by omega) (V u hu).2.1 htx (V u hu).2.2 (by omega) (by omega) (V.par hu0 hu) k1) ?_
  rintro v N' q' f' ⟨rfl, rfl, rfl, rfl⟩
  refine ⟨rfl, rfl, rfl, ⟨up_eq, ?_, ⟨_, ?_, ?_, k3 tx hag⟩, ?_⟩, fun jj a b c d => up_ne a (up_ne d (up_ne b (up_ne c rfl)))⟩
  · rw [← k2]
    exact up_ne (by decide) (up_ne (by decide) up_eq)
  · exact up_ne (by decide) (up_ne (by decide) (up_ne (by decide) up_eq))
  · unfold zoT
    split
    · exact zCh.cpy (V u hu).2.2 (zCh.cpy htx htx)
    · exact zCh.cpy htx htx
  · exact up_ne (by decide) up_eq
theorem c_B_stepOnV (hNn : 23 + 2 * n ≤ N) {w : Nat} (Cu : zCur cC cI q n ins (par w) tz tt mp f) (h5 : f 5 = .inr (iM, [.ref (q 6), .ref (q 7)])) (h7 : f 7 = .inl (cZ, 6, .inl mr)) (V : zVs cC q f n par com tp tc tq cn lat) (T : zTree n par com tp tc tq tz tt) (hw0 : 0 < w) (hw : w < n) : zC l y_B_stepOnTo b_B_stepOnTo 2 none (rmD 3 0 0) D (zty cI cC cZ cV) [.ref (q 0), .ref (q (24 + 2 * w))] N q f (pV N q (fun f' => zCur cC cI q n ins w tz tt (zoM (com w) (tp w) (tc w) mp mr) f' ∧ ∀ jj, jj ≠ 0 → jj ≠ 1 → jj ≠ 2 → jj ≠ 6 → f' jj = f jj)) := by
  obtain ⟨h0, h1, ⟨tx, h2, htx, hag⟩, h6⟩ := Cu
  refine zC.imp (c_B_stepOnTo (by omega) h0 h1 h2 h5 h6 h7 (jp := 23 + 2 * w) (by omega) (by omega) (V w hw).2.1 htx (V w hw).2.2 (by omega) (by omega) (V.par hw0 hw) (T.ok hw0 hw)) ?_
  rintro v N' q' f' ⟨rfl, rfl, rfl, rfl⟩
  refine ⟨rfl, rfl, rfl, ⟨up_eq, ?_, ⟨_, ?_, ?_, T.on hw0 hw hag (fun _ i _ => rfl)⟩, ?_⟩, fun jj a b c d => up_ne a (up_ne d (up_ne b (up_ne c rfl)))⟩
  · rw [T.sz hw0 hw]
    exact up_ne (by decide) (up_ne (by decide) up_eq)
  · exact up_ne (by decide) (up_ne (by decide) (up_ne (by decide) up_eq))
  · unfold zoT
    split
    · exact zCh.cpy (V w hw).2.2 (zCh.cpy htx htx)
    · exact zCh.cpy htx htx
  · exact up_ne (by decide) up_eq
end ZSteps
end
section
set_option maxRecDepth 100000 in
set_option maxHeartbeats 4000000 in
theorem c_B_stepAlongWay {l : Launch} {D : va_G} {cI cC cZ cV : ClassId} {N : Nat} {q : Nat → Nat} {f : zF} {n ins : Nat} {par : Nat → Nat} {com : Nat → Bool} {tp tc : Nat → Nat} {tq : Nat → Nat → Int32} {tz : Nat → Nat} {tt : Nat → Nat → Int32} {cn : Nat → Nat} {lat : Nat → Value} {mp mr : Nat → Int32} (hNn : 23 + 2 * n ≤ N) (h5 : f 5 = .inr (iM, [.ref (q 6), .ref (q 7)])) (h7 : f 7 = .inl (cZ, 6, .inl mr)) (V : zVs cC q f n par com tp tc tq cn lat) (T : zTree n par com tp tc tq tz tt) {b ko : Nat} {wo : Nat → Option Nat} (h9 : f 9 = .inl (cV, 122, .inr (.inr (.inr (.inr wo))))) (hko : ko ≤ 122) (hwo : ∀ k, k < ko → wo k = some (q (24 + 2 * zit par b k)) ∧ 0 < zit par b k ∧ zit par b k < n) (Cu : zCur cC cI q n ins (zit par b ko) tz tt mp f) : zC l y_B_stepAlongWay b_B_stepAlongWay 4 none (rmD 4 0 0) D (zty cI cC cZ cV) [.ref (q 0), .int (nI ko)] N q f (pV N q (fun f' => zCur cC cI q n ins b tz tt (zons par com tp tc b ko mr mp ko) f' ∧ (∀ jj, jj ≠ 0 → jj ≠ 1 → jj ≠ 2 → jj ≠ 6 → f' jj = f jj))) := by
  refine zC.of (by decide) (by simp [Value.category]) (Nat.le_of_ble_eq_true rfl) (fun G X Y => ?_)
  show G 0 0 0 [some (.ref (q 0)), some (.int (nI ko)), none, none] [] N q f
  have loop : ∀ (i : Nat) (F : zF) (o : Option Value), i ≤ ko → zCur cC cI q n ins (zit par b i) tz tt (zons par com tp tc b ko mr mp (ko - i)) F → (∀ jj, jj ≠ 0 → jj ≠ 1 → jj ≠ 2 → jj ≠ 6 → F jj = f jj) → G 0 0 4 [some (.ref (q 0)), some (.int (nI ko)), some (.int (nI i - 1)), o] [] N q F := by
    intro i
    induction i with
    | zero =>
      intro F o hi Cu hF
      show G 0 0 4 [some (.ref (q 0)), some (.int (nI ko)), some (.int (nI 0 - 1)), o] [] N q F
      refine zr_iload_n X d_B_stepAlongWay_4 rfl ?_
      refine zr_if_ltt (tgt := 30) X d_B_stepAlongWay_5 rfl (by decide) ?_
      refine zr_return Y d_B_stepAlongWay_30 (Nat.le_of_ble_eq_true rfl) (Nat.le_of_ble_eq_true rfl) ?_
      exact ⟨rfl, rfl, rfl, Cu, hF⟩
    | succ i ih =>
      intro F o hi Cu hF
      rw [nI_pred i]
      have hz : zons par com tp tc b ko mr mp (ko - i) = zoM (com (zit par b i)) (tp (zit par b i)) (tc (zit par b i)) (zons par com tp tc b ko mr mp (ko - (i + 1))) mr := by
        rw [show ko - i = (ko - (i + 1)) + 1 by omega]
        show zoM (com (zit par b (ko - (ko - (i + 1) + 1)))) _ _ _ _ = _
        rw [show ko - (ko - (i + 1) + 1) = i by omega]
      have hw := hwo i (by omega)
      have hF9 : F 9 = .inl (cV, 122, .inr (.inr (.inr (.inr wo)))) := (hF 9 (by decide) (by decide) (by decide) (by decide)).trans h9
      show G 0 0 4 [some (.ref (q 0)), some (.int (nI ko)), some (.int (nI i)), o] [] N q F
      refine zr_iload_n X d_B_stepAlongWay_4 rfl ?_
      refine zr_if_ltf (tgt := 30) X d_B_stepAlongWay_5 rfl (nI_pos (by omega)) ?_
      refine zr_aload_n X d_B_stepAlongWay_8 rfl ?_
      refine zr_get X F_B_34 d_B_stepAlongWay_9 (by omega) Cu.1 (v := .ref (q 9)) rfl ?_
      refine zr_iload_n X d_B_stepAlongWay_12 rfl ?_
      refine zr_aaload (v := some ((q (24 + 2 * zit par b i)))) X 3 d_B_stepAlongWay_13 (by omega) hF9 rfl (by omega) (by decide) hw.1 ?_
      show G 0 0 14 [some (.ref (q 0)), some (.int (nI ko)), some (.int (nI i)), o] [.ref (q (24 + 2 * zit par b i))] N q F
      refine zr_astore_n (lv' := [some (.ref (q 0)), some (.int (nI ko)), some (.int (nI i)), some (.ref (q (24 + 2 * zit par b i)))]) X d_B_stepAlongWay_14 (by decide) rfl ?_
      refine zr_aload_n X d_B_stepAlongWay_15 rfl ?_
      refine zr_ifnull X d_B_stepAlongWay_16 ?_
      refine zr_aload_n X d_B_stepAlongWay_19 rfl ?_
      refine zr_aload_n X d_B_stepAlongWay_20 rfl ?_
      refine zr_callV X K_B_97 KI_B_97 KS_B_97 (c_B_stepOnV hNn (w := zit par b i) Cu ((hF 5 (by decide) (by decide) (by decide) (by decide)).trans h5) ((hF 7 (by decide) (by decide) (by decide) (by decide)).trans h7) (V.keep (fun jj h => hF jj (by omega) (by omega) (by omega) (by omega))) T hw.2.1 hw.2.2) d_B_stepAlongWay_21 (by omega) Cu.1 rfl rfl (by decide) (Nat.le_of_ble_eq_true rfl) (by decide) (st := []) rfl (kV fun F1 hF1 => ?_)
      show G 0 0 24 [some (.ref (q 0)), some (.int (nI ko)), some (.int (nI i)), some (.ref (q (24 + 2 * zit par b i)))] [] N q F1
      refine zr_iinc (v := nI i - 1) (lv' := [some (.ref (q 0)), some (.int (nI ko)), some (.int (nI i - 1)), some (.ref (q (24 + 2 * zit par b i)))]) X d_B_stepAlongWay_24 rfl (z_dec _) (by decide) rfl ?_
      refine zr_goto (tgt := 4) X d_B_stepAlongWay_27 rfl ?_
      exact ih F1 _ (by omega) (by rw [hz]; exact hF1.1) (fun jj a b c d => (hF1.2 jj a b c d).trans (hF jj a b c d))
  refine zr_iload_n X d_B_stepAlongWay_0 rfl ?_
  refine zr_iconst (v := 1) X d_B_stepAlongWay_1 (by decide) ?_
  refine zr_isub (z := nI ko - 1) X d_B_stepAlongWay_2 rfl ?_
  refine zr_istore_n (lv' := [some (.ref (q 0)), some (.int (nI ko)), some (.int (nI ko - 1)), none]) X d_B_stepAlongWay_3 (by decide) rfl ?_
  exact loop ko f none (Nat.le_refl _) (by rw [Nat.sub_self]; exact Cu) (fun _ _ _ _ _ => rfl)

set_option maxRecDepth 100000 in
set_option maxHeartbeats 4000000 in
theorem c_B_goTo_n {l : Launch} {D : va_G} {cI cC cZ cV : ClassId} {N : Nat} {q : Nat → Nat} {f : zF} (hN : 23 ≤ N) {n ins jt : Nat} (h0 : f 0 = zbo q n ins jt) {x : Int32} (hx : zNa x n) : zC l y_B_goTo b_B_goTo 6 (some .int) (rmD 5 0 0) D (zty cI cC cZ cV) [.ref (q 0), .int x] N q f (pRd N q f (-1)) := by
  refine zC.of (by decide) (by simp [Value.category]) (Nat.le_of_ble_eq_true rfl) (fun G X Y => ?_)
  show G 0 0 0 [some (.ref (q 0)), some (.int x), none, none, none, none] [] N q f
  refine zr_aload_n X d_B_goTo_0 rfl ?_
  refine zr_iload_n X d_B_goTo_1 rfl ?_
  refine zr_callV X K_B_100 KI_B_100 KS_B_100 (c_B_numbered_n hN h0 hx) d_B_goTo_2 (by omega) h0 rfl rfl (by decide) (Nat.le_of_ble_eq_true rfl) (by decide) (st := []) rfl (kR ?_)
  show G 0 0 5 [some (.ref (q 0)), some (.int x), none, none, none, none] [.null] N q f
  refine zr_astore_nN (lv' := [some (.ref (q 0)), some (.int x), some (.null), none, none, none]) X d_B_goTo_5 (by decide) rfl ?_
  refine zr_aload_nN X d_B_goTo_6 rfl ?_
  refine zr_ifnonnullN X d_B_goTo_7 ?_
  refine zr_iconst (v := (-1)) X d_B_goTo_10 (by decide) ?_
  refine zr_ireturn Y d_B_goTo_11 rfl (Nat.le_of_ble_eq_true rfl) (Nat.le_of_ble_eq_true rfl) ?_
  exact ⟨rfl, rfl, rfl, rfl⟩

set_option maxRecDepth 100000 in
set_option maxHeartbeats 4000000 in
theorem c_B_goTo_y {l : Launch} {D : va_G} {cI cC cZ cV : ClassId} {N : Nat} {q : Nat → Nat} {f : zF} {n ins : Nat} {par : Nat → Nat} {com : Nat → Bool} {tp tc : Nat → Nat} {tq : Nat → Nat → Int32} {tz : Nat → Nat} {tt : Nat → Nat → Int32} {cn : Nat → Nat} {lat : Nat → Value} {mp mr : Nat → Int32} (hNn : 23 + 2 * n ≤ N) (h5 : f 5 = .inr (iM, [.ref (q 6), .ref (q 7)])) (h7 : f 7 = .inl (cZ, 6, .inl mr)) (V : zVs cC q f n par com tp tc tq cn lat) (T : zTree n par com tp tc tq tz tt) {a b kb ko : Nat} {md wo : Nat → Option Nat} (h8 : f 8 = .inl (cV, 122, .inr (.inr (.inr (.inr md))))) (h9 : f 9 = .inl (cV, 122, .inr (.inr (.inr (.inr wo))))) (hn : n ≤ 122) (hp0 : par 0 = 0) (ha : a < n) (hb : b < n) (w : zWay par a b kb ko) (hm : md b = some (q (24 + 2 * b))) (Cu : zCur cC cI q n ins a tz tt mp f) : zC l y_B_goTo b_B_goTo 6 (some .int) (rmD 5 0 0) D (zty cI cC cZ cV) [.ref (q 0), .int (nI b)] N q f (fun v N' q' f' => v = some (.int (nI (kb + ko))) ∧ N' = N ∧ q' = q ∧ zCur cC cI q n ins b tz tt (zons par com tp tc b ko mr (zbks par com tp tc a mr mp kb) ko) f' ∧ (∀ jj, jj ≠ 0 → jj ≠ 1 → jj ≠ 2 → jj ≠ 6 → jj ≠ 9 → f' jj = f jj) ∧ ∃ wo', f' 9 = .inl (cV, 122, .inr (.inr (.inr (.inr wo'))))) := by
  refine zC.of (by decide) (by simp [Value.category]) (Nat.le_of_ble_eq_true rfl) (fun G X Y => ?_)
  show G 0 0 0 [some (.ref (q 0)), some (.int (nI b)), none, none, none, none] [] N q f
  refine zr_inj X (fun hinj => ?_)
  have hp := fun v h0 h => T.lt (v := v) h0 h
  have hkb := w.kb hp hp0 ha hb
  have hko := w.ko hp hp0 hb
  have loop : ∀ (d i j : Nat) (F : zF) (wo : Nat → Option Nat) (o : Option Value), i ≤ kb → j ≤ ko → (kb - i) + (ko - j) = d → zCur cC cI q n ins (zit par a i) tz tt (zbks par com tp tc a mr mp i) F → F 9 = .inl (cV, 122, .inr (.inr (.inr (.inr wo)))) → (∀ k, k < j → wo k = some (q (24 + 2 * zit par b k))) → (∀ jj, jj ≠ 0 → jj ≠ 1 → jj ≠ 2 → jj ≠ 6 → jj ≠ 9 → F jj = f jj) → G 0 0 17 [some (.ref (q 0)), some (.int (nI b)), some (.ref (q (24 + 2 * zit par b j))), some (.int (nI i)), some (.int (nI j)), o] [] N q F := by
    intro d
    induction d with
    | zero =>
      intro i j F wo o hi hj hd Cu hF9 hwo hF
      have hza := zit_lt hp hp0 ha i
      have hzb := zit_lt hp hp0 hb j
      have hF5 : F 5 = .inr (iM, [.ref (q 6), .ref (q 7)]) := (hF 5 (by decide) (by decide) (by decide) (by decide) (by decide)).trans h5
      have hF7 : F 7 = .inl (cZ, 6, .inl mr) := (hF 7 (by decide) (by decide) (by decide) (by decide) (by decide)).trans h7
      have hVF : zVs cC q F n par com tp tc tq cn lat := V.keep (fun jj h => hF jj (by omega) (by omega) (by omega) (by omega) (by omega))
      have hik : i = kb := by omega
      have hjk : j = ko := by omega
      subst hik
      subst hjk
      have hwm : zit par a i = zit par b j := w.1
      show G 0 0 17 [some (.ref (q 0)), some (.int (nI b)), some (.ref (q (24 + 2 * zit par b j))), some (.int (nI i)), some (.int (nI j)), o] [] N q F
      refine zr_aload_n X d_B_goTo_17 rfl ?_
      refine zr_get X F_B_40 d_B_goTo_18 (by omega) Cu.1 (v := .ref (q (24 + 2 * zit par a i))) rfl ?_
      refine zr_aload_n X d_B_goTo_21 rfl ?_
      refine zr_acmp_eqt (tgt := 119) X d_B_goTo_22 rfl (by rw [hwm]) ?_
      refine zr_aload_n X d_B_goTo_119 rfl ?_
      refine zr_iload X d_B_goTo_120 rfl ?_
      refine zr_callV X K_B_104 KI_B_104 KS_B_104 (c_B_stepAlongWay hNn hF5 hF7 hVF T (b := b) hF9 (by omega) (fun k hk => ⟨hwo k hk, w.on hp0 hk, zit_lt hp hp0 hb k⟩) (by rw [← hwm]; exact Cu)) d_B_goTo_122 (by omega) Cu.1 rfl rfl (by decide) (Nat.le_of_ble_eq_true rfl) (by decide) (st := []) rfl (kV fun F1 hF1 => ?_)
      show G 0 0 125 [some (.ref (q 0)), some (.int (nI b)), some (.ref (q (24 + 2 * zit par b j))), some (.int (nI i)), some (.int (nI j)), o] [] N q F1
      refine zr_iload_n X d_B_goTo_125 rfl ?_
      refine zr_iload X d_B_goTo_126 rfl ?_
      refine zr_iadd (z := nI (i + j)) X d_B_goTo_128 (nI_add _ _) ?_
      refine zr_ireturn Y d_B_goTo_129 rfl (Nat.le_of_ble_eq_true rfl) (Nat.le_of_ble_eq_true rfl) ?_
      exact ⟨rfl, rfl, rfl, hF1.1, fun jj a b c d e => (hF1.2 jj a b c d).trans (hF jj a b c d e), wo, (hF1.2 9 (by decide) (by decide) (by decide) (by decide)).trans hF9⟩
    | succ d ih =>
      intro i j F wo o hi hj hd Cu hF9 hwo hF
      have hza := zit_lt hp hp0 ha i
      have hzb := zit_lt hp hp0 hb j
      have hF5 : F 5 = .inr (iM, [.ref (q 6), .ref (q 7)]) := (hF 5 (by decide) (by decide) (by decide) (by decide) (by decide)).trans h5
      have hF7 : F 7 = .inl (cZ, 6, .inl mr) := (hF 7 (by decide) (by decide) (by decide) (by decide) (by decide)).trans h7
      have hVF : zVs cC q F n par com tp tc tq cn lat := V.keep (fun jj h => hF jj (by omega) (by omega) (by omega) (by omega) (by omega))
      obtain ⟨g1, g2, g3⟩ := w.gt hp hp0 ha hb hi hj
      by_cases heq : zit par a i = zit par b j
      · skip
        obtain ⟨hik, hjk⟩ := g3 heq
        subst hik
        subst hjk
        have hwm : zit par a i = zit par b j := w.1
        show G 0 0 17 [some (.ref (q 0)), some (.int (nI b)), some (.ref (q (24 + 2 * zit par b j))), some (.int (nI i)), some (.int (nI j)), o] [] N q F
        refine zr_aload_n X d_B_goTo_17 rfl ?_
        refine zr_get X F_B_40 d_B_goTo_18 (by omega) Cu.1 (v := .ref (q (24 + 2 * zit par a i))) rfl ?_
        refine zr_aload_n X d_B_goTo_21 rfl ?_
        refine zr_acmp_eqt (tgt := 119) X d_B_goTo_22 rfl (by rw [hwm]) ?_
        refine zr_aload_n X d_B_goTo_119 rfl ?_
        refine zr_iload X d_B_goTo_120 rfl ?_
        refine zr_callV X K_B_104 KI_B_104 KS_B_104 (c_B_stepAlongWay hNn hF5 hF7 hVF T (b := b) hF9 (by omega) (fun k hk => ⟨hwo k hk, w.on hp0 hk, zit_lt hp hp0 hb k⟩) (by rw [← hwm]; exact Cu)) d_B_goTo_122 (by omega) Cu.1 rfl rfl (by decide) (Nat.le_of_ble_eq_true rfl) (by decide) (st := []) rfl (kV fun F1 hF1 => ?_)
        show G 0 0 125 [some (.ref (q 0)), some (.int (nI b)), some (.ref (q (24 + 2 * zit par b j))), some (.int (nI i)), some (.int (nI j)), o] [] N q F1
        refine zr_iload_n X d_B_goTo_125 rfl ?_
        refine zr_iload X d_B_goTo_126 rfl ?_
        refine zr_iadd (z := nI (i + j)) X d_B_goTo_128 (nI_add _ _) ?_
        refine zr_ireturn Y d_B_goTo_129 rfl (Nat.le_of_ble_eq_true rfl) (Nat.le_of_ble_eq_true rfl) ?_
        exact ⟨rfl, rfl, rfl, hF1.1, fun jj a b c d e => (hF1.2 jj a b c d).trans (hF jj a b c d e), wo, (hF1.2 9 (by decide) (by decide) (by decide) (by decide)).trans hF9⟩
      · skip
        have hne : ¬ q (24 + 2 * zit par a i) = q (24 + 2 * zit par b j) := fun h => heq (by have := hinj _ _ (by omega) (by omega) h; omega)
        by_cases hgt : zit par b j < zit par a i
        · skip
          have hi3 := g1 hgt
          have hVa := hVF.par (v := zit par a i) (by omega) hza
          have hVb := (hVF (zit par b j) hzb).1
          show G 0 0 17 [some (.ref (q 0)), some (.int (nI b)), some (.ref (q (24 + 2 * zit par b j))), some (.int (nI i)), some (.int (nI j)), o] [] N q F
          refine zr_aload_n X d_B_goTo_17 rfl ?_
          refine zr_get X F_B_40 d_B_goTo_18 (by omega) Cu.1 (v := .ref (q (24 + 2 * zit par a i))) rfl ?_
          refine zr_aload_n X d_B_goTo_21 rfl ?_
          refine zr_acmp_eqf (tgt := 119) X d_B_goTo_22 rfl hne ?_
          refine zr_iload_n X d_B_goTo_25 rfl ?_
          refine zr_bipush (v := nI 122) X d_B_goTo_26 (by decide) ?_
          refine zr_icmp_gef (tgt := 119) X d_B_goTo_28 rfl (nI_ge (by omega) (by omega)) ?_
          refine zr_iload X d_B_goTo_31 rfl ?_
          refine zr_bipush (v := nI 122) X d_B_goTo_33 (by decide) ?_
          refine zr_icmp_gef (tgt := 119) X d_B_goTo_35 rfl (nI_ge (by omega) (by omega)) ?_
          refine zr_aload_n X d_B_goTo_38 rfl ?_
          refine zr_get X F_B_40 d_B_goTo_39 (by omega) Cu.1 (v := .ref (q (24 + 2 * zit par a i))) rfl ?_
          refine zr_get X F_B_91 d_B_goTo_42 (by omega) hVa (v := .int (nI (zit par a i))) rfl ?_
          refine zr_aload_n X d_B_goTo_45 rfl ?_
          refine zr_get X F_B_91 d_B_goTo_46 (by omega) hVb (v := .int (nI (zit par b j))) rfl ?_
          refine zr_icmp_lef (tgt := 62) X d_B_goTo_49 rfl (nI_ge hgt (by omega)) ?_
          refine zr_aload_n X d_B_goTo_52 rfl ?_
          refine zr_get X F_B_40 d_B_goTo_53 (by omega) Cu.1 (v := .ref (q (24 + 2 * zit par a i))) rfl ?_
          refine zr_get X F_B_84 d_B_goTo_56 (by omega) hVa (v := .ref (q (24 + 2 * zit par a (i + 1)))) rfl ?_
          refine zr_goto (tgt := 66) X d_B_goTo_59 rfl ?_
          refine zr_astore (lv' := [some (.ref (q 0)), some (.int (nI b)), some (.ref (q (24 + 2 * zit par b j))), some (.int (nI i)), some (.int (nI j)), some (.ref (q (24 + 2 * zit par a (i + 1))))]) X d_B_goTo_66 (by decide) rfl ?_
          refine zr_aload X d_B_goTo_68 rfl ?_
          refine zr_ifnonnull (tgt := 76) X d_B_goTo_70 rfl ?_
          refine zr_aload_n X d_B_goTo_76 rfl ?_
          refine zr_get X F_B_40 d_B_goTo_77 (by omega) Cu.1 (v := .ref (q (24 + 2 * zit par a i))) rfl ?_
          refine zr_get X F_B_91 d_B_goTo_80 (by omega) hVa (v := .int (nI (zit par a i))) rfl ?_
          refine zr_aload_n X d_B_goTo_83 rfl ?_
          refine zr_get X F_B_91 d_B_goTo_84 (by omega) hVb (v := .int (nI (zit par b j))) rfl ?_
          refine zr_icmp_lef (tgt := 102) X d_B_goTo_87 rfl (nI_ge hgt (by omega)) ?_
          refine zr_aload_n X d_B_goTo_90 rfl ?_
          refine zr_aload X d_B_goTo_91 rfl ?_
          refine zr_callV X K_B_87 KI_B_87 KS_B_87 (c_B_stepBackV hNn Cu hF5 hF7 hVF T (by omega) hza) d_B_goTo_93 (by omega) Cu.1 rfl rfl (by decide) (Nat.le_of_ble_eq_true rfl) (by decide) (st := []) rfl (kV fun F1 hF1 => ?_)
          show G 0 0 96 [some (.ref (q 0)), some (.int (nI b)), some (.ref (q (24 + 2 * zit par b j))), some (.int (nI i)), some (.int (nI j)), some (.ref (q (24 + 2 * zit par a (i + 1))))] [] N q F1
          refine zr_iinc (v := nI (i + 1)) (lv' := [some (.ref (q 0)), some (.int (nI b)), some (.ref (q (24 + 2 * zit par b j))), some (.int (nI (i + 1))), some (.int (nI j)), some (.ref (q (24 + 2 * zit par a (i + 1))))]) X d_B_goTo_96 rfl (nI_1 _) (by decide) rfl ?_
          refine zr_goto (tgt := 116) X d_B_goTo_99 rfl ?_
          refine zr_goto (tgt := 17) X d_B_goTo_116 rfl ?_
          exact ih (i + 1) j F1 wo _ (by omega) hj (by omega) hF1.1 ((hF1.2 9 (by decide) (by decide) (by decide) (by decide)).trans hF9) hwo (fun jj a b c d e => (hF1.2 jj a b c d).trans (hF jj a b c d e))
        · skip
          have hlt : zit par a i < zit par b j := by omega
          have hj3 := g2 hlt
          have hVb := hVF.par (v := zit par b j) (by omega) hzb
          have hVa := (hVF (zit par a i) hza).1
          show G 0 0 17 [some (.ref (q 0)), some (.int (nI b)), some (.ref (q (24 + 2 * zit par b j))), some (.int (nI i)), some (.int (nI j)), o] [] N q F
          refine zr_aload_n X d_B_goTo_17 rfl ?_
          refine zr_get X F_B_40 d_B_goTo_18 (by omega) Cu.1 (v := .ref (q (24 + 2 * zit par a i))) rfl ?_
          refine zr_aload_n X d_B_goTo_21 rfl ?_
          refine zr_acmp_eqf (tgt := 119) X d_B_goTo_22 rfl hne ?_
          refine zr_iload_n X d_B_goTo_25 rfl ?_
          refine zr_bipush (v := nI 122) X d_B_goTo_26 (by decide) ?_
          refine zr_icmp_gef (tgt := 119) X d_B_goTo_28 rfl (nI_ge (by omega) (by omega)) ?_
          refine zr_iload X d_B_goTo_31 rfl ?_
          refine zr_bipush (v := nI 122) X d_B_goTo_33 (by decide) ?_
          refine zr_icmp_gef (tgt := 119) X d_B_goTo_35 rfl (nI_ge (by omega) (by omega)) ?_
          refine zr_aload_n X d_B_goTo_38 rfl ?_
          refine zr_get X F_B_40 d_B_goTo_39 (by omega) Cu.1 (v := .ref (q (24 + 2 * zit par a i))) rfl ?_
          refine zr_get X F_B_91 d_B_goTo_42 (by omega) hVa (v := .int (nI (zit par a i))) rfl ?_
          refine zr_aload_n X d_B_goTo_45 rfl ?_
          refine zr_get X F_B_91 d_B_goTo_46 (by omega) hVb (v := .int (nI (zit par b j))) rfl ?_
          refine zr_icmp_let (tgt := 62) X d_B_goTo_49 rfl (nI_le (by omega) (by omega)) ?_
          refine zr_aload_n X d_B_goTo_62 rfl ?_
          refine zr_get X F_B_84 d_B_goTo_63 (by omega) hVb (v := .ref (q (24 + 2 * zit par b (j + 1)))) rfl ?_
          refine zr_astore (lv' := [some (.ref (q 0)), some (.int (nI b)), some (.ref (q (24 + 2 * zit par b j))), some (.int (nI i)), some (.int (nI j)), some (.ref (q (24 + 2 * zit par b (j + 1))))]) X d_B_goTo_66 (by decide) rfl ?_
          refine zr_aload X d_B_goTo_68 rfl ?_
          refine zr_ifnonnull (tgt := 76) X d_B_goTo_70 rfl ?_
          refine zr_aload_n X d_B_goTo_76 rfl ?_
          refine zr_get X F_B_40 d_B_goTo_77 (by omega) Cu.1 (v := .ref (q (24 + 2 * zit par a i))) rfl ?_
          refine zr_get X F_B_91 d_B_goTo_80 (by omega) hVa (v := .int (nI (zit par a i))) rfl ?_
          refine zr_aload_n X d_B_goTo_83 rfl ?_
          refine zr_get X F_B_91 d_B_goTo_84 (by omega) hVb (v := .int (nI (zit par b j))) rfl ?_
          refine zr_icmp_let (tgt := 102) X d_B_goTo_87 rfl (nI_le (by omega) (by omega)) ?_
          refine zr_aload_n X d_B_goTo_102 rfl ?_
          refine zr_get X F_B_34 d_B_goTo_103 (by omega) Cu.1 (v := .ref (q 9)) rfl ?_
          refine zr_iload X d_B_goTo_106 rfl ?_
          refine zr_aload_n X d_B_goTo_108 rfl ?_
          refine zr_aastore X 3 d_B_goTo_109 (by omega) hF9 rfl (by omega) (by decide) (by omega) hVb rfl ?_
          refine zr_iinc (v := nI (j + 1)) (lv' := [some (.ref (q 0)), some (.int (nI b)), some (.ref (q (24 + 2 * zit par b j))), some (.int (nI i)), some (.int (nI (j + 1))), some (.ref (q (24 + 2 * zit par b (j + 1))))]) X d_B_goTo_110 rfl (nI_1 _) (by decide) rfl ?_
          refine zr_aload X d_B_goTo_113 rfl ?_
          refine zr_astore_n (lv' := [some (.ref (q 0)), some (.int (nI b)), some (.ref (q (24 + 2 * zit par b (j + 1)))), some (.int (nI i)), some (.int (nI (j + 1))), some (.ref (q (24 + 2 * zit par b (j + 1))))]) X d_B_goTo_115 (by decide) rfl ?_
          refine zr_goto (tgt := 17) X d_B_goTo_116 rfl ?_
          refine ih i (j + 1) _ (va_up wo j (some (q (24 + 2 * zit par b j)))) _ hi (by omega) (by omega) ⟨up_ne (by decide) Cu.1, up_ne (by decide) Cu.2.1, ?_, up_ne (by decide) Cu.2.2.2⟩ up_eq (fun k hk => ?_) (fun jj a b c d e => up_ne e (hF jj a b c d e))
          · obtain ⟨tx, h2, h3⟩ := Cu.2.2.1
            exact ⟨tx, up_ne (by decide) h2, h3⟩
          · by_cases hkj : k = j
            · rw [hkj, up_eq]
            · rw [up_ne' hkj]
              exact hwo k (by omega)
  refine zr_aload_n X d_B_goTo_0 rfl ?_
  refine zr_iload_n X d_B_goTo_1 rfl ?_
  refine zr_callV X K_B_100 KI_B_100 KS_B_100 (c_B_numbered_y (by omega) Cu.1 h8 hb hn hm) d_B_goTo_2 (by omega) Cu.1 rfl rfl (by decide) (Nat.le_of_ble_eq_true rfl) (by decide) (st := []) rfl (kR ?_)
  show G 0 0 5 [some (.ref (q 0)), some (.int (nI b)), none, none, none, none] [.ref (q (24 + 2 * b))] N q f
  refine zr_astore_n (lv' := [some (.ref (q 0)), some (.int (nI b)), some (.ref (q (24 + 2 * b))), none, none, none]) X d_B_goTo_5 (by decide) rfl ?_
  refine zr_aload_n X d_B_goTo_6 rfl ?_
  refine zr_ifnonnull (tgt := 12) X d_B_goTo_7 rfl ?_
  refine zr_iconst (v := nI 0) X d_B_goTo_12 (by decide) ?_
  refine zr_istore_n (lv' := [some (.ref (q 0)), some (.int (nI b)), some (.ref (q (24 + 2 * b))), some (.int (nI 0)), none, none]) X d_B_goTo_13 (by decide) rfl ?_
  refine zr_iconst (v := nI 0) X d_B_goTo_14 (by decide) ?_
  refine zr_istore (lv' := [some (.ref (q 0)), some (.int (nI b)), some (.ref (q (24 + 2 * b))), some (.int (nI 0)), some (.int (nI 0)), none]) X d_B_goTo_15 (by decide) rfl ?_
  exact loop (kb + ko) 0 0 f wo none (Nat.zero_le _) (Nat.zero_le _) (by omega) Cu h9 (fun k hk => absurd hk (Nat.not_lt_zero _)) (fun _ _ _ _ _ _ => rfl)
end
section
set_option maxRecDepth 100000 in
set_option maxHeartbeats 4000000 in
theorem c_O_stepBack_true {l : Launch} {D : va_G} {cI cC cZ cV : ClassId} {N : Nat} {q : Nat → Nat} {f : zF} (hN : 23 ≤ N) {n po th sz ty : Nat} (h10 : f 10 = zmo q n po th sz ty) {pa : Nat → Int32} (h11 : f 11 = .inl (cI, 122, .inl pa)) {co : Nat → Int32} (h12 : f 12 = .inl (cZ, 122, .inl co)) {pl : Nat → Int32} (h13 : f 13 = .inl (cI, 122, .inl pl)) {mn : Nat → Int32} (h14 : f 14 = .inl (cI, 122, .inl mn)) {ma : Nat → Int32} (h21 : f 21 = .inl (cI, 6, .inl ma)) {mr : Nat → Int32} (h22 : f 22 = .inl (cZ, 6, .inl mr)) {p c u : Nat} (hth : th < 122) (ha : pa th = nI u) (hp : pl th = nI p) (hc : mn th = nI c) (hb : co th = zbi true) : zC l y_O_stepBack b_O_stepBack 1 none (rmD 1 0 0) D (zty cI cC cZ cV) [.ref (q 10)] N q f (pW N q (va_up (va_up f 21 (.inl (cI, 6, .inl (zoM false p c ma mr)))) 10 (zmo q n po u sz ty))) := by
  refine zC.of (by decide) (by simp [Value.category]) (Nat.le_of_ble_eq_true rfl) (fun G X Y => ?_)
  show G 0 0 0 [some (.ref (q 10))] [] N q f
  refine zr_aload_n X d_O_stepBack_0 rfl ?_
  refine zr_aload_n X d_O_stepBack_1 rfl ?_
  refine zr_get X F_O_21 d_O_stepBack_2 (by omega) h10 (v := .ref (q 13)) rfl ?_
  refine zr_aload_n X d_O_stepBack_5 rfl ?_
  refine zr_get X F_O_62 d_O_stepBack_6 (by omega) h10 (v := .int (nI th)) rfl ?_
  refine zr_iaload (v := nI p) X 0 d_O_stepBack_9 (by omega) h13 rfl (by omega) (by decide) hp ?_
  refine zr_aload_n X d_O_stepBack_10 rfl ?_
  refine zr_get X F_O_24 d_O_stepBack_11 (by omega) h10 (v := .ref (q 14)) rfl ?_
  refine zr_aload_n X d_O_stepBack_14 rfl ?_
  refine zr_get X F_O_62 d_O_stepBack_15 (by omega) h10 (v := .int (nI th)) rfl ?_
  refine zr_iaload (v := nI c) X 0 d_O_stepBack_18 (by omega) h14 rfl (by omega) (by decide) hc ?_
  refine zr_aload_n X d_O_stepBack_19 rfl ?_
  refine zr_get X F_O_17 d_O_stepBack_20 (by omega) h10 (v := .ref (q 12)) rfl ?_
  refine zr_aload_n X d_O_stepBack_23 rfl ?_
  refine zr_get X F_O_62 d_O_stepBack_24 (by omega) h10 (v := .int (nI th)) rfl ?_
  refine zr_baload (v := zbi true) X 2 d_O_stepBack_27 (by omega) h12 rfl (by omega) (by decide) hb ?_
  refine zr_if_net (tgt := 35) X d_O_stepBack_28 rfl (by decide) ?_
  refine zr_iconst (v := zbi false) X d_O_stepBack_35 (by decide) ?_
  refine zr_callV X K_O_72 KI_O_72 KS_O_72 (c_O_moveMarks hN h10 h21 h22) d_O_stepBack_36 (by omega) h10 rfl rfl (by decide) (Nat.le_of_ble_eq_true rfl) (by decide) (st := []) rfl (kW ?_)
  show G 0 0 39 [some (.ref (q 10))] [] N q (va_up f 21 (.inl (cI, 6, .inl (zoM false p c ma mr))))
  refine zr_aload_n X d_O_stepBack_39 rfl ?_
  refine zr_aload_n X d_O_stepBack_40 rfl ?_
  refine zr_get X F_O_13 d_O_stepBack_41 (by omega) (up_ne (by decide) h10) (v := .ref (q 11)) rfl ?_
  refine zr_aload_n X d_O_stepBack_44 rfl ?_
  refine zr_get X F_O_62 d_O_stepBack_45 (by omega) (up_ne (by decide) h10) (v := .int (nI th)) rfl ?_
  refine zr_iaload (v := nI u) X 0 d_O_stepBack_48 (by omega) (up_ne (by decide) h11) rfl (by omega) (by decide) ha ?_
  refine zr_put (fs' := [.int (nI n), .ref (q 11), .ref (q 12), .ref (q 13), .ref (q 14), .ref (q 15), .int (nI po), .ref (q 16), .int (nI u), .int (nI sz), .ref (q 17), .ref (q 18), .int (nI ty), .ref (q 19), .ref (q 20), .ref (q 21), .ref (q 22)]) X F_O_62 d_O_stepBack_49 (by omega) (up_ne (by decide) h10) rfl rfl (Nat.le_of_ble_eq_true rfl) rfl ?_
  refine zr_return Y d_O_stepBack_52 (Nat.le_of_ble_eq_true rfl) (Nat.le_of_ble_eq_true rfl) ?_
  exact ⟨rfl, rfl, rfl, rfl⟩

set_option maxRecDepth 100000 in
set_option maxHeartbeats 4000000 in
theorem c_O_stepBack_false {l : Launch} {D : va_G} {cI cC cZ cV : ClassId} {N : Nat} {q : Nat → Nat} {f : zF} (hN : 23 ≤ N) {n po th sz ty : Nat} (h10 : f 10 = zmo q n po th sz ty) {pa : Nat → Int32} (h11 : f 11 = .inl (cI, 122, .inl pa)) {co : Nat → Int32} (h12 : f 12 = .inl (cZ, 122, .inl co)) {pl : Nat → Int32} (h13 : f 13 = .inl (cI, 122, .inl pl)) {mn : Nat → Int32} (h14 : f 14 = .inl (cI, 122, .inl mn)) {ma : Nat → Int32} (h21 : f 21 = .inl (cI, 6, .inl ma)) {mr : Nat → Int32} (h22 : f 22 = .inl (cZ, 6, .inl mr)) {p c u : Nat} (hth : th < 122) (ha : pa th = nI u) (hp : pl th = nI p) (hc : mn th = nI c) (hb : co th = zbi false) : zC l y_O_stepBack b_O_stepBack 1 none (rmD 1 0 0) D (zty cI cC cZ cV) [.ref (q 10)] N q f (pW N q (va_up (va_up f 21 (.inl (cI, 6, .inl (zoM true p c ma mr)))) 10 (zmo q n po u sz ty))) := by
  refine zC.of (by decide) (by simp [Value.category]) (Nat.le_of_ble_eq_true rfl) (fun G X Y => ?_)
  show G 0 0 0 [some (.ref (q 10))] [] N q f
  refine zr_aload_n X d_O_stepBack_0 rfl ?_
  refine zr_aload_n X d_O_stepBack_1 rfl ?_
  refine zr_get X F_O_21 d_O_stepBack_2 (by omega) h10 (v := .ref (q 13)) rfl ?_
  refine zr_aload_n X d_O_stepBack_5 rfl ?_
  refine zr_get X F_O_62 d_O_stepBack_6 (by omega) h10 (v := .int (nI th)) rfl ?_
  refine zr_iaload (v := nI p) X 0 d_O_stepBack_9 (by omega) h13 rfl (by omega) (by decide) hp ?_
  refine zr_aload_n X d_O_stepBack_10 rfl ?_
  refine zr_get X F_O_24 d_O_stepBack_11 (by omega) h10 (v := .ref (q 14)) rfl ?_
  refine zr_aload_n X d_O_stepBack_14 rfl ?_
  refine zr_get X F_O_62 d_O_stepBack_15 (by omega) h10 (v := .int (nI th)) rfl ?_
  refine zr_iaload (v := nI c) X 0 d_O_stepBack_18 (by omega) h14 rfl (by omega) (by decide) hc ?_
  refine zr_aload_n X d_O_stepBack_19 rfl ?_
  refine zr_get X F_O_17 d_O_stepBack_20 (by omega) h10 (v := .ref (q 12)) rfl ?_
  refine zr_aload_n X d_O_stepBack_23 rfl ?_
  refine zr_get X F_O_62 d_O_stepBack_24 (by omega) h10 (v := .int (nI th)) rfl ?_
  refine zr_baload (v := zbi false) X 2 d_O_stepBack_27 (by omega) h12 rfl (by omega) (by decide) hb ?_
  refine zr_if_nef (tgt := 35) X d_O_stepBack_28 rfl (by decide) ?_
  refine zr_iconst (v := zbi true) X d_O_stepBack_31 (by decide) ?_
  refine zr_goto (tgt := 36) X d_O_stepBack_32 rfl ?_
  refine zr_callV X K_O_72 KI_O_72 KS_O_72 (c_O_moveMarks hN h10 h21 h22) d_O_stepBack_36 (by omega) h10 rfl rfl (by decide) (Nat.le_of_ble_eq_true rfl) (by decide) (st := []) rfl (kW ?_)
  show G 0 0 39 [some (.ref (q 10))] [] N q (va_up f 21 (.inl (cI, 6, .inl (zoM true p c ma mr))))
  refine zr_aload_n X d_O_stepBack_39 rfl ?_
  refine zr_aload_n X d_O_stepBack_40 rfl ?_
  refine zr_get X F_O_13 d_O_stepBack_41 (by omega) (up_ne (by decide) h10) (v := .ref (q 11)) rfl ?_
  refine zr_aload_n X d_O_stepBack_44 rfl ?_
  refine zr_get X F_O_62 d_O_stepBack_45 (by omega) (up_ne (by decide) h10) (v := .int (nI th)) rfl ?_
  refine zr_iaload (v := nI u) X 0 d_O_stepBack_48 (by omega) (up_ne (by decide) h11) rfl (by omega) (by decide) ha ?_
  refine zr_put (fs' := [.int (nI n), .ref (q 11), .ref (q 12), .ref (q 13), .ref (q 14), .ref (q 15), .int (nI po), .ref (q 16), .int (nI u), .int (nI sz), .ref (q 17), .ref (q 18), .int (nI ty), .ref (q 19), .ref (q 20), .ref (q 21), .ref (q 22)]) X F_O_62 d_O_stepBack_49 (by omega) (up_ne (by decide) h10) rfl rfl (Nat.le_of_ble_eq_true rfl) rfl ?_
  refine zr_return Y d_O_stepBack_52 (Nat.le_of_ble_eq_true rfl) (Nat.le_of_ble_eq_true rfl) ?_
  exact ⟨rfl, rfl, rfl, rfl⟩

theorem c_O_stepBack {l : Launch} {D : va_G} {cI cC cZ cV : ClassId} {N : Nat} {q : Nat → Nat} {f : zF} (hN : 23 ≤ N) {n po th sz ty : Nat} (h10 : f 10 = zmo q n po th sz ty) {pa : Nat → Int32} (h11 : f 11 = .inl (cI, 122, .inl pa)) {co : Nat → Int32} (h12 : f 12 = .inl (cZ, 122, .inl co)) {pl : Nat → Int32} (h13 : f 13 = .inl (cI, 122, .inl pl)) {mn : Nat → Int32} (h14 : f 14 = .inl (cI, 122, .inl mn)) {ma : Nat → Int32} (h21 : f 21 = .inl (cI, 6, .inl ma)) {mr : Nat → Int32} (h22 : f 22 = .inl (cZ, 6, .inl mr)) {p c u : Nat} (hth : th < 122) (ha : pa th = nI u) (hp : pl th = nI p) (hc : mn th = nI c) {b : Bool} (hb : co th = zbi b) : zC l y_O_stepBack b_O_stepBack 1 none (rmD 1 0 0) D (zty cI cC cZ cV) [.ref (q 10)] N q f (pW N q (va_up (va_up f 21 (.inl (cI, 6, .inl (zoM (!b) p c ma mr)))) 10 (zmo q n po u sz ty))) := by
  cases b with
  | true => exact c_O_stepBack_true hN h10 h11 h12 h13 h14 h21 h22 hth ha hp hc hb
  | false => exact c_O_stepBack_false hN h10 h11 h12 h13 h14 h21 h22 hth ha hp hc hb

set_option maxRecDepth 100000 in
set_option maxHeartbeats 4000000 in
theorem c_O_stepOn {l : Launch} {D : va_G} {cI cC cZ cV : ClassId} {N : Nat} {q : Nat → Nat} {f : zF} (hN : 23 ≤ N) {n po th sz ty : Nat} (h10 : f 10 = zmo q n po th sz ty) {co : Nat → Int32} (h12 : f 12 = .inl (cZ, 122, .inl co)) {pl : Nat → Int32} (h13 : f 13 = .inl (cI, 122, .inl pl)) {mn : Nat → Int32} (h14 : f 14 = .inl (cI, 122, .inl mn)) {ma : Nat → Int32} (h21 : f 21 = .inl (cI, 6, .inl ma)) {mr : Nat → Int32} (h22 : f 22 = .inl (cZ, 6, .inl mr)) {p c v : Nat} {b : Bool} (hv : v < 122) (hp : pl v = nI p) (hc : mn v = nI c) (hb : co v = zbi b) : zC l y_O_stepOn b_O_stepOn 2 none (rmD 1 0 0) D (zty cI cC cZ cV) [.ref (q 10), .int (nI v)] N q f (pW N q (va_up (va_up f 21 (.inl (cI, 6, .inl (zoM b p c ma mr)))) 10 (zmo q n po v sz ty))) := by
  refine zC.of (by decide) (by simp [Value.category]) (Nat.le_of_ble_eq_true rfl) (fun G X Y => ?_)
  show G 0 0 0 [some (.ref (q 10)), some (.int (nI v))] [] N q f
  refine zr_aload_n X d_O_stepOn_0 rfl ?_
  refine zr_aload_n X d_O_stepOn_1 rfl ?_
  refine zr_get X F_O_21 d_O_stepOn_2 (by omega) h10 (v := .ref (q 13)) rfl ?_
  refine zr_iload_n X d_O_stepOn_5 rfl ?_
  refine zr_iaload (v := nI p) X 0 d_O_stepOn_6 (by omega) h13 rfl (by omega) (by decide) hp ?_
  refine zr_aload_n X d_O_stepOn_7 rfl ?_
  refine zr_get X F_O_24 d_O_stepOn_8 (by omega) h10 (v := .ref (q 14)) rfl ?_
  refine zr_iload_n X d_O_stepOn_11 rfl ?_
  refine zr_iaload (v := nI c) X 0 d_O_stepOn_12 (by omega) h14 rfl (by omega) (by decide) hc ?_
  refine zr_aload_n X d_O_stepOn_13 rfl ?_
  refine zr_get X F_O_17 d_O_stepOn_14 (by omega) h10 (v := .ref (q 12)) rfl ?_
  refine zr_iload_n X d_O_stepOn_17 rfl ?_
  refine zr_baload (v := zbi b) X 2 d_O_stepOn_18 (by omega) h12 rfl (by omega) (by decide) hb ?_
  refine zr_callV X K_O_72 KI_O_72 KS_O_72 (c_O_moveMarks hN h10 h21 h22) d_O_stepOn_19 (by omega) h10 rfl rfl (by decide) (Nat.le_of_ble_eq_true rfl) (by decide) (st := []) rfl (kW ?_)
  show G 0 0 22 [some (.ref (q 10)), some (.int (nI v))] [] N q (va_up f 21 (.inl (cI, 6, .inl (zoM b p c ma mr))))
  refine zr_aload_n X d_O_stepOn_22 rfl ?_
  refine zr_iload_n X d_O_stepOn_23 rfl ?_
  refine zr_put (fs' := [.int (nI n), .ref (q 11), .ref (q 12), .ref (q 13), .ref (q 14), .ref (q 15), .int (nI po), .ref (q 16), .int (nI v), .int (nI sz), .ref (q 17), .ref (q 18), .int (nI ty), .ref (q 19), .ref (q 20), .ref (q 21), .ref (q 22)]) X F_O_62 d_O_stepOn_24 (by omega) (up_ne (by decide) h10) rfl rfl (Nat.le_of_ble_eq_true rfl) rfl ?_
  refine zr_return Y d_O_stepOn_27 (Nat.le_of_ble_eq_true rfl) (Nat.le_of_ble_eq_true rfl) ?_
  exact ⟨rfl, rfl, rfl, rfl⟩

/-- the store behind a call that went to version th and made its text anew -/
def zMade (cC cI : ClassId) (q : Nat → Nat) (n po th ty : Nat) (tz : Nat → Nat) (tt : Nat → Nat → Int32) (ma : Nat → Int32) (f f' : zF) : Prop := (∃ g w, f' 10 = zmo q n po th (tz th) ty ∧ f' 17 = .inl (cC, 2000, .inl g) ∧ f' 18 = .inl (cI, 122, .inl w) ∧ zCh g ∧ ∀ j, j < tz th → g j = tt th j) ∧ f' 21 = .inl (cI, 6, .inl ma) ∧ ∀ jj, jj ≠ 10 → jj ≠ 17 → jj ≠ 18 → jj ≠ 21 → f' jj = f jj

set_option maxRecDepth 100000 in
set_option maxHeartbeats 4000000 in
theorem c_O_undo_0 {l : Launch} {D : va_G} {cI cC cZ cV : ClassId} {N : Nat} {q : Nat → Nat} {f : zF} (hN : 23 ≤ N) {n po th sz ty : Nat} (h10 : f 10 = zmo q n po th sz ty) (h0 : th = 0) : zC l y_O_undo b_O_undo 1 (some .int) (rmD 2 0 0) D (zty cI cC cZ cV) [.ref (q 10)] N q f (pRd N q f (-1)) := by
  refine zC.of (by decide) (by simp [Value.category]) (Nat.le_of_ble_eq_true rfl) (fun G X Y => ?_)
  show G 0 0 0 [some (.ref (q 10))] [] N q f
  refine zr_aload_n X d_O_undo_0 rfl ?_
  refine zr_get X F_O_62 d_O_undo_1 (by omega) h10 (v := .int (nI th)) rfl ?_
  refine zr_if_nef (tgt := 9) X d_O_undo_4 rfl (by rw [h0]; rfl) ?_
  refine zr_iconst (v := (-1)) X d_O_undo_7 (by decide) ?_
  refine zr_ireturn Y d_O_undo_8 rfl (Nat.le_of_ble_eq_true rfl) (Nat.le_of_ble_eq_true rfl) ?_
  exact ⟨rfl, rfl, rfl, rfl⟩

set_option maxRecDepth 100000 in
set_option maxHeartbeats 4000000 in
theorem c_O_undo_y {l : Launch} {D : va_G} {cI cC cZ cV : ClassId} {N : Nat} {q : Nat → Nat} {f : zF} (hN : 23 ≤ N) {n po th sz ty : Nat} (h10 : f 10 = zmo q n po th sz ty) {pa : Nat → Int32} (h11 : f 11 = .inl (cI, 122, .inl pa)) {co : Nat → Int32} (h12 : f 12 = .inl (cZ, 122, .inl co)) {pl : Nat → Int32} (h13 : f 13 = .inl (cI, 122, .inl pl)) {mn : Nat → Int32} (h14 : f 14 = .inl (cI, 122, .inl mn)) {fi : Nat → Int32} (h15 : f 15 = .inl (cI, 122, .inl fi)) {pool : Nat → Int32} (h16 : f 16 = .inl (cC, 2000, .inl pool)) {tx : Nat → Int32} (h17 : f 17 = .inl (cC, 2000, .inl tx)) {way : Nat → Int32} (h18 : f 18 = .inl (cI, 122, .inl way)) {ma : Nat → Int32} (h21 : f 21 = .inl (cI, 6, .inl ma)) {mr : Nat → Int32} (h22 : f 22 = .inl (cZ, 6, .inl mr)) (htx : zCh tx) (hpool : zCh pool) {par : Nat → Nat} {com : Nat → Bool} {tp tc : Nat → Nat} {tq : Nat → Nat → Int32} {tz : Nat → Nat} {tt : Nat → Nat → Int32} (T : zTree n par com tp tc tq tz tt) (M : zMT n par com tp tc tq pa co pl mn fi pool) (hth : th < n) (hn : n ≤ 122) (hth0 : 0 < th) : zC l y_O_undo b_O_undo 1 (some .int) (rmD 2 0 0) D (zty cI cC cZ cV) [.ref (q 10)] N q f (fun v N' q' f' => v = some (.int (nI (par th))) ∧ N' = N ∧ q' = q ∧ zMade cC cI q n po (par th) ty tz tt (zoM (!(com th)) (tp th) (tc th) ma mr) f f') := by
  refine zC.of (by decide) (by simp [Value.category]) (Nat.le_of_ble_eq_true rfl) (fun G X Y => ?_)
  show G 0 0 0 [some (.ref (q 10))] [] N q f
  obtain ⟨M1, M2, M3, M4, -⟩ := M th hth0 hth
  have hlt := T.lt hth0 hth
  refine zr_aload_n X d_O_undo_0 rfl ?_
  refine zr_get X F_O_62 d_O_undo_1 (by omega) h10 (v := .int (nI th)) rfl ?_
  refine zr_if_net (tgt := 9) X d_O_undo_4 rfl (nI_ne0 hth0 (by omega)) ?_
  refine zr_aload_n X d_O_undo_9 rfl ?_
  refine zr_callV X K_O_90 KI_O_90 KS_O_90 (c_O_stepBack hN h10 h11 h12 h13 h14 h21 h22 (by omega) M1 M3 M4 M2) d_O_undo_10 (by omega) h10 rfl rfl (by decide) (Nat.le_of_ble_eq_true rfl) (by decide) (st := []) rfl (kW ?_)
  show G 0 0 13 [some (.ref (q 10))] [] N q (va_up (va_up f 21 (.inl (cI, 6, .inl (zoM (!(com th)) (tp th) (tc th) ma mr)))) 10 (.inr (iO, [.int (nI n), .ref (q 11), .ref (q 12), .ref (q 13), .ref (q 14), .ref (q 15), .int (nI po), .ref (q 16), .int (nI (par th)), .int (nI sz), .ref (q 17), .ref (q 18), .int (nI ty), .ref (q 19), .ref (q 20), .ref (q 21), .ref (q 22)])))
  refine zr_aload_n X d_O_undo_13 rfl ?_
  refine zr_callV X K_O_76 KI_O_76 KS_O_76 (c_O_make hN up_eq (up_ne (by decide) (up_ne (by decide) h11)) (up_ne (by decide) (up_ne (by decide) h12)) (up_ne (by decide) (up_ne (by decide) h13)) (up_ne (by decide) (up_ne (by decide) h14)) (up_ne (by decide) (up_ne (by decide) h15)) (up_ne (by decide) (up_ne (by decide) h16)) (up_ne (by decide) (up_ne (by decide) h17)) (up_ne (by decide) (up_ne (by decide) h18)) htx hpool T M (by omega) hn) d_O_undo_14 (by omega) up_eq rfl rfl (by decide) (Nat.le_of_ble_eq_true rfl) (by decide) (st := []) rfl (kV fun f1 hm1 => ?_)
  obtain ⟨g1, w1, m1, m2, m3, m4, m5, m6⟩ := hm1
  show G 0 0 17 [some (.ref (q 10))] [] N q f1
  refine zr_aload_n X d_O_undo_17 rfl ?_
  refine zr_get X F_O_62 d_O_undo_18 (by omega) m1 (v := .int (nI (par th))) rfl ?_
  refine zr_ireturn Y d_O_undo_21 rfl (Nat.le_of_ble_eq_true rfl) (Nat.le_of_ble_eq_true rfl) ?_
  exact ⟨rfl, rfl, rfl, ⟨g1, w1, m1, m2, m3, m4, m5⟩, (m6 21 (by decide) (by decide) (by decide)).trans (up_ne (by decide) up_eq), fun jj k1 k2 k3 k4 => (m6 jj k1 k2 k3).trans (up_ne k1 (up_ne k4 rfl))⟩

set_option maxRecDepth 100000 in
set_option maxHeartbeats 4000000 in
theorem c_O_redo_0 {l : Launch} {D : va_G} {cI cC cZ cV : ClassId} {N : Nat} {q : Nat → Nat} {f : zF} (hN : 23 ≤ N) {n po th sz ty : Nat} (h10 : f 10 = zmo q n po th sz ty) {pa : Nat → Int32} (h11 : f 11 = .inl (cI, 122, .inl pa)) (hn0 : 0 < n) (hn : n ≤ 122) (hl : zlt pa th n = none) : zC l y_O_redo b_O_redo 3 (some .int) (rmD 2 0 0) D (zty cI cC cZ cV) [.ref (q 10)] N q f (pRd N q f (-1)) := by
  refine zC.of (by decide) (by simp [Value.category]) (Nat.le_of_ble_eq_true rfl) (fun G X Y => ?_)
  show G 0 0 0 [some (.ref (q 10)), none, none] [] N q f
  have loop : ∀ (d i : Nat), i + d = n → 0 < i → G 0 0 4 [some (.ref (q 10)), some (.int (zfi (zlt pa th i))), some (.int (nI i))] [] N q f := by
    intro d
    induction d with
    | zero =>
      intro i hi hi0
      show G 0 0 4 [some (.ref (q 10)), some (.int (zfi (zlt pa th i))), some (.int (nI i))] [] N q f
      rw [show i = n by omega, hl]
      show G 0 0 4 [some (.ref (q 10)), some (.int (-1)), some (.int (nI n))] [] N q f
      refine zr_iload_n X d_O_redo_4 rfl ?_
      refine zr_aload_n X d_O_redo_5 rfl ?_
      refine zr_get X F_O_7 d_O_redo_6 (by omega) h10 (v := .int (nI n)) rfl ?_
      refine zr_icmp_get (tgt := 37) X d_O_redo_9 rfl (nI_le (by omega) (by omega)) ?_
      refine zr_iload_n X d_O_redo_37 rfl ?_
      refine zr_if_let (tgt := 50) X d_O_redo_38 rfl (by decide) ?_
      refine zr_iload_n X d_O_redo_50 rfl ?_
      refine zr_ireturn Y d_O_redo_51 rfl (Nat.le_of_ble_eq_true rfl) (Nat.le_of_ble_eq_true rfl) ?_
      exact ⟨rfl, rfl, rfl, rfl⟩
    | succ d ih =>
      intro i hi hi0
      show G 0 0 4 [some (.ref (q 10)), some (.int (zfi (zlt pa th i))), some (.int (nI i))] [] N q f
      refine zr_iload_n X d_O_redo_4 rfl ?_
      refine zr_aload_n X d_O_redo_5 rfl ?_
      refine zr_get X F_O_7 d_O_redo_6 (by omega) h10 (v := .int (nI n)) rfl ?_
      refine zr_icmp_gef (tgt := 37) X d_O_redo_9 rfl (nI_ge (by omega) (by omega)) ?_
      refine zr_aload_n X d_O_redo_12 rfl ?_
      refine zr_get X F_O_13 d_O_redo_13 (by omega) h10 (v := .ref (q 11)) rfl ?_
      refine zr_iload_n X d_O_redo_16 rfl ?_
      refine zr_iaload (v := pa i) X 0 d_O_redo_17 (by omega) h11 rfl (by omega) (by decide) rfl ?_
      refine zr_aload_n X d_O_redo_18 rfl ?_
      refine zr_get X F_O_62 d_O_redo_19 (by omega) h10 (v := .int (nI th)) rfl ?_
      refine zr_icmp_ne (tgt := 29) X d_O_redo_22 rfl (fun h22 => ?_) (fun h22 => ?_)
      · skip
        refine zr_iload_n X d_O_redo_29 rfl ?_
        refine zr_istore_n (lv' := [some (.ref (q 10)), some (.int (zfi (zlt pa th i))), some (.int (nI i))]) X d_O_redo_30 (by decide) rfl ?_
        refine zr_iinc (v := nI (i + 1)) (lv' := [some (.ref (q 10)), some (.int (zfi (zlt pa th i))), some (.int (nI (i + 1)))]) X d_O_redo_31 rfl (nI_1 _) (by decide) rfl ?_
        refine zr_goto (tgt := 4) X d_O_redo_34 rfl ?_
        have h9 := ih (i + 1) (by omega) (by omega)
        rw [show zlt pa th (i + 1) = zlt pa th i from if_neg (fun h8 => h22 h8.2)] at h9
        exact h9
      · skip
        refine zr_iload_n X d_O_redo_25 rfl ?_
        refine zr_goto (tgt := 30) X d_O_redo_26 rfl ?_
        refine zr_istore_n (lv' := [some (.ref (q 10)), some (.int (nI i)), some (.int (nI i))]) X d_O_redo_30 (by decide) rfl ?_
        refine zr_iinc (v := nI (i + 1)) (lv' := [some (.ref (q 10)), some (.int (nI i)), some (.int (nI (i + 1)))]) X d_O_redo_31 rfl (nI_1 _) (by decide) rfl ?_
        refine zr_goto (tgt := 4) X d_O_redo_34 rfl ?_
        have h9 := ih (i + 1) (by omega) (by omega)
        rw [show zlt pa th (i + 1) = some i from if_pos ⟨hi0, h22⟩] at h9
        exact h9
  refine zr_iconst (v := (-1)) X d_O_redo_0 (by decide) ?_
  refine zr_istore_n (lv' := [some (.ref (q 10)), some (.int ((-1))), none]) X d_O_redo_1 (by decide) rfl ?_
  refine zr_iconst (v := nI 1) X d_O_redo_2 (by decide) ?_
  refine zr_istore_n (lv' := [some (.ref (q 10)), some (.int ((-1))), some (.int (nI 1))]) X d_O_redo_3 (by decide) rfl ?_
  have h9 := loop (n - 1) 1 (by omega) (by omega)
  rw [zlt_1] at h9
  exact h9

set_option maxRecDepth 100000 in
set_option maxHeartbeats 4000000 in
theorem c_O_redo_y {l : Launch} {D : va_G} {cI cC cZ cV : ClassId} {N : Nat} {q : Nat → Nat} {f : zF} (hN : 23 ≤ N) {n po th sz ty : Nat} (h10 : f 10 = zmo q n po th sz ty) {pa : Nat → Int32} (h11 : f 11 = .inl (cI, 122, .inl pa)) {co : Nat → Int32} (h12 : f 12 = .inl (cZ, 122, .inl co)) {pl : Nat → Int32} (h13 : f 13 = .inl (cI, 122, .inl pl)) {mn : Nat → Int32} (h14 : f 14 = .inl (cI, 122, .inl mn)) {fi : Nat → Int32} (h15 : f 15 = .inl (cI, 122, .inl fi)) {pool : Nat → Int32} (h16 : f 16 = .inl (cC, 2000, .inl pool)) {tx : Nat → Int32} (h17 : f 17 = .inl (cC, 2000, .inl tx)) {way : Nat → Int32} (h18 : f 18 = .inl (cI, 122, .inl way)) {ma : Nat → Int32} (h21 : f 21 = .inl (cI, 6, .inl ma)) {mr : Nat → Int32} (h22 : f 22 = .inl (cZ, 6, .inl mr)) (htx : zCh tx) (hpool : zCh pool) {par : Nat → Nat} {com : Nat → Bool} {tp tc : Nat → Nat} {tq : Nat → Nat → Int32} {tz : Nat → Nat} {tt : Nat → Nat → Int32} (T : zTree n par com tp tc tq tz tt) (M : zMT n par com tp tc tq pa co pl mn fi pool) (hth : th < n) (hn : n ≤ 122) {v : Nat} (hl : zlt pa th n = some v) (hv0 : 0 < v) (hv : v < n) : zC l y_O_redo b_O_redo 3 (some .int) (rmD 2 0 0) D (zty cI cC cZ cV) [.ref (q 10)] N q f (fun x N' q' f' => x = some (.int (nI v)) ∧ N' = N ∧ q' = q ∧ zMade cC cI q n po v ty tz tt (zoM (com v) (tp v) (tc v) ma mr) f f') := by
  refine zC.of (by decide) (by simp [Value.category]) (Nat.le_of_ble_eq_true rfl) (fun G X Y => ?_)
  show G 0 0 0 [some (.ref (q 10)), none, none] [] N q f
  have loop : ∀ (d i : Nat), i + d = n → 0 < i → G 0 0 4 [some (.ref (q 10)), some (.int (zfi (zlt pa th i))), some (.int (nI i))] [] N q f := by
    intro d
    induction d with
    | zero =>
      intro i hi hi0
      show G 0 0 4 [some (.ref (q 10)), some (.int (zfi (zlt pa th i))), some (.int (nI i))] [] N q f
      rw [show i = n by omega, hl]
      show G 0 0 4 [some (.ref (q 10)), some (.int (nI v)), some (.int (nI n))] [] N q f
      obtain ⟨M1, M2, M3, M4, -⟩ := M v hv0 hv
      refine zr_iload_n X d_O_redo_4 rfl ?_
      refine zr_aload_n X d_O_redo_5 rfl ?_
      refine zr_get X F_O_7 d_O_redo_6 (by omega) h10 (v := .int (nI n)) rfl ?_
      refine zr_icmp_get (tgt := 37) X d_O_redo_9 rfl (nI_le (by omega) (by omega)) ?_
      refine zr_iload_n X d_O_redo_37 rfl ?_
      refine zr_if_lef (tgt := 50) X d_O_redo_38 rfl (nI_nle hv0 (by omega)) ?_
      refine zr_aload_n X d_O_redo_41 rfl ?_
      refine zr_iload_n X d_O_redo_42 rfl ?_
      refine zr_callV X K_O_93 KI_O_93 KS_O_93 (c_O_stepOn hN h10 h12 h13 h14 h21 h22 (by omega) M3 M4 M2) d_O_redo_43 (by omega) h10 rfl rfl (by decide) (Nat.le_of_ble_eq_true rfl) (by decide) (st := []) rfl (kW ?_)
      show G 0 0 46 [some (.ref (q 10)), some (.int (nI v)), some (.int (nI n))] [] N q (va_up (va_up f 21 (.inl (cI, 6, .inl (zoM (com v) (tp v) (tc v) ma mr)))) 10 (.inr (iO, [.int (nI n), .ref (q 11), .ref (q 12), .ref (q 13), .ref (q 14), .ref (q 15), .int (nI po), .ref (q 16), .int (nI v), .int (nI sz), .ref (q 17), .ref (q 18), .int (nI ty), .ref (q 19), .ref (q 20), .ref (q 21), .ref (q 22)])))
      refine zr_aload_n X d_O_redo_46 rfl ?_
      refine zr_callV X K_O_76 KI_O_76 KS_O_76 (c_O_make hN up_eq (up_ne (by decide) (up_ne (by decide) h11)) (up_ne (by decide) (up_ne (by decide) h12)) (up_ne (by decide) (up_ne (by decide) h13)) (up_ne (by decide) (up_ne (by decide) h14)) (up_ne (by decide) (up_ne (by decide) h15)) (up_ne (by decide) (up_ne (by decide) h16)) (up_ne (by decide) (up_ne (by decide) h17)) (up_ne (by decide) (up_ne (by decide) h18)) htx hpool T M hv hn) d_O_redo_47 (by omega) up_eq rfl rfl (by decide) (Nat.le_of_ble_eq_true rfl) (by decide) (st := []) rfl (kV fun f1 hm1 => ?_)
      obtain ⟨g1, w1, m1, m2, m3, m4, m5, m6⟩ := hm1
      show G 0 0 50 [some (.ref (q 10)), some (.int (nI v)), some (.int (nI n))] [] N q f1
      refine zr_iload_n X d_O_redo_50 rfl ?_
      refine zr_ireturn Y d_O_redo_51 rfl (Nat.le_of_ble_eq_true rfl) (Nat.le_of_ble_eq_true rfl) ?_
      exact ⟨rfl, rfl, rfl, ⟨g1, w1, m1, m2, m3, m4, m5⟩, (m6 21 (by decide) (by decide) (by decide)).trans (up_ne (by decide) up_eq), fun jj k1 k2 k3 k4 => (m6 jj k1 k2 k3).trans (up_ne k1 (up_ne k4 rfl))⟩
    | succ d ih =>
      intro i hi hi0
      show G 0 0 4 [some (.ref (q 10)), some (.int (zfi (zlt pa th i))), some (.int (nI i))] [] N q f
      refine zr_iload_n X d_O_redo_4 rfl ?_
      refine zr_aload_n X d_O_redo_5 rfl ?_
      refine zr_get X F_O_7 d_O_redo_6 (by omega) h10 (v := .int (nI n)) rfl ?_
      refine zr_icmp_gef (tgt := 37) X d_O_redo_9 rfl (nI_ge (by omega) (by omega)) ?_
      refine zr_aload_n X d_O_redo_12 rfl ?_
      refine zr_get X F_O_13 d_O_redo_13 (by omega) h10 (v := .ref (q 11)) rfl ?_
      refine zr_iload_n X d_O_redo_16 rfl ?_
      refine zr_iaload (v := pa i) X 0 d_O_redo_17 (by omega) h11 rfl (by omega) (by decide) rfl ?_
      refine zr_aload_n X d_O_redo_18 rfl ?_
      refine zr_get X F_O_62 d_O_redo_19 (by omega) h10 (v := .int (nI th)) rfl ?_
      refine zr_icmp_ne (tgt := 29) X d_O_redo_22 rfl (fun k22 => ?_) (fun k22 => ?_)
      · skip
        refine zr_iload_n X d_O_redo_29 rfl ?_
        refine zr_istore_n (lv' := [some (.ref (q 10)), some (.int (zfi (zlt pa th i))), some (.int (nI i))]) X d_O_redo_30 (by decide) rfl ?_
        refine zr_iinc (v := nI (i + 1)) (lv' := [some (.ref (q 10)), some (.int (zfi (zlt pa th i))), some (.int (nI (i + 1)))]) X d_O_redo_31 rfl (nI_1 _) (by decide) rfl ?_
        refine zr_goto (tgt := 4) X d_O_redo_34 rfl ?_
        have h9 := ih (i + 1) (by omega) (by omega)
        rw [show zlt pa th (i + 1) = zlt pa th i from if_neg (fun h8 => k22 h8.2)] at h9
        exact h9
      · skip
        refine zr_iload_n X d_O_redo_25 rfl ?_
        refine zr_goto (tgt := 30) X d_O_redo_26 rfl ?_
        refine zr_istore_n (lv' := [some (.ref (q 10)), some (.int (nI i)), some (.int (nI i))]) X d_O_redo_30 (by decide) rfl ?_
        refine zr_iinc (v := nI (i + 1)) (lv' := [some (.ref (q 10)), some (.int (nI i)), some (.int (nI (i + 1)))]) X d_O_redo_31 rfl (nI_1 _) (by decide) rfl ?_
        refine zr_goto (tgt := 4) X d_O_redo_34 rfl ?_
        have h9 := ih (i + 1) (by omega) (by omega)
        rw [show zlt pa th (i + 1) = some i from if_pos ⟨hi0, k22⟩] at h9
        exact h9
  refine zr_iconst (v := (-1)) X d_O_redo_0 (by decide) ?_
  refine zr_istore_n (lv' := [some (.ref (q 10)), some (.int ((-1))), none]) X d_O_redo_1 (by decide) rfl ?_
  refine zr_iconst (v := nI 1) X d_O_redo_2 (by decide) ?_
  refine zr_istore_n (lv' := [some (.ref (q 10)), some (.int ((-1))), some (.int (nI 1))]) X d_O_redo_3 (by decide) rfl ?_
  have h9 := loop (n - 1) 1 (by omega) (by omega)
  rw [zlt_1] at h9
  exact h9

set_option maxRecDepth 100000 in
set_option maxHeartbeats 4000000 in
theorem c_O_leads {l : Launch} {D : va_G} {cI cC cZ cV : ClassId} {N : Nat} {q : Nat → Nat} {f : zF} (hN : 23 ≤ N) {n po th sz ty : Nat} (h10 : f 10 = zmo q n po th sz ty) {pa : Nat → Int32} (h11 : f 11 = .inl (cI, 122, .inl pa)) {par : Nat → Nat} (hp : ∀ v, 0 < v → v < n → par v < v) (hp0 : par 0 = 0) (hpa : ∀ v, 0 < v → v < n → pa v = nI (par v)) (hn : n ≤ 122) {v to : Nat} (hv : v < n) (hto : to < n) : zC l y_O_leads b_O_leads 4 (some .boolean) (rmD 0 0 0) D (zty cI cC cZ cV) [.ref (q 10), .int (nI v), .int (nI to)] N q f (pI N q (fun r f' => f' = f ∧ ((r = nI 1 ∧ ∃ k, zit par to k = v) ∨ (r = nI 0 ∧ ∀ k, zit par to k ≠ v)))) := by
  refine zC.of (by decide) (by simp [Value.category]) (Nat.le_of_ble_eq_true rfl) (fun G X Y => ?_)
  show G 0 0 0 [some (.ref (q 10)), some (.int (nI v)), some (.int (nI to)), none] [] N q f
  have loop : ∀ (d i : Nat), zit par to i ≤ d → (∀ k, k < i → zit par to k ≠ v) → G 0 0 2 [some (.ref (q 10)), some (.int (nI v)), some (.int (nI to)), some (.int (nI (zit par to i)))] [] N q f := by
    intro d
    induction d with
    | zero =>
      intro i hd hb
      have hzn := zit_lt hp hp0 hto i
      have hle : zit par to i ≤ v := by omega
      by_cases he : zit par to i = v
      · skip
        show G 0 0 2 [some (.ref (q 10)), some (.int (nI v)), some (.int (nI to)), some (.int (nI (zit par to i)))] [] N q f
        refine zr_iload_n X d_O_leads_2 rfl ?_
        refine zr_iload_n X d_O_leads_3 rfl ?_
        refine zr_icmp_let (tgt := 17) X d_O_leads_4 rfl (nI_le (by omega) (by omega)) ?_
        refine zr_iload_n X d_O_leads_17 rfl ?_
        refine zr_iload_n X d_O_leads_18 rfl ?_
        refine zr_icmp_nef (tgt := 26) X d_O_leads_19 rfl (by rw [he]) ?_
        refine zr_iconst (v := nI 1) X d_O_leads_22 (by decide) ?_
        refine zr_goto (tgt := 27) X d_O_leads_23 rfl ?_
        refine zr_ireturn Y d_O_leads_27 rfl (Nat.le_of_ble_eq_true rfl) (Nat.le_of_ble_eq_true rfl) ?_
        exact ⟨_, rfl, rfl, rfl, rfl, Or.inl ⟨rfl, i, he⟩⟩
      · skip
        show G 0 0 2 [some (.ref (q 10)), some (.int (nI v)), some (.int (nI to)), some (.int (nI (zit par to i)))] [] N q f
        refine zr_iload_n X d_O_leads_2 rfl ?_
        refine zr_iload_n X d_O_leads_3 rfl ?_
        refine zr_icmp_let (tgt := 17) X d_O_leads_4 rfl (nI_le (by omega) (by omega)) ?_
        refine zr_iload_n X d_O_leads_17 rfl ?_
        refine zr_iload_n X d_O_leads_18 rfl ?_
        refine zr_icmp_net (tgt := 26) X d_O_leads_19 rfl (fun h9 => he ((nI_eq (by omega) (by omega)).mp h9)) ?_
        refine zr_iconst (v := nI 0) X d_O_leads_26 (by decide) ?_
        refine zr_ireturn Y d_O_leads_27 rfl (Nat.le_of_ble_eq_true rfl) (Nat.le_of_ble_eq_true rfl) ?_
        refine ⟨_, rfl, rfl, rfl, rfl, Or.inr ⟨rfl, fun k h9 => ?_⟩⟩
        by_cases hk : k < i
        · exact hb k hk h9
        · have := zit_mono hp hp0 hto (show i ≤ k by omega)
          omega
    | succ d ih =>
      intro i hd hb
      have hzn := zit_lt hp hp0 hto i
      by_cases hle : zit par to i ≤ v
      · skip
        by_cases he : zit par to i = v
        · skip
          show G 0 0 2 [some (.ref (q 10)), some (.int (nI v)), some (.int (nI to)), some (.int (nI (zit par to i)))] [] N q f
          refine zr_iload_n X d_O_leads_2 rfl ?_
          refine zr_iload_n X d_O_leads_3 rfl ?_
          refine zr_icmp_let (tgt := 17) X d_O_leads_4 rfl (nI_le (by omega) (by omega)) ?_
          refine zr_iload_n X d_O_leads_17 rfl ?_
          refine zr_iload_n X d_O_leads_18 rfl ?_
          refine zr_icmp_nef (tgt := 26) X d_O_leads_19 rfl (by rw [he]) ?_
          refine zr_iconst (v := nI 1) X d_O_leads_22 (by decide) ?_
          refine zr_goto (tgt := 27) X d_O_leads_23 rfl ?_
          refine zr_ireturn Y d_O_leads_27 rfl (Nat.le_of_ble_eq_true rfl) (Nat.le_of_ble_eq_true rfl) ?_
          exact ⟨_, rfl, rfl, rfl, rfl, Or.inl ⟨rfl, i, he⟩⟩
        · skip
          show G 0 0 2 [some (.ref (q 10)), some (.int (nI v)), some (.int (nI to)), some (.int (nI (zit par to i)))] [] N q f
          refine zr_iload_n X d_O_leads_2 rfl ?_
          refine zr_iload_n X d_O_leads_3 rfl ?_
          refine zr_icmp_let (tgt := 17) X d_O_leads_4 rfl (nI_le (by omega) (by omega)) ?_
          refine zr_iload_n X d_O_leads_17 rfl ?_
          refine zr_iload_n X d_O_leads_18 rfl ?_
          refine zr_icmp_net (tgt := 26) X d_O_leads_19 rfl (fun h9 => he ((nI_eq (by omega) (by omega)).mp h9)) ?_
          refine zr_iconst (v := nI 0) X d_O_leads_26 (by decide) ?_
          refine zr_ireturn Y d_O_leads_27 rfl (Nat.le_of_ble_eq_true rfl) (Nat.le_of_ble_eq_true rfl) ?_
          refine ⟨_, rfl, rfl, rfl, rfl, Or.inr ⟨rfl, fun k h9 => ?_⟩⟩
          by_cases hk : k < i
          · exact hb k hk h9
          · have := zit_mono hp hp0 hto (show i ≤ k by omega)
            omega
      · skip
        have hlt := hp _ (show 0 < zit par to i by omega) hzn
        show G 0 0 2 [some (.ref (q 10)), some (.int (nI v)), some (.int (nI to)), some (.int (nI (zit par to i)))] [] N q f
        refine zr_iload_n X d_O_leads_2 rfl ?_
        refine zr_iload_n X d_O_leads_3 rfl ?_
        refine zr_icmp_lef (tgt := 17) X d_O_leads_4 rfl (nI_ge (by omega) (by omega)) ?_
        refine zr_aload_n X d_O_leads_7 rfl ?_
        refine zr_get X F_O_13 d_O_leads_8 (by omega) h10 (v := .ref (q 11)) rfl ?_
        refine zr_iload_n X d_O_leads_11 rfl ?_
        refine zr_iaload (v := nI (zit par to (i + 1))) X 0 d_O_leads_12 (by omega) h11 rfl (by omega) (by decide) (hpa _ (by omega) hzn) ?_
        refine zr_istore_n (lv' := [some (.ref (q 10)), some (.int (nI v)), some (.int (nI to)), some (.int (nI (zit par to (i + 1))))]) X d_O_leads_13 (by decide) rfl ?_
        refine zr_goto (tgt := 2) X d_O_leads_14 rfl ?_
        exact ih (i + 1) (by show par (zit par to i) ≤ d; omega) (fun k hk => by
          by_cases h8 : k = i
          · rw [h8]; omega
          · exact hb k (by omega))
  refine zr_iload_n X d_O_leads_0 rfl ?_
  refine zr_istore_n (lv' := [some (.ref (q 10)), some (.int (nI v)), some (.int (nI to)), some (.int (nI to))]) X d_O_leads_1 (by decide) rfl ?_
  exact loop to 0 (Nat.le_refl _) (fun k hk => absurd hk (Nat.not_lt_zero _))

set_option maxRecDepth 100000 in
set_option maxHeartbeats 4000000 in
theorem c_O_next {l : Launch} {D : va_G} {cI cC cZ cV : ClassId} {N : Nat} {q : Nat → Nat} {f : zF} (hN : 23 ≤ N) {n po th sz ty : Nat} (h10 : f 10 = zmo q n po th sz ty) {pa : Nat → Int32} (h11 : f 11 = .inl (cI, 122, .inl pa)) {par : Nat → Nat} (hp : ∀ v, 0 < v → v < n → par v < v) (hp0 : par 0 = 0) (hpa : ∀ v, 0 < v → v < n → pa v = nI (par v)) (hn : n ≤ 122) {to J : Nat} (hto : to < n) (hJ : zit par to (J + 1) = th) (hmin : ∀ k, k ≤ J → zit par to k ≠ th) : zC l y_O_next b_O_next 3 (some .int) (rmD 0 0 0) D (zty cI cC cZ cV) [.ref (q 10), .int (nI to)] N q f (pRd N q f (nI (zit par to J))) := by
  refine zC.of (by decide) (by simp [Value.category]) (Nat.le_of_ble_eq_true rfl) (fun G X Y => ?_)
  show G 0 0 0 [some (.ref (q 10)), some (.int (nI to)), none] [] N q f
  have hthn : th < n := by rw [← hJ]; exact zit_lt hp hp0 hto _
  have hpos : ∀ k, k ≤ J → 0 < zit par to k := fun k hk => by
    by_cases h : zit par to k = 0
    · have h1 := zit_zero hp0 h (J + 1 - k)
      rw [show k + (J + 1 - k) = J + 1 by omega, hJ] at h1
      exact absurd (h.trans h1.symm) (hmin k hk)
    · omega
  have loop : ∀ (d i : Nat), i + d = J → G 0 0 2 [some (.ref (q 10)), some (.int (nI to)), some (.int (nI (zit par to i)))] [] N q f := by
    intro d
    induction d with
    | zero =>
      intro i hi
      have hzn := zit_lt hp hp0 hto i
      have hi2 : i = J := by omega
      subst hi2
      have hpos := hpos i (Nat.le_refl _)
      show G 0 0 2 [some (.ref (q 10)), some (.int (nI to)), some (.int (nI (zit par to i)))] [] N q f
      refine zr_aload_n X d_O_next_2 rfl ?_
      refine zr_get X F_O_13 d_O_next_3 (by omega) h10 (v := .ref (q 11)) rfl ?_
      refine zr_iload_n X d_O_next_6 rfl ?_
      refine zr_iaload (v := nI (par (zit par to i))) X 0 d_O_next_7 (by omega) h11 rfl (by omega) (by decide) (hpa _ hpos hzn) ?_
      refine zr_aload_n X d_O_next_8 rfl ?_
      refine zr_get X F_O_62 d_O_next_9 (by omega) h10 (v := .int (nI th)) rfl ?_
      refine zr_icmp_eqt (tgt := 25) X d_O_next_12 rfl (by rw [← hJ]; rfl) ?_
      refine zr_iload_n X d_O_next_25 rfl ?_
      refine zr_ireturn Y d_O_next_26 rfl (Nat.le_of_ble_eq_true rfl) (Nat.le_of_ble_eq_true rfl) ?_
      exact ⟨rfl, rfl, rfl, rfl⟩
    | succ d ih =>
      intro i hi
      have hzn := zit_lt hp hp0 hto i
      have hzn2 := zit_lt hp hp0 hto (i + 1)
      have hpo := hpos i (by omega)
      show G 0 0 2 [some (.ref (q 10)), some (.int (nI to)), some (.int (nI (zit par to i)))] [] N q f
      refine zr_aload_n X d_O_next_2 rfl ?_
      refine zr_get X F_O_13 d_O_next_3 (by omega) h10 (v := .ref (q 11)) rfl ?_
      refine zr_iload_n X d_O_next_6 rfl ?_
      refine zr_iaload (v := nI (zit par to (i + 1))) X 0 d_O_next_7 (by omega) h11 rfl (by omega) (by decide) (hpa _ hpo hzn) ?_
      refine zr_aload_n X d_O_next_8 rfl ?_
      refine zr_get X F_O_62 d_O_next_9 (by omega) h10 (v := .int (nI th)) rfl ?_
      refine zr_icmp_eqf (tgt := 25) X d_O_next_12 rfl (fun h9 => hmin (i + 1) (by omega) ((nI_eq (by omega) (by omega)).mp h9)) ?_
      refine zr_aload_n X d_O_next_15 rfl ?_
      refine zr_get X F_O_13 d_O_next_16 (by omega) h10 (v := .ref (q 11)) rfl ?_
      refine zr_iload_n X d_O_next_19 rfl ?_
      refine zr_iaload (v := nI (zit par to (i + 1))) X 0 d_O_next_20 (by omega) h11 rfl (by omega) (by decide) (hpa _ hpo hzn) ?_
      refine zr_istore_n (lv' := [some (.ref (q 10)), some (.int (nI to)), some (.int (nI (zit par to (i + 1))))]) X d_O_next_21 (by decide) rfl ?_
      refine zr_goto (tgt := 2) X d_O_next_22 rfl ?_
      exact ih (i + 1) (by omega)
  refine zr_iload_n X d_O_next_0 rfl ?_
  refine zr_istore_n (lv' := [some (.ref (q 10)), some (.int (nI to)), some (.int (nI to))]) X d_O_next_1 (by decide) rfl ?_
  exact loop J 0 (by omega)
end
section
set_option maxRecDepth 100000 in
set_option maxHeartbeats 4000000 in
theorem c_O_goTo_n {l : Launch} {D : va_G} {cI cC cZ cV : ClassId} {N : Nat} {q : Nat → Nat} {f : zF} (hN : 23 ≤ N) {n po th sz ty : Nat} (h10 : f 10 = zmo q n po th sz ty) {x : Int32} (hx : zNa x n) : zC l y_O_goTo b_O_goTo 4 (some .int) (rmD 2 0 0) D (zty cI cC cZ cV) [.ref (q 10), .int x] N q f (pRd N q f (-1)) := by
  refine zC.of (by decide) (by simp [Value.category]) (Nat.le_of_ble_eq_true rfl) (fun G X Y => ?_)
  show G 0 0 0 [some (.ref (q 10)), some (.int x), none, none] [] N q f
  refine zr_iload_n X d_O_goTo_0 rfl ?_
  refine zr_if_lt (tgt := 12) X d_O_goTo_1 rfl (fun h1 => ?_) (fun h1 => ?_)
  · skip
    refine zr_iconst (v := (-1)) X d_O_goTo_12 (by decide) ?_
    refine zr_ireturn Y d_O_goTo_13 rfl (Nat.le_of_ble_eq_true rfl) (Nat.le_of_ble_eq_true rfl) ?_
    exact ⟨rfl, rfl, rfl, rfl⟩
  · skip
    refine zr_iload_n X d_O_goTo_4 rfl ?_
    refine zr_aload_n X d_O_goTo_5 rfl ?_
    refine zr_get X F_O_7 d_O_goTo_6 (by omega) h10 (v := .int (nI n)) rfl ?_
    refine zr_icmp_ltf (tgt := 14) X d_O_goTo_9 rfl (z_not_lt (hx.resolve_left h1)) ?_
    refine zr_iconst (v := (-1)) X d_O_goTo_12 (by decide) ?_
    refine zr_ireturn Y d_O_goTo_13 rfl (Nat.le_of_ble_eq_true rfl) (Nat.le_of_ble_eq_true rfl) ?_
    exact ⟨rfl, rfl, rfl, rfl⟩

set_option maxRecDepth 100000 in
set_option maxHeartbeats 4000000 in
theorem c_O_goTo_y {l : Launch} {D : va_G} {cI cC cZ cV : ClassId} {N : Nat} {q : Nat → Nat} {f : zF} (hN : 23 ≤ N) {n po th sz ty : Nat} (h10 : f 10 = zmo q n po th sz ty) {pa : Nat → Int32} (h11 : f 11 = .inl (cI, 122, .inl pa)) {co : Nat → Int32} (h12 : f 12 = .inl (cZ, 122, .inl co)) {pl : Nat → Int32} (h13 : f 13 = .inl (cI, 122, .inl pl)) {mn : Nat → Int32} (h14 : f 14 = .inl (cI, 122, .inl mn)) {fi : Nat → Int32} (h15 : f 15 = .inl (cI, 122, .inl fi)) {pool : Nat → Int32} (h16 : f 16 = .inl (cC, 2000, .inl pool)) {tx : Nat → Int32} (h17 : f 17 = .inl (cC, 2000, .inl tx)) {way : Nat → Int32} (h18 : f 18 = .inl (cI, 122, .inl way)) {ma : Nat → Int32} (h21 : f 21 = .inl (cI, 6, .inl ma)) {mr : Nat → Int32} (h22 : f 22 = .inl (cZ, 6, .inl mr)) (htx : zCh tx) (hpool : zCh pool) {par : Nat → Nat} {com : Nat → Bool} {tp tc : Nat → Nat} {tq : Nat → Nat → Int32} {tz : Nat → Nat} {tt : Nat → Nat → Int32} (T : zTree n par com tp tc tq tz tt) (M : zMT n par com tp tc tq pa co pl mn fi pool) (hth : th < n) (hn : n ≤ 122) {b kb ko : Nat} (hp0 : par 0 = 0) (hb : b < n) (w : zWay par th b kb ko) : zC l y_O_goTo b_O_goTo 4 (some .int) (rmD 2 0 0) D (zty cI cC cZ cV) [.ref (q 10), .int (nI b)] N q f (fun v N' q' f' => v = some (.int (nI (kb + ko))) ∧ N' = N ∧ q' = q ∧ zMade cC cI q n po b ty tz tt (zons par com tp tc b ko mr (zbks par com tp tc th mr ma kb) ko) f f') := by
  refine zC.of (by decide) (by simp [Value.category]) (Nat.le_of_ble_eq_true rfl) (fun G X Y => ?_)
  show G 0 0 0 [some (.ref (q 10)), some (.int (nI b)), none, none] [] N q f
  have hp := fun v h0 h => T.lt (v := v) h0 h
  have hkb := w.kb hp hp0 hth hb
  have hko := w.ko hp hp0 hb
  have hpa := fun v h0 h => (M v h0 h).1
  have loopB : ∀ (J : Nat) (F : zF) (mx : Nat → Int32) (o : Option Value), J ≤ ko → F 10 = zmo q n po (zit par b J) sz ty → F 21 = .inl (cI, 6, .inl mx) → mx = zons par com tp tc b ko mr (zbks par com tp tc th mr ma kb) (ko - J) → (∀ jj, jj ≠ 10 → jj ≠ 21 → F jj = f jj) → G 0 0 38 [some (.ref (q 10)), some (.int (nI b)), some (.int (nI (kb + (ko - J)))), o] [] N q F := by
    intro J
    induction J with
    | zero =>
      intro F mx o hJ hF10 hF21 hmx hF
      show G 0 0 38 [some (.ref (q 10)), some (.int (nI b)), some (.int (nI (kb + (ko - 0)))), o] [] N q F
      refine zr_aload_n X d_O_goTo_38 rfl ?_
      refine zr_get X F_O_62 d_O_goTo_39 (by omega) hF10 (v := .int (nI (zit par b 0))) rfl ?_
      refine zr_iload_n X d_O_goTo_42 rfl ?_
      refine zr_icmp_eqt (tgt := 63) X d_O_goTo_43 rfl rfl ?_
      refine zr_aload_n X d_O_goTo_63 rfl ?_
      refine zr_callV X K_O_76 KI_O_76 KS_O_76 (c_O_make hN hF10 ((hF 11 (by decide) (by decide)).trans h11) ((hF 12 (by decide) (by decide)).trans h12) ((hF 13 (by decide) (by decide)).trans h13) ((hF 14 (by decide) (by decide)).trans h14) ((hF 15 (by decide) (by decide)).trans h15) ((hF 16 (by decide) (by decide)).trans h16) ((hF 17 (by decide) (by decide)).trans h17) ((hF 18 (by decide) (by decide)).trans h18) htx hpool T M hb hn) d_O_goTo_64 (by omega) hF10 rfl rfl (by decide) (Nat.le_of_ble_eq_true rfl) (by decide) (st := []) rfl (kV fun f1 hm1 => ?_)
      obtain ⟨g1, w1, m1, m2, m3, m4, m5, m6⟩ := hm1
      show G 0 0 67 [some (.ref (q 10)), some (.int (nI b)), some (.int (nI (kb + (ko - 0)))), o] [] N q f1
      refine zr_iload_n X d_O_goTo_67 rfl ?_
      refine zr_ireturn Y d_O_goTo_68 rfl (Nat.le_of_ble_eq_true rfl) (Nat.le_of_ble_eq_true rfl) ?_
      exact ⟨by rw [Nat.sub_zero], rfl, rfl, ⟨g1, w1, m1, m2, m3, m4, m5⟩, (m6 21 (by decide) (by decide) (by decide)).trans (hF21.trans (by rw [hmx, Nat.sub_zero])), fun jj k1 k2 k3 k4 => (m6 jj k1 k2 k3).trans (hF jj k1 k4)⟩
    | succ J ih =>
      intro F mx o hJ hF10 hF21 hmx hF
      have hz : zons par com tp tc b ko mr (zbks par com tp tc th mr ma kb) (ko - J) = zoM (com (zit par b J)) (tp (zit par b J)) (tc (zit par b J)) (zons par com tp tc b ko mr (zbks par com tp tc th mr ma kb) (ko - (J + 1))) mr := by
        rw [show ko - J = (ko - (J + 1)) + 1 by omega]
        show zoM (com (zit par b (ko - (ko - (J + 1) + 1)))) _ _ _ _ = _
        rw [show ko - (ko - (J + 1) + 1) = J by omega]
      rw [← hmx] at hz
      have hJ0 := w.on hp0 (show J < ko by omega)
      have hJn := zit_lt hp hp0 hb J
      have hJn1 := zit_lt hp hp0 hb (J + 1)
      have hdn : zit par b (J + 1) < zit par b J := hp _ hJ0 hJn
      have hdb := zit_mono hp hp0 hb (Nat.zero_le J)
      have hdb : zit par b J ≤ b := hdb
      obtain ⟨M1, M2, M3, M4, -⟩ := M _ hJ0 hJn
      show G 0 0 38 [some (.ref (q 10)), some (.int (nI b)), some (.int (nI (kb + (ko - (J + 1))))), o] [] N q F
      refine zr_aload_n X d_O_goTo_38 rfl ?_
      refine zr_get X F_O_62 d_O_goTo_39 (by omega) hF10 (v := .int (nI (zit par b ((J + 1))))) rfl ?_
      refine zr_iload_n X d_O_goTo_42 rfl ?_
      refine zr_icmp_eqf (tgt := 63) X d_O_goTo_43 rfl (fun h9 => absurd ((nI_eq (by omega) (by omega)).mp h9) (by omega)) ?_
      refine zr_aload_n X d_O_goTo_46 rfl ?_
      refine zr_iload_n X d_O_goTo_47 rfl ?_
      refine zr_callV X K_O_99 KI_O_99 KS_O_99 (c_O_next hN hF10 ((hF 11 (by decide) (by decide)).trans h11) hp hp0 hpa hn hb rfl (fun k hk => by have := zit_mono hp hp0 hb hk; omega)) d_O_goTo_48 (by omega) hF10 rfl rfl (by decide) (Nat.le_of_ble_eq_true rfl) (by decide) (st := []) rfl (kRd ?_)
      show G 0 0 51 [some (.ref (q 10)), some (.int (nI b)), some (.int (nI (kb + (ko - (J + 1))))), o] [.int (nI (zit par b J))] N q F
      refine zr_istore_n (lv' := [some (.ref (q 10)), some (.int (nI b)), some (.int (nI (kb + (ko - (J + 1))))), some (.int (nI (zit par b J)))]) X d_O_goTo_51 (by decide) rfl ?_
      refine zr_aload_n X d_O_goTo_52 rfl ?_
      refine zr_iload_n X d_O_goTo_53 rfl ?_
      refine zr_callV X K_O_93 KI_O_93 KS_O_93 (c_O_stepOn hN hF10 ((hF 12 (by decide) (by decide)).trans h12) ((hF 13 (by decide) (by decide)).trans h13) ((hF 14 (by decide) (by decide)).trans h14) hF21 ((hF 22 (by decide) (by decide)).trans h22) (by omega) M3 M4 M2) d_O_goTo_54 (by omega) hF10 rfl rfl (by decide) (Nat.le_of_ble_eq_true rfl) (by decide) (st := []) rfl (kW ?_)
      show G 0 0 57 [some (.ref (q 10)), some (.int (nI b)), some (.int (nI (kb + (ko - (J + 1))))), some (.int (nI (zit par b J)))] [] N q (va_up (va_up F 21 (.inl (cI, 6, .inl (zoM (com (zit par b J)) (tp (zit par b J)) (tc (zit par b J)) mx mr)))) 10 (.inr (iO, [.int (nI n), .ref (q 11), .ref (q 12), .ref (q 13), .ref (q 14), .ref (q 15), .int (nI po), .ref (q 16), .int (nI (zit par b J)), .int (nI sz), .ref (q 17), .ref (q 18), .int (nI ty), .ref (q 19), .ref (q 20), .ref (q 21), .ref (q 22)])))
      refine zr_iinc (v := nI (kb + (ko - J))) (lv' := [some (.ref (q 10)), some (.int (nI b)), some (.int (nI (kb + (ko - J)))), some (.int (nI (zit par b J)))]) X d_O_goTo_57 rfl ((nI_1 _).trans (by rw [show kb + (ko - (J + 1)) + 1 = kb + (ko - J) by omega])) (by decide) rfl ?_
      refine zr_goto (tgt := 38) X d_O_goTo_60 rfl ?_
      exact ih _ _ _ (by omega) up_eq (up_ne (by decide) up_eq) hz.symm (fun jj k1 k2 => up_ne k1 (up_ne k2 (hF jj k1 k2)))
  have loopA : ∀ (d i : Nat) (F : zF) (mx : Nat → Int32) (o : Option Value), i + d = kb → F 10 = zmo q n po (zit par th i) sz ty → F 21 = .inl (cI, 6, .inl mx) → mx = zbks par com tp tc th mr ma i → (∀ jj, jj ≠ 10 → jj ≠ 21 → F jj = f jj) → G 0 0 16 [some (.ref (q 10)), some (.int (nI b)), some (.int (nI i)), o] [] N q F := by
    intro d
    induction d with
    | zero =>
      intro i F mx o hi hF10 hF21 hmx hF
      have hin := zit_lt hp hp0 hth i
      have hik : i = kb := by omega
      subst hik
      show G 0 0 16 [some (.ref (q 10)), some (.int (nI b)), some (.int (nI i)), o] [] N q F
      refine zr_aload_n X d_O_goTo_16 rfl ?_
      refine zr_aload_n X d_O_goTo_17 rfl ?_
      refine zr_get X F_O_62 d_O_goTo_18 (by omega) hF10 (v := .int (nI (zit par th i))) rfl ?_
      refine zr_iload_n X d_O_goTo_21 rfl ?_
      refine zr_callV X K_O_96 KI_O_96 KS_O_96 (c_O_leads hN hF10 ((hF 11 (by decide) (by decide)).trans h11) hp hp0 hpa hn hin hb) d_O_goTo_22 (by omega) hF10 rfl rfl (by decide) (Nat.le_of_ble_eq_true rfl) (by decide) (st := []) rfl (kI fun r1 F1 hr1 => ?_)
      obtain ⟨e1, h8⟩ := hr1
      rw [e1]
      show G 0 0 25 [some (.ref (q 10)), some (.int (nI b)), some (.int (nI i)), o] [.int r1] N q F
      rcases h8 with ⟨rfl, k9, h8⟩ | ⟨rfl, h8⟩
      · skip
        show G 0 0 25 [some (.ref (q 10)), some (.int (nI b)), some (.int (nI i)), o] [.int (nI 1)] N q F
        refine zr_if_net (tgt := 38) X d_O_goTo_25 rfl (by decide) ?_
        have h9 := loopB ko F mx o (Nat.le_refl _) (by rw [← w.1]; exact hF10) hF21 (by rw [hmx, Nat.sub_self]; rfl) hF
        rw [Nat.sub_self] at h9
        exact h9
      · skip
        exact absurd w.1.symm (h8 ko)
    | succ d ih =>
      intro i F mx o hi hF10 hF21 hmx hF
      have hin := zit_lt hp hp0 hth i
      have hi0 := w.back hp hp0 hth hb (show i < kb by omega)
      obtain ⟨M1, M2, M3, M4, -⟩ := M _ hi0 hin
      show G 0 0 16 [some (.ref (q 10)), some (.int (nI b)), some (.int (nI i)), o] [] N q F
      refine zr_aload_n X d_O_goTo_16 rfl ?_
      refine zr_aload_n X d_O_goTo_17 rfl ?_
      refine zr_get X F_O_62 d_O_goTo_18 (by omega) hF10 (v := .int (nI (zit par th i))) rfl ?_
      refine zr_iload_n X d_O_goTo_21 rfl ?_
      refine zr_callV X K_O_96 KI_O_96 KS_O_96 (c_O_leads hN hF10 ((hF 11 (by decide) (by decide)).trans h11) hp hp0 hpa hn hin hb) d_O_goTo_22 (by omega) hF10 rfl rfl (by decide) (Nat.le_of_ble_eq_true rfl) (by decide) (st := []) rfl (kI fun r1 F1 hr1 => ?_)
      obtain ⟨e1, h8⟩ := hr1
      rw [e1]
      show G 0 0 25 [some (.ref (q 10)), some (.int (nI b)), some (.int (nI i)), o] [.int r1] N q F
      rcases h8 with ⟨rfl, k9, h8⟩ | ⟨rfl, h8⟩
      · skip
        exact absurd h8 (w.2.1 i (by omega) k9)
      · skip
        show G 0 0 25 [some (.ref (q 10)), some (.int (nI b)), some (.int (nI i)), o] [.int (nI 0)] N q F
        refine zr_if_nef (tgt := 38) X d_O_goTo_25 rfl (by decide) ?_
        refine zr_aload_n X d_O_goTo_28 rfl ?_
        refine zr_callV X K_O_90 KI_O_90 KS_O_90 (c_O_stepBack hN hF10 ((hF 11 (by decide) (by decide)).trans h11) ((hF 12 (by decide) (by decide)).trans h12) ((hF 13 (by decide) (by decide)).trans h13) ((hF 14 (by decide) (by decide)).trans h14) hF21 ((hF 22 (by decide) (by decide)).trans h22) (by omega) M1 M3 M4 M2) d_O_goTo_29 (by omega) hF10 rfl rfl (by decide) (Nat.le_of_ble_eq_true rfl) (by decide) (st := []) rfl (kW ?_)
        show G 0 0 32 [some (.ref (q 10)), some (.int (nI b)), some (.int (nI i)), o] [] N q (va_up (va_up F 21 (.inl (cI, 6, .inl (zoM (!(com (zit par th i))) (tp (zit par th i)) (tc (zit par th i)) mx mr)))) 10 (.inr (iO, [.int (nI n), .ref (q 11), .ref (q 12), .ref (q 13), .ref (q 14), .ref (q 15), .int (nI po), .ref (q 16), .int (nI (par (zit par th i))), .int (nI sz), .ref (q 17), .ref (q 18), .int (nI ty), .ref (q 19), .ref (q 20), .ref (q 21), .ref (q 22)])))
        refine zr_iinc (v := nI (i + 1)) (lv' := [some (.ref (q 10)), some (.int (nI b)), some (.int (nI (i + 1))), o]) X d_O_goTo_32 rfl (nI_1 _) (by decide) rfl ?_
        refine zr_goto (tgt := 16) X d_O_goTo_35 rfl ?_
        exact ih (i + 1) _ _ _ (by omega) up_eq (up_ne (by decide) up_eq) (by rw [hmx]; rfl) (fun jj k1 k2 => up_ne k1 (up_ne k2 (hF jj k1 k2)))
  refine zr_iload_n X d_O_goTo_0 rfl ?_
  refine zr_if_ltf (tgt := 12) X d_O_goTo_1 rfl (nI_pos (by omega)) ?_
  refine zr_iload_n X d_O_goTo_4 rfl ?_
  refine zr_aload_n X d_O_goTo_5 rfl ?_
  refine zr_get X F_O_7 d_O_goTo_6 (by omega) h10 (v := .int (nI n)) rfl ?_
  refine zr_icmp_ltt (tgt := 14) X d_O_goTo_9 rfl (nI_lt hb (by omega)) ?_
  refine zr_iconst (v := nI 0) X d_O_goTo_14 (by decide) ?_
  refine zr_istore_n (lv' := [some (.ref (q 10)), some (.int (nI b)), some (.int (nI 0)), none]) X d_O_goTo_15 (by decide) rfl ?_
  exact loopA kb 0 f ma none (by omega) h10 h21 rfl (fun _ _ _ => rfl)

theorem zbi_v {b : Bool} : vp_nar .boolean (zbi b) = zbi b := by cases b <;> rfl
theorem zMT.add {n : Nat} {par : Nat → Nat} {com : Nat → Bool} {tp tc : Nat → Nat} {tq : Nat → Nat → Int32} {pa co pl mn fi pool : Nat → Int32} (M : zMT n par com tp tc tq pa co pl mn fi pool) (hf : com n = true → ∃ a, fi n = nI a ∧ a + tc n ≤ 2000 ∧ ∀ i, i < tc n → pool (a + i) = tq n i) : zMT (n + 1) par com tp tc tq (upd pa n (nI (par n))) (upd co n (zbi (com n))) (upd pl n (nI (tp n))) (upd mn n (nI (tc n))) fi pool := by
  intro v h0 hv
  by_cases h : v = n
  · subst h
    exact ⟨pk_us, pk_us, pk_us, pk_us, hf⟩
  · obtain ⟨h1, h2, h3, h4, h5⟩ := M v h0 (by omega)
    exact ⟨(pk_un h).trans h1, (pk_un h).trans h2, (pk_un h).trans h3, (pk_un h).trans h4, h5⟩
/-- the store behind an edit that made version n -/
def zEd (cC cI cZ : ClassId) (q : Nat → Nat) (n po th ty : Nat) (b : Bool) (p c : Nat) (tz : Nat → Nat) (tt : Nat → Nat → Int32) (pa co pl mn ma : Nat → Int32) (f f' : zF) : Prop := (∃ g w, f' 10 = zmo q (n + 1) po n (tz n) ty ∧ f' 17 = .inl (cC, 2000, .inl g) ∧ f' 18 = .inl (cI, 122, .inl w) ∧ zCh g ∧ ∀ j, j < tz n → g j = tt n j) ∧ f' 21 = .inl (cI, 6, .inl ma) ∧ f' 11 = .inl (cI, 122, .inl (upd pa n (nI th))) ∧ f' 12 = .inl (cZ, 122, .inl (upd co n (zbi b))) ∧ f' 13 = .inl (cI, 122, .inl (upd pl n (nI p))) ∧ f' 14 = .inl (cI, 122, .inl (upd mn n (nI c))) ∧ ∀ jj, jj ≠ 10 → jj ≠ 17 → jj ≠ 18 → jj ≠ 21 → jj ≠ 11 → jj ≠ 12 → jj ≠ 13 → jj ≠ 14 → f' jj = f jj
theorem cpy_upS {f g : Nat → Int32} {dp k : Nat} : upd (va_cpy f g 0 dp k) (dp + k) (f k) = va_cpy f g 0 dp (k + 1) := by
  have h := cpy_up (f := f) (g := g) (sp := 0) (dp := dp) (k := k)
  rwa [Nat.zero_add] at h

set_option maxRecDepth 100000 in
set_option maxHeartbeats 4000000 in
theorem c_O_edit {l : Launch} {D : va_G} {cI cC cZ cV : ClassId} {N : Nat} {q : Nat → Nat} {f : zF} (hN : 23 ≤ N) {n po th sz ty : Nat} (h10 : f 10 = zmo q n po th sz ty) {pa : Nat → Int32} (h11 : f 11 = .inl (cI, 122, .inl pa)) {co : Nat → Int32} (h12 : f 12 = .inl (cZ, 122, .inl co)) {pl : Nat → Int32} (h13 : f 13 = .inl (cI, 122, .inl pl)) {mn : Nat → Int32} (h14 : f 14 = .inl (cI, 122, .inl mn)) {fi : Nat → Int32} (h15 : f 15 = .inl (cI, 122, .inl fi)) {pool : Nat → Int32} (h16 : f 16 = .inl (cC, 2000, .inl pool)) {tx : Nat → Int32} (h17 : f 17 = .inl (cC, 2000, .inl tx)) {way : Nat → Int32} (h18 : f 18 = .inl (cI, 122, .inl way)) {ma : Nat → Int32} (h21 : f 21 = .inl (cI, 6, .inl ma)) {mr : Nat → Int32} (h22 : f 22 = .inl (cZ, 6, .inl mr)) (htx : zCh tx) (hpool : zCh pool) {par : Nat → Nat} {com : Nat → Bool} {tp tc : Nat → Nat} {tq : Nat → Nat → Int32} {tz : Nat → Nat} {tt : Nat → Nat → Int32} (T : zTree (n + 1) par com tp tc tq tz tt) (M : zMT n par com tp tc tq pa co pl mn fi pool) (hn : n < 122) {b : Bool} {p c : Nat} (e1 : par n = th) (e2 : com n = b) (e3 : tp n = p) (e4 : tc n = c) (hf : com n = true → ∃ a, fi n = nI a ∧ a + tc n ≤ 2000 ∧ ∀ i, i < tc n → pool (a + i) = tq n i) : zC l y_O_edit b_O_edit 5 (some .int) (rmD 2 0 0) D (zty cI cC cZ cV) [.ref (q 10), .int (zbi b), .int (nI p), .int (nI c)] N q f (fun v N' q' f' => v = some (.int (nI n)) ∧ N' = N ∧ q' = q ∧ zEd cC cI cZ q n po th ty b p c tz tt pa co pl mn (zoM b p c ma mr) f f') := by
  refine zC.of (by decide) (by simp [Value.category]) (Nat.le_of_ble_eq_true rfl) (fun G X Y => ?_)
  show G 0 0 0 [some (.ref (q 10)), some (.int (zbi b)), some (.int (nI p)), some (.int (nI c)), none] [] N q f
  refine zr_aload_n X d_O_edit_0 rfl ?_
  refine zr_get X F_O_7 d_O_edit_1 (by omega) h10 (v := .int (nI n)) rfl ?_
  refine zr_istore (lv' := [some (.ref (q 10)), some (.int (zbi b)), some (.int (nI p)), some (.int (nI c)), some (.int (nI n))]) X d_O_edit_4 (by decide) rfl ?_
  refine zr_aload_n X d_O_edit_6 rfl ?_
  refine zr_dup X d_O_edit_7 rfl ?_
  refine zr_get X F_O_7 d_O_edit_8 (by omega) h10 (v := .int (nI n)) rfl ?_
  refine zr_iconst (v := nI 1) X d_O_edit_11 (by decide) ?_
  refine zr_iadd (z := nI (n + 1)) X d_O_edit_12 (nI_add _ _) ?_
  refine zr_put (fs' := [.int (nI (n + 1)), .ref (q 11), .ref (q 12), .ref (q 13), .ref (q 14), .ref (q 15), .int (nI po), .ref (q 16), .int (nI th), .int (nI sz), .ref (q 17), .ref (q 18), .int (nI ty), .ref (q 19), .ref (q 20), .ref (q 21), .ref (q 22)]) X F_O_7 d_O_edit_13 (by omega) h10 rfl rfl (Nat.le_of_ble_eq_true rfl) rfl ?_
  refine zr_aload_n X d_O_edit_16 rfl ?_
  refine zr_get X F_O_13 d_O_edit_17 (by omega) up_eq (v := .ref (q 11)) rfl ?_
  refine zr_iload X d_O_edit_20 rfl ?_
  refine zr_aload_n X d_O_edit_22 rfl ?_
  refine zr_get X F_O_62 d_O_edit_23 (by omega) up_eq (v := .int (nI th)) rfl ?_
  refine zr_iastore X 0 d_O_edit_26 (by omega) (up_ne (by decide) h11) rfl (by omega) (by decide) ?_
  refine zr_aload_n X d_O_edit_27 rfl ?_
  refine zr_get X F_O_17 d_O_edit_28 (by omega) (up_ne (by decide) up_eq) (v := .ref (q 12)) rfl ?_
  refine zr_iload X d_O_edit_31 rfl ?_
  refine zr_iload_n X d_O_edit_33 rfl ?_
  refine zr_bastore X 2 d_O_edit_34 (by omega) (up_ne (by decide) (up_ne (by decide) h12)) rfl (by omega) (by decide) zbi_v ?_
  refine zr_aload_n X d_O_edit_35 rfl ?_
  refine zr_get X F_O_21 d_O_edit_36 (by omega) (up_ne (by decide) (up_ne (by decide) up_eq)) (v := .ref (q 13)) rfl ?_
  refine zr_iload X d_O_edit_39 rfl ?_
  refine zr_iload_n X d_O_edit_41 rfl ?_
  refine zr_iastore X 0 d_O_edit_42 (by omega) (up_ne (by decide) (up_ne (by decide) (up_ne (by decide) h13))) rfl (by omega) (by decide) ?_
  refine zr_aload_n X d_O_edit_43 rfl ?_
  refine zr_get X F_O_24 d_O_edit_44 (by omega) (up_ne (by decide) (up_ne (by decide) (up_ne (by decide) up_eq))) (v := .ref (q 14)) rfl ?_
  refine zr_iload X d_O_edit_47 rfl ?_
  refine zr_iload_n X d_O_edit_49 rfl ?_
  refine zr_iastore X 0 d_O_edit_50 (by omega) (up_ne (by decide) (up_ne (by decide) (up_ne (by decide) (up_ne (by decide) h14)))) rfl (by omega) (by decide) ?_
  refine zr_aload_n X d_O_edit_51 rfl ?_
  refine zr_iload_n X d_O_edit_52 rfl ?_
  refine zr_iload_n X d_O_edit_53 rfl ?_
  refine zr_iload_n X d_O_edit_54 rfl ?_
  refine zr_callV X K_O_72 KI_O_72 KS_O_72 (c_O_moveMarks hN (up_ne (by decide) (up_ne (by decide) (up_ne (by decide) (up_ne (by decide) up_eq)))) (up_ne (by decide) (up_ne (by decide) (up_ne (by decide) (up_ne (by decide) (up_ne (by decide) h21))))) (up_ne (by decide) (up_ne (by decide) (up_ne (by decide) (up_ne (by decide) (up_ne (by decide) h22)))))) d_O_edit_55 (by omega) (up_ne (by decide) (up_ne (by decide) (up_ne (by decide) (up_ne (by decide) up_eq)))) rfl rfl (by decide) (Nat.le_of_ble_eq_true rfl) (by decide) (st := []) rfl (kW ?_)
  show G 0 0 58 [some (.ref (q 10)), some (.int (zbi b)), some (.int (nI p)), some (.int (nI c)), some (.int (nI n))] [] N q (va_up (va_up (va_up (va_up (va_up (va_up f 10 (.inr (iO, [.int (nI (n + 1)), .ref (q 11), .ref (q 12), .ref (q 13), .ref (q 14), .ref (q 15), .int (nI po), .ref (q 16), .int (nI th), .int (nI sz), .ref (q 17), .ref (q 18), .int (nI ty), .ref (q 19), .ref (q 20), .ref (q 21), .ref (q 22)]))) 11 (.inl (cI, 122, .inl (upd pa n (nI th))))) 12 (.inl (cZ, 122, .inl (upd co n (zbi b))))) 13 (.inl (cI, 122, .inl (upd pl n (nI p))))) 14 (.inl (cI, 122, .inl (upd mn n (nI c))))) 21 (.inl (cI, 6, .inl (zoM b p c ma mr))))
  refine zr_aload_n X d_O_edit_58 rfl ?_
  refine zr_iload X d_O_edit_59 rfl ?_
  refine zr_put (fs' := [.int (nI (n + 1)), .ref (q 11), .ref (q 12), .ref (q 13), .ref (q 14), .ref (q 15), .int (nI po), .ref (q 16), .int (nI n), .int (nI sz), .ref (q 17), .ref (q 18), .int (nI ty), .ref (q 19), .ref (q 20), .ref (q 21), .ref (q 22)]) X F_O_62 d_O_edit_61 (by omega) (up_ne (by decide) (up_ne (by decide) (up_ne (by decide) (up_ne (by decide) (up_ne (by decide) up_eq))))) rfl rfl (Nat.le_of_ble_eq_true rfl) rfl ?_
  refine zr_aload_n X d_O_edit_64 rfl ?_
  refine zr_callV X K_O_76 KI_O_76 KS_O_76 (c_O_make hN up_eq (up_ne (by decide) (up_ne (by decide) (up_ne (by decide) (up_ne (by decide) (up_ne (by decide) up_eq))))) (up_ne (by decide) (up_ne (by decide) (up_ne (by decide) (up_ne (by decide) up_eq)))) (up_ne (by decide) (up_ne (by decide) (up_ne (by decide) up_eq))) (up_ne (by decide) (up_ne (by decide) up_eq)) (up_ne (by decide) (up_ne (by decide) (up_ne (by decide) (up_ne (by decide) (up_ne (by decide) (up_ne (by decide) (up_ne (by decide) h15))))))) (up_ne (by decide) (up_ne (by decide) (up_ne (by decide) (up_ne (by decide) (up_ne (by decide) (up_ne (by decide) (up_ne (by decide) h16))))))) (up_ne (by decide) (up_ne (by decide) (up_ne (by decide) (up_ne (by decide) (up_ne (by decide) (up_ne (by decide) (up_ne (by decide) h17))))))) (up_ne (by decide) (up_ne (by decide) (up_ne (by decide) (up_ne (by decide) (up_ne (by decide) (up_ne (by decide) (up_ne (by decide) h18))))))) htx hpool T (by have h9 := M.add hf; rw [e1, e2, e3, e4] at h9; exact h9) (by omega) (by omega)) d_O_edit_65 (by omega) up_eq rfl rfl (by decide) (Nat.le_of_ble_eq_true rfl) (by decide) (st := []) rfl (kV fun f1 hm1 => ?_)
  obtain ⟨g1, w1, m1, m2, m3, m4, m5, m6⟩ := hm1
  show G 0 0 68 [some (.ref (q 10)), some (.int (zbi b)), some (.int (nI p)), some (.int (nI c)), some (.int (nI n))] [] N q f1
  refine zr_iload X d_O_edit_68 rfl ?_
  refine zr_ireturn Y d_O_edit_70 rfl (Nat.le_of_ble_eq_true rfl) (Nat.le_of_ble_eq_true rfl) ?_
  exact ⟨rfl, rfl, rfl, ⟨g1, w1, m1, m2, m3, m4, m5⟩, (m6 21 (by decide) (by decide) (by decide)).trans (up_ne (by decide) up_eq), (m6 11 (by decide) (by decide) (by decide)).trans (up_ne (by decide) (up_ne (by decide) (up_ne (by decide) (up_ne (by decide) (up_ne (by decide) up_eq))))), (m6 12 (by decide) (by decide) (by decide)).trans (up_ne (by decide) (up_ne (by decide) (up_ne (by decide) (up_ne (by decide) up_eq)))), (m6 13 (by decide) (by decide) (by decide)).trans (up_ne (by decide) (up_ne (by decide) (up_ne (by decide) up_eq))), (m6 14 (by decide) (by decide) (by decide)).trans (up_ne (by decide) (up_ne (by decide) up_eq)), fun jj k1 k2 k3 k4 k5 k6 k7 k8 => (m6 jj k1 k2 k3).trans (up_ne (by omega) (up_ne (by omega) (up_ne (by omega) (up_ne (by omega) (up_ne (by omega) (up_ne (by omega) (up_ne (by omega) rfl)))))))⟩

set_option maxRecDepth 100000 in
set_option maxHeartbeats 4000000 in
theorem c_O_insert_n {l : Launch} {D : va_G} {cI cC cZ cV : ClassId} {N : Nat} {q : Nat → Nat} {f : zF} (hN : 23 ≤ N) {n po th sz ty : Nat} (h10 : f 10 = zmo q n po th sz ty) {x : Int32} (hx : zNo x sz) : zC l y_O_insert b_O_insert 3 (some .int) (rmD 3 0 0) D (zty cI cC cZ cV) [.ref (q 10), .int x] N q f (pRd N q f (-1)) := by
  refine zC.of (by decide) (by simp [Value.category]) (Nat.le_of_ble_eq_true rfl) (fun G X Y => ?_)
  show G 0 0 0 [some (.ref (q 10)), some (.int x), none] [] N q f
  refine zr_aload_n X d_O_insert_0 rfl ?_
  refine zr_iload_n X d_O_insert_1 rfl ?_
  refine zr_callV X K_O_79 KI_O_79 KS_O_79 (c_O_isPosition_n hN h10 hx) d_O_insert_2 (by omega) h10 rfl rfl (by decide) (Nat.le_of_ble_eq_true rfl) (by decide) (st := []) rfl (kRd ?_)
  show G 0 0 5 [some (.ref (q 10)), some (.int x), none] [.int (nI 0)] N q f
  refine zr_if_nef (tgt := 10) X d_O_insert_5 rfl (by decide) ?_
  refine zr_iconst (v := (-1)) X d_O_insert_8 (by decide) ?_
  refine zr_ireturn Y d_O_insert_9 rfl (Nat.le_of_ble_eq_true rfl) (Nat.le_of_ble_eq_true rfl) ?_
  exact ⟨rfl, rfl, rfl, rfl⟩

set_option maxRecDepth 100000 in
set_option maxHeartbeats 4000000 in
theorem c_O_insert_e {l : Launch} {D : va_G} {cI cC cZ cV : ClassId} {N : Nat} {q : Nat → Nat} {f : zF} (hN : 23 ≤ N) {n po th sz ty : Nat} (h10 : f 10 = zmo q n po th sz ty) {p : Nat} (hp : p ≤ sz) (hs : sz ≤ 2000) (hk0 : ty = 0) : zC l y_O_insert b_O_insert 3 (some .int) (rmD 3 0 0) D (zty cI cC cZ cV) [.ref (q 10), .int (nI p)] N q f (pRd N q f (-2)) := by
  refine zC.of (by decide) (by simp [Value.category]) (Nat.le_of_ble_eq_true rfl) (fun G X Y => ?_)
  show G 0 0 0 [some (.ref (q 10)), some (.int (nI p)), none] [] N q f
  refine zr_aload_n X d_O_insert_0 rfl ?_
  refine zr_iload_n X d_O_insert_1 rfl ?_
  refine zr_callV X K_O_79 KI_O_79 KS_O_79 (c_O_isPosition_y hN h10 (by omega) hp) d_O_insert_2 (by omega) h10 rfl rfl (by decide) (Nat.le_of_ble_eq_true rfl) (by decide) (st := []) rfl (kRd ?_)
  show G 0 0 5 [some (.ref (q 10)), some (.int (nI p)), none] [.int (nI 1)] N q f
  refine zr_if_net (tgt := 10) X d_O_insert_5 rfl (by decide) ?_
  refine zr_aload_n X d_O_insert_10 rfl ?_
  refine zr_get X F_O_52 d_O_insert_11 (by omega) h10 (v := .int (nI ty)) rfl ?_
  refine zr_if_nef (tgt := 20) X d_O_insert_14 rfl (by rw [hk0]; rfl) ?_
  refine zr_bipush (v := (-2)) X d_O_insert_17 (by decide) ?_
  refine zr_ireturn Y d_O_insert_19 rfl (Nat.le_of_ble_eq_true rfl) (Nat.le_of_ble_eq_true rfl) ?_
  exact ⟨rfl, rfl, rfl, rfl⟩

set_option maxRecDepth 100000 in
set_option maxHeartbeats 4000000 in
theorem c_O_insert_f1 {l : Launch} {D : va_G} {cI cC cZ cV : ClassId} {N : Nat} {q : Nat → Nat} {f : zF} (hN : 23 ≤ N) {n po th sz ty : Nat} (h10 : f 10 = zmo q n po th sz ty) {p : Nat} (hp : p ≤ sz) (hs : sz ≤ 2000) (hk0 : 0 < ty) (hk : ty ≤ 40) (hn : n = 122) : zC l y_O_insert b_O_insert 3 (some .int) (rmD 3 0 0) D (zty cI cC cZ cV) [.ref (q 10), .int (nI p)] N q f (pRd N q f (-3)) := by
  refine zC.of (by decide) (by simp [Value.category]) (Nat.le_of_ble_eq_true rfl) (fun G X Y => ?_)
  show G 0 0 0 [some (.ref (q 10)), some (.int (nI p)), none] [] N q f
  refine zr_aload_n X d_O_insert_0 rfl ?_
  refine zr_iload_n X d_O_insert_1 rfl ?_
  refine zr_callV X K_O_79 KI_O_79 KS_O_79 (c_O_isPosition_y hN h10 (by omega) hp) d_O_insert_2 (by omega) h10 rfl rfl (by decide) (Nat.le_of_ble_eq_true rfl) (by decide) (st := []) rfl (kRd ?_)
  show G 0 0 5 [some (.ref (q 10)), some (.int (nI p)), none] [.int (nI 1)] N q f
  refine zr_if_net (tgt := 10) X d_O_insert_5 rfl (by decide) ?_
  refine zr_aload_n X d_O_insert_10 rfl ?_
  refine zr_get X F_O_52 d_O_insert_11 (by omega) h10 (v := .int (nI ty)) rfl ?_
  refine zr_if_net (tgt := 20) X d_O_insert_14 rfl (nI_ne0 hk0 (by omega)) ?_
  refine zr_aload_n X d_O_insert_20 rfl ?_
  refine zr_get X F_O_7 d_O_insert_21 (by omega) h10 (v := .int (nI n)) rfl ?_
  refine zr_bipush (v := nI 122) X d_O_insert_24 (by decide) ?_
  refine zr_icmp_eqt (tgt := 44) X d_O_insert_26 rfl (by rw [hn]) ?_
  refine zr_bipush (v := (-3)) X d_O_insert_44 (by decide) ?_
  refine zr_ireturn Y d_O_insert_46 rfl (Nat.le_of_ble_eq_true rfl) (Nat.le_of_ble_eq_true rfl) ?_
  exact ⟨rfl, rfl, rfl, rfl⟩

set_option maxRecDepth 100000 in
set_option maxHeartbeats 4000000 in
theorem c_O_insert_f2 {l : Launch} {D : va_G} {cI cC cZ cV : ClassId} {N : Nat} {q : Nat → Nat} {f : zF} (hN : 23 ≤ N) {n po th sz ty : Nat} (h10 : f 10 = zmo q n po th sz ty) {p : Nat} (hp : p ≤ sz) (hs : sz ≤ 2000) (hk0 : 0 < ty) (hk : ty ≤ 40) (hn : n < 122) (hi : po ≤ 2000) (hik : 2000 < po + ty) : zC l y_O_insert b_O_insert 3 (some .int) (rmD 3 0 0) D (zty cI cC cZ cV) [.ref (q 10), .int (nI p)] N q f (pRd N q f (-3)) := by
  refine zC.of (by decide) (by simp [Value.category]) (Nat.le_of_ble_eq_true rfl) (fun G X Y => ?_)
  show G 0 0 0 [some (.ref (q 10)), some (.int (nI p)), none] [] N q f
  refine zr_aload_n X d_O_insert_0 rfl ?_
  refine zr_iload_n X d_O_insert_1 rfl ?_
  refine zr_callV X K_O_79 KI_O_79 KS_O_79 (c_O_isPosition_y hN h10 (by omega) hp) d_O_insert_2 (by omega) h10 rfl rfl (by decide) (Nat.le_of_ble_eq_true rfl) (by decide) (st := []) rfl (kRd ?_)
  show G 0 0 5 [some (.ref (q 10)), some (.int (nI p)), none] [.int (nI 1)] N q f
  refine zr_if_net (tgt := 10) X d_O_insert_5 rfl (by decide) ?_
  refine zr_aload_n X d_O_insert_10 rfl ?_
  refine zr_get X F_O_52 d_O_insert_11 (by omega) h10 (v := .int (nI ty)) rfl ?_
  refine zr_if_net (tgt := 20) X d_O_insert_14 rfl (nI_ne0 hk0 (by omega)) ?_
  refine zr_aload_n X d_O_insert_20 rfl ?_
  refine zr_get X F_O_7 d_O_insert_21 (by omega) h10 (v := .int (nI n)) rfl ?_
  refine zr_bipush (v := nI 122) X d_O_insert_24 (by decide) ?_
  refine zr_icmp_eqf (tgt := 44) X d_O_insert_26 rfl (fun h9 => absurd ((nI_eq (by omega) (by decide)).mp h9) (by omega)) ?_
  refine zr_aload_n X d_O_insert_29 rfl ?_
  refine zr_get X F_O_83 d_O_insert_30 (by omega) h10 (v := .int (nI po)) rfl ?_
  refine zr_aload_n X d_O_insert_33 rfl ?_
  refine zr_get X F_O_52 d_O_insert_34 (by omega) h10 (v := .int (nI ty)) rfl ?_
  refine zr_iadd (z := nI (po + ty)) X d_O_insert_37 (nI_add _ _) ?_
  refine zr_sipush (v := nI 2000) X d_O_insert_38 (by decide) ?_
  refine zr_icmp_lef (tgt := 47) X d_O_insert_41 rfl (nI_ge hik (by omega)) ?_
  refine zr_bipush (v := (-3)) X d_O_insert_44 (by decide) ?_
  refine zr_ireturn Y d_O_insert_46 rfl (Nat.le_of_ble_eq_true rfl) (Nat.le_of_ble_eq_true rfl) ?_
  exact ⟨rfl, rfl, rfl, rfl⟩

set_option maxRecDepth 100000 in
set_option maxHeartbeats 4000000 in
theorem c_O_delete_n {l : Launch} {D : va_G} {cI cC cZ cV : ClassId} {N : Nat} {q : Nat → Nat} {f : zF} (hN : 23 ≤ N) {n po th sz ty : Nat} (h10 : f 10 = zmo q n po th sz ty) {x y : Int32} (hs : sz < 2 ^ 31) (hx : zNoS x y sz) : zC l y_O_delete b_O_delete 3 (some .int) (rmD 3 0 0) D (zty cI cC cZ cV) [.ref (q 10), .int x, .int y] N q f (pRd N q f (-1)) := by
  refine zC.of (by decide) (by simp [Value.category]) (Nat.le_of_ble_eq_true rfl) (fun G X Y => ?_)
  show G 0 0 0 [some (.ref (q 10)), some (.int x), some (.int y)] [] N q f
  refine zr_aload_n X d_O_delete_0 rfl ?_
  refine zr_iload_n X d_O_delete_1 rfl ?_
  refine zr_iload_n X d_O_delete_2 rfl ?_
  refine zr_callV X K_O_58 KI_O_58 KS_O_58 (c_O_isStretch_n hN h10 hs hx) d_O_delete_3 (by omega) h10 rfl rfl (by decide) (Nat.le_of_ble_eq_true rfl) (by decide) (st := []) rfl (kRd ?_)
  show G 0 0 6 [some (.ref (q 10)), some (.int x), some (.int y)] [.int (nI 0)] N q f
  refine zr_if_nef (tgt := 11) X d_O_delete_6 rfl (by decide) ?_
  refine zr_iconst (v := (-1)) X d_O_delete_9 (by decide) ?_
  refine zr_ireturn Y d_O_delete_10 rfl (Nat.le_of_ble_eq_true rfl) (Nat.le_of_ble_eq_true rfl) ?_
  exact ⟨rfl, rfl, rfl, rfl⟩

set_option maxRecDepth 100000 in
set_option maxHeartbeats 4000000 in
theorem c_O_delete_e {l : Launch} {D : va_G} {cI cC cZ cV : ClassId} {N : Nat} {q : Nat → Nat} {f : zF} (hN : 23 ≤ N) {n po th sz ty : Nat} (h10 : f 10 = zmo q n po th sz ty) {p c : Nat} (hp : p + c ≤ sz) (hs : sz ≤ 2000) (hc0 : c = 0) : zC l y_O_delete b_O_delete 3 (some .int) (rmD 3 0 0) D (zty cI cC cZ cV) [.ref (q 10), .int (nI p), .int (nI c)] N q f (pRd N q f (-2)) := by
  refine zC.of (by decide) (by simp [Value.category]) (Nat.le_of_ble_eq_true rfl) (fun G X Y => ?_)
  show G 0 0 0 [some (.ref (q 10)), some (.int (nI p)), some (.int (nI c))] [] N q f
  refine zr_aload_n X d_O_delete_0 rfl ?_
  refine zr_iload_n X d_O_delete_1 rfl ?_
  refine zr_iload_n X d_O_delete_2 rfl ?_
  refine zr_callV X K_O_58 KI_O_58 KS_O_58 (c_O_isStretch_y hN h10 (by omega) hp) d_O_delete_3 (by omega) h10 rfl rfl (by decide) (Nat.le_of_ble_eq_true rfl) (by decide) (st := []) rfl (kRd ?_)
  show G 0 0 6 [some (.ref (q 10)), some (.int (nI p)), some (.int (nI c))] [.int (nI 1)] N q f
  refine zr_if_net (tgt := 11) X d_O_delete_6 rfl (by decide) ?_
  refine zr_iload_n X d_O_delete_11 rfl ?_
  refine zr_if_nef (tgt := 18) X d_O_delete_12 rfl (by rw [hc0]; rfl) ?_
  refine zr_bipush (v := (-2)) X d_O_delete_15 (by decide) ?_
  refine zr_ireturn Y d_O_delete_17 rfl (Nat.le_of_ble_eq_true rfl) (Nat.le_of_ble_eq_true rfl) ?_
  exact ⟨rfl, rfl, rfl, rfl⟩

set_option maxRecDepth 100000 in
set_option maxHeartbeats 4000000 in
theorem c_O_delete_f {l : Launch} {D : va_G} {cI cC cZ cV : ClassId} {N : Nat} {q : Nat → Nat} {f : zF} (hN : 23 ≤ N) {n po th sz ty : Nat} (h10 : f 10 = zmo q n po th sz ty) {p c : Nat} (hp : p + c ≤ sz) (hs : sz ≤ 2000) (hc0 : 0 < c) (hn : n = 122) : zC l y_O_delete b_O_delete 3 (some .int) (rmD 3 0 0) D (zty cI cC cZ cV) [.ref (q 10), .int (nI p), .int (nI c)] N q f (pRd N q f (-3)) := by
  refine zC.of (by decide) (by simp [Value.category]) (Nat.le_of_ble_eq_true rfl) (fun G X Y => ?_)
  show G 0 0 0 [some (.ref (q 10)), some (.int (nI p)), some (.int (nI c))] [] N q f
  refine zr_aload_n X d_O_delete_0 rfl ?_
  refine zr_iload_n X d_O_delete_1 rfl ?_
  refine zr_iload_n X d_O_delete_2 rfl ?_
  refine zr_callV X K_O_58 KI_O_58 KS_O_58 (c_O_isStretch_y hN h10 (by omega) hp) d_O_delete_3 (by omega) h10 rfl rfl (by decide) (Nat.le_of_ble_eq_true rfl) (by decide) (st := []) rfl (kRd ?_)
  show G 0 0 6 [some (.ref (q 10)), some (.int (nI p)), some (.int (nI c))] [.int (nI 1)] N q f
  refine zr_if_net (tgt := 11) X d_O_delete_6 rfl (by decide) ?_
  refine zr_iload_n X d_O_delete_11 rfl ?_
  refine zr_if_net (tgt := 18) X d_O_delete_12 rfl (nI_ne0 hc0 (by omega)) ?_
  refine zr_aload_n X d_O_delete_18 rfl ?_
  refine zr_get X F_O_7 d_O_delete_19 (by omega) h10 (v := .int (nI n)) rfl ?_
  refine zr_bipush (v := nI 122) X d_O_delete_22 (by decide) ?_
  refine zr_icmp_nef (tgt := 32) X d_O_delete_24 rfl (by rw [hn]) ?_
  refine zr_bipush (v := (-3)) X d_O_delete_27 (by decide) ?_
  refine zr_goto (tgt := 39) X d_O_delete_29 rfl ?_
  refine zr_ireturn Y d_O_delete_39 rfl (Nat.le_of_ble_eq_true rfl) (Nat.le_of_ble_eq_true rfl) ?_
  exact ⟨rfl, rfl, rfl, rfl⟩

set_option maxRecDepth 100000 in
set_option maxHeartbeats 4000000 in
theorem c_O_delete_y {l : Launch} {D : va_G} {cI cC cZ cV : ClassId} {N : Nat} {q : Nat → Nat} {f : zF} (hN : 23 ≤ N) {n po th sz ty : Nat} (h10 : f 10 = zmo q n po th sz ty) {pa : Nat → Int32} (h11 : f 11 = .inl (cI, 122, .inl pa)) {co : Nat → Int32} (h12 : f 12 = .inl (cZ, 122, .inl co)) {pl : Nat → Int32} (h13 : f 13 = .inl (cI, 122, .inl pl)) {mn : Nat → Int32} (h14 : f 14 = .inl (cI, 122, .inl mn)) {fi : Nat → Int32} (h15 : f 15 = .inl (cI, 122, .inl fi)) {pool : Nat → Int32} (h16 : f 16 = .inl (cC, 2000, .inl pool)) {tx : Nat → Int32} (h17 : f 17 = .inl (cC, 2000, .inl tx)) {way : Nat → Int32} (h18 : f 18 = .inl (cI, 122, .inl way)) {ma : Nat → Int32} (h21 : f 21 = .inl (cI, 6, .inl ma)) {mr : Nat → Int32} (h22 : f 22 = .inl (cZ, 6, .inl mr)) (htx : zCh tx) (hpool : zCh pool) {par : Nat → Nat} {com : Nat → Bool} {tp tc : Nat → Nat} {tq : Nat → Nat → Int32} {tz : Nat → Nat} {tt : Nat → Nat → Int32} (T : zTree (n + 1) par com tp tc tq tz tt) (M : zMT n par com tp tc tq pa co pl mn fi pool) (hn : n < 122) {p c : Nat} (e1 : par n = th) (e2 : com n = false) (e3 : tp n = p) (e4 : tc n = c) (hp : p + c ≤ sz) (hs : sz ≤ 2000) (hc0 : 0 < c) : zC l y_O_delete b_O_delete 3 (some .int) (rmD 3 0 0) D (zty cI cC cZ cV) [.ref (q 10), .int (nI p), .int (nI c)] N q f (fun v N' q' f' => v = some (.int (nI n)) ∧ N' = N ∧ q' = q ∧ zEd cC cI cZ q n po th ty false p c tz tt pa co pl mn (zoM false p c ma mr) f f') := by
  refine zC.of (by decide) (by simp [Value.category]) (Nat.le_of_ble_eq_true rfl) (fun G X Y => ?_)
  show G 0 0 0 [some (.ref (q 10)), some (.int (nI p)), some (.int (nI c))] [] N q f
  refine zr_aload_n X d_O_delete_0 rfl ?_
  refine zr_iload_n X d_O_delete_1 rfl ?_
  refine zr_iload_n X d_O_delete_2 rfl ?_
  refine zr_callV X K_O_58 KI_O_58 KS_O_58 (c_O_isStretch_y hN h10 (by omega) hp) d_O_delete_3 (by omega) h10 rfl rfl (by decide) (Nat.le_of_ble_eq_true rfl) (by decide) (st := []) rfl (kRd ?_)
  show G 0 0 6 [some (.ref (q 10)), some (.int (nI p)), some (.int (nI c))] [.int (nI 1)] N q f
  refine zr_if_net (tgt := 11) X d_O_delete_6 rfl (by decide) ?_
  refine zr_iload_n X d_O_delete_11 rfl ?_
  refine zr_if_net (tgt := 18) X d_O_delete_12 rfl (nI_ne0 hc0 (by omega)) ?_
  refine zr_aload_n X d_O_delete_18 rfl ?_
  refine zr_get X F_O_7 d_O_delete_19 (by omega) h10 (v := .int (nI n)) rfl ?_
  refine zr_bipush (v := nI 122) X d_O_delete_22 (by decide) ?_
  refine zr_icmp_net (tgt := 32) X d_O_delete_24 rfl (fun h9 => absurd ((nI_eq (by omega) (by decide)).mp h9) (by omega)) ?_
  refine zr_aload_n X d_O_delete_32 rfl ?_
  refine zr_iconst (v := zbi false) X d_O_delete_33 (by decide) ?_
  refine zr_iload_n X d_O_delete_34 rfl ?_
  refine zr_iload_n X d_O_delete_35 rfl ?_
  refine zr_callV X K_O_86 KI_O_86 KS_O_86 (c_O_edit (b := false) hN h10 h11 h12 h13 h14 h15 h16 h17 h18 h21 h22 htx hpool T M hn e1 e2 e3 e4 (fun h9 => by rw [e2] at h9; cases h9)) d_O_delete_36 (by omega) h10 rfl rfl (by decide) (Nat.le_of_ble_eq_true rfl) (by decide) (st := []) rfl (fun v9 N9 q9 f9 hr9 => ?_)
  obtain ⟨rfl, eN, eq9, hr9⟩ := hr9
  rw [eN, eq9]
  show G 0 0 39 [some (.ref (q 10)), some (.int (nI p)), some (.int (nI c))] [.int (nI n)] N q f9
  refine zr_ireturn Y d_O_delete_39 rfl (Nat.le_of_ble_eq_true rfl) (Nat.le_of_ble_eq_true rfl) ?_
  exact ⟨rfl, rfl, rfl, hr9⟩

/-- what came in lies in the pool, ahead of po -/
def zPool (n : Nat) (com : Nat → Bool) (tc : Nat → Nat) (tq : Nat → Nat → Int32) (fi pool : Nat → Int32) (po : Nat) : Prop := ∀ v, 0 < v → v < n → com v = true → ∃ a, fi v = nI a ∧ a + tc v ≤ po ∧ ∀ i, i < tc v → pool (a + i) = tq v i
theorem zMT.pool {n : Nat} {par : Nat → Nat} {com : Nat → Bool} {tp tc : Nat → Nat} {tq : Nat → Nat → Int32} {pa co pl mn fi pool sc : Nat → Int32} {po ty : Nat} (M : zMT n par com tp tc tq pa co pl mn fi pool) (L : zPool n com tc tq fi pool po) (hpo : po + ty ≤ 2000) : zMT n par com tp tc tq pa co pl mn (upd fi n (nI po)) (va_cpy sc pool 0 po ty) := by
  intro v h0 hv
  obtain ⟨h1, h2, h3, h4, -⟩ := M v h0 hv
  refine ⟨h1, h2, h3, h4, fun hc => ?_⟩
  obtain ⟨a, k1, k2, k3⟩ := L v h0 hv hc
  exact ⟨a, (pk_un (by omega)).trans k1, by omega, fun i hi => (pk_cpy_out (Or.inl (by omega))).trans (k3 i hi)⟩

set_option maxRecDepth 100000 in
set_option maxHeartbeats 4000000 in
theorem c_O_insert_y {l : Launch} {D : va_G} {cI cC cZ cV : ClassId} {N : Nat} {q : Nat → Nat} {f : zF} (hN : 23 ≤ N) {n po th sz ty : Nat} (h10 : f 10 = zmo q n po th sz ty) {pa : Nat → Int32} (h11 : f 11 = .inl (cI, 122, .inl pa)) {co : Nat → Int32} (h12 : f 12 = .inl (cZ, 122, .inl co)) {pl : Nat → Int32} (h13 : f 13 = .inl (cI, 122, .inl pl)) {mn : Nat → Int32} (h14 : f 14 = .inl (cI, 122, .inl mn)) {fi : Nat → Int32} (h15 : f 15 = .inl (cI, 122, .inl fi)) {pool : Nat → Int32} (h16 : f 16 = .inl (cC, 2000, .inl pool)) {tx : Nat → Int32} (h17 : f 17 = .inl (cC, 2000, .inl tx)) {way : Nat → Int32} (h18 : f 18 = .inl (cI, 122, .inl way)) {sc : Nat → Int32} (h19 : f 19 = .inl (cC, 40, .inl sc)) {ma : Nat → Int32} (h21 : f 21 = .inl (cI, 6, .inl ma)) {mr : Nat → Int32} (h22 : f 22 = .inl (cZ, 6, .inl mr)) (htx : zCh tx) (hpool : zCh pool) {par : Nat → Nat} {com : Nat → Bool} {tp tc : Nat → Nat} {tq : Nat → Nat → Int32} {tz : Nat → Nat} {tt : Nat → Nat → Int32} (T : zTree (n + 1) par com tp tc tq tz tt) (M : zMT n par com tp tc tq pa co pl mn fi pool) (hn : n < 122) {p : Nat} (e1 : par n = th) (e2 : com n = true) (e3 : tp n = p) (e4 : tc n = ty) (hsc : zCh sc) (L : zPool n com tc tq fi pool po) (htq : ∀ i, i < ty → tq n i = sc i) (hp : p ≤ sz) (hs : sz ≤ 2000) (hk0 : 0 < ty) (hk : ty ≤ 40) (hik : po + ty ≤ 2000) : zC l y_O_insert b_O_insert 3 (some .int) (rmD 3 0 0) D (zty cI cC cZ cV) [.ref (q 10), .int (nI p)] N q f (fun v N' q' f' => v = some (.int (nI n)) ∧ N' = N ∧ q' = q ∧ zEd cC cI cZ q n (po + ty) th ty true p ty tz tt pa co pl mn (zoM true p ty ma mr) (va_up (va_up f 15 (.inl (cI, 122, .inl (upd fi n (nI po))))) 16 (.inl (cC, 2000, .inl (va_cpy sc pool 0 po ty)))) f') := by
  refine zC.of (by decide) (by simp [Value.category]) (Nat.le_of_ble_eq_true rfl) (fun G X Y => ?_)
  show G 0 0 0 [some (.ref (q 10)), some (.int (nI p)), none] [] N q f
  have loop : ∀ (d i : Nat), i + d = ty → G 0 0 62 [some (.ref (q 10)), some (.int (nI p)), some (.int (nI i))] [] N q (va_up (va_up f 15 (.inl (cI, 122, .inl (upd fi n (nI po))))) 16 (.inl (cC, 2000, .inl (va_cpy sc pool 0 po i)))) := by
    intro d
    induction d with
    | zero =>
      intro i hi
      have hi2 : ty = i := by omega
      subst hi2
      show G 0 0 62 [some (.ref (q 10)), some (.int (nI p)), some (.int (nI ty))] [] N q (va_up (va_up f 15 (.inl (cI, 122, .inl (upd fi n (nI po))))) 16 (.inl (cC, 2000, .inl (va_cpy sc pool 0 po ty))))
      refine zr_iload_n X d_O_insert_62 rfl ?_
      refine zr_aload_n X d_O_insert_63 rfl ?_
      refine zr_get X F_O_52 d_O_insert_64 (by omega) (up_ne (by decide) (up_ne (by decide) h10)) (v := .int (nI ty)) rfl ?_
      refine zr_icmp_get (tgt := 93) X d_O_insert_67 rfl (nI_le (by omega) (by omega)) ?_
      refine zr_aload_n X d_O_insert_93 rfl ?_
      refine zr_aload_n X d_O_insert_94 rfl ?_
      refine zr_get X F_O_83 d_O_insert_95 (by omega) (up_ne (by decide) (up_ne (by decide) h10)) (v := .int (nI po)) rfl ?_
      refine zr_aload_n X d_O_insert_98 rfl ?_
      refine zr_get X F_O_52 d_O_insert_99 (by omega) (up_ne (by decide) (up_ne (by decide) h10)) (v := .int (nI ty)) rfl ?_
      refine zr_iadd (z := nI (po + ty)) X d_O_insert_102 (nI_add _ _) ?_
      refine zr_put (fs' := [.int (nI n), .ref (q 11), .ref (q 12), .ref (q 13), .ref (q 14), .ref (q 15), .int (nI (po + ty)), .ref (q 16), .int (nI th), .int (nI sz), .ref (q 17), .ref (q 18), .int (nI ty), .ref (q 19), .ref (q 20), .ref (q 21), .ref (q 22)]) X F_O_83 d_O_insert_103 (by omega) (up_ne (by decide) (up_ne (by decide) h10)) rfl rfl (Nat.le_of_ble_eq_true rfl) rfl ?_
      refine zr_aload_n X d_O_insert_106 rfl ?_
      refine zr_iconst (v := zbi true) X d_O_insert_107 (by decide) ?_
      refine zr_iload_n X d_O_insert_108 rfl ?_
      refine zr_aload_n X d_O_insert_109 rfl ?_
      refine zr_get X F_O_52 d_O_insert_110 (by omega) up_eq (v := .int (nI ty)) rfl ?_
      refine zr_callV X K_O_86 KI_O_86 KS_O_86 (c_O_edit (b := true) hN up_eq (up_ne (by decide) (up_ne (by decide) (up_ne (by decide) h11))) (up_ne (by decide) (up_ne (by decide) (up_ne (by decide) h12))) (up_ne (by decide) (up_ne (by decide) (up_ne (by decide) h13))) (up_ne (by decide) (up_ne (by decide) (up_ne (by decide) h14))) (up_ne (by decide) (up_ne (by decide) up_eq)) (up_ne (by decide) up_eq) (up_ne (by decide) (up_ne (by decide) (up_ne (by decide) h17))) (up_ne (by decide) (up_ne (by decide) (up_ne (by decide) h18))) (up_ne (by decide) (up_ne (by decide) (up_ne (by decide) h21))) (up_ne (by decide) (up_ne (by decide) (up_ne (by decide) h22))) htx (zCh.cpy hsc hpool) T (M.pool L hik) hn e1 e2 e3 e4 (fun _ => ⟨po, pk_us, by rw [e4]; exact hik, fun a ha => by rw [e4] at ha; rw [pk_cpy_in (by omega) (by omega), show 0 + (po + a - po) = a by omega]; exact (htq a ha).symm⟩)) d_O_insert_113 (by omega) up_eq rfl rfl (by decide) (Nat.le_of_ble_eq_true rfl) (by decide) (st := []) rfl (fun v9 N9 q9 f9 hr9 => ?_)
      obtain ⟨rfl, eN, eq9, hr9⟩ := hr9
      rw [eN, eq9]
      show G 0 0 116 [some (.ref (q 10)), some (.int (nI p)), some (.int (nI ty))] [.int (nI n)] N q f9
      refine zr_ireturn Y d_O_insert_116 rfl (Nat.le_of_ble_eq_true rfl) (Nat.le_of_ble_eq_true rfl) ?_
      obtain ⟨r1, r2, r3, r4, r5, r6, r7⟩ := hr9
      exact ⟨rfl, rfl, rfl, ⟨r1, r2, r3, r4, r5, r6, fun jj k1 k2 k3 k4 k5 k6 k7 k8 => (r7 jj k1 k2 k3 k4 k5 k6 k7 k8).trans (up_ne k1 rfl)⟩⟩
    | succ d ih =>
      intro i hi
      show G 0 0 62 [some (.ref (q 10)), some (.int (nI p)), some (.int (nI i))] [] N q (va_up (va_up f 15 (.inl (cI, 122, .inl (upd fi n (nI po))))) 16 (.inl (cC, 2000, .inl (va_cpy sc pool 0 po i))))
      refine zr_iload_n X d_O_insert_62 rfl ?_
      refine zr_aload_n X d_O_insert_63 rfl ?_
      refine zr_get X F_O_52 d_O_insert_64 (by omega) (up_ne (by decide) (up_ne (by decide) h10)) (v := .int (nI ty)) rfl ?_
      refine zr_icmp_gef (tgt := 93) X d_O_insert_67 rfl (nI_ge (by omega) (by omega)) ?_
      refine zr_aload_n X d_O_insert_70 rfl ?_
      refine zr_get X F_O_30 d_O_insert_71 (by omega) (up_ne (by decide) (up_ne (by decide) h10)) (v := .ref (q 16)) rfl ?_
      refine zr_aload_n X d_O_insert_74 rfl ?_
      refine zr_get X F_O_83 d_O_insert_75 (by omega) (up_ne (by decide) (up_ne (by decide) h10)) (v := .int (nI po)) rfl ?_
      refine zr_iload_n X d_O_insert_78 rfl ?_
      refine zr_iadd (z := nI (po + i)) X d_O_insert_79 (nI_add _ _) ?_
      refine zr_aload_n X d_O_insert_80 rfl ?_
      refine zr_get X F_O_40 d_O_insert_81 (by omega) (up_ne (by decide) (up_ne (by decide) h10)) (v := .ref (q 19)) rfl ?_
      refine zr_iload_n X d_O_insert_84 rfl ?_
      refine zr_caload (v := sc i) X 1 d_O_insert_85 (by omega) (up_ne (by decide) (up_ne (by decide) h19)) rfl (by omega) (by decide) rfl ?_
      refine zr_castore X 1 d_O_insert_86 (by omega) up_eq rfl (by omega) (by decide) (z_charN (hsc _)) ?_
      refine zr_iinc (v := nI (i + 1)) (lv' := [some (.ref (q 10)), some (.int (nI p)), some (.int (nI (i + 1)))]) X d_O_insert_87 rfl (nI_1 _) (by decide) rfl ?_
      refine zr_goto (tgt := 62) X d_O_insert_90 rfl ?_
      have h9 := ih (i + 1) (by omega)
      rw [← cpy_upS] at h9
      rw [bx_uu]
      exact h9
  refine zr_aload_n X d_O_insert_0 rfl ?_
  refine zr_iload_n X d_O_insert_1 rfl ?_
  refine zr_callV X K_O_79 KI_O_79 KS_O_79 (c_O_isPosition_y hN h10 (by omega) hp) d_O_insert_2 (by omega) h10 rfl rfl (by decide) (Nat.le_of_ble_eq_true rfl) (by decide) (st := []) rfl (kRd ?_)
  show G 0 0 5 [some (.ref (q 10)), some (.int (nI p)), none] [.int (nI 1)] N q f
  refine zr_if_net (tgt := 10) X d_O_insert_5 rfl (by decide) ?_
  refine zr_aload_n X d_O_insert_10 rfl ?_
  refine zr_get X F_O_52 d_O_insert_11 (by omega) h10 (v := .int (nI ty)) rfl ?_
  refine zr_if_net (tgt := 20) X d_O_insert_14 rfl (nI_ne0 hk0 (by omega)) ?_
  refine zr_aload_n X d_O_insert_20 rfl ?_
  refine zr_get X F_O_7 d_O_insert_21 (by omega) h10 (v := .int (nI n)) rfl ?_
  refine zr_bipush (v := nI 122) X d_O_insert_24 (by decide) ?_
  refine zr_icmp_eqf (tgt := 44) X d_O_insert_26 rfl (fun h9 => absurd ((nI_eq (by omega) (by decide)).mp h9) (by omega)) ?_
  refine zr_aload_n X d_O_insert_29 rfl ?_
  refine zr_get X F_O_83 d_O_insert_30 (by omega) h10 (v := .int (nI po)) rfl ?_
  refine zr_aload_n X d_O_insert_33 rfl ?_
  refine zr_get X F_O_52 d_O_insert_34 (by omega) h10 (v := .int (nI ty)) rfl ?_
  refine zr_iadd (z := nI (po + ty)) X d_O_insert_37 (nI_add _ _) ?_
  refine zr_sipush (v := nI 2000) X d_O_insert_38 (by decide) ?_
  refine zr_icmp_let (tgt := 47) X d_O_insert_41 rfl (nI_le hik (by decide)) ?_
  refine zr_aload_n X d_O_insert_47 rfl ?_
  refine zr_get X F_O_27 d_O_insert_48 (by omega) h10 (v := .ref (q 15)) rfl ?_
  refine zr_aload_n X d_O_insert_51 rfl ?_
  refine zr_get X F_O_7 d_O_insert_52 (by omega) h10 (v := .int (nI n)) rfl ?_
  refine zr_aload_n X d_O_insert_55 rfl ?_
  refine zr_get X F_O_83 d_O_insert_56 (by omega) h10 (v := .int (nI po)) rfl ?_
  refine zr_iastore X 0 d_O_insert_59 (by omega) h15 rfl (by omega) (by decide) ?_
  refine zr_iconst (v := nI 0) X d_O_insert_60 (by decide) ?_
  refine zr_istore_n (lv' := [some (.ref (q 10)), some (.int (nI p)), some (.int (nI 0))]) X d_O_insert_61 (by decide) rfl ?_
  have h9 := loop ty 0 (by omega)
  rw [cpy_0, up_self (up_ne (by decide) h16)] at h9
  exact h9
end
section
set_option maxRecDepth 100000 in
set_option maxHeartbeats 4000000 in
theorem c_R_init {l : Launch} {D : va_G} {cI cC cZ cV : ClassId} {N : Nat} {q : Nat → Nat} {f : zF} {j c : Nat} (hj : j < N) (hf : f j = .inr (iR, [.null, .int 0])) (hc : c ≤ 2000) : zC l y_R_init b_R_init 2 none (rmD 1 1 2000) D (zty cI cC cZ cV) [.ref (q j), .int (nI c)] N q f (fun v N' q' f' => v = none ∧ N' = N + 1 ∧ (∃ a, q' = va_up q N a) ∧ f' N = .inl (cC, c, .inl (fun _ => 0)) ∧ f' j = zrow q' N 0 ∧ ∀ jj, jj < N → jj ≠ j → f' jj = f jj) := by
  refine zC.of (by decide) (by simp [Value.category]) (Nat.le_of_ble_eq_true rfl) (fun G X Y => ?_)
  show G 0 0 0 [some (.ref (q j)), some (.int (nI c))] [] N q f
  refine zr_aload_n X d_R_init_0 rfl ?_
  refine zr_objInit X OI_R_3 d_R_init_1 (by decide) (Nat.le_of_ble_eq_true rfl) ?_
  refine zr_aload_n X d_R_init_4 rfl ?_
  refine zr_iload_n X d_R_init_5 rfl ?_
  refine zr_newaC X 1 d_R_init_6 W_arrC rfl (by omega) (by decide) (by show 0 + c ≤ 2000; omega) (fun a1 => ?_)
  generalize hq1 : va_up q N a1 = q1
  have e1_j : q j = q1 j := by rw [← hq1, up_ne' (by omega)]
  have e1_n : a1 = q1 N := by rw [← hq1, up_eq]
  try simp only [e1_j]
  rw [e1_n]
  show G (0 + 1) (0 + c) 8 [some (.ref (q1 j)), some (.int (nI c))] [.ref (q1 N), .ref (q1 j)] (N + 1) q1 (va_up f N (.inl (cC, c, .inl (fun _ => 0))))
  refine zr_putF (fs' := [.ref (q1 N), .int 0]) X F_R_9 rfl d_R_init_8 (by omega) (up_ne (by omega) hf) rfl rfl (Nat.le_of_ble_eq_true rfl) rfl ?_
  refine zr_aload_n X d_R_init_11 rfl ?_
  refine zr_iconst (v := nI 0) X d_R_init_12 (by decide) ?_
  refine zr_put (fs' := [.ref (q1 N), .int (nI 0)]) X F_R_15 d_R_init_13 (by omega) up_eq rfl rfl (Nat.le_of_ble_eq_true rfl) rfl ?_
  refine zr_return Y d_R_init_16 (Nat.le_of_ble_eq_true rfl) (by show 0 + c ≤ 2000; omega) ?_
  exact ⟨rfl, rfl, ⟨a1, hq1.symm⟩, (up_ne (by omega) (up_ne (by omega) up_eq)), up_eq, fun jj k1 k2 => (up_ne (by omega) (up_ne (by omega) (up_ne (by omega) rfl)))⟩

set_option maxRecDepth 100000 in
set_option maxHeartbeats 4000000 in
theorem c_M_init {l : Launch} {D : va_G} {cI cC cZ cV : ClassId} {N : Nat} {q : Nat → Nat} {f : zF} {j : Nat} (hj : j < N) (hf : f j = .inr (iM, [.null, .null])) : zC l y_M_init b_M_init 2 none (rmD 1 2 12) D (zty cI cC cZ cV) [.ref (q j)] N q f (fun v N' q' f' => v = none ∧ N' = N + 2 ∧ (∃ a1 a2, q' = va_up (va_up q N a1) (N + 1) a2) ∧ f' N = .inl (cI, 6, .inl (zst 6 (fun _ => -1) (fun _ => 0))) ∧ f' (N + 1) = .inl (cZ, 6, .inl (fun _ => 0)) ∧ f' j = .inr (iM, [.ref (q' N), .ref (q' (N + 1))]) ∧ ∀ jj, jj < N → jj ≠ j → f' jj = f jj) := by
  refine zC.of (by decide) (by simp [Value.category]) (Nat.le_of_ble_eq_true rfl) (fun G X Y => ?_)
  show G 0 0 0 [some (.ref (q j)), none] [] N q f
  refine zr_aload_n X d_M_init_0 rfl ?_
  refine zr_objInit X OI_M_3 d_M_init_1 (by decide) (Nat.le_of_ble_eq_true rfl) ?_
  refine zr_aload_n X d_M_init_4 rfl ?_
  refine zr_bipush (v := nI 6) X d_M_init_5 (by decide) ?_
  refine zr_newaI X 0 d_M_init_7 W_arrI rfl (by decide) (by decide) (by decide) (fun a1 => ?_)
  generalize hq1 : va_up q N a1 = q1
  have e1_j : q j = q1 j := by rw [← hq1, up_ne' (by omega)]
  have e1_n : a1 = q1 N := by rw [← hq1, up_eq]
  try simp only [e1_j]
  rw [e1_n]
  show G (0 + 1) (0 + 6) 9 [some (.ref (q1 j)), none] [.ref (q1 N), .ref (q1 j)] (N + 1) q1 (va_up f N (.inl (cI, 6, .inl (fun _ => 0))))
  refine zr_putF (fs' := [.ref (q1 N), .null]) X F_M_9 rfl d_M_init_9 (by omega) (up_ne (by omega) hf) rfl rfl (Nat.le_of_ble_eq_true rfl) rfl ?_
  refine zr_aload_n X d_M_init_12 rfl ?_
  refine zr_bipush (v := nI 6) X d_M_init_13 (by decide) ?_
  obtain ⟨f2, ef2⟩ : ∃ z, z = va_up (va_up f N (.inl (cI, 6, .inl (fun _ => 0)))) j (.inr (iM, [.ref (q1 N), .null])) := ⟨_, rfl⟩
  rw [← ef2]
  have s2_j : f2 j = .inr (iM, [.ref (q1 N), .null]) := by rw [ef2]; exact up_eq
  have s2_N : f2 N = .inl (cI, 6, .inl (fun _ => 0)) := by rw [ef2]; exact (up_ne (by omega) up_eq)
  refine zr_newaZ X 2 d_M_init_15 W_arrZ rfl (by decide) (by decide) (by decide) (fun a3 => ?_)
  generalize hq3 : va_up q1 (N + 1) a3 = q3
  have e3_N : q1 N = q3 N := by rw [← hq3, up_ne' (by omega)]
  have e3_j : q1 j = q3 j := by rw [← hq3, up_ne' (by omega)]
  have e3_n : a3 = q3 (N + 1) := by rw [← hq3, up_eq]
  simp only [zbo, zrow, zver, e3_N, e3_j] at s2_j
  try simp only [e3_N, e3_j]
  rw [e3_n]
  show G (0 + 1 + 1) (0 + 6 + 6) 17 [some (.ref (q3 j)), none] [.ref (q3 (N + 1)), .ref (q3 j)] (N + 1 + 1) q3 (va_up f2 (N + 1) (.inl (cZ, 6, .inl (fun _ => 0))))
  refine zr_putF (fs' := [.ref (q3 N), .ref (q3 (N + 1))]) X F_M_15 rfl d_M_init_17 (by omega) (up_ne (by omega) s2_j) rfl rfl (Nat.le_of_ble_eq_true rfl) rfl ?_
  refine zr_iconst (v := nI 0) X d_M_init_20 (by decide) ?_
  refine zr_istore_n (lv' := [some (.ref (q3 j)), some (.int (nI 0))]) X d_M_init_21 (by decide) rfl ?_
  obtain ⟨f4, ef4⟩ : ∃ z, z = va_up (va_up f2 (N + 1) (.inl (cZ, 6, .inl (fun _ => 0)))) j (.inr (iM, [.ref (q3 N), .ref (q3 (N + 1))])) := ⟨_, rfl⟩
  rw [← ef4]
  have s4_j : f4 j = .inr (iM, [.ref (q3 N), .ref (q3 (N + 1))]) := by rw [ef4]; exact up_eq
  have s4_N : f4 N = .inl (cI, 6, .inl (fun _ => 0)) := by rw [ef4]; exact (up_ne (by omega) (up_ne (by omega) s2_N))
  have s4_N1 : f4 (N + 1) = .inl (cZ, 6, .inl (fun _ => 0)) := by rw [ef4]; exact (up_ne (by omega) up_eq)
  have loop : ∀ (d i : Nat), i + d = 6 → G (0 + 1 + 1) (0 + 6 + 6) 22 [some (.ref (q3 j)), some (.int (nI i))] [] (N + 1 + 1) q3 (va_up f4 N (.inl (cI, 6, .inl (zst i (fun _ => -1) (fun _ => 0))))) := by
    intro d
    induction d with
    | zero =>
      intro i hi
      show G (0 + 1 + 1) (0 + 6 + 6) 22 [some (.ref (q3 j)), some (.int (nI i))] [] (N + 1 + 1) q3 (va_up f4 N (.inl (cI, 6, .inl (zst i (fun _ => -1) (fun _ => 0)))))
      refine zr_iload_n X d_M_init_22 rfl ?_
      refine zr_bipush (v := nI 6) X d_M_init_23 (by decide) ?_
      refine zr_icmp_get (tgt := 41) X d_M_init_25 rfl (nI_le (by omega) (by omega)) ?_
      refine zr_return Y d_M_init_41 (Nat.le_of_ble_eq_true rfl) (Nat.le_of_ble_eq_true rfl) ?_
      exact ⟨rfl, rfl, ⟨a1, a3, by rw [← hq3, ← hq1]⟩, up_eq.trans (by rw [show i = 6 by omega]), (up_ne (by omega) s4_N1), (up_ne (by omega) s4_j), fun jj k1 k2 => (up_ne (by omega) (show f4 jj = f jj by rw [ef4]; exact (up_ne (by omega) (up_ne (by omega) (show f2 jj = f jj by rw [ef2]; exact (up_ne (by omega) (up_ne (by omega) rfl)))))))⟩
    | succ d ih =>
      intro i hi
      show G (0 + 1 + 1) (0 + 6 + 6) 22 [some (.ref (q3 j)), some (.int (nI i))] [] (N + 1 + 1) q3 (va_up f4 N (.inl (cI, 6, .inl (zst i (fun _ => -1) (fun _ => 0)))))
      refine zr_iload_n X d_M_init_22 rfl ?_
      refine zr_bipush (v := nI 6) X d_M_init_23 (by decide) ?_
      refine zr_icmp_gef (tgt := 41) X d_M_init_25 rfl (nI_ge (by omega) (by omega)) ?_
      refine zr_aload_n X d_M_init_28 rfl ?_
      refine zr_get X F_M_9 d_M_init_29 (by omega) (up_ne (by omega) s4_j) (v := .ref (q3 N)) rfl ?_
      refine zr_iload_n X d_M_init_32 rfl ?_
      refine zr_iconst (v := (-1)) X d_M_init_33 (by decide) ?_
      refine zr_iastore X 0 d_M_init_34 (by omega) up_eq rfl (by omega) (by decide) ?_
      refine zr_iinc (v := nI (i + 1)) (lv' := [some (.ref (q3 j)), some (.int (nI (i + 1)))]) X d_M_init_35 rfl (nI_1 _) (by decide) rfl ?_
      refine zr_goto (tgt := 22) X d_M_init_38 rfl ?_
      have h9 := ih (i + 1) (by omega)
      rw [← zst_up (v := -1) rfl] at h9
      rw [bx_uu]
      exact h9
  have h9 := loop 6 0 (by omega)
  rw [zst_0, up_self s4_N] at h9
  exact h9

set_option maxRecDepth 100000 in
set_option maxHeartbeats 4000000 in
theorem c_B_init {l : Launch} {D : va_G} {cI cC cZ cV : ClassId} {q : Nat → Nat} {f : zF} (hf : f 0 = .inr (iB, [.null, .null, .null, .null, .null, .int 0, .int 0, .null])) : zC l y_B_init b_B_init 1 none (rmD 2 11 4269) D (zty cI cC cZ cV) [.ref (q 0)] 1 q f (fun v N' q' f' => v = none ∧ N' = 12 ∧ q' 0 = q 0 ∧ f' 0 = zbo q' 1 0 10 ∧ f' 1 = zrow q' 2 0 ∧ f' 2 = .inl (cC, 2000, .inl (fun _ => 0)) ∧ f' 3 = zrow q' 4 0 ∧ f' 4 = .inl (cC, 40, .inl (fun _ => 0)) ∧ f' 5 = .inr (iM, [.ref (q' 6), .ref (q' 7)]) ∧ f' 6 = .inl (cI, 6, .inl (zst 6 (fun _ => -1) (fun _ => 0))) ∧ f' 7 = .inl (cZ, 6, .inl (fun _ => 0)) ∧ f' 8 = .inl (cV, 122, .inr (.inr (.inr (.inr (va_up (fun _ => none) 0 (some (q' 10))))))) ∧ f' 9 = .inl (cV, 122, .inr (.inr (.inr (.inr (fun _ => none))))) ∧ f' 10 = zver q' 0 .null (zbi false) 0 11 0 .null ∧ f' 11 = .inl (cC, 0, .inl (fun _ => 0))) := by
  refine zC.of (by decide) (by simp [Value.category]) (Nat.le_of_ble_eq_true rfl) (fun G X Y => ?_)
  show G 0 0 0 [some (.ref (q 0))] [] 1 q f
  refine zr_aload_n X d_B_init_0 rfl ?_
  refine zr_objInit X OI_B_1 d_B_init_1 (by decide) (Nat.le_of_ble_eq_true rfl) ?_
  refine zr_aload_n X d_B_init_4 rfl ?_
  refine zr_new X NW_B_7 d_B_init_5 (by decide) (by decide) (fun a1 => ?_)
  generalize hq1 : va_up q 1 a1 = q1
  have e1_0 : q 0 = q1 0 := by rw [← hq1, up_ne' (by omega)]
  have e1_n : a1 = q1 1 := by rw [← hq1, up_eq]
  try simp only [e1_0]
  rw [e1_n]
  show G (0 + 1) (0 + 2) 8 [some (.ref (q1 0))] [.ref (q1 1), .ref (q1 0)] 2 q1 (va_up f 1 (.inr (iR, [.null, .int 0])))
  refine zr_dup X d_B_init_8 rfl ?_
  refine zr_sipush (v := nI 2000) X d_B_init_9 (by decide) ?_
  obtain ⟨f2, ef2⟩ : ∃ z, z = va_up f 1 (.inr (iR, [.null, .int 0])) := ⟨_, rfl⟩
  rw [← ef2]
  have s2_0 : f2 0 = .inr (iB, [.null, .null, .null, .null, .null, .int 0, .int 0, .null]) := by rw [ef2]; exact (up_ne (by omega) hf)
  have s2_1 : f2 1 = .inr (iR, [.null, .int 0]) := by rw [ef2]; exact up_eq
  refine zr_callI X K_B_11 KI_B_11 rfl (c_R_init (c := 2000) (by decide) s2_1 (by decide)) d_B_init_12 rfl (by decide) (Nat.le_of_ble_eq_true rfl) (by decide) (st := [.ref (q1 1), .ref (q1 0)]) rfl (fun v9 N9 q9 g3 hr9 => ?_)
  obtain ⟨rfl, rfl, ⟨b3, rfl⟩, p3_1, p3_2, p3_3⟩ := hr9
  have s3_0 : g3 0 = .inr (iB, [.null, .null, .null, .null, .null, .int 0, .int 0, .null]) := (p3_3 0 (by decide) (by decide)).trans s2_0
  generalize hq3 : va_up q1 2 b3 = q3 at p3_1 p3_2 ⊢
  have e3_0 : q1 0 = q3 0 := by rw [← hq3]; simp [va_up]
  have e3_1 : q1 1 = q3 1 := by rw [← hq3]; simp [va_up]
  try simp only [e3_0, e3_1]
  show G (0 + 1 + 1) (0 + 2 + 2000) 15 [some (.ref (q3 0))] [.ref (q3 1), .ref (q3 0)] 3 q3 g3
  refine zr_putF (fs' := [.ref (q3 1), .null, .null, .null, .null, .int 0, .int 0, .null]) X F_B_14 rfl d_B_init_15 (by omega) s3_0 rfl rfl (Nat.le_of_ble_eq_true rfl) rfl ?_
  refine zr_aload_n X d_B_init_18 rfl ?_
  obtain ⟨f4, ef4⟩ : ∃ z, z = va_up g3 0 (.inr (iB, [.ref (q3 1), .null, .null, .null, .null, .int 0, .int 0, .null])) := ⟨_, rfl⟩
  rw [← ef4]
  have s4_0 : f4 0 = .inr (iB, [.ref (q3 1), .null, .null, .null, .null, .int 0, .int 0, .null]) := by rw [ef4]; exact up_eq
  have s4_2 : f4 2 = .inl (cC, 2000, .inl (fun _ => 0)) := by rw [ef4]; exact (up_ne (by decide) p3_1)
  have s4_1 : f4 1 = .inr (iR, [.ref (q3 2), .int (nI 0)]) := by rw [ef4]; exact (up_ne (by decide) p3_2)
  refine zr_new X NW_B_7 d_B_init_19 (by decide) (by decide) (fun a5 => ?_)
  generalize hq5 : va_up q3 3 a5 = q5
  have e5_1 : q3 1 = q5 1 := by rw [← hq5, up_ne' (by omega)]
  have e5_2 : q3 2 = q5 2 := by rw [← hq5, up_ne' (by omega)]
  have e5_0 : q3 0 = q5 0 := by rw [← hq5, up_ne' (by omega)]
  have e5_n : a5 = q5 3 := by rw [← hq5, up_eq]
  simp only [zbo, zrow, zver, e5_1, e5_2, e5_0] at s4_0
  simp only [zbo, zrow, zver, e5_1, e5_2, e5_0] at s4_1
  try simp only [e5_1, e5_2, e5_0]
  rw [e5_n]
  show G (0 + 1 + 1 + 1) (0 + 2 + 2000 + 2) 22 [some (.ref (q5 0))] [.ref (q5 3), .ref (q5 0)] 4 q5 (va_up f4 3 (.inr (iR, [.null, .int 0])))
  refine zr_dup X d_B_init_22 rfl ?_
  refine zr_bipush (v := nI 40) X d_B_init_23 (by decide) ?_
  obtain ⟨f6, ef6⟩ : ∃ z, z = va_up f4 3 (.inr (iR, [.null, .int 0])) := ⟨_, rfl⟩
  rw [← ef6]
  have s6_0 : f6 0 = .inr (iB, [.ref (q5 1), .null, .null, .null, .null, .int 0, .int 0, .null]) := by rw [ef6]; exact (up_ne (by omega) s4_0)
  have s6_2 : f6 2 = .inl (cC, 2000, .inl (fun _ => 0)) := by rw [ef6]; exact (up_ne (by omega) s4_2)
  have s6_1 : f6 1 = .inr (iR, [.ref (q5 2), .int (nI 0)]) := by rw [ef6]; exact (up_ne (by omega) s4_1)
  have s6_3 : f6 3 = .inr (iR, [.null, .int 0]) := by rw [ef6]; exact up_eq
  refine zr_callI X K_B_11 KI_B_11 rfl (c_R_init (c := 40) (by decide) s6_3 (by decide)) d_B_init_25 rfl (by decide) (Nat.le_of_ble_eq_true rfl) (by decide) (st := [.ref (q5 3), .ref (q5 0)]) rfl (fun v9 N9 q9 g7 hr9 => ?_)
  obtain ⟨rfl, rfl, ⟨b7, rfl⟩, p7_1, p7_2, p7_3⟩ := hr9
  have s7_0 : g7 0 = .inr (iB, [.ref (q5 1), .null, .null, .null, .null, .int 0, .int 0, .null]) := (p7_3 0 (by decide) (by decide)).trans s6_0
  have s7_2 : g7 2 = .inl (cC, 2000, .inl (fun _ => 0)) := (p7_3 2 (by decide) (by decide)).trans s6_2
  have s7_1 : g7 1 = .inr (iR, [.ref (q5 2), .int (nI 0)]) := (p7_3 1 (by decide) (by decide)).trans s6_1
  generalize hq7 : va_up q5 4 b7 = q7 at p7_1 p7_2 ⊢
  have e7_1 : q5 1 = q7 1 := by rw [← hq7]; simp [va_up]
  have e7_2 : q5 2 = q7 2 := by rw [← hq7]; simp [va_up]
  have e7_0 : q5 0 = q7 0 := by rw [← hq7]; simp [va_up]
  have e7_3 : q5 3 = q7 3 := by rw [← hq7]; simp [va_up]
  simp only [zbo, zrow, zver, e7_1, e7_2, e7_0, e7_3] at s7_0
  simp only [zbo, zrow, zver, e7_1, e7_2, e7_0, e7_3] at s7_1
  try simp only [e7_1, e7_2, e7_0, e7_3]
  show G (0 + 1 + 1 + 1 + 1) (0 + 2 + 2000 + 2 + 2000) 28 [some (.ref (q7 0))] [.ref (q7 3), .ref (q7 0)] 5 q7 g7
  refine zr_putF (fs' := [.ref (q7 1), .ref (q7 3), .null, .null, .null, .int 0, .int 0, .null]) X F_B_18 rfl d_B_init_28 (by omega) s7_0 rfl rfl (Nat.le_of_ble_eq_true rfl) rfl ?_
  refine zr_aload_n X d_B_init_31 rfl ?_
  obtain ⟨f8, ef8⟩ : ∃ z, z = va_up g7 0 (.inr (iB, [.ref (q7 1), .ref (q7 3), .null, .null, .null, .int 0, .int 0, .null])) := ⟨_, rfl⟩
  rw [← ef8]
  have s8_0 : f8 0 = .inr (iB, [.ref (q7 1), .ref (q7 3), .null, .null, .null, .int 0, .int 0, .null]) := by rw [ef8]; exact up_eq
  have s8_2 : f8 2 = .inl (cC, 2000, .inl (fun _ => 0)) := by rw [ef8]; exact (up_ne (by decide) s7_2)
  have s8_1 : f8 1 = .inr (iR, [.ref (q7 2), .int (nI 0)]) := by rw [ef8]; exact (up_ne (by decide) s7_1)
  have s8_4 : f8 4 = .inl (cC, 40, .inl (fun _ => 0)) := by rw [ef8]; exact (up_ne (by decide) p7_1)
  have s8_3 : f8 3 = .inr (iR, [.ref (q7 4), .int (nI 0)]) := by rw [ef8]; exact (up_ne (by decide) p7_2)
  refine zr_new X NW_B_21 d_B_init_32 (by decide) (by decide) (fun a9 => ?_)
  generalize hq9 : va_up q7 5 a9 = q9
  have e9_1 : q7 1 = q9 1 := by rw [← hq9, up_ne' (by omega)]
  have e9_3 : q7 3 = q9 3 := by rw [← hq9, up_ne' (by omega)]
  have e9_2 : q7 2 = q9 2 := by rw [← hq9, up_ne' (by omega)]
  have e9_4 : q7 4 = q9 4 := by rw [← hq9, up_ne' (by omega)]
  have e9_0 : q7 0 = q9 0 := by rw [← hq9, up_ne' (by omega)]
  have e9_n : a9 = q9 5 := by rw [← hq9, up_eq]
  simp only [zbo, zrow, zver, e9_1, e9_3, e9_2, e9_4, e9_0] at s8_0
  simp only [zbo, zrow, zver, e9_1, e9_3, e9_2, e9_4, e9_0] at s8_1
  simp only [zbo, zrow, zver, e9_1, e9_3, e9_2, e9_4, e9_0] at s8_3
  try simp only [e9_1, e9_3, e9_2, e9_4, e9_0]
  rw [e9_n]
  show G (0 + 1 + 1 + 1 + 1 + 1) (0 + 2 + 2000 + 2 + 2000 + 2) 35 [some (.ref (q9 0))] [.ref (q9 5), .ref (q9 0)] 6 q9 (va_up f8 5 (.inr (iM, [.null, .null])))
  refine zr_dup X d_B_init_35 rfl ?_
  obtain ⟨f10, ef10⟩ : ∃ z, z = va_up f8 5 (.inr (iM, [.null, .null])) := ⟨_, rfl⟩
  rw [← ef10]
  have s10_0 : f10 0 = .inr (iB, [.ref (q9 1), .ref (q9 3), .null, .null, .null, .int 0, .int 0, .null]) := by rw [ef10]; exact (up_ne (by omega) s8_0)
  have s10_2 : f10 2 = .inl (cC, 2000, .inl (fun _ => 0)) := by rw [ef10]; exact (up_ne (by omega) s8_2)
  have s10_1 : f10 1 = .inr (iR, [.ref (q9 2), .int (nI 0)]) := by rw [ef10]; exact (up_ne (by omega) s8_1)
  have s10_4 : f10 4 = .inl (cC, 40, .inl (fun _ => 0)) := by rw [ef10]; exact (up_ne (by omega) s8_4)
  have s10_3 : f10 3 = .inr (iR, [.ref (q9 4), .int (nI 0)]) := by rw [ef10]; exact (up_ne (by omega) s8_3)
  have s10_5 : f10 5 = .inr (iM, [.null, .null]) := by rw [ef10]; exact up_eq
  refine zr_callI X K_B_23 KI_B_23 rfl (c_M_init (by decide) s10_5) d_B_init_36 rfl (by decide) (Nat.le_of_ble_eq_true rfl) (by decide) (st := [.ref (q9 5), .ref (q9 0)]) rfl (fun v9 N9 q9 g11 hr9 => ?_)
  obtain ⟨rfl, rfl, ⟨b11, d11, rfl⟩, p11_1, p11_2, p11_3, p11_4⟩ := hr9
  have s11_0 : g11 0 = .inr (iB, [.ref (q9 1), .ref (q9 3), .null, .null, .null, .int 0, .int 0, .null]) := (p11_4 0 (by decide) (by decide)).trans s10_0
  have s11_2 : g11 2 = .inl (cC, 2000, .inl (fun _ => 0)) := (p11_4 2 (by decide) (by decide)).trans s10_2
  have s11_1 : g11 1 = .inr (iR, [.ref (q9 2), .int (nI 0)]) := (p11_4 1 (by decide) (by decide)).trans s10_1
  have s11_4 : g11 4 = .inl (cC, 40, .inl (fun _ => 0)) := (p11_4 4 (by decide) (by decide)).trans s10_4
  have s11_3 : g11 3 = .inr (iR, [.ref (q9 4), .int (nI 0)]) := (p11_4 3 (by decide) (by decide)).trans s10_3
  generalize hq11 : va_up (va_up q9 6 b11) (6 + 1) d11 = q11 at p11_1 p11_2 p11_3 ⊢
  have e11_1 : q9 1 = q11 1 := by rw [← hq11]; simp [va_up]
  have e11_3 : q9 3 = q11 3 := by rw [← hq11]; simp [va_up]
  have e11_2 : q9 2 = q11 2 := by rw [← hq11]; simp [va_up]
  have e11_4 : q9 4 = q11 4 := by rw [← hq11]; simp [va_up]
  have e11_0 : q9 0 = q11 0 := by rw [← hq11]; simp [va_up]
  have e11_5 : q9 5 = q11 5 := by rw [← hq11]; simp [va_up]
  simp only [zbo, zrow, zver, e11_1, e11_3, e11_2, e11_4, e11_0, e11_5] at s11_0
  simp only [zbo, zrow, zver, e11_1, e11_3, e11_2, e11_4, e11_0, e11_5] at s11_1
  simp only [zbo, zrow, zver, e11_1, e11_3, e11_2, e11_4, e11_0, e11_5] at s11_3
  try simp only [e11_1, e11_3, e11_2, e11_4, e11_0, e11_5]
  show G (0 + 1 + 1 + 1 + 1 + 1 + 2) (0 + 2 + 2000 + 2 + 2000 + 2 + 12) 39 [some (.ref (q11 0))] [.ref (q11 5), .ref (q11 0)] 8 q11 g11
  refine zr_putF (fs' := [.ref (q11 1), .ref (q11 3), .ref (q11 5), .null, .null, .int 0, .int 0, .null]) X F_B_24 rfl d_B_init_39 (by omega) s11_0 rfl rfl (Nat.le_of_ble_eq_true rfl) rfl ?_
  refine zr_aload_n X d_B_init_42 rfl ?_
  refine zr_bipush (v := nI 122) X d_B_init_43 (by decide) ?_
  obtain ⟨f12, ef12⟩ : ∃ z, z = va_up g11 0 (.inr (iB, [.ref (q11 1), .ref (q11 3), .ref (q11 5), .null, .null, .int 0, .int 0, .null])) := ⟨_, rfl⟩
  rw [← ef12]
  have s12_0 : f12 0 = .inr (iB, [.ref (q11 1), .ref (q11 3), .ref (q11 5), .null, .null, .int 0, .int 0, .null]) := by rw [ef12]; exact up_eq
  have s12_2 : f12 2 = .inl (cC, 2000, .inl (fun _ => 0)) := by rw [ef12]; exact (up_ne (by decide) s11_2)
  have s12_1 : f12 1 = .inr (iR, [.ref (q11 2), .int (nI 0)]) := by rw [ef12]; exact (up_ne (by decide) s11_1)
  have s12_4 : f12 4 = .inl (cC, 40, .inl (fun _ => 0)) := by rw [ef12]; exact (up_ne (by decide) s11_4)
  have s12_3 : f12 3 = .inr (iR, [.ref (q11 4), .int (nI 0)]) := by rw [ef12]; exact (up_ne (by decide) s11_3)
  have s12_6 : f12 6 = .inl (cI, 6, .inl (zst 6 (fun _ => -1) (fun _ => 0))) := by rw [ef12]; exact (up_ne (by decide) p11_1)
  have s12_7 : f12 7 = .inl (cZ, 6, .inl (fun _ => 0)) := by rw [ef12]; exact (up_ne (by decide) p11_2)
  have s12_5 : f12 5 = .inr (iM, [.ref (q11 6), .ref (q11 7)]) := by rw [ef12]; exact (up_ne (by decide) p11_3)
  refine zr_anew X 3 d_B_init_45 AN_B_28 rfl rfl (by decide) (by decide) (by decide) (fun a13 => ?_)
  generalize hq13 : va_up q11 8 a13 = q13
  have e13_1 : q11 1 = q13 1 := by rw [← hq13, up_ne' (by omega)]
  have e13_3 : q11 3 = q13 3 := by rw [← hq13, up_ne' (by omega)]
  have e13_5 : q11 5 = q13 5 := by rw [← hq13, up_ne' (by omega)]
  have e13_2 : q11 2 = q13 2 := by rw [← hq13, up_ne' (by omega)]
  have e13_4 : q11 4 = q13 4 := by rw [← hq13, up_ne' (by omega)]
  have e13_6 : q11 6 = q13 6 := by rw [← hq13, up_ne' (by omega)]
  have e13_7 : q11 7 = q13 7 := by rw [← hq13, up_ne' (by omega)]
  have e13_0 : q11 0 = q13 0 := by rw [← hq13, up_ne' (by omega)]
  have e13_n : a13 = q13 8 := by rw [← hq13, up_eq]
  simp only [zbo, zrow, zver, e13_1, e13_3, e13_5, e13_2, e13_4, e13_6, e13_7, e13_0] at s12_0
  simp only [zbo, zrow, zver, e13_1, e13_3, e13_5, e13_2, e13_4, e13_6, e13_7, e13_0] at s12_1
  simp only [zbo, zrow, zver, e13_1, e13_3, e13_5, e13_2, e13_4, e13_6, e13_7, e13_0] at s12_3
  simp only [zbo, zrow, zver, e13_1, e13_3, e13_5, e13_2, e13_4, e13_6, e13_7, e13_0] at s12_5
  try simp only [e13_1, e13_3, e13_5, e13_2, e13_4, e13_6, e13_7, e13_0]
  rw [e13_n]
  show G (0 + 1 + 1 + 1 + 1 + 1 + 2 + 1) (0 + 2 + 2000 + 2 + 2000 + 2 + 12 + 122) 48 [some (.ref (q13 0))] [.ref (q13 8), .ref (q13 0)] 9 q13 (va_up f12 8 (.inl (cV, 122, .inr (.inr (.inr (.inr (fun _ => none)))))))
  refine zr_putF (fs' := [.ref (q13 1), .ref (q13 3), .ref (q13 5), .ref (q13 8), .null, .int 0, .int 0, .null]) X F_B_30 rfl d_B_init_48 (by omega) (up_ne (by omega) s12_0) rfl rfl (Nat.le_of_ble_eq_true rfl) rfl ?_
  refine zr_aload_n X d_B_init_51 rfl ?_
  refine zr_bipush (v := nI 122) X d_B_init_52 (by decide) ?_
  obtain ⟨f14, ef14⟩ : ∃ z, z = va_up (va_up f12 8 (.inl (cV, 122, .inr (.inr (.inr (.inr (fun _ => none))))))) 0 (.inr (iB, [.ref (q13 1), .ref (q13 3), .ref (q13 5), .ref (q13 8), .null, .int 0, .int 0, .null])) := ⟨_, rfl⟩
  rw [← ef14]
  have s14_0 : f14 0 = .inr (iB, [.ref (q13 1), .ref (q13 3), .ref (q13 5), .ref (q13 8), .null, .int 0, .int 0, .null]) := by rw [ef14]; exact up_eq
  have s14_2 : f14 2 = .inl (cC, 2000, .inl (fun _ => 0)) := by rw [ef14]; exact (up_ne (by decide) (up_ne (by omega) s12_2))
  have s14_1 : f14 1 = .inr (iR, [.ref (q13 2), .int (nI 0)]) := by rw [ef14]; exact (up_ne (by decide) (up_ne (by omega) s12_1))
  have s14_4 : f14 4 = .inl (cC, 40, .inl (fun _ => 0)) := by rw [ef14]; exact (up_ne (by decide) (up_ne (by omega) s12_4))
  have s14_3 : f14 3 = .inr (iR, [.ref (q13 4), .int (nI 0)]) := by rw [ef14]; exact (up_ne (by decide) (up_ne (by omega) s12_3))
  have s14_6 : f14 6 = .inl (cI, 6, .inl (zst 6 (fun _ => -1) (fun _ => 0))) := by rw [ef14]; exact (up_ne (by decide) (up_ne (by omega) s12_6))
  have s14_7 : f14 7 = .inl (cZ, 6, .inl (fun _ => 0)) := by rw [ef14]; exact (up_ne (by decide) (up_ne (by omega) s12_7))
  have s14_5 : f14 5 = .inr (iM, [.ref (q13 6), .ref (q13 7)]) := by rw [ef14]; exact (up_ne (by decide) (up_ne (by omega) s12_5))
  have s14_8 : f14 8 = .inl (cV, 122, .inr (.inr (.inr (.inr (fun _ => none))))) := by rw [ef14]; exact (up_ne (by decide) up_eq)
  refine zr_anew X 3 d_B_init_54 AN_B_28 rfl rfl (by decide) (by decide) (by decide) (fun a15 => ?_)
  generalize hq15 : va_up q13 9 a15 = q15
  have e15_1 : q13 1 = q15 1 := by rw [← hq15, up_ne' (by omega)]
  have e15_3 : q13 3 = q15 3 := by rw [← hq15, up_ne' (by omega)]
  have e15_5 : q13 5 = q15 5 := by rw [← hq15, up_ne' (by omega)]
  have e15_8 : q13 8 = q15 8 := by rw [← hq15, up_ne' (by omega)]
  have e15_2 : q13 2 = q15 2 := by rw [← hq15, up_ne' (by omega)]
  have e15_4 : q13 4 = q15 4 := by rw [← hq15, up_ne' (by omega)]
  have e15_6 : q13 6 = q15 6 := by rw [← hq15, up_ne' (by omega)]
  have e15_7 : q13 7 = q15 7 := by rw [← hq15, up_ne' (by omega)]
  have e15_0 : q13 0 = q15 0 := by rw [← hq15, up_ne' (by omega)]
  have e15_n : a15 = q15 9 := by rw [← hq15, up_eq]
  simp only [zbo, zrow, zver, e15_1, e15_3, e15_5, e15_8, e15_2, e15_4, e15_6, e15_7, e15_0] at s14_0
  simp only [zbo, zrow, zver, e15_1, e15_3, e15_5, e15_8, e15_2, e15_4, e15_6, e15_7, e15_0] at s14_1
  simp only [zbo, zrow, zver, e15_1, e15_3, e15_5, e15_8, e15_2, e15_4, e15_6, e15_7, e15_0] at s14_3
  simp only [zbo, zrow, zver, e15_1, e15_3, e15_5, e15_8, e15_2, e15_4, e15_6, e15_7, e15_0] at s14_5
  try simp only [e15_1, e15_3, e15_5, e15_8, e15_2, e15_4, e15_6, e15_7, e15_0]
  rw [e15_n]
  show G (0 + 1 + 1 + 1 + 1 + 1 + 2 + 1 + 1) (0 + 2 + 2000 + 2 + 2000 + 2 + 12 + 122 + 122) 57 [some (.ref (q15 0))] [.ref (q15 9), .ref (q15 0)] 10 q15 (va_up f14 9 (.inl (cV, 122, .inr (.inr (.inr (.inr (fun _ => none)))))))
  refine zr_putF (fs' := [.ref (q15 1), .ref (q15 3), .ref (q15 5), .ref (q15 8), .ref (q15 9), .int 0, .int 0, .null]) X F_B_34 rfl d_B_init_57 (by omega) (up_ne (by omega) s14_0) rfl rfl (Nat.le_of_ble_eq_true rfl) rfl ?_
  refine zr_aload_n X d_B_init_60 rfl ?_
  obtain ⟨f16, ef16⟩ : ∃ z, z = va_up (va_up f14 9 (.inl (cV, 122, .inr (.inr (.inr (.inr (fun _ => none))))))) 0 (.inr (iB, [.ref (q15 1), .ref (q15 3), .ref (q15 5), .ref (q15 8), .ref (q15 9), .int 0, .int 0, .null])) := ⟨_, rfl⟩
  rw [← ef16]
  have s16_0 : f16 0 = .inr (iB, [.ref (q15 1), .ref (q15 3), .ref (q15 5), .ref (q15 8), .ref (q15 9), .int 0, .int 0, .null]) := by rw [ef16]; exact up_eq
  have s16_2 : f16 2 = .inl (cC, 2000, .inl (fun _ => 0)) := by rw [ef16]; exact (up_ne (by decide) (up_ne (by omega) s14_2))
  have s16_1 : f16 1 = .inr (iR, [.ref (q15 2), .int (nI 0)]) := by rw [ef16]; exact (up_ne (by decide) (up_ne (by omega) s14_1))
  have s16_4 : f16 4 = .inl (cC, 40, .inl (fun _ => 0)) := by rw [ef16]; exact (up_ne (by decide) (up_ne (by omega) s14_4))
  have s16_3 : f16 3 = .inr (iR, [.ref (q15 4), .int (nI 0)]) := by rw [ef16]; exact (up_ne (by decide) (up_ne (by omega) s14_3))
  have s16_6 : f16 6 = .inl (cI, 6, .inl (zst 6 (fun _ => -1) (fun _ => 0))) := by rw [ef16]; exact (up_ne (by decide) (up_ne (by omega) s14_6))
  have s16_7 : f16 7 = .inl (cZ, 6, .inl (fun _ => 0)) := by rw [ef16]; exact (up_ne (by decide) (up_ne (by omega) s14_7))
  have s16_5 : f16 5 = .inr (iM, [.ref (q15 6), .ref (q15 7)]) := by rw [ef16]; exact (up_ne (by decide) (up_ne (by omega) s14_5))
  have s16_8 : f16 8 = .inl (cV, 122, .inr (.inr (.inr (.inr (fun _ => none))))) := by rw [ef16]; exact (up_ne (by decide) (up_ne (by omega) s14_8))
  have s16_9 : f16 9 = .inl (cV, 122, .inr (.inr (.inr (.inr (fun _ => none))))) := by rw [ef16]; exact (up_ne (by decide) up_eq)
  refine zr_new X NW_B_28 d_B_init_61 (by decide) (by decide) (fun a17 => ?_)
  generalize hq17 : va_up q15 10 a17 = q17
  have e17_1 : q15 1 = q17 1 := by rw [← hq17, up_ne' (by omega)]
  have e17_3 : q15 3 = q17 3 := by rw [← hq17, up_ne' (by omega)]
  have e17_5 : q15 5 = q17 5 := by rw [← hq17, up_ne' (by omega)]
  have e17_8 : q15 8 = q17 8 := by rw [← hq17, up_ne' (by omega)]
  have e17_9 : q15 9 = q17 9 := by rw [← hq17, up_ne' (by omega)]
  have e17_2 : q15 2 = q17 2 := by rw [← hq17, up_ne' (by omega)]
  have e17_4 : q15 4 = q17 4 := by rw [← hq17, up_ne' (by omega)]
  have e17_6 : q15 6 = q17 6 := by rw [← hq17, up_ne' (by omega)]
  have e17_7 : q15 7 = q17 7 := by rw [← hq17, up_ne' (by omega)]
  have e17_0 : q15 0 = q17 0 := by rw [← hq17, up_ne' (by omega)]
  have e17_n : a17 = q17 10 := by rw [← hq17, up_eq]
  simp only [zbo, zrow, zver, e17_1, e17_3, e17_5, e17_8, e17_9, e17_2, e17_4, e17_6, e17_7, e17_0] at s16_0
  simp only [zbo, zrow, zver, e17_1, e17_3, e17_5, e17_8, e17_9, e17_2, e17_4, e17_6, e17_7, e17_0] at s16_1
  simp only [zbo, zrow, zver, e17_1, e17_3, e17_5, e17_8, e17_9, e17_2, e17_4, e17_6, e17_7, e17_0] at s16_3
  simp only [zbo, zrow, zver, e17_1, e17_3, e17_5, e17_8, e17_9, e17_2, e17_4, e17_6, e17_7, e17_0] at s16_5
  try simp only [e17_1, e17_3, e17_5, e17_8, e17_9, e17_2, e17_4, e17_6, e17_7, e17_0]
  rw [e17_n]
  show G (0 + 1 + 1 + 1 + 1 + 1 + 2 + 1 + 1 + 1) (0 + 2 + 2000 + 2 + 2000 + 2 + 12 + 122 + 122 + 7) 64 [some (.ref (q17 0))] [.ref (q17 10), .ref (q17 0)] 11 q17 (va_up f16 10 (.inr (iV, [.int 0, .null, .int 0, .int 0, .null, .int 0, .null])))
  refine zr_dup X d_B_init_64 rfl ?_
  refine zr_iconst (v := nI 0) X d_B_init_65 (by decide) ?_
  refine zr_null X d_B_init_66 ?_
  refine zr_iconst (v := zbi false) X d_B_init_67 (by decide) ?_
  refine zr_iconst (v := nI 0) X d_B_init_68 (by decide) ?_
  refine zr_iconst (v := nI 0) X d_B_init_69 (by decide) ?_
  obtain ⟨f18, ef18⟩ : ∃ z, z = va_up f16 10 (.inr (iV, [.int 0, .null, .int 0, .int 0, .null, .int 0, .null])) := ⟨_, rfl⟩
  rw [← ef18]
  have s18_0 : f18 0 = .inr (iB, [.ref (q17 1), .ref (q17 3), .ref (q17 5), .ref (q17 8), .ref (q17 9), .int 0, .int 0, .null]) := by rw [ef18]; exact (up_ne (by omega) s16_0)
  have s18_2 : f18 2 = .inl (cC, 2000, .inl (fun _ => 0)) := by rw [ef18]; exact (up_ne (by omega) s16_2)
  have s18_1 : f18 1 = .inr (iR, [.ref (q17 2), .int (nI 0)]) := by rw [ef18]; exact (up_ne (by omega) s16_1)
  have s18_4 : f18 4 = .inl (cC, 40, .inl (fun _ => 0)) := by rw [ef18]; exact (up_ne (by omega) s16_4)
  have s18_3 : f18 3 = .inr (iR, [.ref (q17 4), .int (nI 0)]) := by rw [ef18]; exact (up_ne (by omega) s16_3)
  have s18_6 : f18 6 = .inl (cI, 6, .inl (zst 6 (fun _ => -1) (fun _ => 0))) := by rw [ef18]; exact (up_ne (by omega) s16_6)
  have s18_7 : f18 7 = .inl (cZ, 6, .inl (fun _ => 0)) := by rw [ef18]; exact (up_ne (by omega) s16_7)
  have s18_5 : f18 5 = .inr (iM, [.ref (q17 6), .ref (q17 7)]) := by rw [ef18]; exact (up_ne (by omega) s16_5)
  have s18_8 : f18 8 = .inl (cV, 122, .inr (.inr (.inr (.inr (fun _ => none))))) := by rw [ef18]; exact (up_ne (by omega) s16_8)
  have s18_9 : f18 9 = .inl (cV, 122, .inr (.inr (.inr (.inr (fun _ => none))))) := by rw [ef18]; exact (up_ne (by omega) s16_9)
  have s18_10 : f18 10 = .inr (iV, [.int 0, .null, .int 0, .int 0, .null, .int 0, .null]) := by rw [ef18]; exact up_eq
  refine zr_newaC X 1 d_B_init_70 W_arrC rfl (by decide) (by decide) (by decide) (fun a19 => ?_)
  generalize hq19 : va_up q17 11 a19 = q19
  have e19_1 : q17 1 = q19 1 := by rw [← hq19, up_ne' (by omega)]
  have e19_3 : q17 3 = q19 3 := by rw [← hq19, up_ne' (by omega)]
  have e19_5 : q17 5 = q19 5 := by rw [← hq19, up_ne' (by omega)]
  have e19_8 : q17 8 = q19 8 := by rw [← hq19, up_ne' (by omega)]
  have e19_9 : q17 9 = q19 9 := by rw [← hq19, up_ne' (by omega)]
  have e19_2 : q17 2 = q19 2 := by rw [← hq19, up_ne' (by omega)]
  have e19_4 : q17 4 = q19 4 := by rw [← hq19, up_ne' (by omega)]
  have e19_6 : q17 6 = q19 6 := by rw [← hq19, up_ne' (by omega)]
  have e19_7 : q17 7 = q19 7 := by rw [← hq19, up_ne' (by omega)]
  have e19_0 : q17 0 = q19 0 := by rw [← hq19, up_ne' (by omega)]
  have e19_10 : q17 10 = q19 10 := by rw [← hq19, up_ne' (by omega)]
  have e19_n : a19 = q19 11 := by rw [← hq19, up_eq]
  simp only [zbo, zrow, zver, e19_1, e19_3, e19_5, e19_8, e19_9, e19_2, e19_4, e19_6, e19_7, e19_0, e19_10] at s18_0
  simp only [zbo, zrow, zver, e19_1, e19_3, e19_5, e19_8, e19_9, e19_2, e19_4, e19_6, e19_7, e19_0, e19_10] at s18_1
  simp only [zbo, zrow, zver, e19_1, e19_3, e19_5, e19_8, e19_9, e19_2, e19_4, e19_6, e19_7, e19_0, e19_10] at s18_3
  simp only [zbo, zrow, zver, e19_1, e19_3, e19_5, e19_8, e19_9, e19_2, e19_4, e19_6, e19_7, e19_0, e19_10] at s18_5
  try simp only [e19_1, e19_3, e19_5, e19_8, e19_9, e19_2, e19_4, e19_6, e19_7, e19_0, e19_10]
  rw [e19_n]
  show G (0 + 1 + 1 + 1 + 1 + 1 + 2 + 1 + 1 + 1 + 1) (0 + 2 + 2000 + 2 + 2000 + 2 + 12 + 122 + 122 + 7 + 0) 72 [some (.ref (q19 0))] [.ref (q19 11), .int (nI 0), .int (zbi false), .null, .int (nI 0), .ref (q19 10), .ref (q19 10), .ref (q19 0)] 12 q19 (va_up f18 11 (.inl (cC, 0, .inl (fun _ => 0))))
  refine zr_callI X K_B_37 KI_B_37 rfl (c_V_init_null (by decide) (up_ne (by omega) s18_10)) d_B_init_72 rfl (by decide) (Nat.le_of_ble_eq_true rfl) (by decide) (st := [.ref (q19 10), .ref (q19 0)]) rfl (kW ?_)
  show G (0 + 1 + 1 + 1 + 1 + 1 + 2 + 1 + 1 + 1 + 1) (0 + 2 + 2000 + 2 + 2000 + 2 + 12 + 122 + 122 + 7 + 0) 75 [some (.ref (q19 0))] [.ref (q19 10), .ref (q19 0)] 12 q19 (va_up (va_up f18 11 (.inl (cC, 0, .inl (fun _ => 0)))) 10 (.inr (iV, [.int (nI 0), .null, .int (zbi false), .int (nI 0), .ref (q19 11), .int (nI 0), .null])))
  refine zr_put (fs' := [.ref (q19 1), .ref (q19 3), .ref (q19 5), .ref (q19 8), .ref (q19 9), .int 0, .int 0, .ref (q19 10)]) X F_B_40 d_B_init_75 (by omega) (up_ne (by decide) (up_ne (by omega) s18_0)) rfl rfl (Nat.le_of_ble_eq_true rfl) rfl ?_
  refine zr_aload_n X d_B_init_78 rfl ?_
  refine zr_get X F_B_30 d_B_init_79 (by omega) up_eq (v := .ref (q19 8)) rfl ?_
  refine zr_iconst (v := nI 0) X d_B_init_82 (by decide) ?_
  refine zr_aload_n X d_B_init_83 rfl ?_
  refine zr_get X F_B_40 d_B_init_84 (by omega) up_eq (v := .ref (q19 10)) rfl ?_
  refine zr_aastore X 3 d_B_init_87 (by omega) (up_ne (by decide) (up_ne (by decide) (up_ne (by omega) s18_8))) rfl (by omega) (by decide) (by omega) (up_ne (by decide) up_eq) rfl ?_
  refine zr_aload_n X d_B_init_88 rfl ?_
  refine zr_iconst (v := nI 1) X d_B_init_89 (by decide) ?_
  refine zr_put (fs' := [.ref (q19 1), .ref (q19 3), .ref (q19 5), .ref (q19 8), .ref (q19 9), .int (nI 1), .int 0, .ref (q19 10)]) X F_B_44 d_B_init_90 (by omega) (up_ne (by decide) up_eq) rfl rfl (Nat.le_of_ble_eq_true rfl) rfl ?_
  refine zr_aload_n X d_B_init_93 rfl ?_
  refine zr_iconst (v := nI 0) X d_B_init_94 (by decide) ?_
  refine zr_put (fs' := [.ref (q19 1), .ref (q19 3), .ref (q19 5), .ref (q19 8), .ref (q19 9), .int (nI 1), .int (nI 0), .ref (q19 10)]) X F_B_48 d_B_init_95 (by omega) up_eq rfl rfl (Nat.le_of_ble_eq_true rfl) rfl ?_
  refine zr_return Y d_B_init_98 (Nat.le_of_ble_eq_true rfl) (Nat.le_of_ble_eq_true rfl) ?_
  exact ⟨rfl, rfl, (by simp only [e1_0, e3_0, e5_0, e7_0, e9_0, e11_0, e13_0, e15_0, e17_0, e19_0]), up_eq, (up_ne (by decide) (up_ne (by decide) (up_ne (by decide) (up_ne (by decide) (up_ne (by decide) (up_ne (by omega) s18_1)))))), (up_ne (by decide) (up_ne (by decide) (up_ne (by decide) (up_ne (by decide) (up_ne (by decide) (up_ne (by omega) s18_2)))))), (up_ne (by decide) (up_ne (by decide) (up_ne (by decide) (up_ne (by decide) (up_ne (by decide) (up_ne (by omega) s18_3)))))), (up_ne (by decide) (up_ne (by decide) (up_ne (by decide) (up_ne (by decide) (up_ne (by decide) (up_ne (by omega) s18_4)))))), (up_ne (by decide) (up_ne (by decide) (up_ne (by decide) (up_ne (by decide) (up_ne (by decide) (up_ne (by omega) s18_5)))))), (up_ne (by decide) (up_ne (by decide) (up_ne (by decide) (up_ne (by decide) (up_ne (by decide) (up_ne (by omega) s18_6)))))), (up_ne (by decide) (up_ne (by decide) (up_ne (by decide) (up_ne (by decide) (up_ne (by decide) (up_ne (by omega) s18_7)))))), (up_ne (by decide) (up_ne (by decide) up_eq)), (up_ne (by decide) (up_ne (by decide) (up_ne (by decide) (up_ne (by decide) (up_ne (by decide) (up_ne (by omega) s18_9)))))), (up_ne (by decide) (up_ne (by decide) (up_ne (by decide) (up_ne (by decide) up_eq)))), (up_ne (by decide) (up_ne (by decide) (up_ne (by decide) (up_ne (by decide) (up_ne (by decide) up_eq)))))⟩
end
section
set_option maxRecDepth 100000 in
set_option maxHeartbeats 4000000 in
theorem c_O_init {l : Launch} {D : va_G} {cI cC cZ cV : ClassId} {q : Nat → Nat} {f : zF} (hf : f 12 = .inr (iO, [.int 0, .null, .null, .null, .null, .null, .int 0, .null, .int 0, .int 0, .null, .null, .int 0, .null, .null, .null, .null])) : zC l y_O_init b_O_init 1 none (rmD 1 12 4790) D (zty cI cC cZ cV) [.ref (q 12)] 13 q f (fun v N' q' f' => v = none ∧ N' = 25 ∧ (∀ jj, jj < 13 → q' jj = q jj) ∧ f' 12 = .inr (iO, [.int (nI 1), .ref (q' 13), .ref (q' 14), .ref (q' 15), .ref (q' 16), .ref (q' 17), .int 0, .ref (q' 18), .int 0, .int 0, .ref (q' 19), .ref (q' 20), .int 0, .ref (q' 21), .ref (q' 22), .ref (q' 23), .ref (q' 24)]) ∧ f' 13 = .inl (cI, 122, .inl (upd (fun _ => 0) 0 (-1))) ∧ f' 14 = .inl (cZ, 122, .inl (fun _ => 0)) ∧ f' 15 = .inl (cI, 122, .inl (fun _ => 0)) ∧ f' 16 = .inl (cI, 122, .inl (fun _ => 0)) ∧ f' 17 = .inl (cI, 122, .inl (fun _ => 0)) ∧ f' 18 = .inl (cC, 2000, .inl (fun _ => 0)) ∧ f' 19 = .inl (cC, 2000, .inl (fun _ => 0)) ∧ f' 20 = .inl (cI, 122, .inl (fun _ => 0)) ∧ f' 21 = .inl (cC, 40, .inl (fun _ => 0)) ∧ f' 22 = .inl (cZ, 6, .inl (fun _ => 0)) ∧ f' 23 = .inl (cI, 6, .inl (fun _ => 0)) ∧ f' 24 = .inl (cZ, 6, .inl (fun _ => 0)) ∧ ∀ jj, jj < 12 → f' jj = f jj) := by
  refine zC.of (by decide) (by simp [Value.category]) (Nat.le_of_ble_eq_true rfl) (fun G X Y => ?_)
  show G 0 0 0 [some (.ref (q 12))] [] 13 q f
  refine zr_aload_n X d_O_init_0 rfl ?_
  refine zr_objInit X OI_O_1 d_O_init_1 (by decide) (Nat.le_of_ble_eq_true rfl) ?_
  refine zr_aload_n X d_O_init_4 rfl ?_
  refine zr_iconst (v := nI 1) X d_O_init_5 (by decide) ?_
  refine zr_put (fs' := [.int (nI 1), .null, .null, .null, .null, .null, .int 0, .null, .int 0, .int 0, .null, .null, .int 0, .null, .null, .null, .null]) X F_O_7 d_O_init_6 (by omega) hf rfl rfl (Nat.le_of_ble_eq_true rfl) rfl ?_
  refine zr_aload_n X d_O_init_9 rfl ?_
  refine zr_bipush (v := nI 122) X d_O_init_10 (by decide) ?_
  obtain ⟨f1, ef1⟩ : ∃ z, z = va_up f 12 (.inr (iO, [.int (nI 1), .null, .null, .null, .null, .null, .int 0, .null, .int 0, .int 0, .null, .null, .int 0, .null, .null, .null, .null])) := ⟨_, rfl⟩
  rw [← ef1]
  have s1_12 : f1 12 = .inr (iO, [.int (nI 1), .null, .null, .null, .null, .null, .int 0, .null, .int 0, .int 0, .null, .null, .int 0, .null, .null, .null, .null]) := by rw [ef1]; exact up_eq
  refine zr_newaI X 0 d_O_init_12 W_arrI rfl (by decide) (by decide) (by decide) (fun a2 => ?_)
  generalize hq2 : va_up q 13 a2 = q2
  have e2_12 : q 12 = q2 12 := by rw [← hq2, up_ne' (by omega)]
  have e2_n : a2 = q2 13 := by rw [← hq2, up_eq]
  try simp only [e2_12]
  rw [e2_n]
  show G (0 + 1) (0 + 122) 14 [some (.ref (q2 12))] [.ref (q2 13), .ref (q2 12)] 14 q2 (va_up f1 13 (.inl (cI, 122, .inl (fun _ => 0))))
  refine zr_put (fs' := [.int (nI 1), .ref (q2 13), .null, .null, .null, .null, .int 0, .null, .int 0, .int 0, .null, .null, .int 0, .null, .null, .null, .null]) X F_O_13 d_O_init_14 (by omega) (up_ne (by omega) s1_12) rfl rfl (Nat.le_of_ble_eq_true rfl) rfl ?_
  refine zr_aload_n X d_O_init_17 rfl ?_
  refine zr_bipush (v := nI 122) X d_O_init_18 (by decide) ?_
  obtain ⟨f3, ef3⟩ : ∃ z, z = va_up (va_up f1 13 (.inl (cI, 122, .inl (fun _ => 0)))) 12 (.inr (iO, [.int (nI 1), .ref (q2 13), .null, .null, .null, .null, .int 0, .null, .int 0, .int 0, .null, .null, .int 0, .null, .null, .null, .null])) := ⟨_, rfl⟩
  rw [← ef3]
  have s3_12 : f3 12 = .inr (iO, [.int (nI 1), .ref (q2 13), .null, .null, .null, .null, .int 0, .null, .int 0, .int 0, .null, .null, .int 0, .null, .null, .null, .null]) := by rw [ef3]; exact up_eq
  have s3_13 : f3 13 = .inl (cI, 122, .inl (fun _ => 0)) := by rw [ef3]; exact (up_ne (by decide) up_eq)
  refine zr_newaZ X 2 d_O_init_20 W_arrZ rfl (by decide) (by decide) (by decide) (fun a4 => ?_)
  generalize hq4 : va_up q2 14 a4 = q4
  have e4_13 : q2 13 = q4 13 := by rw [← hq4, up_ne' (by omega)]
  have e4_12 : q2 12 = q4 12 := by rw [← hq4, up_ne' (by omega)]
  have e4_n : a4 = q4 14 := by rw [← hq4, up_eq]
  simp only [zbo, zrow, zver, e4_13, e4_12] at s3_12
  try simp only [e4_13, e4_12]
  rw [e4_n]
  show G (0 + 1 + 1) (0 + 122 + 122) 22 [some (.ref (q4 12))] [.ref (q4 14), .ref (q4 12)] 15 q4 (va_up f3 14 (.inl (cZ, 122, .inl (fun _ => 0))))
  refine zr_put (fs' := [.int (nI 1), .ref (q4 13), .ref (q4 14), .null, .null, .null, .int 0, .null, .int 0, .int 0, .null, .null, .int 0, .null, .null, .null, .null]) X F_O_17 d_O_init_22 (by omega) (up_ne (by omega) s3_12) rfl rfl (Nat.le_of_ble_eq_true rfl) rfl ?_
  refine zr_aload_n X d_O_init_25 rfl ?_
  refine zr_bipush (v := nI 122) X d_O_init_26 (by decide) ?_
  obtain ⟨f5, ef5⟩ : ∃ z, z = va_up (va_up f3 14 (.inl (cZ, 122, .inl (fun _ => 0)))) 12 (.inr (iO, [.int (nI 1), .ref (q4 13), .ref (q4 14), .null, .null, .null, .int 0, .null, .int 0, .int 0, .null, .null, .int 0, .null, .null, .null, .null])) := ⟨_, rfl⟩
  rw [← ef5]
  have s5_12 : f5 12 = .inr (iO, [.int (nI 1), .ref (q4 13), .ref (q4 14), .null, .null, .null, .int 0, .null, .int 0, .int 0, .null, .null, .int 0, .null, .null, .null, .null]) := by rw [ef5]; exact up_eq
  have s5_13 : f5 13 = .inl (cI, 122, .inl (fun _ => 0)) := by rw [ef5]; exact (up_ne (by decide) (up_ne (by omega) s3_13))
  have s5_14 : f5 14 = .inl (cZ, 122, .inl (fun _ => 0)) := by rw [ef5]; exact (up_ne (by decide) up_eq)
  refine zr_newaI X 0 d_O_init_28 W_arrI rfl (by decide) (by decide) (by decide) (fun a6 => ?_)
  generalize hq6 : va_up q4 15 a6 = q6
  have e6_13 : q4 13 = q6 13 := by rw [← hq6, up_ne' (by omega)]
  have e6_14 : q4 14 = q6 14 := by rw [← hq6, up_ne' (by omega)]
  have e6_12 : q4 12 = q6 12 := by rw [← hq6, up_ne' (by omega)]
  have e6_n : a6 = q6 15 := by rw [← hq6, up_eq]
  simp only [zbo, zrow, zver, e6_13, e6_14, e6_12] at s5_12
  try simp only [e6_13, e6_14, e6_12]
  rw [e6_n]
  show G (0 + 1 + 1 + 1) (0 + 122 + 122 + 122) 30 [some (.ref (q6 12))] [.ref (q6 15), .ref (q6 12)] 16 q6 (va_up f5 15 (.inl (cI, 122, .inl (fun _ => 0))))
  refine zr_put (fs' := [.int (nI 1), .ref (q6 13), .ref (q6 14), .ref (q6 15), .null, .null, .int 0, .null, .int 0, .int 0, .null, .null, .int 0, .null, .null, .null, .null]) X F_O_21 d_O_init_30 (by omega) (up_ne (by omega) s5_12) rfl rfl (Nat.le_of_ble_eq_true rfl) rfl ?_
  refine zr_aload_n X d_O_init_33 rfl ?_
  refine zr_bipush (v := nI 122) X d_O_init_34 (by decide) ?_
  obtain ⟨f7, ef7⟩ : ∃ z, z = va_up (va_up f5 15 (.inl (cI, 122, .inl (fun _ => 0)))) 12 (.inr (iO, [.int (nI 1), .ref (q6 13), .ref (q6 14), .ref (q6 15), .null, .null, .int 0, .null, .int 0, .int 0, .null, .null, .int 0, .null, .null, .null, .null])) := ⟨_, rfl⟩
  rw [← ef7]
  have s7_12 : f7 12 = .inr (iO, [.int (nI 1), .ref (q6 13), .ref (q6 14), .ref (q6 15), .null, .null, .int 0, .null, .int 0, .int 0, .null, .null, .int 0, .null, .null, .null, .null]) := by rw [ef7]; exact up_eq
  have s7_13 : f7 13 = .inl (cI, 122, .inl (fun _ => 0)) := by rw [ef7]; exact (up_ne (by decide) (up_ne (by omega) s5_13))
  have s7_14 : f7 14 = .inl (cZ, 122, .inl (fun _ => 0)) := by rw [ef7]; exact (up_ne (by decide) (up_ne (by omega) s5_14))
  have s7_15 : f7 15 = .inl (cI, 122, .inl (fun _ => 0)) := by rw [ef7]; exact (up_ne (by decide) up_eq)
  refine zr_newaI X 0 d_O_init_36 W_arrI rfl (by decide) (by decide) (by decide) (fun a8 => ?_)
  generalize hq8 : va_up q6 16 a8 = q8
  have e8_13 : q6 13 = q8 13 := by rw [← hq8, up_ne' (by omega)]
  have e8_14 : q6 14 = q8 14 := by rw [← hq8, up_ne' (by omega)]
  have e8_15 : q6 15 = q8 15 := by rw [← hq8, up_ne' (by omega)]
  have e8_12 : q6 12 = q8 12 := by rw [← hq8, up_ne' (by omega)]
  have e8_n : a8 = q8 16 := by rw [← hq8, up_eq]
  simp only [zbo, zrow, zver, e8_13, e8_14, e8_15, e8_12] at s7_12
  try simp only [e8_13, e8_14, e8_15, e8_12]
  rw [e8_n]
  show G (0 + 1 + 1 + 1 + 1) (0 + 122 + 122 + 122 + 122) 38 [some (.ref (q8 12))] [.ref (q8 16), .ref (q8 12)] 17 q8 (va_up f7 16 (.inl (cI, 122, .inl (fun _ => 0))))
  refine zr_put (fs' := [.int (nI 1), .ref (q8 13), .ref (q8 14), .ref (q8 15), .ref (q8 16), .null, .int 0, .null, .int 0, .int 0, .null, .null, .int 0, .null, .null, .null, .null]) X F_O_24 d_O_init_38 (by omega) (up_ne (by omega) s7_12) rfl rfl (Nat.le_of_ble_eq_true rfl) rfl ?_
  refine zr_aload_n X d_O_init_41 rfl ?_
  refine zr_bipush (v := nI 122) X d_O_init_42 (by decide) ?_
  obtain ⟨f9, ef9⟩ : ∃ z, z = va_up (va_up f7 16 (.inl (cI, 122, .inl (fun _ => 0)))) 12 (.inr (iO, [.int (nI 1), .ref (q8 13), .ref (q8 14), .ref (q8 15), .ref (q8 16), .null, .int 0, .null, .int 0, .int 0, .null, .null, .int 0, .null, .null, .null, .null])) := ⟨_, rfl⟩
  rw [← ef9]
  have s9_12 : f9 12 = .inr (iO, [.int (nI 1), .ref (q8 13), .ref (q8 14), .ref (q8 15), .ref (q8 16), .null, .int 0, .null, .int 0, .int 0, .null, .null, .int 0, .null, .null, .null, .null]) := by rw [ef9]; exact up_eq
  have s9_13 : f9 13 = .inl (cI, 122, .inl (fun _ => 0)) := by rw [ef9]; exact (up_ne (by decide) (up_ne (by omega) s7_13))
  have s9_14 : f9 14 = .inl (cZ, 122, .inl (fun _ => 0)) := by rw [ef9]; exact (up_ne (by decide) (up_ne (by omega) s7_14))
  have s9_15 : f9 15 = .inl (cI, 122, .inl (fun _ => 0)) := by rw [ef9]; exact (up_ne (by decide) (up_ne (by omega) s7_15))
  have s9_16 : f9 16 = .inl (cI, 122, .inl (fun _ => 0)) := by rw [ef9]; exact (up_ne (by decide) up_eq)
  refine zr_newaI X 0 d_O_init_44 W_arrI rfl (by decide) (by decide) (by decide) (fun a10 => ?_)
  generalize hq10 : va_up q8 17 a10 = q10
  have e10_13 : q8 13 = q10 13 := by rw [← hq10, up_ne' (by omega)]
  have e10_14 : q8 14 = q10 14 := by rw [← hq10, up_ne' (by omega)]
  have e10_15 : q8 15 = q10 15 := by rw [← hq10, up_ne' (by omega)]
  have e10_16 : q8 16 = q10 16 := by rw [← hq10, up_ne' (by omega)]
  have e10_12 : q8 12 = q10 12 := by rw [← hq10, up_ne' (by omega)]
  have e10_n : a10 = q10 17 := by rw [← hq10, up_eq]
  simp only [zbo, zrow, zver, e10_13, e10_14, e10_15, e10_16, e10_12] at s9_12
  try simp only [e10_13, e10_14, e10_15, e10_16, e10_12]
  rw [e10_n]
  show G (0 + 1 + 1 + 1 + 1 + 1) (0 + 122 + 122 + 122 + 122 + 122) 46 [some (.ref (q10 12))] [.ref (q10 17), .ref (q10 12)] 18 q10 (va_up f9 17 (.inl (cI, 122, .inl (fun _ => 0))))
  refine zr_put (fs' := [.int (nI 1), .ref (q10 13), .ref (q10 14), .ref (q10 15), .ref (q10 16), .ref (q10 17), .int 0, .null, .int 0, .int 0, .null, .null, .int 0, .null, .null, .null, .null]) X F_O_27 d_O_init_46 (by omega) (up_ne (by omega) s9_12) rfl rfl (Nat.le_of_ble_eq_true rfl) rfl ?_
  refine zr_aload_n X d_O_init_49 rfl ?_
  refine zr_sipush (v := nI 2000) X d_O_init_50 (by decide) ?_
  obtain ⟨f11, ef11⟩ : ∃ z, z = va_up (va_up f9 17 (.inl (cI, 122, .inl (fun _ => 0)))) 12 (.inr (iO, [.int (nI 1), .ref (q10 13), .ref (q10 14), .ref (q10 15), .ref (q10 16), .ref (q10 17), .int 0, .null, .int 0, .int 0, .null, .null, .int 0, .null, .null, .null, .null])) := ⟨_, rfl⟩
  rw [← ef11]
  have s11_12 : f11 12 = .inr (iO, [.int (nI 1), .ref (q10 13), .ref (q10 14), .ref (q10 15), .ref (q10 16), .ref (q10 17), .int 0, .null, .int 0, .int 0, .null, .null, .int 0, .null, .null, .null, .null]) := by rw [ef11]; exact up_eq
  have s11_13 : f11 13 = .inl (cI, 122, .inl (fun _ => 0)) := by rw [ef11]; exact (up_ne (by decide) (up_ne (by omega) s9_13))
  have s11_14 : f11 14 = .inl (cZ, 122, .inl (fun _ => 0)) := by rw [ef11]; exact (up_ne (by decide) (up_ne (by omega) s9_14))
  have s11_15 : f11 15 = .inl (cI, 122, .inl (fun _ => 0)) := by rw [ef11]; exact (up_ne (by decide) (up_ne (by omega) s9_15))
  have s11_16 : f11 16 = .inl (cI, 122, .inl (fun _ => 0)) := by rw [ef11]; exact (up_ne (by decide) (up_ne (by omega) s9_16))
  have s11_17 : f11 17 = .inl (cI, 122, .inl (fun _ => 0)) := by rw [ef11]; exact (up_ne (by decide) up_eq)
  refine zr_newaC X 1 d_O_init_53 W_arrC rfl (by decide) (by decide) (by decide) (fun a12 => ?_)
  generalize hq12 : va_up q10 18 a12 = q12
  have e12_13 : q10 13 = q12 13 := by rw [← hq12, up_ne' (by omega)]
  have e12_14 : q10 14 = q12 14 := by rw [← hq12, up_ne' (by omega)]
  have e12_15 : q10 15 = q12 15 := by rw [← hq12, up_ne' (by omega)]
  have e12_16 : q10 16 = q12 16 := by rw [← hq12, up_ne' (by omega)]
  have e12_17 : q10 17 = q12 17 := by rw [← hq12, up_ne' (by omega)]
  have e12_12 : q10 12 = q12 12 := by rw [← hq12, up_ne' (by omega)]
  have e12_n : a12 = q12 18 := by rw [← hq12, up_eq]
  simp only [zbo, zrow, zver, e12_13, e12_14, e12_15, e12_16, e12_17, e12_12] at s11_12
  try simp only [e12_13, e12_14, e12_15, e12_16, e12_17, e12_12]
  rw [e12_n]
  show G (0 + 1 + 1 + 1 + 1 + 1 + 1) (0 + 122 + 122 + 122 + 122 + 122 + 2000) 55 [some (.ref (q12 12))] [.ref (q12 18), .ref (q12 12)] 19 q12 (va_up f11 18 (.inl (cC, 2000, .inl (fun _ => 0))))
  refine zr_put (fs' := [.int (nI 1), .ref (q12 13), .ref (q12 14), .ref (q12 15), .ref (q12 16), .ref (q12 17), .int 0, .ref (q12 18), .int 0, .int 0, .null, .null, .int 0, .null, .null, .null, .null]) X F_O_30 d_O_init_55 (by omega) (up_ne (by omega) s11_12) rfl rfl (Nat.le_of_ble_eq_true rfl) rfl ?_
  refine zr_aload_n X d_O_init_58 rfl ?_
  refine zr_sipush (v := nI 2000) X d_O_init_59 (by decide) ?_
  obtain ⟨f13, ef13⟩ : ∃ z, z = va_up (va_up f11 18 (.inl (cC, 2000, .inl (fun _ => 0)))) 12 (.inr (iO, [.int (nI 1), .ref (q12 13), .ref (q12 14), .ref (q12 15), .ref (q12 16), .ref (q12 17), .int 0, .ref (q12 18), .int 0, .int 0, .null, .null, .int 0, .null, .null, .null, .null])) := ⟨_, rfl⟩
  rw [← ef13]
  have s13_12 : f13 12 = .inr (iO, [.int (nI 1), .ref (q12 13), .ref (q12 14), .ref (q12 15), .ref (q12 16), .ref (q12 17), .int 0, .ref (q12 18), .int 0, .int 0, .null, .null, .int 0, .null, .null, .null, .null]) := by rw [ef13]; exact up_eq
  have s13_13 : f13 13 = .inl (cI, 122, .inl (fun _ => 0)) := by rw [ef13]; exact (up_ne (by decide) (up_ne (by omega) s11_13))
  have s13_14 : f13 14 = .inl (cZ, 122, .inl (fun _ => 0)) := by rw [ef13]; exact (up_ne (by decide) (up_ne (by omega) s11_14))
  have s13_15 : f13 15 = .inl (cI, 122, .inl (fun _ => 0)) := by rw [ef13]; exact (up_ne (by decide) (up_ne (by omega) s11_15))
  have s13_16 : f13 16 = .inl (cI, 122, .inl (fun _ => 0)) := by rw [ef13]; exact (up_ne (by decide) (up_ne (by omega) s11_16))
  have s13_17 : f13 17 = .inl (cI, 122, .inl (fun _ => 0)) := by rw [ef13]; exact (up_ne (by decide) (up_ne (by omega) s11_17))
  have s13_18 : f13 18 = .inl (cC, 2000, .inl (fun _ => 0)) := by rw [ef13]; exact (up_ne (by decide) up_eq)
  refine zr_newaC X 1 d_O_init_62 W_arrC rfl (by decide) (by decide) (by decide) (fun a14 => ?_)
  generalize hq14 : va_up q12 19 a14 = q14
  have e14_13 : q12 13 = q14 13 := by rw [← hq14, up_ne' (by omega)]
  have e14_14 : q12 14 = q14 14 := by rw [← hq14, up_ne' (by omega)]
  have e14_15 : q12 15 = q14 15 := by rw [← hq14, up_ne' (by omega)]
  have e14_16 : q12 16 = q14 16 := by rw [← hq14, up_ne' (by omega)]
  have e14_17 : q12 17 = q14 17 := by rw [← hq14, up_ne' (by omega)]
  have e14_18 : q12 18 = q14 18 := by rw [← hq14, up_ne' (by omega)]
  have e14_12 : q12 12 = q14 12 := by rw [← hq14, up_ne' (by omega)]
  have e14_n : a14 = q14 19 := by rw [← hq14, up_eq]
  simp only [zbo, zrow, zver, e14_13, e14_14, e14_15, e14_16, e14_17, e14_18, e14_12] at s13_12
  try simp only [e14_13, e14_14, e14_15, e14_16, e14_17, e14_18, e14_12]
  rw [e14_n]
  show G (0 + 1 + 1 + 1 + 1 + 1 + 1 + 1) (0 + 122 + 122 + 122 + 122 + 122 + 2000 + 2000) 64 [some (.ref (q14 12))] [.ref (q14 19), .ref (q14 12)] 20 q14 (va_up f13 19 (.inl (cC, 2000, .inl (fun _ => 0))))
  refine zr_put (fs' := [.int (nI 1), .ref (q14 13), .ref (q14 14), .ref (q14 15), .ref (q14 16), .ref (q14 17), .int 0, .ref (q14 18), .int 0, .int 0, .ref (q14 19), .null, .int 0, .null, .null, .null, .null]) X F_O_34 d_O_init_64 (by omega) (up_ne (by omega) s13_12) rfl rfl (Nat.le_of_ble_eq_true rfl) rfl ?_
  refine zr_aload_n X d_O_init_67 rfl ?_
  refine zr_bipush (v := nI 122) X d_O_init_68 (by decide) ?_
  obtain ⟨f15, ef15⟩ : ∃ z, z = va_up (va_up f13 19 (.inl (cC, 2000, .inl (fun _ => 0)))) 12 (.inr (iO, [.int (nI 1), .ref (q14 13), .ref (q14 14), .ref (q14 15), .ref (q14 16), .ref (q14 17), .int 0, .ref (q14 18), .int 0, .int 0, .ref (q14 19), .null, .int 0, .null, .null, .null, .null])) := ⟨_, rfl⟩
  rw [← ef15]
  have s15_12 : f15 12 = .inr (iO, [.int (nI 1), .ref (q14 13), .ref (q14 14), .ref (q14 15), .ref (q14 16), .ref (q14 17), .int 0, .ref (q14 18), .int 0, .int 0, .ref (q14 19), .null, .int 0, .null, .null, .null, .null]) := by rw [ef15]; exact up_eq
  have s15_13 : f15 13 = .inl (cI, 122, .inl (fun _ => 0)) := by rw [ef15]; exact (up_ne (by decide) (up_ne (by omega) s13_13))
  have s15_14 : f15 14 = .inl (cZ, 122, .inl (fun _ => 0)) := by rw [ef15]; exact (up_ne (by decide) (up_ne (by omega) s13_14))
  have s15_15 : f15 15 = .inl (cI, 122, .inl (fun _ => 0)) := by rw [ef15]; exact (up_ne (by decide) (up_ne (by omega) s13_15))
  have s15_16 : f15 16 = .inl (cI, 122, .inl (fun _ => 0)) := by rw [ef15]; exact (up_ne (by decide) (up_ne (by omega) s13_16))
  have s15_17 : f15 17 = .inl (cI, 122, .inl (fun _ => 0)) := by rw [ef15]; exact (up_ne (by decide) (up_ne (by omega) s13_17))
  have s15_18 : f15 18 = .inl (cC, 2000, .inl (fun _ => 0)) := by rw [ef15]; exact (up_ne (by decide) (up_ne (by omega) s13_18))
  have s15_19 : f15 19 = .inl (cC, 2000, .inl (fun _ => 0)) := by rw [ef15]; exact (up_ne (by decide) up_eq)
  refine zr_newaI X 0 d_O_init_70 W_arrI rfl (by decide) (by decide) (by decide) (fun a16 => ?_)
  generalize hq16 : va_up q14 20 a16 = q16
  have e16_13 : q14 13 = q16 13 := by rw [← hq16, up_ne' (by omega)]
  have e16_14 : q14 14 = q16 14 := by rw [← hq16, up_ne' (by omega)]
  have e16_15 : q14 15 = q16 15 := by rw [← hq16, up_ne' (by omega)]
  have e16_16 : q14 16 = q16 16 := by rw [← hq16, up_ne' (by omega)]
  have e16_17 : q14 17 = q16 17 := by rw [← hq16, up_ne' (by omega)]
  have e16_18 : q14 18 = q16 18 := by rw [← hq16, up_ne' (by omega)]
  have e16_19 : q14 19 = q16 19 := by rw [← hq16, up_ne' (by omega)]
  have e16_12 : q14 12 = q16 12 := by rw [← hq16, up_ne' (by omega)]
  have e16_n : a16 = q16 20 := by rw [← hq16, up_eq]
  simp only [zbo, zrow, zver, e16_13, e16_14, e16_15, e16_16, e16_17, e16_18, e16_19, e16_12] at s15_12
  try simp only [e16_13, e16_14, e16_15, e16_16, e16_17, e16_18, e16_19, e16_12]
  rw [e16_n]
  show G (0 + 1 + 1 + 1 + 1 + 1 + 1 + 1 + 1) (0 + 122 + 122 + 122 + 122 + 122 + 2000 + 2000 + 122) 72 [some (.ref (q16 12))] [.ref (q16 20), .ref (q16 12)] 21 q16 (va_up f15 20 (.inl (cI, 122, .inl (fun _ => 0))))
  refine zr_put (fs' := [.int (nI 1), .ref (q16 13), .ref (q16 14), .ref (q16 15), .ref (q16 16), .ref (q16 17), .int 0, .ref (q16 18), .int 0, .int 0, .ref (q16 19), .ref (q16 20), .int 0, .null, .null, .null, .null]) X F_O_37 d_O_init_72 (by omega) (up_ne (by omega) s15_12) rfl rfl (Nat.le_of_ble_eq_true rfl) rfl ?_
  refine zr_aload_n X d_O_init_75 rfl ?_
  refine zr_bipush (v := nI 40) X d_O_init_76 (by decide) ?_
  obtain ⟨f17, ef17⟩ : ∃ z, z = va_up (va_up f15 20 (.inl (cI, 122, .inl (fun _ => 0)))) 12 (.inr (iO, [.int (nI 1), .ref (q16 13), .ref (q16 14), .ref (q16 15), .ref (q16 16), .ref (q16 17), .int 0, .ref (q16 18), .int 0, .int 0, .ref (q16 19), .ref (q16 20), .int 0, .null, .null, .null, .null])) := ⟨_, rfl⟩
  rw [← ef17]
  have s17_12 : f17 12 = .inr (iO, [.int (nI 1), .ref (q16 13), .ref (q16 14), .ref (q16 15), .ref (q16 16), .ref (q16 17), .int 0, .ref (q16 18), .int 0, .int 0, .ref (q16 19), .ref (q16 20), .int 0, .null, .null, .null, .null]) := by rw [ef17]; exact up_eq
  have s17_13 : f17 13 = .inl (cI, 122, .inl (fun _ => 0)) := by rw [ef17]; exact (up_ne (by decide) (up_ne (by omega) s15_13))
  have s17_14 : f17 14 = .inl (cZ, 122, .inl (fun _ => 0)) := by rw [ef17]; exact (up_ne (by decide) (up_ne (by omega) s15_14))
  have s17_15 : f17 15 = .inl (cI, 122, .inl (fun _ => 0)) := by rw [ef17]; exact (up_ne (by decide) (up_ne (by omega) s15_15))
  have s17_16 : f17 16 = .inl (cI, 122, .inl (fun _ => 0)) := by rw [ef17]; exact (up_ne (by decide) (up_ne (by omega) s15_16))
  have s17_17 : f17 17 = .inl (cI, 122, .inl (fun _ => 0)) := by rw [ef17]; exact (up_ne (by decide) (up_ne (by omega) s15_17))
  have s17_18 : f17 18 = .inl (cC, 2000, .inl (fun _ => 0)) := by rw [ef17]; exact (up_ne (by decide) (up_ne (by omega) s15_18))
  have s17_19 : f17 19 = .inl (cC, 2000, .inl (fun _ => 0)) := by rw [ef17]; exact (up_ne (by decide) (up_ne (by omega) s15_19))
  have s17_20 : f17 20 = .inl (cI, 122, .inl (fun _ => 0)) := by rw [ef17]; exact (up_ne (by decide) up_eq)
  refine zr_newaC X 1 d_O_init_78 W_arrC rfl (by decide) (by decide) (by decide) (fun a18 => ?_)
  generalize hq18 : va_up q16 21 a18 = q18
  have e18_13 : q16 13 = q18 13 := by rw [← hq18, up_ne' (by omega)]
  have e18_14 : q16 14 = q18 14 := by rw [← hq18, up_ne' (by omega)]
  have e18_15 : q16 15 = q18 15 := by rw [← hq18, up_ne' (by omega)]
  have e18_16 : q16 16 = q18 16 := by rw [← hq18, up_ne' (by omega)]
  have e18_17 : q16 17 = q18 17 := by rw [← hq18, up_ne' (by omega)]
  have e18_18 : q16 18 = q18 18 := by rw [← hq18, up_ne' (by omega)]
  have e18_19 : q16 19 = q18 19 := by rw [← hq18, up_ne' (by omega)]
  have e18_20 : q16 20 = q18 20 := by rw [← hq18, up_ne' (by omega)]
  have e18_12 : q16 12 = q18 12 := by rw [← hq18, up_ne' (by omega)]
  have e18_n : a18 = q18 21 := by rw [← hq18, up_eq]
  simp only [zbo, zrow, zver, e18_13, e18_14, e18_15, e18_16, e18_17, e18_18, e18_19, e18_20, e18_12] at s17_12
  try simp only [e18_13, e18_14, e18_15, e18_16, e18_17, e18_18, e18_19, e18_20, e18_12]
  rw [e18_n]
  show G (0 + 1 + 1 + 1 + 1 + 1 + 1 + 1 + 1 + 1) (0 + 122 + 122 + 122 + 122 + 122 + 2000 + 2000 + 122 + 40) 80 [some (.ref (q18 12))] [.ref (q18 21), .ref (q18 12)] 22 q18 (va_up f17 21 (.inl (cC, 40, .inl (fun _ => 0))))
  refine zr_put (fs' := [.int (nI 1), .ref (q18 13), .ref (q18 14), .ref (q18 15), .ref (q18 16), .ref (q18 17), .int 0, .ref (q18 18), .int 0, .int 0, .ref (q18 19), .ref (q18 20), .int 0, .ref (q18 21), .null, .null, .null]) X F_O_40 d_O_init_80 (by omega) (up_ne (by omega) s17_12) rfl rfl (Nat.le_of_ble_eq_true rfl) rfl ?_
  refine zr_aload_n X d_O_init_83 rfl ?_
  refine zr_bipush (v := nI 6) X d_O_init_84 (by decide) ?_
  obtain ⟨f19, ef19⟩ : ∃ z, z = va_up (va_up f17 21 (.inl (cC, 40, .inl (fun _ => 0)))) 12 (.inr (iO, [.int (nI 1), .ref (q18 13), .ref (q18 14), .ref (q18 15), .ref (q18 16), .ref (q18 17), .int 0, .ref (q18 18), .int 0, .int 0, .ref (q18 19), .ref (q18 20), .int 0, .ref (q18 21), .null, .null, .null])) := ⟨_, rfl⟩
  rw [← ef19]
  have s19_12 : f19 12 = .inr (iO, [.int (nI 1), .ref (q18 13), .ref (q18 14), .ref (q18 15), .ref (q18 16), .ref (q18 17), .int 0, .ref (q18 18), .int 0, .int 0, .ref (q18 19), .ref (q18 20), .int 0, .ref (q18 21), .null, .null, .null]) := by rw [ef19]; exact up_eq
  have s19_13 : f19 13 = .inl (cI, 122, .inl (fun _ => 0)) := by rw [ef19]; exact (up_ne (by decide) (up_ne (by omega) s17_13))
  have s19_14 : f19 14 = .inl (cZ, 122, .inl (fun _ => 0)) := by rw [ef19]; exact (up_ne (by decide) (up_ne (by omega) s17_14))
  have s19_15 : f19 15 = .inl (cI, 122, .inl (fun _ => 0)) := by rw [ef19]; exact (up_ne (by decide) (up_ne (by omega) s17_15))
  have s19_16 : f19 16 = .inl (cI, 122, .inl (fun _ => 0)) := by rw [ef19]; exact (up_ne (by decide) (up_ne (by omega) s17_16))
  have s19_17 : f19 17 = .inl (cI, 122, .inl (fun _ => 0)) := by rw [ef19]; exact (up_ne (by decide) (up_ne (by omega) s17_17))
  have s19_18 : f19 18 = .inl (cC, 2000, .inl (fun _ => 0)) := by rw [ef19]; exact (up_ne (by decide) (up_ne (by omega) s17_18))
  have s19_19 : f19 19 = .inl (cC, 2000, .inl (fun _ => 0)) := by rw [ef19]; exact (up_ne (by decide) (up_ne (by omega) s17_19))
  have s19_20 : f19 20 = .inl (cI, 122, .inl (fun _ => 0)) := by rw [ef19]; exact (up_ne (by decide) (up_ne (by omega) s17_20))
  have s19_21 : f19 21 = .inl (cC, 40, .inl (fun _ => 0)) := by rw [ef19]; exact (up_ne (by decide) up_eq)
  refine zr_newaZ X 2 d_O_init_86 W_arrZ rfl (by decide) (by decide) (by decide) (fun a20 => ?_)
  generalize hq20 : va_up q18 22 a20 = q20
  have e20_13 : q18 13 = q20 13 := by rw [← hq20, up_ne' (by omega)]
  have e20_14 : q18 14 = q20 14 := by rw [← hq20, up_ne' (by omega)]
  have e20_15 : q18 15 = q20 15 := by rw [← hq20, up_ne' (by omega)]
  have e20_16 : q18 16 = q20 16 := by rw [← hq20, up_ne' (by omega)]
  have e20_17 : q18 17 = q20 17 := by rw [← hq20, up_ne' (by omega)]
  have e20_18 : q18 18 = q20 18 := by rw [← hq20, up_ne' (by omega)]
  have e20_19 : q18 19 = q20 19 := by rw [← hq20, up_ne' (by omega)]
  have e20_20 : q18 20 = q20 20 := by rw [← hq20, up_ne' (by omega)]
  have e20_21 : q18 21 = q20 21 := by rw [← hq20, up_ne' (by omega)]
  have e20_12 : q18 12 = q20 12 := by rw [← hq20, up_ne' (by omega)]
  have e20_n : a20 = q20 22 := by rw [← hq20, up_eq]
  simp only [zbo, zrow, zver, e20_13, e20_14, e20_15, e20_16, e20_17, e20_18, e20_19, e20_20, e20_21, e20_12] at s19_12
  try simp only [e20_13, e20_14, e20_15, e20_16, e20_17, e20_18, e20_19, e20_20, e20_21, e20_12]
  rw [e20_n]
  show G (0 + 1 + 1 + 1 + 1 + 1 + 1 + 1 + 1 + 1 + 1) (0 + 122 + 122 + 122 + 122 + 122 + 2000 + 2000 + 122 + 40 + 6) 88 [some (.ref (q20 12))] [.ref (q20 22), .ref (q20 12)] 23 q20 (va_up f19 22 (.inl (cZ, 6, .inl (fun _ => 0))))
  refine zr_put (fs' := [.int (nI 1), .ref (q20 13), .ref (q20 14), .ref (q20 15), .ref (q20 16), .ref (q20 17), .int 0, .ref (q20 18), .int 0, .int 0, .ref (q20 19), .ref (q20 20), .int 0, .ref (q20 21), .ref (q20 22), .null, .null]) X F_O_43 d_O_init_88 (by omega) (up_ne (by omega) s19_12) rfl rfl (Nat.le_of_ble_eq_true rfl) rfl ?_
  refine zr_aload_n X d_O_init_91 rfl ?_
  refine zr_bipush (v := nI 6) X d_O_init_92 (by decide) ?_
  obtain ⟨f21, ef21⟩ : ∃ z, z = va_up (va_up f19 22 (.inl (cZ, 6, .inl (fun _ => 0)))) 12 (.inr (iO, [.int (nI 1), .ref (q20 13), .ref (q20 14), .ref (q20 15), .ref (q20 16), .ref (q20 17), .int 0, .ref (q20 18), .int 0, .int 0, .ref (q20 19), .ref (q20 20), .int 0, .ref (q20 21), .ref (q20 22), .null, .null])) := ⟨_, rfl⟩
  rw [← ef21]
  have s21_12 : f21 12 = .inr (iO, [.int (nI 1), .ref (q20 13), .ref (q20 14), .ref (q20 15), .ref (q20 16), .ref (q20 17), .int 0, .ref (q20 18), .int 0, .int 0, .ref (q20 19), .ref (q20 20), .int 0, .ref (q20 21), .ref (q20 22), .null, .null]) := by rw [ef21]; exact up_eq
  have s21_13 : f21 13 = .inl (cI, 122, .inl (fun _ => 0)) := by rw [ef21]; exact (up_ne (by decide) (up_ne (by omega) s19_13))
  have s21_14 : f21 14 = .inl (cZ, 122, .inl (fun _ => 0)) := by rw [ef21]; exact (up_ne (by decide) (up_ne (by omega) s19_14))
  have s21_15 : f21 15 = .inl (cI, 122, .inl (fun _ => 0)) := by rw [ef21]; exact (up_ne (by decide) (up_ne (by omega) s19_15))
  have s21_16 : f21 16 = .inl (cI, 122, .inl (fun _ => 0)) := by rw [ef21]; exact (up_ne (by decide) (up_ne (by omega) s19_16))
  have s21_17 : f21 17 = .inl (cI, 122, .inl (fun _ => 0)) := by rw [ef21]; exact (up_ne (by decide) (up_ne (by omega) s19_17))
  have s21_18 : f21 18 = .inl (cC, 2000, .inl (fun _ => 0)) := by rw [ef21]; exact (up_ne (by decide) (up_ne (by omega) s19_18))
  have s21_19 : f21 19 = .inl (cC, 2000, .inl (fun _ => 0)) := by rw [ef21]; exact (up_ne (by decide) (up_ne (by omega) s19_19))
  have s21_20 : f21 20 = .inl (cI, 122, .inl (fun _ => 0)) := by rw [ef21]; exact (up_ne (by decide) (up_ne (by omega) s19_20))
  have s21_21 : f21 21 = .inl (cC, 40, .inl (fun _ => 0)) := by rw [ef21]; exact (up_ne (by decide) (up_ne (by omega) s19_21))
  have s21_22 : f21 22 = .inl (cZ, 6, .inl (fun _ => 0)) := by rw [ef21]; exact (up_ne (by decide) up_eq)
  refine zr_newaI X 0 d_O_init_94 W_arrI rfl (by decide) (by decide) (by decide) (fun a22 => ?_)
  generalize hq22 : va_up q20 23 a22 = q22
  have e22_13 : q20 13 = q22 13 := by rw [← hq22, up_ne' (by omega)]
  have e22_14 : q20 14 = q22 14 := by rw [← hq22, up_ne' (by omega)]
  have e22_15 : q20 15 = q22 15 := by rw [← hq22, up_ne' (by omega)]
  have e22_16 : q20 16 = q22 16 := by rw [← hq22, up_ne' (by omega)]
  have e22_17 : q20 17 = q22 17 := by rw [← hq22, up_ne' (by omega)]
  have e22_18 : q20 18 = q22 18 := by rw [← hq22, up_ne' (by omega)]
  have e22_19 : q20 19 = q22 19 := by rw [← hq22, up_ne' (by omega)]
  have e22_20 : q20 20 = q22 20 := by rw [← hq22, up_ne' (by omega)]
  have e22_21 : q20 21 = q22 21 := by rw [← hq22, up_ne' (by omega)]
  have e22_22 : q20 22 = q22 22 := by rw [← hq22, up_ne' (by omega)]
  have e22_12 : q20 12 = q22 12 := by rw [← hq22, up_ne' (by omega)]
  have e22_n : a22 = q22 23 := by rw [← hq22, up_eq]
  simp only [zbo, zrow, zver, e22_13, e22_14, e22_15, e22_16, e22_17, e22_18, e22_19, e22_20, e22_21, e22_22, e22_12] at s21_12
  try simp only [e22_13, e22_14, e22_15, e22_16, e22_17, e22_18, e22_19, e22_20, e22_21, e22_22, e22_12]
  rw [e22_n]
  show G (0 + 1 + 1 + 1 + 1 + 1 + 1 + 1 + 1 + 1 + 1 + 1) (0 + 122 + 122 + 122 + 122 + 122 + 2000 + 2000 + 122 + 40 + 6 + 6) 96 [some (.ref (q22 12))] [.ref (q22 23), .ref (q22 12)] 24 q22 (va_up f21 23 (.inl (cI, 6, .inl (fun _ => 0))))
  refine zr_put (fs' := [.int (nI 1), .ref (q22 13), .ref (q22 14), .ref (q22 15), .ref (q22 16), .ref (q22 17), .int 0, .ref (q22 18), .int 0, .int 0, .ref (q22 19), .ref (q22 20), .int 0, .ref (q22 21), .ref (q22 22), .ref (q22 23), .null]) X F_O_46 d_O_init_96 (by omega) (up_ne (by omega) s21_12) rfl rfl (Nat.le_of_ble_eq_true rfl) rfl ?_
  refine zr_aload_n X d_O_init_99 rfl ?_
  refine zr_bipush (v := nI 6) X d_O_init_100 (by decide) ?_
  obtain ⟨f23, ef23⟩ : ∃ z, z = va_up (va_up f21 23 (.inl (cI, 6, .inl (fun _ => 0)))) 12 (.inr (iO, [.int (nI 1), .ref (q22 13), .ref (q22 14), .ref (q22 15), .ref (q22 16), .ref (q22 17), .int 0, .ref (q22 18), .int 0, .int 0, .ref (q22 19), .ref (q22 20), .int 0, .ref (q22 21), .ref (q22 22), .ref (q22 23), .null])) := ⟨_, rfl⟩
  rw [← ef23]
  have s23_12 : f23 12 = .inr (iO, [.int (nI 1), .ref (q22 13), .ref (q22 14), .ref (q22 15), .ref (q22 16), .ref (q22 17), .int 0, .ref (q22 18), .int 0, .int 0, .ref (q22 19), .ref (q22 20), .int 0, .ref (q22 21), .ref (q22 22), .ref (q22 23), .null]) := by rw [ef23]; exact up_eq
  have s23_13 : f23 13 = .inl (cI, 122, .inl (fun _ => 0)) := by rw [ef23]; exact (up_ne (by decide) (up_ne (by omega) s21_13))
  have s23_14 : f23 14 = .inl (cZ, 122, .inl (fun _ => 0)) := by rw [ef23]; exact (up_ne (by decide) (up_ne (by omega) s21_14))
  have s23_15 : f23 15 = .inl (cI, 122, .inl (fun _ => 0)) := by rw [ef23]; exact (up_ne (by decide) (up_ne (by omega) s21_15))
  have s23_16 : f23 16 = .inl (cI, 122, .inl (fun _ => 0)) := by rw [ef23]; exact (up_ne (by decide) (up_ne (by omega) s21_16))
  have s23_17 : f23 17 = .inl (cI, 122, .inl (fun _ => 0)) := by rw [ef23]; exact (up_ne (by decide) (up_ne (by omega) s21_17))
  have s23_18 : f23 18 = .inl (cC, 2000, .inl (fun _ => 0)) := by rw [ef23]; exact (up_ne (by decide) (up_ne (by omega) s21_18))
  have s23_19 : f23 19 = .inl (cC, 2000, .inl (fun _ => 0)) := by rw [ef23]; exact (up_ne (by decide) (up_ne (by omega) s21_19))
  have s23_20 : f23 20 = .inl (cI, 122, .inl (fun _ => 0)) := by rw [ef23]; exact (up_ne (by decide) (up_ne (by omega) s21_20))
  have s23_21 : f23 21 = .inl (cC, 40, .inl (fun _ => 0)) := by rw [ef23]; exact (up_ne (by decide) (up_ne (by omega) s21_21))
  have s23_22 : f23 22 = .inl (cZ, 6, .inl (fun _ => 0)) := by rw [ef23]; exact (up_ne (by decide) (up_ne (by omega) s21_22))
  have s23_23 : f23 23 = .inl (cI, 6, .inl (fun _ => 0)) := by rw [ef23]; exact (up_ne (by decide) up_eq)
  refine zr_newaZ X 2 d_O_init_102 W_arrZ rfl (by decide) (by decide) (by decide) (fun a24 => ?_)
  generalize hq24 : va_up q22 24 a24 = q24
  have e24_13 : q22 13 = q24 13 := by rw [← hq24, up_ne' (by omega)]
  have e24_14 : q22 14 = q24 14 := by rw [← hq24, up_ne' (by omega)]
  have e24_15 : q22 15 = q24 15 := by rw [← hq24, up_ne' (by omega)]
  have e24_16 : q22 16 = q24 16 := by rw [← hq24, up_ne' (by omega)]
  have e24_17 : q22 17 = q24 17 := by rw [← hq24, up_ne' (by omega)]
  have e24_18 : q22 18 = q24 18 := by rw [← hq24, up_ne' (by omega)]
  have e24_19 : q22 19 = q24 19 := by rw [← hq24, up_ne' (by omega)]
  have e24_20 : q22 20 = q24 20 := by rw [← hq24, up_ne' (by omega)]
  have e24_21 : q22 21 = q24 21 := by rw [← hq24, up_ne' (by omega)]
  have e24_22 : q22 22 = q24 22 := by rw [← hq24, up_ne' (by omega)]
  have e24_23 : q22 23 = q24 23 := by rw [← hq24, up_ne' (by omega)]
  have e24_12 : q22 12 = q24 12 := by rw [← hq24, up_ne' (by omega)]
  have e24_n : a24 = q24 24 := by rw [← hq24, up_eq]
  simp only [zbo, zrow, zver, e24_13, e24_14, e24_15, e24_16, e24_17, e24_18, e24_19, e24_20, e24_21, e24_22, e24_23, e24_12] at s23_12
  try simp only [e24_13, e24_14, e24_15, e24_16, e24_17, e24_18, e24_19, e24_20, e24_21, e24_22, e24_23, e24_12]
  rw [e24_n]
  show G (0 + 1 + 1 + 1 + 1 + 1 + 1 + 1 + 1 + 1 + 1 + 1 + 1) (0 + 122 + 122 + 122 + 122 + 122 + 2000 + 2000 + 122 + 40 + 6 + 6 + 6) 104 [some (.ref (q24 12))] [.ref (q24 24), .ref (q24 12)] 25 q24 (va_up f23 24 (.inl (cZ, 6, .inl (fun _ => 0))))
  refine zr_put (fs' := [.int (nI 1), .ref (q24 13), .ref (q24 14), .ref (q24 15), .ref (q24 16), .ref (q24 17), .int 0, .ref (q24 18), .int 0, .int 0, .ref (q24 19), .ref (q24 20), .int 0, .ref (q24 21), .ref (q24 22), .ref (q24 23), .ref (q24 24)]) X F_O_49 d_O_init_104 (by omega) (up_ne (by omega) s23_12) rfl rfl (Nat.le_of_ble_eq_true rfl) rfl ?_
  refine zr_aload_n X d_O_init_107 rfl ?_
  refine zr_get X F_O_13 d_O_init_108 (by omega) up_eq (v := .ref (q24 13)) rfl ?_
  refine zr_iconst (v := nI 0) X d_O_init_111 (by decide) ?_
  refine zr_iconst (v := (-1)) X d_O_init_112 (by decide) ?_
  refine zr_iastore X 0 d_O_init_113 (by omega) (up_ne (by decide) (up_ne (by omega) s23_13)) rfl (by omega) (by decide) ?_
  refine zr_return Y d_O_init_114 (Nat.le_of_ble_eq_true rfl) (Nat.le_of_ble_eq_true rfl) ?_
  exact ⟨rfl, rfl, fun jj k1 => by rw [← hq24, up_ne' (by omega), ← hq22, up_ne' (by omega), ← hq20, up_ne' (by omega), ← hq18, up_ne' (by omega), ← hq16, up_ne' (by omega), ← hq14, up_ne' (by omega), ← hq12, up_ne' (by omega), ← hq10, up_ne' (by omega), ← hq8, up_ne' (by omega), ← hq6, up_ne' (by omega), ← hq4, up_ne' (by omega), ← hq2, up_ne' (by omega)], (up_ne (by decide) up_eq), up_eq, (up_ne (by decide) (up_ne (by decide) (up_ne (by omega) s23_14))), (up_ne (by decide) (up_ne (by decide) (up_ne (by omega) s23_15))), (up_ne (by decide) (up_ne (by decide) (up_ne (by omega) s23_16))), (up_ne (by decide) (up_ne (by decide) (up_ne (by omega) s23_17))), (up_ne (by decide) (up_ne (by decide) (up_ne (by omega) s23_18))), (up_ne (by decide) (up_ne (by decide) (up_ne (by omega) s23_19))), (up_ne (by decide) (up_ne (by decide) (up_ne (by omega) s23_20))), (up_ne (by decide) (up_ne (by decide) (up_ne (by omega) s23_21))), (up_ne (by decide) (up_ne (by decide) (up_ne (by omega) s23_22))), (up_ne (by decide) (up_ne (by decide) (up_ne (by omega) s23_23))), (up_ne (by decide) (up_ne (by decide) up_eq)), fun jj k1 => (up_ne (by omega) (up_ne (by omega) (up_ne (by omega) (show f23 jj = f jj by rw [ef23]; exact (up_ne (by omega) (up_ne (by omega) (show f21 jj = f jj by rw [ef21]; exact (up_ne (by omega) (up_ne (by omega) (show f19 jj = f jj by rw [ef19]; exact (up_ne (by omega) (up_ne (by omega) (show f17 jj = f jj by rw [ef17]; exact (up_ne (by omega) (up_ne (by omega) (show f15 jj = f jj by rw [ef15]; exact (up_ne (by omega) (up_ne (by omega) (show f13 jj = f jj by rw [ef13]; exact (up_ne (by omega) (up_ne (by omega) (show f11 jj = f jj by rw [ef11]; exact (up_ne (by omega) (up_ne (by omega) (show f9 jj = f jj by rw [ef9]; exact (up_ne (by omega) (up_ne (by omega) (show f7 jj = f jj by rw [ef7]; exact (up_ne (by omega) (up_ne (by omega) (show f5 jj = f jj by rw [ef5]; exact (up_ne (by omega) (up_ne (by omega) (show f3 jj = f jj by rw [ef3]; exact (up_ne (by omega) (up_ne (by omega) (show f1 jj = f jj by rw [ef1]; exact (up_ne (by omega) rfl))))))))))))))))))))))))))))))))))))))⟩
end
section
/-! what holds between two calls of the law: the class's cells, the reference's cells, and what ties them -/
def zIC (cI cC cZ cV : ClassId) (N : Nat) (q : Nat → Nat) (f : zF) (n ins a k : Nat) (par : Nat → Nat) (com : Nat → Bool) (tp tc : Nat → Nat) (tq : Nat → Nat → Int32) (tz : Nat → Nat) (tt : Nat → Nat → Int32) (cn : Nat → Nat) (lat : Nat → Value) (mp mr sc : Nat → Int32) : Prop := N = 23 + 2 * n ∧ zCur cC cI q n ins a tz tt mp f ∧ f 3 = zrow q 4 k ∧ f 4 = .inl (cC, 40, .inl sc) ∧ zCh sc ∧ f 5 = .inr (iM, [.ref (q 6), .ref (q 7)]) ∧ f 7 = .inl (cZ, 6, .inl mr) ∧ (∃ md, f 8 = .inl (cV, 122, .inr (.inr (.inr (.inr md)))) ∧ ∀ v, v < n → md v = some (q (24 + 2 * v))) ∧ (∃ wo, f 9 = .inl (cV, 122, .inr (.inr (.inr (.inr wo))))) ∧ zVs cC q f n par com tp tc tq cn lat
def zIM (cI cC cZ : ClassId) (q : Nat → Nat) (f : zF) (n ins a k : Nat) (par : Nat → Nat) (com : Nat → Bool) (tp tc : Nat → Nat) (tq : Nat → Nat → Int32) (tz : Nat → Nat) (tt : Nat → Nat → Int32) (pa iset ma mr sc : Nat → Int32) : Prop := f 10 = zmo q n ins a (tz a) k ∧ f 11 = .inl (cI, 122, .inl pa) ∧ f 19 = .inl (cC, 40, .inl sc) ∧ zCh sc ∧ f 20 = .inl (cZ, 6, .inl iset) ∧ f 21 = .inl (cI, 6, .inl ma) ∧ f 22 = .inl (cZ, 6, .inl mr) ∧ ∃ co pl mn fi pool tx way, f 12 = .inl (cZ, 122, .inl co) ∧ f 13 = .inl (cI, 122, .inl pl) ∧ f 14 = .inl (cI, 122, .inl mn) ∧ f 15 = .inl (cI, 122, .inl fi) ∧ f 16 = .inl (cC, 2000, .inl pool) ∧ f 17 = .inl (cC, 2000, .inl tx) ∧ f 18 = .inl (cI, 122, .inl way) ∧ zMT n par com tp tc tq pa co pl mn fi pool ∧ zPool n com tc tq fi pool ins ∧ zCh pool ∧ zCh tx ∧ ∀ j, j < tz a → tx j = tt a j
def zIP (q : Nat → Nat) (n ins a k : Nat) (par : Nat → Nat) (com : Nat → Bool) (tp tc : Nat → Nat) (tq : Nat → Nat → Int32) (tz : Nat → Nat) (tt : Nat → Nat → Int32) (cn : Nat → Nat) (lat : Nat → Value) (mp mr sc pa iset ma mr2 sc2 : Nat → Int32) : Prop := 1 ≤ n ∧ n ≤ 122 ∧ a < n ∧ ins ≤ 2000 ∧ k ≤ 40 ∧ par 0 = 0 ∧ zTree n par com tp tc tq tz tt ∧ (∀ v, v < n → tz v ≤ ins) ∧ (∀ v, v < n → cn v = zcc pa v n ∧ lat v = va_rf ((zlt pa v n).map (fun u => q (24 + 2 * u)))) ∧ (∀ i, i < k → sc i = sc2 i) ∧ zMk (tz a) iset ma mp ∧ ∀ m, m < 6 → mr m = mr2 m
def zInv (cI cC cZ cV : ClassId) (N : Nat) (q : Nat → Nat) (f : zF) : Prop := ∃ (n ins a k : Nat) (par : Nat → Nat) (com : Nat → Bool) (tp tc : Nat → Nat) (tq : Nat → Nat → Int32) (tz : Nat → Nat) (tt : Nat → Nat → Int32) (cn : Nat → Nat) (lat : Nat → Value) (mp mr sc pa iset ma mr2 sc2 : Nat → Int32), zIC cI cC cZ cV N q f n ins a k par com tp tc tq tz tt cn lat mp mr sc ∧ zIM cI cC cZ q f n ins a k par com tp tc tq tz tt pa iset ma mr2 sc2 ∧ zIP q n ins a k par com tp tc tq tz tt cn lat mp mr sc pa iset ma mr2 sc2
section ZInv
variable {l : Launch} {D : va_G} {cI cC cZ cV : ClassId} {N : Nat} {q : Nat → Nat} {f f' : zF} {n ins a k : Nat} {par : Nat → Nat} {com : Nat → Bool} {tp tc : Nat → Nat} {tq : Nat → Nat → Int32} {tz : Nat → Nat} {tt : Nat → Nat → Int32} {cn : Nat → Nat} {lat : Nat → Value} {mp mr sc pa iset ma mr2 sc2 : Nat → Int32}
theorem zCur.keep {u : Nat} (Cu : zCur cC cI q n ins u tz tt mp f) (h : ∀ jj, jj < 3 ∨ jj = 6 → f' jj = f jj) : zCur cC cI q n ins u tz tt mp f' := by
  obtain ⟨h0, h1, ⟨tx, h2, h3⟩, h6⟩ := Cu
  exact ⟨(h 0 (by omega)).trans h0, (h 1 (by omega)).trans h1, ⟨tx, (h 2 (by omega)).trans h2, h3⟩, (h 6 (by omega)).trans h6⟩
theorem zIC.keep (C : zIC cI cC cZ cV N q f n ins a k par com tp tc tq tz tt cn lat mp mr sc) (h : ∀ jj, jj < 10 ∨ 23 ≤ jj → f' jj = f jj) : zIC cI cC cZ cV N q f' n ins a k par com tp tc tq tz tt cn lat mp mr sc := by
  obtain ⟨c1, c2, c3, c4, c5, c6, c7, ⟨md, c8, c8'⟩, ⟨wo, c9⟩, c10⟩ := C
  exact ⟨c1, c2.keep (fun jj k => h jj (by omega)), (h 3 (by omega)).trans c3, (h 4 (by omega)).trans c4, c5, (h 5 (by omega)).trans c6, (h 7 (by omega)).trans c7, ⟨md, (h 8 (by omega)).trans c8, c8'⟩, ⟨wo, (h 9 (by omega)).trans c9⟩, c10.keep (fun jj k => h jj (by omega))⟩
theorem zIM.keep (C : zIM cI cC cZ q f n ins a k par com tp tc tq tz tt pa iset ma mr sc) (h : ∀ jj, 10 ≤ jj → jj < 23 → f' jj = f jj) : zIM cI cC cZ q f' n ins a k par com tp tc tq tz tt pa iset ma mr sc := by
  obtain ⟨c1, c2, c3, c4, c5, c6, c7, co, pl, mn, fi, pool, tx, way, d1, d2, d3, d4, d5, d6, d7, d8⟩ := C
  have g := fun jj a b => h jj a b
  exact ⟨(h 10 (by omega) (by omega)).trans c1, (h 11 (by omega) (by omega)).trans c2, (h 19 (by omega) (by omega)).trans c3, c4, (h 20 (by omega) (by omega)).trans c5, (h 21 (by omega) (by omega)).trans c6, (h 22 (by omega) (by omega)).trans c7, co, pl, mn, fi, pool, tx, way, (h 12 (by omega) (by omega)).trans d1, (h 13 (by omega) (by omega)).trans d2, (h 14 (by omega) (by omega)).trans d3, (h 15 (by omega) (by omega)).trans d4, (h 16 (by omega) (by omega)).trans d5, (h 17 (by omega) (by omega)).trans d6, (h 18 (by omega) (by omega)).trans d7, d8⟩
/-! the scratch changes -/
theorem zIC.scr (C : zIC cI cC cZ cV N q f n ins a k par com tp tc tq tz tt cn lat mp mr sc) {k' : Nat} {sc' : Nat → Int32} (h3 : f' 3 = zrow q 4 k') (h4 : f' 4 = .inl (cC, 40, .inl sc')) (hc : zCh sc') (h : ∀ jj, jj ≠ 3 → jj ≠ 4 → f' jj = f jj) : zIC cI cC cZ cV N q f' n ins a k' par com tp tc tq tz tt cn lat mp mr sc' := by
  obtain ⟨c1, c2, -, -, -, c6, c7, ⟨md, c8, c8'⟩, ⟨wo, c9⟩, c10⟩ := C
  exact ⟨c1, c2.keep (fun jj k => h jj (by omega) (by omega)), h3, h4, hc, (h 5 (by omega) (by omega)).trans c6, (h 7 (by omega) (by omega)).trans c7, ⟨md, (h 8 (by omega) (by omega)).trans c8, c8'⟩, ⟨wo, (h 9 (by omega) (by omega)).trans c9⟩, c10.keep (fun jj k => h jj (by omega) (by omega))⟩
theorem zIM.scr (C : zIM cI cC cZ q f n ins a k par com tp tc tq tz tt pa iset ma mr sc) {k' : Nat} {sc' : Nat → Int32} (h10 : f' 10 = zmo q n ins a (tz a) k') (h19 : f' 19 = .inl (cC, 40, .inl sc')) (hc : zCh sc') (h : ∀ jj, jj ≠ 10 → jj ≠ 19 → f' jj = f jj) : zIM cI cC cZ q f' n ins a k' par com tp tc tq tz tt pa iset ma mr sc' := by
  obtain ⟨c1, c2, -, -, c5, c6, c7, co, pl, mn, fi, pool, tx, way, d1, d2, d3, d4, d5, d6, d7, d8⟩ := C
  exact ⟨h10, (h 11 (by omega) (by omega)).trans c2, h19, hc, (h 20 (by omega) (by omega)).trans c5, (h 21 (by omega) (by omega)).trans c6, (h 22 (by omega) (by omega)).trans c7, co, pl, mn, fi, pool, tx, way, (h 12 (by omega) (by omega)).trans d1, (h 13 (by omega) (by omega)).trans d2, (h 14 (by omega) (by omega)).trans d3, (h 15 (by omega) (by omega)).trans d4, (h 16 (by omega) (by omega)).trans d5, (h 17 (by omega) (by omega)).trans d6, (h 18 (by omega) (by omega)).trans d7, d8⟩
theorem zIP.scr (P : zIP q n ins a k par com tp tc tq tz tt cn lat mp mr sc pa iset ma mr2 sc2) {k' : Nat} {sc' sc2' : Nat → Int32} (hk : k' ≤ 40) (h : ∀ i, i < k' → sc' i = sc2' i) : zIP q n ins a k' par com tp tc tq tz tt cn lat mp mr sc' pa iset ma mr2 sc2' := by
  obtain ⟨p1, p2, p3, p4, p5, p6, p7, p8, p9, p10, p11, p12⟩ := P
  exact ⟨p1, p2, p3, p4, hk, p6, p7, p8, p9, h, p11, p12⟩
/-! marks change -/
theorem zIC.mrk (C : zIC cI cC cZ cV N q f n ins a k par com tp tc tq tz tt cn lat mp mr sc) {mp' mr' : Nat → Int32} (h6 : f' 6 = .inl (cI, 6, .inl mp')) (h7 : f' 7 = .inl (cZ, 6, .inl mr')) (h : ∀ jj, jj ≠ 6 → jj ≠ 7 → f' jj = f jj) : zIC cI cC cZ cV N q f' n ins a k par com tp tc tq tz tt cn lat mp' mr' sc := by
  obtain ⟨c1, ⟨x0, x1, ⟨tx, x2, x3⟩, x6⟩, c3, c4, c5, c6, c7, ⟨md, c8, c8'⟩, ⟨wo, c9⟩, c10⟩ := C
  exact ⟨c1, ⟨(h 0 (by omega) (by omega)).trans x0, (h 1 (by omega) (by omega)).trans x1, ⟨tx, (h 2 (by omega) (by omega)).trans x2, x3⟩, h6⟩, (h 3 (by omega) (by omega)).trans c3, (h 4 (by omega) (by omega)).trans c4, c5, (h 5 (by omega) (by omega)).trans c6, h7, ⟨md, (h 8 (by omega) (by omega)).trans c8, c8'⟩, ⟨wo, (h 9 (by omega) (by omega)).trans c9⟩, c10.keep (fun jj k => h jj (by omega) (by omega))⟩
theorem zIM.mrk (C : zIM cI cC cZ q f n ins a k par com tp tc tq tz tt pa iset ma mr sc) {iset' ma' mr' : Nat → Int32} (h20 : f' 20 = .inl (cZ, 6, .inl iset')) (h21 : f' 21 = .inl (cI, 6, .inl ma')) (h22 : f' 22 = .inl (cZ, 6, .inl mr')) (h : ∀ jj, jj < 20 → f' jj = f jj) : zIM cI cC cZ q f' n ins a k par com tp tc tq tz tt pa iset' ma' mr' sc := by
  obtain ⟨c1, c2, c3, c4, -, -, -, co, pl, mn, fi, pool, tx, way, d1, d2, d3, d4, d5, d6, d7, d8⟩ := C
  exact ⟨(h 10 (by omega)).trans c1, (h 11 (by omega)).trans c2, (h 19 (by omega)).trans c3, c4, h20, h21, h22, co, pl, mn, fi, pool, tx, way, (h 12 (by omega)).trans d1, (h 13 (by omega)).trans d2, (h 14 (by omega)).trans d3, (h 15 (by omega)).trans d4, (h 16 (by omega)).trans d5, (h 17 (by omega)).trans d6, (h 18 (by omega)).trans d7, d8⟩
theorem zIP.mrk (P : zIP q n ins a k par com tp tc tq tz tt cn lat mp mr sc pa iset ma mr2 sc2) {mp' mr' iset' ma' mr2' : Nat → Int32} (h1 : zMk (tz a) iset' ma' mp') (h2 : ∀ m, m < 6 → mr' m = mr2' m) : zIP q n ins a k par com tp tc tq tz tt cn lat mp' mr' sc pa iset' ma' mr2' sc2 := by
  obtain ⟨p1, p2, p3, p4, p5, p6, p7, p8, p9, p10, p11, p12⟩ := P
  exact ⟨p1, p2, p3, p4, p5, p6, p7, p8, p9, p10, h1, h2⟩
/-! another version is there -/
theorem zIC.mov (C : zIC cI cC cZ cV N q f n ins a k par com tp tc tq tz tt cn lat mp mr sc) {a' : Nat} {mp' : Nat → Int32} (Cu : zCur cC cI q n ins a' tz tt mp' f') (h9 : ∃ wo, f' 9 = .inl (cV, 122, .inr (.inr (.inr (.inr wo))))) (h : ∀ jj, jj ≠ 0 → jj ≠ 1 → jj ≠ 2 → jj ≠ 6 → jj ≠ 9 → f' jj = f jj) : zIC cI cC cZ cV N q f' n ins a' k par com tp tc tq tz tt cn lat mp' mr sc := by
  obtain ⟨c1, -, c3, c4, c5, c6, c7, ⟨md, c8, c8'⟩, -, c10⟩ := C
  have g := fun jj (x : jj ≠ 0 ∧ jj ≠ 1 ∧ jj ≠ 2 ∧ jj ≠ 6 ∧ jj ≠ 9) => h jj x.1 x.2.1 x.2.2.1 x.2.2.2.1 x.2.2.2.2
  exact ⟨c1, Cu, (g 3 (by omega)).trans c3, (g 4 (by omega)).trans c4, c5, (g 5 (by omega)).trans c6, (g 7 (by omega)).trans c7, ⟨md, (g 8 (by omega)).trans c8, c8'⟩, h9, c10.keep (fun jj k => g jj (by omega))⟩
theorem zIM.mov (C : zIM cI cC cZ q f n ins a k par com tp tc tq tz tt pa iset ma mr sc) {a' : Nat} {ma' : Nat → Int32} (Md : zMade cC cI q n ins a' k tz tt ma' f f') : zIM cI cC cZ q f' n ins a' k par com tp tc tq tz tt pa iset ma' mr sc := by
  obtain ⟨c1, c2, c3, c4, c5, c6, c7, co, pl, mn, fi, pool, tx, way, d1, d2, d3, d4, d5, d6, d7, d8, d9, d10, d11, d12⟩ := C
  obtain ⟨⟨g, w, m1, m2, m3, m4, m5⟩, m6, m7⟩ := Md
  have h := fun jj (x : jj ≠ 10 ∧ jj ≠ 17 ∧ jj ≠ 18 ∧ jj ≠ 21) => m7 jj x.1 x.2.1 x.2.2.1 x.2.2.2
  exact ⟨m1, (h 11 (by omega)).trans c2, (h 19 (by omega)).trans c3, c4, (h 20 (by omega)).trans c5, m6, (h 22 (by omega)).trans c7, co, pl, mn, fi, pool, g, w, (h 12 (by omega)).trans d1, (h 13 (by omega)).trans d2, (h 14 (by omega)).trans d3, (h 15 (by omega)).trans d4, (h 16 (by omega)).trans d5, m2, m3, d8, d9, d10, m4, m5⟩
theorem zIP.mov (P : zIP q n ins a k par com tp tc tq tz tt cn lat mp mr sc pa iset ma mr2 sc2) {a' : Nat} {mp' ma' : Nat → Int32} (h1 : a' < n) (h2 : zMk (tz a') iset ma' mp') : zIP q n ins a' k par com tp tc tq tz tt cn lat mp' mr sc pa iset ma' mr2 sc2 := by
  obtain ⟨p1, p2, p3, p4, p5, p6, p7, p8, p9, p10, p11, p12⟩ := P
  exact ⟨p1, p2, h1, p4, p5, p6, p7, p8, p9, p10, h2, p12⟩
/-- marks on a step back, on a step on, on the whole way -/
theorem zMk.bk (T : zTree n par com tp tc tq tz tt) {u : Nat} (h0 : 0 < u) (hu : u < n) (h : zMk (tz u) iset ma mp) (hr : ∀ m, m < 6 → mr m = mr2 m) : zMk (tz (par u)) iset (zoM (!(com u)) (tp u) (tc u) ma mr2) (zoM (!(com u)) (tp u) (tc u) mp mr) := by
  obtain ⟨k1, k2, -⟩ := T.back h0 hu
  rw [← k2]
  exact h.step k1 (fun m hm => (hr m hm).symm)
theorem zMk.on (T : zTree n par com tp tc tq tz tt) {u : Nat} (h0 : 0 < u) (hu : u < n) (h : zMk (tz (par u)) iset ma mp) (hr : ∀ m, m < 6 → mr m = mr2 m) : zMk (tz u) iset (zoM (com u) (tp u) (tc u) ma mr2) (zoM (com u) (tp u) (tc u) mp mr) := by
  rw [T.sz h0 hu]
  exact h.step (T.ok h0 hu) (fun m hm => (hr m hm).symm)
theorem zMk.way (T : zTree n par com tp tc tq tz tt) (hp0 : par 0 = 0) {b kb ko : Nat} (ha : a < n) (hb : b < n) (w : zWay par a b kb ko) (h : zMk (tz a) iset ma mp) (hr : ∀ m, m < 6 → mr m = mr2 m) : zMk (tz b) iset (zons par com tp tc b ko mr2 (zbks par com tp tc a mr2 ma kb) ko) (zons par com tp tc b ko mr (zbks par com tp tc a mr mp kb) ko) := by
  have hp := fun v h0 h => T.lt (v := v) h0 h
  have h1 : ∀ i, i ≤ kb → zMk (tz (zit par a i)) iset (zbks par com tp tc a mr2 ma i) (zbks par com tp tc a mr mp i) := by
    intro i
    induction i with
    | zero => intro _; exact h
    | succ i ih =>
      intro hi
      exact zMk.bk T (w.back hp hp0 ha hb (by omega)) (zit_lt hp hp0 ha i) (ih (by omega)) hr
  have h2 : ∀ s, s ≤ ko → zMk (tz (zit par b (ko - s))) iset (zons par com tp tc b ko mr2 (zbks par com tp tc a mr2 ma kb) s) (zons par com tp tc b ko mr (zbks par com tp tc a mr mp kb) s) := by
    intro s
    induction s with
    | zero =>
      intro _
      have h3 := h1 kb (Nat.le_refl _)
      rw [w.1] at h3
      exact h3
    | succ s ih =>
      intro hs
      have h3 := ih (by omega)
      rw [show ko - s = (ko - (s + 1)) + 1 by omega] at h3
      exact zMk.on T (w.on hp0 (by omega)) (zit_lt hp hp0 hb _) h3 hr
  have h4 := h2 ko (Nat.le_refl _)
  rw [Nat.sub_self] at h4
  exact h4
end ZInv
end
section
/-! a version is added -/
theorem zcc_congr {pa pb : Nat → Int32} {t : Nat} : ∀ {u : Nat}, (∀ v, v < u → pa v = pb v) → zcc pa t u = zcc pb t u
  | 0, _ => rfl
  | u + 1, h => by
    show zcc pa t u + _ = zcc pb t u + _
    rw [zcc_congr (fun v hv => h v (by omega)), h u (by omega)]
theorem zlt_congr {pa pb : Nat → Int32} {t : Nat} : ∀ {u : Nat}, (∀ v, v < u → pa v = pb v) → zlt pa t u = zlt pb t u
  | 0, _ => rfl
  | u + 1, h => by
    show (if _ then _ else zlt pa t u) = (if _ then _ else zlt pb t u)
    rw [zlt_congr (fun v hv => h v (by omega)), h u (by omega)]
theorem zcc_none {pa : Nat → Int32} {t : Nat} : ∀ {u : Nat}, (∀ v, 0 < v → v < u → pa v ≠ nI t) → zcc pa t u = 0
  | 0, _ => rfl
  | u + 1, h => by
    show zcc pa t u + _ = 0
    rw [zcc_none (fun v h0 hv => h v h0 (by omega)), if_neg (fun h1 => h u h1.1 (by omega) h1.2)]
theorem zlt_none {pa : Nat → Int32} {t : Nat} : ∀ {u : Nat}, (∀ v, 0 < v → v < u → pa v ≠ nI t) → zlt pa t u = none
  | 0, _ => rfl
  | u + 1, h => by
    show (if _ then _ else zlt pa t u) = none
    rw [zlt_none (fun v h0 hv => h v h0 (by omega)), if_neg (fun h1 => h u h1.1 (by omega) h1.2)]
theorem zlt_some {pa : Nat → Int32} {t w : Nat} : ∀ {u : Nat}, zlt pa t u = some w → 0 < w ∧ w < u ∧ pa w = nI t
  | 0, h => by cases h
  | u + 1, h => by
    by_cases hc : 0 < u ∧ pa u = nI t
    · have h1 : zlt pa t (u + 1) = some u := if_pos hc
      rw [h1] at h
      cases h
      exact ⟨hc.1, by omega, hc.2⟩
    · have h1 : zlt pa t (u + 1) = zlt pa t u := if_neg hc
      rw [h1] at h
      obtain ⟨a, b, c⟩ := zlt_some h
      exact ⟨a, by omega, c⟩
theorem zver_q {q q' : Nat → Nat} {num at_ jp cc : Nat} {pr lat : Value} {com : Int32} (h : q' jp = q jp) : zver q num pr com at_ jp cc lat = zver q' num pr com at_ jp cc lat := by
  simp only [zver, h]
section ZNew
variable {l : Launch} {D : va_G} {cI cC cZ cV : ClassId} {N N' : Nat} {q q' : Nat → Nat} {f f' : zF} {n ins ins' a k : Nat} {par : Nat → Nat} {com : Nat → Bool} {tp tc : Nat → Nat} {tq : Nat → Nat → Int32} {tz : Nat → Nat} {tt : Nat → Nat → Int32} {cn : Nat → Nat} {lat : Nat → Value} {mp mr sc pa iset ma mr2 sc2 : Nat → Int32} {b : Bool} {p c : Nat} {gp : Nat → Int32}
theorem zTree.new (T : zTree n par com tp tc tq tz tt) (hn : 0 < n) (ha : a < n) (hk : zoK b p c (tz a)) (hg : b = false → ∀ i, i < c → gp i = tt a (p + i)) : zTree (n + 1) (va_up par n a) (va_up com n b) (va_up tp n p) (va_up tc n c) (va_up tq n gp) (va_up tz n (zoS b (tz a) c)) (va_up tt n (zoT b (tt a) gp p c (tz a))) := by
  have hza := T.2.1 a ha
  refine ⟨(up_ne (by omega) T.1), fun v hv => ?_, fun v h0 hv => ?_⟩
  · by_cases h : v = n
    · subst h
      rw [up_eq]
      cases b with
      | true => exact hk.2
      | false => show tz a - c ≤ 2000; omega
    · rw [up_ne' h]
      exact T.2.1 v (by omega)
  · by_cases h : v = n
    · subst h
      simp only [up_eq]
      rw [up_ne' (show a ≠ v by omega), up_ne' (show a ≠ v by omega)]
      exact ⟨ha, hk, rfl, fun i hi => rfl, hg⟩
    · have hp := T.lt h0 (show v < n by omega)
      simp only [up_ne' h]
      rw [up_ne' (show par v ≠ n by omega), up_ne' (show par v ≠ n by omega)]
      exact T.2.2 v h0 (by omega)
theorem zMT.ext {n' : Nat} {par' : Nat → Nat} {com' : Nat → Bool} {tp' tc' : Nat → Nat} {tq' : Nat → Nat → Int32} {co pl mn fi pool : Nat → Int32} (M : zMT n par com tp tc tq pa co pl mn fi pool) (h : ∀ v, v < n → par' v = par v ∧ com' v = com v ∧ tp' v = tp v ∧ tc' v = tc v ∧ tq' v = tq v) : zMT n par' com' tp' tc' tq' pa co pl mn fi pool := fun v h0 hv => by
  obtain ⟨e1, e2, e3, e4, e5⟩ := h v hv
  rw [e1, e2, e3, e4, e5]
  exact M v h0 hv
theorem zPool.ext {com' : Nat → Bool} {tc' : Nat → Nat} {tq' : Nat → Nat → Int32} {fi pool : Nat → Int32} {po : Nat} (L : zPool n com tc tq fi pool po) (h : ∀ v, v < n → com' v = com v ∧ tc' v = tc v ∧ tq' v = tq v) : zPool n com' tc' tq' fi pool po := fun v h0 hv => by
  obtain ⟨e2, e4, e5⟩ := h v hv
  rw [e2, e4, e5]
  exact L v h0 hv
theorem zIM.adr (C : zIM cI cC cZ q f n ins a k par com tp tc tq tz tt pa iset ma mr sc) (h : ∀ j, j < 23 → q' j = q j) : zIM cI cC cZ q' f n ins a k par com tp tc tq tz tt pa iset ma mr sc := by
  obtain ⟨c1, c2⟩ := C
  refine ⟨?_, c2⟩
  rw [c1]
  simp only [zmo, h 11 (by omega), h 12 (by omega), h 13 (by omega), h 14 (by omega), h 15 (by omega), h 16 (by omega), h 17 (by omega), h 18 (by omega), h 19 (by omega), h 20 (by omega), h 21 (by omega), h 22 (by omega)]
theorem zIC.new (C : zIC cI cC cZ cV N q f n ins a k par com tp tc tq tz tt cn lat mp mr sc) (P : zIP q n ins a k par com tp tc tq tz tt cn lat mp mr sc pa iset ma mr2 sc2) (hk : zoK b p c (tz a)) (hgc : zCh gp) {tx : Nat → Int32} (htx : zCh tx) (hag : ∀ i, i < tz a → tx i = tt a i) {md : Nat → Option Nat} (hmd : ∀ v, v < n → md v = some (q (24 + 2 * v))) (hn : n < 122)
    (Nw : zNewP cC cI cV N q f n ins' (24 + 2 * a) a (tp a) (23 + 2 * a) (cn a) (zbi (com a)) (if a = 0 then .null else .ref (q (24 + 2 * par a))) b p c (tz a) gp tx mp mr md N' q' f') : (∀ j, j < N → q' j = q j) ∧ zIC cI cC cZ cV N' q' f' (n + 1) ins' n k (va_up par n a) (va_up com n b) (va_up tp n p) (va_up tc n c) (va_up tq n gp) (va_up tz n (zoS b (tz a) c)) (va_up tt n (zoT b (tt a) gp p c (tz a))) (va_up (va_up cn a (cn a + 1)) n 0) (va_up (va_up lat a (.ref (q' (24 + 2 * n)))) n .null) (zoM b p c mp mr) mr sc := by
  obtain ⟨c1, -, c3, c4, c5, c6, c7, -, ⟨wo, c9⟩, V⟩ := C
  obtain ⟨p1, p2, ha, p4, p5, hp0, T, -⟩ := P
  obtain ⟨rfl, ⟨a1, a2, rfl⟩, w1, w2, w3, w4, w5, w6, w7, w8, w9⟩ := Nw
  have qe : ∀ j, j < N → va_up (va_up q N a1) (N + 1) a2 j = q j := fun j hj => by rw [up_ne' (by omega), up_ne' (by omega)]
  generalize va_up (va_up q N a1) (N + 1) a2 = q' at *
  refine ⟨qe, ?_⟩
  subst c1
  have fr := fun jj (x : jj < 23 + 2 * n ∧ 2 < jj ∧ jj ≠ 6 ∧ jj ≠ 8 ∧ jj ≠ 24 + 2 * a) => w9 jj x.1 x.2.1 x.2.2.1 x.2.2.2.1 x.2.2.2.2
  have hN1 : 23 + 2 * n + 1 = 24 + 2 * n := by omega
  rw [hN1] at w2 w3 w4 w5
  refine ⟨by omega, ⟨w4, by rw [up_eq]; exact w7, ⟨_, w6, ?_, fun i hi => ?_⟩, w8⟩, ?_, (fr 4 (by omega)).trans c4, c5, ?_, (fr 7 (by omega)).trans c7, ⟨_, w3, fun v hv => ?_⟩, ⟨wo, (fr 9 (by omega)).trans c9⟩, fun v hv => ?_⟩
  · unfold zoT
    split
    · exact zCh.cpy hgc (zCh.cpy htx htx)
    · exact zCh.cpy htx htx
  · rw [up_eq] at hi ⊢
    exact zoT_congr hk hag (fun _ i _ => rfl) i hi
  · rw [fr 3 (by omega), c3]
    simp only [zrow, qe 4 (by omega)]
  · rw [fr 5 (by omega), c6, qe 6 (by omega), qe 7 (by omega)]
  · by_cases h : v = n
    · rw [h, up_eq]
    · rw [up_ne' h, hmd v (by omega), qe _ (by omega)]
  · by_cases h : v = n
    · subst h
      simp only [up_eq]
      rw [if_neg (by omega)]
      exact ⟨w2, w1, hgc⟩
    · have hv : v < n := by omega
      have hpv : 0 < v → par v < v := fun h0 => T.lt h0 hv
      obtain ⟨x1, x2, x3⟩ := V v hv
      have hpr : (if v = 0 then Value.null else .ref (q (24 + 2 * par v))) = (if v = 0 then .null else .ref (q' (24 + 2 * par v))) := by
        by_cases h0 : v = 0
        · rw [if_pos h0, if_pos h0]
        · rw [if_neg h0, if_neg h0, qe _ (by have := hpv (by omega); omega)]
      simp only [up_ne' h]
      refine ⟨?_, (fr _ (by omega)).trans x2, x3⟩
      by_cases hva : v = a
      · subst hva
        rw [up_eq, up_eq, w5, hpr]
      · rw [up_ne' hva, up_ne' hva, fr _ (by omega), x1, hpr]
        exact zver_q (qe _ (by omega))
theorem zIM.new {fE : zF} {co pl mn fi pool tx : Nat → Int32} (hP : zIP q n ins a k par com tp tc tq tz tt cn lat mp mr sc pa iset ma mr2 sc2) (g15 : fE 15 = .inl (cI, 122, .inl fi)) (g16 : fE 16 = .inl (cC, 2000, .inl pool)) (g19 : fE 19 = .inl (cC, 40, .inl sc2)) (hsc2 : zCh sc2) (g20 : fE 20 = .inl (cZ, 6, .inl iset)) (g22 : fE 22 = .inl (cZ, 6, .inl mr2)) (hpool : zCh pool)
    (M : zMT n par com tp tc tq pa co pl mn fi pool) (L : zPool (n + 1) (va_up com n b) (va_up tc n c) (va_up tq n gp) fi pool ins') (hi : ins' ≤ 2000)
    (Ed : zEd cC cI cZ q' n ins' a k b p c (va_up tz n (zoS b (tz a) c)) (va_up tt n (zoT b (tt a) gp p c (tz a))) pa co pl mn (zoM b p c ma mr2) fE f') : zIM cI cC cZ q' f' (n + 1) ins' n k (va_up par n a) (va_up com n b) (va_up tp n p) (va_up tc n c) (va_up tq n gp) (va_up tz n (zoS b (tz a) c)) (va_up tt n (zoT b (tt a) gp p c (tz a))) (upd pa n (nI a)) iset (zoM b p c ma mr2) mr2 sc2 := by
  obtain ⟨⟨g, w, m1, m2, m3, m4, m5⟩, m6, m7, m8, m9, m10, m11⟩ := Ed
  have h := fun jj (x : jj ≠ 10 ∧ jj ≠ 17 ∧ jj ≠ 18 ∧ jj ≠ 21 ∧ jj ≠ 11 ∧ jj ≠ 12 ∧ jj ≠ 13 ∧ jj ≠ 14) => m11 jj x.1 x.2.1 x.2.2.1 x.2.2.2.1 x.2.2.2.2.1 x.2.2.2.2.2.1 x.2.2.2.2.2.2.1 x.2.2.2.2.2.2.2
  refine ⟨m1, m7, (h 19 (by omega)).trans g19, hsc2, (h 20 (by omega)).trans g20, m6, (h 22 (by omega)).trans g22, _, _, _, fi, pool, g, w, m8, m9, m10, (h 15 (by omega)).trans g15, (h 16 (by omega)).trans g16, m2, m3, ?_, L, hpool, m4, m5⟩
  intro v h0 hv
  by_cases hvn : v = n
  · subst hvn
    simp only [up_eq]
    refine ⟨pk_us, pk_us, pk_us, pk_us, fun hc => ?_⟩
    obtain ⟨x, k1, k2, k3⟩ := L v h0 hv (by rw [up_eq]; exact hc)
    rw [up_eq] at k2 k3
    rw [up_eq] at k3
    exact ⟨x, k1, by omega, k3⟩
  · obtain ⟨e1, e2, e3, e4, e5⟩ := M v h0 (by omega)
    simp only [up_ne' hvn]
    exact ⟨(pk_un hvn).trans e1, (pk_un hvn).trans e2, (pk_un hvn).trans e3, (pk_un hvn).trans e4, e5⟩
theorem zIP.new (P : zIP q n ins a k par com tp tc tq tz tt cn lat mp mr sc pa iset ma mr2 sc2) (hpa : ∀ v, 0 < v → v < n → pa v = nI (par v)) (hk : zoK b p c (tz a)) (hg : b = false → ∀ i, i < c → gp i = tt a (p + i)) (hn : n < 122) (hi : ins' ≤ 2000) (hii : ins ≤ ins') (hz : zoS b (tz a) c ≤ ins') (hq : ∀ j, j < 23 + 2 * n → q' j = q j) : zIP q' (n + 1) ins' n k (va_up par n a) (va_up com n b) (va_up tp n p) (va_up tc n c) (va_up tq n gp) (va_up tz n (zoS b (tz a) c)) (va_up tt n (zoT b (tt a) gp p c (tz a))) (va_up (va_up cn a (cn a + 1)) n 0) (va_up (va_up lat a (.ref (q' (24 + 2 * n)))) n .null) (zoM b p c mp mr) mr sc (upd pa n (nI a)) iset (zoM b p c ma mr2) mr2 sc2 := by
  obtain ⟨p1, p2, ha, p4, p5, hp0, T, p8, p9, p10, p11, p12⟩ := P
  refine ⟨by omega, by omega, by omega, hi, p5, (up_ne (by omega) hp0), T.new (by omega) ha hk hg, fun v hv => ?_, fun v hv => ?_, p10, ?_, p12⟩
  · by_cases h : v = n
    · rw [h, up_eq]; exact hz
    · rw [up_ne' h]
      exact Nat.le_trans (p8 v (by omega)) hii
  · have hag : ∀ u, u < n → upd pa n (nI a) u = pa u := fun u hu => pk_un (by omega)
    have hc1 : zcc (upd pa n (nI a)) v (n + 1) = zcc pa v n + if a = v then 1 else 0 := by
      show zcc _ v n + _ = _
      rw [zcc_congr hag]
      congr 1
      have : (upd pa n (nI a)) n = nI a := pk_us
      by_cases hav : a = v
      · rw [if_pos ⟨by omega, by rw [this, hav]⟩, if_pos hav]
      · rw [if_neg (fun h => hav ((nI_eq (by omega) (by omega)).mp (this.symm.trans h.2))), if_neg hav]
    have hl1 : zlt (upd pa n (nI a)) v (n + 1) = if a = v then some n else zlt pa v n := by
      show (if _ then _ else _) = _
      rw [zlt_congr hag]
      have : (upd pa n (nI a)) n = nI a := pk_us
      by_cases hav : a = v
      · rw [if_pos ⟨by omega, by rw [this, hav]⟩, if_pos hav]
      · rw [if_neg (fun h => hav ((nI_eq (by omega) (by omega)).mp (this.symm.trans h.2))), if_neg hav]
    rw [hc1, hl1]
    by_cases h : v = n
    · subst h
      have hno : ∀ u, 0 < u → u < v → pa u ≠ nI v := fun u h0 hu e => by
        rw [hpa u h0 hu] at e
        have := (nI_eq (by have := T.lt h0 hu; omega) (by omega)).mp e
        have := T.lt h0 hu
        omega
      rw [up_eq, up_eq, if_neg (by omega), if_neg (by omega), zcc_none hno, zlt_none hno]
      exact ⟨rfl, rfl⟩
    · rw [up_ne' h, up_ne' h]
      by_cases hva : v = a
      · subst hva
        rw [up_eq, up_eq, if_pos rfl, if_pos rfl, (p9 v ha).1]
        exact ⟨rfl, rfl⟩
      · rw [up_ne' hva, up_ne' hva, if_neg (fun h => hva h.symm), if_neg (fun h => hva h.symm), (p9 v (by omega)).1, (p9 v (by omega)).2]
        refine ⟨rfl, ?_⟩
        cases hl : zlt pa v n with
        | none => rfl
        | some u =>
          have hu := zlt_some hl
          show va_rf (some (q (24 + 2 * u))) = va_rf (some (q' (24 + 2 * u)))
          rw [hq _ (by omega)]
  · rw [up_eq]
    exact p11.step hk (fun m hm => (p12 m hm).symm)
end ZNew
end
section
/-! both sides answer the same -/
/-- b is the mark that both loops look for among the marks that 'in' says: at x or beyond, least place, then least number -/
def zBest (inn : Nat → Prop) (ma : Nat → Int32) (x : Int32) (o : Option Nat) : Prop := match o with
  | none => ∀ m, inn m → ma m < x
  | some b => inn b ∧ ¬ ma b < x ∧ ∀ m, inn m → ¬ ma m < x → ma b ≤ ma m ∧ (m < b → ma b < ma m)
theorem zBest_one {inn : Nat → Prop} {ma : Nat → Int32} {x : Int32} {o o' : Option Nat} (h : zBest inn ma x o) (h' : zBest inn ma x o') : o = o' := by
  cases o with
  | none =>
    cases o' with
    | none => rfl
    | some b => exact absurd (h b h'.1) h'.2.1
  | some b =>
    cases o' with
    | none => exact absurd (h' b h.1) h.2.1
    | some b' =>
      have h1 := h.2.2 b' h'.1 h'.2.1
      have h2 := h'.2.2 b h.1 h.2.1
      by_cases hb : b < b'
      · exact absurd (h2.2 hb) (z_not_lt h1.1)
      · by_cases hb2 : b' < b
        · exact absurd (h1.2 hb2) (z_not_lt h2.1)
        · rw [show b = b' by omega]
theorem zBest_congr {inn inn' : Nat → Prop} {ma ma' : Nat → Int32} {x : Int32} {o : Option Nat} (h : zBest inn ma x o) (h1 : ∀ m, inn' m ↔ inn m) (h2 : ∀ m, inn m → ma m = ma' m) : zBest inn' ma' x o := by
  cases o with
  | none =>
    intro m hm
    rw [← h2 m ((h1 m).mp hm)]
    exact h m ((h1 m).mp hm)
  | some b =>
    obtain ⟨a1, a2, a3⟩ := h
    refine ⟨(h1 b).mpr a1, by rw [← h2 b a1]; exact a2, fun m hm hx => ?_⟩
    rw [← h2 b a1, ← h2 m ((h1 m).mp hm)]
    exact a3 m ((h1 m).mp hm) (by rw [h2 m ((h1 m).mp hm)]; exact hx)
theorem zff_best {mp : Nat → Int32} {x : Int32} : ∀ (i : Nat), zBest (fun m => m < i) mp x (zff mp x i)
  | 0 => fun m hm => absurd hm (Nat.not_lt_zero _)
  | i + 1 => by
    have ih := zff_best (mp := mp) (x := x) i
    have hz : zff mp x (i + 1) = match zff mp x i with | none => if mp i < x then none else some i | some b => if mp i < x then some b else if mp b ≤ mp i then some b else some i := rfl
    rw [hz]
    cases ho : zff mp x i with
    | none =>
      rw [ho] at ih
      by_cases h : mp i < x
      · simp only [h, if_true]
        intro m hm
        by_cases hmi : m = i
        · rw [hmi]; exact h
        · exact ih m (show m < i by have : m < i + 1 := hm; omega)
      · simp only [h, if_false]
        refine ⟨Nat.lt_succ_self i, h, fun m hm hx => ?_⟩
        by_cases hmi : m = i
        · rw [hmi]
          exact ⟨Int32.le_refl _, fun h9 => absurd h9 (Nat.lt_irrefl _)⟩
        · exact absurd (ih m (show m < i by have : m < i + 1 := hm; omega)) hx
    | some b =>
      rw [ho] at ih
      obtain ⟨a1, a2, a3⟩ := ih
      have a1 : b < i := a1
      by_cases h : mp i < x
      · simp only [h, if_true]
        refine ⟨show b < i + 1 by omega, a2, fun m hm hx => ?_⟩
        by_cases hmi : m = i
        · rw [hmi] at hx; exact absurd h hx
        · exact a3 m (show m < i by have : m < i + 1 := hm; omega) hx
      · by_cases h2 : mp b ≤ mp i
        · simp only [h, h2, if_true, if_false]
          refine ⟨show b < i + 1 by omega, a2, fun m hm hx => ?_⟩
          by_cases hmi : m = i
          · rw [hmi]
            exact ⟨h2, fun h9 => by omega⟩
          · exact a3 m (show m < i by have : m < i + 1 := hm; omega) hx
        · simp only [h, h2, if_false]
          have h3 : mp i < mp b := Int32.not_le.mp h2
          refine ⟨show i < i + 1 by omega, h, fun m hm hx => ?_⟩
          by_cases hmi : m = i
          · rw [hmi]
            exact ⟨Int32.le_refl _, fun h9 => absurd h9 (Nat.lt_irrefl _)⟩
          · have h4 := a3 m (show m < i by have : m < i + 1 := hm; omega) hx
            have h5 : mp i < mp m := Int32.lt_of_lt_of_le h3 h4.1
            exact ⟨Int32.le_of_lt h5, fun _ => h5⟩
theorem znm_best {iset ma : Nat → Int32} {x : Int32} : ∀ (d : Nat), d ≤ 6 → zBest (fun m => 6 - d ≤ m ∧ m < 6 ∧ ¬ iset m = 0) ma x (znm iset ma x d)
  | 0, _ => fun m hm => absurd hm.1 (by omega)
  | d + 1, hd => by
    have ih := znm_best (iset := iset) (ma := ma) (x := x) d (by omega)
    have hz : znm iset ma x (d + 1) = match znm iset ma x d with | none => if iset (5 - d) = 0 then none else if ma (5 - d) < x then none else some (5 - d) | some b => if iset (5 - d) = 0 then some b else if ma (5 - d) < x then some b else if ma b < ma (5 - d) then some b else some (5 - d) := rfl
    rw [hz]
    have hsp : ∀ m, (6 - (d + 1) ≤ m ∧ m < 6 ∧ ¬ iset m = 0) → m ≠ 5 - d → (6 - d ≤ m ∧ m < 6 ∧ ¬ iset m = 0) := fun m h h1 => ⟨by omega, h.2.1, h.2.2⟩
    cases ho : znm iset ma x d with
    | none =>
      rw [ho] at ih
      by_cases h0 : iset (5 - d) = 0
      · simp only [h0, if_true]
        intro m hm
        by_cases hmi : m = 5 - d
        · rw [hmi] at hm; exact absurd h0 hm.2.2
        · exact ih m (hsp m hm hmi)
      · by_cases h : ma (5 - d) < x
        · simp only [h0, h, if_true, if_false]
          intro m hm
          by_cases hmi : m = 5 - d
          · rw [hmi]; exact h
          · exact ih m (hsp m hm hmi)
        · simp only [h0, h, if_false]
          refine ⟨⟨by omega, by omega, h0⟩, h, fun m hm hx => ?_⟩
          by_cases hmi : m = 5 - d
          · rw [hmi]
            exact ⟨Int32.le_refl _, fun h9 => absurd h9 (Nat.lt_irrefl _)⟩
          · exact absurd (ih m (hsp m hm hmi)) hx
    | some b =>
      rw [ho] at ih
      obtain ⟨a1, a2, a3⟩ := ih
      have keep : zBest (fun m => 6 - (d + 1) ≤ m ∧ m < 6 ∧ ¬ iset m = 0) ma x (some b) ∨ (¬ iset (5 - d) = 0 ∧ ¬ ma (5 - d) < x) := by
        by_cases h0 : iset (5 - d) = 0
        · refine Or.inl ⟨⟨by have := a1.1; omega, a1.2⟩, a2, fun m hm hx => ?_⟩
          by_cases hmi : m = 5 - d
          · rw [hmi] at hm; exact absurd h0 hm.2.2
          · exact a3 m (hsp m hm hmi) hx
        · by_cases h : ma (5 - d) < x
          · refine Or.inl ⟨⟨by have := a1.1; omega, a1.2⟩, a2, fun m hm hx => ?_⟩
            by_cases hmi : m = 5 - d
            · rw [hmi] at hx; exact absurd h hx
            · exact a3 m (hsp m hm hmi) hx
          · exact Or.inr ⟨h0, h⟩
      by_cases h0 : iset (5 - d) = 0
      · simp only [h0, if_true]
        exact keep.resolve_right (fun h => h.1 h0)
      · by_cases h : ma (5 - d) < x
        · simp only [h0, h, if_true, if_false]
          exact keep.resolve_right (fun h9 => h9.2 h)
        · by_cases h2 : ma b < ma (5 - d)
          · simp only [h0, h, h2, if_true, if_false]
            refine ⟨⟨by have := a1.1; omega, a1.2⟩, a2, fun m hm hx => ?_⟩
            by_cases hmi : m = 5 - d
            · rw [hmi]
              exact ⟨Int32.le_of_lt h2, fun _ => h2⟩
            · exact a3 m (hsp m hm hmi) hx
          · simp only [h0, h, h2, if_false]
            have h3 : ma (5 - d) ≤ ma b := Int32.not_lt.mp h2
            refine ⟨⟨by omega, by omega, h0⟩, h, fun m hm hx => ?_⟩
            by_cases hmi : m = 5 - d
            · rw [hmi]
              exact ⟨Int32.le_refl _, fun h9 => absurd h9 (Nat.lt_irrefl _)⟩
            · have h4 := a3 m (hsp m hm hmi) hx
              exact ⟨Int32.le_trans h3 h4.1, fun h9 => by have := hm.1; omega⟩
theorem z_next {sz p : Nat} {iset ma mp : Nat → Int32} (h : zMk sz iset ma mp) (hs : sz ≤ 2000) (hp : p ≤ 2000) : zff mp (nI p) 6 = znm iset ma (nI p) 6 := by
  have h1 := zff_best (mp := mp) (x := nI p) 6
  have h2 := znm_best (iset := iset) (ma := ma) (x := nI p) 6 (Nat.le_refl _)
  have hm1 : (-1 : Int32) < nI p := z_m1_lt (by omega)
  have fact : ∀ m, m < 6 → (¬ iset m = 0 ∧ mp m = ma m) ∨ (iset m = 0 ∧ mp m < nI p) := fun m hm => by
    obtain ⟨a, ha, e1, e2⟩ := h m hm
    rcases e2 with ⟨e3, e4⟩ | ⟨e3, e4⟩
    · exact Or.inl ⟨by rw [e3]; decide, by rw [e4, e1]⟩
    · exact Or.inr ⟨by rw [e3]; rfl, by rw [e4]; exact hm1⟩
  refine zBest_one (inn := fun m => 6 - 6 ≤ m ∧ m < 6 ∧ ¬ iset m = 0) (ma := ma) (x := nI p) ?_ h2
  cases ho : zff mp (nI p) 6 with
  | none =>
    rw [ho] at h1
    intro m hm
    rcases fact m hm.2.1 with h9 | h9
    · rw [← h9.2]; exact h1 m hm.2.1
    · exact absurd h9.1 hm.2.2
  | some b =>
    rw [ho] at h1
    obtain ⟨a1, a2, a3⟩ := h1
    have a1 : b < 6 := a1
    rcases fact b a1 with hb | hb
    · refine ⟨⟨by omega, a1, hb.1⟩, by rw [← hb.2]; exact a2, fun m hm hx => ?_⟩
      rcases fact m hm.2.1 with h9 | h9
      · rw [← hb.2, ← h9.2]
        exact a3 m hm.2.1 (by rw [h9.2]; exact hx)
      · exact absurd h9.1 hm.2.2
    · exact absurd hb.2 a2
/-- lineStart: the class's answer and the reference's -/
theorem z_ls {g g' : Nat → Int32} {sz k : Nat} {r r' : Int32} (hk : k < 2 ^ 31) (hs : sz ≤ 2000) (hg : ∀ i, i < sz → g i = g' i) (h : zLS g sz k r) (h' : zLSx g' sz (nI k) r') : r = r' := by
  have e : ∀ p, p ≤ sz → znl g p = znl g' p := fun p hp => znl_congr (fun i hi => hg i (by omega))
  have w : ∀ p, p ≤ sz → (nI (znl g' p) = nI k ↔ znl g p = k) := fun p hp => by
    rw [← e p hp]
    have := znl_le g p
    exact nI_eq (by omega) hk
  rcases h with ⟨p, h1, rfl, h2, h3⟩ | ⟨rfl, h3⟩ <;> rcases h' with ⟨p', h1', rfl, h2', h3'⟩ | ⟨rfl, h3'⟩
  · by_cases ha : p < p'
    · exact absurd ((w p h1).mpr h2) (h3' p ha)
    · by_cases hb : p' < p
      · exact absurd ((w p' h1').mp h2') (h3 p' hb)
      · rw [show p = p' by omega]
  · exact absurd ((w p h1).mpr h2) (h3' p h1)
  · exact absurd ((w p' h1').mp h2') (h3 p' h1')
  · rfl
theorem z_ls0 {g : Nat → Int32} {sz : Nat} {r : Int32} (h : zLSx g sz (nI 0) r) : r = nI 0 := by
  rcases h with ⟨p, h1, rfl, h2, h3⟩ | ⟨rfl, h3⟩
  · by_cases hp : p = 0
    · rw [hp]
    · exact absurd rfl (h3 0 (by omega))
  · exact absurd rfl (h3 0 (by omega))
theorem z_lsn {g : Nat → Int32} {sz : Nat} {x r : Int32} (hx : x < 0) (hs : sz ≤ 2000) (h : zLSx g sz x r) : r = -1 := by
  rcases h with ⟨p, h1, rfl, h2, h3⟩ | ⟨rfl, h3⟩
  · have := znl_le g p
    exact absurd (h2 ▸ hx) (nI_pos (by omega))
  · rfl
theorem z_fnd {g g' s s' : Nat → Int32} {sz k p0 : Nat} {r r' : Int32} (hg : ∀ i, i < sz → g i = g' i) (hss : ∀ i, i < k → s i = s' i) (h : zFnd g sz s k p0 r) (h' : zFnd g' sz s' k p0 r') : r = r' := by
  have e : ∀ p, zHit g sz s k p ↔ zHit g' sz s' k p := fun p => by
    constructor
    · rintro ⟨h1, h2⟩
      exact ⟨h1, fun a ha => by rw [← hg _ (by omega), ← hss a ha]; exact h2 a ha⟩
    · rintro ⟨h1, h2⟩
      exact ⟨h1, fun a ha => by rw [hg _ (by omega), hss a ha]; exact h2 a ha⟩
  refine zFnd_one (g := g) (sz := sz) (s := s) (k := k) (p0 := p0) h ?_
  rcases h' with ⟨p, a1, a2, a3, a4⟩ | ⟨a1, a2⟩
  · exact Or.inl ⟨p, a1, (e p).mpr a2, a3, fun p' b1 b2 b3 => a4 p' b1 b2 ((e p').mp b3)⟩
  · exact Or.inr ⟨a1, fun p' b1 b2 => a2 p' b1 ((e p').mp b2)⟩
end
section
theorem d_L_law_0 : decode code 0 = .ok (.new 7, 3) := by decide +kernel
theorem d_L_law_3 : decode code 3 = .ok (.dup, 1) := by decide +kernel
theorem d_L_law_4 : decode code 4 = .ok (.invokespecial 9, 3) := by decide +kernel
theorem d_L_law_7 : decode code 7 = .ok (.astore_n 1, 1) := by decide +kernel
theorem d_L_law_8 : decode code 8 = .ok (.new 10, 3) := by decide +kernel
theorem d_L_law_11 : decode code 11 = .ok (.dup, 1) := by decide +kernel
theorem d_L_law_12 : decode code 12 = .ok (.invokespecial 12, 3) := by decide +kernel
theorem d_L_law_15 : decode code 15 = .ok (.astore_n 2, 1) := by decide +kernel
theorem d_L_law_16 : decode code 16 = .ok (.iconst 0, 1) := by decide +kernel
theorem d_L_law_17 : decode code 17 = .ok (.istore_n 3, 1) := by decide +kernel
theorem d_L_law_18 : decode code 18 = .ok (.iload_n 3, 1) := by decide +kernel
theorem d_L_law_19 : decode code 19 = .ok (.aload_n 0, 1) := by decide +kernel
theorem d_L_law_20 : decode code 20 = .ok (.arraylength, 1) := by decide +kernel
theorem d_L_law_21 : decode code 21 = .ok (.iconst 4, 1) := by decide +kernel
theorem d_L_law_22 : decode code 22 = .ok (.isub, 1) := by decide +kernel
theorem d_L_law_23 : decode code 23 = .ok (.if_icmp .gt 628, 3) := by decide +kernel
theorem d_L_law_26 : decode code 26 = .ok (.aload_n 0, 1) := by decide +kernel
theorem d_L_law_27 : decode code 27 = .ok (.iload_n 3, 1) := by decide +kernel
theorem d_L_law_28 : decode code 28 = .ok (.iaload, 1) := by decide +kernel
theorem d_L_law_29 : decode code 29 = .ok (.bipush 31, 2) := by decide +kernel
theorem d_L_law_31 : decode code 31 = .ok (.iand, 1) := by decide +kernel
theorem d_L_law_32 : decode code 32 = .ok (.tableswitch 613 0 22 #[108, 133, 144, 157, 190, 213, 246, 259, 272, 295, 308, 321, 344, 367, 380, 403, 416, 439, 462, 485, 544, 567, 590], 108) := by decide +kernel
theorem d_L_law_140 : decode code 140 = .ok (.aload_n 1, 1) := by decide +kernel
theorem d_L_law_141 : decode code 141 = .ok (.aload_n 0, 1) := by decide +kernel
theorem d_L_law_142 : decode code 142 = .ok (.iload_n 3, 1) := by decide +kernel
theorem d_L_law_143 : decode code 143 = .ok (.iconst 1, 1) := by decide +kernel
theorem d_L_law_144 : decode code 144 = .ok (.iadd, 1) := by decide +kernel
theorem d_L_law_145 : decode code 145 = .ok (.iaload, 1) := by decide +kernel
theorem d_L_law_146 : decode code 146 = .ok (.i2c, 1) := by decide +kernel
theorem d_L_law_147 : decode code 147 = .ok (.invokevirtual 13, 3) := by decide +kernel
theorem d_L_law_150 : decode code 150 = .ok (.aload_n 2, 1) := by decide +kernel
theorem d_L_law_151 : decode code 151 = .ok (.aload_n 0, 1) := by decide +kernel
theorem d_L_law_152 : decode code 152 = .ok (.iload_n 3, 1) := by decide +kernel
theorem d_L_law_153 : decode code 153 = .ok (.iconst 1, 1) := by decide +kernel
theorem d_L_law_154 : decode code 154 = .ok (.iadd, 1) := by decide +kernel
theorem d_L_law_155 : decode code 155 = .ok (.iaload, 1) := by decide +kernel
theorem d_L_law_156 : decode code 156 = .ok (.i2c, 1) := by decide +kernel
theorem d_L_law_157 : decode code 157 = .ok (.invokevirtual 17, 3) := by decide +kernel
theorem d_L_law_160 : decode code 160 = .ok (.if_icmp .eq 485, 3) := by decide +kernel
theorem d_L_law_163 : decode code 163 = .ok (.iconst 0, 1) := by decide +kernel
theorem d_L_law_164 : decode code 164 = .ok (.ireturn, 1) := by decide +kernel
theorem d_L_law_165 : decode code 165 = .ok (.aload_n 1, 1) := by decide +kernel
theorem d_L_law_166 : decode code 166 = .ok (.invokevirtual 18, 3) := by decide +kernel
theorem d_L_law_169 : decode code 169 = .ok (.aload_n 2, 1) := by decide +kernel
theorem d_L_law_170 : decode code 170 = .ok (.invokevirtual 21, 3) := by decide +kernel
theorem d_L_law_173 : decode code 173 = .ok (.goto 472, 3) := by decide +kernel
theorem d_L_law_176 : decode code 176 = .ok (.aload_n 1, 1) := by decide +kernel
theorem d_L_law_177 : decode code 177 = .ok (.invokevirtual 22, 3) := by decide +kernel
theorem d_L_law_180 : decode code 180 = .ok (.aload_n 2, 1) := by decide +kernel
theorem d_L_law_181 : decode code 181 = .ok (.invokevirtual 26, 3) := by decide +kernel
theorem d_L_law_184 : decode code 184 = .ok (.if_icmp .eq 461, 3) := by decide +kernel
theorem d_L_law_187 : decode code 187 = .ok (.iconst 0, 1) := by decide +kernel
theorem d_L_law_188 : decode code 188 = .ok (.ireturn, 1) := by decide +kernel
theorem d_L_law_189 : decode code 189 = .ok (.aload_n 1, 1) := by decide +kernel
theorem d_L_law_190 : decode code 190 = .ok (.aload_n 0, 1) := by decide +kernel
theorem d_L_law_191 : decode code 191 = .ok (.iload_n 3, 1) := by decide +kernel
theorem d_L_law_192 : decode code 192 = .ok (.iconst 1, 1) := by decide +kernel
theorem d_L_law_193 : decode code 193 = .ok (.iadd, 1) := by decide +kernel
theorem d_L_law_194 : decode code 194 = .ok (.iaload, 1) := by decide +kernel
theorem d_L_law_195 : decode code 195 = .ok (.aload_n 0, 1) := by decide +kernel
theorem d_L_law_196 : decode code 196 = .ok (.iload_n 3, 1) := by decide +kernel
theorem d_L_law_197 : decode code 197 = .ok (.iconst 2, 1) := by decide +kernel
theorem d_L_law_198 : decode code 198 = .ok (.iadd, 1) := by decide +kernel
theorem d_L_law_199 : decode code 199 = .ok (.iaload, 1) := by decide +kernel
theorem d_L_law_200 : decode code 200 = .ok (.invokevirtual 27, 3) := by decide +kernel
theorem d_L_law_203 : decode code 203 = .ok (.aload_n 2, 1) := by decide +kernel
theorem d_L_law_204 : decode code 204 = .ok (.aload_n 0, 1) := by decide +kernel
theorem d_L_law_205 : decode code 205 = .ok (.iload_n 3, 1) := by decide +kernel
theorem d_L_law_206 : decode code 206 = .ok (.iconst 1, 1) := by decide +kernel
theorem d_L_law_207 : decode code 207 = .ok (.iadd, 1) := by decide +kernel
theorem d_L_law_208 : decode code 208 = .ok (.iaload, 1) := by decide +kernel
theorem d_L_law_209 : decode code 209 = .ok (.aload_n 0, 1) := by decide +kernel
theorem d_L_law_210 : decode code 210 = .ok (.iload_n 3, 1) := by decide +kernel
theorem d_L_law_211 : decode code 211 = .ok (.iconst 2, 1) := by decide +kernel
theorem d_L_law_212 : decode code 212 = .ok (.iadd, 1) := by decide +kernel
theorem d_L_law_213 : decode code 213 = .ok (.iaload, 1) := by decide +kernel
theorem d_L_law_214 : decode code 214 = .ok (.invokevirtual 31, 3) := by decide +kernel
theorem d_L_law_217 : decode code 217 = .ok (.if_icmp .eq 428, 3) := by decide +kernel
theorem d_L_law_220 : decode code 220 = .ok (.iconst 0, 1) := by decide +kernel
theorem d_L_law_221 : decode code 221 = .ok (.ireturn, 1) := by decide +kernel
theorem d_L_law_222 : decode code 222 = .ok (.aload_n 1, 1) := by decide +kernel
theorem d_L_law_223 : decode code 223 = .ok (.aload_n 0, 1) := by decide +kernel
theorem d_L_law_224 : decode code 224 = .ok (.iload_n 3, 1) := by decide +kernel
theorem d_L_law_225 : decode code 225 = .ok (.iconst 1, 1) := by decide +kernel
theorem d_L_law_226 : decode code 226 = .ok (.iadd, 1) := by decide +kernel
theorem d_L_law_227 : decode code 227 = .ok (.iaload, 1) := by decide +kernel
theorem d_L_law_228 : decode code 228 = .ok (.invokevirtual 32, 3) := by decide +kernel
theorem d_L_law_231 : decode code 231 = .ok (.aload_n 2, 1) := by decide +kernel
theorem d_L_law_232 : decode code 232 = .ok (.aload_n 0, 1) := by decide +kernel
theorem d_L_law_233 : decode code 233 = .ok (.iload_n 3, 1) := by decide +kernel
theorem d_L_law_234 : decode code 234 = .ok (.iconst 1, 1) := by decide +kernel
theorem d_L_law_235 : decode code 235 = .ok (.iadd, 1) := by decide +kernel
theorem d_L_law_236 : decode code 236 = .ok (.iaload, 1) := by decide +kernel
theorem d_L_law_237 : decode code 237 = .ok (.invokevirtual 36, 3) := by decide +kernel
theorem d_L_law_240 : decode code 240 = .ok (.if_icmp .eq 405, 3) := by decide +kernel
theorem d_L_law_243 : decode code 243 = .ok (.iconst 0, 1) := by decide +kernel
theorem d_L_law_244 : decode code 244 = .ok (.ireturn, 1) := by decide +kernel
theorem d_L_law_245 : decode code 245 = .ok (.aload_n 1, 1) := by decide +kernel
theorem d_L_law_246 : decode code 246 = .ok (.aload_n 0, 1) := by decide +kernel
theorem d_L_law_247 : decode code 247 = .ok (.iload_n 3, 1) := by decide +kernel
end
section
theorem d_L_law_248 : decode code 248 = .ok (.iconst 1, 1) := by decide +kernel
theorem d_L_law_249 : decode code 249 = .ok (.iadd, 1) := by decide +kernel
theorem d_L_law_250 : decode code 250 = .ok (.iaload, 1) := by decide +kernel
theorem d_L_law_251 : decode code 251 = .ok (.aload_n 0, 1) := by decide +kernel
theorem d_L_law_252 : decode code 252 = .ok (.iload_n 3, 1) := by decide +kernel
theorem d_L_law_253 : decode code 253 = .ok (.iconst 2, 1) := by decide +kernel
theorem d_L_law_254 : decode code 254 = .ok (.iadd, 1) := by decide +kernel
theorem d_L_law_255 : decode code 255 = .ok (.iaload, 1) := by decide +kernel
theorem d_L_law_256 : decode code 256 = .ok (.invokevirtual 37, 3) := by decide +kernel
theorem d_L_law_259 : decode code 259 = .ok (.aload_n 2, 1) := by decide +kernel
theorem d_L_law_260 : decode code 260 = .ok (.aload_n 0, 1) := by decide +kernel
theorem d_L_law_261 : decode code 261 = .ok (.iload_n 3, 1) := by decide +kernel
theorem d_L_law_262 : decode code 262 = .ok (.iconst 1, 1) := by decide +kernel
theorem d_L_law_263 : decode code 263 = .ok (.iadd, 1) := by decide +kernel
theorem d_L_law_264 : decode code 264 = .ok (.iaload, 1) := by decide +kernel
theorem d_L_law_265 : decode code 265 = .ok (.aload_n 0, 1) := by decide +kernel
theorem d_L_law_266 : decode code 266 = .ok (.iload_n 3, 1) := by decide +kernel
theorem d_L_law_267 : decode code 267 = .ok (.iconst 2, 1) := by decide +kernel
theorem d_L_law_268 : decode code 268 = .ok (.iadd, 1) := by decide +kernel
theorem d_L_law_269 : decode code 269 = .ok (.iaload, 1) := by decide +kernel
theorem d_L_law_270 : decode code 270 = .ok (.invokevirtual 40, 3) := by decide +kernel
theorem d_L_law_273 : decode code 273 = .ok (.if_icmp .eq 372, 3) := by decide +kernel
theorem d_L_law_276 : decode code 276 = .ok (.iconst 0, 1) := by decide +kernel
theorem d_L_law_277 : decode code 277 = .ok (.ireturn, 1) := by decide +kernel
theorem d_L_law_278 : decode code 278 = .ok (.aload_n 1, 1) := by decide +kernel
theorem d_L_law_279 : decode code 279 = .ok (.invokevirtual 41, 3) := by decide +kernel
theorem d_L_law_282 : decode code 282 = .ok (.aload_n 2, 1) := by decide +kernel
theorem d_L_law_283 : decode code 283 = .ok (.invokevirtual 44, 3) := by decide +kernel
theorem d_L_law_286 : decode code 286 = .ok (.if_icmp .eq 359, 3) := by decide +kernel
theorem d_L_law_289 : decode code 289 = .ok (.iconst 0, 1) := by decide +kernel
theorem d_L_law_290 : decode code 290 = .ok (.ireturn, 1) := by decide +kernel
theorem d_L_law_291 : decode code 291 = .ok (.aload_n 1, 1) := by decide +kernel
theorem d_L_law_292 : decode code 292 = .ok (.invokevirtual 45, 3) := by decide +kernel
theorem d_L_law_295 : decode code 295 = .ok (.aload_n 2, 1) := by decide +kernel
theorem d_L_law_296 : decode code 296 = .ok (.invokevirtual 48, 3) := by decide +kernel
theorem d_L_law_299 : decode code 299 = .ok (.if_icmp .eq 346, 3) := by decide +kernel
theorem d_L_law_302 : decode code 302 = .ok (.iconst 0, 1) := by decide +kernel
theorem d_L_law_303 : decode code 303 = .ok (.ireturn, 1) := by decide +kernel
theorem d_L_law_304 : decode code 304 = .ok (.aload_n 1, 1) := by decide +kernel
theorem d_L_law_305 : decode code 305 = .ok (.aload_n 0, 1) := by decide +kernel
theorem d_L_law_306 : decode code 306 = .ok (.iload_n 3, 1) := by decide +kernel
theorem d_L_law_307 : decode code 307 = .ok (.iconst 1, 1) := by decide +kernel
theorem d_L_law_308 : decode code 308 = .ok (.iadd, 1) := by decide +kernel
theorem d_L_law_309 : decode code 309 = .ok (.iaload, 1) := by decide +kernel
theorem d_L_law_310 : decode code 310 = .ok (.invokevirtual 49, 3) := by decide +kernel
theorem d_L_law_313 : decode code 313 = .ok (.aload_n 2, 1) := by decide +kernel
theorem d_L_law_314 : decode code 314 = .ok (.aload_n 0, 1) := by decide +kernel
theorem d_L_law_315 : decode code 315 = .ok (.iload_n 3, 1) := by decide +kernel
theorem d_L_law_316 : decode code 316 = .ok (.iconst 1, 1) := by decide +kernel
theorem d_L_law_317 : decode code 317 = .ok (.iadd, 1) := by decide +kernel
theorem d_L_law_318 : decode code 318 = .ok (.iaload, 1) := by decide +kernel
theorem d_L_law_319 : decode code 319 = .ok (.invokevirtual 52, 3) := by decide +kernel
theorem d_L_law_322 : decode code 322 = .ok (.if_icmp .eq 323, 3) := by decide +kernel
theorem d_L_law_325 : decode code 325 = .ok (.iconst 0, 1) := by decide +kernel
theorem d_L_law_326 : decode code 326 = .ok (.ireturn, 1) := by decide +kernel
theorem d_L_law_327 : decode code 327 = .ok (.aload_n 1, 1) := by decide +kernel
theorem d_L_law_328 : decode code 328 = .ok (.invokevirtual 53, 3) := by decide +kernel
theorem d_L_law_331 : decode code 331 = .ok (.aload_n 2, 1) := by decide +kernel
theorem d_L_law_332 : decode code 332 = .ok (.invokevirtual 56, 3) := by decide +kernel
theorem d_L_law_335 : decode code 335 = .ok (.if_icmp .eq 310, 3) := by decide +kernel
theorem d_L_law_338 : decode code 338 = .ok (.iconst 0, 1) := by decide +kernel
theorem d_L_law_339 : decode code 339 = .ok (.ireturn, 1) := by decide +kernel
theorem d_L_law_340 : decode code 340 = .ok (.aload_n 1, 1) := by decide +kernel
theorem d_L_law_341 : decode code 341 = .ok (.invokevirtual 57, 3) := by decide +kernel
theorem d_L_law_344 : decode code 344 = .ok (.aload_n 2, 1) := by decide +kernel
theorem d_L_law_345 : decode code 345 = .ok (.invokevirtual 60, 3) := by decide +kernel
theorem d_L_law_348 : decode code 348 = .ok (.if_icmp .eq 297, 3) := by decide +kernel
theorem d_L_law_351 : decode code 351 = .ok (.iconst 0, 1) := by decide +kernel
theorem d_L_law_352 : decode code 352 = .ok (.ireturn, 1) := by decide +kernel
theorem d_L_law_353 : decode code 353 = .ok (.aload_n 1, 1) := by decide +kernel
theorem d_L_law_354 : decode code 354 = .ok (.aload_n 0, 1) := by decide +kernel
theorem d_L_law_355 : decode code 355 = .ok (.iload_n 3, 1) := by decide +kernel
theorem d_L_law_356 : decode code 356 = .ok (.iconst 1, 1) := by decide +kernel
theorem d_L_law_357 : decode code 357 = .ok (.iadd, 1) := by decide +kernel
theorem d_L_law_358 : decode code 358 = .ok (.iaload, 1) := by decide +kernel
theorem d_L_law_359 : decode code 359 = .ok (.invokevirtual 61, 3) := by decide +kernel
theorem d_L_law_362 : decode code 362 = .ok (.aload_n 2, 1) := by decide +kernel
theorem d_L_law_363 : decode code 363 = .ok (.aload_n 0, 1) := by decide +kernel
theorem d_L_law_364 : decode code 364 = .ok (.iload_n 3, 1) := by decide +kernel
theorem d_L_law_365 : decode code 365 = .ok (.iconst 1, 1) := by decide +kernel
theorem d_L_law_366 : decode code 366 = .ok (.iadd, 1) := by decide +kernel
theorem d_L_law_367 : decode code 367 = .ok (.iaload, 1) := by decide +kernel
theorem d_L_law_368 : decode code 368 = .ok (.invokevirtual 64, 3) := by decide +kernel
theorem d_L_law_371 : decode code 371 = .ok (.if_icmp .eq 274, 3) := by decide +kernel
theorem d_L_law_374 : decode code 374 = .ok (.iconst 0, 1) := by decide +kernel
theorem d_L_law_375 : decode code 375 = .ok (.ireturn, 1) := by decide +kernel
theorem d_L_law_376 : decode code 376 = .ok (.aload_n 1, 1) := by decide +kernel
theorem d_L_law_377 : decode code 377 = .ok (.aload_n 0, 1) := by decide +kernel
theorem d_L_law_378 : decode code 378 = .ok (.iload_n 3, 1) := by decide +kernel
theorem d_L_law_379 : decode code 379 = .ok (.iconst 1, 1) := by decide +kernel
theorem d_L_law_380 : decode code 380 = .ok (.iadd, 1) := by decide +kernel
theorem d_L_law_381 : decode code 381 = .ok (.iaload, 1) := by decide +kernel
theorem d_L_law_382 : decode code 382 = .ok (.invokevirtual 65, 3) := by decide +kernel
theorem d_L_law_385 : decode code 385 = .ok (.aload_n 2, 1) := by decide +kernel
theorem d_L_law_386 : decode code 386 = .ok (.aload_n 0, 1) := by decide +kernel
theorem d_L_law_387 : decode code 387 = .ok (.iload_n 3, 1) := by decide +kernel
theorem d_L_law_388 : decode code 388 = .ok (.iconst 1, 1) := by decide +kernel
theorem d_L_law_389 : decode code 389 = .ok (.iadd, 1) := by decide +kernel
theorem d_L_law_390 : decode code 390 = .ok (.iaload, 1) := by decide +kernel
theorem d_L_law_391 : decode code 391 = .ok (.invokevirtual 68, 3) := by decide +kernel
end
section
theorem d_L_law_394 : decode code 394 = .ok (.if_icmp .eq 251, 3) := by decide +kernel
theorem d_L_law_397 : decode code 397 = .ok (.iconst 0, 1) := by decide +kernel
theorem d_L_law_398 : decode code 398 = .ok (.ireturn, 1) := by decide +kernel
theorem d_L_law_399 : decode code 399 = .ok (.aload_n 1, 1) := by decide +kernel
theorem d_L_law_400 : decode code 400 = .ok (.invokevirtual 69, 3) := by decide +kernel
theorem d_L_law_403 : decode code 403 = .ok (.aload_n 2, 1) := by decide +kernel
theorem d_L_law_404 : decode code 404 = .ok (.invokevirtual 72, 3) := by decide +kernel
theorem d_L_law_407 : decode code 407 = .ok (.if_icmp .eq 238, 3) := by decide +kernel
theorem d_L_law_410 : decode code 410 = .ok (.iconst 0, 1) := by decide +kernel
theorem d_L_law_411 : decode code 411 = .ok (.ireturn, 1) := by decide +kernel
theorem d_L_law_412 : decode code 412 = .ok (.aload_n 1, 1) := by decide +kernel
theorem d_L_law_413 : decode code 413 = .ok (.aload_n 0, 1) := by decide +kernel
theorem d_L_law_414 : decode code 414 = .ok (.iload_n 3, 1) := by decide +kernel
theorem d_L_law_415 : decode code 415 = .ok (.iconst 1, 1) := by decide +kernel
theorem d_L_law_416 : decode code 416 = .ok (.iadd, 1) := by decide +kernel
theorem d_L_law_417 : decode code 417 = .ok (.iaload, 1) := by decide +kernel
theorem d_L_law_418 : decode code 418 = .ok (.invokevirtual 73, 3) := by decide +kernel
theorem d_L_law_421 : decode code 421 = .ok (.aload_n 2, 1) := by decide +kernel
theorem d_L_law_422 : decode code 422 = .ok (.aload_n 0, 1) := by decide +kernel
theorem d_L_law_423 : decode code 423 = .ok (.iload_n 3, 1) := by decide +kernel
theorem d_L_law_424 : decode code 424 = .ok (.iconst 1, 1) := by decide +kernel
theorem d_L_law_425 : decode code 425 = .ok (.iadd, 1) := by decide +kernel
theorem d_L_law_426 : decode code 426 = .ok (.iaload, 1) := by decide +kernel
theorem d_L_law_427 : decode code 427 = .ok (.invokevirtual 77, 3) := by decide +kernel
theorem d_L_law_430 : decode code 430 = .ok (.if_icmp .eq 215, 3) := by decide +kernel
theorem d_L_law_433 : decode code 433 = .ok (.iconst 0, 1) := by decide +kernel
theorem d_L_law_434 : decode code 434 = .ok (.ireturn, 1) := by decide +kernel
theorem d_L_law_435 : decode code 435 = .ok (.aload_n 1, 1) := by decide +kernel
theorem d_L_law_436 : decode code 436 = .ok (.invokevirtual 78, 3) := by decide +kernel
theorem d_L_law_439 : decode code 439 = .ok (.aload_n 2, 1) := by decide +kernel
theorem d_L_law_440 : decode code 440 = .ok (.invokevirtual 81, 3) := by decide +kernel
theorem d_L_law_443 : decode code 443 = .ok (.if_icmp .eq 202, 3) := by decide +kernel
theorem d_L_law_446 : decode code 446 = .ok (.iconst 0, 1) := by decide +kernel
theorem d_L_law_447 : decode code 447 = .ok (.ireturn, 1) := by decide +kernel
theorem d_L_law_448 : decode code 448 = .ok (.aload_n 1, 1) := by decide +kernel
theorem d_L_law_449 : decode code 449 = .ok (.aload_n 0, 1) := by decide +kernel
theorem d_L_law_450 : decode code 450 = .ok (.iload_n 3, 1) := by decide +kernel
theorem d_L_law_451 : decode code 451 = .ok (.iconst 1, 1) := by decide +kernel
theorem d_L_law_452 : decode code 452 = .ok (.iadd, 1) := by decide +kernel
theorem d_L_law_453 : decode code 453 = .ok (.iaload, 1) := by decide +kernel
theorem d_L_law_454 : decode code 454 = .ok (.invokevirtual 82, 3) := by decide +kernel
theorem d_L_law_457 : decode code 457 = .ok (.aload_n 2, 1) := by decide +kernel
theorem d_L_law_458 : decode code 458 = .ok (.aload_n 0, 1) := by decide +kernel
theorem d_L_law_459 : decode code 459 = .ok (.iload_n 3, 1) := by decide +kernel
theorem d_L_law_460 : decode code 460 = .ok (.iconst 1, 1) := by decide +kernel
theorem d_L_law_461 : decode code 461 = .ok (.iadd, 1) := by decide +kernel
theorem d_L_law_462 : decode code 462 = .ok (.iaload, 1) := by decide +kernel
theorem d_L_law_463 : decode code 463 = .ok (.invokevirtual 85, 3) := by decide +kernel
theorem d_L_law_466 : decode code 466 = .ok (.if_icmp .eq 179, 3) := by decide +kernel
theorem d_L_law_469 : decode code 469 = .ok (.iconst 0, 1) := by decide +kernel
theorem d_L_law_470 : decode code 470 = .ok (.ireturn, 1) := by decide +kernel
theorem d_L_law_471 : decode code 471 = .ok (.aload_n 1, 1) := by decide +kernel
theorem d_L_law_472 : decode code 472 = .ok (.aload_n 0, 1) := by decide +kernel
theorem d_L_law_473 : decode code 473 = .ok (.iload_n 3, 1) := by decide +kernel
theorem d_L_law_474 : decode code 474 = .ok (.iconst 1, 1) := by decide +kernel
theorem d_L_law_475 : decode code 475 = .ok (.iadd, 1) := by decide +kernel
theorem d_L_law_476 : decode code 476 = .ok (.iaload, 1) := by decide +kernel
theorem d_L_law_477 : decode code 477 = .ok (.invokevirtual 86, 3) := by decide +kernel
theorem d_L_law_480 : decode code 480 = .ok (.aload_n 2, 1) := by decide +kernel
theorem d_L_law_481 : decode code 481 = .ok (.aload_n 0, 1) := by decide +kernel
theorem d_L_law_482 : decode code 482 = .ok (.iload_n 3, 1) := by decide +kernel
theorem d_L_law_483 : decode code 483 = .ok (.iconst 1, 1) := by decide +kernel
theorem d_L_law_484 : decode code 484 = .ok (.iadd, 1) := by decide +kernel
theorem d_L_law_485 : decode code 485 = .ok (.iaload, 1) := by decide +kernel
theorem d_L_law_486 : decode code 486 = .ok (.invokevirtual 89, 3) := by decide +kernel
theorem d_L_law_489 : decode code 489 = .ok (.if_icmp .eq 156, 3) := by decide +kernel
theorem d_L_law_492 : decode code 492 = .ok (.iconst 0, 1) := by decide +kernel
theorem d_L_law_493 : decode code 493 = .ok (.ireturn, 1) := by decide +kernel
theorem d_L_law_494 : decode code 494 = .ok (.aload_n 1, 1) := by decide +kernel
theorem d_L_law_495 : decode code 495 = .ok (.aload_n 0, 1) := by decide +kernel
theorem d_L_law_496 : decode code 496 = .ok (.iload_n 3, 1) := by decide +kernel
theorem d_L_law_497 : decode code 497 = .ok (.iconst 1, 1) := by decide +kernel
theorem d_L_law_498 : decode code 498 = .ok (.iadd, 1) := by decide +kernel
theorem d_L_law_499 : decode code 499 = .ok (.iaload, 1) := by decide +kernel
theorem d_L_law_500 : decode code 500 = .ok (.invokevirtual 90, 3) := by decide +kernel
theorem d_L_law_503 : decode code 503 = .ok (.aload_n 2, 1) := by decide +kernel
theorem d_L_law_504 : decode code 504 = .ok (.aload_n 0, 1) := by decide +kernel
theorem d_L_law_505 : decode code 505 = .ok (.iload_n 3, 1) := by decide +kernel
theorem d_L_law_506 : decode code 506 = .ok (.iconst 1, 1) := by decide +kernel
theorem d_L_law_507 : decode code 507 = .ok (.iadd, 1) := by decide +kernel
theorem d_L_law_508 : decode code 508 = .ok (.iaload, 1) := by decide +kernel
theorem d_L_law_509 : decode code 509 = .ok (.invokevirtual 93, 3) := by decide +kernel
theorem d_L_law_512 : decode code 512 = .ok (.if_icmp .eq 133, 3) := by decide +kernel
theorem d_L_law_515 : decode code 515 = .ok (.iconst 0, 1) := by decide +kernel
theorem d_L_law_516 : decode code 516 = .ok (.ireturn, 1) := by decide +kernel
theorem d_L_law_517 : decode code 517 = .ok (.aload_n 1, 1) := by decide +kernel
theorem d_L_law_518 : decode code 518 = .ok (.aload_n 0, 1) := by decide +kernel
theorem d_L_law_519 : decode code 519 = .ok (.iload_n 3, 1) := by decide +kernel
theorem d_L_law_520 : decode code 520 = .ok (.iconst 1, 1) := by decide +kernel
theorem d_L_law_521 : decode code 521 = .ok (.iadd, 1) := by decide +kernel
theorem d_L_law_522 : decode code 522 = .ok (.iaload, 1) := by decide +kernel
theorem d_L_law_523 : decode code 523 = .ok (.aload_n 0, 1) := by decide +kernel
theorem d_L_law_524 : decode code 524 = .ok (.iload_n 3, 1) := by decide +kernel
theorem d_L_law_525 : decode code 525 = .ok (.iconst 2, 1) := by decide +kernel
theorem d_L_law_526 : decode code 526 = .ok (.iadd, 1) := by decide +kernel
theorem d_L_law_527 : decode code 527 = .ok (.iaload, 1) := by decide +kernel
theorem d_L_law_528 : decode code 528 = .ok (.aload_n 0, 1) := by decide +kernel
theorem d_L_law_529 : decode code 529 = .ok (.iload_n 3, 1) := by decide +kernel
theorem d_L_law_530 : decode code 530 = .ok (.iconst 3, 1) := by decide +kernel
theorem d_L_law_531 : decode code 531 = .ok (.iadd, 1) := by decide +kernel
end
section
theorem d_L_law_532 : decode code 532 = .ok (.iaload, 1) := by decide +kernel
theorem d_L_law_533 : decode code 533 = .ok (.ifCond .eq 7, 3) := by decide +kernel
theorem d_L_law_536 : decode code 536 = .ok (.iconst 1, 1) := by decide +kernel
theorem d_L_law_537 : decode code 537 = .ok (.goto 4, 3) := by decide +kernel
theorem d_L_law_540 : decode code 540 = .ok (.iconst 0, 1) := by decide +kernel
theorem d_L_law_541 : decode code 541 = .ok (.invokevirtual 94, 3) := by decide +kernel
theorem d_L_law_544 : decode code 544 = .ok (.aload_n 2, 1) := by decide +kernel
theorem d_L_law_545 : decode code 545 = .ok (.aload_n 0, 1) := by decide +kernel
theorem d_L_law_546 : decode code 546 = .ok (.iload_n 3, 1) := by decide +kernel
theorem d_L_law_547 : decode code 547 = .ok (.iconst 1, 1) := by decide +kernel
theorem d_L_law_548 : decode code 548 = .ok (.iadd, 1) := by decide +kernel
theorem d_L_law_549 : decode code 549 = .ok (.iaload, 1) := by decide +kernel
theorem d_L_law_550 : decode code 550 = .ok (.aload_n 0, 1) := by decide +kernel
theorem d_L_law_551 : decode code 551 = .ok (.iload_n 3, 1) := by decide +kernel
theorem d_L_law_552 : decode code 552 = .ok (.iconst 2, 1) := by decide +kernel
theorem d_L_law_553 : decode code 553 = .ok (.iadd, 1) := by decide +kernel
theorem d_L_law_554 : decode code 554 = .ok (.iaload, 1) := by decide +kernel
theorem d_L_law_555 : decode code 555 = .ok (.aload_n 0, 1) := by decide +kernel
theorem d_L_law_556 : decode code 556 = .ok (.iload_n 3, 1) := by decide +kernel
theorem d_L_law_557 : decode code 557 = .ok (.iconst 3, 1) := by decide +kernel
theorem d_L_law_558 : decode code 558 = .ok (.iadd, 1) := by decide +kernel
theorem d_L_law_559 : decode code 559 = .ok (.iaload, 1) := by decide +kernel
theorem d_L_law_560 : decode code 560 = .ok (.ifCond .eq 7, 3) := by decide +kernel
theorem d_L_law_563 : decode code 563 = .ok (.iconst 1, 1) := by decide +kernel
theorem d_L_law_564 : decode code 564 = .ok (.goto 4, 3) := by decide +kernel
theorem d_L_law_567 : decode code 567 = .ok (.iconst 0, 1) := by decide +kernel
theorem d_L_law_568 : decode code 568 = .ok (.invokevirtual 98, 3) := by decide +kernel
theorem d_L_law_571 : decode code 571 = .ok (.if_icmp .eq 74, 3) := by decide +kernel
theorem d_L_law_574 : decode code 574 = .ok (.iconst 0, 1) := by decide +kernel
theorem d_L_law_575 : decode code 575 = .ok (.ireturn, 1) := by decide +kernel
theorem d_L_law_576 : decode code 576 = .ok (.aload_n 1, 1) := by decide +kernel
theorem d_L_law_577 : decode code 577 = .ok (.aload_n 0, 1) := by decide +kernel
theorem d_L_law_578 : decode code 578 = .ok (.iload_n 3, 1) := by decide +kernel
theorem d_L_law_579 : decode code 579 = .ok (.iconst 1, 1) := by decide +kernel
theorem d_L_law_580 : decode code 580 = .ok (.iadd, 1) := by decide +kernel
theorem d_L_law_581 : decode code 581 = .ok (.iaload, 1) := by decide +kernel
theorem d_L_law_582 : decode code 582 = .ok (.invokevirtual 99, 3) := by decide +kernel
theorem d_L_law_585 : decode code 585 = .ok (.aload_n 2, 1) := by decide +kernel
theorem d_L_law_586 : decode code 586 = .ok (.aload_n 0, 1) := by decide +kernel
theorem d_L_law_587 : decode code 587 = .ok (.iload_n 3, 1) := by decide +kernel
theorem d_L_law_588 : decode code 588 = .ok (.iconst 1, 1) := by decide +kernel
theorem d_L_law_589 : decode code 589 = .ok (.iadd, 1) := by decide +kernel
theorem d_L_law_590 : decode code 590 = .ok (.iaload, 1) := by decide +kernel
theorem d_L_law_591 : decode code 591 = .ok (.invokevirtual 103, 3) := by decide +kernel
theorem d_L_law_594 : decode code 594 = .ok (.if_icmp .eq 51, 3) := by decide +kernel
theorem d_L_law_597 : decode code 597 = .ok (.iconst 0, 1) := by decide +kernel
theorem d_L_law_598 : decode code 598 = .ok (.ireturn, 1) := by decide +kernel
theorem d_L_law_599 : decode code 599 = .ok (.aload_n 1, 1) := by decide +kernel
theorem d_L_law_600 : decode code 600 = .ok (.aload_n 0, 1) := by decide +kernel
theorem d_L_law_601 : decode code 601 = .ok (.iload_n 3, 1) := by decide +kernel
theorem d_L_law_602 : decode code 602 = .ok (.iconst 1, 1) := by decide +kernel
theorem d_L_law_603 : decode code 603 = .ok (.iadd, 1) := by decide +kernel
theorem d_L_law_604 : decode code 604 = .ok (.iaload, 1) := by decide +kernel
theorem d_L_law_605 : decode code 605 = .ok (.invokevirtual 104, 3) := by decide +kernel
theorem d_L_law_608 : decode code 608 = .ok (.aload_n 2, 1) := by decide +kernel
theorem d_L_law_609 : decode code 609 = .ok (.aload_n 0, 1) := by decide +kernel
theorem d_L_law_610 : decode code 610 = .ok (.iload_n 3, 1) := by decide +kernel
theorem d_L_law_611 : decode code 611 = .ok (.iconst 1, 1) := by decide +kernel
theorem d_L_law_612 : decode code 612 = .ok (.iadd, 1) := by decide +kernel
theorem d_L_law_613 : decode code 613 = .ok (.iaload, 1) := by decide +kernel
theorem d_L_law_614 : decode code 614 = .ok (.invokevirtual 107, 3) := by decide +kernel
theorem d_L_law_617 : decode code 617 = .ok (.if_icmp .eq 28, 3) := by decide +kernel
theorem d_L_law_620 : decode code 620 = .ok (.iconst 0, 1) := by decide +kernel
theorem d_L_law_621 : decode code 621 = .ok (.ireturn, 1) := by decide +kernel
theorem d_L_law_622 : decode code 622 = .ok (.aload_n 1, 1) := by decide +kernel
theorem d_L_law_623 : decode code 623 = .ok (.aload_n 0, 1) := by decide +kernel
theorem d_L_law_624 : decode code 624 = .ok (.iload_n 3, 1) := by decide +kernel
theorem d_L_law_625 : decode code 625 = .ok (.iconst 1, 1) := by decide +kernel
theorem d_L_law_626 : decode code 626 = .ok (.iadd, 1) := by decide +kernel
theorem d_L_law_627 : decode code 627 = .ok (.iaload, 1) := by decide +kernel
theorem d_L_law_628 : decode code 628 = .ok (.invokevirtual 108, 3) := by decide +kernel
theorem d_L_law_631 : decode code 631 = .ok (.aload_n 2, 1) := by decide +kernel
theorem d_L_law_632 : decode code 632 = .ok (.aload_n 0, 1) := by decide +kernel
theorem d_L_law_633 : decode code 633 = .ok (.iload_n 3, 1) := by decide +kernel
theorem d_L_law_634 : decode code 634 = .ok (.iconst 1, 1) := by decide +kernel
theorem d_L_law_635 : decode code 635 = .ok (.iadd, 1) := by decide +kernel
theorem d_L_law_636 : decode code 636 = .ok (.iaload, 1) := by decide +kernel
theorem d_L_law_637 : decode code 637 = .ok (.invokevirtual 111, 3) := by decide +kernel
theorem d_L_law_640 : decode code 640 = .ok (.if_icmp .eq 5, 3) := by decide +kernel
theorem d_L_law_643 : decode code 643 = .ok (.iconst 0, 1) := by decide +kernel
theorem d_L_law_644 : decode code 644 = .ok (.ireturn, 1) := by decide +kernel
theorem d_L_law_645 : decode code 645 = .ok (.iinc 3 4, 3) := by decide +kernel
theorem d_L_law_648 : decode code 648 = .ok (.goto (-630), 3) := by decide +kernel
theorem d_L_law_651 : decode code 651 = .ok (.iconst 1, 1) := by decide +kernel
theorem d_L_law_652 : decode code 652 = .ok (.ireturn, 1) := by decide +kernel
end
section
abbrev R_L : String := "BranchingTextLaw"
theorem NW_L_7 : zNw R_L 7 iB 8 [.null, .null, .null, .null, .null, .int 0, .int 0, .null] := ⟨R_B, T_B, t_B, rfl, (zm 7 (by decide +kernel)), (zm 8 (by decide +kernel)), (zm 1 (by decide +kernel)), u_B_in, t_B_ok, by decide +kernel⟩
theorem K_L_9 : zCF R_L 9 y_B_init b_B_init 1 none 0 := ⟨(zm 9 (by decide +kernel)), (zm 1 (by decide +kernel)), zm 11 (by decide +kernel), ⟨by decide +kernel, by decide +kernel⟩, by decide +kernel⟩
theorem KI_L_9 : Cond.instanceMethod y_B_init ∈ zAll := (zm 10 (by decide +kernel))
theorem NW_L_10 : zNw R_L 10 iO 17 [.int 0, .null, .null, .null, .null, .null, .int 0, .null, .int 0, .int 0, .null, .null, .int 0, .null, .null, .null, .null] := ⟨R_O, T_O, t_O, rfl, (zm 284 (by decide +kernel)), (zm 285 (by decide +kernel)), (zm 5 (by decide +kernel)), u_O_in, t_O_ok, by decide +kernel⟩
theorem K_L_12 : zCF R_L 12 y_O_init b_O_init 1 none 0 := ⟨(zm 286 (by decide +kernel)), (zm 5 (by decide +kernel)), zm 288 (by decide +kernel), ⟨by decide +kernel, by decide +kernel⟩, by decide +kernel⟩
theorem KI_L_12 : Cond.instanceMethod y_O_init ∈ zAll := (zm 287 (by decide +kernel))
theorem K_L_13 : zCF R_L 13 y_B_type b_B_type 2 (some .boolean) 1 := ⟨(zm 109 (by decide +kernel)), (zm 1 (by decide +kernel)), zm 112 (by decide +kernel), ⟨by decide +kernel, by decide +kernel⟩, by decide +kernel⟩
theorem KI_L_13 : Cond.instanceMethod y_B_type ∈ zAll := (zm 110 (by decide +kernel))
theorem KS_L_13 : Cond.selects y_B_type.cls y_B_type y_B_type ∈ zAll := (zm 111 (by decide +kernel))
theorem K_L_17 : zCF R_L 17 y_O_type b_O_type 2 (some .boolean) 1 := ⟨(zm 342 (by decide +kernel)), (zm 5 (by decide +kernel)), zm 345 (by decide +kernel), ⟨by decide +kernel, by decide +kernel⟩, by decide +kernel⟩
theorem KI_L_17 : Cond.instanceMethod y_O_type ∈ zAll := (zm 343 (by decide +kernel))
theorem KS_L_17 : Cond.selects y_O_type.cls y_O_type y_O_type ∈ zAll := (zm 344 (by decide +kernel))
theorem K_L_18 : zCF R_L 18 y_B_wipe b_B_wipe 1 none 0 := ⟨(zm 116 (by decide +kernel)), (zm 1 (by decide +kernel)), zm 119 (by decide +kernel), ⟨by decide +kernel, by decide +kernel⟩, by decide +kernel⟩
theorem KI_L_18 : Cond.instanceMethod y_B_wipe ∈ zAll := (zm 117 (by decide +kernel))
theorem KS_L_18 : Cond.selects y_B_wipe.cls y_B_wipe y_B_wipe ∈ zAll := (zm 118 (by decide +kernel))
theorem K_L_21 : zCF R_L 21 y_O_wipe b_O_wipe 1 none 0 := ⟨(zm 346 (by decide +kernel)), (zm 5 (by decide +kernel)), zm 349 (by decide +kernel), ⟨by decide +kernel, by decide +kernel⟩, by decide +kernel⟩
theorem KI_L_21 : Cond.instanceMethod y_O_wipe ∈ zAll := (zm 347 (by decide +kernel))
theorem KS_L_21 : Cond.selects y_O_wipe.cls y_O_wipe y_O_wipe ∈ zAll := (zm 348 (by decide +kernel))
theorem K_L_22 : zCF R_L 22 y_B_scratch b_B_scratch 1 (some .int) 0 := ⟨(zm 120 (by decide +kernel)), (zm 1 (by decide +kernel)), zm 123 (by decide +kernel), ⟨by decide +kernel, by decide +kernel⟩, by decide +kernel⟩
theorem KI_L_22 : Cond.instanceMethod y_B_scratch ∈ zAll := (zm 121 (by decide +kernel))
theorem KS_L_22 : Cond.selects y_B_scratch.cls y_B_scratch y_B_scratch ∈ zAll := (zm 122 (by decide +kernel))
theorem K_L_26 : zCF R_L 26 y_O_scratch b_O_scratch 1 (some .int) 0 := ⟨(zm 350 (by decide +kernel)), (zm 5 (by decide +kernel)), zm 353 (by decide +kernel), ⟨by decide +kernel, by decide +kernel⟩, by decide +kernel⟩
theorem KI_L_26 : Cond.instanceMethod y_O_scratch ∈ zAll := (zm 351 (by decide +kernel))
theorem KS_L_26 : Cond.selects y_O_scratch.cls y_O_scratch y_O_scratch ∈ zAll := (zm 352 (by decide +kernel))
theorem K_L_27 : zCF R_L 27 y_B_copy b_B_copy 3 (some .int) 2 := ⟨(zm 124 (by decide +kernel)), (zm 1 (by decide +kernel)), zm 127 (by decide +kernel), ⟨by decide +kernel, by decide +kernel⟩, by decide +kernel⟩
theorem KI_L_27 : Cond.instanceMethod y_B_copy ∈ zAll := (zm 125 (by decide +kernel))
theorem KS_L_27 : Cond.selects y_B_copy.cls y_B_copy y_B_copy ∈ zAll := (zm 126 (by decide +kernel))
theorem K_L_31 : zCF R_L 31 y_O_copy b_O_copy 4 (some .int) 2 := ⟨(zm 354 (by decide +kernel)), (zm 5 (by decide +kernel)), zm 357 (by decide +kernel), ⟨by decide +kernel, by decide +kernel⟩, by decide +kernel⟩
theorem KI_L_31 : Cond.instanceMethod y_O_copy ∈ zAll := (zm 355 (by decide +kernel))
theorem KS_L_31 : Cond.selects y_O_copy.cls y_O_copy y_O_copy ∈ zAll := (zm 356 (by decide +kernel))
theorem K_L_32 : zCF R_L 32 y_B_insert b_B_insert 2 (some .int) 1 := ⟨(zm 139 (by decide +kernel)), (zm 1 (by decide +kernel)), zm 142 (by decide +kernel), ⟨by decide +kernel, by decide +kernel⟩, by decide +kernel⟩
theorem KI_L_32 : Cond.instanceMethod y_B_insert ∈ zAll := (zm 140 (by decide +kernel))
theorem KS_L_32 : Cond.selects y_B_insert.cls y_B_insert y_B_insert ∈ zAll := (zm 141 (by decide +kernel))
theorem K_L_36 : zCF R_L 36 y_O_insert b_O_insert 3 (some .int) 1 := ⟨(zm 362 (by decide +kernel)), (zm 5 (by decide +kernel)), zm 365 (by decide +kernel), ⟨by decide +kernel, by decide +kernel⟩, by decide +kernel⟩
theorem KI_L_36 : Cond.instanceMethod y_O_insert ∈ zAll := (zm 363 (by decide +kernel))
theorem KS_L_36 : Cond.selects y_O_insert.cls y_O_insert y_O_insert ∈ zAll := (zm 364 (by decide +kernel))
theorem K_L_37 : zCF R_L 37 y_B_delete b_B_delete 3 (some .int) 2 := ⟨(zm 181 (by decide +kernel)), (zm 1 (by decide +kernel)), zm 184 (by decide +kernel), ⟨by decide +kernel, by decide +kernel⟩, by decide +kernel⟩
theorem KI_L_37 : Cond.instanceMethod y_B_delete ∈ zAll := (zm 182 (by decide +kernel))
theorem KS_L_37 : Cond.selects y_B_delete.cls y_B_delete y_B_delete ∈ zAll := (zm 183 (by decide +kernel))
theorem K_L_40 : zCF R_L 40 y_O_delete b_O_delete 3 (some .int) 2 := ⟨(zm 390 (by decide +kernel)), (zm 5 (by decide +kernel)), zm 393 (by decide +kernel), ⟨by decide +kernel, by decide +kernel⟩, by decide +kernel⟩
theorem KI_L_40 : Cond.instanceMethod y_O_delete ∈ zAll := (zm 391 (by decide +kernel))
theorem KS_L_40 : Cond.selects y_O_delete.cls y_O_delete y_O_delete ∈ zAll := (zm 392 (by decide +kernel))
theorem K_L_41 : zCF R_L 41 y_B_undo b_B_undo 2 (some .int) 0 := ⟨(zm 185 (by decide +kernel)), (zm 1 (by decide +kernel)), zm 188 (by decide +kernel), ⟨by decide +kernel, by decide +kernel⟩, by decide +kernel⟩
theorem KI_L_41 : Cond.instanceMethod y_B_undo ∈ zAll := (zm 186 (by decide +kernel))
theorem KS_L_41 : Cond.selects y_B_undo.cls y_B_undo y_B_undo ∈ zAll := (zm 187 (by decide +kernel))
theorem K_L_44 : zCF R_L 44 y_O_undo b_O_undo 1 (some .int) 0 := ⟨(zm 394 (by decide +kernel)), (zm 5 (by decide +kernel)), zm 397 (by decide +kernel), ⟨by decide +kernel, by decide +kernel⟩, by decide +kernel⟩
theorem KI_L_44 : Cond.instanceMethod y_O_undo ∈ zAll := (zm 395 (by decide +kernel))
theorem KS_L_44 : Cond.selects y_O_undo.cls y_O_undo y_O_undo ∈ zAll := (zm 396 (by decide +kernel))
theorem K_L_45 : zCF R_L 45 y_B_redo b_B_redo 2 (some .int) 0 := ⟨(zm 193 (by decide +kernel)), (zm 1 (by decide +kernel)), zm 196 (by decide +kernel), ⟨by decide +kernel, by decide +kernel⟩, by decide +kernel⟩
theorem KI_L_45 : Cond.instanceMethod y_B_redo ∈ zAll := (zm 194 (by decide +kernel))
theorem KS_L_45 : Cond.selects y_B_redo.cls y_B_redo y_B_redo ∈ zAll := (zm 195 (by decide +kernel))
theorem K_L_48 : zCF R_L 48 y_O_redo b_O_redo 3 (some .int) 0 := ⟨(zm 402 (by decide +kernel)), (zm 5 (by decide +kernel)), zm 405 (by decide +kernel), ⟨by decide +kernel, by decide +kernel⟩, by decide +kernel⟩
theorem KI_L_48 : Cond.instanceMethod y_O_redo ∈ zAll := (zm 403 (by decide +kernel))
theorem KS_L_48 : Cond.selects y_O_redo.cls y_O_redo y_O_redo ∈ zAll := (zm 404 (by decide +kernel))
theorem K_L_49 : zCF R_L 49 y_B_goTo b_B_goTo 6 (some .int) 1 := ⟨(zm 197 (by decide +kernel)), (zm 1 (by decide +kernel)), zm 200 (by decide +kernel), ⟨by decide +kernel, by decide +kernel⟩, by decide +kernel⟩
theorem KI_L_49 : Cond.instanceMethod y_B_goTo ∈ zAll := (zm 198 (by decide +kernel))
theorem KS_L_49 : Cond.selects y_B_goTo.cls y_B_goTo y_B_goTo ∈ zAll := (zm 199 (by decide +kernel))
theorem K_L_52 : zCF R_L 52 y_O_goTo b_O_goTo 4 (some .int) 1 := ⟨(zm 410 (by decide +kernel)), (zm 5 (by decide +kernel)), zm 413 (by decide +kernel), ⟨by decide +kernel, by decide +kernel⟩, by decide +kernel⟩
theorem KI_L_52 : Cond.instanceMethod y_O_goTo ∈ zAll := (zm 411 (by decide +kernel))
theorem KS_L_52 : Cond.selects y_O_goTo.cls y_O_goTo y_O_goTo ∈ zAll := (zm 412 (by decide +kernel))
theorem K_L_53 : zCF R_L 53 y_B_version b_B_version 1 (some .int) 0 := ⟨(zm 209 (by decide +kernel)), (zm 1 (by decide +kernel)), zm 212 (by decide +kernel), ⟨by decide +kernel, by decide +kernel⟩, by decide +kernel⟩
theorem KI_L_53 : Cond.instanceMethod y_B_version ∈ zAll := (zm 210 (by decide +kernel))
theorem KS_L_53 : Cond.selects y_B_version.cls y_B_version y_B_version ∈ zAll := (zm 211 (by decide +kernel))
theorem K_L_56 : zCF R_L 56 y_O_version b_O_version 1 (some .int) 0 := ⟨(zm 422 (by decide +kernel)), (zm 5 (by decide +kernel)), zm 425 (by decide +kernel), ⟨by decide +kernel, by decide +kernel⟩, by decide +kernel⟩
theorem KI_L_56 : Cond.instanceMethod y_O_version ∈ zAll := (zm 423 (by decide +kernel))
theorem KS_L_56 : Cond.selects y_O_version.cls y_O_version y_O_version ∈ zAll := (zm 424 (by decide +kernel))
theorem K_L_57 : zCF R_L 57 y_B_versions b_B_versions 1 (some .int) 0 := ⟨(zm 213 (by decide +kernel)), (zm 1 (by decide +kernel)), zm 216 (by decide +kernel), ⟨by decide +kernel, by decide +kernel⟩, by decide +kernel⟩
theorem KI_L_57 : Cond.instanceMethod y_B_versions ∈ zAll := (zm 214 (by decide +kernel))
theorem KS_L_57 : Cond.selects y_B_versions.cls y_B_versions y_B_versions ∈ zAll := (zm 215 (by decide +kernel))
theorem K_L_60 : zCF R_L 60 y_O_versions b_O_versions 1 (some .int) 0 := ⟨(zm 426 (by decide +kernel)), (zm 5 (by decide +kernel)), zm 429 (by decide +kernel), ⟨by decide +kernel, by decide +kernel⟩, by decide +kernel⟩
theorem KI_L_60 : Cond.instanceMethod y_O_versions ∈ zAll := (zm 427 (by decide +kernel))
theorem KS_L_60 : Cond.selects y_O_versions.cls y_O_versions y_O_versions ∈ zAll := (zm 428 (by decide +kernel))
theorem K_L_61 : zCF R_L 61 y_B_parent b_B_parent 3 (some .int) 1 := ⟨(zm 217 (by decide +kernel)), (zm 1 (by decide +kernel)), zm 220 (by decide +kernel), ⟨by decide +kernel, by decide +kernel⟩, by decide +kernel⟩
theorem KI_L_61 : Cond.instanceMethod y_B_parent ∈ zAll := (zm 218 (by decide +kernel))
theorem KS_L_61 : Cond.selects y_B_parent.cls y_B_parent y_B_parent ∈ zAll := (zm 219 (by decide +kernel))
theorem K_L_64 : zCF R_L 64 y_O_parent b_O_parent 2 (some .int) 1 := ⟨(zm 430 (by decide +kernel)), (zm 5 (by decide +kernel)), zm 433 (by decide +kernel), ⟨by decide +kernel, by decide +kernel⟩, by decide +kernel⟩
theorem KI_L_64 : Cond.instanceMethod y_O_parent ∈ zAll := (zm 431 (by decide +kernel))
theorem KS_L_64 : Cond.selects y_O_parent.cls y_O_parent y_O_parent ∈ zAll := (zm 432 (by decide +kernel))
theorem K_L_65 : zCF R_L 65 y_B_children b_B_children 3 (some .int) 1 := ⟨(zm 221 (by decide +kernel)), (zm 1 (by decide +kernel)), zm 224 (by decide +kernel), ⟨by decide +kernel, by decide +kernel⟩, by decide +kernel⟩
theorem KI_L_65 : Cond.instanceMethod y_B_children ∈ zAll := (zm 222 (by decide +kernel))
theorem KS_L_65 : Cond.selects y_B_children.cls y_B_children y_B_children ∈ zAll := (zm 223 (by decide +kernel))
theorem K_L_68 : zCF R_L 68 y_O_children b_O_children 4 (some .int) 1 := ⟨(zm 434 (by decide +kernel)), (zm 5 (by decide +kernel)), zm 437 (by decide +kernel), ⟨by decide +kernel, by decide +kernel⟩, by decide +kernel⟩
theorem KI_L_68 : Cond.instanceMethod y_O_children ∈ zAll := (zm 435 (by decide +kernel))
theorem KS_L_68 : Cond.selects y_O_children.cls y_O_children y_O_children ∈ zAll := (zm 436 (by decide +kernel))
theorem K_L_69 : zCF R_L 69 y_B_length b_B_length 1 (some .int) 0 := ⟨(zm 225 (by decide +kernel)), (zm 1 (by decide +kernel)), zm 228 (by decide +kernel), ⟨by decide +kernel, by decide +kernel⟩, by decide +kernel⟩
theorem KI_L_69 : Cond.instanceMethod y_B_length ∈ zAll := (zm 226 (by decide +kernel))
theorem KS_L_69 : Cond.selects y_B_length.cls y_B_length y_B_length ∈ zAll := (zm 227 (by decide +kernel))
theorem K_L_72 : zCF R_L 72 y_O_length b_O_length 1 (some .int) 0 := ⟨(zm 438 (by decide +kernel)), (zm 5 (by decide +kernel)), zm 441 (by decide +kernel), ⟨by decide +kernel, by decide +kernel⟩, by decide +kernel⟩
theorem KI_L_72 : Cond.instanceMethod y_O_length ∈ zAll := (zm 439 (by decide +kernel))
theorem KS_L_72 : Cond.selects y_O_length.cls y_O_length y_O_length ∈ zAll := (zm 440 (by decide +kernel))
theorem K_L_73 : zCF R_L 73 y_B_at b_B_at 2 (some .char) 1 := ⟨(zm 229 (by decide +kernel)), (zm 1 (by decide +kernel)), zm 232 (by decide +kernel), ⟨by decide +kernel, by decide +kernel⟩, by decide +kernel⟩
theorem KI_L_73 : Cond.instanceMethod y_B_at ∈ zAll := (zm 230 (by decide +kernel))
theorem KS_L_73 : Cond.selects y_B_at.cls y_B_at y_B_at ∈ zAll := (zm 231 (by decide +kernel))
theorem K_L_77 : zCF R_L 77 y_O_at b_O_at 2 (some .char) 1 := ⟨(zm 442 (by decide +kernel)), (zm 5 (by decide +kernel)), zm 445 (by decide +kernel), ⟨by decide +kernel, by decide +kernel⟩, by decide +kernel⟩
theorem KI_L_77 : Cond.instanceMethod y_O_at ∈ zAll := (zm 443 (by decide +kernel))
theorem KS_L_77 : Cond.selects y_O_at.cls y_O_at y_O_at ∈ zAll := (zm 444 (by decide +kernel))
theorem K_L_78 : zCF R_L 78 y_B_lines b_B_lines 1 (some .int) 0 := ⟨(zm 233 (by decide +kernel)), (zm 1 (by decide +kernel)), zm 236 (by decide +kernel), ⟨by decide +kernel, by decide +kernel⟩, by decide +kernel⟩
theorem KI_L_78 : Cond.instanceMethod y_B_lines ∈ zAll := (zm 234 (by decide +kernel))
theorem KS_L_78 : Cond.selects y_B_lines.cls y_B_lines y_B_lines ∈ zAll := (zm 235 (by decide +kernel))
theorem K_L_81 : zCF R_L 81 y_O_lines b_O_lines 1 (some .int) 0 := ⟨(zm 446 (by decide +kernel)), (zm 5 (by decide +kernel)), zm 449 (by decide +kernel), ⟨by decide +kernel, by decide +kernel⟩, by decide +kernel⟩
theorem KI_L_81 : Cond.instanceMethod y_O_lines ∈ zAll := (zm 447 (by decide +kernel))
theorem KS_L_81 : Cond.selects y_O_lines.cls y_O_lines y_O_lines ∈ zAll := (zm 448 (by decide +kernel))
theorem K_L_82 : zCF R_L 82 y_B_lineStart b_B_lineStart 2 (some .int) 1 := ⟨(zm 241 (by decide +kernel)), (zm 1 (by decide +kernel)), zm 244 (by decide +kernel), ⟨by decide +kernel, by decide +kernel⟩, by decide +kernel⟩
theorem KI_L_82 : Cond.instanceMethod y_B_lineStart ∈ zAll := (zm 242 (by decide +kernel))
theorem KS_L_82 : Cond.selects y_B_lineStart.cls y_B_lineStart y_B_lineStart ∈ zAll := (zm 243 (by decide +kernel))
theorem K_L_85 : zCF R_L 85 y_O_lineStart b_O_lineStart 4 (some .int) 1 := ⟨(zm 454 (by decide +kernel)), (zm 5 (by decide +kernel)), zm 457 (by decide +kernel), ⟨by decide +kernel, by decide +kernel⟩, by decide +kernel⟩
theorem KI_L_85 : Cond.instanceMethod y_O_lineStart ∈ zAll := (zm 455 (by decide +kernel))
theorem KS_L_85 : Cond.selects y_O_lineStart.cls y_O_lineStart y_O_lineStart ∈ zAll := (zm 456 (by decide +kernel))
theorem K_L_86 : zCF R_L 86 y_B_lineOf b_B_lineOf 2 (some .int) 1 := ⟨(zm 249 (by decide +kernel)), (zm 1 (by decide +kernel)), zm 252 (by decide +kernel), ⟨by decide +kernel, by decide +kernel⟩, by decide +kernel⟩
theorem KI_L_86 : Cond.instanceMethod y_B_lineOf ∈ zAll := (zm 250 (by decide +kernel))
theorem KS_L_86 : Cond.selects y_B_lineOf.cls y_B_lineOf y_B_lineOf ∈ zAll := (zm 251 (by decide +kernel))
theorem K_L_89 : zCF R_L 89 y_O_lineOf b_O_lineOf 4 (some .int) 1 := ⟨(zm 458 (by decide +kernel)), (zm 5 (by decide +kernel)), zm 453 (by decide +kernel), ⟨by decide +kernel, by decide +kernel⟩, by decide +kernel⟩
theorem KI_L_89 : Cond.instanceMethod y_O_lineOf ∈ zAll := (zm 451 (by decide +kernel))
theorem KS_L_89 : Cond.selects y_O_lineOf.cls y_O_lineOf y_O_lineOf ∈ zAll := (zm 452 (by decide +kernel))
theorem K_L_90 : zCF R_L 90 y_B_find b_B_find 3 (some .int) 1 := ⟨(zm 253 (by decide +kernel)), (zm 1 (by decide +kernel)), zm 256 (by decide +kernel), ⟨by decide +kernel, by decide +kernel⟩, by decide +kernel⟩
theorem KI_L_90 : Cond.instanceMethod y_B_find ∈ zAll := (zm 254 (by decide +kernel))
theorem KS_L_90 : Cond.selects y_B_find.cls y_B_find y_B_find ∈ zAll := (zm 255 (by decide +kernel))
theorem K_L_93 : zCF R_L 93 y_O_find b_O_find 3 (some .int) 1 := ⟨(zm 459 (by decide +kernel)), (zm 5 (by decide +kernel)), zm 462 (by decide +kernel), ⟨by decide +kernel, by decide +kernel⟩, by decide +kernel⟩
theorem KI_L_93 : Cond.instanceMethod y_O_find ∈ zAll := (zm 460 (by decide +kernel))
theorem KS_L_93 : Cond.selects y_O_find.cls y_O_find y_O_find ∈ zAll := (zm 461 (by decide +kernel))
theorem K_L_94 : zCF R_L 94 y_B_mark b_B_mark 4 (some .boolean) 3 := ⟨(zm 261 (by decide +kernel)), (zm 1 (by decide +kernel)), zm 264 (by decide +kernel), ⟨by decide +kernel, by decide +kernel⟩, by decide +kernel⟩
theorem KI_L_94 : Cond.instanceMethod y_B_mark ∈ zAll := (zm 262 (by decide +kernel))
theorem KS_L_94 : Cond.selects y_B_mark.cls y_B_mark y_B_mark ∈ zAll := (zm 263 (by decide +kernel))
theorem K_L_98 : zCF R_L 98 y_O_mark b_O_mark 4 (some .boolean) 3 := ⟨(zm 467 (by decide +kernel)), (zm 5 (by decide +kernel)), zm 470 (by decide +kernel), ⟨by decide +kernel, by decide +kernel⟩, by decide +kernel⟩
theorem KI_L_98 : Cond.instanceMethod y_O_mark ∈ zAll := (zm 468 (by decide +kernel))
theorem KS_L_98 : Cond.selects y_O_mark.cls y_O_mark y_O_mark ∈ zAll := (zm 469 (by decide +kernel))
theorem K_L_99 : zCF R_L 99 y_B_unmark b_B_unmark 2 (some .boolean) 1 := ⟨(zm 268 (by decide +kernel)), (zm 1 (by decide +kernel)), zm 271 (by decide +kernel), ⟨by decide +kernel, by decide +kernel⟩, by decide +kernel⟩
theorem KI_L_99 : Cond.instanceMethod y_B_unmark ∈ zAll := (zm 269 (by decide +kernel))
theorem KS_L_99 : Cond.selects y_B_unmark.cls y_B_unmark y_B_unmark ∈ zAll := (zm 270 (by decide +kernel))
theorem K_L_103 : zCF R_L 103 y_O_unmark b_O_unmark 3 (some .boolean) 1 := ⟨(zm 471 (by decide +kernel)), (zm 5 (by decide +kernel)), zm 474 (by decide +kernel), ⟨by decide +kernel, by decide +kernel⟩, by decide +kernel⟩
theorem KI_L_103 : Cond.instanceMethod y_O_unmark ∈ zAll := (zm 472 (by decide +kernel))
theorem KS_L_103 : Cond.selects y_O_unmark.cls y_O_unmark y_O_unmark ∈ zAll := (zm 473 (by decide +kernel))
theorem K_L_104 : zCF R_L 104 y_B_where b_B_where 2 (some .int) 1 := ⟨(zm 272 (by decide +kernel)), (zm 1 (by decide +kernel)), zm 275 (by decide +kernel), ⟨by decide +kernel, by decide +kernel⟩, by decide +kernel⟩
theorem KI_L_104 : Cond.instanceMethod y_B_where ∈ zAll := (zm 273 (by decide +kernel))
theorem KS_L_104 : Cond.selects y_B_where.cls y_B_where y_B_where ∈ zAll := (zm 274 (by decide +kernel))
theorem K_L_107 : zCF R_L 107 y_O_where b_O_where 2 (some .int) 1 := ⟨(zm 475 (by decide +kernel)), (zm 5 (by decide +kernel)), zm 478 (by decide +kernel), ⟨by decide +kernel, by decide +kernel⟩, by decide +kernel⟩
theorem KI_L_107 : Cond.instanceMethod y_O_where ∈ zAll := (zm 476 (by decide +kernel))
theorem KS_L_107 : Cond.selects y_O_where.cls y_O_where y_O_where ∈ zAll := (zm 477 (by decide +kernel))
theorem K_L_108 : zCF R_L 108 y_B_nextMark b_B_nextMark 2 (some .int) 1 := ⟨(zm 276 (by decide +kernel)), (zm 1 (by decide +kernel)), zm 279 (by decide +kernel), ⟨by decide +kernel, by decide +kernel⟩, by decide +kernel⟩
theorem KI_L_108 : Cond.instanceMethod y_B_nextMark ∈ zAll := (zm 277 (by decide +kernel))
theorem KS_L_108 : Cond.selects y_B_nextMark.cls y_B_nextMark y_B_nextMark ∈ zAll := (zm 278 (by decide +kernel))
theorem K_L_111 : zCF R_L 111 y_O_nextMark b_O_nextMark 5 (some .int) 1 := ⟨(zm 479 (by decide +kernel)), (zm 5 (by decide +kernel)), zm 482 (by decide +kernel), ⟨by decide +kernel, by decide +kernel⟩, by decide +kernel⟩
theorem KI_L_111 : Cond.instanceMethod y_O_nextMark ∈ zAll := (zm 480 (by decide +kernel))
theorem KS_L_111 : Cond.selects y_O_nextMark.cls y_O_nextMark y_O_nextMark ∈ zAll := (zm 481 (by decide +kernel))
end
section
/-! THE CLAIM OUT OF ONE WALK OF THE LAW'S BODY. Your part is whole_start (and what it stands on); all else here is the same for every law, but numbers. -/
def R_law : String := "BranchingTextLaw"
def lw_P (b : Addr) (xs : List Int32) (args : Array Value) (s : State) : Prop := args = #[.ref b] ∧ s.IntsAt b xs ∧ xs.length ≤ 2048 ∧ (Jvm.Cond.and given_1 narrow_1).before args s = true
def lw_Q (_ : Array Value) (s : State) (o : Outcome) (t : State) : Prop := o = .returned (some (.int 1)) ∧ Framed s o t [] 600000 7302250
def lw_Z (below : List Frame) (a : Array Value) (s : State) : State → Prop := fun t => ∃ o, t.status = .running ∧ Ended t below o ∧ lw_Q a s o t
/-- the law's own end, with 1 on the stack, nothing written that was there before, its room as the claim has it -/
theorem lw_ret {p : Program} {l : Launch} {e : Env} {s : State} {m : MethodId} {below : List Frame} {meth : Method} {c : Code} {b : Nat} (hx : p.tables.exec = Jvm.exec) (hb : c.code = code) (hr : meth.sig.returnType = ret) (hlocks : meth.locks = false) {pc : Nat} {H : Heap} {ls : Array Slot} (hdg : decode code pc = .ok (.ireturn, 1)) : W p l e room_1 s m #[Value.ref b] below meth c H [] 600000 7302250 (lw_Z below #[Value.ref b] s) (F0 m pc ls [.int 1]) := by
  intro T hT X
  obtain ⟨fs, hret, hrun, hended, hW, hframe⟩ := X.leave (v := some (.int 1)) (hlocks := hlocks) (fun h => by rw [hr] at h; cases h)
  have hmeth' : T.vm.method? m = some meth := X.method'
  refine ⟨T.setFrames fs, ?_, .returned (some (.int 1)), hrun, hended, rfl, ⟨_, rfl⟩, hW, hframe⟩
  jvm_step X.here [X.here.top, hx, hb, hdg, hmeth', hr, ret, narrow_b1]
  (try refine ⟨rfl, ?_⟩); (try refine ⟨rfl, ?_⟩)
  first | (intro acts; rw [hret _ acts rfl rfl rfl]) | rw [hret _ _ rfl rfl rfl]
  exact Steps.refl _
/-- what holds at the law's entry: the machine, the code, the tables' words (any of lw_tbl by 'hts w (by decide +kernel)'), the script of L ints xs at the cell b, what the Statement gives of the start (any of its parts by flat_of_before) -/
def lw_At (p : Program) (s : State) (m : MethodId) (meth : Method) (c : Code) (b L : Nat) (xs : Nat → Int32) : Prop :=
  p.tables.exec = Jvm.exec ∧ c.code = code ∧ meth.sig.returnType = ret ∧ c.maxLocals = 4 ∧ s.vm.findClass R_law = some m.cls ∧ (∀ w ∈ lw_tbl, w.before #[Value.ref b] s = true) ∧ va_X b L xs s s.heap ∧ b < s.heap.size ∧ meth.locks = false ∧ (Jvm.Cond.and given_1 narrow_1).before #[Value.ref b] s = true
end
section
/-! the law's own rows: the script, the end -/
def zLW (G : zT) (b L : Nat) (xs : Nat → Int32) : Prop := ∃ (p : Program) (l : Launch) (e : Env) (s : State) (m : MethodId) (below : List Frame) (meth : Method) (c : Code) (D : va_G), G = zgx p l e room_1 s m #[Value.ref b] below meth c D (fun q => s.heap.size ≤ q) (lw_Z below #[Value.ref b] s) 4 ∧ p.tables.exec = Jvm.exec ∧ c.code = code ∧ meth.sig.returnType = ret ∧ meth.locks = false ∧ va_X b L xs s s.heap ∧ b < s.heap.size
section ZL
variable {G : zT} {l : Launch} {R : Room} {cc : ByteArray} {nL : Nat} {own nm : String} {D : va_G} {tys : List (ClassId × FieldType)} {b L : Nat} {xs : Nat → Int32} {k n pc : Nat} {lv : List (Option Value)} {st : List Value} {N : Nat} {q : Nat → Nat} {f : zF}
theorem zs_len (S : zLW G b L xs) (hd : decode code pc = .ok (.arraylength, 1)) (kk : G k n (pc + 1) lv (.int (nI L) :: st) N q f) : G k n pc lv (.ref b :: st) N q f := by
  obtain ⟨p, l, e, s, m, below, meth, c, D, rfl, hx, hb, hr, hlk, hX, hbl⟩ := S
  intro H locs ls hl hP hD hS
  exact va_slen hx hb hX hbl (Nat.not_le.mpr hbl) hS hd (kk H locs ls hl hP hD hS)
theorem zs_ld (S : zLW G b L xs) {i : Nat} {v : Int32} (hd : decode code pc = .ok (.iaload, 1)) (hi : i < L) (hL : L ≤ 2048) (hv : xs i = v) (kk : G k n (pc + 1) lv (.int v :: st) N q f) : G k n pc lv (.int (nI i) :: .ref b :: st) N q f := by
  obtain ⟨p, l, e, s, m, below, meth, c, D, rfl, hx, hb, hr, hlk, hX, hbl⟩ := S
  subst hv
  intro H locs ls hl hP hD hS
  refine va_sld hx hb hX hbl (Nat.not_le.mpr hbl) hS (vp_in_nI hi (by omega)) hd ?_
  rw [nI_clamp (by omega)]
  exact kk H locs ls hl hP hD hS
theorem zs_end (S : zLW G b L xs) (hd : decode code pc = .ok (.ireturn, 1)) (hk : k ≤ 600000) (hn : n ≤ 7302250) : G k n pc lv [.int 1] N q f := by
  obtain ⟨p, l, e, s, m, below, meth, c, D, rfl, hx, hb, hr, hlk, hX, hbl⟩ := S
  intro H locs ls hl hP hD hS
  exact va_forget (fun x hx => hS.2.2 x hx) (W.widen hk hn (lw_ret hx hb hr hlk hd))
theorem zr_widen (X : zOK G l R cc nL own nm D tys) {k' n' : Nat} (hk : k ≤ k') (hn : n ≤ n') (kk : G k' n' pc lv st N q f) : G k n pc lv st N q f := by
  obtain ⟨p, e, s, m, args, below, meth, c, A, Q, rfl, hx, hb, hml, hown, hts, hK, hA, hnm, hAO⟩ := X
  intro H locs ls hl hP hD hS
  exact W.widen hk hn (kk H locs ls hl hP hD hS)
theorem zr_tabIn (X : zOK G l R cc nL own nm D tys) {dflt lo hi : Int} {offs : Array Int} {len : Nat} {x : Int32} {off : Int} {tgt : Nat} (hd : decode cc pc = .ok (.tableswitch dflt lo hi offs, len)) (h1 : ¬ x.toInt < lo) (h2 : ¬ hi < x.toInt) (ho : offs[(x.toInt - lo).toNat]? = some off) (ht : (pc : Int) + off = (tgt : Int)) (kk : G k n tgt lv st N q f) : G k n pc lv (.int x :: st) N q f := by
  obtain ⟨p, e, s, m, args, below, meth, c, A, Q, rfl, hx, hb, hml, hown, hts, hK, hA, hnm, hAO⟩ := X
  intro H locs ls hl hP hD hS
  exact lv_tableIn hx hb hd h1 h2 ho ht (kk H locs ls hl hP hD hS)
theorem zr_tabOut (X : zOK G l R cc nL own nm D tys) {dflt lo hi : Int} {offs : Array Int} {len : Nat} {x : Int32} {tgt : Nat} (hd : decode cc pc = .ok (.tableswitch dflt lo hi offs, len)) (h : x.toInt < lo ∨ hi < x.toInt) (ht : (pc : Int) + dflt = (tgt : Int)) (kk : G k n tgt lv st N q f) : G k n pc lv (.int x :: st) N q f := by
  obtain ⟨p, e, s, m, args, below, meth, c, A, Q, rfl, hx, hb, hml, hown, hts, hK, hA, hnm, hAO⟩ := X
  intro H locs ls hl hP hD hS
  exact lv_tableOut hx hb hd h ht (kk H locs ls hl hP hD hS)
/-- the same cells in another order -/
theorem zr_perm (X : zOK G l R cc nL own nm D tys) (g : Nat → Nat) (h1 : ∀ i, i < N → g i < N) (h2 : ∀ i j, i < N → j < N → g i = g j → i = j) (kk : G k n pc lv st N (fun i => q (g i)) (fun i => f (g i))) : G k n pc lv st N q f := by
  obtain ⟨p, e, s, m, args, below, meth, c, A, Q, rfl, hx, hb, hml, hown, hts, hK, hA, hnm, hAO⟩ := X
  intro H locs ls hl hP hD hS
  have key : ∀ (i : Nat) (x : Nat × va_E), (zl N (fun i => q (g i)) (fun i => f (g i)))[i]? = some x → i < N ∧ x = (q (g i), f (g i)) := fun i x hi => by
    have hl := (List.getElem?_eq_some_iff.mp hi).1
    rw [zl_len] at hl
    rw [zl_get hl] at hi
    exact ⟨hl, (Option.some.inj hi).symm⟩
  refine kk H locs ls hl (fun i x hi => ?_) ⟨fun i j x y hi hj hxy => ?_, fun i x hi => ?_⟩ hS
  · obtain ⟨a1, rfl⟩ := key i x hi
    exact hP (g i) _ (zl_get (h1 i a1))
  · obtain ⟨a1, rfl⟩ := key i x hi
    obtain ⟨a2, rfl⟩ := key j y hj
    exact h2 i j a1 a2 (hD.1 (g i) (g j) _ _ (zl_get (h1 i a1)) (zl_get (h1 j a2)) hxy)
  · obtain ⟨a1, rfl⟩ := key i x hi
    exact hD.2 (g i) _ (zl_get (h1 i a1))
end ZL
end
section
section ZV
variable {l : Launch} {D : va_G} {cI cC cZ cV : ClassId} {N : Nat} {q : Nat → Nat} {f : zF} {n ins u : Nat} {par : Nat → Nat} {com : Nat → Bool} {tp tc : Nat → Nat} {tq : Nat → Nat → Int32} {tz : Nat → Nat} {tt : Nat → Nat → Int32} {cn : Nat → Nat} {lat : Nat → Value} {mp mr : Nat → Int32}
theorem c_B_undoV (hNn : 23 + 2 * n ≤ N) (Cu : zCur cC cI q n ins u tz tt mp f) (h5 : f 5 = .inr (iM, [.ref (q 6), .ref (q 7)])) (h7 : f 7 = .inl (cZ, 6, .inl mr)) (V : zVs cC q f n par com tp tc tq cn lat) (T : zTree n par com tp tc tq tz tt) (hu0 : 0 < u) (hu : u < n) : zC l y_B_undo b_B_undo 2 (some .int) (rmD 4 0 0) D (zty cI cC cZ cV) [.ref (q 0)] N q f (fun v N' q' f' => v = some (.int (nI (par u))) ∧ N' = N ∧ q' = q ∧ zCur cC cI q n ins (par u) tz tt (zoM (!(com u)) (tp u) (tc u) mp mr) f' ∧ ∀ jj, jj ≠ 0 → jj ≠ 1 → jj ≠ 2 → jj ≠ 6 → f' jj = f jj) := by
  obtain ⟨h0, h1, ⟨tx, h2, htx, hag⟩, h6⟩ := Cu
  obtain ⟨k1, k2, k3⟩ := T.back hu0 hu
  have hlt := T.lt hu0 hu
  refine zC.imp (c_B_undo_y (by omega) h0 h1 h2 h5 h6 h7 (jp := 23 + 2 * u) (by omega) (by omega) (V u hu).2.1 htx (V u hu).2.2 (by omega) (by omega) (V.par hu0 hu) k1 (by omega) (by omega) (V (par u) (by omega)).1) ?_
  rintro v N' q' f' ⟨rfl, rfl, rfl, rfl⟩
  refine ⟨rfl, rfl, rfl, ⟨up_eq, ?_, ⟨_, ?_, ?_, k3 tx hag⟩, ?_⟩, fun jj a b c d => up_ne a (up_ne d (up_ne b (up_ne c rfl)))⟩
  · rw [← k2]
    exact up_ne (by decide) (up_ne (by decide) up_eq)
  · exact up_ne (by decide) (up_ne (by decide) (up_ne (by decide) up_eq))
  · unfold zoT
    split
    · exact zCh.cpy (V u hu).2.2 (zCh.cpy htx htx)
    · exact zCh.cpy htx htx
  · exact up_ne (by decide) up_eq
theorem c_B_redoV (hNn : 23 + 2 * n ≤ N) {w : Nat} (Cu : zCur cC cI q n ins (par w) tz tt mp f) (h5 : f 5 = .inr (iM, [.ref (q 6), .ref (q 7)])) (h7 : f 7 = .inl (cZ, 6, .inl mr)) (V : zVs cC q f n par com tp tc tq cn lat) (T : zTree n par com tp tc tq tz tt) (hw0 : 0 < w) (hw : w < n) (hl : lat (par w) = .ref (q (24 + 2 * w))) : zC l y_B_redo b_B_redo 2 (some .int) (rmD 4 0 0) D (zty cI cC cZ cV) [.ref (q 0)] N q f (fun v N' q' f' => v = some (.int (nI w)) ∧ N' = N ∧ q' = q ∧ zCur cC cI q n ins w tz tt (zoM (com w) (tp w) (tc w) mp mr) f' ∧ ∀ jj, jj ≠ 0 → jj ≠ 1 → jj ≠ 2 → jj ≠ 6 → f' jj = f jj) := by
  obtain ⟨h0, h1, ⟨tx, h2, htx, hag⟩, h6⟩ := Cu
  have hlt := T.lt hw0 hw
  have hv := (V (par w) (by omega)).1
  rw [hl] at hv
  refine zC.imp (c_B_redo_y (by omega) h0 h1 h2 h5 h6 h7 (jp := 23 + 2 * w) (by omega) (by omega) (V w hw).2.1 htx (V w hw).2.2 (by omega) (by omega) hv (by omega) (by omega) (V.par hw0 hw) (T.ok hw0 hw)) ?_
  rintro v N' q' f' ⟨rfl, rfl, rfl, rfl⟩
  refine ⟨rfl, rfl, rfl, ⟨up_eq, ?_, ⟨_, ?_, ?_, T.on hw0 hw hag (fun _ i _ => rfl)⟩, ?_⟩, fun jj a b c d => up_ne a (up_ne d (up_ne b (up_ne c rfl)))⟩
  · rw [T.sz hw0 hw]
    exact up_ne (by decide) (up_ne (by decide) up_eq)
  · exact up_ne (by decide) (up_ne (by decide) (up_ne (by decide) up_eq))
  · unfold zoT
    split
    · exact zCh.cpy (V w hw).2.2 (zCh.cpy htx htx)
    · exact zCh.cpy htx htx
  · exact up_ne (by decide) up_eq
end ZV
end
section
set_option maxRecDepth 100000 in
set_option maxHeartbeats 4000000 in
theorem L_0 {G : zT} {l : Launch} {D : va_G} {cI cC cZ cV : ClassId} {nm : String} {bs L : Nat} {xs : Nat → Int32} (X : zOK G l room_1 code 4 R_L nm D (zty cI cC cZ cV)) (S : zLW G bs L xs) {N : Nat} {q : Nat → Nat} {f : zF} {k s0 i : Nat} (hL : L ≤ 2048) (hi : i + 3 < L) (hk : k + 2 ≤ 600000) (hs : s0 + 2007 ≤ 7302250) (I : zInv cI cC cZ cV N q f) (back : ∀ (N' : Nat) (q' : Nat → Nat) (f' : zF), zInv cI cC cZ cV N' q' f' → G (k + 2) (s0 + 2007) 645 [some (.ref bs), some (.ref (q' 0)), some (.ref (q' 10)), some (.int (nI i))] [] N' q' f') : G k s0 140 [some (.ref bs), some (.ref (q 0)), some (.ref (q 10)), some (.int (nI i))] [] N q f := by
  have I0 := I
  obtain ⟨n, ins, a, k1, par, com, tp, tc, tq, tz, tt, cn, lat, mp, mr, sc, pa, iset, ma, mr2, sc2, C, M0, P⟩ := I
  have C0 := C
  have M00 := M0
  have P0 := P
  obtain ⟨c1, Cu, c3, c4, c5, c6, c7, ⟨md, c8, c8'⟩, ⟨wo, c9⟩, V⟩ := C
  have Cu0 := Cu
  obtain ⟨h0, h1, ⟨tx1, h2, htx1, hag1⟩, h6⟩ := Cu
  obtain ⟨g10, g11, g19, hsc2, g20, g21, g22, co, pl, mn, fi, pool, tx2, way, g12, g13, g14, g15, g16, g17, g18, M, Lp, hpool, htx2, hag2⟩ := M0
  obtain ⟨p1, p2, ha, p4, p5, hp0, T, p8, p9, p10, p11, p12⟩ := P
  have hza := T.2.1 a ha
  have hzi := p8 a ha
  have hp := fun v h0 h => T.lt (v := v) h0 h
  generalize hx : xs (i + 1) = x
  obtain ⟨ch, hch⟩ : ∃ z, (x.toUInt32 % 65536).toInt32 = z := ⟨_, rfl⟩
  have hfit : fits .char (.int ch) = true := by rw [← hch]; exact pk_fc _
  by_cases hc : zIsCh ch
  · skip
    by_cases hk40 : k1 = 40
    · skip
      show G k s0 140 [some (.ref bs), some (.ref (q 0)), some (.ref (q 10)), some (.int (nI i))] [] N q f
      refine zr_aload_n X d_L_law_140 rfl ?_
      refine zr_aload_n X d_L_law_141 rfl ?_
      refine zr_iload_n X d_L_law_142 rfl ?_
      refine zr_iconst (v := nI 1) X d_L_law_143 (by decide) ?_
      refine zr_iadd (z := nI (i + 1)) X d_L_law_144 (nI_add _ _) ?_
      refine zs_ld (v := x) S d_L_law_145 (by omega) hL hx ?_
      refine zr_i2c (v := ch) X d_L_law_146 hch ?_
      refine zr_callV X K_L_13 KI_L_13 KS_L_13 (c_B_type_f (by omega) h0 c3 hc hk40) d_L_law_147 (by omega) h0 rfl rfl (by decide) (Nat.le_of_ble_eq_true rfl) ⟨by show k + 0 ≤ 600000; omega, by show s0 + 0 ≤ 7302250; omega⟩ (st := []) rfl (kRd ?_)
      show G k s0 150 [some (.ref bs), some (.ref (q 0)), some (.ref (q 10)), some (.int (nI i))] [.int (nI 0)] N q f
      refine zr_aload_n X d_L_law_150 rfl ?_
      refine zr_aload_n X d_L_law_151 rfl ?_
      refine zr_iload_n X d_L_law_152 rfl ?_
      refine zr_iconst (v := nI 1) X d_L_law_153 (by decide) ?_
      refine zr_iadd (z := nI (i + 1)) X d_L_law_154 (nI_add _ _) ?_
      refine zs_ld (v := x) S d_L_law_155 (by omega) hL hx ?_
      refine zr_i2c (v := ch) X d_L_law_156 hch ?_
      refine zr_callV X K_L_17 KI_L_17 KS_L_17 (c_O_type_f (by omega) g10 hc hk40) d_L_law_157 (by omega) g10 rfl rfl (by decide) (Nat.le_of_ble_eq_true rfl) ⟨by show k + 0 ≤ 600000; omega, by show s0 + 0 ≤ 7302250; omega⟩ (st := [.int (nI 0)]) rfl (kRd ?_)
      show G k s0 160 [some (.ref bs), some (.ref (q 0)), some (.ref (q 10)), some (.int (nI i))] [.int (nI 0), .int (nI 0)] N q f
      refine zr_icmp_eqt (tgt := 645) X d_L_law_160 rfl rfl ?_
      exact zr_widen X (by omega) (by omega) (back N q f I0)
    · skip
      show G k s0 140 [some (.ref bs), some (.ref (q 0)), some (.ref (q 10)), some (.int (nI i))] [] N q f
      refine zr_aload_n X d_L_law_140 rfl ?_
      refine zr_aload_n X d_L_law_141 rfl ?_
      refine zr_iload_n X d_L_law_142 rfl ?_
      refine zr_iconst (v := nI 1) X d_L_law_143 (by decide) ?_
      refine zr_iadd (z := nI (i + 1)) X d_L_law_144 (nI_add _ _) ?_
      refine zs_ld (v := x) S d_L_law_145 (by omega) hL hx ?_
      refine zr_i2c (v := ch) X d_L_law_146 hch ?_
      refine zr_callV X K_L_13 KI_L_13 KS_L_13 (c_B_type_y (by omega) h0 c3 c4 hc hfit (by omega)) d_L_law_147 (by omega) h0 rfl rfl (by decide) (Nat.le_of_ble_eq_true rfl) ⟨by show k + 0 ≤ 600000; omega, by show s0 + 0 ≤ 7302250; omega⟩ (st := []) rfl (fun v9 N9 q9 f9 hr9 => ?_)
      obtain ⟨rfl, eN, eq9, rfl⟩ := hr9
      rw [eN, eq9]
      show G k s0 150 [some (.ref bs), some (.ref (q 0)), some (.ref (q 10)), some (.int (nI i))] [.int (nI 1)] N q (va_up (va_up f 4 (.inl (cC, 40, .inl (upd sc k1 ch)))) 3 (.inr (iR, [.ref (q 4), .int (nI (k1 + 1))])))
      refine zr_aload_n X d_L_law_150 rfl ?_
      refine zr_aload_n X d_L_law_151 rfl ?_
      refine zr_iload_n X d_L_law_152 rfl ?_
      refine zr_iconst (v := nI 1) X d_L_law_153 (by decide) ?_
      refine zr_iadd (z := nI (i + 1)) X d_L_law_154 (nI_add _ _) ?_
      refine zs_ld (v := x) S d_L_law_155 (by omega) hL hx ?_
      refine zr_i2c (v := ch) X d_L_law_156 hch ?_
      refine zr_callV X K_L_17 KI_L_17 KS_L_17 (c_O_type_y (by omega) (up_ne (by decide) (up_ne (by decide) g10)) (up_ne (by decide) (up_ne (by decide) g19)) hc hfit (by omega)) d_L_law_157 (by omega) (up_ne (by decide) (up_ne (by decide) g10)) rfl rfl (by decide) (Nat.le_of_ble_eq_true rfl) ⟨by show k + 0 ≤ 600000; omega, by show s0 + 0 ≤ 7302250; omega⟩ (st := [.int (nI 1)]) rfl (fun v9 N9 q9 f9 hr9 => ?_)
      obtain ⟨rfl, eN, eq9, rfl⟩ := hr9
      rw [eN, eq9]
      show G k s0 160 [some (.ref bs), some (.ref (q 0)), some (.ref (q 10)), some (.int (nI i))] [.int (nI 1), .int (nI 1)] N q (va_up (va_up (va_up (va_up f 4 (.inl (cC, 40, .inl (upd sc k1 ch)))) 3 (.inr (iR, [.ref (q 4), .int (nI (k1 + 1))]))) 19 (.inl (cC, 40, .inl (upd sc2 k1 ch)))) 10 (.inr (iO, [.int (nI n), .ref (q 11), .ref (q 12), .ref (q 13), .ref (q 14), .ref (q 15), .int (nI ins), .ref (q 16), .int (nI a), .int (nI (tz a)), .ref (q 17), .ref (q 18), .int (nI (k1 + 1)), .ref (q 19), .ref (q 20), .ref (q 21), .ref (q 22)])))
      refine zr_icmp_eqt (tgt := 645) X d_L_law_160 rfl rfl ?_
      exact zr_widen X (by omega) (by omega) (back N q _ ⟨n, ins, a, k1 + 1, par, com, tp, tc, tq, tz, tt, cn, lat, mp, mr, upd sc k1 ch, pa, iset, ma, mr2, upd sc2 k1 ch, (C0.scr up_eq (up_ne (by decide) up_eq) (zCh_upd c5 hfit) (fun jj a b => up_ne a (up_ne b rfl))).keep (fun jj h => up_ne (by omega) (up_ne (by omega) rfl)), (M00.keep (fun jj h1 h2 => up_ne (by omega) (up_ne (by omega) rfl))).scr up_eq (up_ne (by decide) up_eq) (zCh_upd hsc2 hfit) (fun jj a b => up_ne a (up_ne b rfl)), P0.scr (by omega) (fun j hj => by
        by_cases hjk : j = k1
        · rw [hjk, pk_us, pk_us]
        · rw [pk_un hjk, pk_un hjk]
          exact p10 j (by omega))⟩)
  · skip
    show G k s0 140 [some (.ref bs), some (.ref (q 0)), some (.ref (q 10)), some (.int (nI i))] [] N q f
    refine zr_aload_n X d_L_law_140 rfl ?_
    refine zr_aload_n X d_L_law_141 rfl ?_
    refine zr_iload_n X d_L_law_142 rfl ?_
    refine zr_iconst (v := nI 1) X d_L_law_143 (by decide) ?_
    refine zr_iadd (z := nI (i + 1)) X d_L_law_144 (nI_add _ _) ?_
    refine zs_ld (v := x) S d_L_law_145 (by omega) hL hx ?_
    refine zr_i2c (v := ch) X d_L_law_146 hch ?_
    refine zr_callV X K_L_13 KI_L_13 KS_L_13 (c_B_type_n (by omega) h0 hc) d_L_law_147 (by omega) h0 rfl rfl (by decide) (Nat.le_of_ble_eq_true rfl) ⟨by show k + 0 ≤ 600000; omega, by show s0 + 0 ≤ 7302250; omega⟩ (st := []) rfl (kRd ?_)
    show G k s0 150 [some (.ref bs), some (.ref (q 0)), some (.ref (q 10)), some (.int (nI i))] [.int (nI 0)] N q f
    refine zr_aload_n X d_L_law_150 rfl ?_
    refine zr_aload_n X d_L_law_151 rfl ?_
    refine zr_iload_n X d_L_law_152 rfl ?_
    refine zr_iconst (v := nI 1) X d_L_law_153 (by decide) ?_
    refine zr_iadd (z := nI (i + 1)) X d_L_law_154 (nI_add _ _) ?_
    refine zs_ld (v := x) S d_L_law_155 (by omega) hL hx ?_
    refine zr_i2c (v := ch) X d_L_law_156 hch ?_
    refine zr_callV X K_L_17 KI_L_17 KS_L_17 (c_O_type_n (by omega) g10 hc) d_L_law_157 (by omega) g10 rfl rfl (by decide) (Nat.le_of_ble_eq_true rfl) ⟨by show k + 0 ≤ 600000; omega, by show s0 + 0 ≤ 7302250; omega⟩ (st := [.int (nI 0)]) rfl (kRd ?_)
    show G k s0 160 [some (.ref bs), some (.ref (q 0)), some (.ref (q 10)), some (.int (nI i))] [.int (nI 0), .int (nI 0)] N q f
    refine zr_icmp_eqt (tgt := 645) X d_L_law_160 rfl rfl ?_
    exact zr_widen X (by omega) (by omega) (back N q f I0)

set_option maxRecDepth 100000 in
set_option maxHeartbeats 4000000 in
theorem L_1 {G : zT} {l : Launch} {D : va_G} {cI cC cZ cV : ClassId} {nm : String} {bs L : Nat} {xs : Nat → Int32} (X : zOK G l room_1 code 4 R_L nm D (zty cI cC cZ cV)) (S : zLW G bs L xs) {N : Nat} {q : Nat → Nat} {f : zF} {k s0 i : Nat} (hL : L ≤ 2048) (hi : i + 3 < L) (hk : k + 2 ≤ 600000) (hs : s0 + 2007 ≤ 7302250) (I : zInv cI cC cZ cV N q f) (back : ∀ (N' : Nat) (q' : Nat → Nat) (f' : zF), zInv cI cC cZ cV N' q' f' → G (k + 2) (s0 + 2007) 645 [some (.ref bs), some (.ref (q' 0)), some (.ref (q' 10)), some (.int (nI i))] [] N' q' f') : G k s0 165 [some (.ref bs), some (.ref (q 0)), some (.ref (q 10)), some (.int (nI i))] [] N q f := by
  have I0 := I
  obtain ⟨n, ins, a, k1, par, com, tp, tc, tq, tz, tt, cn, lat, mp, mr, sc, pa, iset, ma, mr2, sc2, C, M0, P⟩ := I
  have C0 := C
  have M00 := M0
  have P0 := P
  obtain ⟨c1, Cu, c3, c4, c5, c6, c7, ⟨md, c8, c8'⟩, ⟨wo, c9⟩, V⟩ := C
  have Cu0 := Cu
  obtain ⟨h0, h1, ⟨tx1, h2, htx1, hag1⟩, h6⟩ := Cu
  obtain ⟨g10, g11, g19, hsc2, g20, g21, g22, co, pl, mn, fi, pool, tx2, way, g12, g13, g14, g15, g16, g17, g18, M, Lp, hpool, htx2, hag2⟩ := M0
  obtain ⟨p1, p2, ha, p4, p5, hp0, T, p8, p9, p10, p11, p12⟩ := P
  have hza := T.2.1 a ha
  have hzi := p8 a ha
  have hp := fun v h0 h => T.lt (v := v) h0 h
  show G k s0 165 [some (.ref bs), some (.ref (q 0)), some (.ref (q 10)), some (.int (nI i))] [] N q f
  refine zr_aload_n X d_L_law_165 rfl ?_
  refine zr_callV X K_L_18 KI_L_18 KS_L_18 (c_B_wipe (by omega) h0 c3) d_L_law_166 (by omega) h0 rfl rfl (by decide) (Nat.le_of_ble_eq_true rfl) ⟨by show k + 0 ≤ 600000; omega, by show s0 + 0 ≤ 7302250; omega⟩ (st := []) rfl (kW ?_)
  show G k s0 169 [some (.ref bs), some (.ref (q 0)), some (.ref (q 10)), some (.int (nI i))] [] N q (va_up f 3 (.inr (iR, [.ref (q 4), .int (nI 0)])))
  refine zr_aload_n X d_L_law_169 rfl ?_
  refine zr_callV X K_L_21 KI_L_21 KS_L_21 (c_O_wipe (by omega) (up_ne (by decide) g10)) d_L_law_170 (by omega) (up_ne (by decide) g10) rfl rfl (by decide) (Nat.le_of_ble_eq_true rfl) ⟨by show k + 0 ≤ 600000; omega, by show s0 + 0 ≤ 7302250; omega⟩ (st := []) rfl (kW ?_)
  show G k s0 173 [some (.ref bs), some (.ref (q 0)), some (.ref (q 10)), some (.int (nI i))] [] N q (va_up (va_up f 3 (.inr (iR, [.ref (q 4), .int (nI 0)]))) 10 (.inr (iO, [.int (nI n), .ref (q 11), .ref (q 12), .ref (q 13), .ref (q 14), .ref (q 15), .int (nI ins), .ref (q 16), .int (nI a), .int (nI (tz a)), .ref (q 17), .ref (q 18), .int (nI 0), .ref (q 19), .ref (q 20), .ref (q 21), .ref (q 22)])))
  refine zr_goto (tgt := 645) X d_L_law_173 rfl ?_
  exact zr_widen X (by omega) (by omega) (back N q _ ⟨n, ins, a, 0, par, com, tp, tc, tq, tz, tt, cn, lat, mp, mr, sc, pa, iset, ma, mr2, sc2, (C0.scr up_eq (up_ne (by decide) c4) c5 (fun jj a b => up_ne a rfl)).keep (fun jj h => up_ne (by omega) rfl), (M00.keep (fun jj h1 h2 => up_ne (by omega) rfl)).scr up_eq (up_ne (by decide) (up_ne (by decide) g19)) hsc2 (fun jj a b => up_ne a rfl), P0.scr (by omega) (fun j hj => absurd hj (Nat.not_lt_zero _))⟩)

set_option maxRecDepth 100000 in
set_option maxHeartbeats 4000000 in
theorem L_2 {G : zT} {l : Launch} {D : va_G} {cI cC cZ cV : ClassId} {nm : String} {bs L : Nat} {xs : Nat → Int32} (X : zOK G l room_1 code 4 R_L nm D (zty cI cC cZ cV)) (S : zLW G bs L xs) {N : Nat} {q : Nat → Nat} {f : zF} {k s0 i : Nat} (hL : L ≤ 2048) (hi : i + 3 < L) (hk : k + 2 ≤ 600000) (hs : s0 + 2007 ≤ 7302250) (I : zInv cI cC cZ cV N q f) (back : ∀ (N' : Nat) (q' : Nat → Nat) (f' : zF), zInv cI cC cZ cV N' q' f' → G (k + 2) (s0 + 2007) 645 [some (.ref bs), some (.ref (q' 0)), some (.ref (q' 10)), some (.int (nI i))] [] N' q' f') : G k s0 176 [some (.ref bs), some (.ref (q 0)), some (.ref (q 10)), some (.int (nI i))] [] N q f := by
  have I0 := I
  obtain ⟨n, ins, a, k1, par, com, tp, tc, tq, tz, tt, cn, lat, mp, mr, sc, pa, iset, ma, mr2, sc2, C, M0, P⟩ := I
  have C0 := C
  have M00 := M0
  have P0 := P
  obtain ⟨c1, Cu, c3, c4, c5, c6, c7, ⟨md, c8, c8'⟩, ⟨wo, c9⟩, V⟩ := C
  have Cu0 := Cu
  obtain ⟨h0, h1, ⟨tx1, h2, htx1, hag1⟩, h6⟩ := Cu
  obtain ⟨g10, g11, g19, hsc2, g20, g21, g22, co, pl, mn, fi, pool, tx2, way, g12, g13, g14, g15, g16, g17, g18, M, Lp, hpool, htx2, hag2⟩ := M0
  obtain ⟨p1, p2, ha, p4, p5, hp0, T, p8, p9, p10, p11, p12⟩ := P
  have hza := T.2.1 a ha
  have hzi := p8 a ha
  have hp := fun v h0 h => T.lt (v := v) h0 h
  show G k s0 176 [some (.ref bs), some (.ref (q 0)), some (.ref (q 10)), some (.int (nI i))] [] N q f
  refine zr_aload_n X d_L_law_176 rfl ?_
  refine zr_callV X K_L_22 KI_L_22 KS_L_22 (c_B_scratch (by omega) h0 c3) d_L_law_177 (by omega) h0 rfl rfl (by decide) (Nat.le_of_ble_eq_true rfl) ⟨by show k + 0 ≤ 600000; omega, by show s0 + 0 ≤ 7302250; omega⟩ (st := []) rfl (kRd ?_)
  show G k s0 180 [some (.ref bs), some (.ref (q 0)), some (.ref (q 10)), some (.int (nI i))] [.int (nI k1)] N q f
  refine zr_aload_n X d_L_law_180 rfl ?_
  refine zr_callV X K_L_26 KI_L_26 KS_L_26 (c_O_scratch (by omega) g10) d_L_law_181 (by omega) g10 rfl rfl (by decide) (Nat.le_of_ble_eq_true rfl) ⟨by show k + 0 ≤ 600000; omega, by show s0 + 0 ≤ 7302250; omega⟩ (st := [.int (nI k1)]) rfl (kRd ?_)
  show G k s0 184 [some (.ref bs), some (.ref (q 0)), some (.ref (q 10)), some (.int (nI i))] [.int (nI k1), .int (nI k1)] N q f
  refine zr_icmp_eqt (tgt := 645) X d_L_law_184 rfl rfl ?_
  exact zr_widen X (by omega) (by omega) (back N q f I0)

set_option maxRecDepth 100000 in
set_option maxHeartbeats 4000000 in
theorem L_3 {G : zT} {l : Launch} {D : va_G} {cI cC cZ cV : ClassId} {nm : String} {bs L : Nat} {xs : Nat → Int32} (X : zOK G l room_1 code 4 R_L nm D (zty cI cC cZ cV)) (S : zLW G bs L xs) {N : Nat} {q : Nat → Nat} {f : zF} {k s0 i : Nat} (hL : L ≤ 2048) (hi : i + 3 < L) (hk : k + 2 ≤ 600000) (hs : s0 + 2007 ≤ 7302250) (I : zInv cI cC cZ cV N q f) (back : ∀ (N' : Nat) (q' : Nat → Nat) (f' : zF), zInv cI cC cZ cV N' q' f' → G (k + 2) (s0 + 2007) 645 [some (.ref bs), some (.ref (q' 0)), some (.ref (q' 10)), some (.int (nI i))] [] N' q' f') : G k s0 189 [some (.ref bs), some (.ref (q 0)), some (.ref (q 10)), some (.int (nI i))] [] N q f := by
  have I0 := I
  obtain ⟨n, ins, a, k1, par, com, tp, tc, tq, tz, tt, cn, lat, mp, mr, sc, pa, iset, ma, mr2, sc2, C, M0, P⟩ := I
  have C0 := C
  have M00 := M0
  have P0 := P
  obtain ⟨c1, Cu, c3, c4, c5, c6, c7, ⟨md, c8, c8'⟩, ⟨wo, c9⟩, V⟩ := C
  have Cu0 := Cu
  obtain ⟨h0, h1, ⟨tx1, h2, htx1, hag1⟩, h6⟩ := Cu
  obtain ⟨g10, g11, g19, hsc2, g20, g21, g22, co, pl, mn, fi, pool, tx2, way, g12, g13, g14, g15, g16, g17, g18, M, Lp, hpool, htx2, hag2⟩ := M0
  obtain ⟨p1, p2, ha, p4, p5, hp0, T, p8, p9, p10, p11, p12⟩ := P
  have hza := T.2.1 a ha
  have hzi := p8 a ha
  have hp := fun v h0 h => T.lt (v := v) h0 h
  generalize hx : xs (i + 1) = x
  generalize hy : xs (i + 2) = y
  rcases z_posS x y (n := tz a) (by omega) with ⟨p, c, hpc, rfl, rfl⟩ | hno
  · skip
    by_cases hc40 : c ≤ 40
    · skip
      show G k s0 189 [some (.ref bs), some (.ref (q 0)), some (.ref (q 10)), some (.int (nI i))] [] N q f
      refine zr_aload_n X d_L_law_189 rfl ?_
      refine zr_aload_n X d_L_law_190 rfl ?_
      refine zr_iload_n X d_L_law_191 rfl ?_
      refine zr_iconst (v := nI 1) X d_L_law_192 (by decide) ?_
      refine zr_iadd (z := nI (i + 1)) X d_L_law_193 (nI_add _ _) ?_
      refine zs_ld (v := nI p) S d_L_law_194 (by omega) hL hx ?_
      refine zr_aload_n X d_L_law_195 rfl ?_
      refine zr_iload_n X d_L_law_196 rfl ?_
      refine zr_iconst (v := nI 2) X d_L_law_197 (by decide) ?_
      refine zr_iadd (z := nI (i + 2)) X d_L_law_198 (nI_add _ _) ?_
      refine zs_ld (v := nI c) S d_L_law_199 (by omega) hL hy ?_
      refine zr_callV X K_L_27 KI_L_27 KS_L_27 (c_B_copy_y (by omega) h0 h1 h2 c3 c4 htx1 (by omega) hpc hc40) d_L_law_200 (by omega) h0 rfl rfl (by decide) (Nat.le_of_ble_eq_true rfl) ⟨by show k + 0 ≤ 600000; omega, by show s0 + 0 ≤ 7302250; omega⟩ (st := []) rfl (fun v9 N9 q9 f9 hr9 => ?_)
      obtain ⟨rfl, eN, eq9, rfl⟩ := hr9
      rw [eN, eq9]
      show G k s0 203 [some (.ref bs), some (.ref (q 0)), some (.ref (q 10)), some (.int (nI i))] [.int (nI c)] N q (va_up (va_up f 4 (.inl (cC, 40, .inl (va_cpy tx1 sc p 0 c)))) 3 (.inr (iR, [.ref (q 4), .int (nI c)])))
      refine zr_aload_n X d_L_law_203 rfl ?_
      refine zr_aload_n X d_L_law_204 rfl ?_
      refine zr_iload_n X d_L_law_205 rfl ?_
      refine zr_iconst (v := nI 1) X d_L_law_206 (by decide) ?_
      refine zr_iadd (z := nI (i + 1)) X d_L_law_207 (nI_add _ _) ?_
      refine zs_ld (v := nI p) S d_L_law_208 (by omega) hL hx ?_
      refine zr_aload_n X d_L_law_209 rfl ?_
      refine zr_iload_n X d_L_law_210 rfl ?_
      refine zr_iconst (v := nI 2) X d_L_law_211 (by decide) ?_
      refine zr_iadd (z := nI (i + 2)) X d_L_law_212 (nI_add _ _) ?_
      refine zs_ld (v := nI c) S d_L_law_213 (by omega) hL hy ?_
      refine zr_callV X K_L_31 KI_L_31 KS_L_31 (c_O_copy_y (by omega) (up_ne (by decide) (up_ne (by decide) g10)) (up_ne (by decide) (up_ne (by decide) g17)) (up_ne (by decide) (up_ne (by decide) g19)) htx2 (by omega) hpc hc40) d_L_law_214 (by omega) (up_ne (by decide) (up_ne (by decide) g10)) rfl rfl (by decide) (Nat.le_of_ble_eq_true rfl) ⟨by show k + 0 ≤ 600000; omega, by show s0 + 0 ≤ 7302250; omega⟩ (st := [.int (nI c)]) rfl (fun v9 N9 q9 f9 hr9 => ?_)
      obtain ⟨rfl, eN, eq9, rfl⟩ := hr9
      rw [eN, eq9]
      show G k s0 217 [some (.ref bs), some (.ref (q 0)), some (.ref (q 10)), some (.int (nI i))] [.int (nI c), .int (nI c)] N q (va_up (va_up (va_up (va_up f 4 (.inl (cC, 40, .inl (va_cpy tx1 sc p 0 c)))) 3 (.inr (iR, [.ref (q 4), .int (nI c)]))) 19 (.inl (cC, 40, .inl (va_cpy tx2 sc2 p 0 c)))) 10 (.inr (iO, [.int (nI n), .ref (q 11), .ref (q 12), .ref (q 13), .ref (q 14), .ref (q 15), .int (nI ins), .ref (q 16), .int (nI a), .int (nI (tz a)), .ref (q 17), .ref (q 18), .int (nI c), .ref (q 19), .ref (q 20), .ref (q 21), .ref (q 22)])))
      refine zr_icmp_eqt (tgt := 645) X d_L_law_217 rfl rfl ?_
      exact zr_widen X (by omega) (by omega) (back N q _ ⟨n, ins, a, c, par, com, tp, tc, tq, tz, tt, cn, lat, mp, mr, va_cpy tx1 sc p 0 c, pa, iset, ma, mr2, va_cpy tx2 sc2 p 0 c, (C0.scr up_eq (up_ne (by decide) up_eq) (zCh.cpy htx1 c5) (fun jj a b => up_ne a (up_ne b rfl))).keep (fun jj h => up_ne (by omega) (up_ne (by omega) rfl)), (M00.keep (fun jj h1 h2 => up_ne (by omega) (up_ne (by omega) rfl))).scr up_eq (up_ne (by decide) up_eq) (zCh.cpy htx2 hsc2) (fun jj a b => up_ne a (up_ne b rfl)), P0.scr hc40 (fun j hj => by
        rw [pk_cpy_in (by omega) (by omega), pk_cpy_in (by omega) (by omega), hag1 _ (by omega), hag2 _ (by omega)])⟩)
    · skip
      show G k s0 189 [some (.ref bs), some (.ref (q 0)), some (.ref (q 10)), some (.int (nI i))] [] N q f
      refine zr_aload_n X d_L_law_189 rfl ?_
      refine zr_aload_n X d_L_law_190 rfl ?_
      refine zr_iload_n X d_L_law_191 rfl ?_
      refine zr_iconst (v := nI 1) X d_L_law_192 (by decide) ?_
      refine zr_iadd (z := nI (i + 1)) X d_L_law_193 (nI_add _ _) ?_
      refine zs_ld (v := nI p) S d_L_law_194 (by omega) hL hx ?_
      refine zr_aload_n X d_L_law_195 rfl ?_
      refine zr_iload_n X d_L_law_196 rfl ?_
      refine zr_iconst (v := nI 2) X d_L_law_197 (by decide) ?_
      refine zr_iadd (z := nI (i + 2)) X d_L_law_198 (nI_add _ _) ?_
      refine zs_ld (v := nI c) S d_L_law_199 (by omega) hL hy ?_
      refine zr_callV X K_L_27 KI_L_27 KS_L_27 (c_B_copy_n2 (by omega) h0 h1 (by omega) hpc (by omega)) d_L_law_200 (by omega) h0 rfl rfl (by decide) (Nat.le_of_ble_eq_true rfl) ⟨by show k + 0 ≤ 600000; omega, by show s0 + 0 ≤ 7302250; omega⟩ (st := []) rfl (kRd ?_)
      show G k s0 203 [some (.ref bs), some (.ref (q 0)), some (.ref (q 10)), some (.int (nI i))] [.int (-1)] N q f
      refine zr_aload_n X d_L_law_203 rfl ?_
      refine zr_aload_n X d_L_law_204 rfl ?_
      refine zr_iload_n X d_L_law_205 rfl ?_
      refine zr_iconst (v := nI 1) X d_L_law_206 (by decide) ?_
      refine zr_iadd (z := nI (i + 1)) X d_L_law_207 (nI_add _ _) ?_
      refine zs_ld (v := nI p) S d_L_law_208 (by omega) hL hx ?_
      refine zr_aload_n X d_L_law_209 rfl ?_
      refine zr_iload_n X d_L_law_210 rfl ?_
      refine zr_iconst (v := nI 2) X d_L_law_211 (by decide) ?_
      refine zr_iadd (z := nI (i + 2)) X d_L_law_212 (nI_add _ _) ?_
      refine zs_ld (v := nI c) S d_L_law_213 (by omega) hL hy ?_
      refine zr_callV X K_L_31 KI_L_31 KS_L_31 (c_O_copy_n2 (by omega) g10 (by omega) hpc (by omega)) d_L_law_214 (by omega) g10 rfl rfl (by decide) (Nat.le_of_ble_eq_true rfl) ⟨by show k + 0 ≤ 600000; omega, by show s0 + 0 ≤ 7302250; omega⟩ (st := [.int (-1)]) rfl (kRd ?_)
      show G k s0 217 [some (.ref bs), some (.ref (q 0)), some (.ref (q 10)), some (.int (nI i))] [.int (-1), .int (-1)] N q f
      refine zr_icmp_eqt (tgt := 645) X d_L_law_217 rfl rfl ?_
      exact zr_widen X (by omega) (by omega) (back N q f I0)
  · skip
    show G k s0 189 [some (.ref bs), some (.ref (q 0)), some (.ref (q 10)), some (.int (nI i))] [] N q f
    refine zr_aload_n X d_L_law_189 rfl ?_
    refine zr_aload_n X d_L_law_190 rfl ?_
    refine zr_iload_n X d_L_law_191 rfl ?_
    refine zr_iconst (v := nI 1) X d_L_law_192 (by decide) ?_
    refine zr_iadd (z := nI (i + 1)) X d_L_law_193 (nI_add _ _) ?_
    refine zs_ld (v := x) S d_L_law_194 (by omega) hL hx ?_
    refine zr_aload_n X d_L_law_195 rfl ?_
    refine zr_iload_n X d_L_law_196 rfl ?_
    refine zr_iconst (v := nI 2) X d_L_law_197 (by decide) ?_
    refine zr_iadd (z := nI (i + 2)) X d_L_law_198 (nI_add _ _) ?_
    refine zs_ld (v := y) S d_L_law_199 (by omega) hL hy ?_
    refine zr_callV X K_L_27 KI_L_27 KS_L_27 (c_B_copy_n1 (by omega) h0 h1 (by omega) hno) d_L_law_200 (by omega) h0 rfl rfl (by decide) (Nat.le_of_ble_eq_true rfl) ⟨by show k + 0 ≤ 600000; omega, by show s0 + 0 ≤ 7302250; omega⟩ (st := []) rfl (kRd ?_)
    show G k s0 203 [some (.ref bs), some (.ref (q 0)), some (.ref (q 10)), some (.int (nI i))] [.int (-1)] N q f
    refine zr_aload_n X d_L_law_203 rfl ?_
    refine zr_aload_n X d_L_law_204 rfl ?_
    refine zr_iload_n X d_L_law_205 rfl ?_
    refine zr_iconst (v := nI 1) X d_L_law_206 (by decide) ?_
    refine zr_iadd (z := nI (i + 1)) X d_L_law_207 (nI_add _ _) ?_
    refine zs_ld (v := x) S d_L_law_208 (by omega) hL hx ?_
    refine zr_aload_n X d_L_law_209 rfl ?_
    refine zr_iload_n X d_L_law_210 rfl ?_
    refine zr_iconst (v := nI 2) X d_L_law_211 (by decide) ?_
    refine zr_iadd (z := nI (i + 2)) X d_L_law_212 (nI_add _ _) ?_
    refine zs_ld (v := y) S d_L_law_213 (by omega) hL hy ?_
    refine zr_callV X K_L_31 KI_L_31 KS_L_31 (c_O_copy_n1 (by omega) g10 (by omega) hno) d_L_law_214 (by omega) g10 rfl rfl (by decide) (Nat.le_of_ble_eq_true rfl) ⟨by show k + 0 ≤ 600000; omega, by show s0 + 0 ≤ 7302250; omega⟩ (st := [.int (-1)]) rfl (kRd ?_)
    show G k s0 217 [some (.ref bs), some (.ref (q 0)), some (.ref (q 10)), some (.int (nI i))] [.int (-1), .int (-1)] N q f
    refine zr_icmp_eqt (tgt := 645) X d_L_law_217 rfl rfl ?_
    exact zr_widen X (by omega) (by omega) (back N q f I0)

set_option maxRecDepth 100000 in
set_option maxHeartbeats 4000000 in
theorem L_9 {G : zT} {l : Launch} {D : va_G} {cI cC cZ cV : ClassId} {nm : String} {bs L : Nat} {xs : Nat → Int32} (X : zOK G l room_1 code 4 R_L nm D (zty cI cC cZ cV)) (S : zLW G bs L xs) {N : Nat} {q : Nat → Nat} {f : zF} {k s0 i : Nat} (hL : L ≤ 2048) (hi : i + 3 < L) (hk : k + 2 ≤ 600000) (hs : s0 + 2007 ≤ 7302250) (I : zInv cI cC cZ cV N q f) (back : ∀ (N' : Nat) (q' : Nat → Nat) (f' : zF), zInv cI cC cZ cV N' q' f' → G (k + 2) (s0 + 2007) 645 [some (.ref bs), some (.ref (q' 0)), some (.ref (q' 10)), some (.int (nI i))] [] N' q' f') : G k s0 327 [some (.ref bs), some (.ref (q 0)), some (.ref (q 10)), some (.int (nI i))] [] N q f := by
  have I0 := I
  obtain ⟨n, ins, a, k1, par, com, tp, tc, tq, tz, tt, cn, lat, mp, mr, sc, pa, iset, ma, mr2, sc2, C, M0, P⟩ := I
  have C0 := C
  have M00 := M0
  have P0 := P
  obtain ⟨c1, Cu, c3, c4, c5, c6, c7, ⟨md, c8, c8'⟩, ⟨wo, c9⟩, V⟩ := C
  have Cu0 := Cu
  obtain ⟨h0, h1, ⟨tx1, h2, htx1, hag1⟩, h6⟩ := Cu
  obtain ⟨g10, g11, g19, hsc2, g20, g21, g22, co, pl, mn, fi, pool, tx2, way, g12, g13, g14, g15, g16, g17, g18, M, Lp, hpool, htx2, hag2⟩ := M0
  obtain ⟨p1, p2, ha, p4, p5, hp0, T, p8, p9, p10, p11, p12⟩ := P
  have hza := T.2.1 a ha
  have hzi := p8 a ha
  have hp := fun v h0 h => T.lt (v := v) h0 h
  show G k s0 327 [some (.ref bs), some (.ref (q 0)), some (.ref (q 10)), some (.int (nI i))] [] N q f
  refine zr_aload_n X d_L_law_327 rfl ?_
  refine zr_callV X K_L_53 KI_L_53 KS_L_53 (c_B_version (by omega) h0 (by omega) (V a ha).1) d_L_law_328 (by omega) h0 rfl rfl (by decide) (Nat.le_of_ble_eq_true rfl) ⟨by show k + 0 ≤ 600000; omega, by show s0 + 0 ≤ 7302250; omega⟩ (st := []) rfl (kRd ?_)
  show G k s0 331 [some (.ref bs), some (.ref (q 0)), some (.ref (q 10)), some (.int (nI i))] [.int (nI a)] N q f
  refine zr_aload_n X d_L_law_331 rfl ?_
  refine zr_callV X K_L_56 KI_L_56 KS_L_56 (c_O_version (by omega) g10) d_L_law_332 (by omega) g10 rfl rfl (by decide) (Nat.le_of_ble_eq_true rfl) ⟨by show k + 0 ≤ 600000; omega, by show s0 + 0 ≤ 7302250; omega⟩ (st := [.int (nI a)]) rfl (kRd ?_)
  show G k s0 335 [some (.ref bs), some (.ref (q 0)), some (.ref (q 10)), some (.int (nI i))] [.int (nI a), .int (nI a)] N q f
  refine zr_icmp_eqt (tgt := 645) X d_L_law_335 rfl rfl ?_
  exact zr_widen X (by omega) (by omega) (back N q f I0)

set_option maxRecDepth 100000 in
set_option maxHeartbeats 4000000 in
theorem L_10 {G : zT} {l : Launch} {D : va_G} {cI cC cZ cV : ClassId} {nm : String} {bs L : Nat} {xs : Nat → Int32} (X : zOK G l room_1 code 4 R_L nm D (zty cI cC cZ cV)) (S : zLW G bs L xs) {N : Nat} {q : Nat → Nat} {f : zF} {k s0 i : Nat} (hL : L ≤ 2048) (hi : i + 3 < L) (hk : k + 2 ≤ 600000) (hs : s0 + 2007 ≤ 7302250) (I : zInv cI cC cZ cV N q f) (back : ∀ (N' : Nat) (q' : Nat → Nat) (f' : zF), zInv cI cC cZ cV N' q' f' → G (k + 2) (s0 + 2007) 645 [some (.ref bs), some (.ref (q' 0)), some (.ref (q' 10)), some (.int (nI i))] [] N' q' f') : G k s0 340 [some (.ref bs), some (.ref (q 0)), some (.ref (q 10)), some (.int (nI i))] [] N q f := by
  have I0 := I
  obtain ⟨n, ins, a, k1, par, com, tp, tc, tq, tz, tt, cn, lat, mp, mr, sc, pa, iset, ma, mr2, sc2, C, M0, P⟩ := I
  have C0 := C
  have M00 := M0
  have P0 := P
  obtain ⟨c1, Cu, c3, c4, c5, c6, c7, ⟨md, c8, c8'⟩, ⟨wo, c9⟩, V⟩ := C
  have Cu0 := Cu
  obtain ⟨h0, h1, ⟨tx1, h2, htx1, hag1⟩, h6⟩ := Cu
  obtain ⟨g10, g11, g19, hsc2, g20, g21, g22, co, pl, mn, fi, pool, tx2, way, g12, g13, g14, g15, g16, g17, g18, M, Lp, hpool, htx2, hag2⟩ := M0
  obtain ⟨p1, p2, ha, p4, p5, hp0, T, p8, p9, p10, p11, p12⟩ := P
  have hza := T.2.1 a ha
  have hzi := p8 a ha
  have hp := fun v h0 h => T.lt (v := v) h0 h
  show G k s0 340 [some (.ref bs), some (.ref (q 0)), some (.ref (q 10)), some (.int (nI i))] [] N q f
  refine zr_aload_n X d_L_law_340 rfl ?_
  refine zr_callV X K_L_57 KI_L_57 KS_L_57 (c_B_versions (by omega) h0) d_L_law_341 (by omega) h0 rfl rfl (by decide) (Nat.le_of_ble_eq_true rfl) ⟨by show k + 0 ≤ 600000; omega, by show s0 + 0 ≤ 7302250; omega⟩ (st := []) rfl (kRd ?_)
  show G k s0 344 [some (.ref bs), some (.ref (q 0)), some (.ref (q 10)), some (.int (nI i))] [.int (nI n)] N q f
  refine zr_aload_n X d_L_law_344 rfl ?_
  refine zr_callV X K_L_60 KI_L_60 KS_L_60 (c_O_versions (by omega) g10) d_L_law_345 (by omega) g10 rfl rfl (by decide) (Nat.le_of_ble_eq_true rfl) ⟨by show k + 0 ≤ 600000; omega, by show s0 + 0 ≤ 7302250; omega⟩ (st := [.int (nI n)]) rfl (kRd ?_)
  show G k s0 348 [some (.ref bs), some (.ref (q 0)), some (.ref (q 10)), some (.int (nI i))] [.int (nI n), .int (nI n)] N q f
  refine zr_icmp_eqt (tgt := 645) X d_L_law_348 rfl rfl ?_
  exact zr_widen X (by omega) (by omega) (back N q f I0)
end
