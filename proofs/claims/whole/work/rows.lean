section
-- ===== PART A: goes FIRST, ahead of the names: the tables' words, and 'selects' of the private methods out of them =====
/-- a private method of a class that the tables say can be made, by its rows of tables_1 -/
def lw_okq (q : MethodName × Nat) : Prop := (q.1.cls ≠ "java/lang/invoke/MethodHandle" ∧ q.1.cls ≠ "java/lang/invoke/VarHandle") ∧ Cond.instantiable q.1.cls q.2 ∈ tables_1 ∧ Cond.privateMethod q.1 ∈ tables_1 ∧ Cond.instanceMethod q.1 ∈ tables_1
theorem lw_p0 : lw_okq (⟨"IssueRows", "hasOrdinal", "(II)Z"⟩, 8) := ⟨⟨by decide +kernel, by decide +kernel⟩, List.mem_of_getElem? (i := 15) (by decide +kernel), List.mem_of_getElem? (i := 145) (by decide +kernel), List.mem_of_getElem? (i := 146) (by decide +kernel)⟩
theorem lw_p1 : lw_okq (⟨"IssueRows", "keep", "(LIssueRows$Issue;)V"⟩, 8) := ⟨⟨by decide +kernel, by decide +kernel⟩, List.mem_of_getElem? (i := 15) (by decide +kernel), List.mem_of_getElem? (i := 234) (by decide +kernel), List.mem_of_getElem? (i := 235) (by decide +kernel)⟩
theorem lw_p2 : lw_okq (⟨"IssueRows", "find", "(I)LIssueRows$Issue;"⟩, 8) := ⟨⟨by decide +kernel, by decide +kernel⟩, List.mem_of_getElem? (i := 15) (by decide +kernel), List.mem_of_getElem? (i := 242) (by decide +kernel), List.mem_of_getElem? (i := 243) (by decide +kernel)⟩
theorem lw_p3 : lw_okq (⟨"IssueRows", "claimIfDue", "(LIssueRows$Issue;I)V"⟩, 8) := ⟨⟨by decide +kernel, by decide +kernel⟩, List.mem_of_getElem? (i := 15) (by decide +kernel), List.mem_of_getElem? (i := 266) (by decide +kernel), List.mem_of_getElem? (i := 267) (by decide +kernel)⟩
theorem lw_p4 : lw_okq (⟨"IssueRows", "isBindable", "(II)Z"⟩, 8) := ⟨⟨by decide +kernel, by decide +kernel⟩, List.mem_of_getElem? (i := 15) (by decide +kernel), List.mem_of_getElem? (i := 333) (by decide +kernel), List.mem_of_getElem? (i := 334) (by decide +kernel)⟩
theorem lw_p5 : lw_okq (⟨"IssueRows", "bindNext", "(II)I"⟩, 8) := ⟨⟨by decide +kernel, by decide +kernel⟩, List.mem_of_getElem? (i := 15) (by decide +kernel), List.mem_of_getElem? (i := 341) (by decide +kernel), List.mem_of_getElem? (i := 342) (by decide +kernel)⟩
theorem lw_p6 : lw_okq (⟨"java/lang/Throwable", "fillInStackTrace", "(I)Ljava/lang/Throwable;"⟩, 6) := ⟨⟨by decide +kernel, by decide +kernel⟩, List.mem_of_getElem? (i := 452) (by decide +kernel), List.mem_of_getElem? (i := 450) (by decide +kernel), List.mem_of_getElem? (i := 451) (by decide +kernel)⟩
theorem lw_p7 : lw_okq (⟨"IssueRowsModel", "lay", "(III)I"⟩, 33) := ⟨⟨by decide +kernel, by decide +kernel⟩, List.mem_of_getElem? (i := 517) (by decide +kernel), List.mem_of_getElem? (i := 643) (by decide +kernel), List.mem_of_getElem? (i := 644) (by decide +kernel)⟩
theorem lw_p8 : lw_okq (⟨"IssueRowsModel", "isIssue", "(I)Z"⟩, 33) := ⟨⟨by decide +kernel, by decide +kernel⟩, List.mem_of_getElem? (i := 517) (by decide +kernel), List.mem_of_getElem? (i := 651) (by decide +kernel), List.mem_of_getElem? (i := 652) (by decide +kernel)⟩
theorem lw_p9 : lw_okq (⟨"IssueRowsModel", "tell", "(II)V"⟩, 33) := ⟨⟨by decide +kernel, by decide +kernel⟩, List.mem_of_getElem? (i := 517) (by decide +kernel), List.mem_of_getElem? (i := 655) (by decide +kernel), List.mem_of_getElem? (i := 656) (by decide +kernel)⟩
theorem lw_p10 : lw_okq (⟨"IssueRowsModel", "askFor", "(II)V"⟩, 33) := ⟨⟨by decide +kernel, by decide +kernel⟩, List.mem_of_getElem? (i := 517) (by decide +kernel), List.mem_of_getElem? (i := 663) (by decide +kernel), List.mem_of_getElem? (i := 664) (by decide +kernel)⟩
theorem lw_p11 : lw_okq (⟨"IssueRowsModel", "isHeld", "(I)Z"⟩, 33) := ⟨⟨by decide +kernel, by decide +kernel⟩, List.mem_of_getElem? (i := 517) (by decide +kernel), List.mem_of_getElem? (i := 683) (by decide +kernel), List.mem_of_getElem? (i := 684) (by decide +kernel)⟩
theorem lw_p12 : lw_okq (⟨"IssueRowsModel", "nextHere", "(II)I"⟩, 33) := ⟨⟨by decide +kernel, by decide +kernel⟩, List.mem_of_getElem? (i := 517) (by decide +kernel), List.mem_of_getElem? (i := 695) (by decide +kernel), List.mem_of_getElem? (i := 696) (by decide +kernel)⟩
theorem lw_p13 : lw_okq (⟨"IssueRowsModel", "next", "(II)I"⟩, 33) := ⟨⟨by decide +kernel, by decide +kernel⟩, List.mem_of_getElem? (i := 517) (by decide +kernel), List.mem_of_getElem? (i := 707) (by decide +kernel), List.mem_of_getElem? (i := 708) (by decide +kernel)⟩
theorem lw_p14 : lw_okq (⟨"IssueRowsModel", "stands", "(I)Z"⟩, 33) := ⟨⟨by decide +kernel, by decide +kernel⟩, List.mem_of_getElem? (i := 517) (by decide +kernel), List.mem_of_getElem? (i := 711) (by decide +kernel), List.mem_of_getElem? (i := 712) (by decide +kernel)⟩
def lw_privs_1 : List (MethodName × Nat) := [(⟨"IssueRows", "hasOrdinal", "(II)Z"⟩, 8), (⟨"IssueRows", "keep", "(LIssueRows$Issue;)V"⟩, 8), (⟨"IssueRows", "find", "(I)LIssueRows$Issue;"⟩, 8), (⟨"IssueRows", "claimIfDue", "(LIssueRows$Issue;I)V"⟩, 8), (⟨"IssueRows", "isBindable", "(II)Z"⟩, 8), (⟨"IssueRows", "bindNext", "(II)I"⟩, 8), (⟨"java/lang/Throwable", "fillInStackTrace", "(I)Ljava/lang/Throwable;"⟩, 6), (⟨"IssueRowsModel", "lay", "(III)I"⟩, 33), (⟨"IssueRowsModel", "isIssue", "(I)Z"⟩, 33), (⟨"IssueRowsModel", "tell", "(II)V"⟩, 33), (⟨"IssueRowsModel", "askFor", "(II)V"⟩, 33), (⟨"IssueRowsModel", "isHeld", "(I)Z"⟩, 33), (⟨"IssueRowsModel", "nextHere", "(II)I"⟩, 33), (⟨"IssueRowsModel", "next", "(II)I"⟩, 33), (⟨"IssueRowsModel", "stands", "(I)Z"⟩, 33)]
theorem lw_r1 : ∀ q ∈ lw_privs_1, lw_okq q := List.forall_mem_cons.mpr ⟨lw_p0, List.forall_mem_cons.mpr ⟨lw_p1, List.forall_mem_cons.mpr ⟨lw_p2, List.forall_mem_cons.mpr ⟨lw_p3, List.forall_mem_cons.mpr ⟨lw_p4, List.forall_mem_cons.mpr ⟨lw_p5, List.forall_mem_cons.mpr ⟨lw_p6, List.forall_mem_cons.mpr ⟨lw_p7, List.forall_mem_cons.mpr ⟨lw_p8, List.forall_mem_cons.mpr ⟨lw_p9, List.forall_mem_cons.mpr ⟨lw_p10, List.forall_mem_cons.mpr ⟨lw_p11, List.forall_mem_cons.mpr ⟨lw_p12, List.forall_mem_cons.mpr ⟨lw_p13, List.forall_mem_cons.mpr ⟨lw_p14, fun _ h => absurd h List.not_mem_nil⟩⟩⟩⟩⟩⟩⟩⟩⟩⟩⟩⟩⟩⟩⟩
def lw_privs : List (MethodName × Nat) := lw_privs_1
def lw_tbl : List Cond := k2_sels lw_privs ++ tables_1
theorem lw_privs_ok : ∀ q ∈ lw_privs, lw_okq q := lw_r1

/-- the words that outlive every call -/
def WA : List Cond := lw_tbl.filter goodWord
theorem WA_t {w : Cond} (h : w ∈ tables_1) (g : goodWord w = true) : w ∈ WA := List.mem_filter.mpr ⟨List.mem_append_right _ h, g⟩
theorem WA_p {w : Cond} (h : w ∈ k2_sels lw_privs) (g : goodWord w = true) : w ∈ WA := List.mem_filter.mpr ⟨List.mem_append_left _ h, g⟩
theorem WA_g {w : Cond} (h : w ∈ WA) : (w.onTables && w.keeps) = true ∨ ∃ ty, w = .arrayClass ty := good_of_word (List.mem_filter.mp h).2
end
section
def R_X : String := "IssueRows"
def F_X : u_T := fun k => match k with
  | 0 => ("IssueRows", "rules", "[LIssueRows$Rule;", true)
  | 1 => ("IssueRows", "issues", "[LIssueRows$Issue;", true)
  | 2 => ("IssueRows", "byOrdinal", "[LIssueRows$Issue;", true)
  | 3 => ("IssueRows", "issueCount", "I", false)
  | 4 => ("IssueRows", "round", "LIssueRows$Pairs;", true)
  | 5 => ("IssueRows", "notes", "LIssueRows$Pairs;", true)
  | 6 => ("IssueRows", "volumes", "LIssueRows$Volumes;", true)
  | _ => ("IssueRows", "latest", "LIssueRows$Statement;", true)
def t_X : Nat → FieldType := fun k => match k with
  | 0 => .array (.object "IssueRows$Rule")
  | 1 => .array (.object "IssueRows$Issue")
  | 2 => .array (.object "IssueRows$Issue")
  | 3 => .int
  | 4 => .object "IssueRows$Pairs"
  | 5 => .object "IssueRows$Pairs"
  | 6 => .object "IssueRows$Volumes"
  | _ => .object "IssueRows$Statement"
theorem n_X : ∀ a, a < 8 → ∀ b, b < 8 → a ≠ b → (F_X a).2.1 ≠ (F_X b).2.1 := by decide +kernel
theorem t_X_ok : ∀ k, k < 8 → parseFieldDescriptor (F_X k).2.2.1 = some (t_X k) := by decide +kernel
def R_U : String := "IssueRows$Rule"
def F_U : u_T := fun k => match k with
  | 0 => ("IssueRows$Rule", "first", "I", false)
  | 1 => ("IssueRows$Rule", "again", "I", false)
  | _ => ("IssueRows$Rule", "most", "I", false)
def t_U : Nat → FieldType := fun k => match k with
  | 0 => .int
  | 1 => .int
  | _ => .int
theorem n_U : ∀ a, a < 3 → ∀ b, b < 3 → a ≠ b → (F_U a).2.1 ≠ (F_U b).2.1 := by decide +kernel
theorem t_U_ok : ∀ k, k < 3 → parseFieldDescriptor (F_U k).2.2.1 = some (t_U k) := by decide +kernel
def R_I : String := "IssueRows$Issue"
def F_I : u_T := fun k => match k with
  | 0 => ("IssueRows$Issue", "number", "I", true)
  | 1 => ("IssueRows$Issue", "pattern", "I", true)
  | 2 => ("IssueRows$Issue", "ordinal", "I", true)
  | 3 => ("IssueRows$Issue", "expected", "I", true)
  | 4 => ("IssueRows$Issue", "replacement", "Z", true)
  | 5 => ("IssueRows$Issue", "routing", "LIssueRows$Routing;", true)
  | 6 => ("IssueRows$Issue", "state", "I", false)
  | 7 => ("IssueRows$Issue", "claims", "I", false)
  | 8 => ("IssueRows$Issue", "claimedOn", "I", false)
  | 9 => ("IssueRows$Issue", "copies", "I", false)
  | 10 => ("IssueRows$Issue", "came", "I", false)
  | 11 => ("IssueRows$Issue", "volume", "I", false)
  | 12 => ("IssueRows$Issue", "replacedBy", "I", false)
  | _ => ("IssueRows$Issue", "cents", "I", false)
def t_I : Nat → FieldType := fun k => match k with
  | 0 => .int
  | 1 => .int
  | 2 => .int
  | 3 => .int
  | 4 => .boolean
  | 5 => .object "IssueRows$Routing"
  | 6 => .int
  | 7 => .int
  | 8 => .int
  | 9 => .int
  | 10 => .int
  | 11 => .int
  | 12 => .int
  | _ => .int
theorem n_I : ∀ a, a < 14 → ∀ b, b < 14 → a ≠ b → (F_I a).2.1 ≠ (F_I b).2.1 := by decide +kernel
theorem t_I_ok : ∀ k, k < 14 → parseFieldDescriptor (F_I k).2.2.1 = some (t_I k) := by decide +kernel
def R_G : String := "IssueRows$Routing"
def F_G : u_T := fun k => match k with
  | 0 => ("IssueRows$Routing", "persons", "[I", true)
  | 1 => ("IssueRows$Routing", "days", "[I", true)
  | 2 => ("IssueRows$Routing", "size", "I", false)
  | 3 => ("IssueRows$Routing", "place", "I", false)
  | _ => ("IssueRows$Routing", "since", "I", false)
def t_G : Nat → FieldType := fun k => match k with
  | 0 => .array .int
  | 1 => .array .int
  | 2 => .int
  | 3 => .int
  | _ => .int
theorem n_G : ∀ a, a < 5 → ∀ b, b < 5 → a ≠ b → (F_G a).2.1 ≠ (F_G b).2.1 := by decide +kernel
theorem t_G_ok : ∀ k, k < 5 → parseFieldDescriptor (F_G k).2.2.1 = some (t_G k) := by decide +kernel
def R_P : String := "IssueRows$Pairs"
def F_P : u_T := fun k => match k with
  | 0 => ("IssueRows$Pairs", "firsts", "[I", true)
  | 1 => ("IssueRows$Pairs", "seconds", "[I", true)
  | _ => ("IssueRows$Pairs", "size", "I", false)
def t_P : Nat → FieldType := fun k => match k with
  | 0 => .array .int
  | 1 => .array .int
  | _ => .int
theorem n_P : ∀ a, a < 3 → ∀ b, b < 3 → a ≠ b → (F_P a).2.1 ≠ (F_P b).2.1 := by decide +kernel
theorem t_P_ok : ∀ k, k < 3 → parseFieldDescriptor (F_P k).2.2.1 = some (t_P k) := by decide +kernel
def R_V : String := "IssueRows$Volumes"
def F_V : u_T := fun k => match k with
  | 0 => ("IssueRows$Volumes", "members", "[I", true)
  | 1 => ("IssueRows$Volumes", "ends", "[I", true)
  | _ => ("IssueRows$Volumes", "count", "I", false)
def t_V : Nat → FieldType := fun k => match k with
  | 0 => .array .int
  | 1 => .array .int
  | _ => .int
theorem n_V : ∀ a, a < 3 → ∀ b, b < 3 → a ≠ b → (F_V a).2.1 ≠ (F_V b).2.1 := by decide +kernel
theorem t_V_ok : ∀ k, k < 3 → parseFieldDescriptor (F_V k).2.2.1 = some (t_V k) := by decide +kernel
def R_S : String := "IssueRows$Statement"
def F_S : u_T := fun k => match k with
  | 0 => ("IssueRows$Statement", "firsts", "[I", true)
  | 1 => ("IssueRows$Statement", "lasts", "[I", true)
  | 2 => ("IssueRows$Statement", "counts", "[I", true)
  | _ => ("IssueRows$Statement", "size", "I", false)
def t_S : Nat → FieldType := fun k => match k with
  | 0 => .array .int
  | 1 => .array .int
  | 2 => .array .int
  | _ => .int
theorem n_S : ∀ a, a < 4 → ∀ b, b < 4 → a ≠ b → (F_S a).2.1 ≠ (F_S b).2.1 := by decide +kernel
theorem t_S_ok : ∀ k, k < 4 → parseFieldDescriptor (F_S k).2.2.1 = some (t_S k) := by decide +kernel
def R_M : String := "IssueRowsModel"
def F_M : u_T := fun k => match k with
  | 0 => ("IssueRowsModel", "thrown", "I", false)
  | 1 => ("IssueRowsModel", "first", "[I", true)
  | 2 => ("IssueRowsModel", "again", "[I", true)
  | 3 => ("IssueRowsModel", "most", "[I", true)
  | 4 => ("IssueRowsModel", "issues", "I", false)
  | 5 => ("IssueRowsModel", "pattern", "[I", true)
  | 6 => ("IssueRowsModel", "ordinal", "[I", true)
  | 7 => ("IssueRowsModel", "state", "[I", true)
  | 8 => ("IssueRowsModel", "expected", "[I", true)
  | 9 => ("IssueRowsModel", "claims", "[I", true)
  | 10 => ("IssueRowsModel", "claimDay", "[I", true)
  | 11 => ("IssueRowsModel", "copies", "[I", true)
  | 12 => ("IssueRowsModel", "came", "[I", true)
  | 13 => ("IssueRowsModel", "volumeOf", "[I", true)
  | 14 => ("IssueRowsModel", "replacedBy", "[I", true)
  | 15 => ("IssueRowsModel", "cents", "[I", true)
  | 16 => ("IssueRowsModel", "replaces", "[Z", true)
  | 17 => ("IssueRowsModel", "rowSize", "[I", true)
  | 18 => ("IssueRowsModel", "person", "[I", true)
  | 19 => ("IssueRowsModel", "personDays", "[I", true)
  | 20 => ("IssueRowsModel", "holder", "[I", true)
  | 21 => ("IssueRowsModel", "holderFrom", "[I", true)
  | 22 => ("IssueRowsModel", "round", "I", false)
  | 23 => ("IssueRowsModel", "roundIssue", "[I", true)
  | 24 => ("IssueRowsModel", "roundClaims", "[I", true)
  | 25 => ("IssueRowsModel", "volumes", "I", false)
  | 26 => ("IssueRowsModel", "rows", "I", false)
  | 27 => ("IssueRowsModel", "rowFirst", "[I", true)
  | 28 => ("IssueRowsModel", "rowLast", "[I", true)
  | 29 => ("IssueRowsModel", "rowMany", "[I", true)
  | 30 => ("IssueRowsModel", "notes", "I", false)
  | 31 => ("IssueRowsModel", "note", "[I", true)
  | _ => ("IssueRowsModel", "noteIssue", "[I", true)
def t_M : Nat → FieldType := fun k => match k with
  | 0 => .int
  | 1 => .array .int
  | 2 => .array .int
  | 3 => .array .int
  | 4 => .int
  | 5 => .array .int
  | 6 => .array .int
  | 7 => .array .int
  | 8 => .array .int
  | 9 => .array .int
  | 10 => .array .int
  | 11 => .array .int
  | 12 => .array .int
  | 13 => .array .int
  | 14 => .array .int
  | 15 => .array .int
  | 16 => .array .boolean
  | 17 => .array .int
  | 18 => .array .int
  | 19 => .array .int
  | 20 => .array .int
  | 21 => .array .int
  | 22 => .int
  | 23 => .array .int
  | 24 => .array .int
  | 25 => .int
  | 26 => .int
  | 27 => .array .int
  | 28 => .array .int
  | 29 => .array .int
  | 30 => .int
  | 31 => .array .int
  | _ => .array .int
theorem n_M : ∀ a, a < 33 → ∀ b, b < 33 → a ≠ b → (F_M a).2.1 ≠ (F_M b).2.1 := by decide +kernel
theorem t_M_ok : ∀ k, k < 33 → parseFieldDescriptor (F_M k).2.2.1 = some (t_M k) := by decide +kernel
def R_L : String := "IssueRowsLaw"
abbrev classes : List vw_C := [(R_X, F_X, 8), (R_U, F_U, 3), (R_I, F_I, 14), (R_G, F_G, 5), (R_P, F_P, 3), (R_V, F_V, 3), (R_S, F_S, 4), (R_M, F_M, 33)]
abbrev b_X_init : ByteArray := prog_1_method_1_code
abbrev y_X_init : MethodName := ⟨"IssueRows", "<init>", "()V"⟩
abbrev w_X_init : List Cond := .code y_X_init b_X_init 2 none :: WA
abbrev b_O_init : ByteArray := object_method_1_code
abbrev y_O_init : MethodName := ⟨"java/lang/Object", "<init>", "()V"⟩
abbrev w_O_init : List Cond := .code y_O_init b_O_init 1 none :: WA
abbrev b_P_init : ByteArray := prog_3_method_1_code
abbrev y_P_init : MethodName := ⟨"IssueRows$Pairs", "<init>", "(I)V"⟩
abbrev w_P_init : List Cond := .code y_P_init b_P_init 3 none :: WA
abbrev b_H_max : ByteArray := prog_12_method_65_code
abbrev y_H_max : MethodName := ⟨"java/lang/Math", "max", "(II)I"⟩
abbrev w_H_max : List Cond := .code y_H_max b_H_max 2 (some .int) :: WA
abbrev b_V_init : ByteArray := prog_7_method_1_code
abbrev y_V_init : MethodName := ⟨"IssueRows$Volumes", "<init>", "()V"⟩
abbrev w_V_init : List Cond := .code y_V_init b_V_init 1 none :: WA
abbrev b_S_init : ByteArray := prog_6_method_1_code
abbrev y_S_init : MethodName := ⟨"IssueRows$Statement", "<init>", "()V"⟩
abbrev w_S_init : List Cond := .code y_S_init b_S_init 1 none :: WA
abbrev b_U_init : ByteArray := prog_5_method_1_code
abbrev y_U_init : MethodName := ⟨"IssueRows$Rule", "<init>", "()V"⟩
abbrev w_U_init : List Cond := .code y_U_init b_U_init 1 none :: WA
abbrev b_X_rule : ByteArray := prog_1_method_2_code
abbrev y_X_rule : MethodName := ⟨"IssueRows", "rule", "(IIII)I"⟩
abbrev w_X_rule : List Cond := .code y_X_rule b_X_rule 6 (some .int) :: WA
abbrev b_X_isPattern : ByteArray := prog_1_method_20_code
abbrev y_X_isPattern : MethodName := ⟨"IssueRows", "isPattern", "(I)Z"⟩
abbrev w_X_isPattern : List Cond := .code y_X_isPattern b_X_isPattern 1 (some .boolean) :: WA
abbrev b_X_within : ByteArray := prog_1_method_19_code
abbrev y_X_within : MethodName := ⟨"IssueRows", "within", "(III)Z"⟩
abbrev w_X_within : List Cond := .code y_X_within b_X_within 3 (some .boolean) :: WA
abbrev b_X_issue : ByteArray := prog_1_method_3_code
abbrev y_X_issue : MethodName := ⟨"IssueRows", "issue", "(III)I"⟩
abbrev w_X_issue : List Cond := .code y_X_issue b_X_issue 5 (some .int) :: WA
abbrev b_X_isDay : ByteArray := prog_1_method_21_code
abbrev y_X_isDay : MethodName := ⟨"IssueRows", "isDay", "(I)Z"⟩
abbrev w_X_isDay : List Cond := .code y_X_isDay b_X_isDay 1 (some .boolean) :: WA
abbrev b_X_hasOrdinal : ByteArray := prog_1_method_23_code
abbrev y_X_hasOrdinal : MethodName := ⟨"IssueRows", "hasOrdinal", "(II)Z"⟩
abbrev w_X_hasOrdinal : List Cond := .code y_X_hasOrdinal b_X_hasOrdinal 4 (some .boolean) :: WA
abbrev b_I_init : ByteArray := prog_2_method_1_code
abbrev y_I_init : MethodName := ⟨"IssueRows$Issue", "<init>", "(IIIIZ)V"⟩
abbrev w_I_init : List Cond := .code y_I_init b_I_init 6 none :: WA
abbrev b_G_init : ByteArray := prog_4_method_1_code
abbrev y_G_init : MethodName := ⟨"IssueRows$Routing", "<init>", "()V"⟩
abbrev w_G_init : List Cond := .code y_G_init b_G_init 1 none :: WA
abbrev b_X_keep : ByteArray := prog_1_method_24_code
abbrev y_X_keep : MethodName := ⟨"IssueRows", "keep", "(LIssueRows$Issue;)V"⟩
abbrev w_X_keep : List Cond := .code y_X_keep b_X_keep 3 none :: WA
abbrev b_X_checkIn : ByteArray := prog_1_method_4_code
abbrev y_X_checkIn : MethodName := ⟨"IssueRows", "checkIn", "(III)I"⟩
abbrev w_X_checkIn : List Cond := .code y_X_checkIn b_X_checkIn 6 (some .int) :: WA
abbrev b_X_find : ByteArray := prog_1_method_22_code
abbrev y_X_find : MethodName := ⟨"IssueRows", "find", "(I)LIssueRows$Issue;"⟩
abbrev w_X_find : List Cond := .code y_X_find b_X_find 2 (some (.object "IssueRows$Issue")) :: WA
abbrev b_I_isAwaited : ByteArray := prog_2_method_2_code
abbrev y_I_isAwaited : MethodName := ⟨"IssueRows$Issue", "isAwaited", "()Z"⟩
abbrev w_I_isAwaited : List Cond := .code y_I_isAwaited b_I_isAwaited 1 (some .boolean) :: WA
abbrev b_P_add : ByteArray := prog_3_method_3_code
abbrev y_P_add : MethodName := ⟨"IssueRows$Pairs", "add", "(II)V"⟩
abbrev w_P_add : List Cond := .code y_P_add b_P_add 3 none :: WA
abbrev b_I_arrive : ByteArray := prog_2_method_5_code
abbrev y_I_arrive : MethodName := ⟨"IssueRows$Issue", "arrive", "(II)V"⟩
abbrev w_I_arrive : List Cond := .code y_I_arrive b_I_arrive 3 none :: WA
abbrev b_X_claim : ByteArray := prog_1_method_5_code
abbrev y_X_claim : MethodName := ⟨"IssueRows", "claim", "(I)I"⟩
abbrev w_X_claim : List Cond := .code y_X_claim b_X_claim 3 (some .int) :: WA
abbrev b_P_clear : ByteArray := prog_3_method_2_code
abbrev y_P_clear : MethodName := ⟨"IssueRows$Pairs", "clear", "()V"⟩
abbrev w_P_clear : List Cond := .code y_P_clear b_P_clear 1 none :: WA
abbrev b_X_claimIfDue : ByteArray := prog_1_method_25_code
abbrev y_X_claimIfDue : MethodName := ⟨"IssueRows", "claimIfDue", "(LIssueRows$Issue;I)V"⟩
abbrev w_X_claimIfDue : List Cond := .code y_X_claimIfDue b_X_claimIfDue 4 none :: WA
abbrev b_U_isDue : ByteArray := prog_5_method_2_code
abbrev y_U_isDue : MethodName := ⟨"IssueRows$Rule", "isDue", "(LIssueRows$Issue;I)Z"⟩
abbrev w_U_isDue : List Cond := .code y_U_isDue b_U_isDue 3 (some .boolean) :: WA
abbrev b_I_claimOn : ByteArray := prog_2_method_6_code
abbrev y_I_claimOn : MethodName := ⟨"IssueRows$Issue", "claimOn", "(I)V"⟩
abbrev w_I_claimOn : List Cond := .code y_I_claimOn b_I_claimOn 2 none :: WA
abbrev b_X_list : ByteArray := prog_1_method_7_code
abbrev y_X_list : MethodName := ⟨"IssueRows", "list", "(III)I"⟩
abbrev w_X_list : List Cond := .code y_X_list b_X_list 5 (some .int) :: WA
abbrev b_G_isStarted : ByteArray := prog_4_method_3_code
abbrev y_G_isStarted : MethodName := ⟨"IssueRows$Routing", "isStarted", "()Z"⟩
abbrev w_G_isStarted : List Cond := .code y_G_isStarted b_G_isStarted 1 (some .boolean) :: WA
abbrev b_G_isFull : ByteArray := prog_4_method_2_code
abbrev y_G_isFull : MethodName := ⟨"IssueRows$Routing", "isFull", "()Z"⟩
abbrev w_G_isFull : List Cond := .code y_G_isFull b_G_isFull 1 (some .boolean) :: WA
abbrev b_G_add : ByteArray := prog_4_method_7_code
abbrev y_G_add : MethodName := ⟨"IssueRows$Routing", "add", "(II)V"⟩
abbrev w_G_add : List Cond := .code y_G_add b_G_add 3 none :: WA
abbrev b_X_route : ByteArray := prog_1_method_8_code
abbrev y_X_route : MethodName := ⟨"IssueRows", "route", "(II)I"⟩
abbrev w_X_route : List Cond := .code y_X_route b_X_route 4 (some .int) :: WA
abbrev b_G_passOn : ByteArray := prog_4_method_8_code
abbrev y_G_passOn : MethodName := ⟨"IssueRows$Routing", "passOn", "(I)V"⟩
abbrev w_G_passOn : List Cond := .code y_G_passOn b_G_passOn 2 none :: WA
abbrev b_G_holder : ByteArray := prog_4_method_6_code
abbrev y_G_holder : MethodName := ⟨"IssueRows$Routing", "holder", "()I"⟩
abbrev w_G_holder : List Cond := .code y_G_holder b_G_holder 1 (some .int) :: WA
abbrev b_G_isOut : ByteArray := prog_4_method_4_code
abbrev y_G_isOut : MethodName := ⟨"IssueRows$Routing", "isOut", "()Z"⟩
abbrev w_G_isOut : List Cond := .code y_G_isOut b_G_isOut 1 (some .boolean) :: WA
abbrev b_X_returned : ByteArray := prog_1_method_9_code
abbrev y_X_returned : MethodName := ⟨"IssueRows", "returned", "(II)I"⟩
abbrev w_X_returned : List Cond := .code y_X_returned b_X_returned 5 (some .int) :: WA
abbrev b_G_isLate : ByteArray := prog_4_method_5_code
abbrev y_G_isLate : MethodName := ⟨"IssueRows$Routing", "isLate", "(I)Z"⟩
abbrev w_G_isLate : List Cond := .code y_G_isLate b_G_isLate 2 (some .boolean) :: WA
abbrev b_X_replace : ByteArray := prog_1_method_10_code
abbrev y_X_replace : MethodName := ⟨"IssueRows", "replace", "(II)I"⟩
abbrev w_X_replace : List Cond := .code y_X_replace b_X_replace 5 (some .int) :: WA
abbrev b_I_isReplaceable : ByteArray := prog_2_method_4_code
abbrev y_I_isReplaceable : MethodName := ⟨"IssueRows$Issue", "isReplaceable", "()Z"⟩
abbrev w_I_isReplaceable : List Cond := .code y_I_isReplaceable b_I_isReplaceable 1 (some .boolean) :: WA
abbrev b_X_bind : ByteArray := prog_1_method_11_code
abbrev y_X_bind : MethodName := ⟨"IssueRows", "bind", "(II)I"⟩
abbrev w_X_bind : List Cond := .code y_X_bind b_X_bind 3 (some .int) :: WA
abbrev b_X_isBindable : ByteArray := prog_1_method_26_code
abbrev y_X_isBindable : MethodName := ⟨"IssueRows", "isBindable", "(II)Z"⟩
abbrev w_X_isBindable : List Cond := .code y_X_isBindable b_X_isBindable 6 (some .boolean) :: WA
abbrev b_V_isFull : ByteArray := prog_7_method_2_code
abbrev y_V_isFull : MethodName := ⟨"IssueRows$Volumes", "isFull", "()Z"⟩
abbrev w_V_isFull : List Cond := .code y_V_isFull b_V_isFull 1 (some .boolean) :: WA
abbrev b_X_bindNext : ByteArray := prog_1_method_27_code
abbrev y_X_bindNext : MethodName := ⟨"IssueRows", "bindNext", "(II)I"⟩
abbrev w_X_bindNext : List Cond := .code y_X_bindNext b_X_bindNext 7 (some .int) :: WA
abbrev b_V_open : ByteArray := prog_7_method_3_code
abbrev y_V_open : MethodName := ⟨"IssueRows$Volumes", "open", "()I"⟩
abbrev w_V_open : List Cond := .code y_V_open b_V_open 1 (some .int) :: WA
abbrev b_V_add : ByteArray := prog_7_method_4_code
abbrev y_V_add : MethodName := ⟨"IssueRows$Volumes", "add", "(I)V"⟩
abbrev w_V_add : List Cond := .code y_V_add b_V_add 2 none :: WA
abbrev b_X_statement : ByteArray := prog_1_method_13_code
abbrev y_X_statement : MethodName := ⟨"IssueRows", "statement", "(I)I"⟩
abbrev w_X_statement : List Cond := .code y_X_statement b_X_statement 5 (some .int) :: WA
abbrev b_S_clear : ByteArray := prog_6_method_2_code
abbrev y_S_clear : MethodName := ⟨"IssueRows$Statement", "clear", "()V"⟩
abbrev w_S_clear : List Cond := .code y_S_clear b_S_clear 1 none :: WA
abbrev b_I_isThere : ByteArray := prog_2_method_3_code
abbrev y_I_isThere : MethodName := ⟨"IssueRows$Issue", "isThere", "()Z"⟩
abbrev w_I_isThere : List Cond := .code y_I_isThere b_I_isThere 1 (some .boolean) :: WA
abbrev b_S_add : ByteArray := prog_6_method_3_code
abbrev y_S_add : MethodName := ⟨"IssueRows$Statement", "add", "(IZ)V"⟩
abbrev w_S_add : List Cond := .code y_S_add b_S_add 3 none :: WA
abbrev b_X_about : ByteArray := prog_1_method_15_code
abbrev y_X_about : MethodName := ⟨"IssueRows", "about", "(II)I"⟩
abbrev w_X_about : List Cond := .code y_X_about b_X_about 4 (some .int) :: WA
abbrev b_I_part : ByteArray := prog_2_method_8_code
abbrev y_I_part : MethodName := ⟨"IssueRows$Issue", "part", "(I)I"⟩
abbrev w_I_part : List Cond := .code y_I_part b_I_part 2 (some .int) :: WA
abbrev b_X_cost : ByteArray := prog_1_method_16_code
abbrev y_X_cost : MethodName := ⟨"IssueRows", "cost", "(II)I"⟩
abbrev w_X_cost : List Cond := .code y_X_cost b_X_cost 4 (some .int) :: WA
abbrev b_X_told : ByteArray := prog_1_method_17_code
abbrev y_X_told : MethodName := ⟨"IssueRows", "told", "(II)I"⟩
abbrev w_X_told : List Cond := .code y_X_told b_X_told 3 (some .int) :: WA
abbrev b_P_has : ByteArray := prog_3_method_4_code
abbrev y_P_has : MethodName := ⟨"IssueRows$Pairs", "has", "(II)Z"⟩
abbrev w_P_has : List Cond := .code y_P_has b_P_has 3 (some .boolean) :: WA
abbrev b_P_part : ByteArray := prog_3_method_5_code
abbrev y_P_part : MethodName := ⟨"IssueRows$Pairs", "part", "(II)I"⟩
abbrev w_P_part : List Cond := .code y_P_part b_P_part 3 (some .int) :: WA
abbrev b_X_lateness : ByteArray := prog_1_method_18_code
abbrev y_X_lateness : MethodName := ⟨"IssueRows", "lateness", "(I)I"⟩
abbrev w_X_lateness : List Cond := .code y_X_lateness b_X_lateness 4 (some .int) :: WA
abbrev b_I_daysLate : ByteArray := prog_2_method_7_code
abbrev y_I_daysLate : MethodName := ⟨"IssueRows$Issue", "daysLate", "()I"⟩
abbrev w_I_daysLate : List Cond := .code y_I_daysLate b_I_daysLate 2 (some .int) :: WA
abbrev b_X_claimed : ByteArray := prog_1_method_6_code
abbrev y_X_claimed : MethodName := ⟨"IssueRows", "claimed", "(II)I"⟩
abbrev w_X_claimed : List Cond := .code y_X_claimed b_X_claimed 3 (some .int) :: WA
abbrev b_T_init : ByteArray := prog_15_method_1_code
abbrev y_T_init : MethodName := ⟨"java/lang/Throwable", "<init>", "()V"⟩
abbrev w_T_init : List Cond := .code y_T_init b_T_init 1 none :: WA
abbrev b_A_init : ByteArray := prog_11_method_2_code
abbrev y_A_init : MethodName := ⟨"java/lang/IndexOutOfBoundsException", "<init>", "(Ljava/lang/String;)V"⟩
abbrev w_A_init : List Cond := .code y_A_init b_A_init 2 none :: WA
abbrev b_B_init : ByteArray := prog_13_method_2_code
abbrev y_B_init : MethodName := ⟨"java/lang/RuntimeException", "<init>", "(Ljava/lang/String;)V"⟩
abbrev w_B_init : List Cond := .code y_B_init b_B_init 2 none :: WA
abbrev b_E_init : ByteArray := prog_10_method_2_code
abbrev y_E_init : MethodName := ⟨"java/lang/Exception", "<init>", "(Ljava/lang/String;)V"⟩
abbrev w_E_init : List Cond := .code y_E_init b_E_init 2 none :: WA
abbrev b_T_init2 : ByteArray := prog_15_method_2_code
abbrev y_T_init2 : MethodName := ⟨"java/lang/Throwable", "<init>", "(Ljava/lang/String;)V"⟩
abbrev w_T_init2 : List Cond := .code y_T_init2 b_T_init2 2 none :: WA
abbrev b_X_volume : ByteArray := prog_1_method_12_code
abbrev y_X_volume : MethodName := ⟨"IssueRows", "volume", "(II)I"⟩
abbrev w_X_volume : List Cond := .code y_X_volume b_X_volume 3 (some .int) :: WA
abbrev b_V_has : ByteArray := prog_7_method_5_code
abbrev y_V_has : MethodName := ⟨"IssueRows$Volumes", "has", "(II)Z"⟩
abbrev w_V_has : List Cond := .code y_V_has b_V_has 3 (some .boolean) :: WA
abbrev b_V_member : ByteArray := prog_7_method_6_code
abbrev y_V_member : MethodName := ⟨"IssueRows$Volumes", "member", "(II)I"⟩
abbrev w_V_member : List Cond := .code y_V_member b_V_member 3 (some .int) :: WA
abbrev b_X_row : ByteArray := prog_1_method_14_code
abbrev y_X_row : MethodName := ⟨"IssueRows", "row", "(II)I"⟩
abbrev w_X_row : List Cond := .code y_X_row b_X_row 3 (some .int) :: WA
abbrev b_S_has : ByteArray := prog_6_method_4_code
abbrev y_S_has : MethodName := ⟨"IssueRows$Statement", "has", "(II)Z"⟩
abbrev w_S_has : List Cond := .code y_S_has b_S_has 3 (some .boolean) :: WA
abbrev b_S_part : ByteArray := prog_6_method_5_code
abbrev y_S_part : MethodName := ⟨"IssueRows$Statement", "part", "(II)I"⟩
abbrev w_S_part : List Cond := .code y_S_part b_S_part 3 (some .int) :: WA
abbrev b_M_init : ByteArray := prog_9_method_1_code
abbrev y_M_init : MethodName := ⟨"IssueRowsModel", "<init>", "()V"⟩
abbrev w_M_init : List Cond := .code y_M_init b_M_init 2 none :: WA
abbrev b_M_thrown : ByteArray := prog_9_method_2_code
abbrev y_M_thrown : MethodName := ⟨"IssueRowsModel", "thrown", "()I"⟩
abbrev w_M_thrown : List Cond := .code y_M_thrown b_M_thrown 1 (some .int) :: WA
abbrev b_M_rule : ByteArray := prog_9_method_7_code
abbrev y_M_rule : MethodName := ⟨"IssueRowsModel", "rule", "(IIII)I"⟩
abbrev w_M_rule : List Cond := .code y_M_rule b_M_rule 5 (some .int) :: WA
abbrev b_M_in : ByteArray := prog_9_method_3_code
abbrev y_M_in : MethodName := ⟨"IssueRowsModel", "in", "(III)Z"⟩
abbrev w_M_in : List Cond := .code y_M_in b_M_in 3 (some .boolean) :: WA
abbrev b_M_issue : ByteArray := prog_9_method_9_code
abbrev y_M_issue : MethodName := ⟨"IssueRowsModel", "issue", "(III)I"⟩
abbrev w_M_issue : List Cond := .code y_M_issue b_M_issue 5 (some .int) :: WA
abbrev b_M_isDay : ByteArray := prog_9_method_4_code
abbrev y_M_isDay : MethodName := ⟨"IssueRowsModel", "isDay", "(I)Z"⟩
abbrev w_M_isDay : List Cond := .code y_M_isDay b_M_isDay 1 (some .boolean) :: WA
abbrev b_M_lay : ByteArray := prog_9_method_8_code
abbrev y_M_lay : MethodName := ⟨"IssueRowsModel", "lay", "(III)I"⟩
abbrev w_M_lay : List Cond := .code y_M_lay b_M_lay 5 (some .int) :: WA
abbrev b_M_checkIn : ByteArray := prog_9_method_10_code
abbrev y_M_checkIn : MethodName := ⟨"IssueRowsModel", "checkIn", "(III)I"⟩
abbrev w_M_checkIn : List Cond := .code y_M_checkIn b_M_checkIn 5 (some .int) :: WA
abbrev b_M_isIssue : ByteArray := prog_9_method_5_code
abbrev y_M_isIssue : MethodName := ⟨"IssueRowsModel", "isIssue", "(I)Z"⟩
abbrev w_M_isIssue : List Cond := .code y_M_isIssue b_M_isIssue 2 (some .boolean) :: WA
abbrev b_M_tell : ByteArray := prog_9_method_6_code
abbrev y_M_tell : MethodName := ⟨"IssueRowsModel", "tell", "(II)V"⟩
abbrev w_M_tell : List Cond := .code y_M_tell b_M_tell 3 none :: WA
abbrev b_M_claim : ByteArray := prog_9_method_12_code
abbrev y_M_claim : MethodName := ⟨"IssueRowsModel", "claim", "(I)I"⟩
abbrev w_M_claim : List Cond := .code y_M_claim b_M_claim 3 (some .int) :: WA
abbrev b_M_askFor : ByteArray := prog_9_method_11_code
abbrev y_M_askFor : MethodName := ⟨"IssueRowsModel", "askFor", "(II)V"⟩
abbrev w_M_askFor : List Cond := .code y_M_askFor b_M_askFor 5 none :: WA
abbrev b_M_claimed : ByteArray := prog_9_method_13_code
abbrev y_M_claimed : MethodName := ⟨"IssueRowsModel", "claimed", "(II)I"⟩
abbrev w_M_claimed : List Cond := .code y_M_claimed b_M_claimed 3 (some .int) :: WA
abbrev b_M_list : ByteArray := prog_9_method_15_code
abbrev y_M_list : MethodName := ⟨"IssueRowsModel", "list", "(III)I"⟩
abbrev w_M_list : List Cond := .code y_M_list b_M_list 4 (some .int) :: WA
abbrev b_M_route : ByteArray := prog_9_method_16_code
abbrev y_M_route : MethodName := ⟨"IssueRowsModel", "route", "(II)I"⟩
abbrev w_M_route : List Cond := .code y_M_route b_M_route 3 (some .int) :: WA
abbrev b_M_returned : ByteArray := prog_9_method_17_code
abbrev y_M_returned : MethodName := ⟨"IssueRowsModel", "returned", "(II)I"⟩
abbrev w_M_returned : List Cond := .code y_M_returned b_M_returned 4 (some .int) :: WA
abbrev b_M_isHeld : ByteArray := prog_9_method_14_code
abbrev y_M_isHeld : MethodName := ⟨"IssueRowsModel", "isHeld", "(I)Z"⟩
abbrev w_M_isHeld : List Cond := .code y_M_isHeld b_M_isHeld 2 (some .boolean) :: WA
abbrev b_M_replace : ByteArray := prog_9_method_18_code
abbrev y_M_replace : MethodName := ⟨"IssueRowsModel", "replace", "(II)I"⟩
abbrev w_M_replace : List Cond := .code y_M_replace b_M_replace 4 (some .int) :: WA
abbrev b_M_bind : ByteArray := prog_9_method_20_code
abbrev y_M_bind : MethodName := ⟨"IssueRowsModel", "bind", "(II)I"⟩
abbrev w_M_bind : List Cond := .code y_M_bind b_M_bind 6 (some .int) :: WA
abbrev b_M_nextHere : ByteArray := prog_9_method_19_code
abbrev y_M_nextHere : MethodName := ⟨"IssueRowsModel", "nextHere", "(II)I"⟩
abbrev w_M_nextHere : List Cond := .code y_M_nextHere b_M_nextHere 5 (some .int) :: WA
abbrev b_M_volume : ByteArray := prog_9_method_21_code
abbrev y_M_volume : MethodName := ⟨"IssueRowsModel", "volume", "(II)I"⟩
abbrev w_M_volume : List Cond := .code y_M_volume b_M_volume 8 (some .int) :: WA
abbrev b_M_statement : ByteArray := prog_9_method_24_code
abbrev y_M_statement : MethodName := ⟨"IssueRowsModel", "statement", "(I)I"⟩
abbrev w_M_statement : List Cond := .code y_M_statement b_M_statement 4 (some .int) :: WA
abbrev b_M_next : ByteArray := prog_9_method_23_code
abbrev y_M_next : MethodName := ⟨"IssueRowsModel", "next", "(II)I"⟩
abbrev w_M_next : List Cond := .code y_M_next b_M_next 5 (some .int) :: WA
abbrev b_M_stands : ByteArray := prog_9_method_22_code
abbrev y_M_stands : MethodName := ⟨"IssueRowsModel", "stands", "(I)Z"⟩
abbrev w_M_stands : List Cond := .code y_M_stands b_M_stands 2 (some .boolean) :: WA
abbrev b_M_row : ByteArray := prog_9_method_25_code
abbrev y_M_row : MethodName := ⟨"IssueRowsModel", "row", "(II)I"⟩
abbrev w_M_row : List Cond := .code y_M_row b_M_row 3 (some .int) :: WA
abbrev b_M_about : ByteArray := prog_9_method_26_code
abbrev y_M_about : MethodName := ⟨"IssueRowsModel", "about", "(II)I"⟩
abbrev w_M_about : List Cond := .code y_M_about b_M_about 3 (some .int) :: WA
abbrev b_M_cost : ByteArray := prog_9_method_27_code
abbrev y_M_cost : MethodName := ⟨"IssueRowsModel", "cost", "(II)I"⟩
abbrev w_M_cost : List Cond := .code y_M_cost b_M_cost 3 (some .int) :: WA
abbrev b_M_told : ByteArray := prog_9_method_28_code
abbrev y_M_told : MethodName := ⟨"IssueRowsModel", "told", "(II)I"⟩
abbrev w_M_told : List Cond := .code y_M_told b_M_told 3 (some .int) :: WA
abbrev b_M_lateness : ByteArray := prog_9_method_29_code
abbrev y_M_lateness : MethodName := ⟨"IssueRowsModel", "lateness", "(I)I"⟩
abbrev w_M_lateness : List Cond := .code y_M_lateness b_M_lateness 4 (some .int) :: WA
theorem kZ_L : (Cond.initialized "IssueRowsLaw") ∈ WA := WA_t (List.mem_append_left _ (List.mem_of_getElem? (i := 0) rfl)) rfl
theorem kZ_X : (Cond.initialized "IssueRows") ∈ WA := WA_t (List.mem_append_left _ (List.mem_of_getElem? (i := 1) rfl)) rfl
theorem kZ_P : (Cond.initialized "IssueRows$Pairs") ∈ WA := WA_t (List.mem_append_left _ (List.mem_of_getElem? (i := 2) rfl)) rfl
theorem kZ_H : (Cond.initialized "java/lang/Math") ∈ WA := WA_t (List.mem_append_left _ (List.mem_of_getElem? (i := 3) rfl)) rfl
theorem kZ_V : (Cond.initialized "IssueRows$Volumes") ∈ WA := WA_t (List.mem_append_left _ (List.mem_of_getElem? (i := 4) rfl)) rfl
theorem kZ_S : (Cond.initialized "IssueRows$Statement") ∈ WA := WA_t (List.mem_append_left _ (List.mem_of_getElem? (i := 5) rfl)) rfl
theorem kZ_U : (Cond.initialized "IssueRows$Rule") ∈ WA := WA_t (List.mem_append_left _ (List.mem_of_getElem? (i := 6) rfl)) rfl
theorem kZ_M : (Cond.initialized "IssueRowsModel") ∈ WA := WA_t (List.mem_append_left _ (List.mem_of_getElem? (i := 7) rfl)) rfl
theorem kZ_I : (Cond.initialized "IssueRows$Issue") ∈ WA := WA_t (List.mem_append_left _ (List.mem_of_getElem? (i := 8) rfl)) rfl
theorem kZ_G : (Cond.initialized "IssueRows$Routing") ∈ WA := WA_t (List.mem_append_left _ (List.mem_of_getElem? (i := 9) rfl)) rfl
theorem kZ_T : (Cond.initialized "java/lang/Throwable") ∈ WA := WA_t (List.mem_append_left _ (List.mem_of_getElem? (i := 10) rfl)) rfl
theorem kZ_E : (Cond.initialized "java/lang/Exception") ∈ WA := WA_t (List.mem_append_left _ (List.mem_of_getElem? (i := 11) rfl)) rfl
theorem kZ_B : (Cond.initialized "java/lang/RuntimeException") ∈ WA := WA_t (List.mem_append_left _ (List.mem_of_getElem? (i := 12) rfl)) rfl
theorem kZ_A : (Cond.initialized "java/lang/IndexOutOfBoundsException") ∈ WA := WA_t (List.mem_append_left _ (List.mem_of_getElem? (i := 13) rfl)) rfl
theorem kL_L_8 : (Cond.classLink "IssueRowsLaw" (8 : Nat) "IssueRows") ∈ WA := WA_t (List.mem_append_left _ (List.mem_of_getElem? (i := 14) rfl)) rfl
theorem kA_X : (Cond.instantiable "IssueRows" (8 : Nat)) ∈ WA := WA_t (List.mem_append_left _ (List.mem_of_getElem? (i := 15) rfl)) rfl
theorem kM_L_21 : (Cond.methodLink "IssueRowsLaw" (21 : Nat) ({ cls := "IssueRows", name := "<init>", desc := "()V" } : MethodName)) ∈ WA := WA_t (List.mem_append_left _ (List.mem_of_getElem? (i := 16) rfl)) rfl
theorem kI_X_init : (Cond.instanceMethod ({ cls := "IssueRows", name := "<init>", desc := "()V" } : MethodName)) ∈ WA := WA_t (List.mem_append_left _ (List.mem_of_getElem? (i := 17) rfl)) rfl
theorem kC_X_init : (Cond.code ({ cls := "IssueRows", name := "<init>", desc := "()V" } : MethodName) prog_1_method_1_code (2 : Nat) (Option.none : Option FieldType)) ∈ WA := WA_t (List.mem_append_left _ (List.mem_of_getElem? (i := 18) rfl)) rfl
theorem kM_X_1 : (Cond.methodLink "IssueRows" (1 : Nat) ({ cls := "java/lang/Object", name := "<init>", desc := "()V" } : MethodName)) ∈ WA := WA_t (List.mem_append_left _ (List.mem_of_getElem? (i := 19) rfl)) rfl
theorem kI_O_init : (Cond.instanceMethod ({ cls := "java/lang/Object", name := "<init>", desc := "()V" } : MethodName)) ∈ WA := WA_t (List.mem_append_left _ (List.mem_of_getElem? (i := 20) rfl)) rfl
theorem kC_O_init : (Cond.code ({ cls := "java/lang/Object", name := "<init>", desc := "()V" } : MethodName) object_method_1_code (1 : Nat) (Option.none : Option FieldType)) ∈ WA := WA_t (List.mem_append_left _ (List.mem_of_getElem? (i := 21) rfl)) rfl
theorem kL_X_9 : (Cond.classLink "IssueRows" (9 : Nat) "IssueRows$Rule") ∈ WA := WA_t (List.mem_append_left _ (List.mem_of_getElem? (i := 22) rfl)) rfl
theorem kL_X_15 : (Cond.classLink "IssueRows" (15 : Nat) "IssueRows$Issue") ∈ WA := WA_t (List.mem_append_left _ (List.mem_of_getElem? (i := 24) rfl)) rfl
theorem kL_X_28 : (Cond.classLink "IssueRows" (28 : Nat) "IssueRows$Pairs") ∈ WA := WA_t (List.mem_append_left _ (List.mem_of_getElem? (i := 26) rfl)) rfl
theorem kA_P : (Cond.instantiable "IssueRows$Pairs" (3 : Nat)) ∈ WA := WA_t (List.mem_append_left _ (List.mem_of_getElem? (i := 27) rfl)) rfl
theorem kM_X_30 : (Cond.methodLink "IssueRows" (30 : Nat) ({ cls := "IssueRows$Pairs", name := "<init>", desc := "(I)V" } : MethodName)) ∈ WA := WA_t (List.mem_append_left _ (List.mem_of_getElem? (i := 28) rfl)) rfl
theorem kI_P_init : (Cond.instanceMethod ({ cls := "IssueRows$Pairs", name := "<init>", desc := "(I)V" } : MethodName)) ∈ WA := WA_t (List.mem_append_left _ (List.mem_of_getElem? (i := 29) rfl)) rfl
theorem kC_P_init : (Cond.code ({ cls := "IssueRows$Pairs", name := "<init>", desc := "(I)V" } : MethodName) prog_3_method_1_code (3 : Nat) (Option.none : Option FieldType)) ∈ WA := WA_t (List.mem_append_left _ (List.mem_of_getElem? (i := 30) rfl)) rfl
theorem kM_P_3 : (Cond.methodLink "IssueRows$Pairs" (3 : Nat) ({ cls := "java/lang/Object", name := "<init>", desc := "()V" } : MethodName)) ∈ WA := WA_t (List.mem_append_left _ (List.mem_of_getElem? (i := 31) rfl)) rfl
theorem kM_P_15 : (Cond.methodLink "IssueRows$Pairs" (15 : Nat) ({ cls := "java/lang/Math", name := "max", desc := "(II)I" } : MethodName)) ∈ WA := WA_t (List.mem_append_left _ (List.mem_of_getElem? (i := 32) rfl)) rfl
theorem kS_H_max : (Cond.static ({ cls := "java/lang/Math", name := "max", desc := "(II)I" } : MethodName)) ∈ WA := WA_t (List.mem_append_left _ (List.mem_of_getElem? (i := 33) rfl)) rfl
theorem kC_H_max : (Cond.code ({ cls := "java/lang/Math", name := "max", desc := "(II)I" } : MethodName) prog_12_method_65_code (2 : Nat) (Option.some FieldType.int)) ∈ WA := WA_t (List.mem_append_left _ (List.mem_of_getElem? (i := 34) rfl)) rfl
theorem kF_P_21 : (Cond.fieldLink "IssueRows$Pairs" (21 : Nat) "IssueRows$Pairs" "firsts" "[I") ∈ WA := WA_t (List.mem_append_left _ (List.mem_of_getElem? (i := 35) rfl)) rfl
theorem kF_P_25 : (Cond.fieldLink "IssueRows$Pairs" (25 : Nat) "IssueRows$Pairs" "seconds" "[I") ∈ WA := WA_t (List.mem_append_left _ (List.mem_of_getElem? (i := 36) rfl)) rfl
theorem kF_P_9 : (Cond.fieldLink "IssueRows$Pairs" (9 : Nat) "IssueRows$Pairs" "size" "I") ∈ WA := WA_t (List.mem_append_left _ (List.mem_of_getElem? (i := 37) rfl)) rfl
theorem kF_X_117 : (Cond.fieldLink "IssueRows" (117 : Nat) "IssueRows$Pairs" "size" "I") ∈ WA := WA_t (List.mem_append_left _ (List.mem_of_getElem? (i := 38) rfl)) rfl
theorem kY_P_firsts : (Cond.laysFinal "IssueRows$Pairs" "IssueRows$Pairs" "firsts" "[I") ∈ WA := WA_t (List.mem_append_left _ (List.mem_of_getElem? (i := 39) rfl)) rfl
theorem kY_P_seconds : (Cond.laysFinal "IssueRows$Pairs" "IssueRows$Pairs" "seconds" "[I") ∈ WA := WA_t (List.mem_append_left _ (List.mem_of_getElem? (i := 41) rfl)) rfl
theorem kY_P_size : (Cond.lays "IssueRows$Pairs" "IssueRows$Pairs" "size" "I") ∈ WA := WA_t (List.mem_append_left _ (List.mem_of_getElem? (i := 43) rfl)) rfl
theorem kR_int : (Cond.arrayClass FieldType.int) ∈ WA := WA_t (List.mem_append_left _ (List.mem_of_getElem? (i := 46) rfl)) rfl
theorem kL_X_40 : (Cond.classLink "IssueRows" (40 : Nat) "IssueRows$Volumes") ∈ WA := WA_t (List.mem_append_left _ (List.mem_of_getElem? (i := 47) rfl)) rfl
theorem kA_V : (Cond.instantiable "IssueRows$Volumes" (3 : Nat)) ∈ WA := WA_t (List.mem_append_left _ (List.mem_of_getElem? (i := 48) rfl)) rfl
theorem kI_V_init : (Cond.instanceMethod ({ cls := "IssueRows$Volumes", name := "<init>", desc := "()V" } : MethodName)) ∈ WA := WA_t (List.mem_append_left _ (List.mem_of_getElem? (i := 50) rfl)) rfl
theorem kC_V_init : (Cond.code ({ cls := "IssueRows$Volumes", name := "<init>", desc := "()V" } : MethodName) prog_7_method_1_code (1 : Nat) (Option.none : Option FieldType)) ∈ WA := WA_t (List.mem_append_left _ (List.mem_of_getElem? (i := 51) rfl)) rfl
theorem kM_V_3 : (Cond.methodLink "IssueRows$Volumes" (3 : Nat) ({ cls := "java/lang/Object", name := "<init>", desc := "()V" } : MethodName)) ∈ WA := WA_t (List.mem_append_left _ (List.mem_of_getElem? (i := 52) rfl)) rfl
theorem kF_V_9 : (Cond.fieldLink "IssueRows$Volumes" (9 : Nat) "IssueRows$Volumes" "members" "[I") ∈ WA := WA_t (List.mem_append_left _ (List.mem_of_getElem? (i := 53) rfl)) rfl
theorem kF_V_15 : (Cond.fieldLink "IssueRows$Volumes" (15 : Nat) "IssueRows$Volumes" "ends" "[I") ∈ WA := WA_t (List.mem_append_left _ (List.mem_of_getElem? (i := 54) rfl)) rfl
theorem kF_V_18 : (Cond.fieldLink "IssueRows$Volumes" (18 : Nat) "IssueRows$Volumes" "count" "I") ∈ WA := WA_t (List.mem_append_left _ (List.mem_of_getElem? (i := 55) rfl)) rfl
theorem kY_V_members : (Cond.laysFinal "IssueRows$Volumes" "IssueRows$Volumes" "members" "[I") ∈ WA := WA_t (List.mem_append_left _ (List.mem_of_getElem? (i := 56) rfl)) rfl
theorem kY_V_ends : (Cond.laysFinal "IssueRows$Volumes" "IssueRows$Volumes" "ends" "[I") ∈ WA := WA_t (List.mem_append_left _ (List.mem_of_getElem? (i := 58) rfl)) rfl
theorem kY_V_count : (Cond.lays "IssueRows$Volumes" "IssueRows$Volumes" "count" "I") ∈ WA := WA_t (List.mem_append_left _ (List.mem_of_getElem? (i := 60) rfl)) rfl
theorem kL_X_47 : (Cond.classLink "IssueRows" (47 : Nat) "IssueRows$Statement") ∈ WA := WA_t (List.mem_append_left _ (List.mem_of_getElem? (i := 63) rfl)) rfl
theorem kA_S : (Cond.instantiable "IssueRows$Statement" (4 : Nat)) ∈ WA := WA_t (List.mem_append_left _ (List.mem_of_getElem? (i := 64) rfl)) rfl
theorem kI_S_init : (Cond.instanceMethod ({ cls := "IssueRows$Statement", name := "<init>", desc := "()V" } : MethodName)) ∈ WA := WA_t (List.mem_append_left _ (List.mem_of_getElem? (i := 66) rfl)) rfl
theorem kC_S_init : (Cond.code ({ cls := "IssueRows$Statement", name := "<init>", desc := "()V" } : MethodName) prog_6_method_1_code (1 : Nat) (Option.none : Option FieldType)) ∈ WA := WA_t (List.mem_append_left _ (List.mem_of_getElem? (i := 67) rfl)) rfl
theorem kM_S_3 : (Cond.methodLink "IssueRows$Statement" (3 : Nat) ({ cls := "java/lang/Object", name := "<init>", desc := "()V" } : MethodName)) ∈ WA := WA_t (List.mem_append_left _ (List.mem_of_getElem? (i := 68) rfl)) rfl
theorem kF_S_9 : (Cond.fieldLink "IssueRows$Statement" (9 : Nat) "IssueRows$Statement" "firsts" "[I") ∈ WA := WA_t (List.mem_append_left _ (List.mem_of_getElem? (i := 69) rfl)) rfl
theorem kF_S_15 : (Cond.fieldLink "IssueRows$Statement" (15 : Nat) "IssueRows$Statement" "lasts" "[I") ∈ WA := WA_t (List.mem_append_left _ (List.mem_of_getElem? (i := 70) rfl)) rfl
theorem kF_S_18 : (Cond.fieldLink "IssueRows$Statement" (18 : Nat) "IssueRows$Statement" "counts" "[I") ∈ WA := WA_t (List.mem_append_left _ (List.mem_of_getElem? (i := 71) rfl)) rfl
theorem kF_S_21 : (Cond.fieldLink "IssueRows$Statement" (21 : Nat) "IssueRows$Statement" "size" "I") ∈ WA := WA_t (List.mem_append_left _ (List.mem_of_getElem? (i := 72) rfl)) rfl
theorem kF_X_196 : (Cond.fieldLink "IssueRows" (196 : Nat) "IssueRows$Statement" "size" "I") ∈ WA := WA_t (List.mem_append_left _ (List.mem_of_getElem? (i := 73) rfl)) rfl
theorem kY_S_firsts : (Cond.laysFinal "IssueRows$Statement" "IssueRows$Statement" "firsts" "[I") ∈ WA := WA_t (List.mem_append_left _ (List.mem_of_getElem? (i := 74) rfl)) rfl
theorem kY_S_lasts : (Cond.laysFinal "IssueRows$Statement" "IssueRows$Statement" "lasts" "[I") ∈ WA := WA_t (List.mem_append_left _ (List.mem_of_getElem? (i := 76) rfl)) rfl
theorem kY_S_counts : (Cond.laysFinal "IssueRows$Statement" "IssueRows$Statement" "counts" "[I") ∈ WA := WA_t (List.mem_append_left _ (List.mem_of_getElem? (i := 78) rfl)) rfl
theorem kY_S_size : (Cond.lays "IssueRows$Statement" "IssueRows$Statement" "size" "I") ∈ WA := WA_t (List.mem_append_left _ (List.mem_of_getElem? (i := 80) rfl)) rfl
theorem kA_U : (Cond.instantiable "IssueRows$Rule" (3 : Nat)) ∈ WA := WA_t (List.mem_append_left _ (List.mem_of_getElem? (i := 83) rfl)) rfl
theorem kI_U_init : (Cond.instanceMethod ({ cls := "IssueRows$Rule", name := "<init>", desc := "()V" } : MethodName)) ∈ WA := WA_t (List.mem_append_left _ (List.mem_of_getElem? (i := 85) rfl)) rfl
theorem kC_U_init : (Cond.code ({ cls := "IssueRows$Rule", name := "<init>", desc := "()V" } : MethodName) prog_5_method_1_code (1 : Nat) (Option.none : Option FieldType)) ∈ WA := WA_t (List.mem_append_left _ (List.mem_of_getElem? (i := 86) rfl)) rfl
theorem kM_U_3 : (Cond.methodLink "IssueRows$Rule" (3 : Nat) ({ cls := "java/lang/Object", name := "<init>", desc := "()V" } : MethodName)) ∈ WA := WA_t (List.mem_append_left _ (List.mem_of_getElem? (i := 87) rfl)) rfl
theorem kF_U_9 : (Cond.fieldLink "IssueRows$Rule" (9 : Nat) "IssueRows$Rule" "first" "I") ∈ WA := WA_t (List.mem_append_left _ (List.mem_of_getElem? (i := 88) rfl)) rfl
theorem kF_X_63 : (Cond.fieldLink "IssueRows" (63 : Nat) "IssueRows$Rule" "first" "I") ∈ WA := WA_t (List.mem_append_left _ (List.mem_of_getElem? (i := 89) rfl)) rfl
theorem kF_U_15 : (Cond.fieldLink "IssueRows$Rule" (15 : Nat) "IssueRows$Rule" "again" "I") ∈ WA := WA_t (List.mem_append_left _ (List.mem_of_getElem? (i := 90) rfl)) rfl
theorem kF_X_66 : (Cond.fieldLink "IssueRows" (66 : Nat) "IssueRows$Rule" "again" "I") ∈ WA := WA_t (List.mem_append_left _ (List.mem_of_getElem? (i := 91) rfl)) rfl
theorem kF_U_18 : (Cond.fieldLink "IssueRows$Rule" (18 : Nat) "IssueRows$Rule" "most" "I") ∈ WA := WA_t (List.mem_append_left _ (List.mem_of_getElem? (i := 92) rfl)) rfl
theorem kF_X_69 : (Cond.fieldLink "IssueRows" (69 : Nat) "IssueRows$Rule" "most" "I") ∈ WA := WA_t (List.mem_append_left _ (List.mem_of_getElem? (i := 93) rfl)) rfl
theorem kY_U_first : (Cond.lays "IssueRows$Rule" "IssueRows$Rule" "first" "I") ∈ WA := WA_t (List.mem_append_left _ (List.mem_of_getElem? (i := 94) rfl)) rfl
theorem kY_U_again : (Cond.lays "IssueRows$Rule" "IssueRows$Rule" "again" "I") ∈ WA := WA_t (List.mem_append_left _ (List.mem_of_getElem? (i := 96) rfl)) rfl
theorem kY_U_most : (Cond.lays "IssueRows$Rule" "IssueRows$Rule" "most" "I") ∈ WA := WA_t (List.mem_append_left _ (List.mem_of_getElem? (i := 98) rfl)) rfl
theorem kF_X_11 : (Cond.fieldLink "IssueRows" (11 : Nat) "IssueRows" "rules" "[LIssueRows$Rule;") ∈ WA := WA_t (List.mem_append_left _ (List.mem_of_getElem? (i := 101) rfl)) rfl
theorem kF_X_17 : (Cond.fieldLink "IssueRows" (17 : Nat) "IssueRows" "issues" "[LIssueRows$Issue;") ∈ WA := WA_t (List.mem_append_left _ (List.mem_of_getElem? (i := 102) rfl)) rfl
theorem kF_X_21 : (Cond.fieldLink "IssueRows" (21 : Nat) "IssueRows" "byOrdinal" "[LIssueRows$Issue;") ∈ WA := WA_t (List.mem_append_left _ (List.mem_of_getElem? (i := 103) rfl)) rfl
theorem kF_X_24 : (Cond.fieldLink "IssueRows" (24 : Nat) "IssueRows" "issueCount" "I") ∈ WA := WA_t (List.mem_append_left _ (List.mem_of_getElem? (i := 104) rfl)) rfl
theorem kF_X_33 : (Cond.fieldLink "IssueRows" (33 : Nat) "IssueRows" "round" "LIssueRows$Pairs;") ∈ WA := WA_t (List.mem_append_left _ (List.mem_of_getElem? (i := 105) rfl)) rfl
theorem kF_X_37 : (Cond.fieldLink "IssueRows" (37 : Nat) "IssueRows" "notes" "LIssueRows$Pairs;") ∈ WA := WA_t (List.mem_append_left _ (List.mem_of_getElem? (i := 106) rfl)) rfl
theorem kF_X_43 : (Cond.fieldLink "IssueRows" (43 : Nat) "IssueRows" "volumes" "LIssueRows$Volumes;") ∈ WA := WA_t (List.mem_append_left _ (List.mem_of_getElem? (i := 107) rfl)) rfl
theorem kF_X_50 : (Cond.fieldLink "IssueRows" (50 : Nat) "IssueRows" "latest" "LIssueRows$Statement;") ∈ WA := WA_t (List.mem_append_left _ (List.mem_of_getElem? (i := 108) rfl)) rfl
theorem kY_X_rules : (Cond.laysFinal "IssueRows" "IssueRows" "rules" "[LIssueRows$Rule;") ∈ WA := WA_t (List.mem_append_left _ (List.mem_of_getElem? (i := 109) rfl)) rfl
theorem kY_X_issues : (Cond.laysFinal "IssueRows" "IssueRows" "issues" "[LIssueRows$Issue;") ∈ WA := WA_t (List.mem_append_left _ (List.mem_of_getElem? (i := 111) rfl)) rfl
theorem kY_X_byOrdinal : (Cond.laysFinal "IssueRows" "IssueRows" "byOrdinal" "[LIssueRows$Issue;") ∈ WA := WA_t (List.mem_append_left _ (List.mem_of_getElem? (i := 113) rfl)) rfl
theorem kY_X_issueCount : (Cond.lays "IssueRows" "IssueRows" "issueCount" "I") ∈ WA := WA_t (List.mem_append_left _ (List.mem_of_getElem? (i := 115) rfl)) rfl
theorem kY_X_round : (Cond.laysFinal "IssueRows" "IssueRows" "round" "LIssueRows$Pairs;") ∈ WA := WA_t (List.mem_append_left _ (List.mem_of_getElem? (i := 117) rfl)) rfl
theorem kY_X_notes : (Cond.laysFinal "IssueRows" "IssueRows" "notes" "LIssueRows$Pairs;") ∈ WA := WA_t (List.mem_append_left _ (List.mem_of_getElem? (i := 119) rfl)) rfl
theorem kY_X_volumes : (Cond.laysFinal "IssueRows" "IssueRows" "volumes" "LIssueRows$Volumes;") ∈ WA := WA_t (List.mem_append_left _ (List.mem_of_getElem? (i := 121) rfl)) rfl
theorem kY_X_latest : (Cond.laysFinal "IssueRows" "IssueRows" "latest" "LIssueRows$Statement;") ∈ WA := WA_t (List.mem_append_left _ (List.mem_of_getElem? (i := 123) rfl)) rfl
theorem kM_L_25 : (Cond.methodLink "IssueRowsLaw" (25 : Nat) ({ cls := "IssueRows", name := "rule", desc := "(IIII)I" } : MethodName)) ∈ WA := WA_t (List.mem_append_left _ (List.mem_of_getElem? (i := 126) rfl)) rfl
theorem kI_X_rule : (Cond.instanceMethod ({ cls := "IssueRows", name := "rule", desc := "(IIII)I" } : MethodName)) ∈ WA := WA_t (List.mem_append_left _ (List.mem_of_getElem? (i := 127) rfl)) rfl
theorem kV_X_rule : (Cond.selects "IssueRows" ({ cls := "IssueRows", name := "rule", desc := "(IIII)I" } : MethodName) ({ cls := "IssueRows", name := "rule", desc := "(IIII)I" } : MethodName)) ∈ WA := WA_t (List.mem_append_left _ (List.mem_of_getElem? (i := 128) rfl)) rfl
theorem kC_X_rule : (Cond.code ({ cls := "IssueRows", name := "rule", desc := "(IIII)I" } : MethodName) prog_1_method_2_code (6 : Nat) (Option.some FieldType.int)) ∈ WA := WA_t (List.mem_append_left _ (List.mem_of_getElem? (i := 129) rfl)) rfl
theorem kM_X_55 : (Cond.methodLink "IssueRows" (55 : Nat) ({ cls := "IssueRows", name := "isPattern", desc := "(I)Z" } : MethodName)) ∈ WA := WA_t (List.mem_append_left _ (List.mem_of_getElem? (i := 130) rfl)) rfl
theorem kS_X_isPattern : (Cond.static ({ cls := "IssueRows", name := "isPattern", desc := "(I)Z" } : MethodName)) ∈ WA := WA_t (List.mem_append_left _ (List.mem_of_getElem? (i := 131) rfl)) rfl
theorem kC_X_isPattern : (Cond.code ({ cls := "IssueRows", name := "isPattern", desc := "(I)Z" } : MethodName) prog_1_method_20_code (1 : Nat) (Option.some FieldType.boolean)) ∈ WA := WA_t (List.mem_append_left _ (List.mem_of_getElem? (i := 132) rfl)) rfl
theorem kM_X_59 : (Cond.methodLink "IssueRows" (59 : Nat) ({ cls := "IssueRows", name := "within", desc := "(III)Z" } : MethodName)) ∈ WA := WA_t (List.mem_append_left _ (List.mem_of_getElem? (i := 133) rfl)) rfl
theorem kS_X_within : (Cond.static ({ cls := "IssueRows", name := "within", desc := "(III)Z" } : MethodName)) ∈ WA := WA_t (List.mem_append_left _ (List.mem_of_getElem? (i := 134) rfl)) rfl
theorem kC_X_within : (Cond.code ({ cls := "IssueRows", name := "within", desc := "(III)Z" } : MethodName) prog_1_method_19_code (3 : Nat) (Option.some FieldType.boolean)) ∈ WA := WA_t (List.mem_append_left _ (List.mem_of_getElem? (i := 135) rfl)) rfl
theorem kM_L_30 : (Cond.methodLink "IssueRowsLaw" (30 : Nat) ({ cls := "IssueRows", name := "issue", desc := "(III)I" } : MethodName)) ∈ WA := WA_t (List.mem_append_left _ (List.mem_of_getElem? (i := 136) rfl)) rfl
theorem kI_X_issue : (Cond.instanceMethod ({ cls := "IssueRows", name := "issue", desc := "(III)I" } : MethodName)) ∈ WA := WA_t (List.mem_append_left _ (List.mem_of_getElem? (i := 137) rfl)) rfl
theorem kV_X_issue : (Cond.selects "IssueRows" ({ cls := "IssueRows", name := "issue", desc := "(III)I" } : MethodName) ({ cls := "IssueRows", name := "issue", desc := "(III)I" } : MethodName)) ∈ WA := WA_t (List.mem_append_left _ (List.mem_of_getElem? (i := 138) rfl)) rfl
theorem kC_X_issue : (Cond.code ({ cls := "IssueRows", name := "issue", desc := "(III)I" } : MethodName) prog_1_method_3_code (5 : Nat) (Option.some FieldType.int)) ∈ WA := WA_t (List.mem_append_left _ (List.mem_of_getElem? (i := 139) rfl)) rfl
theorem kM_X_72 : (Cond.methodLink "IssueRows" (72 : Nat) ({ cls := "IssueRows", name := "isDay", desc := "(I)Z" } : MethodName)) ∈ WA := WA_t (List.mem_append_left _ (List.mem_of_getElem? (i := 140) rfl)) rfl
theorem kS_X_isDay : (Cond.static ({ cls := "IssueRows", name := "isDay", desc := "(I)Z" } : MethodName)) ∈ WA := WA_t (List.mem_append_left _ (List.mem_of_getElem? (i := 141) rfl)) rfl
theorem kC_X_isDay : (Cond.code ({ cls := "IssueRows", name := "isDay", desc := "(I)Z" } : MethodName) prog_1_method_21_code (1 : Nat) (Option.some FieldType.boolean)) ∈ WA := WA_t (List.mem_append_left _ (List.mem_of_getElem? (i := 142) rfl)) rfl
theorem kK_X_212 : (Cond.constant "IssueRows" (212 : Nat) (1000000 : Int32)) ∈ WA := WA_t (List.mem_append_left _ (List.mem_of_getElem? (i := 143) rfl)) rfl
theorem kM_X_75 : (Cond.methodLink "IssueRows" (75 : Nat) ({ cls := "IssueRows", name := "hasOrdinal", desc := "(II)Z" } : MethodName)) ∈ WA := WA_t (List.mem_append_left _ (List.mem_of_getElem? (i := 144) rfl)) rfl
theorem kI_X_hasOrdinal : (Cond.instanceMethod ({ cls := "IssueRows", name := "hasOrdinal", desc := "(II)Z" } : MethodName)) ∈ WA := WA_t (List.mem_append_left _ (List.mem_of_getElem? (i := 146) rfl)) rfl
theorem kC_X_hasOrdinal : (Cond.code ({ cls := "IssueRows", name := "hasOrdinal", desc := "(II)Z" } : MethodName) prog_1_method_23_code (4 : Nat) (Option.some FieldType.boolean)) ∈ WA := WA_t (List.mem_append_left _ (List.mem_of_getElem? (i := 147) rfl)) rfl
theorem kA_I : (Cond.instantiable "IssueRows$Issue" (14 : Nat)) ∈ WA := WA_t (List.mem_append_left _ (List.mem_of_getElem? (i := 148) rfl)) rfl
theorem kM_X_79 : (Cond.methodLink "IssueRows" (79 : Nat) ({ cls := "IssueRows$Issue", name := "<init>", desc := "(IIIIZ)V" } : MethodName)) ∈ WA := WA_t (List.mem_append_left _ (List.mem_of_getElem? (i := 149) rfl)) rfl
theorem kI_I_init : (Cond.instanceMethod ({ cls := "IssueRows$Issue", name := "<init>", desc := "(IIIIZ)V" } : MethodName)) ∈ WA := WA_t (List.mem_append_left _ (List.mem_of_getElem? (i := 150) rfl)) rfl
theorem kC_I_init : (Cond.code ({ cls := "IssueRows$Issue", name := "<init>", desc := "(IIIIZ)V" } : MethodName) prog_2_method_1_code (6 : Nat) (Option.none : Option FieldType)) ∈ WA := WA_t (List.mem_append_left _ (List.mem_of_getElem? (i := 151) rfl)) rfl
theorem kM_I_3 : (Cond.methodLink "IssueRows$Issue" (3 : Nat) ({ cls := "java/lang/Object", name := "<init>", desc := "()V" } : MethodName)) ∈ WA := WA_t (List.mem_append_left _ (List.mem_of_getElem? (i := 152) rfl)) rfl
theorem kL_I_9 : (Cond.classLink "IssueRows$Issue" (9 : Nat) "IssueRows$Routing") ∈ WA := WA_t (List.mem_append_left _ (List.mem_of_getElem? (i := 153) rfl)) rfl
theorem kA_G : (Cond.instantiable "IssueRows$Routing" (5 : Nat)) ∈ WA := WA_t (List.mem_append_left _ (List.mem_of_getElem? (i := 154) rfl)) rfl
theorem kI_G_init : (Cond.instanceMethod ({ cls := "IssueRows$Routing", name := "<init>", desc := "()V" } : MethodName)) ∈ WA := WA_t (List.mem_append_left _ (List.mem_of_getElem? (i := 156) rfl)) rfl
theorem kC_G_init : (Cond.code ({ cls := "IssueRows$Routing", name := "<init>", desc := "()V" } : MethodName) prog_4_method_1_code (1 : Nat) (Option.none : Option FieldType)) ∈ WA := WA_t (List.mem_append_left _ (List.mem_of_getElem? (i := 157) rfl)) rfl
theorem kM_G_3 : (Cond.methodLink "IssueRows$Routing" (3 : Nat) ({ cls := "java/lang/Object", name := "<init>", desc := "()V" } : MethodName)) ∈ WA := WA_t (List.mem_append_left _ (List.mem_of_getElem? (i := 158) rfl)) rfl
theorem kF_G_9 : (Cond.fieldLink "IssueRows$Routing" (9 : Nat) "IssueRows$Routing" "persons" "[I") ∈ WA := WA_t (List.mem_append_left _ (List.mem_of_getElem? (i := 159) rfl)) rfl
theorem kF_G_15 : (Cond.fieldLink "IssueRows$Routing" (15 : Nat) "IssueRows$Routing" "days" "[I") ∈ WA := WA_t (List.mem_append_left _ (List.mem_of_getElem? (i := 160) rfl)) rfl
theorem kF_G_18 : (Cond.fieldLink "IssueRows$Routing" (18 : Nat) "IssueRows$Routing" "size" "I") ∈ WA := WA_t (List.mem_append_left _ (List.mem_of_getElem? (i := 161) rfl)) rfl
theorem kF_X_147 : (Cond.fieldLink "IssueRows" (147 : Nat) "IssueRows$Routing" "size" "I") ∈ WA := WA_t (List.mem_append_left _ (List.mem_of_getElem? (i := 162) rfl)) rfl
theorem kF_G_22 : (Cond.fieldLink "IssueRows$Routing" (22 : Nat) "IssueRows$Routing" "place" "I") ∈ WA := WA_t (List.mem_append_left _ (List.mem_of_getElem? (i := 163) rfl)) rfl
theorem kF_G_25 : (Cond.fieldLink "IssueRows$Routing" (25 : Nat) "IssueRows$Routing" "since" "I") ∈ WA := WA_t (List.mem_append_left _ (List.mem_of_getElem? (i := 164) rfl)) rfl
theorem kF_X_158 : (Cond.fieldLink "IssueRows" (158 : Nat) "IssueRows$Routing" "since" "I") ∈ WA := WA_t (List.mem_append_left _ (List.mem_of_getElem? (i := 165) rfl)) rfl
theorem kY_G_persons : (Cond.laysFinal "IssueRows$Routing" "IssueRows$Routing" "persons" "[I") ∈ WA := WA_t (List.mem_append_left _ (List.mem_of_getElem? (i := 166) rfl)) rfl
theorem kY_G_days : (Cond.laysFinal "IssueRows$Routing" "IssueRows$Routing" "days" "[I") ∈ WA := WA_t (List.mem_append_left _ (List.mem_of_getElem? (i := 168) rfl)) rfl
theorem kY_G_size : (Cond.lays "IssueRows$Routing" "IssueRows$Routing" "size" "I") ∈ WA := WA_t (List.mem_append_left _ (List.mem_of_getElem? (i := 170) rfl)) rfl
theorem kY_G_place : (Cond.lays "IssueRows$Routing" "IssueRows$Routing" "place" "I") ∈ WA := WA_t (List.mem_append_left _ (List.mem_of_getElem? (i := 172) rfl)) rfl
theorem kY_G_since : (Cond.lays "IssueRows$Routing" "IssueRows$Routing" "since" "I") ∈ WA := WA_t (List.mem_append_left _ (List.mem_of_getElem? (i := 174) rfl)) rfl
theorem kF_I_40 : (Cond.fieldLink "IssueRows$Issue" (40 : Nat) "IssueRows$Issue" "number" "I") ∈ WA := WA_t (List.mem_append_left _ (List.mem_of_getElem? (i := 177) rfl)) rfl
theorem kF_X_86 : (Cond.fieldLink "IssueRows" (86 : Nat) "IssueRows$Issue" "number" "I") ∈ WA := WA_t (List.mem_append_left _ (List.mem_of_getElem? (i := 178) rfl)) rfl
theorem kF_I_43 : (Cond.fieldLink "IssueRows$Issue" (43 : Nat) "IssueRows$Issue" "pattern" "I") ∈ WA := WA_t (List.mem_append_left _ (List.mem_of_getElem? (i := 179) rfl)) rfl
theorem kF_X_167 : (Cond.fieldLink "IssueRows" (167 : Nat) "IssueRows$Issue" "pattern" "I") ∈ WA := WA_t (List.mem_append_left _ (List.mem_of_getElem? (i := 180) rfl)) rfl
theorem kF_I_46 : (Cond.fieldLink "IssueRows$Issue" (46 : Nat) "IssueRows$Issue" "ordinal" "I") ∈ WA := WA_t (List.mem_append_left _ (List.mem_of_getElem? (i := 181) rfl)) rfl
theorem kF_X_170 : (Cond.fieldLink "IssueRows" (170 : Nat) "IssueRows$Issue" "ordinal" "I") ∈ WA := WA_t (List.mem_append_left _ (List.mem_of_getElem? (i := 182) rfl)) rfl
theorem kF_I_49 : (Cond.fieldLink "IssueRows$Issue" (49 : Nat) "IssueRows$Issue" "expected" "I") ∈ WA := WA_t (List.mem_append_left _ (List.mem_of_getElem? (i := 183) rfl)) rfl
theorem kF_U_26 : (Cond.fieldLink "IssueRows$Rule" (26 : Nat) "IssueRows$Issue" "expected" "I") ∈ WA := WA_t (List.mem_append_left _ (List.mem_of_getElem? (i := 184) rfl)) rfl
theorem kF_X_104 : (Cond.fieldLink "IssueRows" (104 : Nat) "IssueRows$Issue" "expected" "I") ∈ WA := WA_t (List.mem_append_left _ (List.mem_of_getElem? (i := 185) rfl)) rfl
theorem kF_I_52 : (Cond.fieldLink "IssueRows$Issue" (52 : Nat) "IssueRows$Issue" "replacement" "Z") ∈ WA := WA_t (List.mem_append_left _ (List.mem_of_getElem? (i := 186) rfl)) rfl
theorem kF_I_12 : (Cond.fieldLink "IssueRows$Issue" (12 : Nat) "IssueRows$Issue" "routing" "LIssueRows$Routing;") ∈ WA := WA_t (List.mem_append_left _ (List.mem_of_getElem? (i := 187) rfl)) rfl
theorem kF_X_134 : (Cond.fieldLink "IssueRows" (134 : Nat) "IssueRows$Issue" "routing" "LIssueRows$Routing;") ∈ WA := WA_t (List.mem_append_left _ (List.mem_of_getElem? (i := 188) rfl)) rfl
theorem kF_I_56 : (Cond.fieldLink "IssueRows$Issue" (56 : Nat) "IssueRows$Issue" "state" "I") ∈ WA := WA_t (List.mem_append_left _ (List.mem_of_getElem? (i := 189) rfl)) rfl
theorem kF_U_21 : (Cond.fieldLink "IssueRows$Rule" (21 : Nat) "IssueRows$Issue" "state" "I") ∈ WA := WA_t (List.mem_append_left _ (List.mem_of_getElem? (i := 190) rfl)) rfl
theorem kF_X_97 : (Cond.fieldLink "IssueRows" (97 : Nat) "IssueRows$Issue" "state" "I") ∈ WA := WA_t (List.mem_append_left _ (List.mem_of_getElem? (i := 191) rfl)) rfl
theorem kF_I_18 : (Cond.fieldLink "IssueRows$Issue" (18 : Nat) "IssueRows$Issue" "claims" "I") ∈ WA := WA_t (List.mem_append_left _ (List.mem_of_getElem? (i := 192) rfl)) rfl
theorem kF_X_217 : (Cond.fieldLink "IssueRows" (217 : Nat) "IssueRows$Issue" "claims" "I") ∈ WA := WA_t (List.mem_append_left _ (List.mem_of_getElem? (i := 193) rfl)) rfl
theorem kF_I_22 : (Cond.fieldLink "IssueRows$Issue" (22 : Nat) "IssueRows$Issue" "claimedOn" "I") ∈ WA := WA_t (List.mem_append_left _ (List.mem_of_getElem? (i := 194) rfl)) rfl
theorem kF_U_29 : (Cond.fieldLink "IssueRows$Rule" (29 : Nat) "IssueRows$Issue" "claimedOn" "I") ∈ WA := WA_t (List.mem_append_left _ (List.mem_of_getElem? (i := 195) rfl)) rfl
theorem kF_I_25 : (Cond.fieldLink "IssueRows$Issue" (25 : Nat) "IssueRows$Issue" "copies" "I") ∈ WA := WA_t (List.mem_append_left _ (List.mem_of_getElem? (i := 196) rfl)) rfl
theorem kF_I_28 : (Cond.fieldLink "IssueRows$Issue" (28 : Nat) "IssueRows$Issue" "came" "I") ∈ WA := WA_t (List.mem_append_left _ (List.mem_of_getElem? (i := 197) rfl)) rfl
theorem kF_I_31 : (Cond.fieldLink "IssueRows$Issue" (31 : Nat) "IssueRows$Issue" "volume" "I") ∈ WA := WA_t (List.mem_append_left _ (List.mem_of_getElem? (i := 198) rfl)) rfl
theorem kF_X_226 : (Cond.fieldLink "IssueRows" (226 : Nat) "IssueRows$Issue" "volume" "I") ∈ WA := WA_t (List.mem_append_left _ (List.mem_of_getElem? (i := 199) rfl)) rfl
theorem kF_I_34 : (Cond.fieldLink "IssueRows$Issue" (34 : Nat) "IssueRows$Issue" "replacedBy" "I") ∈ WA := WA_t (List.mem_append_left _ (List.mem_of_getElem? (i := 200) rfl)) rfl
theorem kF_X_173 : (Cond.fieldLink "IssueRows" (173 : Nat) "IssueRows$Issue" "replacedBy" "I") ∈ WA := WA_t (List.mem_append_left _ (List.mem_of_getElem? (i := 201) rfl)) rfl
theorem kF_I_37 : (Cond.fieldLink "IssueRows$Issue" (37 : Nat) "IssueRows$Issue" "cents" "I") ∈ WA := WA_t (List.mem_append_left _ (List.mem_of_getElem? (i := 202) rfl)) rfl
theorem kF_X_205 : (Cond.fieldLink "IssueRows" (205 : Nat) "IssueRows$Issue" "cents" "I") ∈ WA := WA_t (List.mem_append_left _ (List.mem_of_getElem? (i := 203) rfl)) rfl
theorem kY_I_number : (Cond.laysFinal "IssueRows$Issue" "IssueRows$Issue" "number" "I") ∈ WA := WA_t (List.mem_append_left _ (List.mem_of_getElem? (i := 204) rfl)) rfl
theorem kY_I_pattern : (Cond.laysFinal "IssueRows$Issue" "IssueRows$Issue" "pattern" "I") ∈ WA := WA_t (List.mem_append_left _ (List.mem_of_getElem? (i := 206) rfl)) rfl
theorem kY_I_ordinal : (Cond.laysFinal "IssueRows$Issue" "IssueRows$Issue" "ordinal" "I") ∈ WA := WA_t (List.mem_append_left _ (List.mem_of_getElem? (i := 208) rfl)) rfl
theorem kY_I_expected : (Cond.laysFinal "IssueRows$Issue" "IssueRows$Issue" "expected" "I") ∈ WA := WA_t (List.mem_append_left _ (List.mem_of_getElem? (i := 210) rfl)) rfl
theorem kY_I_replacement : (Cond.laysFinal "IssueRows$Issue" "IssueRows$Issue" "replacement" "Z") ∈ WA := WA_t (List.mem_append_left _ (List.mem_of_getElem? (i := 212) rfl)) rfl
theorem kY_I_routing : (Cond.laysFinal "IssueRows$Issue" "IssueRows$Issue" "routing" "LIssueRows$Routing;") ∈ WA := WA_t (List.mem_append_left _ (List.mem_of_getElem? (i := 214) rfl)) rfl
theorem kY_I_state : (Cond.lays "IssueRows$Issue" "IssueRows$Issue" "state" "I") ∈ WA := WA_t (List.mem_append_left _ (List.mem_of_getElem? (i := 216) rfl)) rfl
theorem kY_I_claims : (Cond.lays "IssueRows$Issue" "IssueRows$Issue" "claims" "I") ∈ WA := WA_t (List.mem_append_left _ (List.mem_of_getElem? (i := 218) rfl)) rfl
theorem kY_I_claimedOn : (Cond.lays "IssueRows$Issue" "IssueRows$Issue" "claimedOn" "I") ∈ WA := WA_t (List.mem_append_left _ (List.mem_of_getElem? (i := 220) rfl)) rfl
theorem kY_I_copies : (Cond.lays "IssueRows$Issue" "IssueRows$Issue" "copies" "I") ∈ WA := WA_t (List.mem_append_left _ (List.mem_of_getElem? (i := 222) rfl)) rfl
theorem kY_I_came : (Cond.lays "IssueRows$Issue" "IssueRows$Issue" "came" "I") ∈ WA := WA_t (List.mem_append_left _ (List.mem_of_getElem? (i := 224) rfl)) rfl
theorem kY_I_volume : (Cond.lays "IssueRows$Issue" "IssueRows$Issue" "volume" "I") ∈ WA := WA_t (List.mem_append_left _ (List.mem_of_getElem? (i := 226) rfl)) rfl
theorem kY_I_replacedBy : (Cond.lays "IssueRows$Issue" "IssueRows$Issue" "replacedBy" "I") ∈ WA := WA_t (List.mem_append_left _ (List.mem_of_getElem? (i := 228) rfl)) rfl
theorem kY_I_cents : (Cond.lays "IssueRows$Issue" "IssueRows$Issue" "cents" "I") ∈ WA := WA_t (List.mem_append_left _ (List.mem_of_getElem? (i := 230) rfl)) rfl
theorem kM_X_82 : (Cond.methodLink "IssueRows" (82 : Nat) ({ cls := "IssueRows", name := "keep", desc := "(LIssueRows$Issue;)V" } : MethodName)) ∈ WA := WA_t (List.mem_append_left _ (List.mem_of_getElem? (i := 233) rfl)) rfl
theorem kI_X_keep : (Cond.instanceMethod ({ cls := "IssueRows", name := "keep", desc := "(LIssueRows$Issue;)V" } : MethodName)) ∈ WA := WA_t (List.mem_append_left _ (List.mem_of_getElem? (i := 235) rfl)) rfl
theorem kC_X_keep : (Cond.code ({ cls := "IssueRows", name := "keep", desc := "(LIssueRows$Issue;)V" } : MethodName) prog_1_method_24_code (3 : Nat) (Option.none : Option FieldType)) ∈ WA := WA_t (List.mem_append_left _ (List.mem_of_getElem? (i := 236) rfl)) rfl
theorem kM_L_35 : (Cond.methodLink "IssueRowsLaw" (35 : Nat) ({ cls := "IssueRows", name := "checkIn", desc := "(III)I" } : MethodName)) ∈ WA := WA_t (List.mem_append_left _ (List.mem_of_getElem? (i := 237) rfl)) rfl
theorem kI_X_checkIn : (Cond.instanceMethod ({ cls := "IssueRows", name := "checkIn", desc := "(III)I" } : MethodName)) ∈ WA := WA_t (List.mem_append_left _ (List.mem_of_getElem? (i := 238) rfl)) rfl
theorem kV_X_checkIn : (Cond.selects "IssueRows" ({ cls := "IssueRows", name := "checkIn", desc := "(III)I" } : MethodName) ({ cls := "IssueRows", name := "checkIn", desc := "(III)I" } : MethodName)) ∈ WA := WA_t (List.mem_append_left _ (List.mem_of_getElem? (i := 239) rfl)) rfl
theorem kC_X_checkIn : (Cond.code ({ cls := "IssueRows", name := "checkIn", desc := "(III)I" } : MethodName) prog_1_method_4_code (6 : Nat) (Option.some FieldType.int)) ∈ WA := WA_t (List.mem_append_right _ (List.mem_append_left _ (List.mem_of_getElem? (i := 0) rfl))) rfl
theorem kM_X_89 : (Cond.methodLink "IssueRows" (89 : Nat) ({ cls := "IssueRows", name := "find", desc := "(I)LIssueRows$Issue;" } : MethodName)) ∈ WA := WA_t (List.mem_append_right _ (List.mem_append_left _ (List.mem_of_getElem? (i := 1) rfl))) rfl
theorem kI_X_find : (Cond.instanceMethod ({ cls := "IssueRows", name := "find", desc := "(I)LIssueRows$Issue;" } : MethodName)) ∈ WA := WA_t (List.mem_append_right _ (List.mem_append_left _ (List.mem_of_getElem? (i := 3) rfl))) rfl
theorem kC_X_find : (Cond.code ({ cls := "IssueRows", name := "find", desc := "(I)LIssueRows$Issue;" } : MethodName) prog_1_method_22_code (2 : Nat) (Option.some (FieldType.object "IssueRows$Issue"))) ∈ WA := WA_t (List.mem_append_right _ (List.mem_append_left _ (List.mem_of_getElem? (i := 4) rfl))) rfl
theorem kM_X_93 : (Cond.methodLink "IssueRows" (93 : Nat) ({ cls := "IssueRows$Issue", name := "isAwaited", desc := "()Z" } : MethodName)) ∈ WA := WA_t (List.mem_append_right _ (List.mem_append_left _ (List.mem_of_getElem? (i := 5) rfl))) rfl
theorem kI_I_isAwaited : (Cond.instanceMethod ({ cls := "IssueRows$Issue", name := "isAwaited", desc := "()Z" } : MethodName)) ∈ WA := WA_t (List.mem_append_right _ (List.mem_append_left _ (List.mem_of_getElem? (i := 6) rfl))) rfl
theorem kV_I_isAwaited : (Cond.selects "IssueRows$Issue" ({ cls := "IssueRows$Issue", name := "isAwaited", desc := "()Z" } : MethodName) ({ cls := "IssueRows$Issue", name := "isAwaited", desc := "()Z" } : MethodName)) ∈ WA := WA_t (List.mem_append_right _ (List.mem_append_left _ (List.mem_of_getElem? (i := 7) rfl))) rfl
theorem kC_I_isAwaited : (Cond.code ({ cls := "IssueRows$Issue", name := "isAwaited", desc := "()Z" } : MethodName) prog_2_method_2_code (1 : Nat) (Option.some FieldType.boolean)) ∈ WA := WA_t (List.mem_append_right _ (List.mem_append_left _ (List.mem_of_getElem? (i := 8) rfl))) rfl
theorem kM_X_100 : (Cond.methodLink "IssueRows" (100 : Nat) ({ cls := "IssueRows$Pairs", name := "add", desc := "(II)V" } : MethodName)) ∈ WA := WA_t (List.mem_append_right _ (List.mem_append_left _ (List.mem_of_getElem? (i := 9) rfl))) rfl
theorem kI_P_add : (Cond.instanceMethod ({ cls := "IssueRows$Pairs", name := "add", desc := "(II)V" } : MethodName)) ∈ WA := WA_t (List.mem_append_right _ (List.mem_append_left _ (List.mem_of_getElem? (i := 10) rfl))) rfl
theorem kV_P_add : (Cond.selects "IssueRows$Pairs" ({ cls := "IssueRows$Pairs", name := "add", desc := "(II)V" } : MethodName) ({ cls := "IssueRows$Pairs", name := "add", desc := "(II)V" } : MethodName)) ∈ WA := WA_t (List.mem_append_right _ (List.mem_append_left _ (List.mem_of_getElem? (i := 11) rfl))) rfl
theorem kC_P_add : (Cond.code ({ cls := "IssueRows$Pairs", name := "add", desc := "(II)V" } : MethodName) prog_3_method_3_code (3 : Nat) (Option.none : Option FieldType)) ∈ WA := WA_t (List.mem_append_right _ (List.mem_append_left _ (List.mem_of_getElem? (i := 12) rfl))) rfl
theorem kM_X_107 : (Cond.methodLink "IssueRows" (107 : Nat) ({ cls := "IssueRows$Issue", name := "arrive", desc := "(II)V" } : MethodName)) ∈ WA := WA_t (List.mem_append_right _ (List.mem_append_left _ (List.mem_of_getElem? (i := 13) rfl))) rfl
theorem kI_I_arrive : (Cond.instanceMethod ({ cls := "IssueRows$Issue", name := "arrive", desc := "(II)V" } : MethodName)) ∈ WA := WA_t (List.mem_append_right _ (List.mem_append_left _ (List.mem_of_getElem? (i := 14) rfl))) rfl
theorem kV_I_arrive : (Cond.selects "IssueRows$Issue" ({ cls := "IssueRows$Issue", name := "arrive", desc := "(II)V" } : MethodName) ({ cls := "IssueRows$Issue", name := "arrive", desc := "(II)V" } : MethodName)) ∈ WA := WA_t (List.mem_append_right _ (List.mem_append_left _ (List.mem_of_getElem? (i := 15) rfl))) rfl
theorem kC_I_arrive : (Cond.code ({ cls := "IssueRows$Issue", name := "arrive", desc := "(II)V" } : MethodName) prog_2_method_5_code (3 : Nat) (Option.none : Option FieldType)) ∈ WA := WA_t (List.mem_append_right _ (List.mem_append_left _ (List.mem_of_getElem? (i := 16) rfl))) rfl
theorem kM_L_39 : (Cond.methodLink "IssueRowsLaw" (39 : Nat) ({ cls := "IssueRows", name := "claim", desc := "(I)I" } : MethodName)) ∈ WA := WA_t (List.mem_append_right _ (List.mem_append_left _ (List.mem_of_getElem? (i := 17) rfl))) rfl
theorem kI_X_claim : (Cond.instanceMethod ({ cls := "IssueRows", name := "claim", desc := "(I)I" } : MethodName)) ∈ WA := WA_t (List.mem_append_right _ (List.mem_append_left _ (List.mem_of_getElem? (i := 18) rfl))) rfl
theorem kV_X_claim : (Cond.selects "IssueRows" ({ cls := "IssueRows", name := "claim", desc := "(I)I" } : MethodName) ({ cls := "IssueRows", name := "claim", desc := "(I)I" } : MethodName)) ∈ WA := WA_t (List.mem_append_right _ (List.mem_append_left _ (List.mem_of_getElem? (i := 19) rfl))) rfl
theorem kC_X_claim : (Cond.code ({ cls := "IssueRows", name := "claim", desc := "(I)I" } : MethodName) prog_1_method_5_code (3 : Nat) (Option.some FieldType.int)) ∈ WA := WA_t (List.mem_append_right _ (List.mem_append_left _ (List.mem_of_getElem? (i := 20) rfl))) rfl
theorem kM_X_110 : (Cond.methodLink "IssueRows" (110 : Nat) ({ cls := "IssueRows$Pairs", name := "clear", desc := "()V" } : MethodName)) ∈ WA := WA_t (List.mem_append_right _ (List.mem_append_left _ (List.mem_of_getElem? (i := 21) rfl))) rfl
theorem kI_P_clear : (Cond.instanceMethod ({ cls := "IssueRows$Pairs", name := "clear", desc := "()V" } : MethodName)) ∈ WA := WA_t (List.mem_append_right _ (List.mem_append_left _ (List.mem_of_getElem? (i := 22) rfl))) rfl
theorem kV_P_clear : (Cond.selects "IssueRows$Pairs" ({ cls := "IssueRows$Pairs", name := "clear", desc := "()V" } : MethodName) ({ cls := "IssueRows$Pairs", name := "clear", desc := "()V" } : MethodName)) ∈ WA := WA_t (List.mem_append_right _ (List.mem_append_left _ (List.mem_of_getElem? (i := 23) rfl))) rfl
theorem kC_P_clear : (Cond.code ({ cls := "IssueRows$Pairs", name := "clear", desc := "()V" } : MethodName) prog_3_method_2_code (1 : Nat) (Option.none : Option FieldType)) ∈ WA := WA_t (List.mem_append_right _ (List.mem_append_left _ (List.mem_of_getElem? (i := 24) rfl))) rfl
theorem kM_X_113 : (Cond.methodLink "IssueRows" (113 : Nat) ({ cls := "IssueRows", name := "claimIfDue", desc := "(LIssueRows$Issue;I)V" } : MethodName)) ∈ WA := WA_t (List.mem_append_right _ (List.mem_append_left _ (List.mem_of_getElem? (i := 25) rfl))) rfl
theorem kI_X_claimIfDue : (Cond.instanceMethod ({ cls := "IssueRows", name := "claimIfDue", desc := "(LIssueRows$Issue;I)V" } : MethodName)) ∈ WA := WA_t (List.mem_append_right _ (List.mem_append_left _ (List.mem_of_getElem? (i := 27) rfl))) rfl
theorem kC_X_claimIfDue : (Cond.code ({ cls := "IssueRows", name := "claimIfDue", desc := "(LIssueRows$Issue;I)V" } : MethodName) prog_1_method_25_code (4 : Nat) (Option.none : Option FieldType)) ∈ WA := WA_t (List.mem_append_right _ (List.mem_append_left _ (List.mem_of_getElem? (i := 28) rfl))) rfl
theorem kM_X_213 : (Cond.methodLink "IssueRows" (213 : Nat) ({ cls := "IssueRows$Rule", name := "isDue", desc := "(LIssueRows$Issue;I)Z" } : MethodName)) ∈ WA := WA_t (List.mem_append_right _ (List.mem_append_left _ (List.mem_of_getElem? (i := 29) rfl))) rfl
theorem kI_U_isDue : (Cond.instanceMethod ({ cls := "IssueRows$Rule", name := "isDue", desc := "(LIssueRows$Issue;I)Z" } : MethodName)) ∈ WA := WA_t (List.mem_append_right _ (List.mem_append_left _ (List.mem_of_getElem? (i := 30) rfl))) rfl
theorem kV_U_isDue : (Cond.selects "IssueRows$Rule" ({ cls := "IssueRows$Rule", name := "isDue", desc := "(LIssueRows$Issue;I)Z" } : MethodName) ({ cls := "IssueRows$Rule", name := "isDue", desc := "(LIssueRows$Issue;I)Z" } : MethodName)) ∈ WA := WA_t (List.mem_append_right _ (List.mem_append_left _ (List.mem_of_getElem? (i := 31) rfl))) rfl
theorem kC_U_isDue : (Cond.code ({ cls := "IssueRows$Rule", name := "isDue", desc := "(LIssueRows$Issue;I)Z" } : MethodName) prog_5_method_2_code (3 : Nat) (Option.some FieldType.boolean)) ∈ WA := WA_t (List.mem_append_right _ (List.mem_append_left _ (List.mem_of_getElem? (i := 32) rfl))) rfl
theorem kM_X_220 : (Cond.methodLink "IssueRows" (220 : Nat) ({ cls := "IssueRows$Issue", name := "claimOn", desc := "(I)V" } : MethodName)) ∈ WA := WA_t (List.mem_append_right _ (List.mem_append_left _ (List.mem_of_getElem? (i := 33) rfl))) rfl
theorem kI_I_claimOn : (Cond.instanceMethod ({ cls := "IssueRows$Issue", name := "claimOn", desc := "(I)V" } : MethodName)) ∈ WA := WA_t (List.mem_append_right _ (List.mem_append_left _ (List.mem_of_getElem? (i := 34) rfl))) rfl
theorem kV_I_claimOn : (Cond.selects "IssueRows$Issue" ({ cls := "IssueRows$Issue", name := "claimOn", desc := "(I)V" } : MethodName) ({ cls := "IssueRows$Issue", name := "claimOn", desc := "(I)V" } : MethodName)) ∈ WA := WA_t (List.mem_append_right _ (List.mem_append_left _ (List.mem_of_getElem? (i := 35) rfl))) rfl
theorem kC_I_claimOn : (Cond.code ({ cls := "IssueRows$Issue", name := "claimOn", desc := "(I)V" } : MethodName) prog_2_method_6_code (2 : Nat) (Option.none : Option FieldType)) ∈ WA := WA_t (List.mem_append_right _ (List.mem_append_left _ (List.mem_of_getElem? (i := 36) rfl))) rfl
theorem kM_L_54 : (Cond.methodLink "IssueRowsLaw" (54 : Nat) ({ cls := "IssueRows", name := "list", desc := "(III)I" } : MethodName)) ∈ WA := WA_t (List.mem_append_right _ (List.mem_append_left _ (List.mem_of_getElem? (i := 37) rfl))) rfl
theorem kI_X_list : (Cond.instanceMethod ({ cls := "IssueRows", name := "list", desc := "(III)I" } : MethodName)) ∈ WA := WA_t (List.mem_append_right _ (List.mem_append_left _ (List.mem_of_getElem? (i := 38) rfl))) rfl
theorem kV_X_list : (Cond.selects "IssueRows" ({ cls := "IssueRows", name := "list", desc := "(III)I" } : MethodName) ({ cls := "IssueRows", name := "list", desc := "(III)I" } : MethodName)) ∈ WA := WA_t (List.mem_append_right _ (List.mem_append_left _ (List.mem_of_getElem? (i := 39) rfl))) rfl
theorem kC_X_list : (Cond.code ({ cls := "IssueRows", name := "list", desc := "(III)I" } : MethodName) prog_1_method_7_code (5 : Nat) (Option.some FieldType.int)) ∈ WA := WA_t (List.mem_append_right _ (List.mem_append_left _ (List.mem_of_getElem? (i := 40) rfl))) rfl
theorem kM_X_138 : (Cond.methodLink "IssueRows" (138 : Nat) ({ cls := "IssueRows$Routing", name := "isStarted", desc := "()Z" } : MethodName)) ∈ WA := WA_t (List.mem_append_right _ (List.mem_append_left _ (List.mem_of_getElem? (i := 41) rfl))) rfl
theorem kI_G_isStarted : (Cond.instanceMethod ({ cls := "IssueRows$Routing", name := "isStarted", desc := "()Z" } : MethodName)) ∈ WA := WA_t (List.mem_append_right _ (List.mem_append_left _ (List.mem_of_getElem? (i := 42) rfl))) rfl
theorem kV_G_isStarted : (Cond.selects "IssueRows$Routing" ({ cls := "IssueRows$Routing", name := "isStarted", desc := "()Z" } : MethodName) ({ cls := "IssueRows$Routing", name := "isStarted", desc := "()Z" } : MethodName)) ∈ WA := WA_t (List.mem_append_right _ (List.mem_append_left _ (List.mem_of_getElem? (i := 43) rfl))) rfl
theorem kC_G_isStarted : (Cond.code ({ cls := "IssueRows$Routing", name := "isStarted", desc := "()Z" } : MethodName) prog_4_method_3_code (1 : Nat) (Option.some FieldType.boolean)) ∈ WA := WA_t (List.mem_append_right _ (List.mem_append_left _ (List.mem_of_getElem? (i := 44) rfl))) rfl
theorem kM_X_143 : (Cond.methodLink "IssueRows" (143 : Nat) ({ cls := "IssueRows$Routing", name := "isFull", desc := "()Z" } : MethodName)) ∈ WA := WA_t (List.mem_append_right _ (List.mem_append_left _ (List.mem_of_getElem? (i := 45) rfl))) rfl
theorem kI_G_isFull : (Cond.instanceMethod ({ cls := "IssueRows$Routing", name := "isFull", desc := "()Z" } : MethodName)) ∈ WA := WA_t (List.mem_append_right _ (List.mem_append_left _ (List.mem_of_getElem? (i := 46) rfl))) rfl
theorem kV_G_isFull : (Cond.selects "IssueRows$Routing" ({ cls := "IssueRows$Routing", name := "isFull", desc := "()Z" } : MethodName) ({ cls := "IssueRows$Routing", name := "isFull", desc := "()Z" } : MethodName)) ∈ WA := WA_t (List.mem_append_right _ (List.mem_append_left _ (List.mem_of_getElem? (i := 47) rfl))) rfl
theorem kC_G_isFull : (Cond.code ({ cls := "IssueRows$Routing", name := "isFull", desc := "()Z" } : MethodName) prog_4_method_2_code (1 : Nat) (Option.some FieldType.boolean)) ∈ WA := WA_t (List.mem_append_right _ (List.mem_append_left _ (List.mem_of_getElem? (i := 48) rfl))) rfl
theorem kM_X_146 : (Cond.methodLink "IssueRows" (146 : Nat) ({ cls := "IssueRows$Routing", name := "add", desc := "(II)V" } : MethodName)) ∈ WA := WA_t (List.mem_append_right _ (List.mem_append_left _ (List.mem_of_getElem? (i := 49) rfl))) rfl
theorem kI_G_add : (Cond.instanceMethod ({ cls := "IssueRows$Routing", name := "add", desc := "(II)V" } : MethodName)) ∈ WA := WA_t (List.mem_append_right _ (List.mem_append_left _ (List.mem_of_getElem? (i := 50) rfl))) rfl
theorem kV_G_add : (Cond.selects "IssueRows$Routing" ({ cls := "IssueRows$Routing", name := "add", desc := "(II)V" } : MethodName) ({ cls := "IssueRows$Routing", name := "add", desc := "(II)V" } : MethodName)) ∈ WA := WA_t (List.mem_append_right _ (List.mem_append_left _ (List.mem_of_getElem? (i := 51) rfl))) rfl
theorem kC_G_add : (Cond.code ({ cls := "IssueRows$Routing", name := "add", desc := "(II)V" } : MethodName) prog_4_method_7_code (3 : Nat) (Option.none : Option FieldType)) ∈ WA := WA_t (List.mem_append_right _ (List.mem_append_left _ (List.mem_of_getElem? (i := 52) rfl))) rfl
theorem kM_G_32 : (Cond.methodLink "IssueRows$Routing" (32 : Nat) ({ cls := "IssueRows$Routing", name := "isFull", desc := "()Z" } : MethodName)) ∈ WA := WA_t (List.mem_append_right _ (List.mem_append_left _ (List.mem_of_getElem? (i := 53) rfl))) rfl
theorem kM_L_58 : (Cond.methodLink "IssueRowsLaw" (58 : Nat) ({ cls := "IssueRows", name := "route", desc := "(II)I" } : MethodName)) ∈ WA := WA_t (List.mem_append_right _ (List.mem_append_left _ (List.mem_of_getElem? (i := 54) rfl))) rfl
theorem kI_X_route : (Cond.instanceMethod ({ cls := "IssueRows", name := "route", desc := "(II)I" } : MethodName)) ∈ WA := WA_t (List.mem_append_right _ (List.mem_append_left _ (List.mem_of_getElem? (i := 55) rfl))) rfl
theorem kV_X_route : (Cond.selects "IssueRows" ({ cls := "IssueRows", name := "route", desc := "(II)I" } : MethodName) ({ cls := "IssueRows", name := "route", desc := "(II)I" } : MethodName)) ∈ WA := WA_t (List.mem_append_right _ (List.mem_append_left _ (List.mem_of_getElem? (i := 56) rfl))) rfl
theorem kC_X_route : (Cond.code ({ cls := "IssueRows", name := "route", desc := "(II)I" } : MethodName) prog_1_method_8_code (4 : Nat) (Option.some FieldType.int)) ∈ WA := WA_t (List.mem_append_right _ (List.mem_append_left _ (List.mem_of_getElem? (i := 57) rfl))) rfl
theorem kM_X_148 : (Cond.methodLink "IssueRows" (148 : Nat) ({ cls := "IssueRows$Routing", name := "passOn", desc := "(I)V" } : MethodName)) ∈ WA := WA_t (List.mem_append_right _ (List.mem_append_left _ (List.mem_of_getElem? (i := 58) rfl))) rfl
theorem kI_G_passOn : (Cond.instanceMethod ({ cls := "IssueRows$Routing", name := "passOn", desc := "(I)V" } : MethodName)) ∈ WA := WA_t (List.mem_append_right _ (List.mem_append_left _ (List.mem_of_getElem? (i := 59) rfl))) rfl
theorem kV_G_passOn : (Cond.selects "IssueRows$Routing" ({ cls := "IssueRows$Routing", name := "passOn", desc := "(I)V" } : MethodName) ({ cls := "IssueRows$Routing", name := "passOn", desc := "(I)V" } : MethodName)) ∈ WA := WA_t (List.mem_append_right _ (List.mem_append_left _ (List.mem_of_getElem? (i := 60) rfl))) rfl
theorem kC_G_passOn : (Cond.code ({ cls := "IssueRows$Routing", name := "passOn", desc := "(I)V" } : MethodName) prog_4_method_8_code (2 : Nat) (Option.none : Option FieldType)) ∈ WA := WA_t (List.mem_append_right _ (List.mem_append_left _ (List.mem_of_getElem? (i := 61) rfl))) rfl
theorem kM_X_151 : (Cond.methodLink "IssueRows" (151 : Nat) ({ cls := "IssueRows$Routing", name := "holder", desc := "()I" } : MethodName)) ∈ WA := WA_t (List.mem_append_right _ (List.mem_append_left _ (List.mem_of_getElem? (i := 62) rfl))) rfl
theorem kI_G_holder : (Cond.instanceMethod ({ cls := "IssueRows$Routing", name := "holder", desc := "()I" } : MethodName)) ∈ WA := WA_t (List.mem_append_right _ (List.mem_append_left _ (List.mem_of_getElem? (i := 63) rfl))) rfl
theorem kV_G_holder : (Cond.selects "IssueRows$Routing" ({ cls := "IssueRows$Routing", name := "holder", desc := "()I" } : MethodName) ({ cls := "IssueRows$Routing", name := "holder", desc := "()I" } : MethodName)) ∈ WA := WA_t (List.mem_append_right _ (List.mem_append_left _ (List.mem_of_getElem? (i := 64) rfl))) rfl
theorem kC_G_holder : (Cond.code ({ cls := "IssueRows$Routing", name := "holder", desc := "()I" } : MethodName) prog_4_method_6_code (1 : Nat) (Option.some FieldType.int)) ∈ WA := WA_t (List.mem_append_right _ (List.mem_append_left _ (List.mem_of_getElem? (i := 65) rfl))) rfl
theorem kM_G_28 : (Cond.methodLink "IssueRows$Routing" (28 : Nat) ({ cls := "IssueRows$Routing", name := "isOut", desc := "()Z" } : MethodName)) ∈ WA := WA_t (List.mem_append_right _ (List.mem_append_left _ (List.mem_of_getElem? (i := 66) rfl))) rfl
theorem kI_G_isOut : (Cond.instanceMethod ({ cls := "IssueRows$Routing", name := "isOut", desc := "()Z" } : MethodName)) ∈ WA := WA_t (List.mem_append_right _ (List.mem_append_left _ (List.mem_of_getElem? (i := 67) rfl))) rfl
theorem kV_G_isOut : (Cond.selects "IssueRows$Routing" ({ cls := "IssueRows$Routing", name := "isOut", desc := "()Z" } : MethodName) ({ cls := "IssueRows$Routing", name := "isOut", desc := "()Z" } : MethodName)) ∈ WA := WA_t (List.mem_append_right _ (List.mem_append_left _ (List.mem_of_getElem? (i := 68) rfl))) rfl
theorem kC_G_isOut : (Cond.code ({ cls := "IssueRows$Routing", name := "isOut", desc := "()Z" } : MethodName) prog_4_method_4_code (1 : Nat) (Option.some FieldType.boolean)) ∈ WA := WA_t (List.mem_append_right _ (List.mem_append_left _ (List.mem_of_getElem? (i := 69) rfl))) rfl
theorem kM_L_62 : (Cond.methodLink "IssueRowsLaw" (62 : Nat) ({ cls := "IssueRows", name := "returned", desc := "(II)I" } : MethodName)) ∈ WA := WA_t (List.mem_append_right _ (List.mem_append_left _ (List.mem_of_getElem? (i := 70) rfl))) rfl
theorem kI_X_returned : (Cond.instanceMethod ({ cls := "IssueRows", name := "returned", desc := "(II)I" } : MethodName)) ∈ WA := WA_t (List.mem_append_right _ (List.mem_append_left _ (List.mem_of_getElem? (i := 71) rfl))) rfl
theorem kV_X_returned : (Cond.selects "IssueRows" ({ cls := "IssueRows", name := "returned", desc := "(II)I" } : MethodName) ({ cls := "IssueRows", name := "returned", desc := "(II)I" } : MethodName)) ∈ WA := WA_t (List.mem_append_right _ (List.mem_append_left _ (List.mem_of_getElem? (i := 72) rfl))) rfl
theorem kC_X_returned : (Cond.code ({ cls := "IssueRows", name := "returned", desc := "(II)I" } : MethodName) prog_1_method_9_code (5 : Nat) (Option.some FieldType.int)) ∈ WA := WA_t (List.mem_append_right _ (List.mem_append_left _ (List.mem_of_getElem? (i := 73) rfl))) rfl
theorem kM_X_155 : (Cond.methodLink "IssueRows" (155 : Nat) ({ cls := "IssueRows$Routing", name := "isOut", desc := "()Z" } : MethodName)) ∈ WA := WA_t (List.mem_append_right _ (List.mem_append_left _ (List.mem_of_getElem? (i := 74) rfl))) rfl
theorem kM_X_161 : (Cond.methodLink "IssueRows" (161 : Nat) ({ cls := "IssueRows$Routing", name := "isLate", desc := "(I)Z" } : MethodName)) ∈ WA := WA_t (List.mem_append_right _ (List.mem_append_left _ (List.mem_of_getElem? (i := 75) rfl))) rfl
theorem kI_G_isLate : (Cond.instanceMethod ({ cls := "IssueRows$Routing", name := "isLate", desc := "(I)Z" } : MethodName)) ∈ WA := WA_t (List.mem_append_right _ (List.mem_append_left _ (List.mem_of_getElem? (i := 76) rfl))) rfl
theorem kV_G_isLate : (Cond.selects "IssueRows$Routing" ({ cls := "IssueRows$Routing", name := "isLate", desc := "(I)Z" } : MethodName) ({ cls := "IssueRows$Routing", name := "isLate", desc := "(I)Z" } : MethodName)) ∈ WA := WA_t (List.mem_append_right _ (List.mem_append_left _ (List.mem_of_getElem? (i := 77) rfl))) rfl
theorem kC_G_isLate : (Cond.code ({ cls := "IssueRows$Routing", name := "isLate", desc := "(I)Z" } : MethodName) prog_4_method_5_code (2 : Nat) (Option.some FieldType.boolean)) ∈ WA := WA_t (List.mem_append_right _ (List.mem_append_left _ (List.mem_of_getElem? (i := 78) rfl))) rfl
theorem kM_L_66 : (Cond.methodLink "IssueRowsLaw" (66 : Nat) ({ cls := "IssueRows", name := "replace", desc := "(II)I" } : MethodName)) ∈ WA := WA_t (List.mem_append_right _ (List.mem_append_left _ (List.mem_of_getElem? (i := 79) rfl))) rfl
theorem kI_X_replace : (Cond.instanceMethod ({ cls := "IssueRows", name := "replace", desc := "(II)I" } : MethodName)) ∈ WA := WA_t (List.mem_append_right _ (List.mem_append_left _ (List.mem_of_getElem? (i := 80) rfl))) rfl
theorem kV_X_replace : (Cond.selects "IssueRows" ({ cls := "IssueRows", name := "replace", desc := "(II)I" } : MethodName) ({ cls := "IssueRows", name := "replace", desc := "(II)I" } : MethodName)) ∈ WA := WA_t (List.mem_append_right _ (List.mem_append_left _ (List.mem_of_getElem? (i := 81) rfl))) rfl
theorem kC_X_replace : (Cond.code ({ cls := "IssueRows", name := "replace", desc := "(II)I" } : MethodName) prog_1_method_10_code (5 : Nat) (Option.some FieldType.int)) ∈ WA := WA_t (List.mem_append_right _ (List.mem_append_left _ (List.mem_of_getElem? (i := 82) rfl))) rfl
theorem kM_X_164 : (Cond.methodLink "IssueRows" (164 : Nat) ({ cls := "IssueRows$Issue", name := "isReplaceable", desc := "()Z" } : MethodName)) ∈ WA := WA_t (List.mem_append_right _ (List.mem_append_left _ (List.mem_of_getElem? (i := 83) rfl))) rfl
theorem kI_I_isReplaceable : (Cond.instanceMethod ({ cls := "IssueRows$Issue", name := "isReplaceable", desc := "()Z" } : MethodName)) ∈ WA := WA_t (List.mem_append_right _ (List.mem_append_left _ (List.mem_of_getElem? (i := 84) rfl))) rfl
theorem kV_I_isReplaceable : (Cond.selects "IssueRows$Issue" ({ cls := "IssueRows$Issue", name := "isReplaceable", desc := "()Z" } : MethodName) ({ cls := "IssueRows$Issue", name := "isReplaceable", desc := "()Z" } : MethodName)) ∈ WA := WA_t (List.mem_append_right _ (List.mem_append_left _ (List.mem_of_getElem? (i := 85) rfl))) rfl
theorem kC_I_isReplaceable : (Cond.code ({ cls := "IssueRows$Issue", name := "isReplaceable", desc := "()Z" } : MethodName) prog_2_method_4_code (1 : Nat) (Option.some FieldType.boolean)) ∈ WA := WA_t (List.mem_append_right _ (List.mem_append_left _ (List.mem_of_getElem? (i := 86) rfl))) rfl
theorem kM_I_59 : (Cond.methodLink "IssueRows$Issue" (59 : Nat) ({ cls := "IssueRows$Routing", name := "isOut", desc := "()Z" } : MethodName)) ∈ WA := WA_t (List.mem_append_right _ (List.mem_append_left _ (List.mem_of_getElem? (i := 87) rfl))) rfl
theorem kM_L_70 : (Cond.methodLink "IssueRowsLaw" (70 : Nat) ({ cls := "IssueRows", name := "bind", desc := "(II)I" } : MethodName)) ∈ WA := WA_t (List.mem_append_right _ (List.mem_append_left _ (List.mem_of_getElem? (i := 88) rfl))) rfl
theorem kI_X_bind : (Cond.instanceMethod ({ cls := "IssueRows", name := "bind", desc := "(II)I" } : MethodName)) ∈ WA := WA_t (List.mem_append_right _ (List.mem_append_left _ (List.mem_of_getElem? (i := 89) rfl))) rfl
theorem kV_X_bind : (Cond.selects "IssueRows" ({ cls := "IssueRows", name := "bind", desc := "(II)I" } : MethodName) ({ cls := "IssueRows", name := "bind", desc := "(II)I" } : MethodName)) ∈ WA := WA_t (List.mem_append_right _ (List.mem_append_left _ (List.mem_of_getElem? (i := 90) rfl))) rfl
theorem kC_X_bind : (Cond.code ({ cls := "IssueRows", name := "bind", desc := "(II)I" } : MethodName) prog_1_method_11_code (3 : Nat) (Option.some FieldType.int)) ∈ WA := WA_t (List.mem_append_right _ (List.mem_append_left _ (List.mem_of_getElem? (i := 91) rfl))) rfl
theorem kM_X_176 : (Cond.methodLink "IssueRows" (176 : Nat) ({ cls := "IssueRows", name := "isBindable", desc := "(II)Z" } : MethodName)) ∈ WA := WA_t (List.mem_append_right _ (List.mem_append_left _ (List.mem_of_getElem? (i := 92) rfl))) rfl
theorem kI_X_isBindable : (Cond.instanceMethod ({ cls := "IssueRows", name := "isBindable", desc := "(II)Z" } : MethodName)) ∈ WA := WA_t (List.mem_append_right _ (List.mem_append_left _ (List.mem_of_getElem? (i := 94) rfl))) rfl
theorem kC_X_isBindable : (Cond.code ({ cls := "IssueRows", name := "isBindable", desc := "(II)Z" } : MethodName) prog_1_method_26_code (6 : Nat) (Option.some FieldType.boolean)) ∈ WA := WA_t (List.mem_append_right _ (List.mem_append_left _ (List.mem_of_getElem? (i := 95) rfl))) rfl
theorem kM_X_179 : (Cond.methodLink "IssueRows" (179 : Nat) ({ cls := "IssueRows$Volumes", name := "isFull", desc := "()Z" } : MethodName)) ∈ WA := WA_t (List.mem_append_right _ (List.mem_append_left _ (List.mem_of_getElem? (i := 96) rfl))) rfl
theorem kI_V_isFull : (Cond.instanceMethod ({ cls := "IssueRows$Volumes", name := "isFull", desc := "()Z" } : MethodName)) ∈ WA := WA_t (List.mem_append_right _ (List.mem_append_left _ (List.mem_of_getElem? (i := 97) rfl))) rfl
theorem kV_V_isFull : (Cond.selects "IssueRows$Volumes" ({ cls := "IssueRows$Volumes", name := "isFull", desc := "()Z" } : MethodName) ({ cls := "IssueRows$Volumes", name := "isFull", desc := "()Z" } : MethodName)) ∈ WA := WA_t (List.mem_append_right _ (List.mem_append_left _ (List.mem_of_getElem? (i := 98) rfl))) rfl
theorem kC_V_isFull : (Cond.code ({ cls := "IssueRows$Volumes", name := "isFull", desc := "()Z" } : MethodName) prog_7_method_2_code (1 : Nat) (Option.some FieldType.boolean)) ∈ WA := WA_t (List.mem_append_right _ (List.mem_append_left _ (List.mem_of_getElem? (i := 99) rfl))) rfl
theorem kM_X_180 : (Cond.methodLink "IssueRows" (180 : Nat) ({ cls := "IssueRows", name := "bindNext", desc := "(II)I" } : MethodName)) ∈ WA := WA_t (List.mem_append_right _ (List.mem_append_left _ (List.mem_of_getElem? (i := 100) rfl))) rfl
theorem kI_X_bindNext : (Cond.instanceMethod ({ cls := "IssueRows", name := "bindNext", desc := "(II)I" } : MethodName)) ∈ WA := WA_t (List.mem_append_right _ (List.mem_append_left _ (List.mem_of_getElem? (i := 102) rfl))) rfl
theorem kC_X_bindNext : (Cond.code ({ cls := "IssueRows", name := "bindNext", desc := "(II)I" } : MethodName) prog_1_method_27_code (7 : Nat) (Option.some FieldType.int)) ∈ WA := WA_t (List.mem_append_right _ (List.mem_append_left _ (List.mem_of_getElem? (i := 103) rfl))) rfl
theorem kM_X_223 : (Cond.methodLink "IssueRows" (223 : Nat) ({ cls := "IssueRows$Volumes", name := "open", desc := "()I" } : MethodName)) ∈ WA := WA_t (List.mem_append_right _ (List.mem_append_left _ (List.mem_of_getElem? (i := 104) rfl))) rfl
theorem kI_V_open : (Cond.instanceMethod ({ cls := "IssueRows$Volumes", name := "open", desc := "()I" } : MethodName)) ∈ WA := WA_t (List.mem_append_right _ (List.mem_append_left _ (List.mem_of_getElem? (i := 105) rfl))) rfl
theorem kV_V_open : (Cond.selects "IssueRows$Volumes" ({ cls := "IssueRows$Volumes", name := "open", desc := "()I" } : MethodName) ({ cls := "IssueRows$Volumes", name := "open", desc := "()I" } : MethodName)) ∈ WA := WA_t (List.mem_append_right _ (List.mem_append_left _ (List.mem_of_getElem? (i := 106) rfl))) rfl
theorem kC_V_open : (Cond.code ({ cls := "IssueRows$Volumes", name := "open", desc := "()I" } : MethodName) prog_7_method_3_code (1 : Nat) (Option.some FieldType.int)) ∈ WA := WA_t (List.mem_append_right _ (List.mem_append_left _ (List.mem_of_getElem? (i := 107) rfl))) rfl
theorem kM_V_22 : (Cond.methodLink "IssueRows$Volumes" (22 : Nat) ({ cls := "IssueRows$Volumes", name := "isFull", desc := "()Z" } : MethodName)) ∈ WA := WA_t (List.mem_append_right _ (List.mem_append_left _ (List.mem_of_getElem? (i := 108) rfl))) rfl
theorem kM_X_229 : (Cond.methodLink "IssueRows" (229 : Nat) ({ cls := "IssueRows$Volumes", name := "add", desc := "(I)V" } : MethodName)) ∈ WA := WA_t (List.mem_append_right _ (List.mem_append_left _ (List.mem_of_getElem? (i := 109) rfl))) rfl
theorem kI_V_add : (Cond.instanceMethod ({ cls := "IssueRows$Volumes", name := "add", desc := "(I)V" } : MethodName)) ∈ WA := WA_t (List.mem_append_right _ (List.mem_append_left _ (List.mem_of_getElem? (i := 110) rfl))) rfl
theorem kV_V_add : (Cond.selects "IssueRows$Volumes" ({ cls := "IssueRows$Volumes", name := "add", desc := "(I)V" } : MethodName) ({ cls := "IssueRows$Volumes", name := "add", desc := "(I)V" } : MethodName)) ∈ WA := WA_t (List.mem_append_right _ (List.mem_append_left _ (List.mem_of_getElem? (i := 111) rfl))) rfl
theorem kC_V_add : (Cond.code ({ cls := "IssueRows$Volumes", name := "add", desc := "(I)V" } : MethodName) prog_7_method_4_code (2 : Nat) (Option.none : Option FieldType)) ∈ WA := WA_t (List.mem_append_right _ (List.mem_append_left _ (List.mem_of_getElem? (i := 112) rfl))) rfl
theorem kM_L_77 : (Cond.methodLink "IssueRowsLaw" (77 : Nat) ({ cls := "IssueRows", name := "statement", desc := "(I)I" } : MethodName)) ∈ WA := WA_t (List.mem_append_right _ (List.mem_append_left _ (List.mem_of_getElem? (i := 114) rfl))) rfl
theorem kI_X_statement : (Cond.instanceMethod ({ cls := "IssueRows", name := "statement", desc := "(I)I" } : MethodName)) ∈ WA := WA_t (List.mem_append_right _ (List.mem_append_left _ (List.mem_of_getElem? (i := 115) rfl))) rfl
theorem kV_X_statement : (Cond.selects "IssueRows" ({ cls := "IssueRows", name := "statement", desc := "(I)I" } : MethodName) ({ cls := "IssueRows", name := "statement", desc := "(I)I" } : MethodName)) ∈ WA := WA_t (List.mem_append_right _ (List.mem_append_left _ (List.mem_of_getElem? (i := 116) rfl))) rfl
theorem kC_X_statement : (Cond.code ({ cls := "IssueRows", name := "statement", desc := "(I)I" } : MethodName) prog_1_method_13_code (5 : Nat) (Option.some FieldType.int)) ∈ WA := WA_t (List.mem_append_right _ (List.mem_append_left _ (List.mem_of_getElem? (i := 117) rfl))) rfl
theorem kM_X_189 : (Cond.methodLink "IssueRows" (189 : Nat) ({ cls := "IssueRows$Statement", name := "clear", desc := "()V" } : MethodName)) ∈ WA := WA_t (List.mem_append_right _ (List.mem_append_left _ (List.mem_of_getElem? (i := 118) rfl))) rfl
theorem kI_S_clear : (Cond.instanceMethod ({ cls := "IssueRows$Statement", name := "clear", desc := "()V" } : MethodName)) ∈ WA := WA_t (List.mem_append_right _ (List.mem_append_left _ (List.mem_of_getElem? (i := 119) rfl))) rfl
theorem kV_S_clear : (Cond.selects "IssueRows$Statement" ({ cls := "IssueRows$Statement", name := "clear", desc := "()V" } : MethodName) ({ cls := "IssueRows$Statement", name := "clear", desc := "()V" } : MethodName)) ∈ WA := WA_t (List.mem_append_right _ (List.mem_append_left _ (List.mem_of_getElem? (i := 120) rfl))) rfl
theorem kC_S_clear : (Cond.code ({ cls := "IssueRows$Statement", name := "clear", desc := "()V" } : MethodName) prog_6_method_2_code (1 : Nat) (Option.none : Option FieldType)) ∈ WA := WA_t (List.mem_append_right _ (List.mem_append_left _ (List.mem_of_getElem? (i := 121) rfl))) rfl
theorem kM_X_190 : (Cond.methodLink "IssueRows" (190 : Nat) ({ cls := "IssueRows$Issue", name := "isThere", desc := "()Z" } : MethodName)) ∈ WA := WA_t (List.mem_append_right _ (List.mem_append_left _ (List.mem_of_getElem? (i := 122) rfl))) rfl
theorem kI_I_isThere : (Cond.instanceMethod ({ cls := "IssueRows$Issue", name := "isThere", desc := "()Z" } : MethodName)) ∈ WA := WA_t (List.mem_append_right _ (List.mem_append_left _ (List.mem_of_getElem? (i := 123) rfl))) rfl
theorem kV_I_isThere : (Cond.selects "IssueRows$Issue" ({ cls := "IssueRows$Issue", name := "isThere", desc := "()Z" } : MethodName) ({ cls := "IssueRows$Issue", name := "isThere", desc := "()Z" } : MethodName)) ∈ WA := WA_t (List.mem_append_right _ (List.mem_append_left _ (List.mem_of_getElem? (i := 124) rfl))) rfl
theorem kC_I_isThere : (Cond.code ({ cls := "IssueRows$Issue", name := "isThere", desc := "()Z" } : MethodName) prog_2_method_3_code (1 : Nat) (Option.some FieldType.boolean)) ∈ WA := WA_t (List.mem_append_right _ (List.mem_append_left _ (List.mem_of_getElem? (i := 125) rfl))) rfl
theorem kM_X_193 : (Cond.methodLink "IssueRows" (193 : Nat) ({ cls := "IssueRows$Statement", name := "add", desc := "(IZ)V" } : MethodName)) ∈ WA := WA_t (List.mem_append_right _ (List.mem_append_left _ (List.mem_of_getElem? (i := 126) rfl))) rfl
theorem kI_S_add : (Cond.instanceMethod ({ cls := "IssueRows$Statement", name := "add", desc := "(IZ)V" } : MethodName)) ∈ WA := WA_t (List.mem_append_right _ (List.mem_append_left _ (List.mem_of_getElem? (i := 127) rfl))) rfl
theorem kV_S_add : (Cond.selects "IssueRows$Statement" ({ cls := "IssueRows$Statement", name := "add", desc := "(IZ)V" } : MethodName) ({ cls := "IssueRows$Statement", name := "add", desc := "(IZ)V" } : MethodName)) ∈ WA := WA_t (List.mem_append_right _ (List.mem_append_left _ (List.mem_of_getElem? (i := 128) rfl))) rfl
theorem kC_S_add : (Cond.code ({ cls := "IssueRows$Statement", name := "add", desc := "(IZ)V" } : MethodName) prog_6_method_3_code (3 : Nat) (Option.none : Option FieldType)) ∈ WA := WA_t (List.mem_append_right _ (List.mem_append_left _ (List.mem_of_getElem? (i := 129) rfl))) rfl
theorem kM_L_84 : (Cond.methodLink "IssueRowsLaw" (84 : Nat) ({ cls := "IssueRows", name := "about", desc := "(II)I" } : MethodName)) ∈ WA := WA_t (List.mem_append_right _ (List.mem_append_left _ (List.mem_of_getElem? (i := 130) rfl))) rfl
theorem kI_X_about : (Cond.instanceMethod ({ cls := "IssueRows", name := "about", desc := "(II)I" } : MethodName)) ∈ WA := WA_t (List.mem_append_right _ (List.mem_append_left _ (List.mem_of_getElem? (i := 131) rfl))) rfl
theorem kV_X_about : (Cond.selects "IssueRows" ({ cls := "IssueRows", name := "about", desc := "(II)I" } : MethodName) ({ cls := "IssueRows", name := "about", desc := "(II)I" } : MethodName)) ∈ WA := WA_t (List.mem_append_right _ (List.mem_append_left _ (List.mem_of_getElem? (i := 132) rfl))) rfl
theorem kC_X_about : (Cond.code ({ cls := "IssueRows", name := "about", desc := "(II)I" } : MethodName) prog_1_method_15_code (4 : Nat) (Option.some FieldType.int)) ∈ WA := WA_t (List.mem_append_right _ (List.mem_append_left _ (List.mem_of_getElem? (i := 133) rfl))) rfl
theorem kM_X_201 : (Cond.methodLink "IssueRows" (201 : Nat) ({ cls := "IssueRows$Issue", name := "part", desc := "(I)I" } : MethodName)) ∈ WA := WA_t (List.mem_append_right _ (List.mem_append_left _ (List.mem_of_getElem? (i := 134) rfl))) rfl
theorem kI_I_part : (Cond.instanceMethod ({ cls := "IssueRows$Issue", name := "part", desc := "(I)I" } : MethodName)) ∈ WA := WA_t (List.mem_append_right _ (List.mem_append_left _ (List.mem_of_getElem? (i := 135) rfl))) rfl
theorem kV_I_part : (Cond.selects "IssueRows$Issue" ({ cls := "IssueRows$Issue", name := "part", desc := "(I)I" } : MethodName) ({ cls := "IssueRows$Issue", name := "part", desc := "(I)I" } : MethodName)) ∈ WA := WA_t (List.mem_append_right _ (List.mem_append_left _ (List.mem_of_getElem? (i := 136) rfl))) rfl
theorem kC_I_part : (Cond.code ({ cls := "IssueRows$Issue", name := "part", desc := "(I)I" } : MethodName) prog_2_method_8_code (2 : Nat) (Option.some FieldType.int)) ∈ WA := WA_t (List.mem_append_right _ (List.mem_append_left _ (List.mem_of_getElem? (i := 137) rfl))) rfl
theorem kM_I_63 : (Cond.methodLink "IssueRows$Issue" (63 : Nat) ({ cls := "IssueRows$Routing", name := "holder", desc := "()I" } : MethodName)) ∈ WA := WA_t (List.mem_append_right _ (List.mem_append_left _ (List.mem_of_getElem? (i := 138) rfl))) rfl
theorem kM_L_88 : (Cond.methodLink "IssueRowsLaw" (88 : Nat) ({ cls := "IssueRows", name := "cost", desc := "(II)I" } : MethodName)) ∈ WA := WA_t (List.mem_append_right _ (List.mem_append_left _ (List.mem_of_getElem? (i := 139) rfl))) rfl
theorem kI_X_cost : (Cond.instanceMethod ({ cls := "IssueRows", name := "cost", desc := "(II)I" } : MethodName)) ∈ WA := WA_t (List.mem_append_right _ (List.mem_append_left _ (List.mem_of_getElem? (i := 140) rfl))) rfl
theorem kV_X_cost : (Cond.selects "IssueRows" ({ cls := "IssueRows", name := "cost", desc := "(II)I" } : MethodName) ({ cls := "IssueRows", name := "cost", desc := "(II)I" } : MethodName)) ∈ WA := WA_t (List.mem_append_right _ (List.mem_append_left _ (List.mem_of_getElem? (i := 141) rfl))) rfl
theorem kC_X_cost : (Cond.code ({ cls := "IssueRows", name := "cost", desc := "(II)I" } : MethodName) prog_1_method_16_code (4 : Nat) (Option.some FieldType.int)) ∈ WA := WA_t (List.mem_append_right _ (List.mem_append_left _ (List.mem_of_getElem? (i := 142) rfl))) rfl
theorem kK_X_204 : (Cond.constant "IssueRows" (204 : Nat) (10000000 : Int32)) ∈ WA := WA_t (List.mem_append_right _ (List.mem_append_left _ (List.mem_of_getElem? (i := 143) rfl))) rfl
theorem kK_X_208 : (Cond.constant "IssueRows" (208 : Nat) (1000000000 : Int32)) ∈ WA := WA_t (List.mem_append_right _ (List.mem_append_left _ (List.mem_of_getElem? (i := 144) rfl))) rfl
theorem kM_L_92 : (Cond.methodLink "IssueRowsLaw" (92 : Nat) ({ cls := "IssueRows", name := "told", desc := "(II)I" } : MethodName)) ∈ WA := WA_t (List.mem_append_right _ (List.mem_append_left _ (List.mem_of_getElem? (i := 145) rfl))) rfl
theorem kI_X_told : (Cond.instanceMethod ({ cls := "IssueRows", name := "told", desc := "(II)I" } : MethodName)) ∈ WA := WA_t (List.mem_append_right _ (List.mem_append_left _ (List.mem_of_getElem? (i := 146) rfl))) rfl
theorem kV_X_told : (Cond.selects "IssueRows" ({ cls := "IssueRows", name := "told", desc := "(II)I" } : MethodName) ({ cls := "IssueRows", name := "told", desc := "(II)I" } : MethodName)) ∈ WA := WA_t (List.mem_append_right _ (List.mem_append_left _ (List.mem_of_getElem? (i := 147) rfl))) rfl
theorem kC_X_told : (Cond.code ({ cls := "IssueRows", name := "told", desc := "(II)I" } : MethodName) prog_1_method_17_code (3 : Nat) (Option.some FieldType.int)) ∈ WA := WA_t (List.mem_append_right _ (List.mem_append_left _ (List.mem_of_getElem? (i := 148) rfl))) rfl
theorem kM_X_120 : (Cond.methodLink "IssueRows" (120 : Nat) ({ cls := "IssueRows$Pairs", name := "has", desc := "(II)Z" } : MethodName)) ∈ WA := WA_t (List.mem_append_right _ (List.mem_append_left _ (List.mem_of_getElem? (i := 149) rfl))) rfl
theorem kI_P_has : (Cond.instanceMethod ({ cls := "IssueRows$Pairs", name := "has", desc := "(II)Z" } : MethodName)) ∈ WA := WA_t (List.mem_append_right _ (List.mem_append_left _ (List.mem_of_getElem? (i := 150) rfl))) rfl
theorem kV_P_has : (Cond.selects "IssueRows$Pairs" ({ cls := "IssueRows$Pairs", name := "has", desc := "(II)Z" } : MethodName) ({ cls := "IssueRows$Pairs", name := "has", desc := "(II)Z" } : MethodName)) ∈ WA := WA_t (List.mem_append_right _ (List.mem_append_left _ (List.mem_of_getElem? (i := 151) rfl))) rfl
theorem kC_P_has : (Cond.code ({ cls := "IssueRows$Pairs", name := "has", desc := "(II)Z" } : MethodName) prog_3_method_4_code (3 : Nat) (Option.some FieldType.boolean)) ∈ WA := WA_t (List.mem_append_right _ (List.mem_append_left _ (List.mem_of_getElem? (i := 152) rfl))) rfl
theorem kM_X_130 : (Cond.methodLink "IssueRows" (130 : Nat) ({ cls := "IssueRows$Pairs", name := "part", desc := "(II)I" } : MethodName)) ∈ WA := WA_t (List.mem_append_right _ (List.mem_append_left _ (List.mem_of_getElem? (i := 154) rfl))) rfl
theorem kI_P_part : (Cond.instanceMethod ({ cls := "IssueRows$Pairs", name := "part", desc := "(II)I" } : MethodName)) ∈ WA := WA_t (List.mem_append_right _ (List.mem_append_left _ (List.mem_of_getElem? (i := 155) rfl))) rfl
theorem kV_P_part : (Cond.selects "IssueRows$Pairs" ({ cls := "IssueRows$Pairs", name := "part", desc := "(II)I" } : MethodName) ({ cls := "IssueRows$Pairs", name := "part", desc := "(II)I" } : MethodName)) ∈ WA := WA_t (List.mem_append_right _ (List.mem_append_left _ (List.mem_of_getElem? (i := 156) rfl))) rfl
theorem kC_P_part : (Cond.code ({ cls := "IssueRows$Pairs", name := "part", desc := "(II)I" } : MethodName) prog_3_method_5_code (3 : Nat) (Option.some FieldType.int)) ∈ WA := WA_t (List.mem_append_right _ (List.mem_append_left _ (List.mem_of_getElem? (i := 157) rfl))) rfl
theorem kM_P_32 : (Cond.methodLink "IssueRows$Pairs" (32 : Nat) ({ cls := "IssueRows$Pairs", name := "has", desc := "(II)Z" } : MethodName)) ∈ WA := WA_t (List.mem_append_right _ (List.mem_append_left _ (List.mem_of_getElem? (i := 158) rfl))) rfl
theorem kM_L_96 : (Cond.methodLink "IssueRowsLaw" (96 : Nat) ({ cls := "IssueRows", name := "lateness", desc := "(I)I" } : MethodName)) ∈ WA := WA_t (List.mem_append_right _ (List.mem_append_left _ (List.mem_of_getElem? (i := 159) rfl))) rfl
theorem kI_X_lateness : (Cond.instanceMethod ({ cls := "IssueRows", name := "lateness", desc := "(I)I" } : MethodName)) ∈ WA := WA_t (List.mem_append_right _ (List.mem_append_left _ (List.mem_of_getElem? (i := 160) rfl))) rfl
theorem kV_X_lateness : (Cond.selects "IssueRows" ({ cls := "IssueRows", name := "lateness", desc := "(I)I" } : MethodName) ({ cls := "IssueRows", name := "lateness", desc := "(I)I" } : MethodName)) ∈ WA := WA_t (List.mem_append_right _ (List.mem_append_left _ (List.mem_of_getElem? (i := 161) rfl))) rfl
theorem kC_X_lateness : (Cond.code ({ cls := "IssueRows", name := "lateness", desc := "(I)I" } : MethodName) prog_1_method_18_code (4 : Nat) (Option.some FieldType.int)) ∈ WA := WA_t (List.mem_append_right _ (List.mem_append_left _ (List.mem_of_getElem? (i := 162) rfl))) rfl
theorem kM_X_209 : (Cond.methodLink "IssueRows" (209 : Nat) ({ cls := "IssueRows$Issue", name := "daysLate", desc := "()I" } : MethodName)) ∈ WA := WA_t (List.mem_append_right _ (List.mem_append_left _ (List.mem_of_getElem? (i := 163) rfl))) rfl
theorem kI_I_daysLate : (Cond.instanceMethod ({ cls := "IssueRows$Issue", name := "daysLate", desc := "()I" } : MethodName)) ∈ WA := WA_t (List.mem_append_right _ (List.mem_append_left _ (List.mem_of_getElem? (i := 164) rfl))) rfl
theorem kV_I_daysLate : (Cond.selects "IssueRows$Issue" ({ cls := "IssueRows$Issue", name := "daysLate", desc := "()I" } : MethodName) ({ cls := "IssueRows$Issue", name := "daysLate", desc := "()I" } : MethodName)) ∈ WA := WA_t (List.mem_append_right _ (List.mem_append_left _ (List.mem_of_getElem? (i := 165) rfl))) rfl
theorem kC_I_daysLate : (Cond.code ({ cls := "IssueRows$Issue", name := "daysLate", desc := "()I" } : MethodName) prog_2_method_7_code (2 : Nat) (Option.some FieldType.int)) ∈ WA := WA_t (List.mem_append_right _ (List.mem_append_left _ (List.mem_of_getElem? (i := 166) rfl))) rfl
theorem kM_L_44 : (Cond.methodLink "IssueRowsLaw" (44 : Nat) ({ cls := "IssueRowsLaw", name := "claimed", desc := "(LIssueRows;II[J)I" } : MethodName)) ∈ WA := WA_t (List.mem_append_right _ (List.mem_append_left _ (List.mem_of_getElem? (i := 167) rfl))) rfl
theorem kS_L_claimed : (Cond.static ({ cls := "IssueRowsLaw", name := "claimed", desc := "(LIssueRows;II[J)I" } : MethodName)) ∈ WA := WA_t (List.mem_append_right _ (List.mem_append_left _ (List.mem_of_getElem? (i := 168) rfl))) rfl
theorem kL_L_13 : (Cond.classLink "IssueRowsLaw" (13 : Nat) "java/lang/IndexOutOfBoundsException") ∈ WA := WA_t (List.mem_append_right _ (List.mem_append_left _ (List.mem_of_getElem? (i := 170) rfl))) rfl
theorem kM_L_7 : (Cond.methodLink "IssueRowsLaw" (7 : Nat) ({ cls := "IssueRows", name := "claimed", desc := "(II)I" } : MethodName)) ∈ WA := WA_t (List.mem_append_right _ (List.mem_append_left _ (List.mem_of_getElem? (i := 171) rfl))) rfl
theorem kI_X_claimed : (Cond.instanceMethod ({ cls := "IssueRows", name := "claimed", desc := "(II)I" } : MethodName)) ∈ WA := WA_t (List.mem_append_right _ (List.mem_append_left _ (List.mem_of_getElem? (i := 172) rfl))) rfl
theorem kV_X_claimed : (Cond.selects "IssueRows" ({ cls := "IssueRows", name := "claimed", desc := "(II)I" } : MethodName) ({ cls := "IssueRows", name := "claimed", desc := "(II)I" } : MethodName)) ∈ WA := WA_t (List.mem_append_right _ (List.mem_append_left _ (List.mem_of_getElem? (i := 173) rfl))) rfl
theorem kC_X_claimed : (Cond.code ({ cls := "IssueRows", name := "claimed", desc := "(II)I" } : MethodName) prog_1_method_6_code (3 : Nat) (Option.some FieldType.int)) ∈ WA := WA_t (List.mem_append_right _ (List.mem_append_left _ (List.mem_of_getElem? (i := 174) rfl))) rfl
theorem kL_X_123 : (Cond.classLink "IssueRows" (123 : Nat) "java/lang/IndexOutOfBoundsException") ∈ WA := WA_t (List.mem_append_right _ (List.mem_append_left _ (List.mem_of_getElem? (i := 175) rfl))) rfl
theorem kA_A : (Cond.instantiable "java/lang/IndexOutOfBoundsException" (6 : Nat)) ∈ WA := WA_t (List.mem_append_right _ (List.mem_append_left _ (List.mem_of_getElem? (i := 176) rfl))) rfl
theorem kVA_T_fillInStackTrace_i : (Cond.selects "java/lang/IndexOutOfBoundsException" ({ cls := "java/lang/Throwable", name := "fillInStackTrace", desc := "(I)Ljava/lang/Throwable;" } : MethodName) ({ cls := "java/lang/Throwable", name := "fillInStackTrace", desc := "(I)Ljava/lang/Throwable;" } : MethodName)) ∈ WA := WA_t (List.mem_append_right _ (List.mem_append_left _ (List.mem_of_getElem? (i := 184) rfl))) rfl
theorem kVA_T_fillInStackTrace : (Cond.selects "java/lang/IndexOutOfBoundsException" ({ cls := "java/lang/Throwable", name := "fillInStackTrace", desc := "()Ljava/lang/Throwable;" } : MethodName) ({ cls := "java/lang/Throwable", name := "fillInStackTrace", desc := "()Ljava/lang/Throwable;" } : MethodName)) ∈ WA := WA_t (List.mem_append_right _ (List.mem_append_left _ (List.mem_of_getElem? (i := 185) rfl))) rfl
theorem kY_A_cause : (Cond.lays "java/lang/IndexOutOfBoundsException" "java/lang/Throwable" "cause" "Ljava/lang/Throwable;") ∈ WA := WA_t (List.mem_append_right _ (List.mem_append_left _ (List.mem_of_getElem? (i := 186) rfl))) rfl
theorem kY_T_cause : (Cond.lays "java/lang/Throwable" "java/lang/Throwable" "cause" "Ljava/lang/Throwable;") ∈ WA := WA_t (List.mem_append_right _ (List.mem_append_left _ (List.mem_of_getElem? (i := 187) rfl))) rfl
theorem kY_A_stackTrace : (Cond.lays "java/lang/IndexOutOfBoundsException" "java/lang/Throwable" "stackTrace" "[Ljava/lang/StackTraceElement;") ∈ WA := WA_t (List.mem_append_right _ (List.mem_append_left _ (List.mem_of_getElem? (i := 188) rfl))) rfl
theorem kY_T_stackTrace : (Cond.lays "java/lang/Throwable" "java/lang/Throwable" "stackTrace" "[Ljava/lang/StackTraceElement;") ∈ WA := WA_t (List.mem_append_right _ (List.mem_append_left _ (List.mem_of_getElem? (i := 189) rfl))) rfl
theorem kY_A_suppressedExceptions : (Cond.lays "java/lang/IndexOutOfBoundsException" "java/lang/Throwable" "suppressedExceptions" "Ljava/util/List;") ∈ WA := WA_t (List.mem_append_right _ (List.mem_append_left _ (List.mem_of_getElem? (i := 190) rfl))) rfl
theorem kY_T_suppressedExceptions : (Cond.lays "java/lang/Throwable" "java/lang/Throwable" "suppressedExceptions" "Ljava/util/List;") ∈ WA := WA_t (List.mem_append_right _ (List.mem_append_left _ (List.mem_of_getElem? (i := 191) rfl))) rfl
theorem kY_A_detailMessage : (Cond.lays "java/lang/IndexOutOfBoundsException" "java/lang/Throwable" "detailMessage" "Ljava/lang/String;") ∈ WA := WA_t (List.mem_append_right _ (List.mem_append_left _ (List.mem_of_getElem? (i := 192) rfl))) rfl
theorem kY_T_detailMessage : (Cond.lays "java/lang/Throwable" "java/lang/Throwable" "detailMessage" "Ljava/lang/String;") ∈ WA := WA_t (List.mem_append_right _ (List.mem_append_left _ (List.mem_of_getElem? (i := 193) rfl))) rfl
theorem kY_A_backtrace : (Cond.lays "java/lang/IndexOutOfBoundsException" "java/lang/Throwable" "backtrace" "Ljava/lang/Object;") ∈ WA := WA_t (List.mem_append_right _ (List.mem_append_left _ (List.mem_of_getElem? (i := 194) rfl))) rfl
theorem kY_T_backtrace : (Cond.lays "java/lang/Throwable" "java/lang/Throwable" "backtrace" "Ljava/lang/Object;") ∈ WA := WA_t (List.mem_append_right _ (List.mem_append_left _ (List.mem_of_getElem? (i := 195) rfl))) rfl
theorem kF_T_198 : (Cond.fieldLink "java/lang/Throwable" (198 : Nat) "java/lang/Throwable" "backtrace" "Ljava/lang/Object;") ∈ WA := WA_t (List.mem_append_right _ (List.mem_append_left _ (List.mem_of_getElem? (i := 196) rfl))) rfl
theorem kI_T_init : (Cond.instanceMethod ({ cls := "java/lang/Throwable", name := "<init>", desc := "()V" } : MethodName)) ∈ WA := WA_t (List.mem_append_right _ (List.mem_append_left _ (List.mem_of_getElem? (i := 198) rfl))) rfl
theorem kC_T_init : (Cond.code ({ cls := "java/lang/Throwable", name := "<init>", desc := "()V" } : MethodName) prog_15_method_1_code (1 : Nat) (Option.none : Option FieldType)) ∈ WA := WA_t (List.mem_append_right _ (List.mem_append_left _ (List.mem_of_getElem? (i := 199) rfl))) rfl
theorem kM_T_1 : (Cond.methodLink "java/lang/Throwable" (1 : Nat) ({ cls := "java/lang/Object", name := "<init>", desc := "()V" } : MethodName)) ∈ WA := WA_t (List.mem_append_right _ (List.mem_append_left _ (List.mem_of_getElem? (i := 200) rfl))) rfl
theorem kF_T_13 : (Cond.fieldLink "java/lang/Throwable" (13 : Nat) "java/lang/Throwable" "UNASSIGNED_STACK" "[Ljava/lang/StackTraceElement;") ∈ WA := WA_t (List.mem_append_right _ (List.mem_append_left _ (List.mem_of_getElem? (i := 201) rfl))) rfl
theorem kF_T_20 : (Cond.fieldLink "java/lang/Throwable" (20 : Nat) "java/lang/Throwable" "SUPPRESSED_SENTINEL" "Ljava/util/List;") ∈ WA := WA_t (List.mem_append_right _ (List.mem_append_left _ (List.mem_of_getElem? (i := 203) rfl))) rfl
theorem kM_T_27 : (Cond.methodLink "java/lang/Throwable" (27 : Nat) ({ cls := "java/lang/Throwable", name := "fillInStackTrace", desc := "()Ljava/lang/Throwable;" } : MethodName)) ∈ WA := WA_t (List.mem_append_right _ (List.mem_append_left _ (List.mem_of_getElem? (i := 205) rfl))) rfl
theorem kI_T_fillInStackTrace : (Cond.instanceMethod ({ cls := "java/lang/Throwable", name := "fillInStackTrace", desc := "()Ljava/lang/Throwable;" } : MethodName)) ∈ WA := WA_t (List.mem_append_right _ (List.mem_append_left _ (List.mem_of_getElem? (i := 206) rfl))) rfl
theorem kM_T_202 : (Cond.methodLink "java/lang/Throwable" (202 : Nat) ({ cls := "java/lang/Throwable", name := "fillInStackTrace", desc := "(I)Ljava/lang/Throwable;" } : MethodName)) ∈ WA := WA_t (List.mem_append_right _ (List.mem_append_left _ (List.mem_of_getElem? (i := 209) rfl))) rfl
theorem kI_T_fillInStackTrace_i : (Cond.instanceMethod ({ cls := "java/lang/Throwable", name := "fillInStackTrace", desc := "(I)Ljava/lang/Throwable;" } : MethodName)) ∈ WA := WA_t (List.mem_append_right _ (List.mem_append_left _ (List.mem_of_getElem? (i := 211) rfl))) rfl
theorem kA_T : (Cond.instantiable "java/lang/Throwable" (6 : Nat)) ∈ WA := WA_t (List.mem_append_right _ (List.mem_append_left _ (List.mem_of_getElem? (i := 212) rfl))) rfl
theorem kM_X_127 : (Cond.methodLink "IssueRows" (127 : Nat) ({ cls := "java/lang/IndexOutOfBoundsException", name := "<init>", desc := "(Ljava/lang/String;)V" } : MethodName)) ∈ WA := WA_t (List.mem_append_right _ (List.mem_append_left _ (List.mem_of_getElem? (i := 215) rfl))) rfl
theorem kI_A_init : (Cond.instanceMethod ({ cls := "java/lang/IndexOutOfBoundsException", name := "<init>", desc := "(Ljava/lang/String;)V" } : MethodName)) ∈ WA := WA_t (List.mem_append_right _ (List.mem_append_left _ (List.mem_of_getElem? (i := 216) rfl))) rfl
theorem kC_A_init : (Cond.code ({ cls := "java/lang/IndexOutOfBoundsException", name := "<init>", desc := "(Ljava/lang/String;)V" } : MethodName) prog_11_method_2_code (2 : Nat) (Option.none : Option FieldType)) ∈ WA := WA_t (List.mem_append_right _ (List.mem_append_left _ (List.mem_of_getElem? (i := 217) rfl))) rfl
theorem kM_A_7 : (Cond.methodLink "java/lang/IndexOutOfBoundsException" (7 : Nat) ({ cls := "java/lang/RuntimeException", name := "<init>", desc := "(Ljava/lang/String;)V" } : MethodName)) ∈ WA := WA_t (List.mem_append_right _ (List.mem_append_left _ (List.mem_of_getElem? (i := 218) rfl))) rfl
theorem kI_B_init : (Cond.instanceMethod ({ cls := "java/lang/RuntimeException", name := "<init>", desc := "(Ljava/lang/String;)V" } : MethodName)) ∈ WA := WA_t (List.mem_append_right _ (List.mem_append_left _ (List.mem_of_getElem? (i := 219) rfl))) rfl
theorem kC_B_init : (Cond.code ({ cls := "java/lang/RuntimeException", name := "<init>", desc := "(Ljava/lang/String;)V" } : MethodName) prog_13_method_2_code (2 : Nat) (Option.none : Option FieldType)) ∈ WA := WA_t (List.mem_append_right _ (List.mem_append_left _ (List.mem_of_getElem? (i := 220) rfl))) rfl
theorem kM_B_7 : (Cond.methodLink "java/lang/RuntimeException" (7 : Nat) ({ cls := "java/lang/Exception", name := "<init>", desc := "(Ljava/lang/String;)V" } : MethodName)) ∈ WA := WA_t (List.mem_append_right _ (List.mem_append_left _ (List.mem_of_getElem? (i := 221) rfl))) rfl
theorem kI_E_init : (Cond.instanceMethod ({ cls := "java/lang/Exception", name := "<init>", desc := "(Ljava/lang/String;)V" } : MethodName)) ∈ WA := WA_t (List.mem_append_right _ (List.mem_append_left _ (List.mem_of_getElem? (i := 222) rfl))) rfl
theorem kC_E_init : (Cond.code ({ cls := "java/lang/Exception", name := "<init>", desc := "(Ljava/lang/String;)V" } : MethodName) prog_10_method_2_code (2 : Nat) (Option.none : Option FieldType)) ∈ WA := WA_t (List.mem_append_right _ (List.mem_append_left _ (List.mem_of_getElem? (i := 223) rfl))) rfl
theorem kM_E_7 : (Cond.methodLink "java/lang/Exception" (7 : Nat) ({ cls := "java/lang/Throwable", name := "<init>", desc := "(Ljava/lang/String;)V" } : MethodName)) ∈ WA := WA_t (List.mem_append_right _ (List.mem_append_left _ (List.mem_of_getElem? (i := 224) rfl))) rfl
theorem kI_T_init2 : (Cond.instanceMethod ({ cls := "java/lang/Throwable", name := "<init>", desc := "(Ljava/lang/String;)V" } : MethodName)) ∈ WA := WA_t (List.mem_append_right _ (List.mem_append_left _ (List.mem_of_getElem? (i := 225) rfl))) rfl
theorem kC_T_init2 : (Cond.code ({ cls := "java/lang/Throwable", name := "<init>", desc := "(Ljava/lang/String;)V" } : MethodName) prog_15_method_2_code (2 : Nat) (Option.none : Option FieldType)) ∈ WA := WA_t (List.mem_append_right _ (List.mem_append_left _ (List.mem_of_getElem? (i := 226) rfl))) rfl
theorem kF_T_31 : (Cond.fieldLink "java/lang/Throwable" (31 : Nat) "java/lang/Throwable" "detailMessage" "Ljava/lang/String;") ∈ WA := WA_t (List.mem_append_right _ (List.mem_append_left _ (List.mem_of_getElem? (i := 228) rfl))) rfl
theorem kF_T_7 : (Cond.fieldLink "java/lang/Throwable" (7 : Nat) "java/lang/Throwable" "cause" "Ljava/lang/Throwable;") ∈ WA := WA_t (List.mem_append_right _ (List.mem_append_left _ (List.mem_of_getElem? (i := 229) rfl))) rfl
theorem kF_T_17 : (Cond.fieldLink "java/lang/Throwable" (17 : Nat) "java/lang/Throwable" "stackTrace" "[Ljava/lang/StackTraceElement;") ∈ WA := WA_t (List.mem_append_right _ (List.mem_append_left _ (List.mem_of_getElem? (i := 230) rfl))) rfl
theorem kF_T_24 : (Cond.fieldLink "java/lang/Throwable" (24 : Nat) "java/lang/Throwable" "suppressedExceptions" "Ljava/util/List;") ∈ WA := WA_t (List.mem_append_right _ (List.mem_append_left _ (List.mem_of_getElem? (i := 231) rfl))) rfl
theorem kY_A_depth : (Cond.lays "java/lang/IndexOutOfBoundsException" "java/lang/Throwable" "depth" "I") ∈ WA := WA_t (List.mem_append_right _ (List.mem_append_left _ (List.mem_of_getElem? (i := 236) rfl))) rfl
theorem kR_byte : (Cond.arrayClass FieldType.byte) ∈ WA := WA_t (List.mem_append_right _ (List.mem_append_right _ (List.mem_append_left _ (List.mem_of_getElem? (i := 0) rfl)))) rfl
theorem kM_L_74 : (Cond.methodLink "IssueRowsLaw" (74 : Nat) ({ cls := "IssueRowsLaw", name := "volume", desc := "(LIssueRows;II[J)I" } : MethodName)) ∈ WA := WA_t (List.mem_append_right _ (List.mem_append_right _ (List.mem_append_left _ (List.mem_of_getElem? (i := 1) rfl)))) rfl
theorem kS_L_volume : (Cond.static ({ cls := "IssueRowsLaw", name := "volume", desc := "(LIssueRows;II[J)I" } : MethodName)) ∈ WA := WA_t (List.mem_append_right _ (List.mem_append_right _ (List.mem_append_left _ (List.mem_of_getElem? (i := 2) rfl)))) rfl
theorem kM_L_15 : (Cond.methodLink "IssueRowsLaw" (15 : Nat) ({ cls := "IssueRows", name := "volume", desc := "(II)I" } : MethodName)) ∈ WA := WA_t (List.mem_append_right _ (List.mem_append_right _ (List.mem_append_left _ (List.mem_of_getElem? (i := 4) rfl)))) rfl
theorem kI_X_volume : (Cond.instanceMethod ({ cls := "IssueRows", name := "volume", desc := "(II)I" } : MethodName)) ∈ WA := WA_t (List.mem_append_right _ (List.mem_append_right _ (List.mem_append_left _ (List.mem_of_getElem? (i := 5) rfl)))) rfl
theorem kV_X_volume : (Cond.selects "IssueRows" ({ cls := "IssueRows", name := "volume", desc := "(II)I" } : MethodName) ({ cls := "IssueRows", name := "volume", desc := "(II)I" } : MethodName)) ∈ WA := WA_t (List.mem_append_right _ (List.mem_append_right _ (List.mem_append_left _ (List.mem_of_getElem? (i := 6) rfl)))) rfl
theorem kC_X_volume : (Cond.code ({ cls := "IssueRows", name := "volume", desc := "(II)I" } : MethodName) prog_1_method_12_code (3 : Nat) (Option.some FieldType.int)) ∈ WA := WA_t (List.mem_append_right _ (List.mem_append_right _ (List.mem_append_left _ (List.mem_of_getElem? (i := 7) rfl)))) rfl
theorem kM_X_183 : (Cond.methodLink "IssueRows" (183 : Nat) ({ cls := "IssueRows$Volumes", name := "has", desc := "(II)Z" } : MethodName)) ∈ WA := WA_t (List.mem_append_right _ (List.mem_append_right _ (List.mem_append_left _ (List.mem_of_getElem? (i := 8) rfl)))) rfl
theorem kI_V_has : (Cond.instanceMethod ({ cls := "IssueRows$Volumes", name := "has", desc := "(II)Z" } : MethodName)) ∈ WA := WA_t (List.mem_append_right _ (List.mem_append_right _ (List.mem_append_left _ (List.mem_of_getElem? (i := 9) rfl)))) rfl
theorem kV_V_has : (Cond.selects "IssueRows$Volumes" ({ cls := "IssueRows$Volumes", name := "has", desc := "(II)Z" } : MethodName) ({ cls := "IssueRows$Volumes", name := "has", desc := "(II)Z" } : MethodName)) ∈ WA := WA_t (List.mem_append_right _ (List.mem_append_right _ (List.mem_append_left _ (List.mem_of_getElem? (i := 10) rfl)))) rfl
theorem kC_V_has : (Cond.code ({ cls := "IssueRows$Volumes", name := "has", desc := "(II)Z" } : MethodName) prog_7_method_5_code (3 : Nat) (Option.some FieldType.boolean)) ∈ WA := WA_t (List.mem_append_right _ (List.mem_append_right _ (List.mem_append_left _ (List.mem_of_getElem? (i := 11) rfl)))) rfl
theorem kM_X_186 : (Cond.methodLink "IssueRows" (186 : Nat) ({ cls := "IssueRows$Volumes", name := "member", desc := "(II)I" } : MethodName)) ∈ WA := WA_t (List.mem_append_right _ (List.mem_append_right _ (List.mem_append_left _ (List.mem_of_getElem? (i := 13) rfl)))) rfl
theorem kI_V_member : (Cond.instanceMethod ({ cls := "IssueRows$Volumes", name := "member", desc := "(II)I" } : MethodName)) ∈ WA := WA_t (List.mem_append_right _ (List.mem_append_right _ (List.mem_append_left _ (List.mem_of_getElem? (i := 14) rfl)))) rfl
theorem kV_V_member : (Cond.selects "IssueRows$Volumes" ({ cls := "IssueRows$Volumes", name := "member", desc := "(II)I" } : MethodName) ({ cls := "IssueRows$Volumes", name := "member", desc := "(II)I" } : MethodName)) ∈ WA := WA_t (List.mem_append_right _ (List.mem_append_right _ (List.mem_append_left _ (List.mem_of_getElem? (i := 15) rfl)))) rfl
theorem kC_V_member : (Cond.code ({ cls := "IssueRows$Volumes", name := "member", desc := "(II)I" } : MethodName) prog_7_method_6_code (3 : Nat) (Option.some FieldType.int)) ∈ WA := WA_t (List.mem_append_right _ (List.mem_append_right _ (List.mem_append_left _ (List.mem_of_getElem? (i := 16) rfl)))) rfl
theorem kM_V_30 : (Cond.methodLink "IssueRows$Volumes" (30 : Nat) ({ cls := "IssueRows$Volumes", name := "has", desc := "(II)Z" } : MethodName)) ∈ WA := WA_t (List.mem_append_right _ (List.mem_append_right _ (List.mem_append_left _ (List.mem_of_getElem? (i := 17) rfl)))) rfl
theorem kM_L_81 : (Cond.methodLink "IssueRowsLaw" (81 : Nat) ({ cls := "IssueRowsLaw", name := "row", desc := "(LIssueRows;II[J)I" } : MethodName)) ∈ WA := WA_t (List.mem_append_right _ (List.mem_append_right _ (List.mem_append_left _ (List.mem_of_getElem? (i := 18) rfl)))) rfl
theorem kS_L_row : (Cond.static ({ cls := "IssueRowsLaw", name := "row", desc := "(LIssueRows;II[J)I" } : MethodName)) ∈ WA := WA_t (List.mem_append_right _ (List.mem_append_right _ (List.mem_append_left _ (List.mem_of_getElem? (i := 19) rfl)))) rfl
theorem kM_L_18 : (Cond.methodLink "IssueRowsLaw" (18 : Nat) ({ cls := "IssueRows", name := "row", desc := "(II)I" } : MethodName)) ∈ WA := WA_t (List.mem_append_right _ (List.mem_append_right _ (List.mem_append_left _ (List.mem_of_getElem? (i := 21) rfl)))) rfl
theorem kI_X_row : (Cond.instanceMethod ({ cls := "IssueRows", name := "row", desc := "(II)I" } : MethodName)) ∈ WA := WA_t (List.mem_append_right _ (List.mem_append_right _ (List.mem_append_left _ (List.mem_of_getElem? (i := 22) rfl)))) rfl
theorem kV_X_row : (Cond.selects "IssueRows" ({ cls := "IssueRows", name := "row", desc := "(II)I" } : MethodName) ({ cls := "IssueRows", name := "row", desc := "(II)I" } : MethodName)) ∈ WA := WA_t (List.mem_append_right _ (List.mem_append_right _ (List.mem_append_left _ (List.mem_of_getElem? (i := 23) rfl)))) rfl
theorem kC_X_row : (Cond.code ({ cls := "IssueRows", name := "row", desc := "(II)I" } : MethodName) prog_1_method_14_code (3 : Nat) (Option.some FieldType.int)) ∈ WA := WA_t (List.mem_append_right _ (List.mem_append_right _ (List.mem_append_left _ (List.mem_of_getElem? (i := 24) rfl)))) rfl
theorem kM_X_197 : (Cond.methodLink "IssueRows" (197 : Nat) ({ cls := "IssueRows$Statement", name := "has", desc := "(II)Z" } : MethodName)) ∈ WA := WA_t (List.mem_append_right _ (List.mem_append_right _ (List.mem_append_left _ (List.mem_of_getElem? (i := 25) rfl)))) rfl
theorem kI_S_has : (Cond.instanceMethod ({ cls := "IssueRows$Statement", name := "has", desc := "(II)Z" } : MethodName)) ∈ WA := WA_t (List.mem_append_right _ (List.mem_append_right _ (List.mem_append_left _ (List.mem_of_getElem? (i := 26) rfl)))) rfl
theorem kV_S_has : (Cond.selects "IssueRows$Statement" ({ cls := "IssueRows$Statement", name := "has", desc := "(II)Z" } : MethodName) ({ cls := "IssueRows$Statement", name := "has", desc := "(II)Z" } : MethodName)) ∈ WA := WA_t (List.mem_append_right _ (List.mem_append_right _ (List.mem_append_left _ (List.mem_of_getElem? (i := 27) rfl)))) rfl
theorem kC_S_has : (Cond.code ({ cls := "IssueRows$Statement", name := "has", desc := "(II)Z" } : MethodName) prog_6_method_4_code (3 : Nat) (Option.some FieldType.boolean)) ∈ WA := WA_t (List.mem_append_right _ (List.mem_append_right _ (List.mem_append_left _ (List.mem_of_getElem? (i := 28) rfl)))) rfl
theorem kM_X_200 : (Cond.methodLink "IssueRows" (200 : Nat) ({ cls := "IssueRows$Statement", name := "part", desc := "(II)I" } : MethodName)) ∈ WA := WA_t (List.mem_append_right _ (List.mem_append_right _ (List.mem_append_left _ (List.mem_of_getElem? (i := 31) rfl)))) rfl
theorem kI_S_part : (Cond.instanceMethod ({ cls := "IssueRows$Statement", name := "part", desc := "(II)I" } : MethodName)) ∈ WA := WA_t (List.mem_append_right _ (List.mem_append_right _ (List.mem_append_left _ (List.mem_of_getElem? (i := 32) rfl)))) rfl
theorem kV_S_part : (Cond.selects "IssueRows$Statement" ({ cls := "IssueRows$Statement", name := "part", desc := "(II)I" } : MethodName) ({ cls := "IssueRows$Statement", name := "part", desc := "(II)I" } : MethodName)) ∈ WA := WA_t (List.mem_append_right _ (List.mem_append_right _ (List.mem_append_left _ (List.mem_of_getElem? (i := 33) rfl)))) rfl
theorem kC_S_part : (Cond.code ({ cls := "IssueRows$Statement", name := "part", desc := "(II)I" } : MethodName) prog_6_method_5_code (3 : Nat) (Option.some FieldType.int)) ∈ WA := WA_t (List.mem_append_right _ (List.mem_append_right _ (List.mem_append_left _ (List.mem_of_getElem? (i := 34) rfl)))) rfl
theorem kM_S_29 : (Cond.methodLink "IssueRows$Statement" (29 : Nat) ({ cls := "IssueRows$Statement", name := "has", desc := "(II)Z" } : MethodName)) ∈ WA := WA_t (List.mem_append_right _ (List.mem_append_right _ (List.mem_append_left _ (List.mem_of_getElem? (i := 35) rfl)))) rfl
theorem kL_L_22 : (Cond.classLink "IssueRowsLaw" (22 : Nat) "IssueRowsModel") ∈ WA := WA_t (List.mem_append_right _ (List.mem_append_right _ (List.mem_append_left _ (List.mem_of_getElem? (i := 36) rfl)))) rfl
theorem kA_M : (Cond.instantiable "IssueRowsModel" (33 : Nat)) ∈ WA := WA_t (List.mem_append_right _ (List.mem_append_right _ (List.mem_append_left _ (List.mem_of_getElem? (i := 37) rfl)))) rfl
theorem kM_L_24 : (Cond.methodLink "IssueRowsLaw" (24 : Nat) ({ cls := "IssueRowsModel", name := "<init>", desc := "()V" } : MethodName)) ∈ WA := WA_t (List.mem_append_right _ (List.mem_append_right _ (List.mem_append_left _ (List.mem_of_getElem? (i := 38) rfl)))) rfl
theorem kI_M_init : (Cond.instanceMethod ({ cls := "IssueRowsModel", name := "<init>", desc := "()V" } : MethodName)) ∈ WA := WA_t (List.mem_append_right _ (List.mem_append_right _ (List.mem_append_left _ (List.mem_of_getElem? (i := 39) rfl)))) rfl
theorem kC_M_init : (Cond.code ({ cls := "IssueRowsModel", name := "<init>", desc := "()V" } : MethodName) prog_9_method_1_code (2 : Nat) (Option.none : Option FieldType)) ∈ WA := WA_t (List.mem_append_right _ (List.mem_append_right _ (List.mem_append_left _ (List.mem_of_getElem? (i := 40) rfl)))) rfl
theorem kM_M_1 : (Cond.methodLink "IssueRowsModel" (1 : Nat) ({ cls := "java/lang/Object", name := "<init>", desc := "()V" } : MethodName)) ∈ WA := WA_t (List.mem_append_right _ (List.mem_append_right _ (List.mem_append_left _ (List.mem_of_getElem? (i := 41) rfl)))) rfl
theorem kF_M_92 : (Cond.fieldLink "IssueRowsModel" (92 : Nat) "IssueRowsModel" "thrown" "I") ∈ WA := WA_t (List.mem_append_right _ (List.mem_append_right _ (List.mem_append_left _ (List.mem_of_getElem? (i := 42) rfl)))) rfl
theorem kF_M_7 : (Cond.fieldLink "IssueRowsModel" (7 : Nat) "IssueRowsModel" "first" "[I") ∈ WA := WA_t (List.mem_append_right _ (List.mem_append_right _ (List.mem_append_left _ (List.mem_of_getElem? (i := 43) rfl)))) rfl
theorem kF_M_13 : (Cond.fieldLink "IssueRowsModel" (13 : Nat) "IssueRowsModel" "again" "[I") ∈ WA := WA_t (List.mem_append_right _ (List.mem_append_right _ (List.mem_append_left _ (List.mem_of_getElem? (i := 44) rfl)))) rfl
theorem kF_M_16 : (Cond.fieldLink "IssueRowsModel" (16 : Nat) "IssueRowsModel" "most" "[I") ∈ WA := WA_t (List.mem_append_right _ (List.mem_append_right _ (List.mem_append_left _ (List.mem_of_getElem? (i := 45) rfl)))) rfl
theorem kF_M_101 : (Cond.fieldLink "IssueRowsModel" (101 : Nat) "IssueRowsModel" "issues" "I") ∈ WA := WA_t (List.mem_append_right _ (List.mem_append_right _ (List.mem_append_left _ (List.mem_of_getElem? (i := 46) rfl)))) rfl
theorem kF_M_19 : (Cond.fieldLink "IssueRowsModel" (19 : Nat) "IssueRowsModel" "pattern" "[I") ∈ WA := WA_t (List.mem_append_right _ (List.mem_append_right _ (List.mem_append_left _ (List.mem_of_getElem? (i := 47) rfl)))) rfl
theorem kF_M_22 : (Cond.fieldLink "IssueRowsModel" (22 : Nat) "IssueRowsModel" "ordinal" "[I") ∈ WA := WA_t (List.mem_append_right _ (List.mem_append_right _ (List.mem_append_left _ (List.mem_of_getElem? (i := 48) rfl)))) rfl
theorem kF_M_25 : (Cond.fieldLink "IssueRowsModel" (25 : Nat) "IssueRowsModel" "state" "[I") ∈ WA := WA_t (List.mem_append_right _ (List.mem_append_right _ (List.mem_append_left _ (List.mem_of_getElem? (i := 49) rfl)))) rfl
theorem kF_M_28 : (Cond.fieldLink "IssueRowsModel" (28 : Nat) "IssueRowsModel" "expected" "[I") ∈ WA := WA_t (List.mem_append_right _ (List.mem_append_right _ (List.mem_append_left _ (List.mem_of_getElem? (i := 50) rfl)))) rfl
theorem kF_M_31 : (Cond.fieldLink "IssueRowsModel" (31 : Nat) "IssueRowsModel" "claims" "[I") ∈ WA := WA_t (List.mem_append_right _ (List.mem_append_right _ (List.mem_append_left _ (List.mem_of_getElem? (i := 51) rfl)))) rfl
theorem kF_M_34 : (Cond.fieldLink "IssueRowsModel" (34 : Nat) "IssueRowsModel" "claimDay" "[I") ∈ WA := WA_t (List.mem_append_right _ (List.mem_append_right _ (List.mem_append_left _ (List.mem_of_getElem? (i := 52) rfl)))) rfl
theorem kF_M_37 : (Cond.fieldLink "IssueRowsModel" (37 : Nat) "IssueRowsModel" "copies" "[I") ∈ WA := WA_t (List.mem_append_right _ (List.mem_append_right _ (List.mem_append_left _ (List.mem_of_getElem? (i := 53) rfl)))) rfl
theorem kF_M_40 : (Cond.fieldLink "IssueRowsModel" (40 : Nat) "IssueRowsModel" "came" "[I") ∈ WA := WA_t (List.mem_append_right _ (List.mem_append_right _ (List.mem_append_left _ (List.mem_of_getElem? (i := 54) rfl)))) rfl
theorem kF_M_43 : (Cond.fieldLink "IssueRowsModel" (43 : Nat) "IssueRowsModel" "volumeOf" "[I") ∈ WA := WA_t (List.mem_append_right _ (List.mem_append_right _ (List.mem_append_left _ (List.mem_of_getElem? (i := 55) rfl)))) rfl
theorem kF_M_46 : (Cond.fieldLink "IssueRowsModel" (46 : Nat) "IssueRowsModel" "replacedBy" "[I") ∈ WA := WA_t (List.mem_append_right _ (List.mem_append_right _ (List.mem_append_left _ (List.mem_of_getElem? (i := 56) rfl)))) rfl
theorem kF_M_49 : (Cond.fieldLink "IssueRowsModel" (49 : Nat) "IssueRowsModel" "cents" "[I") ∈ WA := WA_t (List.mem_append_right _ (List.mem_append_right _ (List.mem_append_left _ (List.mem_of_getElem? (i := 57) rfl)))) rfl
theorem kF_M_52 : (Cond.fieldLink "IssueRowsModel" (52 : Nat) "IssueRowsModel" "replaces" "[Z") ∈ WA := WA_t (List.mem_append_right _ (List.mem_append_right _ (List.mem_append_left _ (List.mem_of_getElem? (i := 58) rfl)))) rfl
theorem kF_M_56 : (Cond.fieldLink "IssueRowsModel" (56 : Nat) "IssueRowsModel" "rowSize" "[I") ∈ WA := WA_t (List.mem_append_right _ (List.mem_append_right _ (List.mem_append_left _ (List.mem_of_getElem? (i := 59) rfl)))) rfl
theorem kF_M_59 : (Cond.fieldLink "IssueRowsModel" (59 : Nat) "IssueRowsModel" "person" "[I") ∈ WA := WA_t (List.mem_append_right _ (List.mem_append_right _ (List.mem_append_left _ (List.mem_of_getElem? (i := 60) rfl)))) rfl
theorem kF_M_62 : (Cond.fieldLink "IssueRowsModel" (62 : Nat) "IssueRowsModel" "personDays" "[I") ∈ WA := WA_t (List.mem_append_right _ (List.mem_append_right _ (List.mem_append_left _ (List.mem_of_getElem? (i := 61) rfl)))) rfl
theorem kF_M_65 : (Cond.fieldLink "IssueRowsModel" (65 : Nat) "IssueRowsModel" "holder" "[I") ∈ WA := WA_t (List.mem_append_right _ (List.mem_append_right _ (List.mem_append_left _ (List.mem_of_getElem? (i := 62) rfl)))) rfl
theorem kF_M_68 : (Cond.fieldLink "IssueRowsModel" (68 : Nat) "IssueRowsModel" "holderFrom" "[I") ∈ WA := WA_t (List.mem_append_right _ (List.mem_append_right _ (List.mem_append_left _ (List.mem_of_getElem? (i := 63) rfl)))) rfl
theorem kF_M_122 : (Cond.fieldLink "IssueRowsModel" (122 : Nat) "IssueRowsModel" "round" "I") ∈ WA := WA_t (List.mem_append_right _ (List.mem_append_right _ (List.mem_append_left _ (List.mem_of_getElem? (i := 64) rfl)))) rfl
theorem kF_M_71 : (Cond.fieldLink "IssueRowsModel" (71 : Nat) "IssueRowsModel" "roundIssue" "[I") ∈ WA := WA_t (List.mem_append_right _ (List.mem_append_right _ (List.mem_append_left _ (List.mem_of_getElem? (i := 65) rfl)))) rfl
theorem kF_M_74 : (Cond.fieldLink "IssueRowsModel" (74 : Nat) "IssueRowsModel" "roundClaims" "[I") ∈ WA := WA_t (List.mem_append_right _ (List.mem_append_right _ (List.mem_append_left _ (List.mem_of_getElem? (i := 66) rfl)))) rfl
theorem kF_M_135 : (Cond.fieldLink "IssueRowsModel" (135 : Nat) "IssueRowsModel" "volumes" "I") ∈ WA := WA_t (List.mem_append_right _ (List.mem_append_right _ (List.mem_append_left _ (List.mem_of_getElem? (i := 67) rfl)))) rfl
theorem kF_M_138 : (Cond.fieldLink "IssueRowsModel" (138 : Nat) "IssueRowsModel" "rows" "I") ∈ WA := WA_t (List.mem_append_right _ (List.mem_append_right _ (List.mem_append_left _ (List.mem_of_getElem? (i := 68) rfl)))) rfl
theorem kF_M_77 : (Cond.fieldLink "IssueRowsModel" (77 : Nat) "IssueRowsModel" "rowFirst" "[I") ∈ WA := WA_t (List.mem_append_right _ (List.mem_append_right _ (List.mem_append_left _ (List.mem_of_getElem? (i := 69) rfl)))) rfl
theorem kF_M_80 : (Cond.fieldLink "IssueRowsModel" (80 : Nat) "IssueRowsModel" "rowLast" "[I") ∈ WA := WA_t (List.mem_append_right _ (List.mem_append_right _ (List.mem_append_left _ (List.mem_of_getElem? (i := 70) rfl)))) rfl
theorem kF_M_83 : (Cond.fieldLink "IssueRowsModel" (83 : Nat) "IssueRowsModel" "rowMany" "[I") ∈ WA := WA_t (List.mem_append_right _ (List.mem_append_right _ (List.mem_append_left _ (List.mem_of_getElem? (i := 71) rfl)))) rfl
theorem kF_M_104 : (Cond.fieldLink "IssueRowsModel" (104 : Nat) "IssueRowsModel" "notes" "I") ∈ WA := WA_t (List.mem_append_right _ (List.mem_append_right _ (List.mem_append_left _ (List.mem_of_getElem? (i := 72) rfl)))) rfl
theorem kF_M_86 : (Cond.fieldLink "IssueRowsModel" (86 : Nat) "IssueRowsModel" "note" "[I") ∈ WA := WA_t (List.mem_append_right _ (List.mem_append_right _ (List.mem_append_left _ (List.mem_of_getElem? (i := 73) rfl)))) rfl
theorem kF_M_89 : (Cond.fieldLink "IssueRowsModel" (89 : Nat) "IssueRowsModel" "noteIssue" "[I") ∈ WA := WA_t (List.mem_append_right _ (List.mem_append_right _ (List.mem_append_left _ (List.mem_of_getElem? (i := 74) rfl)))) rfl
theorem kY_M_thrown : (Cond.lays "IssueRowsModel" "IssueRowsModel" "thrown" "I") ∈ WA := WA_t (List.mem_append_right _ (List.mem_append_right _ (List.mem_append_left _ (List.mem_of_getElem? (i := 75) rfl)))) rfl
theorem kY_M_first : (Cond.laysFinal "IssueRowsModel" "IssueRowsModel" "first" "[I") ∈ WA := WA_t (List.mem_append_right _ (List.mem_append_right _ (List.mem_append_left _ (List.mem_of_getElem? (i := 77) rfl)))) rfl
theorem kY_M_again : (Cond.laysFinal "IssueRowsModel" "IssueRowsModel" "again" "[I") ∈ WA := WA_t (List.mem_append_right _ (List.mem_append_right _ (List.mem_append_left _ (List.mem_of_getElem? (i := 79) rfl)))) rfl
theorem kY_M_most : (Cond.laysFinal "IssueRowsModel" "IssueRowsModel" "most" "[I") ∈ WA := WA_t (List.mem_append_right _ (List.mem_append_right _ (List.mem_append_left _ (List.mem_of_getElem? (i := 81) rfl)))) rfl
theorem kY_M_issues : (Cond.lays "IssueRowsModel" "IssueRowsModel" "issues" "I") ∈ WA := WA_t (List.mem_append_right _ (List.mem_append_right _ (List.mem_append_left _ (List.mem_of_getElem? (i := 83) rfl)))) rfl
theorem kY_M_pattern : (Cond.laysFinal "IssueRowsModel" "IssueRowsModel" "pattern" "[I") ∈ WA := WA_t (List.mem_append_right _ (List.mem_append_right _ (List.mem_append_left _ (List.mem_of_getElem? (i := 85) rfl)))) rfl
theorem kY_M_ordinal : (Cond.laysFinal "IssueRowsModel" "IssueRowsModel" "ordinal" "[I") ∈ WA := WA_t (List.mem_append_right _ (List.mem_append_right _ (List.mem_append_left _ (List.mem_of_getElem? (i := 87) rfl)))) rfl
theorem kY_M_state : (Cond.laysFinal "IssueRowsModel" "IssueRowsModel" "state" "[I") ∈ WA := WA_t (List.mem_append_right _ (List.mem_append_right _ (List.mem_append_left _ (List.mem_of_getElem? (i := 89) rfl)))) rfl
theorem kY_M_expected : (Cond.laysFinal "IssueRowsModel" "IssueRowsModel" "expected" "[I") ∈ WA := WA_t (List.mem_append_right _ (List.mem_append_right _ (List.mem_append_left _ (List.mem_of_getElem? (i := 91) rfl)))) rfl
theorem kY_M_claims : (Cond.laysFinal "IssueRowsModel" "IssueRowsModel" "claims" "[I") ∈ WA := WA_t (List.mem_append_right _ (List.mem_append_right _ (List.mem_append_left _ (List.mem_of_getElem? (i := 93) rfl)))) rfl
theorem kY_M_claimDay : (Cond.laysFinal "IssueRowsModel" "IssueRowsModel" "claimDay" "[I") ∈ WA := WA_t (List.mem_append_right _ (List.mem_append_right _ (List.mem_append_left _ (List.mem_of_getElem? (i := 95) rfl)))) rfl
theorem kY_M_copies : (Cond.laysFinal "IssueRowsModel" "IssueRowsModel" "copies" "[I") ∈ WA := WA_t (List.mem_append_right _ (List.mem_append_right _ (List.mem_append_left _ (List.mem_of_getElem? (i := 97) rfl)))) rfl
theorem kY_M_came : (Cond.laysFinal "IssueRowsModel" "IssueRowsModel" "came" "[I") ∈ WA := WA_t (List.mem_append_right _ (List.mem_append_right _ (List.mem_append_left _ (List.mem_of_getElem? (i := 99) rfl)))) rfl
theorem kY_M_volumeOf : (Cond.laysFinal "IssueRowsModel" "IssueRowsModel" "volumeOf" "[I") ∈ WA := WA_t (List.mem_append_right _ (List.mem_append_right _ (List.mem_append_left _ (List.mem_of_getElem? (i := 101) rfl)))) rfl
theorem kY_M_replacedBy : (Cond.laysFinal "IssueRowsModel" "IssueRowsModel" "replacedBy" "[I") ∈ WA := WA_t (List.mem_append_right _ (List.mem_append_right _ (List.mem_append_left _ (List.mem_of_getElem? (i := 103) rfl)))) rfl
theorem kY_M_cents : (Cond.laysFinal "IssueRowsModel" "IssueRowsModel" "cents" "[I") ∈ WA := WA_t (List.mem_append_right _ (List.mem_append_right _ (List.mem_append_left _ (List.mem_of_getElem? (i := 105) rfl)))) rfl
theorem kY_M_replaces : (Cond.laysFinal "IssueRowsModel" "IssueRowsModel" "replaces" "[Z") ∈ WA := WA_t (List.mem_append_right _ (List.mem_append_right _ (List.mem_append_left _ (List.mem_of_getElem? (i := 107) rfl)))) rfl
theorem kY_M_rowSize : (Cond.laysFinal "IssueRowsModel" "IssueRowsModel" "rowSize" "[I") ∈ WA := WA_t (List.mem_append_right _ (List.mem_append_right _ (List.mem_append_left _ (List.mem_of_getElem? (i := 109) rfl)))) rfl
theorem kY_M_person : (Cond.laysFinal "IssueRowsModel" "IssueRowsModel" "person" "[I") ∈ WA := WA_t (List.mem_append_right _ (List.mem_append_right _ (List.mem_append_left _ (List.mem_of_getElem? (i := 111) rfl)))) rfl
theorem kY_M_personDays : (Cond.laysFinal "IssueRowsModel" "IssueRowsModel" "personDays" "[I") ∈ WA := WA_t (List.mem_append_right _ (List.mem_append_right _ (List.mem_append_left _ (List.mem_of_getElem? (i := 113) rfl)))) rfl
theorem kY_M_holder : (Cond.laysFinal "IssueRowsModel" "IssueRowsModel" "holder" "[I") ∈ WA := WA_t (List.mem_append_right _ (List.mem_append_right _ (List.mem_append_left _ (List.mem_of_getElem? (i := 115) rfl)))) rfl
theorem kY_M_holderFrom : (Cond.laysFinal "IssueRowsModel" "IssueRowsModel" "holderFrom" "[I") ∈ WA := WA_t (List.mem_append_right _ (List.mem_append_right _ (List.mem_append_left _ (List.mem_of_getElem? (i := 117) rfl)))) rfl
theorem kY_M_round : (Cond.lays "IssueRowsModel" "IssueRowsModel" "round" "I") ∈ WA := WA_t (List.mem_append_right _ (List.mem_append_right _ (List.mem_append_left _ (List.mem_of_getElem? (i := 119) rfl)))) rfl
theorem kY_M_roundIssue : (Cond.laysFinal "IssueRowsModel" "IssueRowsModel" "roundIssue" "[I") ∈ WA := WA_t (List.mem_append_right _ (List.mem_append_right _ (List.mem_append_left _ (List.mem_of_getElem? (i := 121) rfl)))) rfl
theorem kY_M_roundClaims : (Cond.laysFinal "IssueRowsModel" "IssueRowsModel" "roundClaims" "[I") ∈ WA := WA_t (List.mem_append_right _ (List.mem_append_right _ (List.mem_append_left _ (List.mem_of_getElem? (i := 123) rfl)))) rfl
theorem kY_M_volumes : (Cond.lays "IssueRowsModel" "IssueRowsModel" "volumes" "I") ∈ WA := WA_t (List.mem_append_right _ (List.mem_append_right _ (List.mem_append_left _ (List.mem_of_getElem? (i := 125) rfl)))) rfl
theorem kY_M_rows : (Cond.lays "IssueRowsModel" "IssueRowsModel" "rows" "I") ∈ WA := WA_t (List.mem_append_right _ (List.mem_append_right _ (List.mem_append_left _ (List.mem_of_getElem? (i := 127) rfl)))) rfl
theorem kY_M_rowFirst : (Cond.laysFinal "IssueRowsModel" "IssueRowsModel" "rowFirst" "[I") ∈ WA := WA_t (List.mem_append_right _ (List.mem_append_right _ (List.mem_append_left _ (List.mem_of_getElem? (i := 129) rfl)))) rfl
theorem kY_M_rowLast : (Cond.laysFinal "IssueRowsModel" "IssueRowsModel" "rowLast" "[I") ∈ WA := WA_t (List.mem_append_right _ (List.mem_append_right _ (List.mem_append_left _ (List.mem_of_getElem? (i := 131) rfl)))) rfl
theorem kY_M_rowMany : (Cond.laysFinal "IssueRowsModel" "IssueRowsModel" "rowMany" "[I") ∈ WA := WA_t (List.mem_append_right _ (List.mem_append_right _ (List.mem_append_left _ (List.mem_of_getElem? (i := 133) rfl)))) rfl
theorem kY_M_notes : (Cond.lays "IssueRowsModel" "IssueRowsModel" "notes" "I") ∈ WA := WA_t (List.mem_append_right _ (List.mem_append_right _ (List.mem_append_left _ (List.mem_of_getElem? (i := 135) rfl)))) rfl
theorem kY_M_note : (Cond.laysFinal "IssueRowsModel" "IssueRowsModel" "note" "[I") ∈ WA := WA_t (List.mem_append_right _ (List.mem_append_right _ (List.mem_append_left _ (List.mem_of_getElem? (i := 137) rfl)))) rfl
theorem kY_M_noteIssue : (Cond.laysFinal "IssueRowsModel" "IssueRowsModel" "noteIssue" "[I") ∈ WA := WA_t (List.mem_append_right _ (List.mem_append_right _ (List.mem_append_left _ (List.mem_of_getElem? (i := 139) rfl)))) rfl
theorem kR_boolean : (Cond.arrayClass FieldType.boolean) ∈ WA := WA_t (List.mem_append_right _ (List.mem_append_right _ (List.mem_append_left _ (List.mem_of_getElem? (i := 142) rfl)))) rfl
theorem kM_L_50 : (Cond.methodLink "IssueRowsLaw" (50 : Nat) ({ cls := "IssueRowsModel", name := "thrown", desc := "()I" } : MethodName)) ∈ WA := WA_t (List.mem_append_right _ (List.mem_append_right _ (List.mem_append_left _ (List.mem_of_getElem? (i := 143) rfl)))) rfl
theorem kI_M_thrown : (Cond.instanceMethod ({ cls := "IssueRowsModel", name := "thrown", desc := "()I" } : MethodName)) ∈ WA := WA_t (List.mem_append_right _ (List.mem_append_right _ (List.mem_append_left _ (List.mem_of_getElem? (i := 144) rfl)))) rfl
theorem kV_M_thrown : (Cond.selects "IssueRowsModel" ({ cls := "IssueRowsModel", name := "thrown", desc := "()I" } : MethodName) ({ cls := "IssueRowsModel", name := "thrown", desc := "()I" } : MethodName)) ∈ WA := WA_t (List.mem_append_right _ (List.mem_append_right _ (List.mem_append_left _ (List.mem_of_getElem? (i := 145) rfl)))) rfl
theorem kC_M_thrown : (Cond.code ({ cls := "IssueRowsModel", name := "thrown", desc := "()I" } : MethodName) prog_9_method_2_code (1 : Nat) (Option.some FieldType.int)) ∈ WA := WA_t (List.mem_append_right _ (List.mem_append_right _ (List.mem_append_left _ (List.mem_of_getElem? (i := 146) rfl)))) rfl
theorem kM_L_29 : (Cond.methodLink "IssueRowsLaw" (29 : Nat) ({ cls := "IssueRowsModel", name := "rule", desc := "(IIII)I" } : MethodName)) ∈ WA := WA_t (List.mem_append_right _ (List.mem_append_right _ (List.mem_append_left _ (List.mem_of_getElem? (i := 147) rfl)))) rfl
theorem kI_M_rule : (Cond.instanceMethod ({ cls := "IssueRowsModel", name := "rule", desc := "(IIII)I" } : MethodName)) ∈ WA := WA_t (List.mem_append_right _ (List.mem_append_right _ (List.mem_append_left _ (List.mem_of_getElem? (i := 148) rfl)))) rfl
theorem kV_M_rule : (Cond.selects "IssueRowsModel" ({ cls := "IssueRowsModel", name := "rule", desc := "(IIII)I" } : MethodName) ({ cls := "IssueRowsModel", name := "rule", desc := "(IIII)I" } : MethodName)) ∈ WA := WA_t (List.mem_append_right _ (List.mem_append_right _ (List.mem_append_left _ (List.mem_of_getElem? (i := 149) rfl)))) rfl
theorem kC_M_rule : (Cond.code ({ cls := "IssueRowsModel", name := "rule", desc := "(IIII)I" } : MethodName) prog_9_method_7_code (5 : Nat) (Option.some FieldType.int)) ∈ WA := WA_t (List.mem_append_right _ (List.mem_append_right _ (List.mem_append_left _ (List.mem_of_getElem? (i := 150) rfl)))) rfl
theorem kM_M_97 : (Cond.methodLink "IssueRowsModel" (97 : Nat) ({ cls := "IssueRowsModel", name := "in", desc := "(III)Z" } : MethodName)) ∈ WA := WA_t (List.mem_append_right _ (List.mem_append_right _ (List.mem_append_left _ (List.mem_of_getElem? (i := 151) rfl)))) rfl
theorem kS_M_in : (Cond.static ({ cls := "IssueRowsModel", name := "in", desc := "(III)Z" } : MethodName)) ∈ WA := WA_t (List.mem_append_right _ (List.mem_append_right _ (List.mem_append_left _ (List.mem_of_getElem? (i := 152) rfl)))) rfl
theorem kC_M_in : (Cond.code ({ cls := "IssueRowsModel", name := "in", desc := "(III)Z" } : MethodName) prog_9_method_3_code (3 : Nat) (Option.some FieldType.boolean)) ∈ WA := WA_t (List.mem_append_right _ (List.mem_append_right _ (List.mem_append_left _ (List.mem_of_getElem? (i := 153) rfl)))) rfl
theorem kM_L_34 : (Cond.methodLink "IssueRowsLaw" (34 : Nat) ({ cls := "IssueRowsModel", name := "issue", desc := "(III)I" } : MethodName)) ∈ WA := WA_t (List.mem_append_right _ (List.mem_append_right _ (List.mem_append_left _ (List.mem_of_getElem? (i := 154) rfl)))) rfl
theorem kI_M_issue : (Cond.instanceMethod ({ cls := "IssueRowsModel", name := "issue", desc := "(III)I" } : MethodName)) ∈ WA := WA_t (List.mem_append_right _ (List.mem_append_right _ (List.mem_append_left _ (List.mem_of_getElem? (i := 155) rfl)))) rfl
theorem kV_M_issue : (Cond.selects "IssueRowsModel" ({ cls := "IssueRowsModel", name := "issue", desc := "(III)I" } : MethodName) ({ cls := "IssueRowsModel", name := "issue", desc := "(III)I" } : MethodName)) ∈ WA := WA_t (List.mem_append_right _ (List.mem_append_right _ (List.mem_append_left _ (List.mem_of_getElem? (i := 156) rfl)))) rfl
theorem kC_M_issue : (Cond.code ({ cls := "IssueRowsModel", name := "issue", desc := "(III)I" } : MethodName) prog_9_method_9_code (5 : Nat) (Option.some FieldType.int)) ∈ WA := WA_t (List.mem_append_right _ (List.mem_append_right _ (List.mem_append_left _ (List.mem_of_getElem? (i := 157) rfl)))) rfl
theorem kM_M_107 : (Cond.methodLink "IssueRowsModel" (107 : Nat) ({ cls := "IssueRowsModel", name := "isDay", desc := "(I)Z" } : MethodName)) ∈ WA := WA_t (List.mem_append_right _ (List.mem_append_right _ (List.mem_append_left _ (List.mem_of_getElem? (i := 158) rfl)))) rfl
theorem kS_M_isDay : (Cond.static ({ cls := "IssueRowsModel", name := "isDay", desc := "(I)Z" } : MethodName)) ∈ WA := WA_t (List.mem_append_right _ (List.mem_append_right _ (List.mem_append_left _ (List.mem_of_getElem? (i := 159) rfl)))) rfl
theorem kC_M_isDay : (Cond.code ({ cls := "IssueRowsModel", name := "isDay", desc := "(I)Z" } : MethodName) prog_9_method_4_code (1 : Nat) (Option.some FieldType.boolean)) ∈ WA := WA_t (List.mem_append_right _ (List.mem_append_right _ (List.mem_append_left _ (List.mem_of_getElem? (i := 160) rfl)))) rfl
theorem kK_M_96 : (Cond.constant "IssueRowsModel" (96 : Nat) (1000000 : Int32)) ∈ WA := WA_t (List.mem_append_right _ (List.mem_append_right _ (List.mem_append_left _ (List.mem_of_getElem? (i := 161) rfl)))) rfl
theorem kM_M_111 : (Cond.methodLink "IssueRowsModel" (111 : Nat) ({ cls := "IssueRowsModel", name := "lay", desc := "(III)I" } : MethodName)) ∈ WA := WA_t (List.mem_append_right _ (List.mem_append_right _ (List.mem_append_left _ (List.mem_of_getElem? (i := 162) rfl)))) rfl
theorem kI_M_lay : (Cond.instanceMethod ({ cls := "IssueRowsModel", name := "lay", desc := "(III)I" } : MethodName)) ∈ WA := WA_t (List.mem_append_right _ (List.mem_append_right _ (List.mem_append_left _ (List.mem_of_getElem? (i := 164) rfl)))) rfl
theorem kC_M_lay : (Cond.code ({ cls := "IssueRowsModel", name := "lay", desc := "(III)I" } : MethodName) prog_9_method_8_code (5 : Nat) (Option.some FieldType.int)) ∈ WA := WA_t (List.mem_append_right _ (List.mem_append_right _ (List.mem_append_left _ (List.mem_of_getElem? (i := 165) rfl)))) rfl
theorem kM_L_38 : (Cond.methodLink "IssueRowsLaw" (38 : Nat) ({ cls := "IssueRowsModel", name := "checkIn", desc := "(III)I" } : MethodName)) ∈ WA := WA_t (List.mem_append_right _ (List.mem_append_right _ (List.mem_append_left _ (List.mem_of_getElem? (i := 166) rfl)))) rfl
theorem kI_M_checkIn : (Cond.instanceMethod ({ cls := "IssueRowsModel", name := "checkIn", desc := "(III)I" } : MethodName)) ∈ WA := WA_t (List.mem_append_right _ (List.mem_append_right _ (List.mem_append_left _ (List.mem_of_getElem? (i := 167) rfl)))) rfl
theorem kV_M_checkIn : (Cond.selects "IssueRowsModel" ({ cls := "IssueRowsModel", name := "checkIn", desc := "(III)I" } : MethodName) ({ cls := "IssueRowsModel", name := "checkIn", desc := "(III)I" } : MethodName)) ∈ WA := WA_t (List.mem_append_right _ (List.mem_append_right _ (List.mem_append_left _ (List.mem_of_getElem? (i := 168) rfl)))) rfl
theorem kC_M_checkIn : (Cond.code ({ cls := "IssueRowsModel", name := "checkIn", desc := "(III)I" } : MethodName) prog_9_method_10_code (5 : Nat) (Option.some FieldType.int)) ∈ WA := WA_t (List.mem_append_right _ (List.mem_append_right _ (List.mem_append_left _ (List.mem_of_getElem? (i := 169) rfl)))) rfl
theorem kM_M_115 : (Cond.methodLink "IssueRowsModel" (115 : Nat) ({ cls := "IssueRowsModel", name := "isIssue", desc := "(I)Z" } : MethodName)) ∈ WA := WA_t (List.mem_append_right _ (List.mem_append_right _ (List.mem_append_left _ (List.mem_of_getElem? (i := 170) rfl)))) rfl
theorem kI_M_isIssue : (Cond.instanceMethod ({ cls := "IssueRowsModel", name := "isIssue", desc := "(I)Z" } : MethodName)) ∈ WA := WA_t (List.mem_append_right _ (List.mem_append_right _ (List.mem_append_left _ (List.mem_of_getElem? (i := 172) rfl)))) rfl
theorem kC_M_isIssue : (Cond.code ({ cls := "IssueRowsModel", name := "isIssue", desc := "(I)Z" } : MethodName) prog_9_method_5_code (2 : Nat) (Option.some FieldType.boolean)) ∈ WA := WA_t (List.mem_append_right _ (List.mem_append_right _ (List.mem_append_left _ (List.mem_of_getElem? (i := 173) rfl)))) rfl
theorem kM_M_118 : (Cond.methodLink "IssueRowsModel" (118 : Nat) ({ cls := "IssueRowsModel", name := "tell", desc := "(II)V" } : MethodName)) ∈ WA := WA_t (List.mem_append_right _ (List.mem_append_right _ (List.mem_append_left _ (List.mem_of_getElem? (i := 174) rfl)))) rfl
theorem kI_M_tell : (Cond.instanceMethod ({ cls := "IssueRowsModel", name := "tell", desc := "(II)V" } : MethodName)) ∈ WA := WA_t (List.mem_append_right _ (List.mem_append_right _ (List.mem_append_left _ (List.mem_of_getElem? (i := 176) rfl)))) rfl
theorem kC_M_tell : (Cond.code ({ cls := "IssueRowsModel", name := "tell", desc := "(II)V" } : MethodName) prog_9_method_6_code (3 : Nat) (Option.none : Option FieldType)) ∈ WA := WA_t (List.mem_append_right _ (List.mem_append_right _ (List.mem_append_left _ (List.mem_of_getElem? (i := 177) rfl)))) rfl
theorem kM_L_43 : (Cond.methodLink "IssueRowsLaw" (43 : Nat) ({ cls := "IssueRowsModel", name := "claim", desc := "(I)I" } : MethodName)) ∈ WA := WA_t (List.mem_append_right _ (List.mem_append_right _ (List.mem_append_left _ (List.mem_of_getElem? (i := 178) rfl)))) rfl
theorem kI_M_claim : (Cond.instanceMethod ({ cls := "IssueRowsModel", name := "claim", desc := "(I)I" } : MethodName)) ∈ WA := WA_t (List.mem_append_right _ (List.mem_append_right _ (List.mem_append_left _ (List.mem_of_getElem? (i := 179) rfl)))) rfl
theorem kV_M_claim : (Cond.selects "IssueRowsModel" ({ cls := "IssueRowsModel", name := "claim", desc := "(I)I" } : MethodName) ({ cls := "IssueRowsModel", name := "claim", desc := "(I)I" } : MethodName)) ∈ WA := WA_t (List.mem_append_right _ (List.mem_append_right _ (List.mem_append_left _ (List.mem_of_getElem? (i := 180) rfl)))) rfl
theorem kC_M_claim : (Cond.code ({ cls := "IssueRowsModel", name := "claim", desc := "(I)I" } : MethodName) prog_9_method_12_code (3 : Nat) (Option.some FieldType.int)) ∈ WA := WA_t (List.mem_append_right _ (List.mem_append_right _ (List.mem_append_left _ (List.mem_of_getElem? (i := 181) rfl)))) rfl
theorem kM_M_125 : (Cond.methodLink "IssueRowsModel" (125 : Nat) ({ cls := "IssueRowsModel", name := "askFor", desc := "(II)V" } : MethodName)) ∈ WA := WA_t (List.mem_append_right _ (List.mem_append_right _ (List.mem_append_left _ (List.mem_of_getElem? (i := 182) rfl)))) rfl
theorem kI_M_askFor : (Cond.instanceMethod ({ cls := "IssueRowsModel", name := "askFor", desc := "(II)V" } : MethodName)) ∈ WA := WA_t (List.mem_append_right _ (List.mem_append_right _ (List.mem_append_left _ (List.mem_of_getElem? (i := 184) rfl)))) rfl
theorem kC_M_askFor : (Cond.code ({ cls := "IssueRowsModel", name := "askFor", desc := "(II)V" } : MethodName) prog_9_method_11_code (5 : Nat) (Option.none : Option FieldType)) ∈ WA := WA_t (List.mem_append_right _ (List.mem_append_right _ (List.mem_append_left _ (List.mem_of_getElem? (i := 185) rfl)))) rfl
theorem kM_L_49 : (Cond.methodLink "IssueRowsLaw" (49 : Nat) ({ cls := "IssueRowsModel", name := "claimed", desc := "(II)I" } : MethodName)) ∈ WA := WA_t (List.mem_append_right _ (List.mem_append_right _ (List.mem_append_left _ (List.mem_of_getElem? (i := 186) rfl)))) rfl
theorem kI_M_claimed : (Cond.instanceMethod ({ cls := "IssueRowsModel", name := "claimed", desc := "(II)I" } : MethodName)) ∈ WA := WA_t (List.mem_append_right _ (List.mem_append_right _ (List.mem_append_left _ (List.mem_of_getElem? (i := 187) rfl)))) rfl
theorem kV_M_claimed : (Cond.selects "IssueRowsModel" ({ cls := "IssueRowsModel", name := "claimed", desc := "(II)I" } : MethodName) ({ cls := "IssueRowsModel", name := "claimed", desc := "(II)I" } : MethodName)) ∈ WA := WA_t (List.mem_append_right _ (List.mem_append_right _ (List.mem_append_left _ (List.mem_of_getElem? (i := 188) rfl)))) rfl
theorem kC_M_claimed : (Cond.code ({ cls := "IssueRowsModel", name := "claimed", desc := "(II)I" } : MethodName) prog_9_method_13_code (3 : Nat) (Option.some FieldType.int)) ∈ WA := WA_t (List.mem_append_right _ (List.mem_append_right _ (List.mem_append_left _ (List.mem_of_getElem? (i := 189) rfl)))) rfl
theorem kM_L_57 : (Cond.methodLink "IssueRowsLaw" (57 : Nat) ({ cls := "IssueRowsModel", name := "list", desc := "(III)I" } : MethodName)) ∈ WA := WA_t (List.mem_append_right _ (List.mem_append_right _ (List.mem_append_left _ (List.mem_of_getElem? (i := 190) rfl)))) rfl
theorem kI_M_list : (Cond.instanceMethod ({ cls := "IssueRowsModel", name := "list", desc := "(III)I" } : MethodName)) ∈ WA := WA_t (List.mem_append_right _ (List.mem_append_right _ (List.mem_append_left _ (List.mem_of_getElem? (i := 191) rfl)))) rfl
theorem kV_M_list : (Cond.selects "IssueRowsModel" ({ cls := "IssueRowsModel", name := "list", desc := "(III)I" } : MethodName) ({ cls := "IssueRowsModel", name := "list", desc := "(III)I" } : MethodName)) ∈ WA := WA_t (List.mem_append_right _ (List.mem_append_right _ (List.mem_append_left _ (List.mem_of_getElem? (i := 192) rfl)))) rfl
theorem kC_M_list : (Cond.code ({ cls := "IssueRowsModel", name := "list", desc := "(III)I" } : MethodName) prog_9_method_15_code (4 : Nat) (Option.some FieldType.int)) ∈ WA := WA_t (List.mem_append_right _ (List.mem_append_right _ (List.mem_append_left _ (List.mem_of_getElem? (i := 193) rfl)))) rfl
theorem kM_L_61 : (Cond.methodLink "IssueRowsLaw" (61 : Nat) ({ cls := "IssueRowsModel", name := "route", desc := "(II)I" } : MethodName)) ∈ WA := WA_t (List.mem_append_right _ (List.mem_append_right _ (List.mem_append_left _ (List.mem_of_getElem? (i := 194) rfl)))) rfl
theorem kI_M_route : (Cond.instanceMethod ({ cls := "IssueRowsModel", name := "route", desc := "(II)I" } : MethodName)) ∈ WA := WA_t (List.mem_append_right _ (List.mem_append_right _ (List.mem_append_left _ (List.mem_of_getElem? (i := 195) rfl)))) rfl
theorem kV_M_route : (Cond.selects "IssueRowsModel" ({ cls := "IssueRowsModel", name := "route", desc := "(II)I" } : MethodName) ({ cls := "IssueRowsModel", name := "route", desc := "(II)I" } : MethodName)) ∈ WA := WA_t (List.mem_append_right _ (List.mem_append_right _ (List.mem_append_left _ (List.mem_of_getElem? (i := 196) rfl)))) rfl
theorem kC_M_route : (Cond.code ({ cls := "IssueRowsModel", name := "route", desc := "(II)I" } : MethodName) prog_9_method_16_code (3 : Nat) (Option.some FieldType.int)) ∈ WA := WA_t (List.mem_append_right _ (List.mem_append_right _ (List.mem_append_left _ (List.mem_of_getElem? (i := 197) rfl)))) rfl
theorem kM_L_65 : (Cond.methodLink "IssueRowsLaw" (65 : Nat) ({ cls := "IssueRowsModel", name := "returned", desc := "(II)I" } : MethodName)) ∈ WA := WA_t (List.mem_append_right _ (List.mem_append_right _ (List.mem_append_left _ (List.mem_of_getElem? (i := 198) rfl)))) rfl
theorem kI_M_returned : (Cond.instanceMethod ({ cls := "IssueRowsModel", name := "returned", desc := "(II)I" } : MethodName)) ∈ WA := WA_t (List.mem_append_right _ (List.mem_append_right _ (List.mem_append_left _ (List.mem_of_getElem? (i := 199) rfl)))) rfl
theorem kV_M_returned : (Cond.selects "IssueRowsModel" ({ cls := "IssueRowsModel", name := "returned", desc := "(II)I" } : MethodName) ({ cls := "IssueRowsModel", name := "returned", desc := "(II)I" } : MethodName)) ∈ WA := WA_t (List.mem_append_right _ (List.mem_append_right _ (List.mem_append_left _ (List.mem_of_getElem? (i := 200) rfl)))) rfl
theorem kC_M_returned : (Cond.code ({ cls := "IssueRowsModel", name := "returned", desc := "(II)I" } : MethodName) prog_9_method_17_code (4 : Nat) (Option.some FieldType.int)) ∈ WA := WA_t (List.mem_append_right _ (List.mem_append_right _ (List.mem_append_left _ (List.mem_of_getElem? (i := 201) rfl)))) rfl
theorem kM_M_128 : (Cond.methodLink "IssueRowsModel" (128 : Nat) ({ cls := "IssueRowsModel", name := "isHeld", desc := "(I)Z" } : MethodName)) ∈ WA := WA_t (List.mem_append_right _ (List.mem_append_right _ (List.mem_append_left _ (List.mem_of_getElem? (i := 202) rfl)))) rfl
theorem kI_M_isHeld : (Cond.instanceMethod ({ cls := "IssueRowsModel", name := "isHeld", desc := "(I)Z" } : MethodName)) ∈ WA := WA_t (List.mem_append_right _ (List.mem_append_right _ (List.mem_append_left _ (List.mem_of_getElem? (i := 204) rfl)))) rfl
theorem kC_M_isHeld : (Cond.code ({ cls := "IssueRowsModel", name := "isHeld", desc := "(I)Z" } : MethodName) prog_9_method_14_code (2 : Nat) (Option.some FieldType.boolean)) ∈ WA := WA_t (List.mem_append_right _ (List.mem_append_right _ (List.mem_append_left _ (List.mem_of_getElem? (i := 205) rfl)))) rfl
theorem kM_L_69 : (Cond.methodLink "IssueRowsLaw" (69 : Nat) ({ cls := "IssueRowsModel", name := "replace", desc := "(II)I" } : MethodName)) ∈ WA := WA_t (List.mem_append_right _ (List.mem_append_right _ (List.mem_append_left _ (List.mem_of_getElem? (i := 206) rfl)))) rfl
theorem kI_M_replace : (Cond.instanceMethod ({ cls := "IssueRowsModel", name := "replace", desc := "(II)I" } : MethodName)) ∈ WA := WA_t (List.mem_append_right _ (List.mem_append_right _ (List.mem_append_left _ (List.mem_of_getElem? (i := 207) rfl)))) rfl
theorem kV_M_replace : (Cond.selects "IssueRowsModel" ({ cls := "IssueRowsModel", name := "replace", desc := "(II)I" } : MethodName) ({ cls := "IssueRowsModel", name := "replace", desc := "(II)I" } : MethodName)) ∈ WA := WA_t (List.mem_append_right _ (List.mem_append_right _ (List.mem_append_left _ (List.mem_of_getElem? (i := 208) rfl)))) rfl
theorem kC_M_replace : (Cond.code ({ cls := "IssueRowsModel", name := "replace", desc := "(II)I" } : MethodName) prog_9_method_18_code (4 : Nat) (Option.some FieldType.int)) ∈ WA := WA_t (List.mem_append_right _ (List.mem_append_right _ (List.mem_append_left _ (List.mem_of_getElem? (i := 209) rfl)))) rfl
theorem kM_L_73 : (Cond.methodLink "IssueRowsLaw" (73 : Nat) ({ cls := "IssueRowsModel", name := "bind", desc := "(II)I" } : MethodName)) ∈ WA := WA_t (List.mem_append_right _ (List.mem_append_right _ (List.mem_append_left _ (List.mem_of_getElem? (i := 210) rfl)))) rfl
theorem kI_M_bind : (Cond.instanceMethod ({ cls := "IssueRowsModel", name := "bind", desc := "(II)I" } : MethodName)) ∈ WA := WA_t (List.mem_append_right _ (List.mem_append_right _ (List.mem_append_left _ (List.mem_of_getElem? (i := 211) rfl)))) rfl
theorem kV_M_bind : (Cond.selects "IssueRowsModel" ({ cls := "IssueRowsModel", name := "bind", desc := "(II)I" } : MethodName) ({ cls := "IssueRowsModel", name := "bind", desc := "(II)I" } : MethodName)) ∈ WA := WA_t (List.mem_append_right _ (List.mem_append_right _ (List.mem_append_left _ (List.mem_of_getElem? (i := 212) rfl)))) rfl
theorem kC_M_bind : (Cond.code ({ cls := "IssueRowsModel", name := "bind", desc := "(II)I" } : MethodName) prog_9_method_20_code (6 : Nat) (Option.some FieldType.int)) ∈ WA := WA_t (List.mem_append_right _ (List.mem_append_right _ (List.mem_append_left _ (List.mem_of_getElem? (i := 213) rfl)))) rfl
theorem kM_M_131 : (Cond.methodLink "IssueRowsModel" (131 : Nat) ({ cls := "IssueRowsModel", name := "nextHere", desc := "(II)I" } : MethodName)) ∈ WA := WA_t (List.mem_append_right _ (List.mem_append_right _ (List.mem_append_left _ (List.mem_of_getElem? (i := 214) rfl)))) rfl
theorem kI_M_nextHere : (Cond.instanceMethod ({ cls := "IssueRowsModel", name := "nextHere", desc := "(II)I" } : MethodName)) ∈ WA := WA_t (List.mem_append_right _ (List.mem_append_right _ (List.mem_append_left _ (List.mem_of_getElem? (i := 216) rfl)))) rfl
theorem kC_M_nextHere : (Cond.code ({ cls := "IssueRowsModel", name := "nextHere", desc := "(II)I" } : MethodName) prog_9_method_19_code (5 : Nat) (Option.some FieldType.int)) ∈ WA := WA_t (List.mem_append_right _ (List.mem_append_right _ (List.mem_append_left _ (List.mem_of_getElem? (i := 217) rfl)))) rfl
theorem kM_L_76 : (Cond.methodLink "IssueRowsLaw" (76 : Nat) ({ cls := "IssueRowsModel", name := "volume", desc := "(II)I" } : MethodName)) ∈ WA := WA_t (List.mem_append_right _ (List.mem_append_right _ (List.mem_append_left _ (List.mem_of_getElem? (i := 218) rfl)))) rfl
theorem kI_M_volume : (Cond.instanceMethod ({ cls := "IssueRowsModel", name := "volume", desc := "(II)I" } : MethodName)) ∈ WA := WA_t (List.mem_append_right _ (List.mem_append_right _ (List.mem_append_left _ (List.mem_of_getElem? (i := 219) rfl)))) rfl
theorem kV_M_volume : (Cond.selects "IssueRowsModel" ({ cls := "IssueRowsModel", name := "volume", desc := "(II)I" } : MethodName) ({ cls := "IssueRowsModel", name := "volume", desc := "(II)I" } : MethodName)) ∈ WA := WA_t (List.mem_append_right _ (List.mem_append_right _ (List.mem_append_left _ (List.mem_of_getElem? (i := 220) rfl)))) rfl
theorem kC_M_volume : (Cond.code ({ cls := "IssueRowsModel", name := "volume", desc := "(II)I" } : MethodName) prog_9_method_21_code (8 : Nat) (Option.some FieldType.int)) ∈ WA := WA_t (List.mem_append_right _ (List.mem_append_right _ (List.mem_append_left _ (List.mem_of_getElem? (i := 221) rfl)))) rfl
theorem kM_L_80 : (Cond.methodLink "IssueRowsLaw" (80 : Nat) ({ cls := "IssueRowsModel", name := "statement", desc := "(I)I" } : MethodName)) ∈ WA := WA_t (List.mem_append_right _ (List.mem_append_right _ (List.mem_append_left _ (List.mem_of_getElem? (i := 222) rfl)))) rfl
theorem kI_M_statement : (Cond.instanceMethod ({ cls := "IssueRowsModel", name := "statement", desc := "(I)I" } : MethodName)) ∈ WA := WA_t (List.mem_append_right _ (List.mem_append_right _ (List.mem_append_left _ (List.mem_of_getElem? (i := 223) rfl)))) rfl
theorem kV_M_statement : (Cond.selects "IssueRowsModel" ({ cls := "IssueRowsModel", name := "statement", desc := "(I)I" } : MethodName) ({ cls := "IssueRowsModel", name := "statement", desc := "(I)I" } : MethodName)) ∈ WA := WA_t (List.mem_append_right _ (List.mem_append_right _ (List.mem_append_left _ (List.mem_of_getElem? (i := 224) rfl)))) rfl
theorem kC_M_statement : (Cond.code ({ cls := "IssueRowsModel", name := "statement", desc := "(I)I" } : MethodName) prog_9_method_24_code (4 : Nat) (Option.some FieldType.int)) ∈ WA := WA_t (List.mem_append_right _ (List.mem_append_right _ (List.mem_append_left _ (List.mem_of_getElem? (i := 225) rfl)))) rfl
theorem kM_M_141 : (Cond.methodLink "IssueRowsModel" (141 : Nat) ({ cls := "IssueRowsModel", name := "next", desc := "(II)I" } : MethodName)) ∈ WA := WA_t (List.mem_append_right _ (List.mem_append_right _ (List.mem_append_left _ (List.mem_of_getElem? (i := 226) rfl)))) rfl
theorem kI_M_next : (Cond.instanceMethod ({ cls := "IssueRowsModel", name := "next", desc := "(II)I" } : MethodName)) ∈ WA := WA_t (List.mem_append_right _ (List.mem_append_right _ (List.mem_append_left _ (List.mem_of_getElem? (i := 228) rfl)))) rfl
theorem kC_M_next : (Cond.code ({ cls := "IssueRowsModel", name := "next", desc := "(II)I" } : MethodName) prog_9_method_23_code (5 : Nat) (Option.some FieldType.int)) ∈ WA := WA_t (List.mem_append_right _ (List.mem_append_right _ (List.mem_append_left _ (List.mem_of_getElem? (i := 229) rfl)))) rfl
theorem kM_M_144 : (Cond.methodLink "IssueRowsModel" (144 : Nat) ({ cls := "IssueRowsModel", name := "stands", desc := "(I)Z" } : MethodName)) ∈ WA := WA_t (List.mem_append_right _ (List.mem_append_right _ (List.mem_append_left _ (List.mem_of_getElem? (i := 230) rfl)))) rfl
theorem kI_M_stands : (Cond.instanceMethod ({ cls := "IssueRowsModel", name := "stands", desc := "(I)Z" } : MethodName)) ∈ WA := WA_t (List.mem_append_right _ (List.mem_append_right _ (List.mem_append_left _ (List.mem_of_getElem? (i := 232) rfl)))) rfl
theorem kC_M_stands : (Cond.code ({ cls := "IssueRowsModel", name := "stands", desc := "(I)Z" } : MethodName) prog_9_method_22_code (2 : Nat) (Option.some FieldType.boolean)) ∈ WA := WA_t (List.mem_append_right _ (List.mem_append_right _ (List.mem_append_left _ (List.mem_of_getElem? (i := 233) rfl)))) rfl
theorem kM_L_83 : (Cond.methodLink "IssueRowsLaw" (83 : Nat) ({ cls := "IssueRowsModel", name := "row", desc := "(II)I" } : MethodName)) ∈ WA := WA_t (List.mem_append_right _ (List.mem_append_right _ (List.mem_append_left _ (List.mem_of_getElem? (i := 234) rfl)))) rfl
theorem kI_M_row : (Cond.instanceMethod ({ cls := "IssueRowsModel", name := "row", desc := "(II)I" } : MethodName)) ∈ WA := WA_t (List.mem_append_right _ (List.mem_append_right _ (List.mem_append_left _ (List.mem_of_getElem? (i := 235) rfl)))) rfl
theorem kV_M_row : (Cond.selects "IssueRowsModel" ({ cls := "IssueRowsModel", name := "row", desc := "(II)I" } : MethodName) ({ cls := "IssueRowsModel", name := "row", desc := "(II)I" } : MethodName)) ∈ WA := WA_t (List.mem_append_right _ (List.mem_append_right _ (List.mem_append_left _ (List.mem_of_getElem? (i := 236) rfl)))) rfl
theorem kC_M_row : (Cond.code ({ cls := "IssueRowsModel", name := "row", desc := "(II)I" } : MethodName) prog_9_method_25_code (3 : Nat) (Option.some FieldType.int)) ∈ WA := WA_t (List.mem_append_right _ (List.mem_append_right _ (List.mem_append_left _ (List.mem_of_getElem? (i := 237) rfl)))) rfl
theorem kM_L_87 : (Cond.methodLink "IssueRowsLaw" (87 : Nat) ({ cls := "IssueRowsModel", name := "about", desc := "(II)I" } : MethodName)) ∈ WA := WA_t (List.mem_append_right _ (List.mem_append_right _ (List.mem_append_left _ (List.mem_of_getElem? (i := 238) rfl)))) rfl
theorem kI_M_about : (Cond.instanceMethod ({ cls := "IssueRowsModel", name := "about", desc := "(II)I" } : MethodName)) ∈ WA := WA_t (List.mem_append_right _ (List.mem_append_right _ (List.mem_append_left _ (List.mem_of_getElem? (i := 239) rfl)))) rfl
theorem kV_M_about : (Cond.selects "IssueRowsModel" ({ cls := "IssueRowsModel", name := "about", desc := "(II)I" } : MethodName) ({ cls := "IssueRowsModel", name := "about", desc := "(II)I" } : MethodName)) ∈ WA := WA_t (List.mem_append_right _ (List.mem_append_right _ (List.mem_append_right _ (List.mem_of_getElem? (i := 0) rfl)))) rfl
theorem kC_M_about : (Cond.code ({ cls := "IssueRowsModel", name := "about", desc := "(II)I" } : MethodName) prog_9_method_26_code (3 : Nat) (Option.some FieldType.int)) ∈ WA := WA_t (List.mem_append_right _ (List.mem_append_right _ (List.mem_append_right _ (List.mem_of_getElem? (i := 1) rfl)))) rfl
theorem kM_L_91 : (Cond.methodLink "IssueRowsLaw" (91 : Nat) ({ cls := "IssueRowsModel", name := "cost", desc := "(II)I" } : MethodName)) ∈ WA := WA_t (List.mem_append_right _ (List.mem_append_right _ (List.mem_append_right _ (List.mem_of_getElem? (i := 2) rfl)))) rfl
theorem kI_M_cost : (Cond.instanceMethod ({ cls := "IssueRowsModel", name := "cost", desc := "(II)I" } : MethodName)) ∈ WA := WA_t (List.mem_append_right _ (List.mem_append_right _ (List.mem_append_right _ (List.mem_of_getElem? (i := 3) rfl)))) rfl
theorem kV_M_cost : (Cond.selects "IssueRowsModel" ({ cls := "IssueRowsModel", name := "cost", desc := "(II)I" } : MethodName) ({ cls := "IssueRowsModel", name := "cost", desc := "(II)I" } : MethodName)) ∈ WA := WA_t (List.mem_append_right _ (List.mem_append_right _ (List.mem_append_right _ (List.mem_of_getElem? (i := 4) rfl)))) rfl
theorem kC_M_cost : (Cond.code ({ cls := "IssueRowsModel", name := "cost", desc := "(II)I" } : MethodName) prog_9_method_27_code (3 : Nat) (Option.some FieldType.int)) ∈ WA := WA_t (List.mem_append_right _ (List.mem_append_right _ (List.mem_append_right _ (List.mem_of_getElem? (i := 5) rfl)))) rfl
theorem kK_M_147 : (Cond.constant "IssueRowsModel" (147 : Nat) (10000000 : Int32)) ∈ WA := WA_t (List.mem_append_right _ (List.mem_append_right _ (List.mem_append_right _ (List.mem_of_getElem? (i := 6) rfl)))) rfl
theorem kK_M_148 : (Cond.constant "IssueRowsModel" (148 : Nat) (1000000000 : Int32)) ∈ WA := WA_t (List.mem_append_right _ (List.mem_append_right _ (List.mem_append_right _ (List.mem_of_getElem? (i := 7) rfl)))) rfl
theorem kM_L_95 : (Cond.methodLink "IssueRowsLaw" (95 : Nat) ({ cls := "IssueRowsModel", name := "told", desc := "(II)I" } : MethodName)) ∈ WA := WA_t (List.mem_append_right _ (List.mem_append_right _ (List.mem_append_right _ (List.mem_of_getElem? (i := 8) rfl)))) rfl
theorem kI_M_told : (Cond.instanceMethod ({ cls := "IssueRowsModel", name := "told", desc := "(II)I" } : MethodName)) ∈ WA := WA_t (List.mem_append_right _ (List.mem_append_right _ (List.mem_append_right _ (List.mem_of_getElem? (i := 9) rfl)))) rfl
theorem kV_M_told : (Cond.selects "IssueRowsModel" ({ cls := "IssueRowsModel", name := "told", desc := "(II)I" } : MethodName) ({ cls := "IssueRowsModel", name := "told", desc := "(II)I" } : MethodName)) ∈ WA := WA_t (List.mem_append_right _ (List.mem_append_right _ (List.mem_append_right _ (List.mem_of_getElem? (i := 10) rfl)))) rfl
theorem kC_M_told : (Cond.code ({ cls := "IssueRowsModel", name := "told", desc := "(II)I" } : MethodName) prog_9_method_28_code (3 : Nat) (Option.some FieldType.int)) ∈ WA := WA_t (List.mem_append_right _ (List.mem_append_right _ (List.mem_append_right _ (List.mem_of_getElem? (i := 11) rfl)))) rfl
theorem kM_L_99 : (Cond.methodLink "IssueRowsLaw" (99 : Nat) ({ cls := "IssueRowsModel", name := "lateness", desc := "(I)I" } : MethodName)) ∈ WA := WA_t (List.mem_append_right _ (List.mem_append_right _ (List.mem_append_right _ (List.mem_of_getElem? (i := 12) rfl)))) rfl
theorem kI_M_lateness : (Cond.instanceMethod ({ cls := "IssueRowsModel", name := "lateness", desc := "(I)I" } : MethodName)) ∈ WA := WA_t (List.mem_append_right _ (List.mem_append_right _ (List.mem_append_right _ (List.mem_of_getElem? (i := 13) rfl)))) rfl
theorem kV_M_lateness : (Cond.selects "IssueRowsModel" ({ cls := "IssueRowsModel", name := "lateness", desc := "(I)I" } : MethodName) ({ cls := "IssueRowsModel", name := "lateness", desc := "(I)I" } : MethodName)) ∈ WA := WA_t (List.mem_append_right _ (List.mem_append_right _ (List.mem_append_right _ (List.mem_of_getElem? (i := 14) rfl)))) rfl
theorem kC_M_lateness : (Cond.code ({ cls := "IssueRowsModel", name := "lateness", desc := "(I)I" } : MethodName) prog_9_method_29_code (4 : Nat) (Option.some FieldType.int)) ∈ WA := WA_t (List.mem_append_right _ (List.mem_append_right _ (List.mem_append_right _ (List.mem_of_getElem? (i := 15) rfl)))) rfl
theorem kR_long : (Cond.arrayClass FieldType.long) ∈ WA := WA_t (List.mem_append_right _ (List.mem_append_right _ (List.mem_append_right _ (List.mem_of_getElem? (i := 16) rfl)))) rfl
abbrev nestQ : List (String × Nat × MethodName × String) := [("IssueRows", 42, y_V_init, "IssueRows"), ("IssueRows", 49, y_S_init, "IssueRows"), ("IssueRows", 54, y_U_init, "IssueRows"), ("IssueRows$Issue", 11, y_G_init, "IssueRows"), ("IssueRows$Volumes", 26, y_X_within, "IssueRows"), ("IssueRows$Pairs", 28, y_X_within, "IssueRows"), ("IssueRows$Statement", 25, y_X_within, "IssueRows")]
def NN (U : State) : Prop := (∀ q ∈ nestQ, va_Nw (.methodLinkNest q.1 q.2.1 q.2.2.1 q.2.2.2) U) ∧ va_AO "IssueRows$Rule" U ∧ va_AO "IssueRows$Issue" U
theorem NN.warm {s U : State} (hW : s.WarmedH U.vm) (h : NN s) : NN U := ⟨fun q hq => va_Nw.warmM hW (h.1 q hq), h.2.1.moved hW.alike, h.2.2.moved hW.alike⟩
theorem NN.same {u U : State} (hv : u.vm = U.vm) (h : NN u) : NN U := ⟨fun q hq => va_Nw.same rfl hv (h.1 q hq), h.2.1.moved (by rw [hv]; exact Vm.Alike.refl _), h.2.2.moved (by rw [hv]; exact Vm.Alike.refl _)⟩
theorem kN_X_42 {U : State} (h : NN U) : va_Nw (.methodLinkNest "IssueRows" 42 y_V_init "IssueRows") U := h.1 (_, _, _, _) (List.mem_of_getElem? (i := 0) rfl)
theorem kN_X_49 {U : State} (h : NN U) : va_Nw (.methodLinkNest "IssueRows" 49 y_S_init "IssueRows") U := h.1 (_, _, _, _) (List.mem_of_getElem? (i := 1) rfl)
theorem kN_X_54 {U : State} (h : NN U) : va_Nw (.methodLinkNest "IssueRows" 54 y_U_init "IssueRows") U := h.1 (_, _, _, _) (List.mem_of_getElem? (i := 2) rfl)
theorem kN_I_11 {U : State} (h : NN U) : va_Nw (.methodLinkNest "IssueRows$Issue" 11 y_G_init "IssueRows") U := h.1 (_, _, _, _) (List.mem_of_getElem? (i := 3) rfl)
theorem kN_V_26 {U : State} (h : NN U) : va_Nw (.methodLinkNest "IssueRows$Volumes" 26 y_X_within "IssueRows") U := h.1 (_, _, _, _) (List.mem_of_getElem? (i := 4) rfl)
theorem kN_P_28 {U : State} (h : NN U) : va_Nw (.methodLinkNest "IssueRows$Pairs" 28 y_X_within "IssueRows") U := h.1 (_, _, _, _) (List.mem_of_getElem? (i := 5) rfl)
theorem kN_S_25 {U : State} (h : NN U) : va_Nw (.methodLinkNest "IssueRows$Statement" 25 y_X_within "IssueRows") U := h.1 (_, _, _, _) (List.mem_of_getElem? (i := 6) rfl)
theorem NN_of {A : Array Value} {s : State} (h : ∀ w ∈ lw_tbl, w.before A s = true) : NN s := by
  have g : ∀ q ∈ nestQ, Cond.methodLinkNest q.1 q.2.1 q.2.2.1 q.2.2.2 ∈ tables_1 := by
    intro q hq
    simp only [nestQ, List.mem_cons, List.not_mem_nil, or_false] at hq
    rcases hq with rfl | rfl | rfl | rfl | rfl | rfl | rfl
    · exact (List.mem_append_left _ (List.mem_of_getElem? (i := 49) rfl))
    · exact (List.mem_append_left _ (List.mem_of_getElem? (i := 65) rfl))
    · exact (List.mem_append_left _ (List.mem_of_getElem? (i := 84) rfl))
    · exact (List.mem_append_left _ (List.mem_of_getElem? (i := 155) rfl))
    · exact (List.mem_append_right _ (List.mem_append_left _ (List.mem_of_getElem? (i := 113) rfl)))
    · exact (List.mem_append_right _ (List.mem_append_left _ (List.mem_of_getElem? (i := 153) rfl)))
    · exact (List.mem_append_right _ (List.mem_append_right _ (List.mem_append_left _ (List.mem_of_getElem? (i := 29) rfl))))
  exact ⟨fun q hq => va_Nw.of rfl (h _ (List.mem_append_right _ (g q hq))), va_AO.of (h _ (List.mem_append_right _ (List.mem_append_left _ (List.mem_of_getElem? (i := 23) rfl)))), va_AO.of (h _ (List.mem_append_right _ (List.mem_append_left _ (List.mem_of_getElem? (i := 25) rfl))))⟩
theorem kV_X_hasOrdinal : (Cond.selects "IssueRows" y_X_hasOrdinal y_X_hasOrdinal) ∈ WA := WA_p (List.mem_of_getElem? (i := 0) rfl) rfl
theorem kV_X_keep : (Cond.selects "IssueRows" y_X_keep y_X_keep) ∈ WA := WA_p (List.mem_of_getElem? (i := 1) rfl) rfl
theorem kV_X_find : (Cond.selects "IssueRows" y_X_find y_X_find) ∈ WA := WA_p (List.mem_of_getElem? (i := 2) rfl) rfl
theorem kV_X_claimIfDue : (Cond.selects "IssueRows" y_X_claimIfDue y_X_claimIfDue) ∈ WA := WA_p (List.mem_of_getElem? (i := 3) rfl) rfl
theorem kV_X_isBindable : (Cond.selects "IssueRows" y_X_isBindable y_X_isBindable) ∈ WA := WA_p (List.mem_of_getElem? (i := 4) rfl) rfl
theorem kV_X_bindNext : (Cond.selects "IssueRows" y_X_bindNext y_X_bindNext) ∈ WA := WA_p (List.mem_of_getElem? (i := 5) rfl) rfl
theorem kV_M_lay : (Cond.selects "IssueRowsModel" y_M_lay y_M_lay) ∈ WA := WA_p (List.mem_of_getElem? (i := 7) rfl) rfl
theorem kV_M_isIssue : (Cond.selects "IssueRowsModel" y_M_isIssue y_M_isIssue) ∈ WA := WA_p (List.mem_of_getElem? (i := 8) rfl) rfl
theorem kV_M_tell : (Cond.selects "IssueRowsModel" y_M_tell y_M_tell) ∈ WA := WA_p (List.mem_of_getElem? (i := 9) rfl) rfl
theorem kV_M_askFor : (Cond.selects "IssueRowsModel" y_M_askFor y_M_askFor) ∈ WA := WA_p (List.mem_of_getElem? (i := 10) rfl) rfl
theorem kV_M_isHeld : (Cond.selects "IssueRowsModel" y_M_isHeld y_M_isHeld) ∈ WA := WA_p (List.mem_of_getElem? (i := 11) rfl) rfl
theorem kV_M_nextHere : (Cond.selects "IssueRowsModel" y_M_nextHere y_M_nextHere) ∈ WA := WA_p (List.mem_of_getElem? (i := 12) rfl) rfl
theorem kV_M_next : (Cond.selects "IssueRowsModel" y_M_next y_M_next) ∈ WA := WA_p (List.mem_of_getElem? (i := 13) rfl) rfl
theorem kV_M_stands : (Cond.selects "IssueRowsModel" y_M_stands y_M_stands) ∈ WA := WA_p (List.mem_of_getElem? (i := 14) rfl) rfl
theorem i_X : ∀ w ∈ u_ws R_X F_X 8, w ∈ WA := by
  intro w h
  obtain ⟨j, hj, rfl⟩ := List.mem_map.mp h
  have hj := List.mem_range.mp hj
  match j, hj with
  | 0, _ => exact kY_X_rules
  | 1, _ => exact kY_X_issues
  | 2, _ => exact kY_X_byOrdinal
  | 3, _ => exact kY_X_issueCount
  | 4, _ => exact kY_X_round
  | 5, _ => exact kY_X_notes
  | 6, _ => exact kY_X_volumes
  | 7, _ => exact kY_X_latest
theorem i_U : ∀ w ∈ u_ws R_U F_U 3, w ∈ WA := by
  intro w h
  obtain ⟨j, hj, rfl⟩ := List.mem_map.mp h
  have hj := List.mem_range.mp hj
  match j, hj with
  | 0, _ => exact kY_U_first
  | 1, _ => exact kY_U_again
  | 2, _ => exact kY_U_most
theorem i_I : ∀ w ∈ u_ws R_I F_I 14, w ∈ WA := by
  intro w h
  obtain ⟨j, hj, rfl⟩ := List.mem_map.mp h
  have hj := List.mem_range.mp hj
  match j, hj with
  | 0, _ => exact kY_I_number
  | 1, _ => exact kY_I_pattern
  | 2, _ => exact kY_I_ordinal
  | 3, _ => exact kY_I_expected
  | 4, _ => exact kY_I_replacement
  | 5, _ => exact kY_I_routing
  | 6, _ => exact kY_I_state
  | 7, _ => exact kY_I_claims
  | 8, _ => exact kY_I_claimedOn
  | 9, _ => exact kY_I_copies
  | 10, _ => exact kY_I_came
  | 11, _ => exact kY_I_volume
  | 12, _ => exact kY_I_replacedBy
  | 13, _ => exact kY_I_cents
theorem i_G : ∀ w ∈ u_ws R_G F_G 5, w ∈ WA := by
  intro w h
  obtain ⟨j, hj, rfl⟩ := List.mem_map.mp h
  have hj := List.mem_range.mp hj
  match j, hj with
  | 0, _ => exact kY_G_persons
  | 1, _ => exact kY_G_days
  | 2, _ => exact kY_G_size
  | 3, _ => exact kY_G_place
  | 4, _ => exact kY_G_since
theorem i_P : ∀ w ∈ u_ws R_P F_P 3, w ∈ WA := by
  intro w h
  obtain ⟨j, hj, rfl⟩ := List.mem_map.mp h
  have hj := List.mem_range.mp hj
  match j, hj with
  | 0, _ => exact kY_P_firsts
  | 1, _ => exact kY_P_seconds
  | 2, _ => exact kY_P_size
theorem i_V : ∀ w ∈ u_ws R_V F_V 3, w ∈ WA := by
  intro w h
  obtain ⟨j, hj, rfl⟩ := List.mem_map.mp h
  have hj := List.mem_range.mp hj
  match j, hj with
  | 0, _ => exact kY_V_members
  | 1, _ => exact kY_V_ends
  | 2, _ => exact kY_V_count
theorem i_S : ∀ w ∈ u_ws R_S F_S 4, w ∈ WA := by
  intro w h
  obtain ⟨j, hj, rfl⟩ := List.mem_map.mp h
  have hj := List.mem_range.mp hj
  match j, hj with
  | 0, _ => exact kY_S_firsts
  | 1, _ => exact kY_S_lasts
  | 2, _ => exact kY_S_counts
  | 3, _ => exact kY_S_size
theorem i_M : ∀ w ∈ u_ws R_M F_M 33, w ∈ WA := by
  intro w h
  obtain ⟨j, hj, rfl⟩ := List.mem_map.mp h
  have hj := List.mem_range.mp hj
  match j, hj with
  | 0, _ => exact kY_M_thrown
  | 1, _ => exact kY_M_first
  | 2, _ => exact kY_M_again
  | 3, _ => exact kY_M_most
  | 4, _ => exact kY_M_issues
  | 5, _ => exact kY_M_pattern
  | 6, _ => exact kY_M_ordinal
  | 7, _ => exact kY_M_state
  | 8, _ => exact kY_M_expected
  | 9, _ => exact kY_M_claims
  | 10, _ => exact kY_M_claimDay
  | 11, _ => exact kY_M_copies
  | 12, _ => exact kY_M_came
  | 13, _ => exact kY_M_volumeOf
  | 14, _ => exact kY_M_replacedBy
  | 15, _ => exact kY_M_cents
  | 16, _ => exact kY_M_replaces
  | 17, _ => exact kY_M_rowSize
  | 18, _ => exact kY_M_person
  | 19, _ => exact kY_M_personDays
  | 20, _ => exact kY_M_holder
  | 21, _ => exact kY_M_holderFrom
  | 22, _ => exact kY_M_round
  | 23, _ => exact kY_M_roundIssue
  | 24, _ => exact kY_M_roundClaims
  | 25, _ => exact kY_M_volumes
  | 26, _ => exact kY_M_rows
  | 27, _ => exact kY_M_rowFirst
  | 28, _ => exact kY_M_rowLast
  | 29, _ => exact kY_M_rowMany
  | 30, _ => exact kY_M_notes
  | 31, _ => exact kY_M_note
  | 32, _ => exact kY_M_noteIssue
  | j + 33, h => exact absurd h (by omega)
end
section
/-! MY WORLDS: N cells in a row, cell k at the address bk k, holding cw k. A write is a change of cw at a number, a new cell is the number N. -/
def wl (N : Nat) (bk : Nat → Nat) (cw : Nat → va_E) : va_W := (List.range N).map (fun k => (bk k, cw k))
theorem wl_len {N : Nat} {bk : Nat → Nat} {cw : Nat → va_E} : (wl N bk cw).length = N := by simp [wl]
theorem wl_get {N : Nat} {bk : Nat → Nat} {cw : Nat → va_E} {k : Nat} (hk : k < N) : (wl N bk cw)[k]? = some (bk k, cw k) := by
  simp [wl, hk]
theorem wl_at {N : Nat} {bk : Nat → Nat} {cw : Nat → va_E} {k : Nat} {e : va_E} (hk : k < N) (he : cw k = e) : (wl N bk cw)[k]? = some (bk k, e) := by
  subst he; exact wl_get hk
theorem wl_none {N : Nat} {bk : Nat → Nat} {cw : Nat → va_E} {k : Nat} (hk : ¬ k < N) : (wl N bk cw)[k]? = none := by
  rw [List.getElem?_eq_none_iff, wl_len]; omega
theorem wl_of {N : Nat} {bk : Nat → Nat} {cw : Nat → va_E} {k : Nat} {q : Nat × va_E} (h : (wl N bk cw)[k]? = some q) : k < N ∧ q = (bk k, cw k) := by
  by_cases hk : k < N
  · rw [wl_get hk] at h; exact ⟨hk, (Option.some.inj h).symm⟩
  · rw [wl_none hk] at h; cases h
theorem wl_set {N : Nat} {bk : Nat → Nat} {cw : Nat → va_E} {k : Nat} {e : va_E} : (wl N bk cw).set k (bk k, e) = wl N bk (va_up cw k e) := by
  apply List.ext_getElem?
  intro j
  by_cases hj : j < N
  · by_cases hjk : j = k
    · subst hjk
      rw [List.getElem?_set_self (by rw [wl_len]; exact hj), wl_get hj, va_up_self]
    · rw [List.getElem?_set_ne (Ne.symm hjk), wl_get hj, wl_get hj, va_up_ne _ _ hjk]
  · rw [wl_none hj, List.getElem?_eq_none_iff, List.length_set, wl_len]; omega
theorem wl_push {N : Nat} {bk : Nat → Nat} {cw : Nat → va_E} {q : Nat} {e : va_E} : wl N bk cw ++ [(q, e)] = wl (N + 1) (va_up bk N q) (va_up cw N e) := by
  apply List.ext_getElem?
  intro j
  by_cases hj : j < N
  · rw [List.getElem?_append_left (by rw [wl_len]; exact hj), wl_get hj, wl_get (by omega), va_up_ne _ _ (by omega), va_up_ne _ _ (by omega)]
  · rw [List.getElem?_append_right (by rw [wl_len]; omega), wl_len]
    by_cases hj2 : j = N
    · subst hj2
      rw [wl_get (by omega), va_up_self, va_up_self, Nat.sub_self]; rfl
    · rw [wl_none (by omega), List.getElem?_eq_none_iff]
      simp; omega
theorem wl_congr {N : Nat} {bk bk' : Nat → Nat} {cw cw' : Nat → va_E} (hb : ∀ k, k < N → bk k = bk' k) (hc : ∀ k, k < N → cw k = cw' k) : wl N bk cw = wl N bk' cw' := by
  apply List.ext_getElem?
  intro j
  by_cases hj : j < N
  · rw [wl_get hj, wl_get hj, hb j hj, hc j hj]
  · rw [wl_none hj, wl_none hj]
/-- the addresses of a world, and those that come from sz on -/
def AA (N : Nat) (bk : Nat → Nat) (sz : Nat) : Nat → Prop := fun q => (∃ k, k < N ∧ bk k = q) ∨ sz ≤ q
theorem AA_hi {N : Nat} {bk : Nat → Nat} {sz : Nat} : ∀ q : Nat, sz ≤ q → AA N bk sz q := fun _ h => Or.inr h
/-- what holds at a method's start -/
def PB (D : va_G) (cl : List vw_C) (tys : List (ClassId × FieldType)) (N : Nat) (bk : Nat → Nat) (cw : Nat → va_E) (sz : Nat) (U : State) : Prop :=
  U.heap.size = sz ∧ va_P D cl (wl N bk cw) U.heap ∧ va_K D cl tys U ∧ va_D (fun _ => True) (wl N bk cw) ∧ NN U
abbrev Wt : Type := Nat × (Nat → Nat) × (Nat → va_E)
/-- the world behind a method -/
def Wd (D : va_G) (cl : List vw_C) (tys : List (ClassId × FieldType)) (A : Nat → Prop) (u : Wt) (t : State) : Prop :=
  va_P D cl (wl u.1 u.2.1 u.2.2) t.heap ∧ va_K D cl tys t ∧ va_D A (wl u.1 u.2.1 u.2.2)
theorem wl_self {N : Nat} {bk : Nat → Nat} {cw : Nat → va_E} {A : Nat → Prop} {sz : Nat} (h : va_D A (wl N bk cw)) : va_D (AA N bk sz) (wl N bk cw) :=
  h.weaken (fun k q hk _ => by obtain ⟨h1, h2⟩ := wl_of hk; exact Or.inl ⟨k, h1, by rw [h2]⟩)
theorem wl_free {A0 : Nat → Prop} {N : Nat} {bk : Nat → Nat} {cw : Nat → va_E} {H0 H : Heap} {locs : List Loc} (hD : va_D A0 (wl N bk cw)) (hS : va_S A0 H0 H locs) (hA : ∀ q, H0.size ≤ q → A0 q) : ∀ q, AA N bk H.size q → A0 q := by
  intro q h
  rcases h with ⟨k, hk, rfl⟩ | h
  · exact hD.2 k _ (wl_get hk)
  · exact hA q (Nat.le_trans hS.1 h)
theorem PB_blind {D : va_G} {cl : List vw_C} {tys : List (ClassId × FieldType)} {N : Nat} {bk : Nat → Nat} {cw : Nat → va_E} {sz : Nat} {av : List Value} : FrameBlind (va_Pc av (PB D cl tys N bk cw sz)) := by
  intro a U g mk q
  obtain ⟨q0, q1, qP, qK, qD, qN⟩ := q
  exact ⟨q0, q1, qP, va_K.moved (u := U) (U := U.calling g mk a) (Vm.Alike.refl U.vm) qK, qD, NN.same (u := U) (U := U.calling g mk a) rfl qN⟩
theorem pw_preV {s : State} {H : Heap} {D : va_G} {cl : List vw_C} {tys : List (ClassId × FieldType)} {N : Nat} {bk : Nat → Nat} {cw : Nat → va_E} {A : Nat → Prop} {ci : Nat} {r : vw_C} {fs As : List Value} (hN : NN s) (hK : va_K D cl tys s) (hP : va_P D cl (wl N bk cw) H) (hD : va_D A (wl N bk cw)) (k : Nat) (hk : k < N) (hek : cw k = .inr (ci, fs)) (hc : cl[ci]? = some r) :
    PreV s H r.1 (bk k) (va_Pc (.ref (bk k) :: As) (PB D cl tys N bk cw H.size)) As :=
  ⟨PB_blind, va_recv hK hP hc (wl_at hk hek), fun U hU hW => ⟨rfl, by rw [hU], by rw [hU]; exact hP, va_K.moved hW.alike hK, hD.weaken (fun _ _ _ _ => trivial), hN.warm hW⟩⟩
theorem pw_preS {s : State} {H : Heap} {D : va_G} {cl : List vw_C} {tys : List (ClassId × FieldType)} {N : Nat} {bk : Nat → Nat} {cw : Nat → va_E} {A : Nat → Prop} {As : List Value} (hN : NN s) (hK : va_K D cl tys s) (hP : va_P D cl (wl N bk cw) H) (hD : va_D A (wl N bk cw)) :
    PreS s H (va_Pc As (PB D cl tys N bk cw H.size)) As :=
  ⟨PB_blind, fun U hU hW => ⟨rfl, by rw [hU], by rw [hU]; exact hP, va_K.moved hW.alike hK, hD.weaken (fun _ _ _ _ => trivial), hN.warm hW⟩⟩
/-- a method's start: names for what its body has -/
theorem pw_entry {l : Launch} {y : MethodName} {ws ws' : List Cond} {rm : Room} {Qc : Array Value → State → Outcome → State → Prop} {mc ms : Nat} {free : Addr → Prop} {cc : ByteArray} {maxL : Nat} {ret : Option FieldType} {D : va_G} {cl : List vw_C} {tys : List (ClassId × FieldType)} {N : Nat} {bk : Nat → Nat} {cw : Nat → va_E} {sz : Nat} {av : List Value}
    (hy : plainName y.cls = true) (hw : ws = Cond.code y cc maxL ret :: ws') (hn : (lg_sl av).length ≤ maxL)
    (body : ∀ (p : Program) (e : Env) (s : State) (m : MethodId) (below : List Frame) (meth : Method) (c : Code) (ls : Array Slot), p.tables.exec = Jvm.exec → c.code = cc → meth.sig.returnType = ret → c.maxLocals = maxL → (∀ w ∈ ws, w.before av.toArray s = true) → s.vm.findClass y.cls = some m.cls → meth.locks = false → meth.name = y.name → s.heap.size = sz →
      va_P D cl (wl N bk cw) s.heap → va_K D cl tys s → va_D (AA N bk sz) (wl N bk cw) → va_S (AA N bk sz) s.heap s.heap [] → (∀ q, s.heap.size ≤ q → AA N bk sz q) → NN s → lv_has ls maxL (lv_args 0 av) →
      W p l e rm s m av.toArray below meth c s.heap [] 0 0 (MQ below Qc av.toArray s mc ms free) (F0 m 0 ls [])) :
    Met l y ws rm (va_Pc av (PB D cl tys N bk cw sz)) Qc mc ms free := by
  refine Met.ofW (cc := cc) (maxL := maxL) (ret := ret) hy hw ?_
  intro p e s m args below meth c s₁ B hml hv
  obtain ⟨rfl, hsz, hP, hK, hD0, hN⟩ := hv
  have hl := lv_entry av (n := maxL) hn
  rw [lg_entry_eq]
  exact body p e s m below meth c _ B.exec B.bytes B.returns hml (atoms_spec (ws := ws) B.pre) (findClass_of_methodNamed B.named) B.notSynchronized (name_of_methodNamed B.named B.method).1 hsz hP hK (wl_self hD0) va_S.rf (fun q h => Or.inr (by rw [← hsz]; exact h)) hN hl
section PW
variable {p : Program} {l : Launch} {e : Env} {R : Room} {s : State} {m : MethodId} {args : Array Value} {below : List Frame} {meth : Method} {c : Code} {H : Heap} {locs : List Loc} {cells slots : Nat} {Q : State → Prop}
variable {pc : Nat} {ls : Array Slot} {rest st0 : List Value} {a : Array Value} {A0 : Nat → Prop} {H0 : Heap} {mc ms : Nat} {D : va_G} {cl : List vw_C} {tys : List (ClassId × FieldType)} {N : Nat} {bk : Nat → Nat}
theorem pw_calli {post : Int32 → Wt → Prop} (hr : va_Run p l e R s m args below meth c H locs cells slots mc ms (F0 m pc ls st0) rest (va_Qi post (Wd D cl tys (AA N bk H.size)) (AA N bk H.size) a) (AA N bk H.size)) (hS : va_S A0 H0 H locs) (hF : ∀ q, AA N bk H.size q → A0 q)
    (kk : ∀ (r : Int32) (N1 : Nat) (bk1 : Nat → Nat) (cw1 : Nat → va_E) (H1 : Heap) (locs1 : List Loc), post r (N1, bk1, cw1) → va_P D cl (wl N1 bk1 cw1) H1 → va_D A0 (wl N1 bk1 cw1) → va_S A0 H0 H1 locs1 → W p l e R s m args below meth c H1 locs1 (cells + mc) (slots + ms) Q (F0 m (pc + 3) ls (.int r :: rest))) : W p l e R s m args below meth c H locs cells slots Q (F0 m pc ls st0) := by
  refine va_calli hr hS (fun q _ h => hF q h) hF (fun r u t H1 locs1 ht hvm hw hB hz1 hk1 hS1 => ?_)
  obtain ⟨N1, bk1, cw1⟩ := u
  obtain ⟨hP1, hK1, hD1⟩ := hB
  exact kk r N1 bk1 cw1 H1 locs1 hw (by rw [← ht]; exact hP1) (hD1.weaken (fun _ q _ h => hF q.1 h)) hS1
theorem pw_callv {post : Wt → Prop} (hr : va_Run p l e R s m args below meth c H locs cells slots mc ms (F0 m pc ls st0) rest (va_Qv post (Wd D cl tys (AA N bk H.size)) (AA N bk H.size) a) (AA N bk H.size)) (hS : va_S A0 H0 H locs) (hF : ∀ q, AA N bk H.size q → A0 q)
    (kk : ∀ (N1 : Nat) (bk1 : Nat → Nat) (cw1 : Nat → va_E) (H1 : Heap) (locs1 : List Loc), post (N1, bk1, cw1) → va_P D cl (wl N1 bk1 cw1) H1 → va_D A0 (wl N1 bk1 cw1) → va_S A0 H0 H1 locs1 → W p l e R s m args below meth c H1 locs1 (cells + mc) (slots + ms) Q (F0 m (pc + 3) ls rest)) : W p l e R s m args below meth c H locs cells slots Q (F0 m pc ls st0) := by
  refine va_callv hr hS (fun q _ h => hF q h) hF (fun u t H1 locs1 ht hvm hw hB hz1 hk1 hS1 => ?_)
  obtain ⟨N1, bk1, cw1⟩ := u
  obtain ⟨hP1, hK1, hD1⟩ := hB
  exact kk N1 bk1 cw1 H1 locs1 hw (by rw [← ht]; exact hP1) (hD1.weaken (fun _ q _ h => hF q.1 h)) hS1
end PW
section PR
variable {p : Program} {l : Launch} {e : Env} {R : Room} {s : State} {m : MethodId} {args : Array Value} {below : List Frame} {meth : Method} {c : Code} {H : Heap} {locs : List Loc} {cells slots : Nat} {Q : State → Prop}
variable {cc : ByteArray} {pc : Nat} {ls : Array Slot} {rest : List Value} {D : va_G} {cl : List vw_C} {A : Nat → Prop} {tys : List (ClassId × FieldType)} {H0 : Heap} {N : Nat} {bk : Nat → Nat} {cw : Nat → va_E}
theorem pw_get (hexec : p.tables.exec = Jvm.exec) (hb : c.code = cc) {own C : String} {T : u_T} {NF ci index : Nat} {Ts : List Cond} (hts : ∀ w ∈ Ts, w.before args s = true) (hin : ∀ w ∈ u_ws C T NF, w ∈ Ts) (hown : s.vm.findClass own = some m.cls) (hK : va_K D cl tys s) (hP : va_P D cl (wl N bk cw) H) (k : Nat) (hk : k < N) {fs : List Value} (he : cw k = .inr (ci, fs)) (hc : cl[ci]? = some (C, T, NF)) (j : Nat) (hj : j < NF) (hlink : (Cond.fieldLink own index (T j).1 (T j).2.1 (T j).2.2.1).before args s = true) {v : Value} (hv : fs[j]? = some v) (hdg : decode cc pc = .ok (.getfield index, 3))
    (kk : W p l e R s m args below meth c H locs cells slots Q (F0 m (pc + 3) ls (v :: rest))) : W p l e R s m args below meth c H locs cells slots Q (F0 m pc ls (.ref (bk k) :: rest)) :=
  va_get hexec hb hts hin hown hK hP k (wl_at hk he) hc j hj hlink (fun _ h9 => h9) hv hdg kk
theorem pw_put (hexec : p.tables.exec = Jvm.exec) (hb : c.code = cc) {own C : String} {T : u_T} {NF ci index : Nat} {Ts : List Cond} (hts : ∀ w ∈ Ts, w.before args s = true) (hin : ∀ w ∈ u_ws C T NF, w ∈ Ts) (ty0 : Nat → FieldType) (hty : ∀ k, k < NF → parseFieldDescriptor (T k).2.2.1 = some (ty0 k)) (hnm : ∀ a, a < NF → ∀ b, b < NF → a ≠ b → (T a).2.1 ≠ (T b).2.1) (hown : s.vm.findClass own = some m.cls) (hK : va_K D cl tys s) (hP : va_P D cl (wl N bk cw) H) (hD : va_D A (wl N bk cw)) (hS0 : va_S A H0 H locs) (k : Nat) (hk : k < N) {fs fs' : List Value} (he : cw k = .inr (ci, fs)) (hc : cl[ci]? = some (C, T, NF)) (j : Nat) (hj : j < NF) (hlink : (Cond.fieldLink own index (T j).1 (T j).2.1 (T j).2.2.1).before args s = true) (hfin : (T j).2.2.2 = false) {ty : FieldType} {v : Value} (hd : parseFieldDescriptor (T j).2.2.1 = some ty) (hn : narrow ty v = v) (hfit : fits ty v = true) (hl : j < fs.length) (hfs : fs.set j v = fs') (hdg : decode cc pc = .ok (.putfield index, 3))
    (kk : ∀ (cw1 : Nat → va_E) (H1 : Heap) (locs1 : List Loc), cw1 = va_up cw k (.inr (ci, fs')) → va_P D cl (wl N bk cw1) H1 → va_D A (wl N bk cw1) → va_S A H0 H1 locs1 → W p l e R s m args below meth c H1 locs1 cells slots Q (F0 m (pc + 3) ls rest)) : W p l e R s m args below meth c H locs cells slots Q (F0 m pc ls (v :: .ref (bk k) :: rest)) :=
  va_put hexec hb hts hin ty0 hty hnm hown hK hP hD hS0 k (wl_at hk he) hc j hj hlink (fun _ h9 => h9) hfin hd hn hfit hl hdg (fun H1 locs1 hP hD hS => by
    rw [wl_set, hfs] at hP hD
    exact kk _ H1 locs1 rfl hP hD hS)
theorem pw_putF (hexec : p.tables.exec = Jvm.exec) (hb : c.code = cc) {own C : String} {T : u_T} {NF ci index : Nat} {Ts : List Cond} (hts : ∀ w ∈ Ts, w.before args s = true) (hin : ∀ w ∈ u_ws C T NF, w ∈ Ts) (ty0 : Nat → FieldType) (hty : ∀ k, k < NF → parseFieldDescriptor (T k).2.2.1 = some (ty0 k)) (hnm : ∀ a, a < NF → ∀ b, b < NF → a ≠ b → (T a).2.1 ≠ (T b).2.1) (hown : s.vm.findClass own = some m.cls) (hK : va_K D cl tys s) (hP : va_P D cl (wl N bk cw) H) (hD : va_D A (wl N bk cw)) (hS0 : va_S A H0 H locs) (k : Nat) (hk : k < N) {fs fs' : List Value} (he : cw k = .inr (ci, fs)) (hc : cl[ci]? = some (C, T, NF)) (j : Nat) (hj : j < NF) (hlink : (Cond.fieldLink own index (T j).1 (T j).2.1 (T j).2.2.1).before args s = true) (hfin : (T j).2.2.2 = true) (hin2 : meth.name = "<init>") (hdecl : (T j).1 = own) {ty : FieldType} {v : Value} (hd : parseFieldDescriptor (T j).2.2.1 = some ty) (hn : narrow ty v = v) (hfit : fits ty v = true) (hl : j < fs.length) (hfs : fs.set j v = fs') (hdg : decode cc pc = .ok (.putfield index, 3))
    (kk : ∀ (cw1 : Nat → va_E) (H1 : Heap) (locs1 : List Loc), cw1 = va_up cw k (.inr (ci, fs')) → va_P D cl (wl N bk cw1) H1 → va_D A (wl N bk cw1) → va_S A H0 H1 locs1 → W p l e R s m args below meth c H1 locs1 cells slots Q (F0 m (pc + 3) ls rest)) : W p l e R s m args below meth c H locs cells slots Q (F0 m pc ls (v :: .ref (bk k) :: rest)) :=
  va_putF hexec hb hts hin ty0 hty hnm hown hK hP hD hS0 k (wl_at hk he) hc j hj hlink (fun _ h9 => h9) hfin hin2 hdecl hd hn hfit hl hdg (fun H1 locs1 hP hD hS => by
    rw [wl_set, hfs] at hP hD
    exact kk _ H1 locs1 rfl hP hD hS)
theorem pw_iald (hexec : p.tables.exec = Jvm.exec) (hb : c.code = cc) (hK : va_K D cl tys s) (hP : va_P D cl (wl N bk cw) H) (t0 : Nat) (k : Nat) (hk : k < N) {cA : ClassId} {n : Nat} {f : Nat → Int32} (he : cw k = .inl (cA, n, .inl f)) (ht : tys[t0]? = some (cA, .int)) {i : Int32} (j : Nat) (hi : i = nI j) (hj : j < n) (hn : n < 2 ^ 31) (hdg : decode cc pc = .ok (.iaload, 1))
    (kk : W p l e R s m args below meth c H locs cells slots Q (F0 m (pc + 1) ls (.int (f j) :: rest))) : W p l e R s m args below meth c H locs cells slots Q (F0 m pc ls (.int i :: .ref (bk k) :: rest)) := by
  subst hi
  refine va_iald hexec hb hK hP k t0 (wl_at hk he) ht (vp_in_nI hj hn) hdg ?_
  rw [nI_clamp (by omega)]
  exact kk
theorem pw_iast (hexec : p.tables.exec = Jvm.exec) (hb : c.code = cc) (hK : va_K D cl tys s) (hP : va_P D cl (wl N bk cw) H) (hD : va_D A (wl N bk cw)) (hS : va_S A H0 H locs) (t0 : Nat) (k : Nat) (hk : k < N) {cA : ClassId} {n : Nat} {f : Nat → Int32} (he : cw k = .inl (cA, n, .inl f)) (ht : tys[t0]? = some (cA, .int)) {i x : Int32} (j : Nat) (hi : i = nI j) (hj : j < n) (hn : n < 2 ^ 31) (hdg : decode cc pc = .ok (.iastore, 1))
    (kk : ∀ (cw1 : Nat → va_E) (H1 : Heap) (locs1 : List Loc), cw1 = va_up cw k (.inl (cA, n, .inl (upd f j x))) → va_P D cl (wl N bk cw1) H1 → va_D A (wl N bk cw1) → va_S A H0 H1 locs1 → W p l e R s m args below meth c H1 locs1 cells slots Q (F0 m (pc + 1) ls rest)) : W p l e R s m args below meth c H locs cells slots Q (F0 m pc ls (.int x :: .int i :: .ref (bk k) :: rest)) := by
  subst hi
  refine va_iast hexec hb hK hP hD hS k t0 (wl_at hk he) ht (vp_in_nI hj hn) hdg (fun H1 locs1 hP hD hS => ?_)
  rw [wl_set, nI_clamp (by omega)] at hP hD
  exact kk _ H1 locs1 rfl hP hD hS
theorem pw_alen (hexec : p.tables.exec = Jvm.exec) (hb : c.code = cc) (hK : va_K D cl tys s) (hP : va_P D cl (wl N bk cw) H) (t0 : Nat) (k : Nat) (hk : k < N) {cA : ClassId} {x : vp_A} (he : cw k = .inl (cA, x)) {ty : FieldType} (ht : tys[t0]? = some (cA, ty)) (hdg : decode cc pc = .ok (.arraylength, 1))
    (kk : W p l e R s m args below meth c H locs cells slots Q (F0 m (pc + 1) ls (.int (nI x.1) :: rest))) : W p l e R s m args below meth c H locs cells slots Q (F0 m pc ls (.ref (bk k) :: rest)) :=
  va_alen hexec hb hK hP k t0 (wl_at hk he) ht rfl hdg kk
theorem pw_aldq (hexec : p.tables.exec = Jvm.exec) (hb : c.code = cc) (hK : va_K D cl tys s) (hP : va_P D cl (wl N bk cw) H) (t0 : Nat) (k : Nat) (hk : k < N) {cA : ClassId} {C : String} {n : Nat} {f : Nat → Option Nat} (he : cw k = .inl (cA, n, .inr (.inr (.inr (.inr f))))) (ht : tys[t0]? = some (cA, .object C)) {i : Int32} (j : Nat) (hi : i = nI j) (hj : j < n) (hn : n < 2 ^ 31) {r : Nat} (hr : f j = some r) (hdg : decode cc pc = .ok (.aaload, 1))
    (kk : W p l e R s m args below meth c H locs cells slots Q (F0 m (pc + 1) ls (.ref r :: rest))) : W p l e R s m args below meth c H locs cells slots Q (F0 m pc ls (.int i :: .ref (bk k) :: rest)) := by
  subst hi
  refine va_aldq hexec hb hK hP k t0 (wl_at hk he) ht (vp_in_nI hj hn) hdg ?_
  rw [nI_clamp (by omega), hr]
  exact kk
theorem pw_astq (hexec : p.tables.exec = Jvm.exec) (hb : c.code = cc) (hK : va_K D cl tys s) (hP : va_P D cl (wl N bk cw) H) (hD : va_D A (wl N bk cw)) (hS : va_S A H0 H locs) (t0 : Nat) (k : Nat) (hk : k < N) {cA : ClassId} {C : String} {T : u_T} {NF : Nat} {n : Nat} {f : Nat → Option Nat} (he : cw k = .inl (cA, n, .inr (.inr (.inr (.inr f))))) (ht : tys[t0]? = some (cA, .object C)) (kv : Nat) (hkv : kv < N) {ci : Nat} {vs : List Value} (hev : cw kv = .inr (ci, vs)) (hc : cl[ci]? = some (C, T, NF)) {i : Int32} (j : Nat) (hi : i = nI j) (hj : j < n) (hn : n < 2 ^ 31) (hdg : decode cc pc = .ok (.aastore, 1))
    (kk : ∀ (cw1 : Nat → va_E) (H1 : Heap) (locs1 : List Loc), cw1 = va_up cw k (.inl (cA, n, .inr (.inr (.inr (.inr (va_up f j (some (bk kv)))))))) → va_P D cl (wl N bk cw1) H1 → va_D A (wl N bk cw1) → va_S A H0 H1 locs1 → W p l e R s m args below meth c H1 locs1 cells slots Q (F0 m (pc + 1) ls rest)) : W p l e R s m args below meth c H locs cells slots Q (F0 m pc ls (.ref (bk kv) :: .int i :: .ref (bk k) :: rest)) := by
  subst hi
  refine va_astq hexec hb hK hP hD hS k t0 kv ci (r := (C, T, NF)) (wl_at hk he) ht (wl_at hkv hev) hc (vp_in_nI hj hn) hdg (fun H1 locs1 hP hD hS => ?_)
  rw [wl_set, nI_clamp (by omega)] at hP hD
  exact kk _ H1 locs1 rfl hP hD hS
theorem pw_new (hexec : p.tables.exec = Jvm.exec) (hb : c.code = cc) {own C : String} {T : u_T} {NF ci index : Nat} {Ts : List Cond} (hts : ∀ w ∈ Ts, w.before args s = true) (hin : ∀ w ∈ u_ws C T NF, w ∈ Ts) (ty : Nat → FieldType) (hty : ∀ k, k < NF → parseFieldDescriptor (T k).2.2.1 = some (ty k)) (hown : s.vm.findClass own = some m.cls) (hcl : (Cond.classLink own index C).before args s = true) (hinst : (Cond.instantiable C NF).before args s = true) (hini : (Cond.initialized C).before args s = true)
    (hK : va_K D cl tys s) (hP : va_P D cl (wl N bk cw) H) (hD : va_D A (wl N bk cw)) (hS : va_S A H0 H locs) (hA : ∀ q, H0.size ≤ q → A q) (hc : cl[ci]? = some (C, T, NF)) {fs : List Value} (hfs : ∀ j, j < NF → defaultValue (ty j) = vp_V fs j) (hcells : cells + 1 ≤ R.cells) (hslots : slots + NF ≤ R.slots) (hdg : decode cc pc = .ok (.new index, 3))
    (kk : ∀ (q : Nat) (H1 : Heap), va_P D cl (wl (N + 1) (va_up bk N q) (va_up cw N (.inr (ci, fs)))) H1 → va_D A (wl (N + 1) (va_up bk N q) (va_up cw N (.inr (ci, fs)))) → va_S A H0 H1 locs →
      W p l e R s m args below meth c H1 locs (cells + 1) (slots + NF) Q (F0 m (pc + 3) ls (.ref q :: rest))) : W p l e R s m args below meth c H locs cells slots Q (F0 m pc ls rest) :=
  va_new hexec hb hts hin ty hty hown hcl hinst hini hK hP hD hS hA hc hfs hcells hslots hdg (fun q H1 hP hD hS => by
    rw [wl_push] at hP hD
    exact kk q H1 hP hD hS)
end PR
section PS
variable {p : Program} {l : Launch} {e : Env} {R : Room} {s : State} {m : MethodId} {args : Array Value} {below : List Frame} {meth : Method} {c : Code} {H : Heap} {locs : List Loc} {cells slots : Nat} {Q : State → Prop}
variable {cc : ByteArray} {pc : Nat} {ls : Array Slot} {rest st0 : List Value} {D : va_G} {cl : List vw_C} {A : Nat → Prop} {tys : List (ClassId × FieldType)} {H0 : Heap} {N : Nat} {bk : Nat → Nat} {cw : Nat → va_E}
theorem pw_newa (hexec : p.tables.exec = Jvm.exec) (hb : c.code = cc) {atype : ArrayType} (harr : (Cond.arrayClass (newarray.typeOf atype)).before args s = true) (hty : newarray.typeOf atype = .int) (hK : va_K D cl tys s) (hP : va_P D cl (wl N bk cw) H) (hD : va_D A (wl N bk cw)) (hS : va_S A H0 H locs) (hA : ∀ q, H0.size ≤ q → A q) (t0 : Nat) {cA : ClassId} (ht : tys[t0]? = some (cA, .int))
    {i : Int32} (n : Nat) (hi : i = nI n) (hn : n < 2 ^ 27) (hcells : cells + 1 ≤ R.cells) (hslots : slots + n ≤ R.slots) (hdg : decode cc pc = .ok (.newarray atype, 2))
    (kk : ∀ (q : Nat) (H1 : Heap), va_P D cl (wl (N + 1) (va_up bk N q) (va_up cw N (.inl (cA, n, .inl (fun _ => 0))))) H1 → va_D A (wl (N + 1) (va_up bk N q) (va_up cw N (.inl (cA, n, .inl (fun _ => 0))))) → va_S A H0 H1 locs →
      W p l e R s m args below meth c H1 locs (cells + 1) (slots + n) Q (F0 m (pc + 2) ls (.ref q :: rest))) : W p l e R s m args below meth c H locs cells slots Q (F0 m pc ls (.int i :: rest)) := by
  subst hi
  refine va_newa hexec hb harr hty hK hP hD hS hA (a0 := (n, .inl (fun _ => 0))) (fun _ => rfl) (nI_pos (by omega)) (nI_clamp (by omega)) (by show n * 4 ≤ 536870912; omega) hcells hslots hdg (fun q cA' H1 hK' hP hD hS => ?_)
  have h1 := (hK.2 t0 _ ht).2
  have h2 := (hK'.2 tys.length (cA', .int) (by simp)).2
  have h3 : cA' = cA := Option.some.inj (h2.symm.trans h1)
  subst h3
  rw [wl_push] at hP hD
  exact kk q H1 hP hD hS
theorem pw_newq (hexec : p.tables.exec = Jvm.exec) (hb : c.code = cc) {own C : String} {index : Nat} (hown : s.vm.findClass own = some m.cls) (hclink : (Cond.classLink own index C).before args s = true) (hover : va_AO C s) (hK : va_K D cl tys s) (hP : va_P D cl (wl N bk cw) H) (hD : va_D A (wl N bk cw)) (hS : va_S A H0 H locs) (hA : ∀ q, H0.size ≤ q → A q) (t0 : Nat) {cA : ClassId} (ht : tys[t0]? = some (cA, .object C))
    {i : Int32} (n : Nat) (hi : i = nI n) (hn : n < 2 ^ 27) (hcells : cells + 1 ≤ R.cells) (hslots : slots + n ≤ R.slots) (hdg : decode cc pc = .ok (.anewarray index, 3))
    (kk : ∀ (q : Nat) (H1 : Heap), va_P D cl (wl (N + 1) (va_up bk N q) (va_up cw N (.inl (cA, n, .inr (.inr (.inr (.inr (fun _ => none)))))))) H1 → va_D A (wl (N + 1) (va_up bk N q) (va_up cw N (.inl (cA, n, .inr (.inr (.inr (.inr (fun _ => none)))))))) → va_S A H0 H1 locs →
      W p l e R s m args below meth c H1 locs (cells + 1) (slots + n) Q (F0 m (pc + 3) ls (.ref q :: rest))) : W p l e R s m args below meth c H locs cells slots Q (F0 m pc ls (.int i :: rest)) := by
  subst hi
  refine va_newq hexec hb hown hclink hover hK hP hD hS hA (nI_pos (by omega)) (nI_clamp (by omega)) (by omega) hcells hslots hdg (fun q cA' H1 hK' hP hD hS => ?_)
  obtain ⟨_, _, _, _, _, h1⟩ := (hK.2 t0 _ ht).2
  obtain ⟨_, _, _, _, _, h2⟩ := (hK'.2 tys.length (cA', .object C) (by simp)).2
  have h3 : cA' = cA := Option.some.inj (h2.symm.trans h1)
  subst h3
  rw [wl_push] at hP hD
  exact kk q H1 hP hD hS
theorem pw_callSi {post : Int32 → Prop} {a : Array Value} (hr : va_Run p l e R s m args below meth c H locs cells slots 0 0 (F0 m pc ls st0) rest (vp_Si post a) (fun _ => False))
    (kk : ∀ r : Int32, post r → W p l e R s m args below meth c H locs cells slots Q (F0 m (pc + 3) ls (.int r :: rest))) : W p l e R s m args below meth c H locs cells slots Q (F0 m pc ls st0) := vp_callSi hr.run kk
theorem pw_callSq {post : Option Nat → Prop} {a : Array Value} (hr : va_Run p l e R s m args below meth c H locs cells slots 0 0 (F0 m pc ls st0) rest (va_Sq post a) (fun _ => False))
    (kk : ∀ r : Option Nat, post r → W p l e R s m args below meth c H locs cells slots Q (F0 m (pc + 3) ls (va_rf r :: rest))) : W p l e R s m args below meth c H locs cells slots Q (F0 m pc ls st0) := va_csq hr.run kk
end PS
/-- a truth as an int -/
def bI (P : Prop) [Decidable P] : Int32 := if P then 1 else 0
theorem bI_t {P : Prop} [Decidable P] (h : P) : bI P = 1 := if_pos h
theorem bI_f {P : Prop} [Decidable P] (h : ¬ P) : bI P = 0 := if_neg h
theorem bI_0 {P : Prop} [Decidable P] : bI P = 0 ↔ ¬ P := by
  by_cases h : P
  · simp [bI, h]
  · simp [bI, h]
theorem bI_nar {P : Prop} [Decidable P] : narrow .boolean (.int (bI P)) = .int (bI P) := by
  by_cases h : P
  · rw [bI_t h]; rfl
  · rw [bI_f h]; rfl
theorem bI_c {P P' : Prop} [Decidable P] [Decidable P'] (h : P ↔ P') : bI P = bI P' := by
  by_cases q : P
  · rw [bI_t q, bI_t (h.mp q)]
  · rw [bI_f q, bI_f (fun z => q (h.mpr z))]
section PI
variable {p : Program} {l : Launch} {e : Env} {R : Room} {s : State} {m : MethodId} {args : Array Value} {below : List Frame} {meth : Method} {c : Code} {H : Heap} {locs : List Loc} {cells slots : Nat} {Q : State → Prop}
variable {cc : ByteArray} {pc : Nat} {ls : Array Slot} {rest : List Value}
theorem pw_ifeq (hexec : p.tables.exec = Jvm.exec) (hb : c.code = cc) {P : Prop} [Decidable P] {off : Int} {tgt : Nat} (hdg : decode cc pc = .ok (.ifCond .eq off, 3)) (ht : (pc : Int) + off = (tgt : Int))
    (kt : ¬ P → W p l e R s m args below meth c H locs cells slots Q (F0 m tgt ls rest)) (kf : P → W p l e R s m args below meth c H locs cells slots Q (F0 m (pc + 3) ls rest)) : W p l e R s m args below meth c H locs cells slots Q (F0 m pc ls (.int (bI P) :: rest)) :=
  lv_if_eq hexec hb hdg ht (fun h => kt (bI_0.mp h)) (fun h => kf (Classical.byContradiction fun q => h (bI_0.mpr q)))
theorem pw_ifne (hexec : p.tables.exec = Jvm.exec) (hb : c.code = cc) {P : Prop} [Decidable P] {off : Int} {tgt : Nat} (hdg : decode cc pc = .ok (.ifCond .ne off, 3)) (ht : (pc : Int) + off = (tgt : Int))
    (kt : P → W p l e R s m args below meth c H locs cells slots Q (F0 m tgt ls rest)) (kf : ¬ P → W p l e R s m args below meth c H locs cells slots Q (F0 m (pc + 3) ls rest)) : W p l e R s m args below meth c H locs cells slots Q (F0 m pc ls (.int (bI P) :: rest)) :=
  lv_if_ne hexec hb hdg ht (fun h => kt (Classical.byContradiction fun q => h (bI_0.mpr q))) (fun h => kf (bI_0.mp h))
end PI
end
section
theorem d_P_init_0 : decode b_P_init 0 = .ok (.aload_n 0, 1) := by decide +kernel
theorem d_P_init_1 : decode b_P_init 1 = .ok (.invokespecial 3, 3) := by decide +kernel
theorem d_P_init_4 : decode b_P_init 4 = .ok (.aload_n 0, 1) := by decide +kernel
theorem d_P_init_5 : decode b_P_init 5 = .ok (.iconst 0, 1) := by decide +kernel
theorem d_P_init_6 : decode b_P_init 6 = .ok (.putfield 9, 3) := by decide +kernel
theorem d_P_init_9 : decode b_P_init 9 = .ok (.iload_n 1, 1) := by decide +kernel
theorem d_P_init_10 : decode b_P_init 10 = .ok (.iconst 0, 1) := by decide +kernel
theorem d_P_init_11 : decode b_P_init 11 = .ok (.invokestatic 15, 3) := by decide +kernel
theorem d_P_init_14 : decode b_P_init 14 = .ok (.istore_n 2, 1) := by decide +kernel
theorem d_P_init_15 : decode b_P_init 15 = .ok (.aload_n 0, 1) := by decide +kernel
theorem d_P_init_16 : decode b_P_init 16 = .ok (.iload_n 2, 1) := by decide +kernel
theorem d_P_init_17 : decode b_P_init 17 = .ok (.newarray .int, 2) := by decide +kernel
theorem d_P_init_19 : decode b_P_init 19 = .ok (.putfield 21, 3) := by decide +kernel
theorem d_P_init_22 : decode b_P_init 22 = .ok (.aload_n 0, 1) := by decide +kernel
theorem d_P_init_23 : decode b_P_init 23 = .ok (.iload_n 2, 1) := by decide +kernel
theorem d_P_init_24 : decode b_P_init 24 = .ok (.newarray .int, 2) := by decide +kernel
theorem d_P_init_26 : decode b_P_init 26 = .ok (.putfield 25, 3) := by decide +kernel
theorem d_P_init_29 : decode b_P_init 29 = .ok (.return_, 1) := by decide +kernel
theorem d_V_init_0 : decode b_V_init 0 = .ok (.aload_n 0, 1) := by decide +kernel
theorem d_V_init_1 : decode b_V_init 1 = .ok (.invokespecial 3, 3) := by decide +kernel
theorem d_V_init_4 : decode b_V_init 4 = .ok (.aload_n 0, 1) := by decide +kernel
theorem d_V_init_5 : decode b_V_init 5 = .ok (.sipush 200, 3) := by decide +kernel
theorem d_V_init_8 : decode b_V_init 8 = .ok (.newarray .int, 2) := by decide +kernel
theorem d_V_init_10 : decode b_V_init 10 = .ok (.putfield 9, 3) := by decide +kernel
theorem d_V_init_13 : decode b_V_init 13 = .ok (.aload_n 0, 1) := by decide +kernel
theorem d_V_init_14 : decode b_V_init 14 = .ok (.bipush 41, 2) := by decide +kernel
theorem d_V_init_16 : decode b_V_init 16 = .ok (.newarray .int, 2) := by decide +kernel
theorem d_V_init_18 : decode b_V_init 18 = .ok (.putfield 15, 3) := by decide +kernel
theorem d_V_init_21 : decode b_V_init 21 = .ok (.aload_n 0, 1) := by decide +kernel
theorem d_V_init_22 : decode b_V_init 22 = .ok (.iconst 0, 1) := by decide +kernel
theorem d_V_init_23 : decode b_V_init 23 = .ok (.putfield 18, 3) := by decide +kernel
theorem d_V_init_26 : decode b_V_init 26 = .ok (.return_, 1) := by decide +kernel
theorem d_S_init_0 : decode b_S_init 0 = .ok (.aload_n 0, 1) := by decide +kernel
theorem d_S_init_1 : decode b_S_init 1 = .ok (.invokespecial 3, 3) := by decide +kernel
theorem d_S_init_4 : decode b_S_init 4 = .ok (.aload_n 0, 1) := by decide +kernel
theorem d_S_init_5 : decode b_S_init 5 = .ok (.sipush 200, 3) := by decide +kernel
theorem d_S_init_8 : decode b_S_init 8 = .ok (.newarray .int, 2) := by decide +kernel
theorem d_S_init_10 : decode b_S_init 10 = .ok (.putfield 9, 3) := by decide +kernel
theorem d_S_init_13 : decode b_S_init 13 = .ok (.aload_n 0, 1) := by decide +kernel
theorem d_S_init_14 : decode b_S_init 14 = .ok (.sipush 200, 3) := by decide +kernel
theorem d_S_init_17 : decode b_S_init 17 = .ok (.newarray .int, 2) := by decide +kernel
theorem d_S_init_19 : decode b_S_init 19 = .ok (.putfield 15, 3) := by decide +kernel
theorem d_S_init_22 : decode b_S_init 22 = .ok (.aload_n 0, 1) := by decide +kernel
theorem d_S_init_23 : decode b_S_init 23 = .ok (.sipush 200, 3) := by decide +kernel
theorem d_S_init_26 : decode b_S_init 26 = .ok (.newarray .int, 2) := by decide +kernel
theorem d_S_init_28 : decode b_S_init 28 = .ok (.putfield 18, 3) := by decide +kernel
theorem d_S_init_31 : decode b_S_init 31 = .ok (.aload_n 0, 1) := by decide +kernel
theorem d_S_init_32 : decode b_S_init 32 = .ok (.iconst 0, 1) := by decide +kernel
theorem d_S_init_33 : decode b_S_init 33 = .ok (.putfield 21, 3) := by decide +kernel
theorem d_S_init_36 : decode b_S_init 36 = .ok (.return_, 1) := by decide +kernel
theorem d_U_init_0 : decode b_U_init 0 = .ok (.aload_n 0, 1) := by decide +kernel
theorem d_U_init_1 : decode b_U_init 1 = .ok (.invokespecial 3, 3) := by decide +kernel
theorem d_U_init_4 : decode b_U_init 4 = .ok (.aload_n 0, 1) := by decide +kernel
theorem d_U_init_5 : decode b_U_init 5 = .ok (.bipush 30, 2) := by decide +kernel
theorem d_U_init_7 : decode b_U_init 7 = .ok (.putfield 9, 3) := by decide +kernel
theorem d_U_init_10 : decode b_U_init 10 = .ok (.aload_n 0, 1) := by decide +kernel
theorem d_U_init_11 : decode b_U_init 11 = .ok (.bipush 20, 2) := by decide +kernel
theorem d_U_init_13 : decode b_U_init 13 = .ok (.putfield 15, 3) := by decide +kernel
theorem d_U_init_16 : decode b_U_init 16 = .ok (.aload_n 0, 1) := by decide +kernel
theorem d_U_init_17 : decode b_U_init 17 = .ok (.iconst 3, 1) := by decide +kernel
theorem d_U_init_18 : decode b_U_init 18 = .ok (.putfield 18, 3) := by decide +kernel
theorem d_U_init_21 : decode b_U_init 21 = .ok (.return_, 1) := by decide +kernel
theorem d_I_init_0 : decode b_I_init 0 = .ok (.aload_n 0, 1) := by decide +kernel
theorem d_I_init_1 : decode b_I_init 1 = .ok (.invokespecial 3, 3) := by decide +kernel
theorem d_I_init_4 : decode b_I_init 4 = .ok (.aload_n 0, 1) := by decide +kernel
theorem d_I_init_5 : decode b_I_init 5 = .ok (.new 9, 3) := by decide +kernel
theorem d_I_init_8 : decode b_I_init 8 = .ok (.dup, 1) := by decide +kernel
theorem d_I_init_9 : decode b_I_init 9 = .ok (.invokespecial 11, 3) := by decide +kernel
theorem d_I_init_12 : decode b_I_init 12 = .ok (.putfield 12, 3) := by decide +kernel
theorem d_I_init_15 : decode b_I_init 15 = .ok (.aload_n 0, 1) := by decide +kernel
theorem d_I_init_16 : decode b_I_init 16 = .ok (.iconst 0, 1) := by decide +kernel
theorem d_I_init_17 : decode b_I_init 17 = .ok (.putfield 18, 3) := by decide +kernel
theorem d_I_init_20 : decode b_I_init 20 = .ok (.aload_n 0, 1) := by decide +kernel
theorem d_I_init_21 : decode b_I_init 21 = .ok (.iconst (-1), 1) := by decide +kernel
theorem d_I_init_22 : decode b_I_init 22 = .ok (.putfield 22, 3) := by decide +kernel
theorem d_I_init_25 : decode b_I_init 25 = .ok (.aload_n 0, 1) := by decide +kernel
theorem d_I_init_26 : decode b_I_init 26 = .ok (.iconst 0, 1) := by decide +kernel
theorem d_I_init_27 : decode b_I_init 27 = .ok (.putfield 25, 3) := by decide +kernel
theorem d_I_init_30 : decode b_I_init 30 = .ok (.aload_n 0, 1) := by decide +kernel
theorem d_I_init_31 : decode b_I_init 31 = .ok (.iconst (-1), 1) := by decide +kernel
theorem d_I_init_32 : decode b_I_init 32 = .ok (.putfield 28, 3) := by decide +kernel
theorem d_I_init_35 : decode b_I_init 35 = .ok (.aload_n 0, 1) := by decide +kernel
theorem d_I_init_36 : decode b_I_init 36 = .ok (.iconst (-1), 1) := by decide +kernel
theorem d_I_init_37 : decode b_I_init 37 = .ok (.putfield 31, 3) := by decide +kernel
theorem d_I_init_40 : decode b_I_init 40 = .ok (.aload_n 0, 1) := by decide +kernel
theorem d_I_init_41 : decode b_I_init 41 = .ok (.iconst (-1), 1) := by decide +kernel
theorem d_I_init_42 : decode b_I_init 42 = .ok (.putfield 34, 3) := by decide +kernel
theorem d_I_init_45 : decode b_I_init 45 = .ok (.aload_n 0, 1) := by decide +kernel
theorem d_I_init_46 : decode b_I_init 46 = .ok (.iconst 0, 1) := by decide +kernel
theorem d_I_init_47 : decode b_I_init 47 = .ok (.putfield 37, 3) := by decide +kernel
theorem d_I_init_50 : decode b_I_init 50 = .ok (.aload_n 0, 1) := by decide +kernel
theorem d_I_init_51 : decode b_I_init 51 = .ok (.iload_n 1, 1) := by decide +kernel
theorem d_I_init_52 : decode b_I_init 52 = .ok (.putfield 40, 3) := by decide +kernel
theorem d_I_init_55 : decode b_I_init 55 = .ok (.aload_n 0, 1) := by decide +kernel
theorem d_I_init_56 : decode b_I_init 56 = .ok (.iload_n 2, 1) := by decide +kernel
theorem d_I_init_57 : decode b_I_init 57 = .ok (.putfield 43, 3) := by decide +kernel
theorem d_I_init_60 : decode b_I_init 60 = .ok (.aload_n 0, 1) := by decide +kernel
theorem d_I_init_61 : decode b_I_init 61 = .ok (.iload_n 3, 1) := by decide +kernel
theorem d_I_init_62 : decode b_I_init 62 = .ok (.putfield 46, 3) := by decide +kernel
theorem d_I_init_65 : decode b_I_init 65 = .ok (.aload_n 0, 1) := by decide +kernel
theorem d_I_init_66 : decode b_I_init 66 = .ok (.iload 4, 2) := by decide +kernel
theorem d_I_init_68 : decode b_I_init 68 = .ok (.putfield 49, 3) := by decide +kernel
theorem d_I_init_71 : decode b_I_init 71 = .ok (.aload_n 0, 1) := by decide +kernel
theorem d_I_init_72 : decode b_I_init 72 = .ok (.iload 5, 2) := by decide +kernel
theorem d_I_init_74 : decode b_I_init 74 = .ok (.putfield 52, 3) := by decide +kernel
theorem d_I_init_77 : decode b_I_init 77 = .ok (.aload_n 0, 1) := by decide +kernel
theorem d_I_init_78 : decode b_I_init 78 = .ok (.iload 4, 2) := by decide +kernel
theorem d_I_init_80 : decode b_I_init 80 = .ok (.iconst (-1), 1) := by decide +kernel
theorem d_I_init_81 : decode b_I_init 81 = .ok (.if_icmp .ne 7, 3) := by decide +kernel
theorem d_I_init_84 : decode b_I_init 84 = .ok (.iconst 0, 1) := by decide +kernel
theorem d_I_init_85 : decode b_I_init 85 = .ok (.goto 4, 3) := by decide +kernel
theorem d_I_init_88 : decode b_I_init 88 = .ok (.iconst 1, 1) := by decide +kernel
theorem d_I_init_89 : decode b_I_init 89 = .ok (.putfield 56, 3) := by decide +kernel
theorem d_I_init_92 : decode b_I_init 92 = .ok (.return_, 1) := by decide +kernel
theorem d_G_init_0 : decode b_G_init 0 = .ok (.aload_n 0, 1) := by decide +kernel
theorem d_G_init_1 : decode b_G_init 1 = .ok (.invokespecial 3, 3) := by decide +kernel
theorem d_G_init_4 : decode b_G_init 4 = .ok (.aload_n 0, 1) := by decide +kernel
theorem d_G_init_5 : decode b_G_init 5 = .ok (.bipush 8, 2) := by decide +kernel
theorem d_G_init_7 : decode b_G_init 7 = .ok (.newarray .int, 2) := by decide +kernel
theorem d_G_init_9 : decode b_G_init 9 = .ok (.putfield 9, 3) := by decide +kernel
theorem d_G_init_12 : decode b_G_init 12 = .ok (.aload_n 0, 1) := by decide +kernel
theorem d_G_init_13 : decode b_G_init 13 = .ok (.bipush 8, 2) := by decide +kernel
theorem d_G_init_15 : decode b_G_init 15 = .ok (.newarray .int, 2) := by decide +kernel
theorem d_G_init_17 : decode b_G_init 17 = .ok (.putfield 15, 3) := by decide +kernel
theorem d_G_init_20 : decode b_G_init 20 = .ok (.aload_n 0, 1) := by decide +kernel
theorem d_G_init_21 : decode b_G_init 21 = .ok (.iconst 0, 1) := by decide +kernel
theorem d_G_init_22 : decode b_G_init 22 = .ok (.putfield 18, 3) := by decide +kernel
theorem d_G_init_25 : decode b_G_init 25 = .ok (.aload_n 0, 1) := by decide +kernel
theorem d_G_init_26 : decode b_G_init 26 = .ok (.iconst (-1), 1) := by decide +kernel
theorem d_G_init_27 : decode b_G_init 27 = .ok (.putfield 22, 3) := by decide +kernel
theorem d_G_init_30 : decode b_G_init 30 = .ok (.aload_n 0, 1) := by decide +kernel
theorem d_G_init_31 : decode b_G_init 31 = .ok (.iconst (-1), 1) := by decide +kernel
theorem d_G_init_32 : decode b_G_init 32 = .ok (.putfield 25, 3) := by decide +kernel
theorem d_G_init_35 : decode b_G_init 35 = .ok (.return_, 1) := by decide +kernel
theorem d_I_isAwaited_0 : decode b_I_isAwaited 0 = .ok (.aload_n 0, 1) := by decide +kernel
theorem d_I_isAwaited_1 : decode b_I_isAwaited 1 = .ok (.getfield 56, 3) := by decide +kernel
theorem d_I_isAwaited_4 : decode b_I_isAwaited 4 = .ok (.ifCond .eq 27, 3) := by decide +kernel
theorem d_I_isAwaited_7 : decode b_I_isAwaited 7 = .ok (.aload_n 0, 1) := by decide +kernel
theorem d_I_isAwaited_8 : decode b_I_isAwaited 8 = .ok (.getfield 56, 3) := by decide +kernel
theorem d_I_isAwaited_11 : decode b_I_isAwaited 11 = .ok (.iconst 1, 1) := by decide +kernel
theorem d_I_isAwaited_12 : decode b_I_isAwaited 12 = .ok (.if_icmp .eq 19, 3) := by decide +kernel
theorem d_I_isAwaited_15 : decode b_I_isAwaited 15 = .ok (.aload_n 0, 1) := by decide +kernel
theorem d_I_isAwaited_16 : decode b_I_isAwaited 16 = .ok (.getfield 56, 3) := by decide +kernel
theorem d_I_isAwaited_19 : decode b_I_isAwaited 19 = .ok (.iconst 2, 1) := by decide +kernel
theorem d_I_isAwaited_20 : decode b_I_isAwaited 20 = .ok (.if_icmp .eq 11, 3) := by decide +kernel
theorem d_I_isAwaited_23 : decode b_I_isAwaited 23 = .ok (.aload_n 0, 1) := by decide +kernel
theorem d_I_isAwaited_24 : decode b_I_isAwaited 24 = .ok (.getfield 56, 3) := by decide +kernel
theorem d_I_isAwaited_27 : decode b_I_isAwaited 27 = .ok (.iconst 4, 1) := by decide +kernel
theorem d_I_isAwaited_28 : decode b_I_isAwaited 28 = .ok (.if_icmp .ne 7, 3) := by decide +kernel
theorem d_I_isAwaited_31 : decode b_I_isAwaited 31 = .ok (.iconst 1, 1) := by decide +kernel
theorem d_I_isAwaited_32 : decode b_I_isAwaited 32 = .ok (.goto 4, 3) := by decide +kernel
theorem d_I_isAwaited_35 : decode b_I_isAwaited 35 = .ok (.iconst 0, 1) := by decide +kernel
theorem d_I_isAwaited_36 : decode b_I_isAwaited 36 = .ok (.ireturn, 1) := by decide +kernel
theorem d_P_add_0 : decode b_P_add 0 = .ok (.aload_n 0, 1) := by decide +kernel
theorem d_P_add_1 : decode b_P_add 1 = .ok (.getfield 9, 3) := by decide +kernel
theorem d_P_add_4 : decode b_P_add 4 = .ok (.aload_n 0, 1) := by decide +kernel
theorem d_P_add_5 : decode b_P_add 5 = .ok (.getfield 21, 3) := by decide +kernel
theorem d_P_add_8 : decode b_P_add 8 = .ok (.arraylength, 1) := by decide +kernel
theorem d_P_add_9 : decode b_P_add 9 = .ok (.if_icmp .ge 33, 3) := by decide +kernel
theorem d_P_add_12 : decode b_P_add 12 = .ok (.aload_n 0, 1) := by decide +kernel
theorem d_P_add_13 : decode b_P_add 13 = .ok (.getfield 21, 3) := by decide +kernel
theorem d_P_add_16 : decode b_P_add 16 = .ok (.aload_n 0, 1) := by decide +kernel
theorem d_P_add_17 : decode b_P_add 17 = .ok (.getfield 9, 3) := by decide +kernel
theorem d_P_add_20 : decode b_P_add 20 = .ok (.iload_n 1, 1) := by decide +kernel
theorem d_P_add_21 : decode b_P_add 21 = .ok (.iastore, 1) := by decide +kernel
theorem d_P_add_22 : decode b_P_add 22 = .ok (.aload_n 0, 1) := by decide +kernel
theorem d_P_add_23 : decode b_P_add 23 = .ok (.getfield 25, 3) := by decide +kernel
theorem d_P_add_26 : decode b_P_add 26 = .ok (.aload_n 0, 1) := by decide +kernel
theorem d_P_add_27 : decode b_P_add 27 = .ok (.getfield 9, 3) := by decide +kernel
theorem d_P_add_30 : decode b_P_add 30 = .ok (.iload_n 2, 1) := by decide +kernel
theorem d_P_add_31 : decode b_P_add 31 = .ok (.iastore, 1) := by decide +kernel
theorem d_P_add_32 : decode b_P_add 32 = .ok (.aload_n 0, 1) := by decide +kernel
theorem d_P_add_33 : decode b_P_add 33 = .ok (.dup, 1) := by decide +kernel
theorem d_P_add_34 : decode b_P_add 34 = .ok (.getfield 9, 3) := by decide +kernel
theorem d_P_add_37 : decode b_P_add 37 = .ok (.iconst 1, 1) := by decide +kernel
theorem d_P_add_38 : decode b_P_add 38 = .ok (.iadd, 1) := by decide +kernel
theorem d_P_add_39 : decode b_P_add 39 = .ok (.putfield 9, 3) := by decide +kernel
theorem d_P_add_42 : decode b_P_add 42 = .ok (.return_, 1) := by decide +kernel
theorem d_I_arrive_0 : decode b_I_arrive 0 = .ok (.aload_n 0, 1) := by decide +kernel
theorem d_I_arrive_1 : decode b_I_arrive 1 = .ok (.iconst 3, 1) := by decide +kernel
theorem d_I_arrive_2 : decode b_I_arrive 2 = .ok (.putfield 56, 3) := by decide +kernel
theorem d_I_arrive_5 : decode b_I_arrive 5 = .ok (.aload_n 0, 1) := by decide +kernel
theorem d_I_arrive_6 : decode b_I_arrive 6 = .ok (.iload_n 1, 1) := by decide +kernel
theorem d_I_arrive_7 : decode b_I_arrive 7 = .ok (.putfield 25, 3) := by decide +kernel
theorem d_I_arrive_10 : decode b_I_arrive 10 = .ok (.aload_n 0, 1) := by decide +kernel
theorem d_I_arrive_11 : decode b_I_arrive 11 = .ok (.iload_n 2, 1) := by decide +kernel
theorem d_I_arrive_12 : decode b_I_arrive 12 = .ok (.putfield 28, 3) := by decide +kernel
theorem d_I_arrive_15 : decode b_I_arrive 15 = .ok (.return_, 1) := by decide +kernel
theorem d_P_clear_0 : decode b_P_clear 0 = .ok (.aload_n 0, 1) := by decide +kernel
theorem d_P_clear_1 : decode b_P_clear 1 = .ok (.iconst 0, 1) := by decide +kernel
theorem d_P_clear_2 : decode b_P_clear 2 = .ok (.putfield 9, 3) := by decide +kernel
theorem d_P_clear_5 : decode b_P_clear 5 = .ok (.return_, 1) := by decide +kernel
theorem d_U_isDue_0 : decode b_U_isDue 0 = .ok (.aload_n 1, 1) := by decide +kernel
theorem d_U_isDue_1 : decode b_U_isDue 1 = .ok (.getfield 21, 3) := by decide +kernel
theorem d_U_isDue_4 : decode b_U_isDue 4 = .ok (.iconst 1, 1) := by decide +kernel
theorem d_U_isDue_5 : decode b_U_isDue 5 = .ok (.if_icmp .ne 22, 3) := by decide +kernel
theorem d_U_isDue_8 : decode b_U_isDue 8 = .ok (.iload_n 2, 1) := by decide +kernel
theorem d_U_isDue_9 : decode b_U_isDue 9 = .ok (.aload_n 1, 1) := by decide +kernel
theorem d_U_isDue_10 : decode b_U_isDue 10 = .ok (.getfield 26, 3) := by decide +kernel
theorem d_U_isDue_13 : decode b_U_isDue 13 = .ok (.isub, 1) := by decide +kernel
theorem d_U_isDue_14 : decode b_U_isDue 14 = .ok (.aload_n 0, 1) := by decide +kernel
theorem d_U_isDue_15 : decode b_U_isDue 15 = .ok (.getfield 9, 3) := by decide +kernel
theorem d_U_isDue_18 : decode b_U_isDue 18 = .ok (.if_icmp .lt 7, 3) := by decide +kernel
theorem d_U_isDue_21 : decode b_U_isDue 21 = .ok (.iconst 1, 1) := by decide +kernel
theorem d_U_isDue_22 : decode b_U_isDue 22 = .ok (.goto 4, 3) := by decide +kernel
theorem d_U_isDue_25 : decode b_U_isDue 25 = .ok (.iconst 0, 1) := by decide +kernel
theorem d_U_isDue_26 : decode b_U_isDue 26 = .ok (.ireturn, 1) := by decide +kernel
theorem d_U_isDue_27 : decode b_U_isDue 27 = .ok (.aload_n 1, 1) := by decide +kernel
theorem d_U_isDue_28 : decode b_U_isDue 28 = .ok (.getfield 21, 3) := by decide +kernel
theorem d_U_isDue_31 : decode b_U_isDue 31 = .ok (.iconst 2, 1) := by decide +kernel
theorem d_U_isDue_32 : decode b_U_isDue 32 = .ok (.if_icmp .ne 20, 3) := by decide +kernel
theorem d_U_isDue_35 : decode b_U_isDue 35 = .ok (.iload_n 2, 1) := by decide +kernel
theorem d_U_isDue_36 : decode b_U_isDue 36 = .ok (.aload_n 1, 1) := by decide +kernel
theorem d_U_isDue_37 : decode b_U_isDue 37 = .ok (.getfield 29, 3) := by decide +kernel
theorem d_U_isDue_40 : decode b_U_isDue 40 = .ok (.isub, 1) := by decide +kernel
theorem d_U_isDue_41 : decode b_U_isDue 41 = .ok (.aload_n 0, 1) := by decide +kernel
theorem d_U_isDue_42 : decode b_U_isDue 42 = .ok (.getfield 15, 3) := by decide +kernel
theorem d_U_isDue_45 : decode b_U_isDue 45 = .ok (.if_icmp .lt 7, 3) := by decide +kernel
theorem d_U_isDue_48 : decode b_U_isDue 48 = .ok (.iconst 1, 1) := by decide +kernel
theorem d_U_isDue_49 : decode b_U_isDue 49 = .ok (.goto 4, 3) := by decide +kernel
theorem d_U_isDue_52 : decode b_U_isDue 52 = .ok (.iconst 0, 1) := by decide +kernel
theorem d_U_isDue_53 : decode b_U_isDue 53 = .ok (.ireturn, 1) := by decide +kernel
theorem d_I_claimOn_0 : decode b_I_claimOn 0 = .ok (.aload_n 0, 1) := by decide +kernel
theorem d_I_claimOn_1 : decode b_I_claimOn 1 = .ok (.iconst 2, 1) := by decide +kernel
theorem d_I_claimOn_2 : decode b_I_claimOn 2 = .ok (.putfield 56, 3) := by decide +kernel
theorem d_I_claimOn_5 : decode b_I_claimOn 5 = .ok (.aload_n 0, 1) := by decide +kernel
theorem d_I_claimOn_6 : decode b_I_claimOn 6 = .ok (.dup, 1) := by decide +kernel
theorem d_I_claimOn_7 : decode b_I_claimOn 7 = .ok (.getfield 18, 3) := by decide +kernel
theorem d_I_claimOn_10 : decode b_I_claimOn 10 = .ok (.iconst 1, 1) := by decide +kernel
theorem d_I_claimOn_11 : decode b_I_claimOn 11 = .ok (.iadd, 1) := by decide +kernel
theorem d_I_claimOn_12 : decode b_I_claimOn 12 = .ok (.putfield 18, 3) := by decide +kernel
theorem d_I_claimOn_15 : decode b_I_claimOn 15 = .ok (.aload_n 0, 1) := by decide +kernel
theorem d_I_claimOn_16 : decode b_I_claimOn 16 = .ok (.iload_n 1, 1) := by decide +kernel
theorem d_I_claimOn_17 : decode b_I_claimOn 17 = .ok (.putfield 22, 3) := by decide +kernel
theorem d_I_claimOn_20 : decode b_I_claimOn 20 = .ok (.return_, 1) := by decide +kernel
theorem d_G_isStarted_0 : decode b_G_isStarted 0 = .ok (.aload_n 0, 1) := by decide +kernel
theorem d_G_isStarted_1 : decode b_G_isStarted 1 = .ok (.getfield 22, 3) := by decide +kernel
theorem d_G_isStarted_4 : decode b_G_isStarted 4 = .ok (.ifCond .lt 7, 3) := by decide +kernel
theorem d_G_isStarted_7 : decode b_G_isStarted 7 = .ok (.iconst 1, 1) := by decide +kernel
theorem d_G_isStarted_8 : decode b_G_isStarted 8 = .ok (.goto 4, 3) := by decide +kernel
theorem d_G_isStarted_11 : decode b_G_isStarted 11 = .ok (.iconst 0, 1) := by decide +kernel
theorem d_G_isStarted_12 : decode b_G_isStarted 12 = .ok (.ireturn, 1) := by decide +kernel
theorem d_G_isFull_0 : decode b_G_isFull 0 = .ok (.aload_n 0, 1) := by decide +kernel
theorem d_G_isFull_1 : decode b_G_isFull 1 = .ok (.getfield 18, 3) := by decide +kernel
theorem d_G_isFull_4 : decode b_G_isFull 4 = .ok (.bipush 8, 2) := by decide +kernel
theorem d_G_isFull_6 : decode b_G_isFull 6 = .ok (.if_icmp .lt 7, 3) := by decide +kernel
theorem d_G_isFull_9 : decode b_G_isFull 9 = .ok (.iconst 1, 1) := by decide +kernel
theorem d_G_isFull_10 : decode b_G_isFull 10 = .ok (.goto 4, 3) := by decide +kernel
theorem d_G_isFull_13 : decode b_G_isFull 13 = .ok (.iconst 0, 1) := by decide +kernel
theorem d_G_isFull_14 : decode b_G_isFull 14 = .ok (.ireturn, 1) := by decide +kernel
theorem d_G_add_0 : decode b_G_add 0 = .ok (.aload_n 0, 1) := by decide +kernel
theorem d_G_add_1 : decode b_G_add 1 = .ok (.invokevirtual 32, 3) := by decide +kernel
theorem d_G_add_4 : decode b_G_add 4 = .ok (.ifCond .ne 33, 3) := by decide +kernel
theorem d_G_add_7 : decode b_G_add 7 = .ok (.aload_n 0, 1) := by decide +kernel
theorem d_G_add_8 : decode b_G_add 8 = .ok (.getfield 9, 3) := by decide +kernel
theorem d_G_add_11 : decode b_G_add 11 = .ok (.aload_n 0, 1) := by decide +kernel
theorem d_G_add_12 : decode b_G_add 12 = .ok (.getfield 18, 3) := by decide +kernel
theorem d_G_add_15 : decode b_G_add 15 = .ok (.iload_n 1, 1) := by decide +kernel
theorem d_G_add_16 : decode b_G_add 16 = .ok (.iastore, 1) := by decide +kernel
theorem d_G_add_17 : decode b_G_add 17 = .ok (.aload_n 0, 1) := by decide +kernel
theorem d_G_add_18 : decode b_G_add 18 = .ok (.getfield 15, 3) := by decide +kernel
theorem d_G_add_21 : decode b_G_add 21 = .ok (.aload_n 0, 1) := by decide +kernel
theorem d_G_add_22 : decode b_G_add 22 = .ok (.getfield 18, 3) := by decide +kernel
theorem d_G_add_25 : decode b_G_add 25 = .ok (.iload_n 2, 1) := by decide +kernel
theorem d_G_add_26 : decode b_G_add 26 = .ok (.iastore, 1) := by decide +kernel
theorem d_G_add_27 : decode b_G_add 27 = .ok (.aload_n 0, 1) := by decide +kernel
theorem d_G_add_28 : decode b_G_add 28 = .ok (.dup, 1) := by decide +kernel
theorem d_G_add_29 : decode b_G_add 29 = .ok (.getfield 18, 3) := by decide +kernel
theorem d_G_add_32 : decode b_G_add 32 = .ok (.iconst 1, 1) := by decide +kernel
theorem d_G_add_33 : decode b_G_add 33 = .ok (.iadd, 1) := by decide +kernel
theorem d_G_add_34 : decode b_G_add 34 = .ok (.putfield 18, 3) := by decide +kernel
theorem d_G_add_37 : decode b_G_add 37 = .ok (.return_, 1) := by decide +kernel
theorem d_G_passOn_0 : decode b_G_passOn 0 = .ok (.aload_n 0, 1) := by decide +kernel
theorem d_G_passOn_1 : decode b_G_passOn 1 = .ok (.getfield 22, 3) := by decide +kernel
theorem d_G_passOn_4 : decode b_G_passOn 4 = .ok (.aload_n 0, 1) := by decide +kernel
theorem d_G_passOn_5 : decode b_G_passOn 5 = .ok (.getfield 18, 3) := by decide +kernel
theorem d_G_passOn_8 : decode b_G_passOn 8 = .ok (.if_icmp .ge 18, 3) := by decide +kernel
theorem d_G_passOn_11 : decode b_G_passOn 11 = .ok (.aload_n 0, 1) := by decide +kernel
theorem d_G_passOn_12 : decode b_G_passOn 12 = .ok (.dup, 1) := by decide +kernel
theorem d_G_passOn_13 : decode b_G_passOn 13 = .ok (.getfield 22, 3) := by decide +kernel
theorem d_G_passOn_16 : decode b_G_passOn 16 = .ok (.iconst 1, 1) := by decide +kernel
theorem d_G_passOn_17 : decode b_G_passOn 17 = .ok (.iadd, 1) := by decide +kernel
theorem d_G_passOn_18 : decode b_G_passOn 18 = .ok (.putfield 22, 3) := by decide +kernel
theorem d_G_passOn_21 : decode b_G_passOn 21 = .ok (.aload_n 0, 1) := by decide +kernel
theorem d_G_passOn_22 : decode b_G_passOn 22 = .ok (.iload_n 1, 1) := by decide +kernel
theorem d_G_passOn_23 : decode b_G_passOn 23 = .ok (.putfield 25, 3) := by decide +kernel
theorem d_G_passOn_26 : decode b_G_passOn 26 = .ok (.return_, 1) := by decide +kernel
theorem d_G_holder_0 : decode b_G_holder 0 = .ok (.aload_n 0, 1) := by decide +kernel
theorem d_G_holder_1 : decode b_G_holder 1 = .ok (.invokevirtual 28, 3) := by decide +kernel
theorem d_G_holder_4 : decode b_G_holder 4 = .ok (.ifCond .eq 15, 3) := by decide +kernel
theorem d_G_holder_7 : decode b_G_holder 7 = .ok (.aload_n 0, 1) := by decide +kernel
theorem d_G_holder_8 : decode b_G_holder 8 = .ok (.getfield 9, 3) := by decide +kernel
theorem d_G_holder_11 : decode b_G_holder 11 = .ok (.aload_n 0, 1) := by decide +kernel
theorem d_G_holder_12 : decode b_G_holder 12 = .ok (.getfield 22, 3) := by decide +kernel
theorem d_G_holder_15 : decode b_G_holder 15 = .ok (.iaload, 1) := by decide +kernel
theorem d_G_holder_16 : decode b_G_holder 16 = .ok (.goto 4, 3) := by decide +kernel
theorem d_G_holder_19 : decode b_G_holder 19 = .ok (.iconst (-1), 1) := by decide +kernel
theorem d_G_holder_20 : decode b_G_holder 20 = .ok (.ireturn, 1) := by decide +kernel
theorem d_G_isOut_0 : decode b_G_isOut 0 = .ok (.aload_n 0, 1) := by decide +kernel
theorem d_G_isOut_1 : decode b_G_isOut 1 = .ok (.getfield 22, 3) := by decide +kernel
theorem d_G_isOut_4 : decode b_G_isOut 4 = .ok (.ifCond .lt 18, 3) := by decide +kernel
theorem d_G_isOut_7 : decode b_G_isOut 7 = .ok (.aload_n 0, 1) := by decide +kernel
theorem d_G_isOut_8 : decode b_G_isOut 8 = .ok (.getfield 22, 3) := by decide +kernel
theorem d_G_isOut_11 : decode b_G_isOut 11 = .ok (.aload_n 0, 1) := by decide +kernel
theorem d_G_isOut_12 : decode b_G_isOut 12 = .ok (.getfield 18, 3) := by decide +kernel
theorem d_G_isOut_15 : decode b_G_isOut 15 = .ok (.if_icmp .ge 7, 3) := by decide +kernel
theorem d_G_isOut_18 : decode b_G_isOut 18 = .ok (.iconst 1, 1) := by decide +kernel
theorem d_G_isOut_19 : decode b_G_isOut 19 = .ok (.goto 4, 3) := by decide +kernel
theorem d_G_isOut_22 : decode b_G_isOut 22 = .ok (.iconst 0, 1) := by decide +kernel
theorem d_G_isOut_23 : decode b_G_isOut 23 = .ok (.ireturn, 1) := by decide +kernel
theorem d_G_isLate_0 : decode b_G_isLate 0 = .ok (.aload_n 0, 1) := by decide +kernel
theorem d_G_isLate_1 : decode b_G_isLate 1 = .ok (.invokevirtual 28, 3) := by decide +kernel
theorem d_G_isLate_4 : decode b_G_isLate 4 = .ok (.ifCond .eq 25, 3) := by decide +kernel
theorem d_G_isLate_7 : decode b_G_isLate 7 = .ok (.iload_n 1, 1) := by decide +kernel
theorem d_G_isLate_8 : decode b_G_isLate 8 = .ok (.aload_n 0, 1) := by decide +kernel
theorem d_G_isLate_9 : decode b_G_isLate 9 = .ok (.getfield 25, 3) := by decide +kernel
theorem d_G_isLate_12 : decode b_G_isLate 12 = .ok (.isub, 1) := by decide +kernel
theorem d_G_isLate_13 : decode b_G_isLate 13 = .ok (.aload_n 0, 1) := by decide +kernel
theorem d_G_isLate_14 : decode b_G_isLate 14 = .ok (.getfield 15, 3) := by decide +kernel
theorem d_G_isLate_17 : decode b_G_isLate 17 = .ok (.aload_n 0, 1) := by decide +kernel
theorem d_G_isLate_18 : decode b_G_isLate 18 = .ok (.getfield 22, 3) := by decide +kernel
theorem d_G_isLate_21 : decode b_G_isLate 21 = .ok (.iaload, 1) := by decide +kernel
theorem d_G_isLate_22 : decode b_G_isLate 22 = .ok (.if_icmp .le 7, 3) := by decide +kernel
theorem d_G_isLate_25 : decode b_G_isLate 25 = .ok (.iconst 1, 1) := by decide +kernel
theorem d_G_isLate_26 : decode b_G_isLate 26 = .ok (.goto 4, 3) := by decide +kernel
theorem d_G_isLate_29 : decode b_G_isLate 29 = .ok (.iconst 0, 1) := by decide +kernel
theorem d_G_isLate_30 : decode b_G_isLate 30 = .ok (.ireturn, 1) := by decide +kernel
theorem d_I_isReplaceable_0 : decode b_I_isReplaceable 0 = .ok (.aload_n 0, 1) := by decide +kernel
theorem d_I_isReplaceable_1 : decode b_I_isReplaceable 1 = .ok (.getfield 56, 3) := by decide +kernel
theorem d_I_isReplaceable_4 : decode b_I_isReplaceable 4 = .ok (.iconst 3, 1) := by decide +kernel
theorem d_I_isReplaceable_5 : decode b_I_isReplaceable 5 = .ok (.if_icmp .eq 11, 3) := by decide +kernel
theorem d_I_isReplaceable_8 : decode b_I_isReplaceable 8 = .ok (.aload_n 0, 1) := by decide +kernel
theorem d_I_isReplaceable_9 : decode b_I_isReplaceable 9 = .ok (.getfield 56, 3) := by decide +kernel
theorem d_I_isReplaceable_12 : decode b_I_isReplaceable 12 = .ok (.iconst 4, 1) := by decide +kernel
theorem d_I_isReplaceable_13 : decode b_I_isReplaceable 13 = .ok (.if_icmp .ne 17, 3) := by decide +kernel
theorem d_I_isReplaceable_16 : decode b_I_isReplaceable 16 = .ok (.aload_n 0, 1) := by decide +kernel
theorem d_I_isReplaceable_17 : decode b_I_isReplaceable 17 = .ok (.getfield 12, 3) := by decide +kernel
theorem d_I_isReplaceable_20 : decode b_I_isReplaceable 20 = .ok (.invokevirtual 59, 3) := by decide +kernel
theorem d_I_isReplaceable_23 : decode b_I_isReplaceable 23 = .ok (.ifCond .ne 7, 3) := by decide +kernel
theorem d_I_isReplaceable_26 : decode b_I_isReplaceable 26 = .ok (.iconst 1, 1) := by decide +kernel
theorem d_I_isReplaceable_27 : decode b_I_isReplaceable 27 = .ok (.goto 4, 3) := by decide +kernel
theorem d_I_isReplaceable_30 : decode b_I_isReplaceable 30 = .ok (.iconst 0, 1) := by decide +kernel
theorem d_I_isReplaceable_31 : decode b_I_isReplaceable 31 = .ok (.ireturn, 1) := by decide +kernel
theorem d_V_isFull_0 : decode b_V_isFull 0 = .ok (.aload_n 0, 1) := by decide +kernel
theorem d_V_isFull_1 : decode b_V_isFull 1 = .ok (.getfield 18, 3) := by decide +kernel
theorem d_V_isFull_4 : decode b_V_isFull 4 = .ok (.bipush 40, 2) := by decide +kernel
theorem d_V_isFull_6 : decode b_V_isFull 6 = .ok (.if_icmp .lt 7, 3) := by decide +kernel
theorem d_V_isFull_9 : decode b_V_isFull 9 = .ok (.iconst 1, 1) := by decide +kernel
theorem d_V_isFull_10 : decode b_V_isFull 10 = .ok (.goto 4, 3) := by decide +kernel
theorem d_V_isFull_13 : decode b_V_isFull 13 = .ok (.iconst 0, 1) := by decide +kernel
end
section
theorem d_V_isFull_14 : decode b_V_isFull 14 = .ok (.ireturn, 1) := by decide +kernel
theorem d_V_open_0 : decode b_V_open 0 = .ok (.aload_n 0, 1) := by decide +kernel
theorem d_V_open_1 : decode b_V_open 1 = .ok (.invokevirtual 22, 3) := by decide +kernel
theorem d_V_open_4 : decode b_V_open 4 = .ok (.ifCond .eq 5, 3) := by decide +kernel
theorem d_V_open_7 : decode b_V_open 7 = .ok (.iconst (-1), 1) := by decide +kernel
theorem d_V_open_8 : decode b_V_open 8 = .ok (.ireturn, 1) := by decide +kernel
theorem d_V_open_9 : decode b_V_open 9 = .ok (.aload_n 0, 1) := by decide +kernel
theorem d_V_open_10 : decode b_V_open 10 = .ok (.getfield 15, 3) := by decide +kernel
theorem d_V_open_13 : decode b_V_open 13 = .ok (.aload_n 0, 1) := by decide +kernel
theorem d_V_open_14 : decode b_V_open 14 = .ok (.getfield 18, 3) := by decide +kernel
theorem d_V_open_17 : decode b_V_open 17 = .ok (.iconst 1, 1) := by decide +kernel
theorem d_V_open_18 : decode b_V_open 18 = .ok (.iadd, 1) := by decide +kernel
theorem d_V_open_19 : decode b_V_open 19 = .ok (.aload_n 0, 1) := by decide +kernel
theorem d_V_open_20 : decode b_V_open 20 = .ok (.getfield 15, 3) := by decide +kernel
theorem d_V_open_23 : decode b_V_open 23 = .ok (.aload_n 0, 1) := by decide +kernel
theorem d_V_open_24 : decode b_V_open 24 = .ok (.getfield 18, 3) := by decide +kernel
theorem d_V_open_27 : decode b_V_open 27 = .ok (.iaload, 1) := by decide +kernel
theorem d_V_open_28 : decode b_V_open 28 = .ok (.iastore, 1) := by decide +kernel
theorem d_V_open_29 : decode b_V_open 29 = .ok (.aload_n 0, 1) := by decide +kernel
theorem d_V_open_30 : decode b_V_open 30 = .ok (.dup, 1) := by decide +kernel
theorem d_V_open_31 : decode b_V_open 31 = .ok (.getfield 18, 3) := by decide +kernel
theorem d_V_open_34 : decode b_V_open 34 = .ok (.iconst 1, 1) := by decide +kernel
theorem d_V_open_35 : decode b_V_open 35 = .ok (.iadd, 1) := by decide +kernel
theorem d_V_open_36 : decode b_V_open 36 = .ok (.putfield 18, 3) := by decide +kernel
theorem d_V_open_39 : decode b_V_open 39 = .ok (.aload_n 0, 1) := by decide +kernel
theorem d_V_open_40 : decode b_V_open 40 = .ok (.getfield 18, 3) := by decide +kernel
theorem d_V_open_43 : decode b_V_open 43 = .ok (.iconst 1, 1) := by decide +kernel
theorem d_V_open_44 : decode b_V_open 44 = .ok (.isub, 1) := by decide +kernel
theorem d_V_open_45 : decode b_V_open 45 = .ok (.ireturn, 1) := by decide +kernel
theorem d_V_add_0 : decode b_V_add 0 = .ok (.aload_n 0, 1) := by decide +kernel
theorem d_V_add_1 : decode b_V_add 1 = .ok (.getfield 18, 3) := by decide +kernel
theorem d_V_add_4 : decode b_V_add 4 = .ok (.iconst 1, 1) := by decide +kernel
theorem d_V_add_5 : decode b_V_add 5 = .ok (.bipush 40, 2) := by decide +kernel
theorem d_V_add_7 : decode b_V_add 7 = .ok (.invokestatic 26, 3) := by decide +kernel
theorem d_V_add_10 : decode b_V_add 10 = .ok (.ifCond .eq 50, 3) := by decide +kernel
theorem d_V_add_13 : decode b_V_add 13 = .ok (.aload_n 0, 1) := by decide +kernel
theorem d_V_add_14 : decode b_V_add 14 = .ok (.getfield 15, 3) := by decide +kernel
theorem d_V_add_17 : decode b_V_add 17 = .ok (.aload_n 0, 1) := by decide +kernel
theorem d_V_add_18 : decode b_V_add 18 = .ok (.getfield 18, 3) := by decide +kernel
theorem d_V_add_21 : decode b_V_add 21 = .ok (.iaload, 1) := by decide +kernel
theorem d_V_add_22 : decode b_V_add 22 = .ok (.iconst 0, 1) := by decide +kernel
theorem d_V_add_23 : decode b_V_add 23 = .ok (.sipush 199, 3) := by decide +kernel
theorem d_V_add_26 : decode b_V_add 26 = .ok (.invokestatic 26, 3) := by decide +kernel
theorem d_V_add_29 : decode b_V_add 29 = .ok (.ifCond .eq 31, 3) := by decide +kernel
theorem d_V_add_32 : decode b_V_add 32 = .ok (.aload_n 0, 1) := by decide +kernel
theorem d_V_add_33 : decode b_V_add 33 = .ok (.getfield 9, 3) := by decide +kernel
theorem d_V_add_36 : decode b_V_add 36 = .ok (.aload_n 0, 1) := by decide +kernel
theorem d_V_add_37 : decode b_V_add 37 = .ok (.getfield 15, 3) := by decide +kernel
theorem d_V_add_40 : decode b_V_add 40 = .ok (.aload_n 0, 1) := by decide +kernel
theorem d_V_add_41 : decode b_V_add 41 = .ok (.getfield 18, 3) := by decide +kernel
theorem d_V_add_44 : decode b_V_add 44 = .ok (.iaload, 1) := by decide +kernel
theorem d_V_add_45 : decode b_V_add 45 = .ok (.iload_n 1, 1) := by decide +kernel
theorem d_V_add_46 : decode b_V_add 46 = .ok (.iastore, 1) := by decide +kernel
theorem d_V_add_47 : decode b_V_add 47 = .ok (.aload_n 0, 1) := by decide +kernel
theorem d_V_add_48 : decode b_V_add 48 = .ok (.getfield 15, 3) := by decide +kernel
theorem d_V_add_51 : decode b_V_add 51 = .ok (.aload_n 0, 1) := by decide +kernel
theorem d_V_add_52 : decode b_V_add 52 = .ok (.getfield 18, 3) := by decide +kernel
theorem d_V_add_55 : decode b_V_add 55 = .ok (.dup2, 1) := by decide +kernel
theorem d_V_add_56 : decode b_V_add 56 = .ok (.iaload, 1) := by decide +kernel
theorem d_V_add_57 : decode b_V_add 57 = .ok (.iconst 1, 1) := by decide +kernel
theorem d_V_add_58 : decode b_V_add 58 = .ok (.iadd, 1) := by decide +kernel
theorem d_V_add_59 : decode b_V_add 59 = .ok (.iastore, 1) := by decide +kernel
theorem d_V_add_60 : decode b_V_add 60 = .ok (.return_, 1) := by decide +kernel
theorem d_S_clear_0 : decode b_S_clear 0 = .ok (.aload_n 0, 1) := by decide +kernel
theorem d_S_clear_1 : decode b_S_clear 1 = .ok (.iconst 0, 1) := by decide +kernel
theorem d_S_clear_2 : decode b_S_clear 2 = .ok (.putfield 21, 3) := by decide +kernel
theorem d_S_clear_5 : decode b_S_clear 5 = .ok (.return_, 1) := by decide +kernel
theorem d_I_isThere_0 : decode b_I_isThere 0 = .ok (.aload_n 0, 1) := by decide +kernel
theorem d_I_isThere_1 : decode b_I_isThere 1 = .ok (.getfield 56, 3) := by decide +kernel
theorem d_I_isThere_4 : decode b_I_isThere 4 = .ok (.iconst 3, 1) := by decide +kernel
theorem d_I_isThere_5 : decode b_I_isThere 5 = .ok (.if_icmp .eq 11, 3) := by decide +kernel
theorem d_I_isThere_8 : decode b_I_isThere 8 = .ok (.aload_n 0, 1) := by decide +kernel
theorem d_I_isThere_9 : decode b_I_isThere 9 = .ok (.getfield 56, 3) := by decide +kernel
theorem d_I_isThere_12 : decode b_I_isThere 12 = .ok (.iconst 5, 1) := by decide +kernel
theorem d_I_isThere_13 : decode b_I_isThere 13 = .ok (.if_icmp .ne 7, 3) := by decide +kernel
theorem d_I_isThere_16 : decode b_I_isThere 16 = .ok (.iconst 1, 1) := by decide +kernel
theorem d_I_isThere_17 : decode b_I_isThere 17 = .ok (.goto 4, 3) := by decide +kernel
theorem d_I_isThere_20 : decode b_I_isThere 20 = .ok (.iconst 0, 1) := by decide +kernel
theorem d_I_isThere_21 : decode b_I_isThere 21 = .ok (.ireturn, 1) := by decide +kernel
theorem d_S_add_0 : decode b_S_add 0 = .ok (.iload_n 2, 1) := by decide +kernel
theorem d_S_add_1 : decode b_S_add 1 = .ok (.ifCond .eq 43, 3) := by decide +kernel
theorem d_S_add_4 : decode b_S_add 4 = .ok (.aload_n 0, 1) := by decide +kernel
theorem d_S_add_5 : decode b_S_add 5 = .ok (.getfield 21, 3) := by decide +kernel
theorem d_S_add_8 : decode b_S_add 8 = .ok (.sipush 200, 3) := by decide +kernel
theorem d_S_add_11 : decode b_S_add 11 = .ok (.if_icmp .ge 33, 3) := by decide +kernel
theorem d_S_add_14 : decode b_S_add 14 = .ok (.aload_n 0, 1) := by decide +kernel
theorem d_S_add_15 : decode b_S_add 15 = .ok (.getfield 9, 3) := by decide +kernel
theorem d_S_add_18 : decode b_S_add 18 = .ok (.aload_n 0, 1) := by decide +kernel
theorem d_S_add_19 : decode b_S_add 19 = .ok (.getfield 21, 3) := by decide +kernel
theorem d_S_add_22 : decode b_S_add 22 = .ok (.iload_n 1, 1) := by decide +kernel
theorem d_S_add_23 : decode b_S_add 23 = .ok (.iastore, 1) := by decide +kernel
theorem d_S_add_24 : decode b_S_add 24 = .ok (.aload_n 0, 1) := by decide +kernel
theorem d_S_add_25 : decode b_S_add 25 = .ok (.getfield 18, 3) := by decide +kernel
theorem d_S_add_28 : decode b_S_add 28 = .ok (.aload_n 0, 1) := by decide +kernel
theorem d_S_add_29 : decode b_S_add 29 = .ok (.getfield 21, 3) := by decide +kernel
theorem d_S_add_32 : decode b_S_add 32 = .ok (.iconst 0, 1) := by decide +kernel
theorem d_S_add_33 : decode b_S_add 33 = .ok (.iastore, 1) := by decide +kernel
theorem d_S_add_34 : decode b_S_add 34 = .ok (.aload_n 0, 1) := by decide +kernel
theorem d_S_add_35 : decode b_S_add 35 = .ok (.dup, 1) := by decide +kernel
theorem d_S_add_36 : decode b_S_add 36 = .ok (.getfield 21, 3) := by decide +kernel
theorem d_S_add_39 : decode b_S_add 39 = .ok (.iconst 1, 1) := by decide +kernel
theorem d_S_add_40 : decode b_S_add 40 = .ok (.iadd, 1) := by decide +kernel
theorem d_S_add_41 : decode b_S_add 41 = .ok (.putfield 21, 3) := by decide +kernel
theorem d_S_add_44 : decode b_S_add 44 = .ok (.aload_n 0, 1) := by decide +kernel
theorem d_S_add_45 : decode b_S_add 45 = .ok (.getfield 21, 3) := by decide +kernel
theorem d_S_add_48 : decode b_S_add 48 = .ok (.ifCond .le 30, 3) := by decide +kernel
theorem d_S_add_51 : decode b_S_add 51 = .ok (.aload_n 0, 1) := by decide +kernel
theorem d_S_add_52 : decode b_S_add 52 = .ok (.getfield 15, 3) := by decide +kernel
theorem d_S_add_55 : decode b_S_add 55 = .ok (.aload_n 0, 1) := by decide +kernel
theorem d_S_add_56 : decode b_S_add 56 = .ok (.getfield 21, 3) := by decide +kernel
theorem d_S_add_59 : decode b_S_add 59 = .ok (.iconst 1, 1) := by decide +kernel
theorem d_S_add_60 : decode b_S_add 60 = .ok (.isub, 1) := by decide +kernel
theorem d_S_add_61 : decode b_S_add 61 = .ok (.iload_n 1, 1) := by decide +kernel
theorem d_S_add_62 : decode b_S_add 62 = .ok (.iastore, 1) := by decide +kernel
theorem d_S_add_63 : decode b_S_add 63 = .ok (.aload_n 0, 1) := by decide +kernel
theorem d_S_add_64 : decode b_S_add 64 = .ok (.getfield 18, 3) := by decide +kernel
theorem d_S_add_67 : decode b_S_add 67 = .ok (.aload_n 0, 1) := by decide +kernel
theorem d_S_add_68 : decode b_S_add 68 = .ok (.getfield 21, 3) := by decide +kernel
theorem d_S_add_71 : decode b_S_add 71 = .ok (.iconst 1, 1) := by decide +kernel
theorem d_S_add_72 : decode b_S_add 72 = .ok (.isub, 1) := by decide +kernel
theorem d_S_add_73 : decode b_S_add 73 = .ok (.dup2, 1) := by decide +kernel
theorem d_S_add_74 : decode b_S_add 74 = .ok (.iaload, 1) := by decide +kernel
theorem d_S_add_75 : decode b_S_add 75 = .ok (.iconst 1, 1) := by decide +kernel
theorem d_S_add_76 : decode b_S_add 76 = .ok (.iadd, 1) := by decide +kernel
theorem d_S_add_77 : decode b_S_add 77 = .ok (.iastore, 1) := by decide +kernel
theorem d_S_add_78 : decode b_S_add 78 = .ok (.return_, 1) := by decide +kernel
theorem d_I_part_0 : decode b_I_part 0 = .ok (.iload_n 1, 1) := by decide +kernel
theorem d_I_part_1 : decode b_I_part 1 = .ok (.tableswitch 117 0 10 #[59, 64, 69, 74, 79, 84, 89, 94, 102, 107, 112], 59) := by decide +kernel
theorem d_I_part_60 : decode b_I_part 60 = .ok (.aload_n 0, 1) := by decide +kernel
theorem d_I_part_61 : decode b_I_part 61 = .ok (.getfield 43, 3) := by decide +kernel
theorem d_I_part_64 : decode b_I_part 64 = .ok (.ireturn, 1) := by decide +kernel
theorem d_I_part_65 : decode b_I_part 65 = .ok (.aload_n 0, 1) := by decide +kernel
theorem d_I_part_66 : decode b_I_part 66 = .ok (.getfield 46, 3) := by decide +kernel
theorem d_I_part_69 : decode b_I_part 69 = .ok (.ireturn, 1) := by decide +kernel
theorem d_I_part_70 : decode b_I_part 70 = .ok (.aload_n 0, 1) := by decide +kernel
theorem d_I_part_71 : decode b_I_part 71 = .ok (.getfield 56, 3) := by decide +kernel
theorem d_I_part_74 : decode b_I_part 74 = .ok (.ireturn, 1) := by decide +kernel
theorem d_I_part_75 : decode b_I_part 75 = .ok (.aload_n 0, 1) := by decide +kernel
theorem d_I_part_76 : decode b_I_part 76 = .ok (.getfield 49, 3) := by decide +kernel
theorem d_I_part_79 : decode b_I_part 79 = .ok (.ireturn, 1) := by decide +kernel
theorem d_I_part_80 : decode b_I_part 80 = .ok (.aload_n 0, 1) := by decide +kernel
theorem d_I_part_81 : decode b_I_part 81 = .ok (.getfield 18, 3) := by decide +kernel
theorem d_I_part_84 : decode b_I_part 84 = .ok (.ireturn, 1) := by decide +kernel
theorem d_I_part_85 : decode b_I_part 85 = .ok (.aload_n 0, 1) := by decide +kernel
theorem d_I_part_86 : decode b_I_part 86 = .ok (.getfield 25, 3) := by decide +kernel
theorem d_I_part_89 : decode b_I_part 89 = .ok (.ireturn, 1) := by decide +kernel
theorem d_I_part_90 : decode b_I_part 90 = .ok (.aload_n 0, 1) := by decide +kernel
theorem d_I_part_91 : decode b_I_part 91 = .ok (.getfield 28, 3) := by decide +kernel
theorem d_I_part_94 : decode b_I_part 94 = .ok (.ireturn, 1) := by decide +kernel
theorem d_I_part_95 : decode b_I_part 95 = .ok (.aload_n 0, 1) := by decide +kernel
theorem d_I_part_96 : decode b_I_part 96 = .ok (.getfield 12, 3) := by decide +kernel
theorem d_I_part_99 : decode b_I_part 99 = .ok (.invokevirtual 63, 3) := by decide +kernel
theorem d_I_part_102 : decode b_I_part 102 = .ok (.ireturn, 1) := by decide +kernel
theorem d_I_part_103 : decode b_I_part 103 = .ok (.aload_n 0, 1) := by decide +kernel
theorem d_I_part_104 : decode b_I_part 104 = .ok (.getfield 31, 3) := by decide +kernel
theorem d_I_part_107 : decode b_I_part 107 = .ok (.ireturn, 1) := by decide +kernel
theorem d_I_part_108 : decode b_I_part 108 = .ok (.aload_n 0, 1) := by decide +kernel
theorem d_I_part_109 : decode b_I_part 109 = .ok (.getfield 34, 3) := by decide +kernel
theorem d_I_part_112 : decode b_I_part 112 = .ok (.ireturn, 1) := by decide +kernel
theorem d_I_part_113 : decode b_I_part 113 = .ok (.aload_n 0, 1) := by decide +kernel
theorem d_I_part_114 : decode b_I_part 114 = .ok (.getfield 37, 3) := by decide +kernel
theorem d_I_part_117 : decode b_I_part 117 = .ok (.ireturn, 1) := by decide +kernel
theorem d_I_part_118 : decode b_I_part 118 = .ok (.iconst (-1), 1) := by decide +kernel
theorem d_I_part_119 : decode b_I_part 119 = .ok (.ireturn, 1) := by decide +kernel
theorem d_P_has_0 : decode b_P_has 0 = .ok (.iload_n 1, 1) := by decide +kernel
theorem d_P_has_1 : decode b_P_has 1 = .ok (.iconst 0, 1) := by decide +kernel
theorem d_P_has_2 : decode b_P_has 2 = .ok (.aload_n 0, 1) := by decide +kernel
theorem d_P_has_3 : decode b_P_has 3 = .ok (.getfield 9, 3) := by decide +kernel
theorem d_P_has_6 : decode b_P_has 6 = .ok (.iconst 1, 1) := by decide +kernel
theorem d_P_has_7 : decode b_P_has 7 = .ok (.isub, 1) := by decide +kernel
theorem d_P_has_8 : decode b_P_has 8 = .ok (.invokestatic 28, 3) := by decide +kernel
theorem d_P_has_11 : decode b_P_has 11 = .ok (.ifCond .eq 16, 3) := by decide +kernel
theorem d_P_has_14 : decode b_P_has 14 = .ok (.iload_n 2, 1) := by decide +kernel
theorem d_P_has_15 : decode b_P_has 15 = .ok (.iconst 0, 1) := by decide +kernel
theorem d_P_has_16 : decode b_P_has 16 = .ok (.iconst 1, 1) := by decide +kernel
theorem d_P_has_17 : decode b_P_has 17 = .ok (.invokestatic 28, 3) := by decide +kernel
theorem d_P_has_20 : decode b_P_has 20 = .ok (.ifCond .eq 7, 3) := by decide +kernel
theorem d_P_has_23 : decode b_P_has 23 = .ok (.iconst 1, 1) := by decide +kernel
theorem d_P_has_24 : decode b_P_has 24 = .ok (.goto 4, 3) := by decide +kernel
theorem d_P_has_27 : decode b_P_has 27 = .ok (.iconst 0, 1) := by decide +kernel
theorem d_P_has_28 : decode b_P_has 28 = .ok (.ireturn, 1) := by decide +kernel
theorem d_P_part_0 : decode b_P_part 0 = .ok (.aload_n 0, 1) := by decide +kernel
theorem d_P_part_1 : decode b_P_part 1 = .ok (.iload_n 1, 1) := by decide +kernel
theorem d_P_part_2 : decode b_P_part 2 = .ok (.iload_n 2, 1) := by decide +kernel
theorem d_P_part_3 : decode b_P_part 3 = .ok (.invokevirtual 32, 3) := by decide +kernel
theorem d_P_part_6 : decode b_P_part 6 = .ok (.ifCond .ne 5, 3) := by decide +kernel
theorem d_P_part_9 : decode b_P_part 9 = .ok (.iconst (-1), 1) := by decide +kernel
theorem d_P_part_10 : decode b_P_part 10 = .ok (.ireturn, 1) := by decide +kernel
theorem d_P_part_11 : decode b_P_part 11 = .ok (.iload_n 2, 1) := by decide +kernel
theorem d_P_part_12 : decode b_P_part 12 = .ok (.ifCond .ne 12, 3) := by decide +kernel
theorem d_P_part_15 : decode b_P_part 15 = .ok (.aload_n 0, 1) := by decide +kernel
theorem d_P_part_16 : decode b_P_part 16 = .ok (.getfield 21, 3) := by decide +kernel
theorem d_P_part_19 : decode b_P_part 19 = .ok (.iload_n 1, 1) := by decide +kernel
theorem d_P_part_20 : decode b_P_part 20 = .ok (.iaload, 1) := by decide +kernel
theorem d_P_part_21 : decode b_P_part 21 = .ok (.goto 9, 3) := by decide +kernel
theorem d_P_part_24 : decode b_P_part 24 = .ok (.aload_n 0, 1) := by decide +kernel
theorem d_P_part_25 : decode b_P_part 25 = .ok (.getfield 25, 3) := by decide +kernel
theorem d_P_part_28 : decode b_P_part 28 = .ok (.iload_n 1, 1) := by decide +kernel
theorem d_P_part_29 : decode b_P_part 29 = .ok (.iaload, 1) := by decide +kernel
theorem d_P_part_30 : decode b_P_part 30 = .ok (.ireturn, 1) := by decide +kernel
theorem d_I_daysLate_0 : decode b_I_daysLate 0 = .ok (.aload_n 0, 1) := by decide +kernel
theorem d_I_daysLate_1 : decode b_I_daysLate 1 = .ok (.getfield 28, 3) := by decide +kernel
theorem d_I_daysLate_4 : decode b_I_daysLate 4 = .ok (.iconst (-1), 1) := by decide +kernel
theorem d_I_daysLate_5 : decode b_I_daysLate 5 = .ok (.if_icmp .eq 22, 3) := by decide +kernel
theorem d_I_daysLate_8 : decode b_I_daysLate 8 = .ok (.aload_n 0, 1) := by decide +kernel
theorem d_I_daysLate_9 : decode b_I_daysLate 9 = .ok (.getfield 49, 3) := by decide +kernel
theorem d_I_daysLate_12 : decode b_I_daysLate 12 = .ok (.iconst (-1), 1) := by decide +kernel
theorem d_I_daysLate_13 : decode b_I_daysLate 13 = .ok (.if_icmp .eq 14, 3) := by decide +kernel
theorem d_I_daysLate_16 : decode b_I_daysLate 16 = .ok (.aload_n 0, 1) := by decide +kernel
theorem d_I_daysLate_17 : decode b_I_daysLate 17 = .ok (.getfield 52, 3) := by decide +kernel
theorem d_I_daysLate_20 : decode b_I_daysLate 20 = .ok (.ifCond .ne 7, 3) := by decide +kernel
theorem d_I_daysLate_23 : decode b_I_daysLate 23 = .ok (.iconst 1, 1) := by decide +kernel
theorem d_I_daysLate_24 : decode b_I_daysLate 24 = .ok (.goto 4, 3) := by decide +kernel
theorem d_I_daysLate_27 : decode b_I_daysLate 27 = .ok (.iconst 0, 1) := by decide +kernel
theorem d_I_daysLate_28 : decode b_I_daysLate 28 = .ok (.istore_n 1, 1) := by decide +kernel
theorem d_I_daysLate_29 : decode b_I_daysLate 29 = .ok (.iload_n 1, 1) := by decide +kernel
theorem d_I_daysLate_30 : decode b_I_daysLate 30 = .ok (.ifCond .eq 26, 3) := by decide +kernel
theorem d_I_daysLate_33 : decode b_I_daysLate 33 = .ok (.aload_n 0, 1) := by decide +kernel
theorem d_I_daysLate_34 : decode b_I_daysLate 34 = .ok (.getfield 28, 3) := by decide +kernel
theorem d_I_daysLate_37 : decode b_I_daysLate 37 = .ok (.aload_n 0, 1) := by decide +kernel
theorem d_I_daysLate_38 : decode b_I_daysLate 38 = .ok (.getfield 49, 3) := by decide +kernel
theorem d_I_daysLate_41 : decode b_I_daysLate 41 = .ok (.if_icmp .le 15, 3) := by decide +kernel
theorem d_I_daysLate_44 : decode b_I_daysLate 44 = .ok (.aload_n 0, 1) := by decide +kernel
theorem d_I_daysLate_45 : decode b_I_daysLate 45 = .ok (.getfield 28, 3) := by decide +kernel
theorem d_I_daysLate_48 : decode b_I_daysLate 48 = .ok (.aload_n 0, 1) := by decide +kernel
theorem d_I_daysLate_49 : decode b_I_daysLate 49 = .ok (.getfield 49, 3) := by decide +kernel
theorem d_I_daysLate_52 : decode b_I_daysLate 52 = .ok (.isub, 1) := by decide +kernel
theorem d_I_daysLate_53 : decode b_I_daysLate 53 = .ok (.goto 4, 3) := by decide +kernel
theorem d_I_daysLate_56 : decode b_I_daysLate 56 = .ok (.iconst 0, 1) := by decide +kernel
theorem d_I_daysLate_57 : decode b_I_daysLate 57 = .ok (.ireturn, 1) := by decide +kernel
theorem d_V_has_0 : decode b_V_has 0 = .ok (.iload_n 1, 1) := by decide +kernel
theorem d_V_has_1 : decode b_V_has 1 = .ok (.iconst 0, 1) := by decide +kernel
theorem d_V_has_2 : decode b_V_has 2 = .ok (.aload_n 0, 1) := by decide +kernel
theorem d_V_has_3 : decode b_V_has 3 = .ok (.getfield 18, 3) := by decide +kernel
theorem d_V_has_6 : decode b_V_has 6 = .ok (.iconst 1, 1) := by decide +kernel
theorem d_V_has_7 : decode b_V_has 7 = .ok (.isub, 1) := by decide +kernel
theorem d_V_has_8 : decode b_V_has 8 = .ok (.invokestatic 26, 3) := by decide +kernel
theorem d_V_has_11 : decode b_V_has 11 = .ok (.ifCond .eq 32, 3) := by decide +kernel
theorem d_V_has_14 : decode b_V_has 14 = .ok (.iload_n 2, 1) := by decide +kernel
theorem d_V_has_15 : decode b_V_has 15 = .ok (.iconst 0, 1) := by decide +kernel
theorem d_V_has_16 : decode b_V_has 16 = .ok (.aload_n 0, 1) := by decide +kernel
theorem d_V_has_17 : decode b_V_has 17 = .ok (.getfield 15, 3) := by decide +kernel
theorem d_V_has_20 : decode b_V_has 20 = .ok (.iload_n 1, 1) := by decide +kernel
theorem d_V_has_21 : decode b_V_has 21 = .ok (.iconst 1, 1) := by decide +kernel
theorem d_V_has_22 : decode b_V_has 22 = .ok (.iadd, 1) := by decide +kernel
theorem d_V_has_23 : decode b_V_has 23 = .ok (.iaload, 1) := by decide +kernel
theorem d_V_has_24 : decode b_V_has 24 = .ok (.aload_n 0, 1) := by decide +kernel
theorem d_V_has_25 : decode b_V_has 25 = .ok (.getfield 15, 3) := by decide +kernel
theorem d_V_has_28 : decode b_V_has 28 = .ok (.iload_n 1, 1) := by decide +kernel
theorem d_V_has_29 : decode b_V_has 29 = .ok (.iaload, 1) := by decide +kernel
theorem d_V_has_30 : decode b_V_has 30 = .ok (.isub, 1) := by decide +kernel
theorem d_V_has_31 : decode b_V_has 31 = .ok (.iconst 1, 1) := by decide +kernel
theorem d_V_has_32 : decode b_V_has 32 = .ok (.isub, 1) := by decide +kernel
theorem d_V_has_33 : decode b_V_has 33 = .ok (.invokestatic 26, 3) := by decide +kernel
theorem d_V_has_36 : decode b_V_has 36 = .ok (.ifCond .eq 7, 3) := by decide +kernel
theorem d_V_has_39 : decode b_V_has 39 = .ok (.iconst 1, 1) := by decide +kernel
theorem d_V_has_40 : decode b_V_has 40 = .ok (.goto 4, 3) := by decide +kernel
theorem d_V_has_43 : decode b_V_has 43 = .ok (.iconst 0, 1) := by decide +kernel
theorem d_V_has_44 : decode b_V_has 44 = .ok (.ireturn, 1) := by decide +kernel
theorem d_V_member_0 : decode b_V_member 0 = .ok (.aload_n 0, 1) := by decide +kernel
theorem d_V_member_1 : decode b_V_member 1 = .ok (.iload_n 1, 1) := by decide +kernel
theorem d_V_member_2 : decode b_V_member 2 = .ok (.iload_n 2, 1) := by decide +kernel
theorem d_V_member_3 : decode b_V_member 3 = .ok (.invokevirtual 30, 3) := by decide +kernel
theorem d_V_member_6 : decode b_V_member 6 = .ok (.ifCond .eq 19, 3) := by decide +kernel
theorem d_V_member_9 : decode b_V_member 9 = .ok (.aload_n 0, 1) := by decide +kernel
theorem d_V_member_10 : decode b_V_member 10 = .ok (.getfield 9, 3) := by decide +kernel
theorem d_V_member_13 : decode b_V_member 13 = .ok (.aload_n 0, 1) := by decide +kernel
theorem d_V_member_14 : decode b_V_member 14 = .ok (.getfield 15, 3) := by decide +kernel
theorem d_V_member_17 : decode b_V_member 17 = .ok (.iload_n 1, 1) := by decide +kernel
theorem d_V_member_18 : decode b_V_member 18 = .ok (.iaload, 1) := by decide +kernel
theorem d_V_member_19 : decode b_V_member 19 = .ok (.iload_n 2, 1) := by decide +kernel
theorem d_V_member_20 : decode b_V_member 20 = .ok (.iadd, 1) := by decide +kernel
theorem d_V_member_21 : decode b_V_member 21 = .ok (.iaload, 1) := by decide +kernel
theorem d_V_member_22 : decode b_V_member 22 = .ok (.goto 4, 3) := by decide +kernel
theorem d_V_member_25 : decode b_V_member 25 = .ok (.iconst (-1), 1) := by decide +kernel
theorem d_V_member_26 : decode b_V_member 26 = .ok (.ireturn, 1) := by decide +kernel
theorem d_S_has_0 : decode b_S_has 0 = .ok (.iload_n 1, 1) := by decide +kernel
theorem d_S_has_1 : decode b_S_has 1 = .ok (.iconst 0, 1) := by decide +kernel
theorem d_S_has_2 : decode b_S_has 2 = .ok (.aload_n 0, 1) := by decide +kernel
theorem d_S_has_3 : decode b_S_has 3 = .ok (.getfield 21, 3) := by decide +kernel
theorem d_S_has_6 : decode b_S_has 6 = .ok (.iconst 1, 1) := by decide +kernel
theorem d_S_has_7 : decode b_S_has 7 = .ok (.isub, 1) := by decide +kernel
theorem d_S_has_8 : decode b_S_has 8 = .ok (.invokestatic 25, 3) := by decide +kernel
theorem d_S_has_11 : decode b_S_has 11 = .ok (.ifCond .eq 16, 3) := by decide +kernel
theorem d_S_has_14 : decode b_S_has 14 = .ok (.iload_n 2, 1) := by decide +kernel
theorem d_S_has_15 : decode b_S_has 15 = .ok (.iconst 0, 1) := by decide +kernel
theorem d_S_has_16 : decode b_S_has 16 = .ok (.iconst 3, 1) := by decide +kernel
theorem d_S_has_17 : decode b_S_has 17 = .ok (.invokestatic 25, 3) := by decide +kernel
theorem d_S_has_20 : decode b_S_has 20 = .ok (.ifCond .eq 7, 3) := by decide +kernel
theorem d_S_has_23 : decode b_S_has 23 = .ok (.iconst 1, 1) := by decide +kernel
theorem d_S_has_24 : decode b_S_has 24 = .ok (.goto 4, 3) := by decide +kernel
theorem d_S_has_27 : decode b_S_has 27 = .ok (.iconst 0, 1) := by decide +kernel
theorem d_S_has_28 : decode b_S_has 28 = .ok (.ireturn, 1) := by decide +kernel
theorem d_S_part_0 : decode b_S_part 0 = .ok (.aload_n 0, 1) := by decide +kernel
theorem d_S_part_1 : decode b_S_part 1 = .ok (.iload_n 1, 1) := by decide +kernel
theorem d_S_part_2 : decode b_S_part 2 = .ok (.iload_n 2, 1) := by decide +kernel
theorem d_S_part_3 : decode b_S_part 3 = .ok (.invokevirtual 29, 3) := by decide +kernel
theorem d_S_part_6 : decode b_S_part 6 = .ok (.ifCond .ne 5, 3) := by decide +kernel
theorem d_S_part_9 : decode b_S_part 9 = .ok (.iconst (-1), 1) := by decide +kernel
theorem d_S_part_10 : decode b_S_part 10 = .ok (.ireturn, 1) := by decide +kernel
theorem d_S_part_11 : decode b_S_part 11 = .ok (.iload_n 2, 1) := by decide +kernel
theorem d_S_part_12 : decode b_S_part 12 = .ok (.tableswitch 49 0 2 #[28, 35, 42], 28) := by decide +kernel
theorem d_S_part_40 : decode b_S_part 40 = .ok (.aload_n 0, 1) := by decide +kernel
theorem d_S_part_41 : decode b_S_part 41 = .ok (.getfield 9, 3) := by decide +kernel
theorem d_S_part_44 : decode b_S_part 44 = .ok (.iload_n 1, 1) := by decide +kernel
theorem d_S_part_45 : decode b_S_part 45 = .ok (.iaload, 1) := by decide +kernel
theorem d_S_part_46 : decode b_S_part 46 = .ok (.ireturn, 1) := by decide +kernel
theorem d_S_part_47 : decode b_S_part 47 = .ok (.aload_n 0, 1) := by decide +kernel
theorem d_S_part_48 : decode b_S_part 48 = .ok (.getfield 15, 3) := by decide +kernel
theorem d_S_part_51 : decode b_S_part 51 = .ok (.iload_n 1, 1) := by decide +kernel
theorem d_S_part_52 : decode b_S_part 52 = .ok (.iaload, 1) := by decide +kernel
theorem d_S_part_53 : decode b_S_part 53 = .ok (.ireturn, 1) := by decide +kernel
theorem d_S_part_54 : decode b_S_part 54 = .ok (.aload_n 0, 1) := by decide +kernel
theorem d_S_part_55 : decode b_S_part 55 = .ok (.getfield 18, 3) := by decide +kernel
theorem d_S_part_58 : decode b_S_part 58 = .ok (.iload_n 1, 1) := by decide +kernel
theorem d_S_part_59 : decode b_S_part 59 = .ok (.iaload, 1) := by decide +kernel
theorem d_S_part_60 : decode b_S_part 60 = .ok (.ireturn, 1) := by decide +kernel
theorem d_S_part_61 : decode b_S_part 61 = .ok (.iload_n 1, 1) := by decide +kernel
theorem d_S_part_62 : decode b_S_part 62 = .ok (.aload_n 0, 1) := by decide +kernel
theorem d_S_part_63 : decode b_S_part 63 = .ok (.getfield 21, 3) := by decide +kernel
theorem d_S_part_66 : decode b_S_part 66 = .ok (.iconst 1, 1) := by decide +kernel
theorem d_S_part_67 : decode b_S_part 67 = .ok (.isub, 1) := by decide +kernel
theorem d_S_part_68 : decode b_S_part 68 = .ok (.if_icmp .ge 7, 3) := by decide +kernel
theorem d_S_part_71 : decode b_S_part 71 = .ok (.iconst 1, 1) := by decide +kernel
theorem d_S_part_72 : decode b_S_part 72 = .ok (.goto 4, 3) := by decide +kernel
theorem d_S_part_75 : decode b_S_part 75 = .ok (.iconst 0, 1) := by decide +kernel
theorem d_S_part_76 : decode b_S_part 76 = .ok (.ireturn, 1) := by decide +kernel
end
section
theorem d_X_init_0 : decode b_X_init 0 = .ok (.aload_n 0, 1) := by decide +kernel
theorem d_X_init_1 : decode b_X_init 1 = .ok (.invokespecial 1, 3) := by decide +kernel
theorem d_X_init_4 : decode b_X_init 4 = .ok (.aload_n 0, 1) := by decide +kernel
theorem d_X_init_5 : decode b_X_init 5 = .ok (.bipush 10, 2) := by decide +kernel
theorem d_X_init_7 : decode b_X_init 7 = .ok (.anewarray 9, 3) := by decide +kernel
theorem d_X_init_10 : decode b_X_init 10 = .ok (.putfield 11, 3) := by decide +kernel
theorem d_X_init_13 : decode b_X_init 13 = .ok (.aload_n 0, 1) := by decide +kernel
theorem d_X_init_14 : decode b_X_init 14 = .ok (.sipush 200, 3) := by decide +kernel
theorem d_X_init_17 : decode b_X_init 17 = .ok (.anewarray 15, 3) := by decide +kernel
theorem d_X_init_20 : decode b_X_init 20 = .ok (.putfield 17, 3) := by decide +kernel
theorem d_X_init_23 : decode b_X_init 23 = .ok (.aload_n 0, 1) := by decide +kernel
theorem d_X_init_24 : decode b_X_init 24 = .ok (.sipush 200, 3) := by decide +kernel
theorem d_X_init_27 : decode b_X_init 27 = .ok (.anewarray 15, 3) := by decide +kernel
theorem d_X_init_30 : decode b_X_init 30 = .ok (.putfield 21, 3) := by decide +kernel
theorem d_X_init_33 : decode b_X_init 33 = .ok (.aload_n 0, 1) := by decide +kernel
theorem d_X_init_34 : decode b_X_init 34 = .ok (.iconst 0, 1) := by decide +kernel
theorem d_X_init_35 : decode b_X_init 35 = .ok (.putfield 24, 3) := by decide +kernel
theorem d_X_init_38 : decode b_X_init 38 = .ok (.aload_n 0, 1) := by decide +kernel
theorem d_X_init_39 : decode b_X_init 39 = .ok (.new 28, 3) := by decide +kernel
theorem d_X_init_42 : decode b_X_init 42 = .ok (.dup, 1) := by decide +kernel
theorem d_X_init_43 : decode b_X_init 43 = .ok (.sipush 200, 3) := by decide +kernel
theorem d_X_init_46 : decode b_X_init 46 = .ok (.invokespecial 30, 3) := by decide +kernel
theorem d_X_init_49 : decode b_X_init 49 = .ok (.putfield 33, 3) := by decide +kernel
theorem d_X_init_52 : decode b_X_init 52 = .ok (.aload_n 0, 1) := by decide +kernel
theorem d_X_init_53 : decode b_X_init 53 = .ok (.new 28, 3) := by decide +kernel
theorem d_X_init_56 : decode b_X_init 56 = .ok (.dup, 1) := by decide +kernel
theorem d_X_init_57 : decode b_X_init 57 = .ok (.bipush 100, 2) := by decide +kernel
theorem d_X_init_59 : decode b_X_init 59 = .ok (.invokespecial 30, 3) := by decide +kernel
theorem d_X_init_62 : decode b_X_init 62 = .ok (.putfield 37, 3) := by decide +kernel
theorem d_X_init_65 : decode b_X_init 65 = .ok (.aload_n 0, 1) := by decide +kernel
theorem d_X_init_66 : decode b_X_init 66 = .ok (.new 40, 3) := by decide +kernel
theorem d_X_init_69 : decode b_X_init 69 = .ok (.dup, 1) := by decide +kernel
theorem d_X_init_70 : decode b_X_init 70 = .ok (.invokespecial 42, 3) := by decide +kernel
theorem d_X_init_73 : decode b_X_init 73 = .ok (.putfield 43, 3) := by decide +kernel
theorem d_X_init_76 : decode b_X_init 76 = .ok (.aload_n 0, 1) := by decide +kernel
theorem d_X_init_77 : decode b_X_init 77 = .ok (.new 47, 3) := by decide +kernel
theorem d_X_init_80 : decode b_X_init 80 = .ok (.dup, 1) := by decide +kernel
theorem d_X_init_81 : decode b_X_init 81 = .ok (.invokespecial 49, 3) := by decide +kernel
theorem d_X_init_84 : decode b_X_init 84 = .ok (.putfield 50, 3) := by decide +kernel
theorem d_X_init_87 : decode b_X_init 87 = .ok (.iconst 0, 1) := by decide +kernel
theorem d_X_init_88 : decode b_X_init 88 = .ok (.istore_n 1, 1) := by decide +kernel
theorem d_X_init_89 : decode b_X_init 89 = .ok (.iload_n 1, 1) := by decide +kernel
theorem d_X_init_90 : decode b_X_init 90 = .ok (.bipush 10, 2) := by decide +kernel
theorem d_X_init_92 : decode b_X_init 92 = .ok (.if_icmp .ge 22, 3) := by decide +kernel
theorem d_X_init_95 : decode b_X_init 95 = .ok (.aload_n 0, 1) := by decide +kernel
theorem d_X_init_96 : decode b_X_init 96 = .ok (.getfield 11, 3) := by decide +kernel
theorem d_X_init_99 : decode b_X_init 99 = .ok (.iload_n 1, 1) := by decide +kernel
theorem d_X_init_100 : decode b_X_init 100 = .ok (.new 9, 3) := by decide +kernel
theorem d_X_init_103 : decode b_X_init 103 = .ok (.dup, 1) := by decide +kernel
theorem d_X_init_104 : decode b_X_init 104 = .ok (.invokespecial 54, 3) := by decide +kernel
theorem d_X_init_107 : decode b_X_init 107 = .ok (.aastore, 1) := by decide +kernel
theorem d_X_init_108 : decode b_X_init 108 = .ok (.iinc 1 1, 3) := by decide +kernel
theorem d_X_init_111 : decode b_X_init 111 = .ok (.goto (-22), 3) := by decide +kernel
theorem d_X_init_114 : decode b_X_init 114 = .ok (.return_, 1) := by decide +kernel
theorem d_X_rule_0 : decode b_X_rule 0 = .ok (.iload_n 1, 1) := by decide +kernel
theorem d_X_rule_1 : decode b_X_rule 1 = .ok (.invokestatic 55, 3) := by decide +kernel
theorem d_X_rule_4 : decode b_X_rule 4 = .ok (.ifCond .ne 5, 3) := by decide +kernel
theorem d_X_rule_7 : decode b_X_rule 7 = .ok (.iconst (-1), 1) := by decide +kernel
theorem d_X_rule_8 : decode b_X_rule 8 = .ok (.ireturn, 1) := by decide +kernel
theorem d_X_rule_9 : decode b_X_rule 9 = .ok (.iload_n 2, 1) := by decide +kernel
theorem d_X_rule_10 : decode b_X_rule 10 = .ok (.iconst 1, 1) := by decide +kernel
theorem d_X_rule_11 : decode b_X_rule 11 = .ok (.sipush 1000, 3) := by decide +kernel
theorem d_X_rule_14 : decode b_X_rule 14 = .ok (.invokestatic 59, 3) := by decide +kernel
theorem d_X_rule_17 : decode b_X_rule 17 = .ok (.ifCond .eq 25, 3) := by decide +kernel
theorem d_X_rule_20 : decode b_X_rule 20 = .ok (.iload_n 3, 1) := by decide +kernel
theorem d_X_rule_21 : decode b_X_rule 21 = .ok (.iconst 1, 1) := by decide +kernel
theorem d_X_rule_22 : decode b_X_rule 22 = .ok (.sipush 1000, 3) := by decide +kernel
theorem d_X_rule_25 : decode b_X_rule 25 = .ok (.invokestatic 59, 3) := by decide +kernel
theorem d_X_rule_28 : decode b_X_rule 28 = .ok (.ifCond .eq 14, 3) := by decide +kernel
theorem d_X_rule_31 : decode b_X_rule 31 = .ok (.iload 4, 2) := by decide +kernel
theorem d_X_rule_33 : decode b_X_rule 33 = .ok (.iconst 0, 1) := by decide +kernel
theorem d_X_rule_34 : decode b_X_rule 34 = .ok (.bipush 9, 2) := by decide +kernel
theorem d_X_rule_36 : decode b_X_rule 36 = .ok (.invokestatic 59, 3) := by decide +kernel
theorem d_X_rule_39 : decode b_X_rule 39 = .ok (.ifCond .ne 6, 3) := by decide +kernel
theorem d_X_rule_42 : decode b_X_rule 42 = .ok (.bipush (-2), 2) := by decide +kernel
theorem d_X_rule_44 : decode b_X_rule 44 = .ok (.ireturn, 1) := by decide +kernel
theorem d_X_rule_45 : decode b_X_rule 45 = .ok (.aload_n 0, 1) := by decide +kernel
theorem d_X_rule_46 : decode b_X_rule 46 = .ok (.getfield 11, 3) := by decide +kernel
theorem d_X_rule_49 : decode b_X_rule 49 = .ok (.iload_n 1, 1) := by decide +kernel
theorem d_X_rule_50 : decode b_X_rule 50 = .ok (.aaload, 1) := by decide +kernel
theorem d_X_rule_51 : decode b_X_rule 51 = .ok (.astore 5, 2) := by decide +kernel
theorem d_X_rule_53 : decode b_X_rule 53 = .ok (.aload 5, 2) := by decide +kernel
theorem d_X_rule_55 : decode b_X_rule 55 = .ok (.iload_n 2, 1) := by decide +kernel
theorem d_X_rule_56 : decode b_X_rule 56 = .ok (.putfield 63, 3) := by decide +kernel
theorem d_X_rule_59 : decode b_X_rule 59 = .ok (.aload 5, 2) := by decide +kernel
theorem d_X_rule_61 : decode b_X_rule 61 = .ok (.iload_n 3, 1) := by decide +kernel
theorem d_X_rule_62 : decode b_X_rule 62 = .ok (.putfield 66, 3) := by decide +kernel
theorem d_X_rule_65 : decode b_X_rule 65 = .ok (.aload 5, 2) := by decide +kernel
theorem d_X_rule_67 : decode b_X_rule 67 = .ok (.iload 4, 2) := by decide +kernel
theorem d_X_rule_69 : decode b_X_rule 69 = .ok (.putfield 69, 3) := by decide +kernel
theorem d_X_rule_72 : decode b_X_rule 72 = .ok (.iconst 1, 1) := by decide +kernel
theorem d_X_rule_73 : decode b_X_rule 73 = .ok (.ireturn, 1) := by decide +kernel
theorem d_X_isPattern_0 : decode b_X_isPattern 0 = .ok (.iload_n 0, 1) := by decide +kernel
theorem d_X_isPattern_1 : decode b_X_isPattern 1 = .ok (.iconst 0, 1) := by decide +kernel
theorem d_X_isPattern_2 : decode b_X_isPattern 2 = .ok (.bipush 9, 2) := by decide +kernel
theorem d_X_isPattern_4 : decode b_X_isPattern 4 = .ok (.invokestatic 59, 3) := by decide +kernel
theorem d_X_isPattern_7 : decode b_X_isPattern 7 = .ok (.ireturn, 1) := by decide +kernel
theorem d_X_within_0 : decode b_X_within 0 = .ok (.iload_n 0, 1) := by decide +kernel
theorem d_X_within_1 : decode b_X_within 1 = .ok (.iload_n 1, 1) := by decide +kernel
theorem d_X_within_2 : decode b_X_within 2 = .ok (.if_icmp .lt 12, 3) := by decide +kernel
theorem d_X_within_5 : decode b_X_within 5 = .ok (.iload_n 0, 1) := by decide +kernel
theorem d_X_within_6 : decode b_X_within 6 = .ok (.iload_n 2, 1) := by decide +kernel
theorem d_X_within_7 : decode b_X_within 7 = .ok (.if_icmp .gt 7, 3) := by decide +kernel
theorem d_X_within_10 : decode b_X_within 10 = .ok (.iconst 1, 1) := by decide +kernel
theorem d_X_within_11 : decode b_X_within 11 = .ok (.goto 4, 3) := by decide +kernel
theorem d_X_within_14 : decode b_X_within 14 = .ok (.iconst 0, 1) := by decide +kernel
theorem d_X_within_15 : decode b_X_within 15 = .ok (.ireturn, 1) := by decide +kernel
theorem d_X_issue_0 : decode b_X_issue 0 = .ok (.iload_n 1, 1) := by decide +kernel
theorem d_X_issue_1 : decode b_X_issue 1 = .ok (.invokestatic 55, 3) := by decide +kernel
theorem d_X_issue_4 : decode b_X_issue 4 = .ok (.ifCond .ne 5, 3) := by decide +kernel
theorem d_X_issue_7 : decode b_X_issue 7 = .ok (.iconst (-1), 1) := by decide +kernel
theorem d_X_issue_8 : decode b_X_issue 8 = .ok (.ireturn, 1) := by decide +kernel
theorem d_X_issue_9 : decode b_X_issue 9 = .ok (.iload_n 2, 1) := by decide +kernel
theorem d_X_issue_10 : decode b_X_issue 10 = .ok (.iconst 1, 1) := by decide +kernel
theorem d_X_issue_11 : decode b_X_issue 11 = .ok (.sipush 9999, 3) := by decide +kernel
theorem d_X_issue_14 : decode b_X_issue 14 = .ok (.invokestatic 59, 3) := by decide +kernel
theorem d_X_issue_17 : decode b_X_issue 17 = .ok (.ifCond .eq 15, 3) := by decide +kernel
theorem d_X_issue_20 : decode b_X_issue 20 = .ok (.iload_n 3, 1) := by decide +kernel
theorem d_X_issue_21 : decode b_X_issue 21 = .ok (.iconst (-1), 1) := by decide +kernel
theorem d_X_issue_22 : decode b_X_issue 22 = .ok (.if_icmp .eq 13, 3) := by decide +kernel
theorem d_X_issue_25 : decode b_X_issue 25 = .ok (.iload_n 3, 1) := by decide +kernel
theorem d_X_issue_26 : decode b_X_issue 26 = .ok (.invokestatic 72, 3) := by decide +kernel
theorem d_X_issue_29 : decode b_X_issue 29 = .ok (.ifCond .ne 6, 3) := by decide +kernel
theorem d_X_issue_32 : decode b_X_issue 32 = .ok (.bipush (-2), 2) := by decide +kernel
theorem d_X_issue_34 : decode b_X_issue 34 = .ok (.ireturn, 1) := by decide +kernel
theorem d_X_issue_35 : decode b_X_issue 35 = .ok (.aload_n 0, 1) := by decide +kernel
theorem d_X_issue_36 : decode b_X_issue 36 = .ok (.iload_n 1, 1) := by decide +kernel
theorem d_X_issue_37 : decode b_X_issue 37 = .ok (.iload_n 2, 1) := by decide +kernel
theorem d_X_issue_38 : decode b_X_issue 38 = .ok (.invokevirtual 75, 3) := by decide +kernel
theorem d_X_issue_41 : decode b_X_issue 41 = .ok (.ifCond .eq 6, 3) := by decide +kernel
theorem d_X_issue_44 : decode b_X_issue 44 = .ok (.bipush (-3), 2) := by decide +kernel
theorem d_X_issue_46 : decode b_X_issue 46 = .ok (.ireturn, 1) := by decide +kernel
theorem d_X_issue_47 : decode b_X_issue 47 = .ok (.aload_n 0, 1) := by decide +kernel
theorem d_X_issue_48 : decode b_X_issue 48 = .ok (.getfield 24, 3) := by decide +kernel
theorem d_X_issue_51 : decode b_X_issue 51 = .ok (.sipush 200, 3) := by decide +kernel
theorem d_X_issue_54 : decode b_X_issue 54 = .ok (.if_icmp .lt 6, 3) := by decide +kernel
theorem d_X_issue_57 : decode b_X_issue 57 = .ok (.bipush (-4), 2) := by decide +kernel
theorem d_X_issue_59 : decode b_X_issue 59 = .ok (.ireturn, 1) := by decide +kernel
theorem d_X_issue_60 : decode b_X_issue 60 = .ok (.new 15, 3) := by decide +kernel
theorem d_X_issue_63 : decode b_X_issue 63 = .ok (.dup, 1) := by decide +kernel
theorem d_X_issue_64 : decode b_X_issue 64 = .ok (.aload_n 0, 1) := by decide +kernel
theorem d_X_issue_65 : decode b_X_issue 65 = .ok (.getfield 24, 3) := by decide +kernel
theorem d_X_issue_68 : decode b_X_issue 68 = .ok (.iload_n 1, 1) := by decide +kernel
theorem d_X_issue_69 : decode b_X_issue 69 = .ok (.iload_n 2, 1) := by decide +kernel
theorem d_X_issue_70 : decode b_X_issue 70 = .ok (.iload_n 3, 1) := by decide +kernel
theorem d_X_issue_71 : decode b_X_issue 71 = .ok (.iconst 0, 1) := by decide +kernel
theorem d_X_issue_72 : decode b_X_issue 72 = .ok (.invokespecial 79, 3) := by decide +kernel
theorem d_X_issue_75 : decode b_X_issue 75 = .ok (.astore 4, 2) := by decide +kernel
theorem d_X_issue_77 : decode b_X_issue 77 = .ok (.aload_n 0, 1) := by decide +kernel
theorem d_X_issue_78 : decode b_X_issue 78 = .ok (.aload 4, 2) := by decide +kernel
theorem d_X_issue_80 : decode b_X_issue 80 = .ok (.invokevirtual 82, 3) := by decide +kernel
theorem d_X_issue_83 : decode b_X_issue 83 = .ok (.aload 4, 2) := by decide +kernel
theorem d_X_issue_85 : decode b_X_issue 85 = .ok (.getfield 86, 3) := by decide +kernel
theorem d_X_issue_88 : decode b_X_issue 88 = .ok (.ireturn, 1) := by decide +kernel
theorem d_X_isDay_0 : decode b_X_isDay 0 = .ok (.iload_n 0, 1) := by decide +kernel
theorem d_X_isDay_1 : decode b_X_isDay 1 = .ok (.iconst 0, 1) := by decide +kernel
theorem d_X_isDay_2 : decode b_X_isDay 2 = .ok (.ldc 212, 2) := by decide +kernel
theorem d_X_isDay_4 : decode b_X_isDay 4 = .ok (.invokestatic 59, 3) := by decide +kernel
theorem d_X_isDay_7 : decode b_X_isDay 7 = .ok (.ireturn, 1) := by decide +kernel
theorem d_X_hasOrdinal_0 : decode b_X_hasOrdinal 0 = .ok (.iconst 0, 1) := by decide +kernel
theorem d_X_hasOrdinal_1 : decode b_X_hasOrdinal 1 = .ok (.istore_n 3, 1) := by decide +kernel
theorem d_X_hasOrdinal_2 : decode b_X_hasOrdinal 2 = .ok (.iload_n 3, 1) := by decide +kernel
theorem d_X_hasOrdinal_3 : decode b_X_hasOrdinal 3 = .ok (.aload_n 0, 1) := by decide +kernel
theorem d_X_hasOrdinal_4 : decode b_X_hasOrdinal 4 = .ok (.getfield 24, 3) := by decide +kernel
theorem d_X_hasOrdinal_7 : decode b_X_hasOrdinal 7 = .ok (.if_icmp .ge 37, 3) := by decide +kernel
theorem d_X_hasOrdinal_10 : decode b_X_hasOrdinal 10 = .ok (.aload_n 0, 1) := by decide +kernel
theorem d_X_hasOrdinal_11 : decode b_X_hasOrdinal 11 = .ok (.getfield 17, 3) := by decide +kernel
theorem d_X_hasOrdinal_14 : decode b_X_hasOrdinal 14 = .ok (.iload_n 3, 1) := by decide +kernel
theorem d_X_hasOrdinal_15 : decode b_X_hasOrdinal 15 = .ok (.aaload, 1) := by decide +kernel
theorem d_X_hasOrdinal_16 : decode b_X_hasOrdinal 16 = .ok (.getfield 167, 3) := by decide +kernel
theorem d_X_hasOrdinal_19 : decode b_X_hasOrdinal 19 = .ok (.iload_n 1, 1) := by decide +kernel
theorem d_X_hasOrdinal_20 : decode b_X_hasOrdinal 20 = .ok (.if_icmp .ne 18, 3) := by decide +kernel
theorem d_X_hasOrdinal_23 : decode b_X_hasOrdinal 23 = .ok (.aload_n 0, 1) := by decide +kernel
theorem d_X_hasOrdinal_24 : decode b_X_hasOrdinal 24 = .ok (.getfield 17, 3) := by decide +kernel
theorem d_X_hasOrdinal_27 : decode b_X_hasOrdinal 27 = .ok (.iload_n 3, 1) := by decide +kernel
theorem d_X_hasOrdinal_28 : decode b_X_hasOrdinal 28 = .ok (.aaload, 1) := by decide +kernel
theorem d_X_hasOrdinal_29 : decode b_X_hasOrdinal 29 = .ok (.getfield 170, 3) := by decide +kernel
theorem d_X_hasOrdinal_32 : decode b_X_hasOrdinal 32 = .ok (.iload_n 2, 1) := by decide +kernel
theorem d_X_hasOrdinal_33 : decode b_X_hasOrdinal 33 = .ok (.if_icmp .ne 5, 3) := by decide +kernel
theorem d_X_hasOrdinal_36 : decode b_X_hasOrdinal 36 = .ok (.iconst 1, 1) := by decide +kernel
theorem d_X_hasOrdinal_37 : decode b_X_hasOrdinal 37 = .ok (.ireturn, 1) := by decide +kernel
theorem d_X_hasOrdinal_38 : decode b_X_hasOrdinal 38 = .ok (.iinc 3 1, 3) := by decide +kernel
theorem d_X_hasOrdinal_41 : decode b_X_hasOrdinal 41 = .ok (.goto (-39), 3) := by decide +kernel
theorem d_X_hasOrdinal_44 : decode b_X_hasOrdinal 44 = .ok (.iconst 0, 1) := by decide +kernel
theorem d_X_hasOrdinal_45 : decode b_X_hasOrdinal 45 = .ok (.ireturn, 1) := by decide +kernel
theorem d_X_keep_0 : decode b_X_keep 0 = .ok (.aload_n 0, 1) := by decide +kernel
theorem d_X_keep_1 : decode b_X_keep 1 = .ok (.getfield 24, 3) := by decide +kernel
theorem d_X_keep_4 : decode b_X_keep 4 = .ok (.sipush 200, 3) := by decide +kernel
theorem d_X_keep_7 : decode b_X_keep 7 = .ok (.if_icmp .lt 4, 3) := by decide +kernel
theorem d_X_keep_10 : decode b_X_keep 10 = .ok (.return_, 1) := by decide +kernel
theorem d_X_keep_11 : decode b_X_keep 11 = .ok (.aload_n 0, 1) := by decide +kernel
theorem d_X_keep_12 : decode b_X_keep 12 = .ok (.getfield 24, 3) := by decide +kernel
theorem d_X_keep_15 : decode b_X_keep 15 = .ok (.istore_n 2, 1) := by decide +kernel
theorem d_X_keep_16 : decode b_X_keep 16 = .ok (.iload_n 2, 1) := by decide +kernel
theorem d_X_keep_17 : decode b_X_keep 17 = .ok (.ifCond .le 41, 3) := by decide +kernel
theorem d_X_keep_20 : decode b_X_keep 20 = .ok (.aload_n 0, 1) := by decide +kernel
theorem d_X_keep_21 : decode b_X_keep 21 = .ok (.getfield 21, 3) := by decide +kernel
theorem d_X_keep_24 : decode b_X_keep 24 = .ok (.iload_n 2, 1) := by decide +kernel
theorem d_X_keep_25 : decode b_X_keep 25 = .ok (.iconst 1, 1) := by decide +kernel
theorem d_X_keep_26 : decode b_X_keep 26 = .ok (.isub, 1) := by decide +kernel
theorem d_X_keep_27 : decode b_X_keep 27 = .ok (.aaload, 1) := by decide +kernel
theorem d_X_keep_28 : decode b_X_keep 28 = .ok (.getfield 170, 3) := by decide +kernel
theorem d_X_keep_31 : decode b_X_keep 31 = .ok (.aload_n 1, 1) := by decide +kernel
theorem d_X_keep_32 : decode b_X_keep 32 = .ok (.getfield 170, 3) := by decide +kernel
theorem d_X_keep_35 : decode b_X_keep 35 = .ok (.if_icmp .le 23, 3) := by decide +kernel
theorem d_X_keep_38 : decode b_X_keep 38 = .ok (.aload_n 0, 1) := by decide +kernel
theorem d_X_keep_39 : decode b_X_keep 39 = .ok (.getfield 21, 3) := by decide +kernel
theorem d_X_keep_42 : decode b_X_keep 42 = .ok (.iload_n 2, 1) := by decide +kernel
theorem d_X_keep_43 : decode b_X_keep 43 = .ok (.aload_n 0, 1) := by decide +kernel
theorem d_X_keep_44 : decode b_X_keep 44 = .ok (.getfield 21, 3) := by decide +kernel
theorem d_X_keep_47 : decode b_X_keep 47 = .ok (.iload_n 2, 1) := by decide +kernel
theorem d_X_keep_48 : decode b_X_keep 48 = .ok (.iconst 1, 1) := by decide +kernel
theorem d_X_keep_49 : decode b_X_keep 49 = .ok (.isub, 1) := by decide +kernel
theorem d_X_keep_50 : decode b_X_keep 50 = .ok (.aaload, 1) := by decide +kernel
theorem d_X_keep_51 : decode b_X_keep 51 = .ok (.aastore, 1) := by decide +kernel
theorem d_X_keep_52 : decode b_X_keep 52 = .ok (.iinc 2 (-1), 3) := by decide +kernel
theorem d_X_keep_55 : decode b_X_keep 55 = .ok (.goto (-39), 3) := by decide +kernel
theorem d_X_keep_58 : decode b_X_keep 58 = .ok (.aload_n 0, 1) := by decide +kernel
theorem d_X_keep_59 : decode b_X_keep 59 = .ok (.getfield 21, 3) := by decide +kernel
theorem d_X_keep_62 : decode b_X_keep 62 = .ok (.iload_n 2, 1) := by decide +kernel
theorem d_X_keep_63 : decode b_X_keep 63 = .ok (.aload_n 1, 1) := by decide +kernel
theorem d_X_keep_64 : decode b_X_keep 64 = .ok (.aastore, 1) := by decide +kernel
theorem d_X_keep_65 : decode b_X_keep 65 = .ok (.aload_n 0, 1) := by decide +kernel
theorem d_X_keep_66 : decode b_X_keep 66 = .ok (.getfield 17, 3) := by decide +kernel
theorem d_X_keep_69 : decode b_X_keep 69 = .ok (.aload_n 0, 1) := by decide +kernel
theorem d_X_keep_70 : decode b_X_keep 70 = .ok (.getfield 24, 3) := by decide +kernel
theorem d_X_keep_73 : decode b_X_keep 73 = .ok (.aload_n 1, 1) := by decide +kernel
theorem d_X_keep_74 : decode b_X_keep 74 = .ok (.aastore, 1) := by decide +kernel
theorem d_X_keep_75 : decode b_X_keep 75 = .ok (.aload_n 0, 1) := by decide +kernel
theorem d_X_keep_76 : decode b_X_keep 76 = .ok (.dup, 1) := by decide +kernel
theorem d_X_keep_77 : decode b_X_keep 77 = .ok (.getfield 24, 3) := by decide +kernel
theorem d_X_keep_80 : decode b_X_keep 80 = .ok (.iconst 1, 1) := by decide +kernel
theorem d_X_keep_81 : decode b_X_keep 81 = .ok (.iadd, 1) := by decide +kernel
theorem d_X_keep_82 : decode b_X_keep 82 = .ok (.putfield 24, 3) := by decide +kernel
theorem d_X_keep_85 : decode b_X_keep 85 = .ok (.return_, 1) := by decide +kernel
theorem d_X_checkIn_0 : decode b_X_checkIn 0 = .ok (.aload_n 0, 1) := by decide +kernel
theorem d_X_checkIn_1 : decode b_X_checkIn 1 = .ok (.iload_n 1, 1) := by decide +kernel
theorem d_X_checkIn_2 : decode b_X_checkIn 2 = .ok (.invokevirtual 89, 3) := by decide +kernel
theorem d_X_checkIn_5 : decode b_X_checkIn 5 = .ok (.astore 4, 2) := by decide +kernel
theorem d_X_checkIn_7 : decode b_X_checkIn 7 = .ok (.aload 4, 2) := by decide +kernel
theorem d_X_checkIn_9 : decode b_X_checkIn 9 = .ok (.ifnonnull 5, 3) := by decide +kernel
theorem d_X_checkIn_12 : decode b_X_checkIn 12 = .ok (.iconst (-1), 1) := by decide +kernel
theorem d_X_checkIn_13 : decode b_X_checkIn 13 = .ok (.ireturn, 1) := by decide +kernel
theorem d_X_checkIn_14 : decode b_X_checkIn 14 = .ok (.iload_n 2, 1) := by decide +kernel
theorem d_X_checkIn_15 : decode b_X_checkIn 15 = .ok (.iconst 1, 1) := by decide +kernel
theorem d_X_checkIn_16 : decode b_X_checkIn 16 = .ok (.bipush 99, 2) := by decide +kernel
theorem d_X_checkIn_18 : decode b_X_checkIn 18 = .ok (.invokestatic 59, 3) := by decide +kernel
theorem d_X_checkIn_21 : decode b_X_checkIn 21 = .ok (.ifCond .eq 10, 3) := by decide +kernel
theorem d_X_checkIn_24 : decode b_X_checkIn 24 = .ok (.iload_n 3, 1) := by decide +kernel
theorem d_X_checkIn_25 : decode b_X_checkIn 25 = .ok (.invokestatic 72, 3) := by decide +kernel
theorem d_X_checkIn_28 : decode b_X_checkIn 28 = .ok (.ifCond .ne 6, 3) := by decide +kernel
theorem d_X_checkIn_31 : decode b_X_checkIn 31 = .ok (.bipush (-2), 2) := by decide +kernel
theorem d_X_checkIn_33 : decode b_X_checkIn 33 = .ok (.ireturn, 1) := by decide +kernel
theorem d_X_checkIn_34 : decode b_X_checkIn 34 = .ok (.aload 4, 2) := by decide +kernel
theorem d_X_checkIn_36 : decode b_X_checkIn 36 = .ok (.invokevirtual 93, 3) := by decide +kernel
theorem d_X_checkIn_39 : decode b_X_checkIn 39 = .ok (.ifCond .ne 6, 3) := by decide +kernel
theorem d_X_checkIn_42 : decode b_X_checkIn 42 = .ok (.bipush (-3), 2) := by decide +kernel
theorem d_X_checkIn_44 : decode b_X_checkIn 44 = .ok (.ireturn, 1) := by decide +kernel
theorem d_X_checkIn_45 : decode b_X_checkIn 45 = .ok (.aload 4, 2) := by decide +kernel
theorem d_X_checkIn_47 : decode b_X_checkIn 47 = .ok (.getfield 97, 3) := by decide +kernel
theorem d_X_checkIn_50 : decode b_X_checkIn 50 = .ok (.ifCond .ne 7, 3) := by decide +kernel
theorem d_X_checkIn_53 : decode b_X_checkIn 53 = .ok (.iconst 1, 1) := by decide +kernel
theorem d_X_checkIn_54 : decode b_X_checkIn 54 = .ok (.goto 4, 3) := by decide +kernel
theorem d_X_checkIn_57 : decode b_X_checkIn 57 = .ok (.iconst 0, 1) := by decide +kernel
theorem d_X_checkIn_58 : decode b_X_checkIn 58 = .ok (.istore 5, 2) := by decide +kernel
theorem d_X_checkIn_60 : decode b_X_checkIn 60 = .ok (.iload 5, 2) := by decide +kernel
theorem d_X_checkIn_62 : decode b_X_checkIn 62 = .ok (.ifCond .eq 19, 3) := by decide +kernel
theorem d_X_checkIn_65 : decode b_X_checkIn 65 = .ok (.aload_n 0, 1) := by decide +kernel
theorem d_X_checkIn_66 : decode b_X_checkIn 66 = .ok (.getfield 37, 3) := by decide +kernel
theorem d_X_checkIn_69 : decode b_X_checkIn 69 = .ok (.iconst 1, 1) := by decide +kernel
theorem d_X_checkIn_70 : decode b_X_checkIn 70 = .ok (.aload 4, 2) := by decide +kernel
theorem d_X_checkIn_72 : decode b_X_checkIn 72 = .ok (.getfield 86, 3) := by decide +kernel
theorem d_X_checkIn_75 : decode b_X_checkIn 75 = .ok (.invokevirtual 100, 3) := by decide +kernel
theorem d_X_checkIn_78 : decode b_X_checkIn 78 = .ok (.goto 34, 3) := by decide +kernel
theorem d_X_checkIn_81 : decode b_X_checkIn 81 = .ok (.aload 4, 2) := by decide +kernel
theorem d_X_checkIn_83 : decode b_X_checkIn 83 = .ok (.getfield 97, 3) := by decide +kernel
theorem d_X_checkIn_86 : decode b_X_checkIn 86 = .ok (.iconst 4, 1) := by decide +kernel
theorem d_X_checkIn_87 : decode b_X_checkIn 87 = .ok (.if_icmp .eq 12, 3) := by decide +kernel
theorem d_X_checkIn_90 : decode b_X_checkIn 90 = .ok (.iload_n 3, 1) := by decide +kernel
theorem d_X_checkIn_91 : decode b_X_checkIn 91 = .ok (.aload 4, 2) := by decide +kernel
theorem d_X_checkIn_93 : decode b_X_checkIn 93 = .ok (.getfield 104, 3) := by decide +kernel
theorem d_X_checkIn_96 : decode b_X_checkIn 96 = .ok (.if_icmp .le 16, 3) := by decide +kernel
theorem d_X_checkIn_99 : decode b_X_checkIn 99 = .ok (.aload_n 0, 1) := by decide +kernel
theorem d_X_checkIn_100 : decode b_X_checkIn 100 = .ok (.getfield 37, 3) := by decide +kernel
theorem d_X_checkIn_103 : decode b_X_checkIn 103 = .ok (.iconst 2, 1) := by decide +kernel
theorem d_X_checkIn_104 : decode b_X_checkIn 104 = .ok (.aload 4, 2) := by decide +kernel
theorem d_X_checkIn_106 : decode b_X_checkIn 106 = .ok (.getfield 86, 3) := by decide +kernel
theorem d_X_checkIn_109 : decode b_X_checkIn 109 = .ok (.invokevirtual 100, 3) := by decide +kernel
theorem d_X_checkIn_112 : decode b_X_checkIn 112 = .ok (.aload 4, 2) := by decide +kernel
theorem d_X_checkIn_114 : decode b_X_checkIn 114 = .ok (.iload_n 2, 1) := by decide +kernel
theorem d_X_checkIn_115 : decode b_X_checkIn 115 = .ok (.iload_n 3, 1) := by decide +kernel
theorem d_X_checkIn_116 : decode b_X_checkIn 116 = .ok (.invokevirtual 107, 3) := by decide +kernel
theorem d_X_checkIn_119 : decode b_X_checkIn 119 = .ok (.iload 5, 2) := by decide +kernel
theorem d_X_checkIn_121 : decode b_X_checkIn 121 = .ok (.ifCond .eq 7, 3) := by decide +kernel
theorem d_X_checkIn_124 : decode b_X_checkIn 124 = .ok (.iconst 0, 1) := by decide +kernel
theorem d_X_checkIn_125 : decode b_X_checkIn 125 = .ok (.goto 4, 3) := by decide +kernel
theorem d_X_checkIn_128 : decode b_X_checkIn 128 = .ok (.iconst 1, 1) := by decide +kernel
theorem d_X_checkIn_129 : decode b_X_checkIn 129 = .ok (.ireturn, 1) := by decide +kernel
theorem d_X_find_0 : decode b_X_find 0 = .ok (.iload_n 1, 1) := by decide +kernel
theorem d_X_find_1 : decode b_X_find 1 = .ok (.iconst 0, 1) := by decide +kernel
theorem d_X_find_2 : decode b_X_find 2 = .ok (.aload_n 0, 1) := by decide +kernel
theorem d_X_find_3 : decode b_X_find 3 = .ok (.getfield 24, 3) := by decide +kernel
theorem d_X_find_6 : decode b_X_find 6 = .ok (.iconst 1, 1) := by decide +kernel
theorem d_X_find_7 : decode b_X_find 7 = .ok (.isub, 1) := by decide +kernel
theorem d_X_find_8 : decode b_X_find 8 = .ok (.invokestatic 59, 3) := by decide +kernel
theorem d_X_find_11 : decode b_X_find 11 = .ok (.ifCond .eq 12, 3) := by decide +kernel
theorem d_X_find_14 : decode b_X_find 14 = .ok (.aload_n 0, 1) := by decide +kernel
theorem d_X_find_15 : decode b_X_find 15 = .ok (.getfield 17, 3) := by decide +kernel
theorem d_X_find_18 : decode b_X_find 18 = .ok (.iload_n 1, 1) := by decide +kernel
theorem d_X_find_19 : decode b_X_find 19 = .ok (.aaload, 1) := by decide +kernel
theorem d_X_find_20 : decode b_X_find 20 = .ok (.goto 4, 3) := by decide +kernel
theorem d_X_find_23 : decode b_X_find 23 = .ok (.aconst_null, 1) := by decide +kernel
theorem d_X_find_24 : decode b_X_find 24 = .ok (.areturn, 1) := by decide +kernel
theorem d_X_claim_0 : decode b_X_claim 0 = .ok (.iload_n 1, 1) := by decide +kernel
theorem d_X_claim_1 : decode b_X_claim 1 = .ok (.invokestatic 72, 3) := by decide +kernel
theorem d_X_claim_4 : decode b_X_claim 4 = .ok (.ifCond .ne 6, 3) := by decide +kernel
theorem d_X_claim_7 : decode b_X_claim 7 = .ok (.bipush (-2), 2) := by decide +kernel
theorem d_X_claim_9 : decode b_X_claim 9 = .ok (.ireturn, 1) := by decide +kernel
theorem d_X_claim_10 : decode b_X_claim 10 = .ok (.aload_n 0, 1) := by decide +kernel
theorem d_X_claim_11 : decode b_X_claim 11 = .ok (.getfield 33, 3) := by decide +kernel
theorem d_X_claim_14 : decode b_X_claim 14 = .ok (.invokevirtual 110, 3) := by decide +kernel
theorem d_X_claim_17 : decode b_X_claim 17 = .ok (.iconst 0, 1) := by decide +kernel
theorem d_X_claim_18 : decode b_X_claim 18 = .ok (.istore_n 2, 1) := by decide +kernel
theorem d_X_claim_19 : decode b_X_claim 19 = .ok (.iload_n 2, 1) := by decide +kernel
theorem d_X_claim_20 : decode b_X_claim 20 = .ok (.aload_n 0, 1) := by decide +kernel
theorem d_X_claim_21 : decode b_X_claim 21 = .ok (.getfield 24, 3) := by decide +kernel
theorem d_X_claim_24 : decode b_X_claim 24 = .ok (.if_icmp .ge 20, 3) := by decide +kernel
theorem d_X_claim_27 : decode b_X_claim 27 = .ok (.aload_n 0, 1) := by decide +kernel
theorem d_X_claim_28 : decode b_X_claim 28 = .ok (.aload_n 0, 1) := by decide +kernel
theorem d_X_claim_29 : decode b_X_claim 29 = .ok (.getfield 17, 3) := by decide +kernel
theorem d_X_claim_32 : decode b_X_claim 32 = .ok (.iload_n 2, 1) := by decide +kernel
theorem d_X_claim_33 : decode b_X_claim 33 = .ok (.aaload, 1) := by decide +kernel
theorem d_X_claim_34 : decode b_X_claim 34 = .ok (.iload_n 1, 1) := by decide +kernel
theorem d_X_claim_35 : decode b_X_claim 35 = .ok (.invokevirtual 113, 3) := by decide +kernel
theorem d_X_claim_38 : decode b_X_claim 38 = .ok (.iinc 2 1, 3) := by decide +kernel
theorem d_X_claim_41 : decode b_X_claim 41 = .ok (.goto (-22), 3) := by decide +kernel
theorem d_X_claim_44 : decode b_X_claim 44 = .ok (.aload_n 0, 1) := by decide +kernel
theorem d_X_claim_45 : decode b_X_claim 45 = .ok (.getfield 33, 3) := by decide +kernel
theorem d_X_claim_48 : decode b_X_claim 48 = .ok (.getfield 117, 3) := by decide +kernel
theorem d_X_claim_51 : decode b_X_claim 51 = .ok (.ireturn, 1) := by decide +kernel
theorem d_X_claimIfDue_0 : decode b_X_claimIfDue 0 = .ok (.aload_n 0, 1) := by decide +kernel
theorem d_X_claimIfDue_1 : decode b_X_claimIfDue 1 = .ok (.getfield 11, 3) := by decide +kernel
theorem d_X_claimIfDue_4 : decode b_X_claimIfDue 4 = .ok (.aload_n 1, 1) := by decide +kernel
theorem d_X_claimIfDue_5 : decode b_X_claimIfDue 5 = .ok (.getfield 167, 3) := by decide +kernel
theorem d_X_claimIfDue_8 : decode b_X_claimIfDue 8 = .ok (.aaload, 1) := by decide +kernel
theorem d_X_claimIfDue_9 : decode b_X_claimIfDue 9 = .ok (.astore_n 3, 1) := by decide +kernel
theorem d_X_claimIfDue_10 : decode b_X_claimIfDue 10 = .ok (.aload_n 3, 1) := by decide +kernel
theorem d_X_claimIfDue_11 : decode b_X_claimIfDue 11 = .ok (.aload_n 1, 1) := by decide +kernel
theorem d_X_claimIfDue_12 : decode b_X_claimIfDue 12 = .ok (.iload_n 2, 1) := by decide +kernel
theorem d_X_claimIfDue_13 : decode b_X_claimIfDue 13 = .ok (.invokevirtual 213, 3) := by decide +kernel
end
section
theorem d_X_claimIfDue_16 : decode b_X_claimIfDue 16 = .ok (.ifCond .ne 4, 3) := by decide +kernel
theorem d_X_claimIfDue_19 : decode b_X_claimIfDue 19 = .ok (.return_, 1) := by decide +kernel
theorem d_X_claimIfDue_20 : decode b_X_claimIfDue 20 = .ok (.aload_n 1, 1) := by decide +kernel
theorem d_X_claimIfDue_21 : decode b_X_claimIfDue 21 = .ok (.getfield 217, 3) := by decide +kernel
theorem d_X_claimIfDue_24 : decode b_X_claimIfDue 24 = .ok (.aload_n 3, 1) := by decide +kernel
theorem d_X_claimIfDue_25 : decode b_X_claimIfDue 25 = .ok (.getfield 69, 3) := by decide +kernel
theorem d_X_claimIfDue_28 : decode b_X_claimIfDue 28 = .ok (.if_icmp .ge 26, 3) := by decide +kernel
theorem d_X_claimIfDue_31 : decode b_X_claimIfDue 31 = .ok (.aload_n 1, 1) := by decide +kernel
theorem d_X_claimIfDue_32 : decode b_X_claimIfDue 32 = .ok (.iload_n 2, 1) := by decide +kernel
theorem d_X_claimIfDue_33 : decode b_X_claimIfDue 33 = .ok (.invokevirtual 220, 3) := by decide +kernel
theorem d_X_claimIfDue_36 : decode b_X_claimIfDue 36 = .ok (.aload_n 0, 1) := by decide +kernel
theorem d_X_claimIfDue_37 : decode b_X_claimIfDue 37 = .ok (.getfield 33, 3) := by decide +kernel
theorem d_X_claimIfDue_40 : decode b_X_claimIfDue 40 = .ok (.aload_n 1, 1) := by decide +kernel
theorem d_X_claimIfDue_41 : decode b_X_claimIfDue 41 = .ok (.getfield 86, 3) := by decide +kernel
theorem d_X_claimIfDue_44 : decode b_X_claimIfDue 44 = .ok (.aload_n 1, 1) := by decide +kernel
theorem d_X_claimIfDue_45 : decode b_X_claimIfDue 45 = .ok (.getfield 217, 3) := by decide +kernel
theorem d_X_claimIfDue_48 : decode b_X_claimIfDue 48 = .ok (.invokevirtual 100, 3) := by decide +kernel
theorem d_X_claimIfDue_51 : decode b_X_claimIfDue 51 = .ok (.goto 20, 3) := by decide +kernel
theorem d_X_claimIfDue_54 : decode b_X_claimIfDue 54 = .ok (.aload_n 1, 1) := by decide +kernel
theorem d_X_claimIfDue_55 : decode b_X_claimIfDue 55 = .ok (.iconst 4, 1) := by decide +kernel
theorem d_X_claimIfDue_56 : decode b_X_claimIfDue 56 = .ok (.putfield 97, 3) := by decide +kernel
theorem d_X_claimIfDue_59 : decode b_X_claimIfDue 59 = .ok (.aload_n 0, 1) := by decide +kernel
theorem d_X_claimIfDue_60 : decode b_X_claimIfDue 60 = .ok (.getfield 37, 3) := by decide +kernel
theorem d_X_claimIfDue_63 : decode b_X_claimIfDue 63 = .ok (.iconst 3, 1) := by decide +kernel
theorem d_X_claimIfDue_64 : decode b_X_claimIfDue 64 = .ok (.aload_n 1, 1) := by decide +kernel
theorem d_X_claimIfDue_65 : decode b_X_claimIfDue 65 = .ok (.getfield 86, 3) := by decide +kernel
theorem d_X_claimIfDue_68 : decode b_X_claimIfDue 68 = .ok (.invokevirtual 100, 3) := by decide +kernel
theorem d_X_claimIfDue_71 : decode b_X_claimIfDue 71 = .ok (.return_, 1) := by decide +kernel
theorem d_X_list_0 : decode b_X_list 0 = .ok (.aload_n 0, 1) := by decide +kernel
theorem d_X_list_1 : decode b_X_list 1 = .ok (.iload_n 1, 1) := by decide +kernel
theorem d_X_list_2 : decode b_X_list 2 = .ok (.invokevirtual 89, 3) := by decide +kernel
theorem d_X_list_5 : decode b_X_list 5 = .ok (.astore 4, 2) := by decide +kernel
theorem d_X_list_7 : decode b_X_list 7 = .ok (.aload 4, 2) := by decide +kernel
theorem d_X_list_9 : decode b_X_list 9 = .ok (.ifnonnull 5, 3) := by decide +kernel
theorem d_X_list_12 : decode b_X_list 12 = .ok (.iconst (-1), 1) := by decide +kernel
theorem d_X_list_13 : decode b_X_list 13 = .ok (.ireturn, 1) := by decide +kernel
theorem d_X_list_14 : decode b_X_list 14 = .ok (.iload_n 2, 1) := by decide +kernel
theorem d_X_list_15 : decode b_X_list 15 = .ok (.iconst 0, 1) := by decide +kernel
theorem d_X_list_16 : decode b_X_list 16 = .ok (.sipush 999, 3) := by decide +kernel
theorem d_X_list_19 : decode b_X_list 19 = .ok (.invokestatic 59, 3) := by decide +kernel
theorem d_X_list_22 : decode b_X_list 22 = .ok (.ifCond .eq 13, 3) := by decide +kernel
theorem d_X_list_25 : decode b_X_list 25 = .ok (.iload_n 3, 1) := by decide +kernel
theorem d_X_list_26 : decode b_X_list 26 = .ok (.iconst 1, 1) := by decide +kernel
theorem d_X_list_27 : decode b_X_list 27 = .ok (.bipush 100, 2) := by decide +kernel
theorem d_X_list_29 : decode b_X_list 29 = .ok (.invokestatic 59, 3) := by decide +kernel
theorem d_X_list_32 : decode b_X_list 32 = .ok (.ifCond .ne 6, 3) := by decide +kernel
theorem d_X_list_35 : decode b_X_list 35 = .ok (.bipush (-2), 2) := by decide +kernel
theorem d_X_list_37 : decode b_X_list 37 = .ok (.ireturn, 1) := by decide +kernel
theorem d_X_list_38 : decode b_X_list 38 = .ok (.aload 4, 2) := by decide +kernel
theorem d_X_list_40 : decode b_X_list 40 = .ok (.getfield 97, 3) := by decide +kernel
theorem d_X_list_43 : decode b_X_list 43 = .ok (.iconst 3, 1) := by decide +kernel
theorem d_X_list_44 : decode b_X_list 44 = .ok (.if_icmp .ne 14, 3) := by decide +kernel
theorem d_X_list_47 : decode b_X_list 47 = .ok (.aload 4, 2) := by decide +kernel
theorem d_X_list_49 : decode b_X_list 49 = .ok (.getfield 134, 3) := by decide +kernel
theorem d_X_list_52 : decode b_X_list 52 = .ok (.invokevirtual 138, 3) := by decide +kernel
theorem d_X_list_55 : decode b_X_list 55 = .ok (.ifCond .eq 6, 3) := by decide +kernel
theorem d_X_list_58 : decode b_X_list 58 = .ok (.bipush (-3), 2) := by decide +kernel
theorem d_X_list_60 : decode b_X_list 60 = .ok (.ireturn, 1) := by decide +kernel
theorem d_X_list_61 : decode b_X_list 61 = .ok (.aload 4, 2) := by decide +kernel
theorem d_X_list_63 : decode b_X_list 63 = .ok (.getfield 134, 3) := by decide +kernel
theorem d_X_list_66 : decode b_X_list 66 = .ok (.invokevirtual 143, 3) := by decide +kernel
theorem d_X_list_69 : decode b_X_list 69 = .ok (.ifCond .eq 6, 3) := by decide +kernel
theorem d_X_list_72 : decode b_X_list 72 = .ok (.bipush (-4), 2) := by decide +kernel
theorem d_X_list_74 : decode b_X_list 74 = .ok (.ireturn, 1) := by decide +kernel
theorem d_X_list_75 : decode b_X_list 75 = .ok (.aload 4, 2) := by decide +kernel
theorem d_X_list_77 : decode b_X_list 77 = .ok (.getfield 134, 3) := by decide +kernel
theorem d_X_list_80 : decode b_X_list 80 = .ok (.iload_n 2, 1) := by decide +kernel
theorem d_X_list_81 : decode b_X_list 81 = .ok (.iload_n 3, 1) := by decide +kernel
theorem d_X_list_82 : decode b_X_list 82 = .ok (.invokevirtual 146, 3) := by decide +kernel
theorem d_X_list_85 : decode b_X_list 85 = .ok (.aload 4, 2) := by decide +kernel
theorem d_X_list_87 : decode b_X_list 87 = .ok (.getfield 134, 3) := by decide +kernel
theorem d_X_list_90 : decode b_X_list 90 = .ok (.getfield 147, 3) := by decide +kernel
theorem d_X_list_93 : decode b_X_list 93 = .ok (.ireturn, 1) := by decide +kernel
theorem d_X_route_0 : decode b_X_route 0 = .ok (.aload_n 0, 1) := by decide +kernel
theorem d_X_route_1 : decode b_X_route 1 = .ok (.iload_n 1, 1) := by decide +kernel
theorem d_X_route_2 : decode b_X_route 2 = .ok (.invokevirtual 89, 3) := by decide +kernel
theorem d_X_route_5 : decode b_X_route 5 = .ok (.astore_n 3, 1) := by decide +kernel
theorem d_X_route_6 : decode b_X_route 6 = .ok (.aload_n 3, 1) := by decide +kernel
theorem d_X_route_7 : decode b_X_route 7 = .ok (.ifnonnull 5, 3) := by decide +kernel
theorem d_X_route_10 : decode b_X_route 10 = .ok (.iconst (-1), 1) := by decide +kernel
theorem d_X_route_11 : decode b_X_route 11 = .ok (.ireturn, 1) := by decide +kernel
theorem d_X_route_12 : decode b_X_route 12 = .ok (.iload_n 2, 1) := by decide +kernel
theorem d_X_route_13 : decode b_X_route 13 = .ok (.invokestatic 72, 3) := by decide +kernel
theorem d_X_route_16 : decode b_X_route 16 = .ok (.ifCond .ne 6, 3) := by decide +kernel
theorem d_X_route_19 : decode b_X_route 19 = .ok (.bipush (-2), 2) := by decide +kernel
theorem d_X_route_21 : decode b_X_route 21 = .ok (.ireturn, 1) := by decide +kernel
theorem d_X_route_22 : decode b_X_route 22 = .ok (.aload_n 3, 1) := by decide +kernel
theorem d_X_route_23 : decode b_X_route 23 = .ok (.getfield 97, 3) := by decide +kernel
theorem d_X_route_26 : decode b_X_route 26 = .ok (.iconst 3, 1) := by decide +kernel
theorem d_X_route_27 : decode b_X_route 27 = .ok (.if_icmp .ne 23, 3) := by decide +kernel
theorem d_X_route_30 : decode b_X_route 30 = .ok (.aload_n 3, 1) := by decide +kernel
theorem d_X_route_31 : decode b_X_route 31 = .ok (.getfield 134, 3) := by decide +kernel
theorem d_X_route_34 : decode b_X_route 34 = .ok (.invokevirtual 138, 3) := by decide +kernel
theorem d_X_route_37 : decode b_X_route 37 = .ok (.ifCond .ne 13, 3) := by decide +kernel
theorem d_X_route_40 : decode b_X_route 40 = .ok (.aload_n 3, 1) := by decide +kernel
theorem d_X_route_41 : decode b_X_route 41 = .ok (.getfield 134, 3) := by decide +kernel
theorem d_X_route_44 : decode b_X_route 44 = .ok (.getfield 147, 3) := by decide +kernel
theorem d_X_route_47 : decode b_X_route 47 = .ok (.ifCond .ne 6, 3) := by decide +kernel
theorem d_X_route_50 : decode b_X_route 50 = .ok (.bipush (-3), 2) := by decide +kernel
theorem d_X_route_52 : decode b_X_route 52 = .ok (.ireturn, 1) := by decide +kernel
theorem d_X_route_53 : decode b_X_route 53 = .ok (.aload_n 3, 1) := by decide +kernel
theorem d_X_route_54 : decode b_X_route 54 = .ok (.getfield 134, 3) := by decide +kernel
theorem d_X_route_57 : decode b_X_route 57 = .ok (.iload_n 2, 1) := by decide +kernel
theorem d_X_route_58 : decode b_X_route 58 = .ok (.invokevirtual 148, 3) := by decide +kernel
theorem d_X_route_61 : decode b_X_route 61 = .ok (.aload_n 3, 1) := by decide +kernel
theorem d_X_route_62 : decode b_X_route 62 = .ok (.getfield 134, 3) := by decide +kernel
theorem d_X_route_65 : decode b_X_route 65 = .ok (.invokevirtual 151, 3) := by decide +kernel
theorem d_X_route_68 : decode b_X_route 68 = .ok (.ireturn, 1) := by decide +kernel
theorem d_X_returned_0 : decode b_X_returned 0 = .ok (.aload_n 0, 1) := by decide +kernel
theorem d_X_returned_1 : decode b_X_returned 1 = .ok (.iload_n 1, 1) := by decide +kernel
theorem d_X_returned_2 : decode b_X_returned 2 = .ok (.invokevirtual 89, 3) := by decide +kernel
theorem d_X_returned_5 : decode b_X_returned 5 = .ok (.astore_n 3, 1) := by decide +kernel
theorem d_X_returned_6 : decode b_X_returned 6 = .ok (.aload_n 3, 1) := by decide +kernel
theorem d_X_returned_7 : decode b_X_returned 7 = .ok (.ifnonnull 5, 3) := by decide +kernel
theorem d_X_returned_10 : decode b_X_returned 10 = .ok (.iconst (-1), 1) := by decide +kernel
theorem d_X_returned_11 : decode b_X_returned 11 = .ok (.ireturn, 1) := by decide +kernel
theorem d_X_returned_12 : decode b_X_returned 12 = .ok (.aload_n 3, 1) := by decide +kernel
theorem d_X_returned_13 : decode b_X_returned 13 = .ok (.getfield 134, 3) := by decide +kernel
theorem d_X_returned_16 : decode b_X_returned 16 = .ok (.astore 4, 2) := by decide +kernel
theorem d_X_returned_18 : decode b_X_returned 18 = .ok (.iload_n 2, 1) := by decide +kernel
theorem d_X_returned_19 : decode b_X_returned 19 = .ok (.invokestatic 72, 3) := by decide +kernel
theorem d_X_returned_22 : decode b_X_returned 22 = .ok (.ifCond .eq 20, 3) := by decide +kernel
theorem d_X_returned_25 : decode b_X_returned 25 = .ok (.aload 4, 2) := by decide +kernel
theorem d_X_returned_27 : decode b_X_returned 27 = .ok (.invokevirtual 155, 3) := by decide +kernel
theorem d_X_returned_30 : decode b_X_returned 30 = .ok (.ifCond .eq 15, 3) := by decide +kernel
theorem d_X_returned_33 : decode b_X_returned 33 = .ok (.iload_n 2, 1) := by decide +kernel
theorem d_X_returned_34 : decode b_X_returned 34 = .ok (.aload 4, 2) := by decide +kernel
theorem d_X_returned_36 : decode b_X_returned 36 = .ok (.getfield 158, 3) := by decide +kernel
theorem d_X_returned_39 : decode b_X_returned 39 = .ok (.if_icmp .ge 6, 3) := by decide +kernel
theorem d_X_returned_42 : decode b_X_returned 42 = .ok (.bipush (-2), 2) := by decide +kernel
theorem d_X_returned_44 : decode b_X_returned 44 = .ok (.ireturn, 1) := by decide +kernel
theorem d_X_returned_45 : decode b_X_returned 45 = .ok (.aload 4, 2) := by decide +kernel
theorem d_X_returned_47 : decode b_X_returned 47 = .ok (.invokevirtual 155, 3) := by decide +kernel
theorem d_X_returned_50 : decode b_X_returned 50 = .ok (.ifCond .ne 6, 3) := by decide +kernel
theorem d_X_returned_53 : decode b_X_returned 53 = .ok (.bipush (-3), 2) := by decide +kernel
theorem d_X_returned_55 : decode b_X_returned 55 = .ok (.ireturn, 1) := by decide +kernel
theorem d_X_returned_56 : decode b_X_returned 56 = .ok (.aload 4, 2) := by decide +kernel
theorem d_X_returned_58 : decode b_X_returned 58 = .ok (.iload_n 2, 1) := by decide +kernel
theorem d_X_returned_59 : decode b_X_returned 59 = .ok (.invokevirtual 161, 3) := by decide +kernel
theorem d_X_returned_62 : decode b_X_returned 62 = .ok (.ifCond .eq 15, 3) := by decide +kernel
theorem d_X_returned_65 : decode b_X_returned 65 = .ok (.aload_n 0, 1) := by decide +kernel
theorem d_X_returned_66 : decode b_X_returned 66 = .ok (.getfield 37, 3) := by decide +kernel
theorem d_X_returned_69 : decode b_X_returned 69 = .ok (.iconst 4, 1) := by decide +kernel
theorem d_X_returned_70 : decode b_X_returned 70 = .ok (.aload_n 3, 1) := by decide +kernel
theorem d_X_returned_71 : decode b_X_returned 71 = .ok (.getfield 86, 3) := by decide +kernel
theorem d_X_returned_74 : decode b_X_returned 74 = .ok (.invokevirtual 100, 3) := by decide +kernel
theorem d_X_returned_77 : decode b_X_returned 77 = .ok (.aload 4, 2) := by decide +kernel
theorem d_X_returned_79 : decode b_X_returned 79 = .ok (.iload_n 2, 1) := by decide +kernel
theorem d_X_returned_80 : decode b_X_returned 80 = .ok (.invokevirtual 148, 3) := by decide +kernel
theorem d_X_returned_83 : decode b_X_returned 83 = .ok (.aload 4, 2) := by decide +kernel
theorem d_X_returned_85 : decode b_X_returned 85 = .ok (.invokevirtual 155, 3) := by decide +kernel
theorem d_X_returned_88 : decode b_X_returned 88 = .ok (.ifCond .eq 11, 3) := by decide +kernel
theorem d_X_returned_91 : decode b_X_returned 91 = .ok (.aload 4, 2) := by decide +kernel
theorem d_X_returned_93 : decode b_X_returned 93 = .ok (.invokevirtual 151, 3) := by decide +kernel
theorem d_X_returned_96 : decode b_X_returned 96 = .ok (.goto 6, 3) := by decide +kernel
theorem d_X_returned_99 : decode b_X_returned 99 = .ok (.sipush 1000, 3) := by decide +kernel
theorem d_X_returned_102 : decode b_X_returned 102 = .ok (.ireturn, 1) := by decide +kernel
theorem d_X_replace_0 : decode b_X_replace 0 = .ok (.aload_n 0, 1) := by decide +kernel
theorem d_X_replace_1 : decode b_X_replace 1 = .ok (.iload_n 1, 1) := by decide +kernel
theorem d_X_replace_2 : decode b_X_replace 2 = .ok (.invokevirtual 89, 3) := by decide +kernel
theorem d_X_replace_5 : decode b_X_replace 5 = .ok (.astore_n 3, 1) := by decide +kernel
theorem d_X_replace_6 : decode b_X_replace 6 = .ok (.aload_n 3, 1) := by decide +kernel
theorem d_X_replace_7 : decode b_X_replace 7 = .ok (.ifnonnull 5, 3) := by decide +kernel
theorem d_X_replace_10 : decode b_X_replace 10 = .ok (.iconst (-1), 1) := by decide +kernel
theorem d_X_replace_11 : decode b_X_replace 11 = .ok (.ireturn, 1) := by decide +kernel
theorem d_X_replace_12 : decode b_X_replace 12 = .ok (.iload_n 2, 1) := by decide +kernel
theorem d_X_replace_13 : decode b_X_replace 13 = .ok (.invokestatic 72, 3) := by decide +kernel
theorem d_X_replace_16 : decode b_X_replace 16 = .ok (.ifCond .ne 6, 3) := by decide +kernel
theorem d_X_replace_19 : decode b_X_replace 19 = .ok (.bipush (-2), 2) := by decide +kernel
theorem d_X_replace_21 : decode b_X_replace 21 = .ok (.ireturn, 1) := by decide +kernel
theorem d_X_replace_22 : decode b_X_replace 22 = .ok (.aload_n 3, 1) := by decide +kernel
theorem d_X_replace_23 : decode b_X_replace 23 = .ok (.invokevirtual 164, 3) := by decide +kernel
theorem d_X_replace_26 : decode b_X_replace 26 = .ok (.ifCond .ne 6, 3) := by decide +kernel
theorem d_X_replace_29 : decode b_X_replace 29 = .ok (.bipush (-3), 2) := by decide +kernel
theorem d_X_replace_31 : decode b_X_replace 31 = .ok (.ireturn, 1) := by decide +kernel
theorem d_X_replace_32 : decode b_X_replace 32 = .ok (.aload_n 0, 1) := by decide +kernel
theorem d_X_replace_33 : decode b_X_replace 33 = .ok (.getfield 24, 3) := by decide +kernel
theorem d_X_replace_36 : decode b_X_replace 36 = .ok (.sipush 200, 3) := by decide +kernel
theorem d_X_replace_39 : decode b_X_replace 39 = .ok (.if_icmp .lt 6, 3) := by decide +kernel
theorem d_X_replace_42 : decode b_X_replace 42 = .ok (.bipush (-4), 2) := by decide +kernel
theorem d_X_replace_44 : decode b_X_replace 44 = .ok (.ireturn, 1) := by decide +kernel
theorem d_X_replace_45 : decode b_X_replace 45 = .ok (.new 15, 3) := by decide +kernel
theorem d_X_replace_48 : decode b_X_replace 48 = .ok (.dup, 1) := by decide +kernel
theorem d_X_replace_49 : decode b_X_replace 49 = .ok (.aload_n 0, 1) := by decide +kernel
theorem d_X_replace_50 : decode b_X_replace 50 = .ok (.getfield 24, 3) := by decide +kernel
theorem d_X_replace_53 : decode b_X_replace 53 = .ok (.aload_n 3, 1) := by decide +kernel
theorem d_X_replace_54 : decode b_X_replace 54 = .ok (.getfield 167, 3) := by decide +kernel
theorem d_X_replace_57 : decode b_X_replace 57 = .ok (.aload_n 3, 1) := by decide +kernel
theorem d_X_replace_58 : decode b_X_replace 58 = .ok (.getfield 170, 3) := by decide +kernel
theorem d_X_replace_61 : decode b_X_replace 61 = .ok (.aload_n 3, 1) := by decide +kernel
theorem d_X_replace_62 : decode b_X_replace 62 = .ok (.getfield 104, 3) := by decide +kernel
theorem d_X_replace_65 : decode b_X_replace 65 = .ok (.iconst 1, 1) := by decide +kernel
theorem d_X_replace_66 : decode b_X_replace 66 = .ok (.invokespecial 79, 3) := by decide +kernel
theorem d_X_replace_69 : decode b_X_replace 69 = .ok (.astore 4, 2) := by decide +kernel
theorem d_X_replace_71 : decode b_X_replace 71 = .ok (.aload 4, 2) := by decide +kernel
theorem d_X_replace_73 : decode b_X_replace 73 = .ok (.iconst 1, 1) := by decide +kernel
theorem d_X_replace_74 : decode b_X_replace 74 = .ok (.iload_n 2, 1) := by decide +kernel
theorem d_X_replace_75 : decode b_X_replace 75 = .ok (.invokevirtual 107, 3) := by decide +kernel
theorem d_X_replace_78 : decode b_X_replace 78 = .ok (.aload_n 0, 1) := by decide +kernel
theorem d_X_replace_79 : decode b_X_replace 79 = .ok (.aload 4, 2) := by decide +kernel
theorem d_X_replace_81 : decode b_X_replace 81 = .ok (.invokevirtual 82, 3) := by decide +kernel
theorem d_X_replace_84 : decode b_X_replace 84 = .ok (.aload_n 3, 1) := by decide +kernel
theorem d_X_replace_85 : decode b_X_replace 85 = .ok (.bipush 6, 2) := by decide +kernel
theorem d_X_replace_87 : decode b_X_replace 87 = .ok (.putfield 97, 3) := by decide +kernel
theorem d_X_replace_90 : decode b_X_replace 90 = .ok (.aload_n 3, 1) := by decide +kernel
theorem d_X_replace_91 : decode b_X_replace 91 = .ok (.aload 4, 2) := by decide +kernel
theorem d_X_replace_93 : decode b_X_replace 93 = .ok (.getfield 86, 3) := by decide +kernel
theorem d_X_replace_96 : decode b_X_replace 96 = .ok (.putfield 173, 3) := by decide +kernel
theorem d_X_replace_99 : decode b_X_replace 99 = .ok (.aload 4, 2) := by decide +kernel
theorem d_X_replace_101 : decode b_X_replace 101 = .ok (.getfield 86, 3) := by decide +kernel
theorem d_X_replace_104 : decode b_X_replace 104 = .ok (.ireturn, 1) := by decide +kernel
theorem d_X_bind_0 : decode b_X_bind 0 = .ok (.iload_n 1, 1) := by decide +kernel
theorem d_X_bind_1 : decode b_X_bind 1 = .ok (.invokestatic 55, 3) := by decide +kernel
theorem d_X_bind_4 : decode b_X_bind 4 = .ok (.ifCond .ne 5, 3) := by decide +kernel
theorem d_X_bind_7 : decode b_X_bind 7 = .ok (.iconst (-1), 1) := by decide +kernel
theorem d_X_bind_8 : decode b_X_bind 8 = .ok (.ireturn, 1) := by decide +kernel
theorem d_X_bind_9 : decode b_X_bind 9 = .ok (.iload_n 2, 1) := by decide +kernel
theorem d_X_bind_10 : decode b_X_bind 10 = .ok (.iconst 1, 1) := by decide +kernel
theorem d_X_bind_11 : decode b_X_bind 11 = .ok (.bipush 50, 2) := by decide +kernel
theorem d_X_bind_13 : decode b_X_bind 13 = .ok (.invokestatic 59, 3) := by decide +kernel
theorem d_X_bind_16 : decode b_X_bind 16 = .ok (.ifCond .ne 6, 3) := by decide +kernel
theorem d_X_bind_19 : decode b_X_bind 19 = .ok (.bipush (-2), 2) := by decide +kernel
theorem d_X_bind_21 : decode b_X_bind 21 = .ok (.ireturn, 1) := by decide +kernel
theorem d_X_bind_22 : decode b_X_bind 22 = .ok (.aload_n 0, 1) := by decide +kernel
theorem d_X_bind_23 : decode b_X_bind 23 = .ok (.iload_n 1, 1) := by decide +kernel
theorem d_X_bind_24 : decode b_X_bind 24 = .ok (.iload_n 2, 1) := by decide +kernel
theorem d_X_bind_25 : decode b_X_bind 25 = .ok (.invokevirtual 176, 3) := by decide +kernel
theorem d_X_bind_28 : decode b_X_bind 28 = .ok (.ifCond .ne 6, 3) := by decide +kernel
theorem d_X_bind_31 : decode b_X_bind 31 = .ok (.bipush (-3), 2) := by decide +kernel
theorem d_X_bind_33 : decode b_X_bind 33 = .ok (.ireturn, 1) := by decide +kernel
theorem d_X_bind_34 : decode b_X_bind 34 = .ok (.aload_n 0, 1) := by decide +kernel
theorem d_X_bind_35 : decode b_X_bind 35 = .ok (.getfield 43, 3) := by decide +kernel
theorem d_X_bind_38 : decode b_X_bind 38 = .ok (.invokevirtual 179, 3) := by decide +kernel
theorem d_X_bind_41 : decode b_X_bind 41 = .ok (.ifCond .eq 6, 3) := by decide +kernel
theorem d_X_bind_44 : decode b_X_bind 44 = .ok (.bipush (-4), 2) := by decide +kernel
theorem d_X_bind_46 : decode b_X_bind 46 = .ok (.ireturn, 1) := by decide +kernel
theorem d_X_bind_47 : decode b_X_bind 47 = .ok (.aload_n 0, 1) := by decide +kernel
theorem d_X_bind_48 : decode b_X_bind 48 = .ok (.iload_n 1, 1) := by decide +kernel
theorem d_X_bind_49 : decode b_X_bind 49 = .ok (.iload_n 2, 1) := by decide +kernel
theorem d_X_bind_50 : decode b_X_bind 50 = .ok (.invokevirtual 180, 3) := by decide +kernel
theorem d_X_bind_53 : decode b_X_bind 53 = .ok (.ireturn, 1) := by decide +kernel
theorem d_X_isBindable_0 : decode b_X_isBindable 0 = .ok (.iconst 0, 1) := by decide +kernel
theorem d_X_isBindable_1 : decode b_X_isBindable 1 = .ok (.istore_n 3, 1) := by decide +kernel
theorem d_X_isBindable_2 : decode b_X_isBindable 2 = .ok (.iconst 0, 1) := by decide +kernel
theorem d_X_isBindable_3 : decode b_X_isBindable 3 = .ok (.istore 4, 2) := by decide +kernel
theorem d_X_isBindable_5 : decode b_X_isBindable 5 = .ok (.iload 4, 2) := by decide +kernel
theorem d_X_isBindable_7 : decode b_X_isBindable 7 = .ok (.aload_n 0, 1) := by decide +kernel
theorem d_X_isBindable_8 : decode b_X_isBindable 8 = .ok (.getfield 24, 3) := by decide +kernel
theorem d_X_isBindable_11 : decode b_X_isBindable 11 = .ok (.if_icmp .ge 57, 3) := by decide +kernel
theorem d_X_isBindable_14 : decode b_X_isBindable 14 = .ok (.iload_n 3, 1) := by decide +kernel
theorem d_X_isBindable_15 : decode b_X_isBindable 15 = .ok (.iload_n 2, 1) := by decide +kernel
theorem d_X_isBindable_16 : decode b_X_isBindable 16 = .ok (.if_icmp .ge 52, 3) := by decide +kernel
theorem d_X_isBindable_19 : decode b_X_isBindable 19 = .ok (.aload_n 0, 1) := by decide +kernel
theorem d_X_isBindable_20 : decode b_X_isBindable 20 = .ok (.getfield 21, 3) := by decide +kernel
theorem d_X_isBindable_23 : decode b_X_isBindable 23 = .ok (.iload 4, 2) := by decide +kernel
theorem d_X_isBindable_25 : decode b_X_isBindable 25 = .ok (.aaload, 1) := by decide +kernel
theorem d_X_isBindable_26 : decode b_X_isBindable 26 = .ok (.astore 5, 2) := by decide +kernel
theorem d_X_isBindable_28 : decode b_X_isBindable 28 = .ok (.aload 5, 2) := by decide +kernel
theorem d_X_isBindable_30 : decode b_X_isBindable 30 = .ok (.getfield 167, 3) := by decide +kernel
theorem d_X_isBindable_33 : decode b_X_isBindable 33 = .ok (.iload_n 1, 1) := by decide +kernel
theorem d_X_isBindable_34 : decode b_X_isBindable 34 = .ok (.if_icmp .ne 28, 3) := by decide +kernel
theorem d_X_isBindable_37 : decode b_X_isBindable 37 = .ok (.aload 5, 2) := by decide +kernel
theorem d_X_isBindable_39 : decode b_X_isBindable 39 = .ok (.getfield 97, 3) := by decide +kernel
theorem d_X_isBindable_42 : decode b_X_isBindable 42 = .ok (.iconst 3, 1) := by decide +kernel
theorem d_X_isBindable_43 : decode b_X_isBindable 43 = .ok (.if_icmp .ne 19, 3) := by decide +kernel
theorem d_X_isBindable_46 : decode b_X_isBindable 46 = .ok (.aload 5, 2) := by decide +kernel
theorem d_X_isBindable_48 : decode b_X_isBindable 48 = .ok (.getfield 134, 3) := by decide +kernel
theorem d_X_isBindable_51 : decode b_X_isBindable 51 = .ok (.invokevirtual 155, 3) := by decide +kernel
theorem d_X_isBindable_54 : decode b_X_isBindable 54 = .ok (.ifCond .eq 5, 3) := by decide +kernel
theorem d_X_isBindable_57 : decode b_X_isBindable 57 = .ok (.iconst 0, 1) := by decide +kernel
theorem d_X_isBindable_58 : decode b_X_isBindable 58 = .ok (.ireturn, 1) := by decide +kernel
theorem d_X_isBindable_59 : decode b_X_isBindable 59 = .ok (.iinc 3 1, 3) := by decide +kernel
theorem d_X_isBindable_62 : decode b_X_isBindable 62 = .ok (.iinc 4 1, 3) := by decide +kernel
theorem d_X_isBindable_65 : decode b_X_isBindable 65 = .ok (.goto (-60), 3) := by decide +kernel
theorem d_X_isBindable_68 : decode b_X_isBindable 68 = .ok (.iload_n 3, 1) := by decide +kernel
theorem d_X_isBindable_69 : decode b_X_isBindable 69 = .ok (.iload_n 2, 1) := by decide +kernel
theorem d_X_isBindable_70 : decode b_X_isBindable 70 = .ok (.if_icmp .ne 7, 3) := by decide +kernel
theorem d_X_isBindable_73 : decode b_X_isBindable 73 = .ok (.iconst 1, 1) := by decide +kernel
theorem d_X_isBindable_74 : decode b_X_isBindable 74 = .ok (.goto 4, 3) := by decide +kernel
theorem d_X_isBindable_77 : decode b_X_isBindable 77 = .ok (.iconst 0, 1) := by decide +kernel
theorem d_X_isBindable_78 : decode b_X_isBindable 78 = .ok (.ireturn, 1) := by decide +kernel
theorem d_X_bindNext_0 : decode b_X_bindNext 0 = .ok (.aload_n 0, 1) := by decide +kernel
theorem d_X_bindNext_1 : decode b_X_bindNext 1 = .ok (.getfield 43, 3) := by decide +kernel
theorem d_X_bindNext_4 : decode b_X_bindNext 4 = .ok (.invokevirtual 223, 3) := by decide +kernel
theorem d_X_bindNext_7 : decode b_X_bindNext 7 = .ok (.istore_n 3, 1) := by decide +kernel
theorem d_X_bindNext_8 : decode b_X_bindNext 8 = .ok (.iconst 0, 1) := by decide +kernel
theorem d_X_bindNext_9 : decode b_X_bindNext 9 = .ok (.istore 4, 2) := by decide +kernel
theorem d_X_bindNext_11 : decode b_X_bindNext 11 = .ok (.iconst 0, 1) := by decide +kernel
theorem d_X_bindNext_12 : decode b_X_bindNext 12 = .ok (.istore 5, 2) := by decide +kernel
theorem d_X_bindNext_14 : decode b_X_bindNext 14 = .ok (.iload 5, 2) := by decide +kernel
theorem d_X_bindNext_16 : decode b_X_bindNext 16 = .ok (.aload_n 0, 1) := by decide +kernel
theorem d_X_bindNext_17 : decode b_X_bindNext 17 = .ok (.getfield 24, 3) := by decide +kernel
theorem d_X_bindNext_20 : decode b_X_bindNext 20 = .ok (.if_icmp .ge 69, 3) := by decide +kernel
theorem d_X_bindNext_23 : decode b_X_bindNext 23 = .ok (.iload 4, 2) := by decide +kernel
theorem d_X_bindNext_25 : decode b_X_bindNext 25 = .ok (.iload_n 2, 1) := by decide +kernel
theorem d_X_bindNext_26 : decode b_X_bindNext 26 = .ok (.if_icmp .ge 63, 3) := by decide +kernel
theorem d_X_bindNext_29 : decode b_X_bindNext 29 = .ok (.aload_n 0, 1) := by decide +kernel
theorem d_X_bindNext_30 : decode b_X_bindNext 30 = .ok (.getfield 21, 3) := by decide +kernel
theorem d_X_bindNext_33 : decode b_X_bindNext 33 = .ok (.iload 5, 2) := by decide +kernel
theorem d_X_bindNext_35 : decode b_X_bindNext 35 = .ok (.aaload, 1) := by decide +kernel
theorem d_X_bindNext_36 : decode b_X_bindNext 36 = .ok (.astore 6, 2) := by decide +kernel
theorem d_X_bindNext_38 : decode b_X_bindNext 38 = .ok (.aload 6, 2) := by decide +kernel
theorem d_X_bindNext_40 : decode b_X_bindNext 40 = .ok (.getfield 167, 3) := by decide +kernel
theorem d_X_bindNext_43 : decode b_X_bindNext 43 = .ok (.iload_n 1, 1) := by decide +kernel
theorem d_X_bindNext_44 : decode b_X_bindNext 44 = .ok (.if_icmp .ne 39, 3) := by decide +kernel
theorem d_X_bindNext_47 : decode b_X_bindNext 47 = .ok (.aload 6, 2) := by decide +kernel
theorem d_X_bindNext_49 : decode b_X_bindNext 49 = .ok (.getfield 97, 3) := by decide +kernel
theorem d_X_bindNext_52 : decode b_X_bindNext 52 = .ok (.iconst 3, 1) := by decide +kernel
theorem d_X_bindNext_53 : decode b_X_bindNext 53 = .ok (.if_icmp .ne 30, 3) := by decide +kernel
theorem d_X_bindNext_56 : decode b_X_bindNext 56 = .ok (.aload 6, 2) := by decide +kernel
theorem d_X_bindNext_58 : decode b_X_bindNext 58 = .ok (.iconst 5, 1) := by decide +kernel
theorem d_X_bindNext_59 : decode b_X_bindNext 59 = .ok (.putfield 97, 3) := by decide +kernel
theorem d_X_bindNext_62 : decode b_X_bindNext 62 = .ok (.aload 6, 2) := by decide +kernel
theorem d_X_bindNext_64 : decode b_X_bindNext 64 = .ok (.iload_n 3, 1) := by decide +kernel
theorem d_X_bindNext_65 : decode b_X_bindNext 65 = .ok (.putfield 226, 3) := by decide +kernel
theorem d_X_bindNext_68 : decode b_X_bindNext 68 = .ok (.aload_n 0, 1) := by decide +kernel
theorem d_X_bindNext_69 : decode b_X_bindNext 69 = .ok (.getfield 43, 3) := by decide +kernel
theorem d_X_bindNext_72 : decode b_X_bindNext 72 = .ok (.aload 6, 2) := by decide +kernel
theorem d_X_bindNext_74 : decode b_X_bindNext 74 = .ok (.getfield 86, 3) := by decide +kernel
theorem d_X_bindNext_77 : decode b_X_bindNext 77 = .ok (.invokevirtual 229, 3) := by decide +kernel
theorem d_X_bindNext_80 : decode b_X_bindNext 80 = .ok (.iinc 4 1, 3) := by decide +kernel
theorem d_X_bindNext_83 : decode b_X_bindNext 83 = .ok (.iinc 5 1, 3) := by decide +kernel
theorem d_X_bindNext_86 : decode b_X_bindNext 86 = .ok (.goto (-72), 3) := by decide +kernel
theorem d_X_bindNext_89 : decode b_X_bindNext 89 = .ok (.iload_n 3, 1) := by decide +kernel
theorem d_X_bindNext_90 : decode b_X_bindNext 90 = .ok (.ireturn, 1) := by decide +kernel
theorem d_X_statement_0 : decode b_X_statement 0 = .ok (.iload_n 1, 1) := by decide +kernel
theorem d_X_statement_1 : decode b_X_statement 1 = .ok (.invokestatic 55, 3) := by decide +kernel
theorem d_X_statement_4 : decode b_X_statement 4 = .ok (.ifCond .ne 5, 3) := by decide +kernel
theorem d_X_statement_7 : decode b_X_statement 7 = .ok (.iconst (-1), 1) := by decide +kernel
theorem d_X_statement_8 : decode b_X_statement 8 = .ok (.ireturn, 1) := by decide +kernel
theorem d_X_statement_9 : decode b_X_statement 9 = .ok (.aload_n 0, 1) := by decide +kernel
theorem d_X_statement_10 : decode b_X_statement 10 = .ok (.getfield 50, 3) := by decide +kernel
theorem d_X_statement_13 : decode b_X_statement 13 = .ok (.invokevirtual 189, 3) := by decide +kernel
theorem d_X_statement_16 : decode b_X_statement 16 = .ok (.iconst 1, 1) := by decide +kernel
theorem d_X_statement_17 : decode b_X_statement 17 = .ok (.istore_n 2, 1) := by decide +kernel
theorem d_X_statement_18 : decode b_X_statement 18 = .ok (.iconst 0, 1) := by decide +kernel
theorem d_X_statement_19 : decode b_X_statement 19 = .ok (.istore_n 3, 1) := by decide +kernel
theorem d_X_statement_20 : decode b_X_statement 20 = .ok (.iload_n 3, 1) := by decide +kernel
theorem d_X_statement_21 : decode b_X_statement 21 = .ok (.aload_n 0, 1) := by decide +kernel
theorem d_X_statement_22 : decode b_X_statement 22 = .ok (.getfield 24, 3) := by decide +kernel
theorem d_X_statement_25 : decode b_X_statement 25 = .ok (.if_icmp .ge 74, 3) := by decide +kernel
theorem d_X_statement_28 : decode b_X_statement 28 = .ok (.aload_n 0, 1) := by decide +kernel
theorem d_X_statement_29 : decode b_X_statement 29 = .ok (.getfield 21, 3) := by decide +kernel
theorem d_X_statement_32 : decode b_X_statement 32 = .ok (.iload_n 3, 1) := by decide +kernel
theorem d_X_statement_33 : decode b_X_statement 33 = .ok (.aaload, 1) := by decide +kernel
theorem d_X_statement_34 : decode b_X_statement 34 = .ok (.astore 4, 2) := by decide +kernel
theorem d_X_statement_36 : decode b_X_statement 36 = .ok (.aload 4, 2) := by decide +kernel
theorem d_X_statement_38 : decode b_X_statement 38 = .ok (.getfield 167, 3) := by decide +kernel
theorem d_X_statement_41 : decode b_X_statement 41 = .ok (.iload_n 1, 1) := by decide +kernel
theorem d_X_statement_42 : decode b_X_statement 42 = .ok (.if_icmp .ne 51, 3) := by decide +kernel
end
section
theorem d_X_statement_45 : decode b_X_statement 45 = .ok (.aload 4, 2) := by decide +kernel
theorem d_X_statement_47 : decode b_X_statement 47 = .ok (.getfield 97, 3) := by decide +kernel
theorem d_X_statement_50 : decode b_X_statement 50 = .ok (.bipush 6, 2) := by decide +kernel
theorem d_X_statement_52 : decode b_X_statement 52 = .ok (.if_icmp .ne 6, 3) := by decide +kernel
theorem d_X_statement_55 : decode b_X_statement 55 = .ok (.goto 38, 3) := by decide +kernel
theorem d_X_statement_58 : decode b_X_statement 58 = .ok (.aload 4, 2) := by decide +kernel
theorem d_X_statement_60 : decode b_X_statement 60 = .ok (.invokevirtual 190, 3) := by decide +kernel
theorem d_X_statement_63 : decode b_X_statement 63 = .ok (.ifCond .eq 16, 3) := by decide +kernel
theorem d_X_statement_66 : decode b_X_statement 66 = .ok (.aload_n 0, 1) := by decide +kernel
theorem d_X_statement_67 : decode b_X_statement 67 = .ok (.getfield 50, 3) := by decide +kernel
theorem d_X_statement_70 : decode b_X_statement 70 = .ok (.aload 4, 2) := by decide +kernel
theorem d_X_statement_72 : decode b_X_statement 72 = .ok (.getfield 170, 3) := by decide +kernel
theorem d_X_statement_75 : decode b_X_statement 75 = .ok (.iload_n 2, 1) := by decide +kernel
theorem d_X_statement_76 : decode b_X_statement 76 = .ok (.invokevirtual 193, 3) := by decide +kernel
theorem d_X_statement_79 : decode b_X_statement 79 = .ok (.aload 4, 2) := by decide +kernel
theorem d_X_statement_81 : decode b_X_statement 81 = .ok (.invokevirtual 190, 3) := by decide +kernel
theorem d_X_statement_84 : decode b_X_statement 84 = .ok (.ifCond .ne 7, 3) := by decide +kernel
theorem d_X_statement_87 : decode b_X_statement 87 = .ok (.iconst 1, 1) := by decide +kernel
theorem d_X_statement_88 : decode b_X_statement 88 = .ok (.goto 4, 3) := by decide +kernel
theorem d_X_statement_91 : decode b_X_statement 91 = .ok (.iconst 0, 1) := by decide +kernel
theorem d_X_statement_92 : decode b_X_statement 92 = .ok (.istore_n 2, 1) := by decide +kernel
theorem d_X_statement_93 : decode b_X_statement 93 = .ok (.iinc 3 1, 3) := by decide +kernel
theorem d_X_statement_96 : decode b_X_statement 96 = .ok (.goto (-76), 3) := by decide +kernel
theorem d_X_statement_99 : decode b_X_statement 99 = .ok (.aload_n 0, 1) := by decide +kernel
theorem d_X_statement_100 : decode b_X_statement 100 = .ok (.getfield 50, 3) := by decide +kernel
theorem d_X_statement_103 : decode b_X_statement 103 = .ok (.getfield 196, 3) := by decide +kernel
theorem d_X_statement_106 : decode b_X_statement 106 = .ok (.ireturn, 1) := by decide +kernel
theorem d_X_about_0 : decode b_X_about 0 = .ok (.aload_n 0, 1) := by decide +kernel
theorem d_X_about_1 : decode b_X_about 1 = .ok (.iload_n 1, 1) := by decide +kernel
theorem d_X_about_2 : decode b_X_about 2 = .ok (.invokevirtual 89, 3) := by decide +kernel
theorem d_X_about_5 : decode b_X_about 5 = .ok (.astore_n 3, 1) := by decide +kernel
theorem d_X_about_6 : decode b_X_about 6 = .ok (.aload_n 3, 1) := by decide +kernel
theorem d_X_about_7 : decode b_X_about 7 = .ok (.ifnonnull 7, 3) := by decide +kernel
theorem d_X_about_10 : decode b_X_about 10 = .ok (.iconst (-1), 1) := by decide +kernel
theorem d_X_about_11 : decode b_X_about 11 = .ok (.goto 8, 3) := by decide +kernel
theorem d_X_about_14 : decode b_X_about 14 = .ok (.aload_n 3, 1) := by decide +kernel
theorem d_X_about_15 : decode b_X_about 15 = .ok (.iload_n 2, 1) := by decide +kernel
theorem d_X_about_16 : decode b_X_about 16 = .ok (.invokevirtual 201, 3) := by decide +kernel
theorem d_X_about_19 : decode b_X_about 19 = .ok (.ireturn, 1) := by decide +kernel
theorem d_X_cost_0 : decode b_X_cost 0 = .ok (.aload_n 0, 1) := by decide +kernel
theorem d_X_cost_1 : decode b_X_cost 1 = .ok (.iload_n 1, 1) := by decide +kernel
theorem d_X_cost_2 : decode b_X_cost 2 = .ok (.invokevirtual 89, 3) := by decide +kernel
theorem d_X_cost_5 : decode b_X_cost 5 = .ok (.astore_n 3, 1) := by decide +kernel
theorem d_X_cost_6 : decode b_X_cost 6 = .ok (.aload_n 3, 1) := by decide +kernel
theorem d_X_cost_7 : decode b_X_cost 7 = .ok (.ifnonnull 5, 3) := by decide +kernel
theorem d_X_cost_10 : decode b_X_cost 10 = .ok (.iconst (-1), 1) := by decide +kernel
theorem d_X_cost_11 : decode b_X_cost 11 = .ok (.ireturn, 1) := by decide +kernel
theorem d_X_cost_12 : decode b_X_cost 12 = .ok (.iload_n 2, 1) := by decide +kernel
theorem d_X_cost_13 : decode b_X_cost 13 = .ok (.iconst 0, 1) := by decide +kernel
theorem d_X_cost_14 : decode b_X_cost 14 = .ok (.ldc 204, 2) := by decide +kernel
theorem d_X_cost_16 : decode b_X_cost 16 = .ok (.invokestatic 59, 3) := by decide +kernel
theorem d_X_cost_19 : decode b_X_cost 19 = .ok (.ifCond .ne 6, 3) := by decide +kernel
theorem d_X_cost_22 : decode b_X_cost 22 = .ok (.bipush (-2), 2) := by decide +kernel
theorem d_X_cost_24 : decode b_X_cost 24 = .ok (.ireturn, 1) := by decide +kernel
theorem d_X_cost_25 : decode b_X_cost 25 = .ok (.aload_n 3, 1) := by decide +kernel
theorem d_X_cost_26 : decode b_X_cost 26 = .ok (.getfield 205, 3) := by decide +kernel
theorem d_X_cost_29 : decode b_X_cost 29 = .ok (.ldc 208, 2) := by decide +kernel
theorem d_X_cost_31 : decode b_X_cost 31 = .ok (.iload_n 2, 1) := by decide +kernel
theorem d_X_cost_32 : decode b_X_cost 32 = .ok (.isub, 1) := by decide +kernel
theorem d_X_cost_33 : decode b_X_cost 33 = .ok (.if_icmp .le 6, 3) := by decide +kernel
theorem d_X_cost_36 : decode b_X_cost 36 = .ok (.bipush (-4), 2) := by decide +kernel
theorem d_X_cost_38 : decode b_X_cost 38 = .ok (.ireturn, 1) := by decide +kernel
theorem d_X_cost_39 : decode b_X_cost 39 = .ok (.aload_n 3, 1) := by decide +kernel
theorem d_X_cost_40 : decode b_X_cost 40 = .ok (.dup, 1) := by decide +kernel
theorem d_X_cost_41 : decode b_X_cost 41 = .ok (.getfield 205, 3) := by decide +kernel
theorem d_X_cost_44 : decode b_X_cost 44 = .ok (.iload_n 2, 1) := by decide +kernel
theorem d_X_cost_45 : decode b_X_cost 45 = .ok (.iadd, 1) := by decide +kernel
theorem d_X_cost_46 : decode b_X_cost 46 = .ok (.putfield 205, 3) := by decide +kernel
theorem d_X_cost_49 : decode b_X_cost 49 = .ok (.aload_n 3, 1) := by decide +kernel
theorem d_X_cost_50 : decode b_X_cost 50 = .ok (.getfield 205, 3) := by decide +kernel
theorem d_X_cost_53 : decode b_X_cost 53 = .ok (.ireturn, 1) := by decide +kernel
theorem d_X_told_0 : decode b_X_told 0 = .ok (.aload_n 0, 1) := by decide +kernel
theorem d_X_told_1 : decode b_X_told 1 = .ok (.getfield 37, 3) := by decide +kernel
theorem d_X_told_4 : decode b_X_told 4 = .ok (.iload_n 1, 1) := by decide +kernel
theorem d_X_told_5 : decode b_X_told 5 = .ok (.iload_n 2, 1) := by decide +kernel
theorem d_X_told_6 : decode b_X_told 6 = .ok (.invokevirtual 120, 3) := by decide +kernel
theorem d_X_told_9 : decode b_X_told 9 = .ok (.ifCond .eq 15, 3) := by decide +kernel
theorem d_X_told_12 : decode b_X_told 12 = .ok (.aload_n 0, 1) := by decide +kernel
theorem d_X_told_13 : decode b_X_told 13 = .ok (.getfield 37, 3) := by decide +kernel
theorem d_X_told_16 : decode b_X_told 16 = .ok (.iload_n 1, 1) := by decide +kernel
theorem d_X_told_17 : decode b_X_told 17 = .ok (.iload_n 2, 1) := by decide +kernel
theorem d_X_told_18 : decode b_X_told 18 = .ok (.invokevirtual 130, 3) := by decide +kernel
theorem d_X_told_21 : decode b_X_told 21 = .ok (.goto 4, 3) := by decide +kernel
theorem d_X_told_24 : decode b_X_told 24 = .ok (.iconst (-1), 1) := by decide +kernel
theorem d_X_told_25 : decode b_X_told 25 = .ok (.ireturn, 1) := by decide +kernel
theorem d_X_lateness_0 : decode b_X_lateness 0 = .ok (.iload_n 1, 1) := by decide +kernel
theorem d_X_lateness_1 : decode b_X_lateness 1 = .ok (.invokestatic 55, 3) := by decide +kernel
theorem d_X_lateness_4 : decode b_X_lateness 4 = .ok (.ifCond .ne 5, 3) := by decide +kernel
theorem d_X_lateness_7 : decode b_X_lateness 7 = .ok (.iconst (-1), 1) := by decide +kernel
theorem d_X_lateness_8 : decode b_X_lateness 8 = .ok (.ireturn, 1) := by decide +kernel
theorem d_X_lateness_9 : decode b_X_lateness 9 = .ok (.iconst 0, 1) := by decide +kernel
theorem d_X_lateness_10 : decode b_X_lateness 10 = .ok (.istore_n 2, 1) := by decide +kernel
theorem d_X_lateness_11 : decode b_X_lateness 11 = .ok (.iconst 0, 1) := by decide +kernel
theorem d_X_lateness_12 : decode b_X_lateness 12 = .ok (.istore_n 3, 1) := by decide +kernel
theorem d_X_lateness_13 : decode b_X_lateness 13 = .ok (.iload_n 3, 1) := by decide +kernel
theorem d_X_lateness_14 : decode b_X_lateness 14 = .ok (.aload_n 0, 1) := by decide +kernel
theorem d_X_lateness_15 : decode b_X_lateness 15 = .ok (.getfield 24, 3) := by decide +kernel
theorem d_X_lateness_18 : decode b_X_lateness 18 = .ok (.if_icmp .ge 34, 3) := by decide +kernel
theorem d_X_lateness_21 : decode b_X_lateness 21 = .ok (.aload_n 0, 1) := by decide +kernel
theorem d_X_lateness_22 : decode b_X_lateness 22 = .ok (.getfield 17, 3) := by decide +kernel
theorem d_X_lateness_25 : decode b_X_lateness 25 = .ok (.iload_n 3, 1) := by decide +kernel
theorem d_X_lateness_26 : decode b_X_lateness 26 = .ok (.aaload, 1) := by decide +kernel
theorem d_X_lateness_27 : decode b_X_lateness 27 = .ok (.getfield 167, 3) := by decide +kernel
theorem d_X_lateness_30 : decode b_X_lateness 30 = .ok (.iload_n 1, 1) := by decide +kernel
theorem d_X_lateness_31 : decode b_X_lateness 31 = .ok (.if_icmp .ne 15, 3) := by decide +kernel
theorem d_X_lateness_34 : decode b_X_lateness 34 = .ok (.iload_n 2, 1) := by decide +kernel
theorem d_X_lateness_35 : decode b_X_lateness 35 = .ok (.aload_n 0, 1) := by decide +kernel
theorem d_X_lateness_36 : decode b_X_lateness 36 = .ok (.getfield 17, 3) := by decide +kernel
theorem d_X_lateness_39 : decode b_X_lateness 39 = .ok (.iload_n 3, 1) := by decide +kernel
theorem d_X_lateness_40 : decode b_X_lateness 40 = .ok (.aaload, 1) := by decide +kernel
theorem d_X_lateness_41 : decode b_X_lateness 41 = .ok (.invokevirtual 209, 3) := by decide +kernel
theorem d_X_lateness_44 : decode b_X_lateness 44 = .ok (.iadd, 1) := by decide +kernel
theorem d_X_lateness_45 : decode b_X_lateness 45 = .ok (.istore_n 2, 1) := by decide +kernel
theorem d_X_lateness_46 : decode b_X_lateness 46 = .ok (.iinc 3 1, 3) := by decide +kernel
theorem d_X_lateness_49 : decode b_X_lateness 49 = .ok (.goto (-36), 3) := by decide +kernel
theorem d_X_lateness_52 : decode b_X_lateness 52 = .ok (.iload_n 2, 1) := by decide +kernel
theorem d_X_lateness_53 : decode b_X_lateness 53 = .ok (.ireturn, 1) := by decide +kernel
theorem d_X_claimed_0 : decode b_X_claimed 0 = .ok (.aload_n 0, 1) := by decide +kernel
theorem d_X_claimed_1 : decode b_X_claimed 1 = .ok (.getfield 33, 3) := by decide +kernel
theorem d_X_claimed_4 : decode b_X_claimed 4 = .ok (.iload_n 1, 1) := by decide +kernel
theorem d_X_claimed_5 : decode b_X_claimed 5 = .ok (.iload_n 2, 1) := by decide +kernel
theorem d_X_claimed_6 : decode b_X_claimed 6 = .ok (.invokevirtual 120, 3) := by decide +kernel
theorem d_X_claimed_9 : decode b_X_claimed 9 = .ok (.ifCond .ne 13, 3) := by decide +kernel
theorem d_X_claimed_12 : decode b_X_claimed 12 = .ok (.new 123, 3) := by decide +kernel
theorem d_X_claimed_15 : decode b_X_claimed 15 = .ok (.dup, 1) := by decide +kernel
theorem d_X_claimed_16 : decode b_X_claimed 16 = .ok (.ldc 125, 2) := by decide +kernel
theorem d_X_claimed_18 : decode b_X_claimed 18 = .ok (.invokespecial 127, 3) := by decide +kernel
theorem d_X_claimed_21 : decode b_X_claimed 21 = .ok (.athrow, 1) := by decide +kernel
theorem d_X_claimed_22 : decode b_X_claimed 22 = .ok (.aload_n 0, 1) := by decide +kernel
theorem d_X_claimed_23 : decode b_X_claimed 23 = .ok (.getfield 33, 3) := by decide +kernel
theorem d_X_claimed_26 : decode b_X_claimed 26 = .ok (.iload_n 1, 1) := by decide +kernel
theorem d_X_claimed_27 : decode b_X_claimed 27 = .ok (.iload_n 2, 1) := by decide +kernel
theorem d_X_claimed_28 : decode b_X_claimed 28 = .ok (.invokevirtual 130, 3) := by decide +kernel
theorem d_X_claimed_31 : decode b_X_claimed 31 = .ok (.ireturn, 1) := by decide +kernel
theorem d_X_volume_0 : decode b_X_volume 0 = .ok (.aload_n 0, 1) := by decide +kernel
theorem d_X_volume_1 : decode b_X_volume 1 = .ok (.getfield 43, 3) := by decide +kernel
theorem d_X_volume_4 : decode b_X_volume 4 = .ok (.iload_n 1, 1) := by decide +kernel
theorem d_X_volume_5 : decode b_X_volume 5 = .ok (.iload_n 2, 1) := by decide +kernel
theorem d_X_volume_6 : decode b_X_volume 6 = .ok (.invokevirtual 183, 3) := by decide +kernel
theorem d_X_volume_9 : decode b_X_volume 9 = .ok (.ifCond .ne 13, 3) := by decide +kernel
theorem d_X_volume_12 : decode b_X_volume 12 = .ok (.new 123, 3) := by decide +kernel
theorem d_X_volume_15 : decode b_X_volume 15 = .ok (.dup, 1) := by decide +kernel
theorem d_X_volume_16 : decode b_X_volume 16 = .ok (.ldc 184, 2) := by decide +kernel
theorem d_X_volume_18 : decode b_X_volume 18 = .ok (.invokespecial 127, 3) := by decide +kernel
theorem d_X_volume_21 : decode b_X_volume 21 = .ok (.athrow, 1) := by decide +kernel
theorem d_X_volume_22 : decode b_X_volume 22 = .ok (.aload_n 0, 1) := by decide +kernel
theorem d_X_volume_23 : decode b_X_volume 23 = .ok (.getfield 43, 3) := by decide +kernel
theorem d_X_volume_26 : decode b_X_volume 26 = .ok (.iload_n 1, 1) := by decide +kernel
theorem d_X_volume_27 : decode b_X_volume 27 = .ok (.iload_n 2, 1) := by decide +kernel
theorem d_X_volume_28 : decode b_X_volume 28 = .ok (.invokevirtual 186, 3) := by decide +kernel
theorem d_X_volume_31 : decode b_X_volume 31 = .ok (.ireturn, 1) := by decide +kernel
theorem d_X_row_0 : decode b_X_row 0 = .ok (.aload_n 0, 1) := by decide +kernel
theorem d_X_row_1 : decode b_X_row 1 = .ok (.getfield 50, 3) := by decide +kernel
theorem d_X_row_4 : decode b_X_row 4 = .ok (.iload_n 1, 1) := by decide +kernel
theorem d_X_row_5 : decode b_X_row 5 = .ok (.iload_n 2, 1) := by decide +kernel
theorem d_X_row_6 : decode b_X_row 6 = .ok (.invokevirtual 197, 3) := by decide +kernel
theorem d_X_row_9 : decode b_X_row 9 = .ok (.ifCond .ne 13, 3) := by decide +kernel
theorem d_X_row_12 : decode b_X_row 12 = .ok (.new 123, 3) := by decide +kernel
theorem d_X_row_15 : decode b_X_row 15 = .ok (.dup, 1) := by decide +kernel
theorem d_X_row_16 : decode b_X_row 16 = .ok (.ldc 198, 2) := by decide +kernel
theorem d_X_row_18 : decode b_X_row 18 = .ok (.invokespecial 127, 3) := by decide +kernel
theorem d_X_row_21 : decode b_X_row 21 = .ok (.athrow, 1) := by decide +kernel
theorem d_X_row_22 : decode b_X_row 22 = .ok (.aload_n 0, 1) := by decide +kernel
theorem d_X_row_23 : decode b_X_row 23 = .ok (.getfield 50, 3) := by decide +kernel
theorem d_X_row_26 : decode b_X_row 26 = .ok (.iload_n 1, 1) := by decide +kernel
theorem d_X_row_27 : decode b_X_row 27 = .ok (.iload_n 2, 1) := by decide +kernel
theorem d_X_row_28 : decode b_X_row 28 = .ok (.invokevirtual 200, 3) := by decide +kernel
theorem d_X_row_31 : decode b_X_row 31 = .ok (.ireturn, 1) := by decide +kernel
end
section
theorem d_M_init_0 : decode b_M_init 0 = .ok (.aload_n 0, 1) := by decide +kernel
theorem d_M_init_1 : decode b_M_init 1 = .ok (.invokespecial 1, 3) := by decide +kernel
theorem d_M_init_4 : decode b_M_init 4 = .ok (.aload_n 0, 1) := by decide +kernel
theorem d_M_init_5 : decode b_M_init 5 = .ok (.bipush 10, 2) := by decide +kernel
theorem d_M_init_7 : decode b_M_init 7 = .ok (.newarray .int, 2) := by decide +kernel
theorem d_M_init_9 : decode b_M_init 9 = .ok (.putfield 7, 3) := by decide +kernel
theorem d_M_init_12 : decode b_M_init 12 = .ok (.aload_n 0, 1) := by decide +kernel
theorem d_M_init_13 : decode b_M_init 13 = .ok (.bipush 10, 2) := by decide +kernel
theorem d_M_init_15 : decode b_M_init 15 = .ok (.newarray .int, 2) := by decide +kernel
theorem d_M_init_17 : decode b_M_init 17 = .ok (.putfield 13, 3) := by decide +kernel
theorem d_M_init_20 : decode b_M_init 20 = .ok (.aload_n 0, 1) := by decide +kernel
theorem d_M_init_21 : decode b_M_init 21 = .ok (.bipush 10, 2) := by decide +kernel
theorem d_M_init_23 : decode b_M_init 23 = .ok (.newarray .int, 2) := by decide +kernel
theorem d_M_init_25 : decode b_M_init 25 = .ok (.putfield 16, 3) := by decide +kernel
theorem d_M_init_28 : decode b_M_init 28 = .ok (.aload_n 0, 1) := by decide +kernel
theorem d_M_init_29 : decode b_M_init 29 = .ok (.sipush 200, 3) := by decide +kernel
theorem d_M_init_32 : decode b_M_init 32 = .ok (.newarray .int, 2) := by decide +kernel
theorem d_M_init_34 : decode b_M_init 34 = .ok (.putfield 19, 3) := by decide +kernel
theorem d_M_init_37 : decode b_M_init 37 = .ok (.aload_n 0, 1) := by decide +kernel
theorem d_M_init_38 : decode b_M_init 38 = .ok (.sipush 200, 3) := by decide +kernel
theorem d_M_init_41 : decode b_M_init 41 = .ok (.newarray .int, 2) := by decide +kernel
theorem d_M_init_43 : decode b_M_init 43 = .ok (.putfield 22, 3) := by decide +kernel
theorem d_M_init_46 : decode b_M_init 46 = .ok (.aload_n 0, 1) := by decide +kernel
theorem d_M_init_47 : decode b_M_init 47 = .ok (.sipush 200, 3) := by decide +kernel
theorem d_M_init_50 : decode b_M_init 50 = .ok (.newarray .int, 2) := by decide +kernel
theorem d_M_init_52 : decode b_M_init 52 = .ok (.putfield 25, 3) := by decide +kernel
theorem d_M_init_55 : decode b_M_init 55 = .ok (.aload_n 0, 1) := by decide +kernel
theorem d_M_init_56 : decode b_M_init 56 = .ok (.sipush 200, 3) := by decide +kernel
theorem d_M_init_59 : decode b_M_init 59 = .ok (.newarray .int, 2) := by decide +kernel
theorem d_M_init_61 : decode b_M_init 61 = .ok (.putfield 28, 3) := by decide +kernel
theorem d_M_init_64 : decode b_M_init 64 = .ok (.aload_n 0, 1) := by decide +kernel
theorem d_M_init_65 : decode b_M_init 65 = .ok (.sipush 200, 3) := by decide +kernel
theorem d_M_init_68 : decode b_M_init 68 = .ok (.newarray .int, 2) := by decide +kernel
theorem d_M_init_70 : decode b_M_init 70 = .ok (.putfield 31, 3) := by decide +kernel
theorem d_M_init_73 : decode b_M_init 73 = .ok (.aload_n 0, 1) := by decide +kernel
theorem d_M_init_74 : decode b_M_init 74 = .ok (.sipush 200, 3) := by decide +kernel
theorem d_M_init_77 : decode b_M_init 77 = .ok (.newarray .int, 2) := by decide +kernel
theorem d_M_init_79 : decode b_M_init 79 = .ok (.putfield 34, 3) := by decide +kernel
theorem d_M_init_82 : decode b_M_init 82 = .ok (.aload_n 0, 1) := by decide +kernel
theorem d_M_init_83 : decode b_M_init 83 = .ok (.sipush 200, 3) := by decide +kernel
theorem d_M_init_86 : decode b_M_init 86 = .ok (.newarray .int, 2) := by decide +kernel
theorem d_M_init_88 : decode b_M_init 88 = .ok (.putfield 37, 3) := by decide +kernel
theorem d_M_init_91 : decode b_M_init 91 = .ok (.aload_n 0, 1) := by decide +kernel
theorem d_M_init_92 : decode b_M_init 92 = .ok (.sipush 200, 3) := by decide +kernel
theorem d_M_init_95 : decode b_M_init 95 = .ok (.newarray .int, 2) := by decide +kernel
theorem d_M_init_97 : decode b_M_init 97 = .ok (.putfield 40, 3) := by decide +kernel
theorem d_M_init_100 : decode b_M_init 100 = .ok (.aload_n 0, 1) := by decide +kernel
theorem d_M_init_101 : decode b_M_init 101 = .ok (.sipush 200, 3) := by decide +kernel
theorem d_M_init_104 : decode b_M_init 104 = .ok (.newarray .int, 2) := by decide +kernel
theorem d_M_init_106 : decode b_M_init 106 = .ok (.putfield 43, 3) := by decide +kernel
theorem d_M_init_109 : decode b_M_init 109 = .ok (.aload_n 0, 1) := by decide +kernel
theorem d_M_init_110 : decode b_M_init 110 = .ok (.sipush 200, 3) := by decide +kernel
theorem d_M_init_113 : decode b_M_init 113 = .ok (.newarray .int, 2) := by decide +kernel
theorem d_M_init_115 : decode b_M_init 115 = .ok (.putfield 46, 3) := by decide +kernel
theorem d_M_init_118 : decode b_M_init 118 = .ok (.aload_n 0, 1) := by decide +kernel
theorem d_M_init_119 : decode b_M_init 119 = .ok (.sipush 200, 3) := by decide +kernel
theorem d_M_init_122 : decode b_M_init 122 = .ok (.newarray .int, 2) := by decide +kernel
theorem d_M_init_124 : decode b_M_init 124 = .ok (.putfield 49, 3) := by decide +kernel
theorem d_M_init_127 : decode b_M_init 127 = .ok (.aload_n 0, 1) := by decide +kernel
theorem d_M_init_128 : decode b_M_init 128 = .ok (.sipush 200, 3) := by decide +kernel
theorem d_M_init_131 : decode b_M_init 131 = .ok (.newarray .boolean, 2) := by decide +kernel
theorem d_M_init_133 : decode b_M_init 133 = .ok (.putfield 52, 3) := by decide +kernel
theorem d_M_init_136 : decode b_M_init 136 = .ok (.aload_n 0, 1) := by decide +kernel
theorem d_M_init_137 : decode b_M_init 137 = .ok (.sipush 200, 3) := by decide +kernel
theorem d_M_init_140 : decode b_M_init 140 = .ok (.newarray .int, 2) := by decide +kernel
theorem d_M_init_142 : decode b_M_init 142 = .ok (.putfield 56, 3) := by decide +kernel
theorem d_M_init_145 : decode b_M_init 145 = .ok (.aload_n 0, 1) := by decide +kernel
theorem d_M_init_146 : decode b_M_init 146 = .ok (.sipush 1600, 3) := by decide +kernel
theorem d_M_init_149 : decode b_M_init 149 = .ok (.newarray .int, 2) := by decide +kernel
theorem d_M_init_151 : decode b_M_init 151 = .ok (.putfield 59, 3) := by decide +kernel
theorem d_M_init_154 : decode b_M_init 154 = .ok (.aload_n 0, 1) := by decide +kernel
theorem d_M_init_155 : decode b_M_init 155 = .ok (.sipush 1600, 3) := by decide +kernel
theorem d_M_init_158 : decode b_M_init 158 = .ok (.newarray .int, 2) := by decide +kernel
theorem d_M_init_160 : decode b_M_init 160 = .ok (.putfield 62, 3) := by decide +kernel
theorem d_M_init_163 : decode b_M_init 163 = .ok (.aload_n 0, 1) := by decide +kernel
theorem d_M_init_164 : decode b_M_init 164 = .ok (.sipush 200, 3) := by decide +kernel
theorem d_M_init_167 : decode b_M_init 167 = .ok (.newarray .int, 2) := by decide +kernel
theorem d_M_init_169 : decode b_M_init 169 = .ok (.putfield 65, 3) := by decide +kernel
theorem d_M_init_172 : decode b_M_init 172 = .ok (.aload_n 0, 1) := by decide +kernel
theorem d_M_init_173 : decode b_M_init 173 = .ok (.sipush 200, 3) := by decide +kernel
theorem d_M_init_176 : decode b_M_init 176 = .ok (.newarray .int, 2) := by decide +kernel
theorem d_M_init_178 : decode b_M_init 178 = .ok (.putfield 68, 3) := by decide +kernel
theorem d_M_init_181 : decode b_M_init 181 = .ok (.aload_n 0, 1) := by decide +kernel
theorem d_M_init_182 : decode b_M_init 182 = .ok (.sipush 200, 3) := by decide +kernel
theorem d_M_init_185 : decode b_M_init 185 = .ok (.newarray .int, 2) := by decide +kernel
theorem d_M_init_187 : decode b_M_init 187 = .ok (.putfield 71, 3) := by decide +kernel
theorem d_M_init_190 : decode b_M_init 190 = .ok (.aload_n 0, 1) := by decide +kernel
theorem d_M_init_191 : decode b_M_init 191 = .ok (.sipush 200, 3) := by decide +kernel
theorem d_M_init_194 : decode b_M_init 194 = .ok (.newarray .int, 2) := by decide +kernel
theorem d_M_init_196 : decode b_M_init 196 = .ok (.putfield 74, 3) := by decide +kernel
theorem d_M_init_199 : decode b_M_init 199 = .ok (.aload_n 0, 1) := by decide +kernel
theorem d_M_init_200 : decode b_M_init 200 = .ok (.sipush 200, 3) := by decide +kernel
theorem d_M_init_203 : decode b_M_init 203 = .ok (.newarray .int, 2) := by decide +kernel
theorem d_M_init_205 : decode b_M_init 205 = .ok (.putfield 77, 3) := by decide +kernel
theorem d_M_init_208 : decode b_M_init 208 = .ok (.aload_n 0, 1) := by decide +kernel
theorem d_M_init_209 : decode b_M_init 209 = .ok (.sipush 200, 3) := by decide +kernel
theorem d_M_init_212 : decode b_M_init 212 = .ok (.newarray .int, 2) := by decide +kernel
theorem d_M_init_214 : decode b_M_init 214 = .ok (.putfield 80, 3) := by decide +kernel
theorem d_M_init_217 : decode b_M_init 217 = .ok (.aload_n 0, 1) := by decide +kernel
theorem d_M_init_218 : decode b_M_init 218 = .ok (.sipush 200, 3) := by decide +kernel
theorem d_M_init_221 : decode b_M_init 221 = .ok (.newarray .int, 2) := by decide +kernel
theorem d_M_init_223 : decode b_M_init 223 = .ok (.putfield 83, 3) := by decide +kernel
theorem d_M_init_226 : decode b_M_init 226 = .ok (.aload_n 0, 1) := by decide +kernel
theorem d_M_init_227 : decode b_M_init 227 = .ok (.bipush 100, 2) := by decide +kernel
theorem d_M_init_229 : decode b_M_init 229 = .ok (.newarray .int, 2) := by decide +kernel
theorem d_M_init_231 : decode b_M_init 231 = .ok (.putfield 86, 3) := by decide +kernel
theorem d_M_init_234 : decode b_M_init 234 = .ok (.aload_n 0, 1) := by decide +kernel
theorem d_M_init_235 : decode b_M_init 235 = .ok (.bipush 100, 2) := by decide +kernel
theorem d_M_init_237 : decode b_M_init 237 = .ok (.newarray .int, 2) := by decide +kernel
theorem d_M_init_239 : decode b_M_init 239 = .ok (.putfield 89, 3) := by decide +kernel
theorem d_M_init_242 : decode b_M_init 242 = .ok (.iconst 0, 1) := by decide +kernel
theorem d_M_init_243 : decode b_M_init 243 = .ok (.istore_n 1, 1) := by decide +kernel
theorem d_M_init_244 : decode b_M_init 244 = .ok (.iload_n 1, 1) := by decide +kernel
theorem d_M_init_245 : decode b_M_init 245 = .ok (.bipush 10, 2) := by decide +kernel
theorem d_M_init_247 : decode b_M_init 247 = .ok (.if_icmp .ge 32, 3) := by decide +kernel
theorem d_M_init_250 : decode b_M_init 250 = .ok (.aload_n 0, 1) := by decide +kernel
theorem d_M_init_251 : decode b_M_init 251 = .ok (.getfield 7, 3) := by decide +kernel
theorem d_M_init_254 : decode b_M_init 254 = .ok (.iload_n 1, 1) := by decide +kernel
theorem d_M_init_255 : decode b_M_init 255 = .ok (.bipush 30, 2) := by decide +kernel
theorem d_M_init_257 : decode b_M_init 257 = .ok (.iastore, 1) := by decide +kernel
theorem d_M_init_258 : decode b_M_init 258 = .ok (.aload_n 0, 1) := by decide +kernel
theorem d_M_init_259 : decode b_M_init 259 = .ok (.getfield 13, 3) := by decide +kernel
theorem d_M_init_262 : decode b_M_init 262 = .ok (.iload_n 1, 1) := by decide +kernel
theorem d_M_init_263 : decode b_M_init 263 = .ok (.bipush 20, 2) := by decide +kernel
theorem d_M_init_265 : decode b_M_init 265 = .ok (.iastore, 1) := by decide +kernel
theorem d_M_init_266 : decode b_M_init 266 = .ok (.aload_n 0, 1) := by decide +kernel
theorem d_M_init_267 : decode b_M_init 267 = .ok (.getfield 16, 3) := by decide +kernel
theorem d_M_init_270 : decode b_M_init 270 = .ok (.iload_n 1, 1) := by decide +kernel
theorem d_M_init_271 : decode b_M_init 271 = .ok (.iconst 3, 1) := by decide +kernel
theorem d_M_init_272 : decode b_M_init 272 = .ok (.iastore, 1) := by decide +kernel
theorem d_M_init_273 : decode b_M_init 273 = .ok (.iinc 1 1, 3) := by decide +kernel
theorem d_M_init_276 : decode b_M_init 276 = .ok (.goto (-32), 3) := by decide +kernel
theorem d_M_init_279 : decode b_M_init 279 = .ok (.return_, 1) := by decide +kernel
theorem d_M_thrown_0 : decode b_M_thrown 0 = .ok (.aload_n 0, 1) := by decide +kernel
theorem d_M_thrown_1 : decode b_M_thrown 1 = .ok (.getfield 92, 3) := by decide +kernel
theorem d_M_thrown_4 : decode b_M_thrown 4 = .ok (.ireturn, 1) := by decide +kernel
theorem d_M_rule_0 : decode b_M_rule 0 = .ok (.aload_n 0, 1) := by decide +kernel
theorem d_M_rule_1 : decode b_M_rule 1 = .ok (.iconst 0, 1) := by decide +kernel
theorem d_M_rule_2 : decode b_M_rule 2 = .ok (.putfield 92, 3) := by decide +kernel
theorem d_M_rule_5 : decode b_M_rule 5 = .ok (.iload_n 1, 1) := by decide +kernel
theorem d_M_rule_6 : decode b_M_rule 6 = .ok (.iconst 0, 1) := by decide +kernel
theorem d_M_rule_7 : decode b_M_rule 7 = .ok (.bipush 9, 2) := by decide +kernel
theorem d_M_rule_9 : decode b_M_rule 9 = .ok (.invokestatic 97, 3) := by decide +kernel
theorem d_M_rule_12 : decode b_M_rule 12 = .ok (.ifCond .ne 5, 3) := by decide +kernel
theorem d_M_rule_15 : decode b_M_rule 15 = .ok (.iconst (-1), 1) := by decide +kernel
theorem d_M_rule_16 : decode b_M_rule 16 = .ok (.ireturn, 1) := by decide +kernel
theorem d_M_rule_17 : decode b_M_rule 17 = .ok (.iload_n 2, 1) := by decide +kernel
theorem d_M_rule_18 : decode b_M_rule 18 = .ok (.iconst 1, 1) := by decide +kernel
theorem d_M_rule_19 : decode b_M_rule 19 = .ok (.sipush 1000, 3) := by decide +kernel
theorem d_M_rule_22 : decode b_M_rule 22 = .ok (.invokestatic 97, 3) := by decide +kernel
theorem d_M_rule_25 : decode b_M_rule 25 = .ok (.ifCond .eq 25, 3) := by decide +kernel
theorem d_M_rule_28 : decode b_M_rule 28 = .ok (.iload_n 3, 1) := by decide +kernel
theorem d_M_rule_29 : decode b_M_rule 29 = .ok (.iconst 1, 1) := by decide +kernel
theorem d_M_rule_30 : decode b_M_rule 30 = .ok (.sipush 1000, 3) := by decide +kernel
theorem d_M_rule_33 : decode b_M_rule 33 = .ok (.invokestatic 97, 3) := by decide +kernel
theorem d_M_rule_36 : decode b_M_rule 36 = .ok (.ifCond .eq 14, 3) := by decide +kernel
theorem d_M_rule_39 : decode b_M_rule 39 = .ok (.iload 4, 2) := by decide +kernel
theorem d_M_rule_41 : decode b_M_rule 41 = .ok (.iconst 0, 1) := by decide +kernel
theorem d_M_rule_42 : decode b_M_rule 42 = .ok (.bipush 9, 2) := by decide +kernel
theorem d_M_rule_44 : decode b_M_rule 44 = .ok (.invokestatic 97, 3) := by decide +kernel
theorem d_M_rule_47 : decode b_M_rule 47 = .ok (.ifCond .ne 6, 3) := by decide +kernel
theorem d_M_rule_50 : decode b_M_rule 50 = .ok (.bipush (-2), 2) := by decide +kernel
theorem d_M_rule_52 : decode b_M_rule 52 = .ok (.ireturn, 1) := by decide +kernel
theorem d_M_rule_53 : decode b_M_rule 53 = .ok (.aload_n 0, 1) := by decide +kernel
theorem d_M_rule_54 : decode b_M_rule 54 = .ok (.getfield 7, 3) := by decide +kernel
theorem d_M_rule_57 : decode b_M_rule 57 = .ok (.iload_n 1, 1) := by decide +kernel
theorem d_M_rule_58 : decode b_M_rule 58 = .ok (.iload_n 2, 1) := by decide +kernel
theorem d_M_rule_59 : decode b_M_rule 59 = .ok (.iastore, 1) := by decide +kernel
theorem d_M_rule_60 : decode b_M_rule 60 = .ok (.aload_n 0, 1) := by decide +kernel
theorem d_M_rule_61 : decode b_M_rule 61 = .ok (.getfield 13, 3) := by decide +kernel
theorem d_M_rule_64 : decode b_M_rule 64 = .ok (.iload_n 1, 1) := by decide +kernel
theorem d_M_rule_65 : decode b_M_rule 65 = .ok (.iload_n 3, 1) := by decide +kernel
theorem d_M_rule_66 : decode b_M_rule 66 = .ok (.iastore, 1) := by decide +kernel
theorem d_M_rule_67 : decode b_M_rule 67 = .ok (.aload_n 0, 1) := by decide +kernel
theorem d_M_rule_68 : decode b_M_rule 68 = .ok (.getfield 16, 3) := by decide +kernel
theorem d_M_rule_71 : decode b_M_rule 71 = .ok (.iload_n 1, 1) := by decide +kernel
theorem d_M_rule_72 : decode b_M_rule 72 = .ok (.iload 4, 2) := by decide +kernel
theorem d_M_rule_74 : decode b_M_rule 74 = .ok (.iastore, 1) := by decide +kernel
theorem d_M_rule_75 : decode b_M_rule 75 = .ok (.iconst 1, 1) := by decide +kernel
theorem d_M_rule_76 : decode b_M_rule 76 = .ok (.ireturn, 1) := by decide +kernel
theorem d_M_in_0 : decode b_M_in 0 = .ok (.iload_n 0, 1) := by decide +kernel
theorem d_M_in_1 : decode b_M_in 1 = .ok (.iload_n 1, 1) := by decide +kernel
theorem d_M_in_2 : decode b_M_in 2 = .ok (.if_icmp .lt 12, 3) := by decide +kernel
theorem d_M_in_5 : decode b_M_in 5 = .ok (.iload_n 0, 1) := by decide +kernel
theorem d_M_in_6 : decode b_M_in 6 = .ok (.iload_n 2, 1) := by decide +kernel
theorem d_M_in_7 : decode b_M_in 7 = .ok (.if_icmp .gt 7, 3) := by decide +kernel
theorem d_M_in_10 : decode b_M_in 10 = .ok (.iconst 1, 1) := by decide +kernel
theorem d_M_in_11 : decode b_M_in 11 = .ok (.goto 4, 3) := by decide +kernel
theorem d_M_in_14 : decode b_M_in 14 = .ok (.iconst 0, 1) := by decide +kernel
theorem d_M_in_15 : decode b_M_in 15 = .ok (.ireturn, 1) := by decide +kernel
theorem d_M_issue_0 : decode b_M_issue 0 = .ok (.aload_n 0, 1) := by decide +kernel
theorem d_M_issue_1 : decode b_M_issue 1 = .ok (.iconst 0, 1) := by decide +kernel
theorem d_M_issue_2 : decode b_M_issue 2 = .ok (.putfield 92, 3) := by decide +kernel
theorem d_M_issue_5 : decode b_M_issue 5 = .ok (.iload_n 1, 1) := by decide +kernel
theorem d_M_issue_6 : decode b_M_issue 6 = .ok (.iconst 0, 1) := by decide +kernel
theorem d_M_issue_7 : decode b_M_issue 7 = .ok (.bipush 9, 2) := by decide +kernel
theorem d_M_issue_9 : decode b_M_issue 9 = .ok (.invokestatic 97, 3) := by decide +kernel
theorem d_M_issue_12 : decode b_M_issue 12 = .ok (.ifCond .ne 5, 3) := by decide +kernel
theorem d_M_issue_15 : decode b_M_issue 15 = .ok (.iconst (-1), 1) := by decide +kernel
theorem d_M_issue_16 : decode b_M_issue 16 = .ok (.ireturn, 1) := by decide +kernel
theorem d_M_issue_17 : decode b_M_issue 17 = .ok (.iload_n 2, 1) := by decide +kernel
theorem d_M_issue_18 : decode b_M_issue 18 = .ok (.iconst 1, 1) := by decide +kernel
theorem d_M_issue_19 : decode b_M_issue 19 = .ok (.sipush 9999, 3) := by decide +kernel
theorem d_M_issue_22 : decode b_M_issue 22 = .ok (.invokestatic 97, 3) := by decide +kernel
theorem d_M_issue_25 : decode b_M_issue 25 = .ok (.ifCond .eq 15, 3) := by decide +kernel
theorem d_M_issue_28 : decode b_M_issue 28 = .ok (.iload_n 3, 1) := by decide +kernel
theorem d_M_issue_29 : decode b_M_issue 29 = .ok (.iconst (-1), 1) := by decide +kernel
theorem d_M_issue_30 : decode b_M_issue 30 = .ok (.if_icmp .eq 13, 3) := by decide +kernel
theorem d_M_issue_33 : decode b_M_issue 33 = .ok (.iload_n 3, 1) := by decide +kernel
theorem d_M_issue_34 : decode b_M_issue 34 = .ok (.invokestatic 107, 3) := by decide +kernel
theorem d_M_issue_37 : decode b_M_issue 37 = .ok (.ifCond .ne 6, 3) := by decide +kernel
theorem d_M_issue_40 : decode b_M_issue 40 = .ok (.bipush (-2), 2) := by decide +kernel
theorem d_M_issue_42 : decode b_M_issue 42 = .ok (.ireturn, 1) := by decide +kernel
theorem d_M_issue_43 : decode b_M_issue 43 = .ok (.iconst 0, 1) := by decide +kernel
theorem d_M_issue_44 : decode b_M_issue 44 = .ok (.istore 4, 2) := by decide +kernel
theorem d_M_issue_46 : decode b_M_issue 46 = .ok (.iload 4, 2) := by decide +kernel
theorem d_M_issue_48 : decode b_M_issue 48 = .ok (.aload_n 0, 1) := by decide +kernel
theorem d_M_issue_49 : decode b_M_issue 49 = .ok (.getfield 101, 3) := by decide +kernel
theorem d_M_issue_52 : decode b_M_issue 52 = .ok (.if_icmp .ge 34, 3) := by decide +kernel
theorem d_M_issue_55 : decode b_M_issue 55 = .ok (.aload_n 0, 1) := by decide +kernel
theorem d_M_issue_56 : decode b_M_issue 56 = .ok (.getfield 19, 3) := by decide +kernel
theorem d_M_issue_59 : decode b_M_issue 59 = .ok (.iload 4, 2) := by decide +kernel
theorem d_M_issue_61 : decode b_M_issue 61 = .ok (.iaload, 1) := by decide +kernel
theorem d_M_issue_62 : decode b_M_issue 62 = .ok (.iload_n 1, 1) := by decide +kernel
theorem d_M_issue_63 : decode b_M_issue 63 = .ok (.if_icmp .ne 17, 3) := by decide +kernel
theorem d_M_issue_66 : decode b_M_issue 66 = .ok (.aload_n 0, 1) := by decide +kernel
theorem d_M_issue_67 : decode b_M_issue 67 = .ok (.getfield 22, 3) := by decide +kernel
theorem d_M_issue_70 : decode b_M_issue 70 = .ok (.iload 4, 2) := by decide +kernel
theorem d_M_issue_72 : decode b_M_issue 72 = .ok (.iaload, 1) := by decide +kernel
theorem d_M_issue_73 : decode b_M_issue 73 = .ok (.iload_n 2, 1) := by decide +kernel
theorem d_M_issue_74 : decode b_M_issue 74 = .ok (.if_icmp .ne 6, 3) := by decide +kernel
theorem d_M_issue_77 : decode b_M_issue 77 = .ok (.bipush (-3), 2) := by decide +kernel
theorem d_M_issue_79 : decode b_M_issue 79 = .ok (.ireturn, 1) := by decide +kernel
theorem d_M_issue_80 : decode b_M_issue 80 = .ok (.iinc 4 1, 3) := by decide +kernel
theorem d_M_issue_83 : decode b_M_issue 83 = .ok (.goto (-37), 3) := by decide +kernel
theorem d_M_issue_86 : decode b_M_issue 86 = .ok (.aload_n 0, 1) := by decide +kernel
theorem d_M_issue_87 : decode b_M_issue 87 = .ok (.getfield 101, 3) := by decide +kernel
theorem d_M_issue_90 : decode b_M_issue 90 = .ok (.sipush 200, 3) := by decide +kernel
theorem d_M_issue_93 : decode b_M_issue 93 = .ok (.if_icmp .ne 8, 3) := by decide +kernel
theorem d_M_issue_96 : decode b_M_issue 96 = .ok (.bipush (-4), 2) := by decide +kernel
theorem d_M_issue_98 : decode b_M_issue 98 = .ok (.goto 10, 3) := by decide +kernel
theorem d_M_issue_101 : decode b_M_issue 101 = .ok (.aload_n 0, 1) := by decide +kernel
theorem d_M_issue_102 : decode b_M_issue 102 = .ok (.iload_n 1, 1) := by decide +kernel
theorem d_M_issue_103 : decode b_M_issue 103 = .ok (.iload_n 2, 1) := by decide +kernel
theorem d_M_issue_104 : decode b_M_issue 104 = .ok (.iload_n 3, 1) := by decide +kernel
theorem d_M_issue_105 : decode b_M_issue 105 = .ok (.invokevirtual 111, 3) := by decide +kernel
theorem d_M_issue_108 : decode b_M_issue 108 = .ok (.ireturn, 1) := by decide +kernel
theorem d_M_isDay_0 : decode b_M_isDay 0 = .ok (.iload_n 0, 1) := by decide +kernel
theorem d_M_isDay_1 : decode b_M_isDay 1 = .ok (.iconst 0, 1) := by decide +kernel
theorem d_M_isDay_2 : decode b_M_isDay 2 = .ok (.ldc 96, 2) := by decide +kernel
theorem d_M_isDay_4 : decode b_M_isDay 4 = .ok (.invokestatic 97, 3) := by decide +kernel
theorem d_M_isDay_7 : decode b_M_isDay 7 = .ok (.ireturn, 1) := by decide +kernel
theorem d_M_lay_0 : decode b_M_lay 0 = .ok (.aload_n 0, 1) := by decide +kernel
theorem d_M_lay_1 : decode b_M_lay 1 = .ok (.getfield 101, 3) := by decide +kernel
theorem d_M_lay_4 : decode b_M_lay 4 = .ok (.istore 4, 2) := by decide +kernel
theorem d_M_lay_6 : decode b_M_lay 6 = .ok (.aload_n 0, 1) := by decide +kernel
theorem d_M_lay_7 : decode b_M_lay 7 = .ok (.getfield 19, 3) := by decide +kernel
theorem d_M_lay_10 : decode b_M_lay 10 = .ok (.iload 4, 2) := by decide +kernel
theorem d_M_lay_12 : decode b_M_lay 12 = .ok (.iload_n 1, 1) := by decide +kernel
theorem d_M_lay_13 : decode b_M_lay 13 = .ok (.iastore, 1) := by decide +kernel
theorem d_M_lay_14 : decode b_M_lay 14 = .ok (.aload_n 0, 1) := by decide +kernel
theorem d_M_lay_15 : decode b_M_lay 15 = .ok (.getfield 22, 3) := by decide +kernel
theorem d_M_lay_18 : decode b_M_lay 18 = .ok (.iload 4, 2) := by decide +kernel
theorem d_M_lay_20 : decode b_M_lay 20 = .ok (.iload_n 2, 1) := by decide +kernel
theorem d_M_lay_21 : decode b_M_lay 21 = .ok (.iastore, 1) := by decide +kernel
theorem d_M_lay_22 : decode b_M_lay 22 = .ok (.aload_n 0, 1) := by decide +kernel
theorem d_M_lay_23 : decode b_M_lay 23 = .ok (.getfield 28, 3) := by decide +kernel
theorem d_M_lay_26 : decode b_M_lay 26 = .ok (.iload 4, 2) := by decide +kernel
theorem d_M_lay_28 : decode b_M_lay 28 = .ok (.iload_n 3, 1) := by decide +kernel
theorem d_M_lay_29 : decode b_M_lay 29 = .ok (.iastore, 1) := by decide +kernel
theorem d_M_lay_30 : decode b_M_lay 30 = .ok (.aload_n 0, 1) := by decide +kernel
theorem d_M_lay_31 : decode b_M_lay 31 = .ok (.getfield 25, 3) := by decide +kernel
theorem d_M_lay_34 : decode b_M_lay 34 = .ok (.iload 4, 2) := by decide +kernel
theorem d_M_lay_36 : decode b_M_lay 36 = .ok (.iload_n 3, 1) := by decide +kernel
theorem d_M_lay_37 : decode b_M_lay 37 = .ok (.ifCond .ge 7, 3) := by decide +kernel
theorem d_M_lay_40 : decode b_M_lay 40 = .ok (.iconst 0, 1) := by decide +kernel
theorem d_M_lay_41 : decode b_M_lay 41 = .ok (.goto 4, 3) := by decide +kernel
theorem d_M_lay_44 : decode b_M_lay 44 = .ok (.iconst 1, 1) := by decide +kernel
theorem d_M_lay_45 : decode b_M_lay 45 = .ok (.iastore, 1) := by decide +kernel
theorem d_M_lay_46 : decode b_M_lay 46 = .ok (.aload_n 0, 1) := by decide +kernel
theorem d_M_lay_47 : decode b_M_lay 47 = .ok (.getfield 31, 3) := by decide +kernel
theorem d_M_lay_50 : decode b_M_lay 50 = .ok (.iload 4, 2) := by decide +kernel
theorem d_M_lay_52 : decode b_M_lay 52 = .ok (.iconst 0, 1) := by decide +kernel
theorem d_M_lay_53 : decode b_M_lay 53 = .ok (.iastore, 1) := by decide +kernel
theorem d_M_lay_54 : decode b_M_lay 54 = .ok (.aload_n 0, 1) := by decide +kernel
theorem d_M_lay_55 : decode b_M_lay 55 = .ok (.getfield 37, 3) := by decide +kernel
theorem d_M_lay_58 : decode b_M_lay 58 = .ok (.iload 4, 2) := by decide +kernel
theorem d_M_lay_60 : decode b_M_lay 60 = .ok (.iconst 0, 1) := by decide +kernel
theorem d_M_lay_61 : decode b_M_lay 61 = .ok (.iastore, 1) := by decide +kernel
theorem d_M_lay_62 : decode b_M_lay 62 = .ok (.aload_n 0, 1) := by decide +kernel
theorem d_M_lay_63 : decode b_M_lay 63 = .ok (.getfield 40, 3) := by decide +kernel
theorem d_M_lay_66 : decode b_M_lay 66 = .ok (.iload 4, 2) := by decide +kernel
theorem d_M_lay_68 : decode b_M_lay 68 = .ok (.iconst (-1), 1) := by decide +kernel
theorem d_M_lay_69 : decode b_M_lay 69 = .ok (.iastore, 1) := by decide +kernel
theorem d_M_lay_70 : decode b_M_lay 70 = .ok (.aload_n 0, 1) := by decide +kernel
theorem d_M_lay_71 : decode b_M_lay 71 = .ok (.getfield 43, 3) := by decide +kernel
theorem d_M_lay_74 : decode b_M_lay 74 = .ok (.iload 4, 2) := by decide +kernel
theorem d_M_lay_76 : decode b_M_lay 76 = .ok (.iconst (-1), 1) := by decide +kernel
theorem d_M_lay_77 : decode b_M_lay 77 = .ok (.iastore, 1) := by decide +kernel
theorem d_M_lay_78 : decode b_M_lay 78 = .ok (.aload_n 0, 1) := by decide +kernel
theorem d_M_lay_79 : decode b_M_lay 79 = .ok (.getfield 46, 3) := by decide +kernel
theorem d_M_lay_82 : decode b_M_lay 82 = .ok (.iload 4, 2) := by decide +kernel
theorem d_M_lay_84 : decode b_M_lay 84 = .ok (.iconst (-1), 1) := by decide +kernel
theorem d_M_lay_85 : decode b_M_lay 85 = .ok (.iastore, 1) := by decide +kernel
theorem d_M_lay_86 : decode b_M_lay 86 = .ok (.aload_n 0, 1) := by decide +kernel
theorem d_M_lay_87 : decode b_M_lay 87 = .ok (.getfield 49, 3) := by decide +kernel
theorem d_M_lay_90 : decode b_M_lay 90 = .ok (.iload 4, 2) := by decide +kernel
theorem d_M_lay_92 : decode b_M_lay 92 = .ok (.iconst 0, 1) := by decide +kernel
theorem d_M_lay_93 : decode b_M_lay 93 = .ok (.iastore, 1) := by decide +kernel
theorem d_M_lay_94 : decode b_M_lay 94 = .ok (.aload_n 0, 1) := by decide +kernel
theorem d_M_lay_95 : decode b_M_lay 95 = .ok (.getfield 56, 3) := by decide +kernel
theorem d_M_lay_98 : decode b_M_lay 98 = .ok (.iload 4, 2) := by decide +kernel
theorem d_M_lay_100 : decode b_M_lay 100 = .ok (.iconst 0, 1) := by decide +kernel
theorem d_M_lay_101 : decode b_M_lay 101 = .ok (.iastore, 1) := by decide +kernel
theorem d_M_lay_102 : decode b_M_lay 102 = .ok (.aload_n 0, 1) := by decide +kernel
theorem d_M_lay_103 : decode b_M_lay 103 = .ok (.getfield 65, 3) := by decide +kernel
theorem d_M_lay_106 : decode b_M_lay 106 = .ok (.iload 4, 2) := by decide +kernel
theorem d_M_lay_108 : decode b_M_lay 108 = .ok (.iconst (-1), 1) := by decide +kernel
theorem d_M_lay_109 : decode b_M_lay 109 = .ok (.iastore, 1) := by decide +kernel
theorem d_M_lay_110 : decode b_M_lay 110 = .ok (.aload_n 0, 1) := by decide +kernel
theorem d_M_lay_111 : decode b_M_lay 111 = .ok (.dup, 1) := by decide +kernel
theorem d_M_lay_112 : decode b_M_lay 112 = .ok (.getfield 101, 3) := by decide +kernel
theorem d_M_lay_115 : decode b_M_lay 115 = .ok (.iconst 1, 1) := by decide +kernel
theorem d_M_lay_116 : decode b_M_lay 116 = .ok (.iadd, 1) := by decide +kernel
theorem d_M_lay_117 : decode b_M_lay 117 = .ok (.putfield 101, 3) := by decide +kernel
theorem d_M_lay_120 : decode b_M_lay 120 = .ok (.iload 4, 2) := by decide +kernel
theorem d_M_lay_122 : decode b_M_lay 122 = .ok (.ireturn, 1) := by decide +kernel
theorem d_M_checkIn_0 : decode b_M_checkIn 0 = .ok (.aload_n 0, 1) := by decide +kernel
theorem d_M_checkIn_1 : decode b_M_checkIn 1 = .ok (.iconst 0, 1) := by decide +kernel
theorem d_M_checkIn_2 : decode b_M_checkIn 2 = .ok (.putfield 92, 3) := by decide +kernel
theorem d_M_checkIn_5 : decode b_M_checkIn 5 = .ok (.aload_n 0, 1) := by decide +kernel
theorem d_M_checkIn_6 : decode b_M_checkIn 6 = .ok (.iload_n 1, 1) := by decide +kernel
theorem d_M_checkIn_7 : decode b_M_checkIn 7 = .ok (.invokevirtual 115, 3) := by decide +kernel
theorem d_M_checkIn_10 : decode b_M_checkIn 10 = .ok (.ifCond .ne 5, 3) := by decide +kernel
theorem d_M_checkIn_13 : decode b_M_checkIn 13 = .ok (.iconst (-1), 1) := by decide +kernel
theorem d_M_checkIn_14 : decode b_M_checkIn 14 = .ok (.ireturn, 1) := by decide +kernel
theorem d_M_checkIn_15 : decode b_M_checkIn 15 = .ok (.iload_n 2, 1) := by decide +kernel
theorem d_M_checkIn_16 : decode b_M_checkIn 16 = .ok (.iconst 1, 1) := by decide +kernel
theorem d_M_checkIn_17 : decode b_M_checkIn 17 = .ok (.bipush 99, 2) := by decide +kernel
theorem d_M_checkIn_19 : decode b_M_checkIn 19 = .ok (.invokestatic 97, 3) := by decide +kernel
theorem d_M_checkIn_22 : decode b_M_checkIn 22 = .ok (.ifCond .eq 10, 3) := by decide +kernel
theorem d_M_checkIn_25 : decode b_M_checkIn 25 = .ok (.iload_n 3, 1) := by decide +kernel
theorem d_M_checkIn_26 : decode b_M_checkIn 26 = .ok (.invokestatic 107, 3) := by decide +kernel
theorem d_M_checkIn_29 : decode b_M_checkIn 29 = .ok (.ifCond .ne 6, 3) := by decide +kernel
theorem d_M_checkIn_32 : decode b_M_checkIn 32 = .ok (.bipush (-2), 2) := by decide +kernel
theorem d_M_checkIn_34 : decode b_M_checkIn 34 = .ok (.ireturn, 1) := by decide +kernel
theorem d_M_checkIn_35 : decode b_M_checkIn 35 = .ok (.aload_n 0, 1) := by decide +kernel
theorem d_M_checkIn_36 : decode b_M_checkIn 36 = .ok (.getfield 25, 3) := by decide +kernel
theorem d_M_checkIn_39 : decode b_M_checkIn 39 = .ok (.iload_n 1, 1) := by decide +kernel
theorem d_M_checkIn_40 : decode b_M_checkIn 40 = .ok (.iaload, 1) := by decide +kernel
end
section
theorem d_M_checkIn_41 : decode b_M_checkIn 41 = .ok (.istore 4, 2) := by decide +kernel
theorem d_M_checkIn_43 : decode b_M_checkIn 43 = .ok (.iload 4, 2) := by decide +kernel
theorem d_M_checkIn_45 : decode b_M_checkIn 45 = .ok (.ifCond .eq 24, 3) := by decide +kernel
theorem d_M_checkIn_48 : decode b_M_checkIn 48 = .ok (.iload 4, 2) := by decide +kernel
theorem d_M_checkIn_50 : decode b_M_checkIn 50 = .ok (.iconst 1, 1) := by decide +kernel
theorem d_M_checkIn_51 : decode b_M_checkIn 51 = .ok (.if_icmp .eq 18, 3) := by decide +kernel
theorem d_M_checkIn_54 : decode b_M_checkIn 54 = .ok (.iload 4, 2) := by decide +kernel
theorem d_M_checkIn_56 : decode b_M_checkIn 56 = .ok (.iconst 2, 1) := by decide +kernel
theorem d_M_checkIn_57 : decode b_M_checkIn 57 = .ok (.if_icmp .eq 12, 3) := by decide +kernel
theorem d_M_checkIn_60 : decode b_M_checkIn 60 = .ok (.iload 4, 2) := by decide +kernel
theorem d_M_checkIn_62 : decode b_M_checkIn 62 = .ok (.iconst 4, 1) := by decide +kernel
theorem d_M_checkIn_63 : decode b_M_checkIn 63 = .ok (.if_icmp .eq 6, 3) := by decide +kernel
theorem d_M_checkIn_66 : decode b_M_checkIn 66 = .ok (.bipush (-3), 2) := by decide +kernel
theorem d_M_checkIn_68 : decode b_M_checkIn 68 = .ok (.ireturn, 1) := by decide +kernel
theorem d_M_checkIn_69 : decode b_M_checkIn 69 = .ok (.aload_n 0, 1) := by decide +kernel
theorem d_M_checkIn_70 : decode b_M_checkIn 70 = .ok (.getfield 25, 3) := by decide +kernel
theorem d_M_checkIn_73 : decode b_M_checkIn 73 = .ok (.iload_n 1, 1) := by decide +kernel
theorem d_M_checkIn_74 : decode b_M_checkIn 74 = .ok (.iconst 3, 1) := by decide +kernel
theorem d_M_checkIn_75 : decode b_M_checkIn 75 = .ok (.iastore, 1) := by decide +kernel
theorem d_M_checkIn_76 : decode b_M_checkIn 76 = .ok (.aload_n 0, 1) := by decide +kernel
theorem d_M_checkIn_77 : decode b_M_checkIn 77 = .ok (.getfield 37, 3) := by decide +kernel
theorem d_M_checkIn_80 : decode b_M_checkIn 80 = .ok (.iload_n 1, 1) := by decide +kernel
theorem d_M_checkIn_81 : decode b_M_checkIn 81 = .ok (.iload_n 2, 1) := by decide +kernel
theorem d_M_checkIn_82 : decode b_M_checkIn 82 = .ok (.iastore, 1) := by decide +kernel
theorem d_M_checkIn_83 : decode b_M_checkIn 83 = .ok (.aload_n 0, 1) := by decide +kernel
theorem d_M_checkIn_84 : decode b_M_checkIn 84 = .ok (.getfield 40, 3) := by decide +kernel
theorem d_M_checkIn_87 : decode b_M_checkIn 87 = .ok (.iload_n 1, 1) := by decide +kernel
theorem d_M_checkIn_88 : decode b_M_checkIn 88 = .ok (.iload_n 3, 1) := by decide +kernel
theorem d_M_checkIn_89 : decode b_M_checkIn 89 = .ok (.iastore, 1) := by decide +kernel
theorem d_M_checkIn_90 : decode b_M_checkIn 90 = .ok (.iload 4, 2) := by decide +kernel
theorem d_M_checkIn_92 : decode b_M_checkIn 92 = .ok (.ifCond .ne 12, 3) := by decide +kernel
theorem d_M_checkIn_95 : decode b_M_checkIn 95 = .ok (.aload_n 0, 1) := by decide +kernel
theorem d_M_checkIn_96 : decode b_M_checkIn 96 = .ok (.iconst 1, 1) := by decide +kernel
theorem d_M_checkIn_97 : decode b_M_checkIn 97 = .ok (.iload_n 1, 1) := by decide +kernel
theorem d_M_checkIn_98 : decode b_M_checkIn 98 = .ok (.invokevirtual 118, 3) := by decide +kernel
theorem d_M_checkIn_101 : decode b_M_checkIn 101 = .ok (.goto 25, 3) := by decide +kernel
theorem d_M_checkIn_104 : decode b_M_checkIn 104 = .ok (.iload 4, 2) := by decide +kernel
theorem d_M_checkIn_106 : decode b_M_checkIn 106 = .ok (.iconst 4, 1) := by decide +kernel
theorem d_M_checkIn_107 : decode b_M_checkIn 107 = .ok (.if_icmp .eq 13, 3) := by decide +kernel
theorem d_M_checkIn_110 : decode b_M_checkIn 110 = .ok (.iload_n 3, 1) := by decide +kernel
theorem d_M_checkIn_111 : decode b_M_checkIn 111 = .ok (.aload_n 0, 1) := by decide +kernel
theorem d_M_checkIn_112 : decode b_M_checkIn 112 = .ok (.getfield 28, 3) := by decide +kernel
theorem d_M_checkIn_115 : decode b_M_checkIn 115 = .ok (.iload_n 1, 1) := by decide +kernel
theorem d_M_checkIn_116 : decode b_M_checkIn 116 = .ok (.iaload, 1) := by decide +kernel
theorem d_M_checkIn_117 : decode b_M_checkIn 117 = .ok (.if_icmp .le 9, 3) := by decide +kernel
theorem d_M_checkIn_120 : decode b_M_checkIn 120 = .ok (.aload_n 0, 1) := by decide +kernel
theorem d_M_checkIn_121 : decode b_M_checkIn 121 = .ok (.iconst 2, 1) := by decide +kernel
theorem d_M_checkIn_122 : decode b_M_checkIn 122 = .ok (.iload_n 1, 1) := by decide +kernel
theorem d_M_checkIn_123 : decode b_M_checkIn 123 = .ok (.invokevirtual 118, 3) := by decide +kernel
theorem d_M_checkIn_126 : decode b_M_checkIn 126 = .ok (.iload 4, 2) := by decide +kernel
theorem d_M_checkIn_128 : decode b_M_checkIn 128 = .ok (.ifCond .ne 7, 3) := by decide +kernel
theorem d_M_checkIn_131 : decode b_M_checkIn 131 = .ok (.iconst 0, 1) := by decide +kernel
theorem d_M_checkIn_132 : decode b_M_checkIn 132 = .ok (.goto 4, 3) := by decide +kernel
theorem d_M_checkIn_135 : decode b_M_checkIn 135 = .ok (.iconst 1, 1) := by decide +kernel
theorem d_M_checkIn_136 : decode b_M_checkIn 136 = .ok (.ireturn, 1) := by decide +kernel
theorem d_M_isIssue_0 : decode b_M_isIssue 0 = .ok (.iload_n 1, 1) := by decide +kernel
theorem d_M_isIssue_1 : decode b_M_isIssue 1 = .ok (.iconst 0, 1) := by decide +kernel
theorem d_M_isIssue_2 : decode b_M_isIssue 2 = .ok (.aload_n 0, 1) := by decide +kernel
theorem d_M_isIssue_3 : decode b_M_isIssue 3 = .ok (.getfield 101, 3) := by decide +kernel
theorem d_M_isIssue_6 : decode b_M_isIssue 6 = .ok (.iconst 1, 1) := by decide +kernel
theorem d_M_isIssue_7 : decode b_M_isIssue 7 = .ok (.isub, 1) := by decide +kernel
theorem d_M_isIssue_8 : decode b_M_isIssue 8 = .ok (.invokestatic 97, 3) := by decide +kernel
theorem d_M_isIssue_11 : decode b_M_isIssue 11 = .ok (.ireturn, 1) := by decide +kernel
theorem d_M_tell_0 : decode b_M_tell 0 = .ok (.aload_n 0, 1) := by decide +kernel
theorem d_M_tell_1 : decode b_M_tell 1 = .ok (.getfield 104, 3) := by decide +kernel
theorem d_M_tell_4 : decode b_M_tell 4 = .ok (.bipush 100, 2) := by decide +kernel
theorem d_M_tell_6 : decode b_M_tell 6 = .ok (.if_icmp .ne 4, 3) := by decide +kernel
theorem d_M_tell_9 : decode b_M_tell 9 = .ok (.return_, 1) := by decide +kernel
theorem d_M_tell_10 : decode b_M_tell 10 = .ok (.aload_n 0, 1) := by decide +kernel
theorem d_M_tell_11 : decode b_M_tell 11 = .ok (.getfield 86, 3) := by decide +kernel
theorem d_M_tell_14 : decode b_M_tell 14 = .ok (.aload_n 0, 1) := by decide +kernel
theorem d_M_tell_15 : decode b_M_tell 15 = .ok (.getfield 104, 3) := by decide +kernel
theorem d_M_tell_18 : decode b_M_tell 18 = .ok (.iload_n 1, 1) := by decide +kernel
theorem d_M_tell_19 : decode b_M_tell 19 = .ok (.iastore, 1) := by decide +kernel
theorem d_M_tell_20 : decode b_M_tell 20 = .ok (.aload_n 0, 1) := by decide +kernel
theorem d_M_tell_21 : decode b_M_tell 21 = .ok (.getfield 89, 3) := by decide +kernel
theorem d_M_tell_24 : decode b_M_tell 24 = .ok (.aload_n 0, 1) := by decide +kernel
theorem d_M_tell_25 : decode b_M_tell 25 = .ok (.getfield 104, 3) := by decide +kernel
theorem d_M_tell_28 : decode b_M_tell 28 = .ok (.iload_n 2, 1) := by decide +kernel
theorem d_M_tell_29 : decode b_M_tell 29 = .ok (.iastore, 1) := by decide +kernel
theorem d_M_tell_30 : decode b_M_tell 30 = .ok (.aload_n 0, 1) := by decide +kernel
theorem d_M_tell_31 : decode b_M_tell 31 = .ok (.dup, 1) := by decide +kernel
theorem d_M_tell_32 : decode b_M_tell 32 = .ok (.getfield 104, 3) := by decide +kernel
theorem d_M_tell_35 : decode b_M_tell 35 = .ok (.iconst 1, 1) := by decide +kernel
theorem d_M_tell_36 : decode b_M_tell 36 = .ok (.iadd, 1) := by decide +kernel
theorem d_M_tell_37 : decode b_M_tell 37 = .ok (.putfield 104, 3) := by decide +kernel
theorem d_M_tell_40 : decode b_M_tell 40 = .ok (.return_, 1) := by decide +kernel
theorem d_M_claim_0 : decode b_M_claim 0 = .ok (.aload_n 0, 1) := by decide +kernel
theorem d_M_claim_1 : decode b_M_claim 1 = .ok (.iconst 0, 1) := by decide +kernel
theorem d_M_claim_2 : decode b_M_claim 2 = .ok (.putfield 92, 3) := by decide +kernel
theorem d_M_claim_5 : decode b_M_claim 5 = .ok (.iload_n 1, 1) := by decide +kernel
theorem d_M_claim_6 : decode b_M_claim 6 = .ok (.invokestatic 107, 3) := by decide +kernel
theorem d_M_claim_9 : decode b_M_claim 9 = .ok (.ifCond .ne 6, 3) := by decide +kernel
theorem d_M_claim_12 : decode b_M_claim 12 = .ok (.bipush (-2), 2) := by decide +kernel
theorem d_M_claim_14 : decode b_M_claim 14 = .ok (.ireturn, 1) := by decide +kernel
theorem d_M_claim_15 : decode b_M_claim 15 = .ok (.aload_n 0, 1) := by decide +kernel
theorem d_M_claim_16 : decode b_M_claim 16 = .ok (.iconst 0, 1) := by decide +kernel
theorem d_M_claim_17 : decode b_M_claim 17 = .ok (.putfield 122, 3) := by decide +kernel
theorem d_M_claim_20 : decode b_M_claim 20 = .ok (.iconst 0, 1) := by decide +kernel
theorem d_M_claim_21 : decode b_M_claim 21 = .ok (.istore_n 2, 1) := by decide +kernel
theorem d_M_claim_22 : decode b_M_claim 22 = .ok (.iload_n 2, 1) := by decide +kernel
theorem d_M_claim_23 : decode b_M_claim 23 = .ok (.aload_n 0, 1) := by decide +kernel
theorem d_M_claim_24 : decode b_M_claim 24 = .ok (.getfield 101, 3) := by decide +kernel
theorem d_M_claim_27 : decode b_M_claim 27 = .ok (.if_icmp .ge 15, 3) := by decide +kernel
theorem d_M_claim_30 : decode b_M_claim 30 = .ok (.aload_n 0, 1) := by decide +kernel
theorem d_M_claim_31 : decode b_M_claim 31 = .ok (.iload_n 2, 1) := by decide +kernel
theorem d_M_claim_32 : decode b_M_claim 32 = .ok (.iload_n 1, 1) := by decide +kernel
theorem d_M_claim_33 : decode b_M_claim 33 = .ok (.invokevirtual 125, 3) := by decide +kernel
theorem d_M_claim_36 : decode b_M_claim 36 = .ok (.iinc 2 1, 3) := by decide +kernel
theorem d_M_claim_39 : decode b_M_claim 39 = .ok (.goto (-17), 3) := by decide +kernel
theorem d_M_claim_42 : decode b_M_claim 42 = .ok (.aload_n 0, 1) := by decide +kernel
theorem d_M_claim_43 : decode b_M_claim 43 = .ok (.getfield 122, 3) := by decide +kernel
theorem d_M_claim_46 : decode b_M_claim 46 = .ok (.ireturn, 1) := by decide +kernel
theorem d_M_askFor_0 : decode b_M_askFor 0 = .ok (.aload_n 0, 1) := by decide +kernel
theorem d_M_askFor_1 : decode b_M_askFor 1 = .ok (.getfield 19, 3) := by decide +kernel
theorem d_M_askFor_4 : decode b_M_askFor 4 = .ok (.iload_n 1, 1) := by decide +kernel
theorem d_M_askFor_5 : decode b_M_askFor 5 = .ok (.iaload, 1) := by decide +kernel
theorem d_M_askFor_6 : decode b_M_askFor 6 = .ok (.istore_n 3, 1) := by decide +kernel
theorem d_M_askFor_7 : decode b_M_askFor 7 = .ok (.aload_n 0, 1) := by decide +kernel
theorem d_M_askFor_8 : decode b_M_askFor 8 = .ok (.getfield 25, 3) := by decide +kernel
theorem d_M_askFor_11 : decode b_M_askFor 11 = .ok (.iload_n 1, 1) := by decide +kernel
theorem d_M_askFor_12 : decode b_M_askFor 12 = .ok (.iaload, 1) := by decide +kernel
theorem d_M_askFor_13 : decode b_M_askFor 13 = .ok (.iconst 1, 1) := by decide +kernel
theorem d_M_askFor_14 : decode b_M_askFor 14 = .ok (.if_icmp .ne 28, 3) := by decide +kernel
theorem d_M_askFor_17 : decode b_M_askFor 17 = .ok (.iload_n 2, 1) := by decide +kernel
theorem d_M_askFor_18 : decode b_M_askFor 18 = .ok (.aload_n 0, 1) := by decide +kernel
theorem d_M_askFor_19 : decode b_M_askFor 19 = .ok (.getfield 28, 3) := by decide +kernel
theorem d_M_askFor_22 : decode b_M_askFor 22 = .ok (.iload_n 1, 1) := by decide +kernel
theorem d_M_askFor_23 : decode b_M_askFor 23 = .ok (.iaload, 1) := by decide +kernel
theorem d_M_askFor_24 : decode b_M_askFor 24 = .ok (.isub, 1) := by decide +kernel
theorem d_M_askFor_25 : decode b_M_askFor 25 = .ok (.aload_n 0, 1) := by decide +kernel
theorem d_M_askFor_26 : decode b_M_askFor 26 = .ok (.getfield 7, 3) := by decide +kernel
theorem d_M_askFor_29 : decode b_M_askFor 29 = .ok (.iload_n 3, 1) := by decide +kernel
theorem d_M_askFor_30 : decode b_M_askFor 30 = .ok (.iaload, 1) := by decide +kernel
theorem d_M_askFor_31 : decode b_M_askFor 31 = .ok (.if_icmp .lt 7, 3) := by decide +kernel
theorem d_M_askFor_34 : decode b_M_askFor 34 = .ok (.iconst 1, 1) := by decide +kernel
theorem d_M_askFor_35 : decode b_M_askFor 35 = .ok (.goto 39, 3) := by decide +kernel
theorem d_M_askFor_38 : decode b_M_askFor 38 = .ok (.iconst 0, 1) := by decide +kernel
theorem d_M_askFor_39 : decode b_M_askFor 39 = .ok (.goto 35, 3) := by decide +kernel
theorem d_M_askFor_42 : decode b_M_askFor 42 = .ok (.aload_n 0, 1) := by decide +kernel
theorem d_M_askFor_43 : decode b_M_askFor 43 = .ok (.getfield 25, 3) := by decide +kernel
theorem d_M_askFor_46 : decode b_M_askFor 46 = .ok (.iload_n 1, 1) := by decide +kernel
theorem d_M_askFor_47 : decode b_M_askFor 47 = .ok (.iaload, 1) := by decide +kernel
theorem d_M_askFor_48 : decode b_M_askFor 48 = .ok (.iconst 2, 1) := by decide +kernel
theorem d_M_askFor_49 : decode b_M_askFor 49 = .ok (.if_icmp .ne 24, 3) := by decide +kernel
theorem d_M_askFor_52 : decode b_M_askFor 52 = .ok (.iload_n 2, 1) := by decide +kernel
theorem d_M_askFor_53 : decode b_M_askFor 53 = .ok (.aload_n 0, 1) := by decide +kernel
theorem d_M_askFor_54 : decode b_M_askFor 54 = .ok (.getfield 34, 3) := by decide +kernel
theorem d_M_askFor_57 : decode b_M_askFor 57 = .ok (.iload_n 1, 1) := by decide +kernel
theorem d_M_askFor_58 : decode b_M_askFor 58 = .ok (.iaload, 1) := by decide +kernel
theorem d_M_askFor_59 : decode b_M_askFor 59 = .ok (.isub, 1) := by decide +kernel
theorem d_M_askFor_60 : decode b_M_askFor 60 = .ok (.aload_n 0, 1) := by decide +kernel
theorem d_M_askFor_61 : decode b_M_askFor 61 = .ok (.getfield 13, 3) := by decide +kernel
theorem d_M_askFor_64 : decode b_M_askFor 64 = .ok (.iload_n 3, 1) := by decide +kernel
theorem d_M_askFor_65 : decode b_M_askFor 65 = .ok (.iaload, 1) := by decide +kernel
theorem d_M_askFor_66 : decode b_M_askFor 66 = .ok (.if_icmp .lt 7, 3) := by decide +kernel
theorem d_M_askFor_69 : decode b_M_askFor 69 = .ok (.iconst 1, 1) := by decide +kernel
theorem d_M_askFor_70 : decode b_M_askFor 70 = .ok (.goto 4, 3) := by decide +kernel
theorem d_M_askFor_73 : decode b_M_askFor 73 = .ok (.iconst 0, 1) := by decide +kernel
theorem d_M_askFor_74 : decode b_M_askFor 74 = .ok (.istore 4, 2) := by decide +kernel
theorem d_M_askFor_76 : decode b_M_askFor 76 = .ok (.iload 4, 2) := by decide +kernel
theorem d_M_askFor_78 : decode b_M_askFor 78 = .ok (.ifCond .ne 4, 3) := by decide +kernel
theorem d_M_askFor_81 : decode b_M_askFor 81 = .ok (.return_, 1) := by decide +kernel
theorem d_M_askFor_82 : decode b_M_askFor 82 = .ok (.aload_n 0, 1) := by decide +kernel
theorem d_M_askFor_83 : decode b_M_askFor 83 = .ok (.getfield 31, 3) := by decide +kernel
theorem d_M_askFor_86 : decode b_M_askFor 86 = .ok (.iload_n 1, 1) := by decide +kernel
theorem d_M_askFor_87 : decode b_M_askFor 87 = .ok (.iaload, 1) := by decide +kernel
theorem d_M_askFor_88 : decode b_M_askFor 88 = .ok (.aload_n 0, 1) := by decide +kernel
theorem d_M_askFor_89 : decode b_M_askFor 89 = .ok (.getfield 16, 3) := by decide +kernel
theorem d_M_askFor_92 : decode b_M_askFor 92 = .ok (.iload_n 3, 1) := by decide +kernel
theorem d_M_askFor_93 : decode b_M_askFor 93 = .ok (.iaload, 1) := by decide +kernel
theorem d_M_askFor_94 : decode b_M_askFor 94 = .ok (.if_icmp .lt 17, 3) := by decide +kernel
theorem d_M_askFor_97 : decode b_M_askFor 97 = .ok (.aload_n 0, 1) := by decide +kernel
theorem d_M_askFor_98 : decode b_M_askFor 98 = .ok (.getfield 25, 3) := by decide +kernel
theorem d_M_askFor_101 : decode b_M_askFor 101 = .ok (.iload_n 1, 1) := by decide +kernel
theorem d_M_askFor_102 : decode b_M_askFor 102 = .ok (.iconst 4, 1) := by decide +kernel
theorem d_M_askFor_103 : decode b_M_askFor 103 = .ok (.iastore, 1) := by decide +kernel
theorem d_M_askFor_104 : decode b_M_askFor 104 = .ok (.aload_n 0, 1) := by decide +kernel
theorem d_M_askFor_105 : decode b_M_askFor 105 = .ok (.iconst 3, 1) := by decide +kernel
theorem d_M_askFor_106 : decode b_M_askFor 106 = .ok (.iload_n 1, 1) := by decide +kernel
theorem d_M_askFor_107 : decode b_M_askFor 107 = .ok (.invokevirtual 118, 3) := by decide +kernel
theorem d_M_askFor_110 : decode b_M_askFor 110 = .ok (.return_, 1) := by decide +kernel
theorem d_M_askFor_111 : decode b_M_askFor 111 = .ok (.aload_n 0, 1) := by decide +kernel
theorem d_M_askFor_112 : decode b_M_askFor 112 = .ok (.getfield 25, 3) := by decide +kernel
theorem d_M_askFor_115 : decode b_M_askFor 115 = .ok (.iload_n 1, 1) := by decide +kernel
theorem d_M_askFor_116 : decode b_M_askFor 116 = .ok (.iconst 2, 1) := by decide +kernel
theorem d_M_askFor_117 : decode b_M_askFor 117 = .ok (.iastore, 1) := by decide +kernel
theorem d_M_askFor_118 : decode b_M_askFor 118 = .ok (.aload_n 0, 1) := by decide +kernel
theorem d_M_askFor_119 : decode b_M_askFor 119 = .ok (.getfield 31, 3) := by decide +kernel
theorem d_M_askFor_122 : decode b_M_askFor 122 = .ok (.iload_n 1, 1) := by decide +kernel
theorem d_M_askFor_123 : decode b_M_askFor 123 = .ok (.dup2, 1) := by decide +kernel
theorem d_M_askFor_124 : decode b_M_askFor 124 = .ok (.iaload, 1) := by decide +kernel
theorem d_M_askFor_125 : decode b_M_askFor 125 = .ok (.iconst 1, 1) := by decide +kernel
theorem d_M_askFor_126 : decode b_M_askFor 126 = .ok (.iadd, 1) := by decide +kernel
theorem d_M_askFor_127 : decode b_M_askFor 127 = .ok (.iastore, 1) := by decide +kernel
theorem d_M_askFor_128 : decode b_M_askFor 128 = .ok (.aload_n 0, 1) := by decide +kernel
theorem d_M_askFor_129 : decode b_M_askFor 129 = .ok (.getfield 34, 3) := by decide +kernel
theorem d_M_askFor_132 : decode b_M_askFor 132 = .ok (.iload_n 1, 1) := by decide +kernel
theorem d_M_askFor_133 : decode b_M_askFor 133 = .ok (.iload_n 2, 1) := by decide +kernel
theorem d_M_askFor_134 : decode b_M_askFor 134 = .ok (.iastore, 1) := by decide +kernel
theorem d_M_askFor_135 : decode b_M_askFor 135 = .ok (.aload_n 0, 1) := by decide +kernel
theorem d_M_askFor_136 : decode b_M_askFor 136 = .ok (.getfield 71, 3) := by decide +kernel
theorem d_M_askFor_139 : decode b_M_askFor 139 = .ok (.aload_n 0, 1) := by decide +kernel
theorem d_M_askFor_140 : decode b_M_askFor 140 = .ok (.getfield 122, 3) := by decide +kernel
theorem d_M_askFor_143 : decode b_M_askFor 143 = .ok (.iload_n 1, 1) := by decide +kernel
theorem d_M_askFor_144 : decode b_M_askFor 144 = .ok (.iastore, 1) := by decide +kernel
theorem d_M_askFor_145 : decode b_M_askFor 145 = .ok (.aload_n 0, 1) := by decide +kernel
theorem d_M_askFor_146 : decode b_M_askFor 146 = .ok (.getfield 74, 3) := by decide +kernel
theorem d_M_askFor_149 : decode b_M_askFor 149 = .ok (.aload_n 0, 1) := by decide +kernel
theorem d_M_askFor_150 : decode b_M_askFor 150 = .ok (.getfield 122, 3) := by decide +kernel
theorem d_M_askFor_153 : decode b_M_askFor 153 = .ok (.aload_n 0, 1) := by decide +kernel
theorem d_M_askFor_154 : decode b_M_askFor 154 = .ok (.getfield 31, 3) := by decide +kernel
theorem d_M_askFor_157 : decode b_M_askFor 157 = .ok (.iload_n 1, 1) := by decide +kernel
theorem d_M_askFor_158 : decode b_M_askFor 158 = .ok (.iaload, 1) := by decide +kernel
theorem d_M_askFor_159 : decode b_M_askFor 159 = .ok (.iastore, 1) := by decide +kernel
theorem d_M_askFor_160 : decode b_M_askFor 160 = .ok (.aload_n 0, 1) := by decide +kernel
theorem d_M_askFor_161 : decode b_M_askFor 161 = .ok (.dup, 1) := by decide +kernel
theorem d_M_askFor_162 : decode b_M_askFor 162 = .ok (.getfield 122, 3) := by decide +kernel
theorem d_M_askFor_165 : decode b_M_askFor 165 = .ok (.iconst 1, 1) := by decide +kernel
theorem d_M_askFor_166 : decode b_M_askFor 166 = .ok (.iadd, 1) := by decide +kernel
theorem d_M_askFor_167 : decode b_M_askFor 167 = .ok (.putfield 122, 3) := by decide +kernel
theorem d_M_askFor_170 : decode b_M_askFor 170 = .ok (.return_, 1) := by decide +kernel
theorem d_M_claimed_0 : decode b_M_claimed 0 = .ok (.aload_n 0, 1) := by decide +kernel
theorem d_M_claimed_1 : decode b_M_claimed 1 = .ok (.iload_n 1, 1) := by decide +kernel
theorem d_M_claimed_2 : decode b_M_claimed 2 = .ok (.iconst 0, 1) := by decide +kernel
theorem d_M_claimed_3 : decode b_M_claimed 3 = .ok (.aload_n 0, 1) := by decide +kernel
theorem d_M_claimed_4 : decode b_M_claimed 4 = .ok (.getfield 122, 3) := by decide +kernel
theorem d_M_claimed_7 : decode b_M_claimed 7 = .ok (.iconst 1, 1) := by decide +kernel
theorem d_M_claimed_8 : decode b_M_claimed 8 = .ok (.isub, 1) := by decide +kernel
theorem d_M_claimed_9 : decode b_M_claimed 9 = .ok (.invokestatic 97, 3) := by decide +kernel
theorem d_M_claimed_12 : decode b_M_claimed 12 = .ok (.ifCond .eq 12, 3) := by decide +kernel
theorem d_M_claimed_15 : decode b_M_claimed 15 = .ok (.iload_n 2, 1) := by decide +kernel
theorem d_M_claimed_16 : decode b_M_claimed 16 = .ok (.iconst 0, 1) := by decide +kernel
theorem d_M_claimed_17 : decode b_M_claimed 17 = .ok (.iconst 1, 1) := by decide +kernel
theorem d_M_claimed_18 : decode b_M_claimed 18 = .ok (.invokestatic 97, 3) := by decide +kernel
theorem d_M_claimed_21 : decode b_M_claimed 21 = .ok (.ifCond .ne 7, 3) := by decide +kernel
theorem d_M_claimed_24 : decode b_M_claimed 24 = .ok (.iconst 1, 1) := by decide +kernel
theorem d_M_claimed_25 : decode b_M_claimed 25 = .ok (.goto 4, 3) := by decide +kernel
theorem d_M_claimed_28 : decode b_M_claimed 28 = .ok (.iconst 0, 1) := by decide +kernel
theorem d_M_claimed_29 : decode b_M_claimed 29 = .ok (.putfield 92, 3) := by decide +kernel
theorem d_M_claimed_32 : decode b_M_claimed 32 = .ok (.aload_n 0, 1) := by decide +kernel
theorem d_M_claimed_33 : decode b_M_claimed 33 = .ok (.getfield 92, 3) := by decide +kernel
theorem d_M_claimed_36 : decode b_M_claimed 36 = .ok (.ifCond .le 7, 3) := by decide +kernel
theorem d_M_claimed_39 : decode b_M_claimed 39 = .ok (.iconst 0, 1) := by decide +kernel
theorem d_M_claimed_40 : decode b_M_claimed 40 = .ok (.goto 22, 3) := by decide +kernel
theorem d_M_claimed_43 : decode b_M_claimed 43 = .ok (.iload_n 2, 1) := by decide +kernel
theorem d_M_claimed_44 : decode b_M_claimed 44 = .ok (.ifCond .ne 12, 3) := by decide +kernel
theorem d_M_claimed_47 : decode b_M_claimed 47 = .ok (.aload_n 0, 1) := by decide +kernel
theorem d_M_claimed_48 : decode b_M_claimed 48 = .ok (.getfield 71, 3) := by decide +kernel
theorem d_M_claimed_51 : decode b_M_claimed 51 = .ok (.iload_n 1, 1) := by decide +kernel
theorem d_M_claimed_52 : decode b_M_claimed 52 = .ok (.iaload, 1) := by decide +kernel
theorem d_M_claimed_53 : decode b_M_claimed 53 = .ok (.goto 9, 3) := by decide +kernel
theorem d_M_claimed_56 : decode b_M_claimed 56 = .ok (.aload_n 0, 1) := by decide +kernel
theorem d_M_claimed_57 : decode b_M_claimed 57 = .ok (.getfield 74, 3) := by decide +kernel
theorem d_M_claimed_60 : decode b_M_claimed 60 = .ok (.iload_n 1, 1) := by decide +kernel
theorem d_M_claimed_61 : decode b_M_claimed 61 = .ok (.iaload, 1) := by decide +kernel
theorem d_M_claimed_62 : decode b_M_claimed 62 = .ok (.ireturn, 1) := by decide +kernel
theorem d_M_list_0 : decode b_M_list 0 = .ok (.aload_n 0, 1) := by decide +kernel
theorem d_M_list_1 : decode b_M_list 1 = .ok (.iconst 0, 1) := by decide +kernel
theorem d_M_list_2 : decode b_M_list 2 = .ok (.putfield 92, 3) := by decide +kernel
theorem d_M_list_5 : decode b_M_list 5 = .ok (.aload_n 0, 1) := by decide +kernel
theorem d_M_list_6 : decode b_M_list 6 = .ok (.iload_n 1, 1) := by decide +kernel
theorem d_M_list_7 : decode b_M_list 7 = .ok (.invokevirtual 115, 3) := by decide +kernel
theorem d_M_list_10 : decode b_M_list 10 = .ok (.ifCond .ne 5, 3) := by decide +kernel
theorem d_M_list_13 : decode b_M_list 13 = .ok (.iconst (-1), 1) := by decide +kernel
theorem d_M_list_14 : decode b_M_list 14 = .ok (.ireturn, 1) := by decide +kernel
theorem d_M_list_15 : decode b_M_list 15 = .ok (.iload_n 2, 1) := by decide +kernel
theorem d_M_list_16 : decode b_M_list 16 = .ok (.iconst 0, 1) := by decide +kernel
theorem d_M_list_17 : decode b_M_list 17 = .ok (.sipush 999, 3) := by decide +kernel
theorem d_M_list_20 : decode b_M_list 20 = .ok (.invokestatic 97, 3) := by decide +kernel
theorem d_M_list_23 : decode b_M_list 23 = .ok (.ifCond .eq 13, 3) := by decide +kernel
theorem d_M_list_26 : decode b_M_list 26 = .ok (.iload_n 3, 1) := by decide +kernel
theorem d_M_list_27 : decode b_M_list 27 = .ok (.iconst 1, 1) := by decide +kernel
theorem d_M_list_28 : decode b_M_list 28 = .ok (.bipush 100, 2) := by decide +kernel
theorem d_M_list_30 : decode b_M_list 30 = .ok (.invokestatic 97, 3) := by decide +kernel
theorem d_M_list_33 : decode b_M_list 33 = .ok (.ifCond .ne 6, 3) := by decide +kernel
theorem d_M_list_36 : decode b_M_list 36 = .ok (.bipush (-2), 2) := by decide +kernel
theorem d_M_list_38 : decode b_M_list 38 = .ok (.ireturn, 1) := by decide +kernel
theorem d_M_list_39 : decode b_M_list 39 = .ok (.aload_n 0, 1) := by decide +kernel
theorem d_M_list_40 : decode b_M_list 40 = .ok (.getfield 25, 3) := by decide +kernel
theorem d_M_list_43 : decode b_M_list 43 = .ok (.iload_n 1, 1) := by decide +kernel
theorem d_M_list_44 : decode b_M_list 44 = .ok (.iaload, 1) := by decide +kernel
theorem d_M_list_45 : decode b_M_list 45 = .ok (.iconst 3, 1) := by decide +kernel
theorem d_M_list_46 : decode b_M_list 46 = .ok (.if_icmp .ne 12, 3) := by decide +kernel
theorem d_M_list_49 : decode b_M_list 49 = .ok (.aload_n 0, 1) := by decide +kernel
theorem d_M_list_50 : decode b_M_list 50 = .ok (.getfield 65, 3) := by decide +kernel
theorem d_M_list_53 : decode b_M_list 53 = .ok (.iload_n 1, 1) := by decide +kernel
theorem d_M_list_54 : decode b_M_list 54 = .ok (.iaload, 1) := by decide +kernel
theorem d_M_list_55 : decode b_M_list 55 = .ok (.ifCond .lt 6, 3) := by decide +kernel
theorem d_M_list_58 : decode b_M_list 58 = .ok (.bipush (-3), 2) := by decide +kernel
theorem d_M_list_60 : decode b_M_list 60 = .ok (.ireturn, 1) := by decide +kernel
theorem d_M_list_61 : decode b_M_list 61 = .ok (.aload_n 0, 1) := by decide +kernel
theorem d_M_list_62 : decode b_M_list 62 = .ok (.getfield 56, 3) := by decide +kernel
theorem d_M_list_65 : decode b_M_list 65 = .ok (.iload_n 1, 1) := by decide +kernel
theorem d_M_list_66 : decode b_M_list 66 = .ok (.iaload, 1) := by decide +kernel
theorem d_M_list_67 : decode b_M_list 67 = .ok (.bipush 8, 2) := by decide +kernel
theorem d_M_list_69 : decode b_M_list 69 = .ok (.if_icmp .ne 6, 3) := by decide +kernel
theorem d_M_list_72 : decode b_M_list 72 = .ok (.bipush (-4), 2) := by decide +kernel
theorem d_M_list_74 : decode b_M_list 74 = .ok (.ireturn, 1) := by decide +kernel
theorem d_M_list_75 : decode b_M_list 75 = .ok (.aload_n 0, 1) := by decide +kernel
theorem d_M_list_76 : decode b_M_list 76 = .ok (.getfield 59, 3) := by decide +kernel
theorem d_M_list_79 : decode b_M_list 79 = .ok (.bipush 8, 2) := by decide +kernel
theorem d_M_list_81 : decode b_M_list 81 = .ok (.iload_n 1, 1) := by decide +kernel
theorem d_M_list_82 : decode b_M_list 82 = .ok (.imul, 1) := by decide +kernel
theorem d_M_list_83 : decode b_M_list 83 = .ok (.aload_n 0, 1) := by decide +kernel
theorem d_M_list_84 : decode b_M_list 84 = .ok (.getfield 56, 3) := by decide +kernel
theorem d_M_list_87 : decode b_M_list 87 = .ok (.iload_n 1, 1) := by decide +kernel
theorem d_M_list_88 : decode b_M_list 88 = .ok (.iaload, 1) := by decide +kernel
theorem d_M_list_89 : decode b_M_list 89 = .ok (.iadd, 1) := by decide +kernel
theorem d_M_list_90 : decode b_M_list 90 = .ok (.iload_n 2, 1) := by decide +kernel
theorem d_M_list_91 : decode b_M_list 91 = .ok (.iastore, 1) := by decide +kernel
theorem d_M_list_92 : decode b_M_list 92 = .ok (.aload_n 0, 1) := by decide +kernel
theorem d_M_list_93 : decode b_M_list 93 = .ok (.getfield 62, 3) := by decide +kernel
theorem d_M_list_96 : decode b_M_list 96 = .ok (.bipush 8, 2) := by decide +kernel
theorem d_M_list_98 : decode b_M_list 98 = .ok (.iload_n 1, 1) := by decide +kernel
theorem d_M_list_99 : decode b_M_list 99 = .ok (.imul, 1) := by decide +kernel
theorem d_M_list_100 : decode b_M_list 100 = .ok (.aload_n 0, 1) := by decide +kernel
theorem d_M_list_101 : decode b_M_list 101 = .ok (.getfield 56, 3) := by decide +kernel
theorem d_M_list_104 : decode b_M_list 104 = .ok (.iload_n 1, 1) := by decide +kernel
theorem d_M_list_105 : decode b_M_list 105 = .ok (.iaload, 1) := by decide +kernel
theorem d_M_list_106 : decode b_M_list 106 = .ok (.iadd, 1) := by decide +kernel
theorem d_M_list_107 : decode b_M_list 107 = .ok (.iload_n 3, 1) := by decide +kernel
theorem d_M_list_108 : decode b_M_list 108 = .ok (.iastore, 1) := by decide +kernel
theorem d_M_list_109 : decode b_M_list 109 = .ok (.aload_n 0, 1) := by decide +kernel
theorem d_M_list_110 : decode b_M_list 110 = .ok (.getfield 56, 3) := by decide +kernel
theorem d_M_list_113 : decode b_M_list 113 = .ok (.iload_n 1, 1) := by decide +kernel
theorem d_M_list_114 : decode b_M_list 114 = .ok (.dup2, 1) := by decide +kernel
theorem d_M_list_115 : decode b_M_list 115 = .ok (.iaload, 1) := by decide +kernel
theorem d_M_list_116 : decode b_M_list 116 = .ok (.iconst 1, 1) := by decide +kernel
theorem d_M_list_117 : decode b_M_list 117 = .ok (.iadd, 1) := by decide +kernel
theorem d_M_list_118 : decode b_M_list 118 = .ok (.iastore, 1) := by decide +kernel
theorem d_M_list_119 : decode b_M_list 119 = .ok (.aload_n 0, 1) := by decide +kernel
theorem d_M_list_120 : decode b_M_list 120 = .ok (.getfield 56, 3) := by decide +kernel
theorem d_M_list_123 : decode b_M_list 123 = .ok (.iload_n 1, 1) := by decide +kernel
theorem d_M_list_124 : decode b_M_list 124 = .ok (.iaload, 1) := by decide +kernel
theorem d_M_list_125 : decode b_M_list 125 = .ok (.ireturn, 1) := by decide +kernel
theorem d_M_route_0 : decode b_M_route 0 = .ok (.aload_n 0, 1) := by decide +kernel
theorem d_M_route_1 : decode b_M_route 1 = .ok (.iconst 0, 1) := by decide +kernel
theorem d_M_route_2 : decode b_M_route 2 = .ok (.putfield 92, 3) := by decide +kernel
theorem d_M_route_5 : decode b_M_route 5 = .ok (.aload_n 0, 1) := by decide +kernel
theorem d_M_route_6 : decode b_M_route 6 = .ok (.iload_n 1, 1) := by decide +kernel
theorem d_M_route_7 : decode b_M_route 7 = .ok (.invokevirtual 115, 3) := by decide +kernel
theorem d_M_route_10 : decode b_M_route 10 = .ok (.ifCond .ne 5, 3) := by decide +kernel
theorem d_M_route_13 : decode b_M_route 13 = .ok (.iconst (-1), 1) := by decide +kernel
theorem d_M_route_14 : decode b_M_route 14 = .ok (.ireturn, 1) := by decide +kernel
theorem d_M_route_15 : decode b_M_route 15 = .ok (.iload_n 2, 1) := by decide +kernel
theorem d_M_route_16 : decode b_M_route 16 = .ok (.invokestatic 107, 3) := by decide +kernel
theorem d_M_route_19 : decode b_M_route 19 = .ok (.ifCond .ne 6, 3) := by decide +kernel
theorem d_M_route_22 : decode b_M_route 22 = .ok (.bipush (-2), 2) := by decide +kernel
theorem d_M_route_24 : decode b_M_route 24 = .ok (.ireturn, 1) := by decide +kernel
end
section
theorem d_M_route_25 : decode b_M_route 25 = .ok (.aload_n 0, 1) := by decide +kernel
theorem d_M_route_26 : decode b_M_route 26 = .ok (.getfield 25, 3) := by decide +kernel
theorem d_M_route_29 : decode b_M_route 29 = .ok (.iload_n 1, 1) := by decide +kernel
theorem d_M_route_30 : decode b_M_route 30 = .ok (.iaload, 1) := by decide +kernel
theorem d_M_route_31 : decode b_M_route 31 = .ok (.iconst 3, 1) := by decide +kernel
theorem d_M_route_32 : decode b_M_route 32 = .ok (.if_icmp .ne 21, 3) := by decide +kernel
theorem d_M_route_35 : decode b_M_route 35 = .ok (.aload_n 0, 1) := by decide +kernel
theorem d_M_route_36 : decode b_M_route 36 = .ok (.getfield 65, 3) := by decide +kernel
theorem d_M_route_39 : decode b_M_route 39 = .ok (.iload_n 1, 1) := by decide +kernel
theorem d_M_route_40 : decode b_M_route 40 = .ok (.iaload, 1) := by decide +kernel
theorem d_M_route_41 : decode b_M_route 41 = .ok (.ifCond .ge 12, 3) := by decide +kernel
theorem d_M_route_44 : decode b_M_route 44 = .ok (.aload_n 0, 1) := by decide +kernel
theorem d_M_route_45 : decode b_M_route 45 = .ok (.getfield 56, 3) := by decide +kernel
theorem d_M_route_48 : decode b_M_route 48 = .ok (.iload_n 1, 1) := by decide +kernel
theorem d_M_route_49 : decode b_M_route 49 = .ok (.iaload, 1) := by decide +kernel
theorem d_M_route_50 : decode b_M_route 50 = .ok (.ifCond .ne 6, 3) := by decide +kernel
theorem d_M_route_53 : decode b_M_route 53 = .ok (.bipush (-3), 2) := by decide +kernel
theorem d_M_route_55 : decode b_M_route 55 = .ok (.ireturn, 1) := by decide +kernel
theorem d_M_route_56 : decode b_M_route 56 = .ok (.aload_n 0, 1) := by decide +kernel
theorem d_M_route_57 : decode b_M_route 57 = .ok (.getfield 65, 3) := by decide +kernel
theorem d_M_route_60 : decode b_M_route 60 = .ok (.iload_n 1, 1) := by decide +kernel
theorem d_M_route_61 : decode b_M_route 61 = .ok (.iconst 0, 1) := by decide +kernel
theorem d_M_route_62 : decode b_M_route 62 = .ok (.iastore, 1) := by decide +kernel
theorem d_M_route_63 : decode b_M_route 63 = .ok (.aload_n 0, 1) := by decide +kernel
theorem d_M_route_64 : decode b_M_route 64 = .ok (.getfield 68, 3) := by decide +kernel
theorem d_M_route_67 : decode b_M_route 67 = .ok (.iload_n 1, 1) := by decide +kernel
theorem d_M_route_68 : decode b_M_route 68 = .ok (.iload_n 2, 1) := by decide +kernel
theorem d_M_route_69 : decode b_M_route 69 = .ok (.iastore, 1) := by decide +kernel
theorem d_M_route_70 : decode b_M_route 70 = .ok (.aload_n 0, 1) := by decide +kernel
theorem d_M_route_71 : decode b_M_route 71 = .ok (.getfield 59, 3) := by decide +kernel
theorem d_M_route_74 : decode b_M_route 74 = .ok (.bipush 8, 2) := by decide +kernel
theorem d_M_route_76 : decode b_M_route 76 = .ok (.iload_n 1, 1) := by decide +kernel
theorem d_M_route_77 : decode b_M_route 77 = .ok (.imul, 1) := by decide +kernel
theorem d_M_route_78 : decode b_M_route 78 = .ok (.iaload, 1) := by decide +kernel
theorem d_M_route_79 : decode b_M_route 79 = .ok (.ireturn, 1) := by decide +kernel
theorem d_M_returned_0 : decode b_M_returned 0 = .ok (.aload_n 0, 1) := by decide +kernel
theorem d_M_returned_1 : decode b_M_returned 1 = .ok (.iconst 0, 1) := by decide +kernel
theorem d_M_returned_2 : decode b_M_returned 2 = .ok (.putfield 92, 3) := by decide +kernel
theorem d_M_returned_5 : decode b_M_returned 5 = .ok (.aload_n 0, 1) := by decide +kernel
theorem d_M_returned_6 : decode b_M_returned 6 = .ok (.iload_n 1, 1) := by decide +kernel
theorem d_M_returned_7 : decode b_M_returned 7 = .ok (.invokevirtual 115, 3) := by decide +kernel
theorem d_M_returned_10 : decode b_M_returned 10 = .ok (.ifCond .ne 5, 3) := by decide +kernel
theorem d_M_returned_13 : decode b_M_returned 13 = .ok (.iconst (-1), 1) := by decide +kernel
theorem d_M_returned_14 : decode b_M_returned 14 = .ok (.ireturn, 1) := by decide +kernel
theorem d_M_returned_15 : decode b_M_returned 15 = .ok (.iload_n 2, 1) := by decide +kernel
theorem d_M_returned_16 : decode b_M_returned 16 = .ok (.invokestatic 107, 3) := by decide +kernel
theorem d_M_returned_19 : decode b_M_returned 19 = .ok (.ifCond .eq 21, 3) := by decide +kernel
theorem d_M_returned_22 : decode b_M_returned 22 = .ok (.aload_n 0, 1) := by decide +kernel
theorem d_M_returned_23 : decode b_M_returned 23 = .ok (.iload_n 1, 1) := by decide +kernel
theorem d_M_returned_24 : decode b_M_returned 24 = .ok (.invokevirtual 128, 3) := by decide +kernel
theorem d_M_returned_27 : decode b_M_returned 27 = .ok (.ifCond .eq 16, 3) := by decide +kernel
theorem d_M_returned_30 : decode b_M_returned 30 = .ok (.iload_n 2, 1) := by decide +kernel
theorem d_M_returned_31 : decode b_M_returned 31 = .ok (.aload_n 0, 1) := by decide +kernel
theorem d_M_returned_32 : decode b_M_returned 32 = .ok (.getfield 68, 3) := by decide +kernel
theorem d_M_returned_35 : decode b_M_returned 35 = .ok (.iload_n 1, 1) := by decide +kernel
theorem d_M_returned_36 : decode b_M_returned 36 = .ok (.iaload, 1) := by decide +kernel
theorem d_M_returned_37 : decode b_M_returned 37 = .ok (.if_icmp .ge 6, 3) := by decide +kernel
theorem d_M_returned_40 : decode b_M_returned 40 = .ok (.bipush (-2), 2) := by decide +kernel
theorem d_M_returned_42 : decode b_M_returned 42 = .ok (.ireturn, 1) := by decide +kernel
theorem d_M_returned_43 : decode b_M_returned 43 = .ok (.aload_n 0, 1) := by decide +kernel
theorem d_M_returned_44 : decode b_M_returned 44 = .ok (.iload_n 1, 1) := by decide +kernel
theorem d_M_returned_45 : decode b_M_returned 45 = .ok (.invokevirtual 128, 3) := by decide +kernel
theorem d_M_returned_48 : decode b_M_returned 48 = .ok (.ifCond .ne 6, 3) := by decide +kernel
theorem d_M_returned_51 : decode b_M_returned 51 = .ok (.bipush (-3), 2) := by decide +kernel
theorem d_M_returned_53 : decode b_M_returned 53 = .ok (.ireturn, 1) := by decide +kernel
theorem d_M_returned_54 : decode b_M_returned 54 = .ok (.bipush 8, 2) := by decide +kernel
theorem d_M_returned_56 : decode b_M_returned 56 = .ok (.iload_n 1, 1) := by decide +kernel
theorem d_M_returned_57 : decode b_M_returned 57 = .ok (.imul, 1) := by decide +kernel
theorem d_M_returned_58 : decode b_M_returned 58 = .ok (.aload_n 0, 1) := by decide +kernel
theorem d_M_returned_59 : decode b_M_returned 59 = .ok (.getfield 65, 3) := by decide +kernel
theorem d_M_returned_62 : decode b_M_returned 62 = .ok (.iload_n 1, 1) := by decide +kernel
theorem d_M_returned_63 : decode b_M_returned 63 = .ok (.iaload, 1) := by decide +kernel
theorem d_M_returned_64 : decode b_M_returned 64 = .ok (.iadd, 1) := by decide +kernel
theorem d_M_returned_65 : decode b_M_returned 65 = .ok (.istore_n 3, 1) := by decide +kernel
theorem d_M_returned_66 : decode b_M_returned 66 = .ok (.iload_n 2, 1) := by decide +kernel
theorem d_M_returned_67 : decode b_M_returned 67 = .ok (.aload_n 0, 1) := by decide +kernel
theorem d_M_returned_68 : decode b_M_returned 68 = .ok (.getfield 68, 3) := by decide +kernel
theorem d_M_returned_71 : decode b_M_returned 71 = .ok (.iload_n 1, 1) := by decide +kernel
theorem d_M_returned_72 : decode b_M_returned 72 = .ok (.iaload, 1) := by decide +kernel
theorem d_M_returned_73 : decode b_M_returned 73 = .ok (.isub, 1) := by decide +kernel
theorem d_M_returned_74 : decode b_M_returned 74 = .ok (.aload_n 0, 1) := by decide +kernel
theorem d_M_returned_75 : decode b_M_returned 75 = .ok (.getfield 62, 3) := by decide +kernel
theorem d_M_returned_78 : decode b_M_returned 78 = .ok (.iload_n 3, 1) := by decide +kernel
theorem d_M_returned_79 : decode b_M_returned 79 = .ok (.iaload, 1) := by decide +kernel
theorem d_M_returned_80 : decode b_M_returned 80 = .ok (.if_icmp .le 9, 3) := by decide +kernel
theorem d_M_returned_83 : decode b_M_returned 83 = .ok (.aload_n 0, 1) := by decide +kernel
theorem d_M_returned_84 : decode b_M_returned 84 = .ok (.iconst 4, 1) := by decide +kernel
theorem d_M_returned_85 : decode b_M_returned 85 = .ok (.iload_n 1, 1) := by decide +kernel
theorem d_M_returned_86 : decode b_M_returned 86 = .ok (.invokevirtual 118, 3) := by decide +kernel
theorem d_M_returned_89 : decode b_M_returned 89 = .ok (.aload_n 0, 1) := by decide +kernel
theorem d_M_returned_90 : decode b_M_returned 90 = .ok (.getfield 65, 3) := by decide +kernel
theorem d_M_returned_93 : decode b_M_returned 93 = .ok (.iload_n 1, 1) := by decide +kernel
theorem d_M_returned_94 : decode b_M_returned 94 = .ok (.dup2, 1) := by decide +kernel
theorem d_M_returned_95 : decode b_M_returned 95 = .ok (.iaload, 1) := by decide +kernel
theorem d_M_returned_96 : decode b_M_returned 96 = .ok (.iconst 1, 1) := by decide +kernel
theorem d_M_returned_97 : decode b_M_returned 97 = .ok (.iadd, 1) := by decide +kernel
theorem d_M_returned_98 : decode b_M_returned 98 = .ok (.iastore, 1) := by decide +kernel
theorem d_M_returned_99 : decode b_M_returned 99 = .ok (.aload_n 0, 1) := by decide +kernel
theorem d_M_returned_100 : decode b_M_returned 100 = .ok (.getfield 68, 3) := by decide +kernel
theorem d_M_returned_103 : decode b_M_returned 103 = .ok (.iload_n 1, 1) := by decide +kernel
theorem d_M_returned_104 : decode b_M_returned 104 = .ok (.iload_n 2, 1) := by decide +kernel
theorem d_M_returned_105 : decode b_M_returned 105 = .ok (.iastore, 1) := by decide +kernel
theorem d_M_returned_106 : decode b_M_returned 106 = .ok (.aload_n 0, 1) := by decide +kernel
theorem d_M_returned_107 : decode b_M_returned 107 = .ok (.iload_n 1, 1) := by decide +kernel
theorem d_M_returned_108 : decode b_M_returned 108 = .ok (.invokevirtual 128, 3) := by decide +kernel
theorem d_M_returned_111 : decode b_M_returned 111 = .ok (.ifCond .eq 14, 3) := by decide +kernel
theorem d_M_returned_114 : decode b_M_returned 114 = .ok (.aload_n 0, 1) := by decide +kernel
theorem d_M_returned_115 : decode b_M_returned 115 = .ok (.getfield 59, 3) := by decide +kernel
theorem d_M_returned_118 : decode b_M_returned 118 = .ok (.iload_n 3, 1) := by decide +kernel
theorem d_M_returned_119 : decode b_M_returned 119 = .ok (.iconst 1, 1) := by decide +kernel
theorem d_M_returned_120 : decode b_M_returned 120 = .ok (.iadd, 1) := by decide +kernel
theorem d_M_returned_121 : decode b_M_returned 121 = .ok (.iaload, 1) := by decide +kernel
theorem d_M_returned_122 : decode b_M_returned 122 = .ok (.goto 6, 3) := by decide +kernel
theorem d_M_returned_125 : decode b_M_returned 125 = .ok (.sipush 1000, 3) := by decide +kernel
theorem d_M_returned_128 : decode b_M_returned 128 = .ok (.ireturn, 1) := by decide +kernel
theorem d_M_isHeld_0 : decode b_M_isHeld 0 = .ok (.aload_n 0, 1) := by decide +kernel
theorem d_M_isHeld_1 : decode b_M_isHeld 1 = .ok (.getfield 65, 3) := by decide +kernel
theorem d_M_isHeld_4 : decode b_M_isHeld 4 = .ok (.iload_n 1, 1) := by decide +kernel
theorem d_M_isHeld_5 : decode b_M_isHeld 5 = .ok (.iaload, 1) := by decide +kernel
theorem d_M_isHeld_6 : decode b_M_isHeld 6 = .ok (.ifCond .lt 22, 3) := by decide +kernel
theorem d_M_isHeld_9 : decode b_M_isHeld 9 = .ok (.aload_n 0, 1) := by decide +kernel
theorem d_M_isHeld_10 : decode b_M_isHeld 10 = .ok (.getfield 65, 3) := by decide +kernel
theorem d_M_isHeld_13 : decode b_M_isHeld 13 = .ok (.iload_n 1, 1) := by decide +kernel
theorem d_M_isHeld_14 : decode b_M_isHeld 14 = .ok (.iaload, 1) := by decide +kernel
theorem d_M_isHeld_15 : decode b_M_isHeld 15 = .ok (.aload_n 0, 1) := by decide +kernel
theorem d_M_isHeld_16 : decode b_M_isHeld 16 = .ok (.getfield 56, 3) := by decide +kernel
theorem d_M_isHeld_19 : decode b_M_isHeld 19 = .ok (.iload_n 1, 1) := by decide +kernel
theorem d_M_isHeld_20 : decode b_M_isHeld 20 = .ok (.iaload, 1) := by decide +kernel
theorem d_M_isHeld_21 : decode b_M_isHeld 21 = .ok (.if_icmp .ge 7, 3) := by decide +kernel
theorem d_M_isHeld_24 : decode b_M_isHeld 24 = .ok (.iconst 1, 1) := by decide +kernel
theorem d_M_isHeld_25 : decode b_M_isHeld 25 = .ok (.goto 4, 3) := by decide +kernel
theorem d_M_isHeld_28 : decode b_M_isHeld 28 = .ok (.iconst 0, 1) := by decide +kernel
theorem d_M_isHeld_29 : decode b_M_isHeld 29 = .ok (.ireturn, 1) := by decide +kernel
theorem d_M_replace_0 : decode b_M_replace 0 = .ok (.aload_n 0, 1) := by decide +kernel
theorem d_M_replace_1 : decode b_M_replace 1 = .ok (.iconst 0, 1) := by decide +kernel
theorem d_M_replace_2 : decode b_M_replace 2 = .ok (.putfield 92, 3) := by decide +kernel
theorem d_M_replace_5 : decode b_M_replace 5 = .ok (.aload_n 0, 1) := by decide +kernel
theorem d_M_replace_6 : decode b_M_replace 6 = .ok (.iload_n 1, 1) := by decide +kernel
theorem d_M_replace_7 : decode b_M_replace 7 = .ok (.invokevirtual 115, 3) := by decide +kernel
theorem d_M_replace_10 : decode b_M_replace 10 = .ok (.ifCond .ne 5, 3) := by decide +kernel
theorem d_M_replace_13 : decode b_M_replace 13 = .ok (.iconst (-1), 1) := by decide +kernel
theorem d_M_replace_14 : decode b_M_replace 14 = .ok (.ireturn, 1) := by decide +kernel
theorem d_M_replace_15 : decode b_M_replace 15 = .ok (.iload_n 2, 1) := by decide +kernel
theorem d_M_replace_16 : decode b_M_replace 16 = .ok (.invokestatic 107, 3) := by decide +kernel
theorem d_M_replace_19 : decode b_M_replace 19 = .ok (.ifCond .ne 6, 3) := by decide +kernel
theorem d_M_replace_22 : decode b_M_replace 22 = .ok (.bipush (-2), 2) := by decide +kernel
theorem d_M_replace_24 : decode b_M_replace 24 = .ok (.ireturn, 1) := by decide +kernel
theorem d_M_replace_25 : decode b_M_replace 25 = .ok (.aload_n 0, 1) := by decide +kernel
theorem d_M_replace_26 : decode b_M_replace 26 = .ok (.getfield 25, 3) := by decide +kernel
theorem d_M_replace_29 : decode b_M_replace 29 = .ok (.iload_n 1, 1) := by decide +kernel
theorem d_M_replace_30 : decode b_M_replace 30 = .ok (.iaload, 1) := by decide +kernel
theorem d_M_replace_31 : decode b_M_replace 31 = .ok (.iconst 3, 1) := by decide +kernel
theorem d_M_replace_32 : decode b_M_replace 32 = .ok (.if_icmp .eq 13, 3) := by decide +kernel
theorem d_M_replace_35 : decode b_M_replace 35 = .ok (.aload_n 0, 1) := by decide +kernel
theorem d_M_replace_36 : decode b_M_replace 36 = .ok (.getfield 25, 3) := by decide +kernel
theorem d_M_replace_39 : decode b_M_replace 39 = .ok (.iload_n 1, 1) := by decide +kernel
theorem d_M_replace_40 : decode b_M_replace 40 = .ok (.iaload, 1) := by decide +kernel
theorem d_M_replace_41 : decode b_M_replace 41 = .ok (.iconst 4, 1) := by decide +kernel
theorem d_M_replace_42 : decode b_M_replace 42 = .ok (.if_icmp .ne 11, 3) := by decide +kernel
theorem d_M_replace_45 : decode b_M_replace 45 = .ok (.aload_n 0, 1) := by decide +kernel
theorem d_M_replace_46 : decode b_M_replace 46 = .ok (.iload_n 1, 1) := by decide +kernel
theorem d_M_replace_47 : decode b_M_replace 47 = .ok (.invokevirtual 128, 3) := by decide +kernel
theorem d_M_replace_50 : decode b_M_replace 50 = .ok (.ifCond .eq 6, 3) := by decide +kernel
theorem d_M_replace_53 : decode b_M_replace 53 = .ok (.bipush (-3), 2) := by decide +kernel
theorem d_M_replace_55 : decode b_M_replace 55 = .ok (.ireturn, 1) := by decide +kernel
theorem d_M_replace_56 : decode b_M_replace 56 = .ok (.aload_n 0, 1) := by decide +kernel
theorem d_M_replace_57 : decode b_M_replace 57 = .ok (.getfield 101, 3) := by decide +kernel
theorem d_M_replace_60 : decode b_M_replace 60 = .ok (.sipush 200, 3) := by decide +kernel
theorem d_M_replace_63 : decode b_M_replace 63 = .ok (.if_icmp .ne 6, 3) := by decide +kernel
theorem d_M_replace_66 : decode b_M_replace 66 = .ok (.bipush (-4), 2) := by decide +kernel
theorem d_M_replace_68 : decode b_M_replace 68 = .ok (.ireturn, 1) := by decide +kernel
theorem d_M_replace_69 : decode b_M_replace 69 = .ok (.aload_n 0, 1) := by decide +kernel
theorem d_M_replace_70 : decode b_M_replace 70 = .ok (.aload_n 0, 1) := by decide +kernel
theorem d_M_replace_71 : decode b_M_replace 71 = .ok (.getfield 19, 3) := by decide +kernel
theorem d_M_replace_74 : decode b_M_replace 74 = .ok (.iload_n 1, 1) := by decide +kernel
theorem d_M_replace_75 : decode b_M_replace 75 = .ok (.iaload, 1) := by decide +kernel
theorem d_M_replace_76 : decode b_M_replace 76 = .ok (.aload_n 0, 1) := by decide +kernel
theorem d_M_replace_77 : decode b_M_replace 77 = .ok (.getfield 22, 3) := by decide +kernel
theorem d_M_replace_80 : decode b_M_replace 80 = .ok (.iload_n 1, 1) := by decide +kernel
theorem d_M_replace_81 : decode b_M_replace 81 = .ok (.iaload, 1) := by decide +kernel
theorem d_M_replace_82 : decode b_M_replace 82 = .ok (.aload_n 0, 1) := by decide +kernel
theorem d_M_replace_83 : decode b_M_replace 83 = .ok (.getfield 28, 3) := by decide +kernel
theorem d_M_replace_86 : decode b_M_replace 86 = .ok (.iload_n 1, 1) := by decide +kernel
theorem d_M_replace_87 : decode b_M_replace 87 = .ok (.iaload, 1) := by decide +kernel
theorem d_M_replace_88 : decode b_M_replace 88 = .ok (.invokevirtual 111, 3) := by decide +kernel
theorem d_M_replace_91 : decode b_M_replace 91 = .ok (.istore_n 3, 1) := by decide +kernel
theorem d_M_replace_92 : decode b_M_replace 92 = .ok (.aload_n 0, 1) := by decide +kernel
theorem d_M_replace_93 : decode b_M_replace 93 = .ok (.getfield 25, 3) := by decide +kernel
theorem d_M_replace_96 : decode b_M_replace 96 = .ok (.iload_n 3, 1) := by decide +kernel
theorem d_M_replace_97 : decode b_M_replace 97 = .ok (.iconst 3, 1) := by decide +kernel
theorem d_M_replace_98 : decode b_M_replace 98 = .ok (.iastore, 1) := by decide +kernel
theorem d_M_replace_99 : decode b_M_replace 99 = .ok (.aload_n 0, 1) := by decide +kernel
theorem d_M_replace_100 : decode b_M_replace 100 = .ok (.getfield 37, 3) := by decide +kernel
theorem d_M_replace_103 : decode b_M_replace 103 = .ok (.iload_n 3, 1) := by decide +kernel
theorem d_M_replace_104 : decode b_M_replace 104 = .ok (.iconst 1, 1) := by decide +kernel
theorem d_M_replace_105 : decode b_M_replace 105 = .ok (.iastore, 1) := by decide +kernel
theorem d_M_replace_106 : decode b_M_replace 106 = .ok (.aload_n 0, 1) := by decide +kernel
theorem d_M_replace_107 : decode b_M_replace 107 = .ok (.getfield 40, 3) := by decide +kernel
theorem d_M_replace_110 : decode b_M_replace 110 = .ok (.iload_n 3, 1) := by decide +kernel
theorem d_M_replace_111 : decode b_M_replace 111 = .ok (.iload_n 2, 1) := by decide +kernel
theorem d_M_replace_112 : decode b_M_replace 112 = .ok (.iastore, 1) := by decide +kernel
theorem d_M_replace_113 : decode b_M_replace 113 = .ok (.aload_n 0, 1) := by decide +kernel
theorem d_M_replace_114 : decode b_M_replace 114 = .ok (.getfield 52, 3) := by decide +kernel
theorem d_M_replace_117 : decode b_M_replace 117 = .ok (.iload_n 3, 1) := by decide +kernel
theorem d_M_replace_118 : decode b_M_replace 118 = .ok (.iconst 1, 1) := by decide +kernel
theorem d_M_replace_119 : decode b_M_replace 119 = .ok (.bastore, 1) := by decide +kernel
theorem d_M_replace_120 : decode b_M_replace 120 = .ok (.aload_n 0, 1) := by decide +kernel
theorem d_M_replace_121 : decode b_M_replace 121 = .ok (.getfield 25, 3) := by decide +kernel
theorem d_M_replace_124 : decode b_M_replace 124 = .ok (.iload_n 1, 1) := by decide +kernel
theorem d_M_replace_125 : decode b_M_replace 125 = .ok (.bipush 6, 2) := by decide +kernel
theorem d_M_replace_127 : decode b_M_replace 127 = .ok (.iastore, 1) := by decide +kernel
theorem d_M_replace_128 : decode b_M_replace 128 = .ok (.aload_n 0, 1) := by decide +kernel
theorem d_M_replace_129 : decode b_M_replace 129 = .ok (.getfield 46, 3) := by decide +kernel
theorem d_M_replace_132 : decode b_M_replace 132 = .ok (.iload_n 1, 1) := by decide +kernel
theorem d_M_replace_133 : decode b_M_replace 133 = .ok (.iload_n 3, 1) := by decide +kernel
theorem d_M_replace_134 : decode b_M_replace 134 = .ok (.iastore, 1) := by decide +kernel
theorem d_M_replace_135 : decode b_M_replace 135 = .ok (.iload_n 3, 1) := by decide +kernel
theorem d_M_replace_136 : decode b_M_replace 136 = .ok (.ireturn, 1) := by decide +kernel
theorem d_M_bind_0 : decode b_M_bind 0 = .ok (.aload_n 0, 1) := by decide +kernel
theorem d_M_bind_1 : decode b_M_bind 1 = .ok (.iconst 0, 1) := by decide +kernel
theorem d_M_bind_2 : decode b_M_bind 2 = .ok (.putfield 92, 3) := by decide +kernel
theorem d_M_bind_5 : decode b_M_bind 5 = .ok (.iload_n 1, 1) := by decide +kernel
theorem d_M_bind_6 : decode b_M_bind 6 = .ok (.iconst 0, 1) := by decide +kernel
theorem d_M_bind_7 : decode b_M_bind 7 = .ok (.bipush 9, 2) := by decide +kernel
theorem d_M_bind_9 : decode b_M_bind 9 = .ok (.invokestatic 97, 3) := by decide +kernel
theorem d_M_bind_12 : decode b_M_bind 12 = .ok (.ifCond .ne 5, 3) := by decide +kernel
theorem d_M_bind_15 : decode b_M_bind 15 = .ok (.iconst (-1), 1) := by decide +kernel
theorem d_M_bind_16 : decode b_M_bind 16 = .ok (.ireturn, 1) := by decide +kernel
theorem d_M_bind_17 : decode b_M_bind 17 = .ok (.iload_n 2, 1) := by decide +kernel
theorem d_M_bind_18 : decode b_M_bind 18 = .ok (.iconst 1, 1) := by decide +kernel
theorem d_M_bind_19 : decode b_M_bind 19 = .ok (.bipush 50, 2) := by decide +kernel
theorem d_M_bind_21 : decode b_M_bind 21 = .ok (.invokestatic 97, 3) := by decide +kernel
theorem d_M_bind_24 : decode b_M_bind 24 = .ok (.ifCond .ne 6, 3) := by decide +kernel
theorem d_M_bind_27 : decode b_M_bind 27 = .ok (.bipush (-2), 2) := by decide +kernel
theorem d_M_bind_29 : decode b_M_bind 29 = .ok (.ireturn, 1) := by decide +kernel
theorem d_M_bind_30 : decode b_M_bind 30 = .ok (.iconst 0, 1) := by decide +kernel
theorem d_M_bind_31 : decode b_M_bind 31 = .ok (.istore_n 3, 1) := by decide +kernel
theorem d_M_bind_32 : decode b_M_bind 32 = .ok (.iconst 0, 1) := by decide +kernel
theorem d_M_bind_33 : decode b_M_bind 33 = .ok (.istore 4, 2) := by decide +kernel
theorem d_M_bind_35 : decode b_M_bind 35 = .ok (.iload 4, 2) := by decide +kernel
theorem d_M_bind_37 : decode b_M_bind 37 = .ok (.iload_n 2, 1) := by decide +kernel
theorem d_M_bind_38 : decode b_M_bind 38 = .ok (.if_icmp .ge 42, 3) := by decide +kernel
theorem d_M_bind_41 : decode b_M_bind 41 = .ok (.aload_n 0, 1) := by decide +kernel
theorem d_M_bind_42 : decode b_M_bind 42 = .ok (.iload_n 1, 1) := by decide +kernel
theorem d_M_bind_43 : decode b_M_bind 43 = .ok (.iload_n 3, 1) := by decide +kernel
theorem d_M_bind_44 : decode b_M_bind 44 = .ok (.invokevirtual 131, 3) := by decide +kernel
theorem d_M_bind_47 : decode b_M_bind 47 = .ok (.istore 5, 2) := by decide +kernel
theorem d_M_bind_49 : decode b_M_bind 49 = .ok (.iload 5, 2) := by decide +kernel
theorem d_M_bind_51 : decode b_M_bind 51 = .ok (.ifCond .lt 12, 3) := by decide +kernel
theorem d_M_bind_54 : decode b_M_bind 54 = .ok (.aload_n 0, 1) := by decide +kernel
theorem d_M_bind_55 : decode b_M_bind 55 = .ok (.iload 5, 2) := by decide +kernel
theorem d_M_bind_57 : decode b_M_bind 57 = .ok (.invokevirtual 128, 3) := by decide +kernel
theorem d_M_bind_60 : decode b_M_bind 60 = .ok (.ifCond .eq 6, 3) := by decide +kernel
theorem d_M_bind_63 : decode b_M_bind 63 = .ok (.bipush (-3), 2) := by decide +kernel
theorem d_M_bind_65 : decode b_M_bind 65 = .ok (.ireturn, 1) := by decide +kernel
theorem d_M_bind_66 : decode b_M_bind 66 = .ok (.aload_n 0, 1) := by decide +kernel
theorem d_M_bind_67 : decode b_M_bind 67 = .ok (.getfield 22, 3) := by decide +kernel
theorem d_M_bind_70 : decode b_M_bind 70 = .ok (.iload 5, 2) := by decide +kernel
theorem d_M_bind_72 : decode b_M_bind 72 = .ok (.iaload, 1) := by decide +kernel
theorem d_M_bind_73 : decode b_M_bind 73 = .ok (.istore_n 3, 1) := by decide +kernel
theorem d_M_bind_74 : decode b_M_bind 74 = .ok (.iinc 4 1, 3) := by decide +kernel
theorem d_M_bind_77 : decode b_M_bind 77 = .ok (.goto (-42), 3) := by decide +kernel
theorem d_M_bind_80 : decode b_M_bind 80 = .ok (.aload_n 0, 1) := by decide +kernel
theorem d_M_bind_81 : decode b_M_bind 81 = .ok (.getfield 135, 3) := by decide +kernel
theorem d_M_bind_84 : decode b_M_bind 84 = .ok (.bipush 40, 2) := by decide +kernel
theorem d_M_bind_86 : decode b_M_bind 86 = .ok (.if_icmp .ne 6, 3) := by decide +kernel
theorem d_M_bind_89 : decode b_M_bind 89 = .ok (.bipush (-4), 2) := by decide +kernel
theorem d_M_bind_91 : decode b_M_bind 91 = .ok (.ireturn, 1) := by decide +kernel
theorem d_M_bind_92 : decode b_M_bind 92 = .ok (.iconst 0, 1) := by decide +kernel
theorem d_M_bind_93 : decode b_M_bind 93 = .ok (.istore 4, 2) := by decide +kernel
theorem d_M_bind_95 : decode b_M_bind 95 = .ok (.iload 4, 2) := by decide +kernel
theorem d_M_bind_97 : decode b_M_bind 97 = .ok (.aload_n 0, 1) := by decide +kernel
theorem d_M_bind_98 : decode b_M_bind 98 = .ok (.getfield 101, 3) := by decide +kernel
theorem d_M_bind_101 : decode b_M_bind 101 = .ok (.if_icmp .ge 64, 3) := by decide +kernel
theorem d_M_bind_104 : decode b_M_bind 104 = .ok (.aload_n 0, 1) := by decide +kernel
theorem d_M_bind_105 : decode b_M_bind 105 = .ok (.getfield 19, 3) := by decide +kernel
theorem d_M_bind_108 : decode b_M_bind 108 = .ok (.iload 4, 2) := by decide +kernel
theorem d_M_bind_110 : decode b_M_bind 110 = .ok (.iaload, 1) := by decide +kernel
theorem d_M_bind_111 : decode b_M_bind 111 = .ok (.iload_n 1, 1) := by decide +kernel
theorem d_M_bind_112 : decode b_M_bind 112 = .ok (.if_icmp .ne 47, 3) := by decide +kernel
theorem d_M_bind_115 : decode b_M_bind 115 = .ok (.aload_n 0, 1) := by decide +kernel
theorem d_M_bind_116 : decode b_M_bind 116 = .ok (.getfield 25, 3) := by decide +kernel
theorem d_M_bind_119 : decode b_M_bind 119 = .ok (.iload 4, 2) := by decide +kernel
theorem d_M_bind_121 : decode b_M_bind 121 = .ok (.iaload, 1) := by decide +kernel
theorem d_M_bind_122 : decode b_M_bind 122 = .ok (.iconst 3, 1) := by decide +kernel
theorem d_M_bind_123 : decode b_M_bind 123 = .ok (.if_icmp .ne 36, 3) := by decide +kernel
theorem d_M_bind_126 : decode b_M_bind 126 = .ok (.aload_n 0, 1) := by decide +kernel
theorem d_M_bind_127 : decode b_M_bind 127 = .ok (.getfield 22, 3) := by decide +kernel
theorem d_M_bind_130 : decode b_M_bind 130 = .ok (.iload 4, 2) := by decide +kernel
theorem d_M_bind_132 : decode b_M_bind 132 = .ok (.iaload, 1) := by decide +kernel
theorem d_M_bind_133 : decode b_M_bind 133 = .ok (.iload_n 3, 1) := by decide +kernel
theorem d_M_bind_134 : decode b_M_bind 134 = .ok (.if_icmp .le 6, 3) := by decide +kernel
theorem d_M_bind_137 : decode b_M_bind 137 = .ok (.goto 22, 3) := by decide +kernel
theorem d_M_bind_140 : decode b_M_bind 140 = .ok (.aload_n 0, 1) := by decide +kernel
theorem d_M_bind_141 : decode b_M_bind 141 = .ok (.getfield 25, 3) := by decide +kernel
theorem d_M_bind_144 : decode b_M_bind 144 = .ok (.iload 4, 2) := by decide +kernel
theorem d_M_bind_146 : decode b_M_bind 146 = .ok (.iconst 5, 1) := by decide +kernel
theorem d_M_bind_147 : decode b_M_bind 147 = .ok (.iastore, 1) := by decide +kernel
theorem d_M_bind_148 : decode b_M_bind 148 = .ok (.aload_n 0, 1) := by decide +kernel
theorem d_M_bind_149 : decode b_M_bind 149 = .ok (.getfield 43, 3) := by decide +kernel
theorem d_M_bind_152 : decode b_M_bind 152 = .ok (.iload 4, 2) := by decide +kernel
theorem d_M_bind_154 : decode b_M_bind 154 = .ok (.aload_n 0, 1) := by decide +kernel
theorem d_M_bind_155 : decode b_M_bind 155 = .ok (.getfield 135, 3) := by decide +kernel
theorem d_M_bind_158 : decode b_M_bind 158 = .ok (.iastore, 1) := by decide +kernel
theorem d_M_bind_159 : decode b_M_bind 159 = .ok (.iinc 4 1, 3) := by decide +kernel
theorem d_M_bind_162 : decode b_M_bind 162 = .ok (.goto (-67), 3) := by decide +kernel
theorem d_M_bind_165 : decode b_M_bind 165 = .ok (.aload_n 0, 1) := by decide +kernel
theorem d_M_bind_166 : decode b_M_bind 166 = .ok (.dup, 1) := by decide +kernel
theorem d_M_bind_167 : decode b_M_bind 167 = .ok (.getfield 135, 3) := by decide +kernel
theorem d_M_bind_170 : decode b_M_bind 170 = .ok (.iconst 1, 1) := by decide +kernel
theorem d_M_bind_171 : decode b_M_bind 171 = .ok (.iadd, 1) := by decide +kernel
theorem d_M_bind_172 : decode b_M_bind 172 = .ok (.putfield 135, 3) := by decide +kernel
theorem d_M_bind_175 : decode b_M_bind 175 = .ok (.aload_n 0, 1) := by decide +kernel
theorem d_M_bind_176 : decode b_M_bind 176 = .ok (.getfield 135, 3) := by decide +kernel
theorem d_M_bind_179 : decode b_M_bind 179 = .ok (.iconst 1, 1) := by decide +kernel
theorem d_M_bind_180 : decode b_M_bind 180 = .ok (.isub, 1) := by decide +kernel
theorem d_M_bind_181 : decode b_M_bind 181 = .ok (.ireturn, 1) := by decide +kernel
theorem d_M_nextHere_0 : decode b_M_nextHere 0 = .ok (.iconst (-1), 1) := by decide +kernel
theorem d_M_nextHere_1 : decode b_M_nextHere 1 = .ok (.istore_n 3, 1) := by decide +kernel
theorem d_M_nextHere_2 : decode b_M_nextHere 2 = .ok (.iconst 0, 1) := by decide +kernel
theorem d_M_nextHere_3 : decode b_M_nextHere 3 = .ok (.istore 4, 2) := by decide +kernel
theorem d_M_nextHere_5 : decode b_M_nextHere 5 = .ok (.iload 4, 2) := by decide +kernel
theorem d_M_nextHere_7 : decode b_M_nextHere 7 = .ok (.aload_n 0, 1) := by decide +kernel
theorem d_M_nextHere_8 : decode b_M_nextHere 8 = .ok (.getfield 101, 3) := by decide +kernel
theorem d_M_nextHere_11 : decode b_M_nextHere 11 = .ok (.if_icmp .ge 68, 3) := by decide +kernel
theorem d_M_nextHere_14 : decode b_M_nextHere 14 = .ok (.aload_n 0, 1) := by decide +kernel
theorem d_M_nextHere_15 : decode b_M_nextHere 15 = .ok (.getfield 19, 3) := by decide +kernel
theorem d_M_nextHere_18 : decode b_M_nextHere 18 = .ok (.iload 4, 2) := by decide +kernel
theorem d_M_nextHere_20 : decode b_M_nextHere 20 = .ok (.iaload, 1) := by decide +kernel
theorem d_M_nextHere_21 : decode b_M_nextHere 21 = .ok (.iload_n 1, 1) := by decide +kernel
theorem d_M_nextHere_22 : decode b_M_nextHere 22 = .ok (.if_icmp .ne 51, 3) := by decide +kernel
theorem d_M_nextHere_25 : decode b_M_nextHere 25 = .ok (.aload_n 0, 1) := by decide +kernel
theorem d_M_nextHere_26 : decode b_M_nextHere 26 = .ok (.getfield 25, 3) := by decide +kernel
theorem d_M_nextHere_29 : decode b_M_nextHere 29 = .ok (.iload 4, 2) := by decide +kernel
theorem d_M_nextHere_31 : decode b_M_nextHere 31 = .ok (.iaload, 1) := by decide +kernel
theorem d_M_nextHere_32 : decode b_M_nextHere 32 = .ok (.iconst 3, 1) := by decide +kernel
theorem d_M_nextHere_33 : decode b_M_nextHere 33 = .ok (.if_icmp .ne 40, 3) := by decide +kernel
theorem d_M_nextHere_36 : decode b_M_nextHere 36 = .ok (.aload_n 0, 1) := by decide +kernel
theorem d_M_nextHere_37 : decode b_M_nextHere 37 = .ok (.getfield 22, 3) := by decide +kernel
theorem d_M_nextHere_40 : decode b_M_nextHere 40 = .ok (.iload 4, 2) := by decide +kernel
theorem d_M_nextHere_42 : decode b_M_nextHere 42 = .ok (.iaload, 1) := by decide +kernel
theorem d_M_nextHere_43 : decode b_M_nextHere 43 = .ok (.iload_n 2, 1) := by decide +kernel
theorem d_M_nextHere_44 : decode b_M_nextHere 44 = .ok (.if_icmp .gt 6, 3) := by decide +kernel
theorem d_M_nextHere_47 : decode b_M_nextHere 47 = .ok (.goto 26, 3) := by decide +kernel
theorem d_M_nextHere_50 : decode b_M_nextHere 50 = .ok (.iload_n 3, 1) := by decide +kernel
theorem d_M_nextHere_51 : decode b_M_nextHere 51 = .ok (.ifCond .lt 19, 3) := by decide +kernel
theorem d_M_nextHere_54 : decode b_M_nextHere 54 = .ok (.aload_n 0, 1) := by decide +kernel
theorem d_M_nextHere_55 : decode b_M_nextHere 55 = .ok (.getfield 22, 3) := by decide +kernel
theorem d_M_nextHere_58 : decode b_M_nextHere 58 = .ok (.iload 4, 2) := by decide +kernel
theorem d_M_nextHere_60 : decode b_M_nextHere 60 = .ok (.iaload, 1) := by decide +kernel
end
section
theorem d_M_nextHere_61 : decode b_M_nextHere 61 = .ok (.aload_n 0, 1) := by decide +kernel
theorem d_M_nextHere_62 : decode b_M_nextHere 62 = .ok (.getfield 22, 3) := by decide +kernel
theorem d_M_nextHere_65 : decode b_M_nextHere 65 = .ok (.iload_n 3, 1) := by decide +kernel
theorem d_M_nextHere_66 : decode b_M_nextHere 66 = .ok (.iaload, 1) := by decide +kernel
theorem d_M_nextHere_67 : decode b_M_nextHere 67 = .ok (.if_icmp .ge 6, 3) := by decide +kernel
theorem d_M_nextHere_70 : decode b_M_nextHere 70 = .ok (.iload 4, 2) := by decide +kernel
theorem d_M_nextHere_72 : decode b_M_nextHere 72 = .ok (.istore_n 3, 1) := by decide +kernel
theorem d_M_nextHere_73 : decode b_M_nextHere 73 = .ok (.iinc 4 1, 3) := by decide +kernel
theorem d_M_nextHere_76 : decode b_M_nextHere 76 = .ok (.goto (-71), 3) := by decide +kernel
theorem d_M_nextHere_79 : decode b_M_nextHere 79 = .ok (.iload_n 3, 1) := by decide +kernel
theorem d_M_nextHere_80 : decode b_M_nextHere 80 = .ok (.ireturn, 1) := by decide +kernel
theorem d_M_volume_0 : decode b_M_volume 0 = .ok (.iconst (-1), 1) := by decide +kernel
theorem d_M_volume_1 : decode b_M_volume 1 = .ok (.istore_n 3, 1) := by decide +kernel
theorem d_M_volume_2 : decode b_M_volume 2 = .ok (.iconst 0, 1) := by decide +kernel
theorem d_M_volume_3 : decode b_M_volume 3 = .ok (.istore 4, 2) := by decide +kernel
theorem d_M_volume_5 : decode b_M_volume 5 = .ok (.iload_n 1, 1) := by decide +kernel
theorem d_M_volume_6 : decode b_M_volume 6 = .ok (.iconst 0, 1) := by decide +kernel
theorem d_M_volume_7 : decode b_M_volume 7 = .ok (.aload_n 0, 1) := by decide +kernel
theorem d_M_volume_8 : decode b_M_volume 8 = .ok (.getfield 135, 3) := by decide +kernel
theorem d_M_volume_11 : decode b_M_volume 11 = .ok (.iconst 1, 1) := by decide +kernel
theorem d_M_volume_12 : decode b_M_volume 12 = .ok (.isub, 1) := by decide +kernel
theorem d_M_volume_13 : decode b_M_volume 13 = .ok (.invokestatic 97, 3) := by decide +kernel
theorem d_M_volume_16 : decode b_M_volume 16 = .ok (.ifCond .eq 11, 3) := by decide +kernel
theorem d_M_volume_19 : decode b_M_volume 19 = .ok (.iload_n 2, 1) := by decide +kernel
theorem d_M_volume_20 : decode b_M_volume 20 = .ok (.ifCond .lt 7, 3) := by decide +kernel
theorem d_M_volume_23 : decode b_M_volume 23 = .ok (.iconst 1, 1) := by decide +kernel
theorem d_M_volume_24 : decode b_M_volume 24 = .ok (.goto 4, 3) := by decide +kernel
theorem d_M_volume_27 : decode b_M_volume 27 = .ok (.iconst 0, 1) := by decide +kernel
theorem d_M_volume_28 : decode b_M_volume 28 = .ok (.istore 5, 2) := by decide +kernel
theorem d_M_volume_30 : decode b_M_volume 30 = .ok (.iconst 0, 1) := by decide +kernel
theorem d_M_volume_31 : decode b_M_volume 31 = .ok (.istore 6, 2) := by decide +kernel
theorem d_M_volume_33 : decode b_M_volume 33 = .ok (.iload 6, 2) := by decide +kernel
theorem d_M_volume_35 : decode b_M_volume 35 = .ok (.iload_n 2, 1) := by decide +kernel
theorem d_M_volume_36 : decode b_M_volume 36 = .ok (.if_icmp .gt 109, 3) := by decide +kernel
theorem d_M_volume_39 : decode b_M_volume 39 = .ok (.iload 5, 2) := by decide +kernel
theorem d_M_volume_41 : decode b_M_volume 41 = .ok (.ifCond .eq 104, 3) := by decide +kernel
theorem d_M_volume_44 : decode b_M_volume 44 = .ok (.iconst (-1), 1) := by decide +kernel
theorem d_M_volume_45 : decode b_M_volume 45 = .ok (.istore_n 3, 1) := by decide +kernel
theorem d_M_volume_46 : decode b_M_volume 46 = .ok (.iconst 0, 1) := by decide +kernel
theorem d_M_volume_47 : decode b_M_volume 47 = .ok (.istore 7, 2) := by decide +kernel
theorem d_M_volume_49 : decode b_M_volume 49 = .ok (.iload 7, 2) := by decide +kernel
theorem d_M_volume_51 : decode b_M_volume 51 = .ok (.aload_n 0, 1) := by decide +kernel
theorem d_M_volume_52 : decode b_M_volume 52 = .ok (.getfield 101, 3) := by decide +kernel
theorem d_M_volume_55 : decode b_M_volume 55 = .ok (.if_icmp .ge 55, 3) := by decide +kernel
theorem d_M_volume_58 : decode b_M_volume 58 = .ok (.aload_n 0, 1) := by decide +kernel
theorem d_M_volume_59 : decode b_M_volume 59 = .ok (.getfield 43, 3) := by decide +kernel
theorem d_M_volume_62 : decode b_M_volume 62 = .ok (.iload 7, 2) := by decide +kernel
theorem d_M_volume_64 : decode b_M_volume 64 = .ok (.iaload, 1) := by decide +kernel
theorem d_M_volume_65 : decode b_M_volume 65 = .ok (.iload_n 1, 1) := by decide +kernel
theorem d_M_volume_66 : decode b_M_volume 66 = .ok (.if_icmp .ne 38, 3) := by decide +kernel
theorem d_M_volume_69 : decode b_M_volume 69 = .ok (.aload_n 0, 1) := by decide +kernel
theorem d_M_volume_70 : decode b_M_volume 70 = .ok (.getfield 22, 3) := by decide +kernel
theorem d_M_volume_73 : decode b_M_volume 73 = .ok (.iload 7, 2) := by decide +kernel
theorem d_M_volume_75 : decode b_M_volume 75 = .ok (.iaload, 1) := by decide +kernel
theorem d_M_volume_76 : decode b_M_volume 76 = .ok (.iload 4, 2) := by decide +kernel
theorem d_M_volume_78 : decode b_M_volume 78 = .ok (.if_icmp .le 26, 3) := by decide +kernel
theorem d_M_volume_81 : decode b_M_volume 81 = .ok (.iload_n 3, 1) := by decide +kernel
theorem d_M_volume_82 : decode b_M_volume 82 = .ok (.ifCond .lt 19, 3) := by decide +kernel
theorem d_M_volume_85 : decode b_M_volume 85 = .ok (.aload_n 0, 1) := by decide +kernel
theorem d_M_volume_86 : decode b_M_volume 86 = .ok (.getfield 22, 3) := by decide +kernel
theorem d_M_volume_89 : decode b_M_volume 89 = .ok (.iload 7, 2) := by decide +kernel
theorem d_M_volume_91 : decode b_M_volume 91 = .ok (.iaload, 1) := by decide +kernel
theorem d_M_volume_92 : decode b_M_volume 92 = .ok (.aload_n 0, 1) := by decide +kernel
theorem d_M_volume_93 : decode b_M_volume 93 = .ok (.getfield 22, 3) := by decide +kernel
theorem d_M_volume_96 : decode b_M_volume 96 = .ok (.iload_n 3, 1) := by decide +kernel
theorem d_M_volume_97 : decode b_M_volume 97 = .ok (.iaload, 1) := by decide +kernel
theorem d_M_volume_98 : decode b_M_volume 98 = .ok (.if_icmp .ge 6, 3) := by decide +kernel
theorem d_M_volume_101 : decode b_M_volume 101 = .ok (.iload 7, 2) := by decide +kernel
theorem d_M_volume_103 : decode b_M_volume 103 = .ok (.istore_n 3, 1) := by decide +kernel
theorem d_M_volume_104 : decode b_M_volume 104 = .ok (.iinc 7 1, 3) := by decide +kernel
theorem d_M_volume_107 : decode b_M_volume 107 = .ok (.goto (-58), 3) := by decide +kernel
theorem d_M_volume_110 : decode b_M_volume 110 = .ok (.iload_n 3, 1) := by decide +kernel
theorem d_M_volume_111 : decode b_M_volume 111 = .ok (.ifCond .lt 7, 3) := by decide +kernel
theorem d_M_volume_114 : decode b_M_volume 114 = .ok (.iconst 1, 1) := by decide +kernel
theorem d_M_volume_115 : decode b_M_volume 115 = .ok (.goto 4, 3) := by decide +kernel
theorem d_M_volume_118 : decode b_M_volume 118 = .ok (.iconst 0, 1) := by decide +kernel
theorem d_M_volume_119 : decode b_M_volume 119 = .ok (.istore 5, 2) := by decide +kernel
theorem d_M_volume_121 : decode b_M_volume 121 = .ok (.iload 5, 2) := by decide +kernel
theorem d_M_volume_123 : decode b_M_volume 123 = .ok (.ifCond .eq 12, 3) := by decide +kernel
theorem d_M_volume_126 : decode b_M_volume 126 = .ok (.aload_n 0, 1) := by decide +kernel
theorem d_M_volume_127 : decode b_M_volume 127 = .ok (.getfield 22, 3) := by decide +kernel
theorem d_M_volume_130 : decode b_M_volume 130 = .ok (.iload_n 3, 1) := by decide +kernel
theorem d_M_volume_131 : decode b_M_volume 131 = .ok (.iaload, 1) := by decide +kernel
theorem d_M_volume_132 : decode b_M_volume 132 = .ok (.goto 5, 3) := by decide +kernel
theorem d_M_volume_135 : decode b_M_volume 135 = .ok (.iload 4, 2) := by decide +kernel
theorem d_M_volume_137 : decode b_M_volume 137 = .ok (.istore 4, 2) := by decide +kernel
theorem d_M_volume_139 : decode b_M_volume 139 = .ok (.iinc 6 1, 3) := by decide +kernel
theorem d_M_volume_142 : decode b_M_volume 142 = .ok (.goto (-109), 3) := by decide +kernel
theorem d_M_volume_145 : decode b_M_volume 145 = .ok (.aload_n 0, 1) := by decide +kernel
theorem d_M_volume_146 : decode b_M_volume 146 = .ok (.iload 5, 2) := by decide +kernel
theorem d_M_volume_148 : decode b_M_volume 148 = .ok (.ifCond .eq 7, 3) := by decide +kernel
theorem d_M_volume_151 : decode b_M_volume 151 = .ok (.iconst 0, 1) := by decide +kernel
theorem d_M_volume_152 : decode b_M_volume 152 = .ok (.goto 4, 3) := by decide +kernel
theorem d_M_volume_155 : decode b_M_volume 155 = .ok (.iconst 1, 1) := by decide +kernel
theorem d_M_volume_156 : decode b_M_volume 156 = .ok (.putfield 92, 3) := by decide +kernel
theorem d_M_volume_159 : decode b_M_volume 159 = .ok (.iload 5, 2) := by decide +kernel
theorem d_M_volume_161 : decode b_M_volume 161 = .ok (.ifCond .eq 7, 3) := by decide +kernel
theorem d_M_volume_164 : decode b_M_volume 164 = .ok (.iload_n 3, 1) := by decide +kernel
theorem d_M_volume_165 : decode b_M_volume 165 = .ok (.goto 4, 3) := by decide +kernel
theorem d_M_volume_168 : decode b_M_volume 168 = .ok (.iconst 0, 1) := by decide +kernel
theorem d_M_volume_169 : decode b_M_volume 169 = .ok (.ireturn, 1) := by decide +kernel
theorem d_M_statement_0 : decode b_M_statement 0 = .ok (.aload_n 0, 1) := by decide +kernel
theorem d_M_statement_1 : decode b_M_statement 1 = .ok (.iconst 0, 1) := by decide +kernel
theorem d_M_statement_2 : decode b_M_statement 2 = .ok (.putfield 92, 3) := by decide +kernel
theorem d_M_statement_5 : decode b_M_statement 5 = .ok (.iload_n 1, 1) := by decide +kernel
theorem d_M_statement_6 : decode b_M_statement 6 = .ok (.iconst 0, 1) := by decide +kernel
theorem d_M_statement_7 : decode b_M_statement 7 = .ok (.bipush 9, 2) := by decide +kernel
theorem d_M_statement_9 : decode b_M_statement 9 = .ok (.invokestatic 97, 3) := by decide +kernel
theorem d_M_statement_12 : decode b_M_statement 12 = .ok (.ifCond .ne 5, 3) := by decide +kernel
theorem d_M_statement_15 : decode b_M_statement 15 = .ok (.iconst (-1), 1) := by decide +kernel
theorem d_M_statement_16 : decode b_M_statement 16 = .ok (.ireturn, 1) := by decide +kernel
theorem d_M_statement_17 : decode b_M_statement 17 = .ok (.aload_n 0, 1) := by decide +kernel
theorem d_M_statement_18 : decode b_M_statement 18 = .ok (.iconst 0, 1) := by decide +kernel
theorem d_M_statement_19 : decode b_M_statement 19 = .ok (.putfield 138, 3) := by decide +kernel
theorem d_M_statement_22 : decode b_M_statement 22 = .ok (.iconst 0, 1) := by decide +kernel
theorem d_M_statement_23 : decode b_M_statement 23 = .ok (.istore_n 2, 1) := by decide +kernel
theorem d_M_statement_24 : decode b_M_statement 24 = .ok (.aload_n 0, 1) := by decide +kernel
theorem d_M_statement_25 : decode b_M_statement 25 = .ok (.iload_n 1, 1) := by decide +kernel
theorem d_M_statement_26 : decode b_M_statement 26 = .ok (.iconst 0, 1) := by decide +kernel
theorem d_M_statement_27 : decode b_M_statement 27 = .ok (.invokevirtual 141, 3) := by decide +kernel
theorem d_M_statement_30 : decode b_M_statement 30 = .ok (.istore_n 3, 1) := by decide +kernel
theorem d_M_statement_31 : decode b_M_statement 31 = .ok (.iload_n 3, 1) := by decide +kernel
theorem d_M_statement_32 : decode b_M_statement 32 = .ok (.ifCond .lt 129, 3) := by decide +kernel
theorem d_M_statement_35 : decode b_M_statement 35 = .ok (.aload_n 0, 1) := by decide +kernel
theorem d_M_statement_36 : decode b_M_statement 36 = .ok (.iload_n 3, 1) := by decide +kernel
theorem d_M_statement_37 : decode b_M_statement 37 = .ok (.invokevirtual 144, 3) := by decide +kernel
theorem d_M_statement_40 : decode b_M_statement 40 = .ok (.ifCond .eq 42, 3) := by decide +kernel
theorem d_M_statement_43 : decode b_M_statement 43 = .ok (.iload_n 2, 1) := by decide +kernel
theorem d_M_statement_44 : decode b_M_statement 44 = .ok (.ifCond .eq 38, 3) := by decide +kernel
theorem d_M_statement_47 : decode b_M_statement 47 = .ok (.aload_n 0, 1) := by decide +kernel
theorem d_M_statement_48 : decode b_M_statement 48 = .ok (.getfield 80, 3) := by decide +kernel
theorem d_M_statement_51 : decode b_M_statement 51 = .ok (.aload_n 0, 1) := by decide +kernel
theorem d_M_statement_52 : decode b_M_statement 52 = .ok (.getfield 138, 3) := by decide +kernel
theorem d_M_statement_55 : decode b_M_statement 55 = .ok (.iconst 1, 1) := by decide +kernel
theorem d_M_statement_56 : decode b_M_statement 56 = .ok (.isub, 1) := by decide +kernel
theorem d_M_statement_57 : decode b_M_statement 57 = .ok (.aload_n 0, 1) := by decide +kernel
theorem d_M_statement_58 : decode b_M_statement 58 = .ok (.getfield 22, 3) := by decide +kernel
theorem d_M_statement_61 : decode b_M_statement 61 = .ok (.iload_n 3, 1) := by decide +kernel
theorem d_M_statement_62 : decode b_M_statement 62 = .ok (.iaload, 1) := by decide +kernel
theorem d_M_statement_63 : decode b_M_statement 63 = .ok (.iastore, 1) := by decide +kernel
theorem d_M_statement_64 : decode b_M_statement 64 = .ok (.aload_n 0, 1) := by decide +kernel
theorem d_M_statement_65 : decode b_M_statement 65 = .ok (.getfield 83, 3) := by decide +kernel
theorem d_M_statement_68 : decode b_M_statement 68 = .ok (.aload_n 0, 1) := by decide +kernel
theorem d_M_statement_69 : decode b_M_statement 69 = .ok (.getfield 138, 3) := by decide +kernel
theorem d_M_statement_72 : decode b_M_statement 72 = .ok (.iconst 1, 1) := by decide +kernel
theorem d_M_statement_73 : decode b_M_statement 73 = .ok (.isub, 1) := by decide +kernel
theorem d_M_statement_74 : decode b_M_statement 74 = .ok (.dup2, 1) := by decide +kernel
theorem d_M_statement_75 : decode b_M_statement 75 = .ok (.iaload, 1) := by decide +kernel
theorem d_M_statement_76 : decode b_M_statement 76 = .ok (.iconst 1, 1) := by decide +kernel
theorem d_M_statement_77 : decode b_M_statement 77 = .ok (.iadd, 1) := by decide +kernel
theorem d_M_statement_78 : decode b_M_statement 78 = .ok (.iastore, 1) := by decide +kernel
theorem d_M_statement_79 : decode b_M_statement 79 = .ok (.goto 61, 3) := by decide +kernel
theorem d_M_statement_82 : decode b_M_statement 82 = .ok (.aload_n 0, 1) := by decide +kernel
theorem d_M_statement_83 : decode b_M_statement 83 = .ok (.iload_n 3, 1) := by decide +kernel
theorem d_M_statement_84 : decode b_M_statement 84 = .ok (.invokevirtual 144, 3) := by decide +kernel
theorem d_M_statement_87 : decode b_M_statement 87 = .ok (.ifCond .eq 53, 3) := by decide +kernel
theorem d_M_statement_90 : decode b_M_statement 90 = .ok (.aload_n 0, 1) := by decide +kernel
theorem d_M_statement_91 : decode b_M_statement 91 = .ok (.getfield 77, 3) := by decide +kernel
theorem d_M_statement_94 : decode b_M_statement 94 = .ok (.aload_n 0, 1) := by decide +kernel
theorem d_M_statement_95 : decode b_M_statement 95 = .ok (.getfield 138, 3) := by decide +kernel
theorem d_M_statement_98 : decode b_M_statement 98 = .ok (.aload_n 0, 1) := by decide +kernel
theorem d_M_statement_99 : decode b_M_statement 99 = .ok (.getfield 22, 3) := by decide +kernel
theorem d_M_statement_102 : decode b_M_statement 102 = .ok (.iload_n 3, 1) := by decide +kernel
theorem d_M_statement_103 : decode b_M_statement 103 = .ok (.iaload, 1) := by decide +kernel
theorem d_M_statement_104 : decode b_M_statement 104 = .ok (.iastore, 1) := by decide +kernel
theorem d_M_statement_105 : decode b_M_statement 105 = .ok (.aload_n 0, 1) := by decide +kernel
theorem d_M_statement_106 : decode b_M_statement 106 = .ok (.getfield 80, 3) := by decide +kernel
theorem d_M_statement_109 : decode b_M_statement 109 = .ok (.aload_n 0, 1) := by decide +kernel
theorem d_M_statement_110 : decode b_M_statement 110 = .ok (.getfield 138, 3) := by decide +kernel
theorem d_M_statement_113 : decode b_M_statement 113 = .ok (.aload_n 0, 1) := by decide +kernel
theorem d_M_statement_114 : decode b_M_statement 114 = .ok (.getfield 22, 3) := by decide +kernel
theorem d_M_statement_117 : decode b_M_statement 117 = .ok (.iload_n 3, 1) := by decide +kernel
theorem d_M_statement_118 : decode b_M_statement 118 = .ok (.iaload, 1) := by decide +kernel
theorem d_M_statement_119 : decode b_M_statement 119 = .ok (.iastore, 1) := by decide +kernel
theorem d_M_statement_120 : decode b_M_statement 120 = .ok (.aload_n 0, 1) := by decide +kernel
theorem d_M_statement_121 : decode b_M_statement 121 = .ok (.getfield 83, 3) := by decide +kernel
theorem d_M_statement_124 : decode b_M_statement 124 = .ok (.aload_n 0, 1) := by decide +kernel
theorem d_M_statement_125 : decode b_M_statement 125 = .ok (.getfield 138, 3) := by decide +kernel
theorem d_M_statement_128 : decode b_M_statement 128 = .ok (.iconst 1, 1) := by decide +kernel
theorem d_M_statement_129 : decode b_M_statement 129 = .ok (.iastore, 1) := by decide +kernel
theorem d_M_statement_130 : decode b_M_statement 130 = .ok (.aload_n 0, 1) := by decide +kernel
theorem d_M_statement_131 : decode b_M_statement 131 = .ok (.dup, 1) := by decide +kernel
theorem d_M_statement_132 : decode b_M_statement 132 = .ok (.getfield 138, 3) := by decide +kernel
theorem d_M_statement_135 : decode b_M_statement 135 = .ok (.iconst 1, 1) := by decide +kernel
theorem d_M_statement_136 : decode b_M_statement 136 = .ok (.iadd, 1) := by decide +kernel
theorem d_M_statement_137 : decode b_M_statement 137 = .ok (.putfield 138, 3) := by decide +kernel
theorem d_M_statement_140 : decode b_M_statement 140 = .ok (.aload_n 0, 1) := by decide +kernel
theorem d_M_statement_141 : decode b_M_statement 141 = .ok (.iload_n 3, 1) := by decide +kernel
theorem d_M_statement_142 : decode b_M_statement 142 = .ok (.invokevirtual 144, 3) := by decide +kernel
theorem d_M_statement_145 : decode b_M_statement 145 = .ok (.istore_n 2, 1) := by decide +kernel
theorem d_M_statement_146 : decode b_M_statement 146 = .ok (.aload_n 0, 1) := by decide +kernel
theorem d_M_statement_147 : decode b_M_statement 147 = .ok (.iload_n 1, 1) := by decide +kernel
theorem d_M_statement_148 : decode b_M_statement 148 = .ok (.aload_n 0, 1) := by decide +kernel
theorem d_M_statement_149 : decode b_M_statement 149 = .ok (.getfield 22, 3) := by decide +kernel
theorem d_M_statement_152 : decode b_M_statement 152 = .ok (.iload_n 3, 1) := by decide +kernel
theorem d_M_statement_153 : decode b_M_statement 153 = .ok (.iaload, 1) := by decide +kernel
theorem d_M_statement_154 : decode b_M_statement 154 = .ok (.invokevirtual 141, 3) := by decide +kernel
theorem d_M_statement_157 : decode b_M_statement 157 = .ok (.istore_n 3, 1) := by decide +kernel
theorem d_M_statement_158 : decode b_M_statement 158 = .ok (.goto (-127), 3) := by decide +kernel
theorem d_M_statement_161 : decode b_M_statement 161 = .ok (.aload_n 0, 1) := by decide +kernel
theorem d_M_statement_162 : decode b_M_statement 162 = .ok (.getfield 138, 3) := by decide +kernel
theorem d_M_statement_165 : decode b_M_statement 165 = .ok (.ireturn, 1) := by decide +kernel
theorem d_M_next_0 : decode b_M_next 0 = .ok (.iconst (-1), 1) := by decide +kernel
theorem d_M_next_1 : decode b_M_next 1 = .ok (.istore_n 3, 1) := by decide +kernel
theorem d_M_next_2 : decode b_M_next 2 = .ok (.iconst 0, 1) := by decide +kernel
theorem d_M_next_3 : decode b_M_next 3 = .ok (.istore 4, 2) := by decide +kernel
theorem d_M_next_5 : decode b_M_next 5 = .ok (.iload 4, 2) := by decide +kernel
theorem d_M_next_7 : decode b_M_next 7 = .ok (.aload_n 0, 1) := by decide +kernel
theorem d_M_next_8 : decode b_M_next 8 = .ok (.getfield 101, 3) := by decide +kernel
theorem d_M_next_11 : decode b_M_next 11 = .ok (.if_icmp .ge 69, 3) := by decide +kernel
theorem d_M_next_14 : decode b_M_next 14 = .ok (.aload_n 0, 1) := by decide +kernel
theorem d_M_next_15 : decode b_M_next 15 = .ok (.getfield 19, 3) := by decide +kernel
theorem d_M_next_18 : decode b_M_next 18 = .ok (.iload 4, 2) := by decide +kernel
theorem d_M_next_20 : decode b_M_next 20 = .ok (.iaload, 1) := by decide +kernel
theorem d_M_next_21 : decode b_M_next 21 = .ok (.iload_n 1, 1) := by decide +kernel
theorem d_M_next_22 : decode b_M_next 22 = .ok (.if_icmp .ne 52, 3) := by decide +kernel
theorem d_M_next_25 : decode b_M_next 25 = .ok (.aload_n 0, 1) := by decide +kernel
theorem d_M_next_26 : decode b_M_next 26 = .ok (.getfield 25, 3) := by decide +kernel
theorem d_M_next_29 : decode b_M_next 29 = .ok (.iload 4, 2) := by decide +kernel
theorem d_M_next_31 : decode b_M_next 31 = .ok (.iaload, 1) := by decide +kernel
theorem d_M_next_32 : decode b_M_next 32 = .ok (.bipush 6, 2) := by decide +kernel
theorem d_M_next_34 : decode b_M_next 34 = .ok (.if_icmp .eq 40, 3) := by decide +kernel
theorem d_M_next_37 : decode b_M_next 37 = .ok (.aload_n 0, 1) := by decide +kernel
theorem d_M_next_38 : decode b_M_next 38 = .ok (.getfield 22, 3) := by decide +kernel
theorem d_M_next_41 : decode b_M_next 41 = .ok (.iload 4, 2) := by decide +kernel
theorem d_M_next_43 : decode b_M_next 43 = .ok (.iaload, 1) := by decide +kernel
theorem d_M_next_44 : decode b_M_next 44 = .ok (.iload_n 2, 1) := by decide +kernel
theorem d_M_next_45 : decode b_M_next 45 = .ok (.if_icmp .gt 6, 3) := by decide +kernel
theorem d_M_next_48 : decode b_M_next 48 = .ok (.goto 26, 3) := by decide +kernel
theorem d_M_next_51 : decode b_M_next 51 = .ok (.iload_n 3, 1) := by decide +kernel
theorem d_M_next_52 : decode b_M_next 52 = .ok (.ifCond .lt 19, 3) := by decide +kernel
theorem d_M_next_55 : decode b_M_next 55 = .ok (.aload_n 0, 1) := by decide +kernel
theorem d_M_next_56 : decode b_M_next 56 = .ok (.getfield 22, 3) := by decide +kernel
theorem d_M_next_59 : decode b_M_next 59 = .ok (.iload 4, 2) := by decide +kernel
theorem d_M_next_61 : decode b_M_next 61 = .ok (.iaload, 1) := by decide +kernel
theorem d_M_next_62 : decode b_M_next 62 = .ok (.aload_n 0, 1) := by decide +kernel
theorem d_M_next_63 : decode b_M_next 63 = .ok (.getfield 22, 3) := by decide +kernel
theorem d_M_next_66 : decode b_M_next 66 = .ok (.iload_n 3, 1) := by decide +kernel
theorem d_M_next_67 : decode b_M_next 67 = .ok (.iaload, 1) := by decide +kernel
theorem d_M_next_68 : decode b_M_next 68 = .ok (.if_icmp .ge 6, 3) := by decide +kernel
theorem d_M_next_71 : decode b_M_next 71 = .ok (.iload 4, 2) := by decide +kernel
theorem d_M_next_73 : decode b_M_next 73 = .ok (.istore_n 3, 1) := by decide +kernel
theorem d_M_next_74 : decode b_M_next 74 = .ok (.iinc 4 1, 3) := by decide +kernel
theorem d_M_next_77 : decode b_M_next 77 = .ok (.goto (-72), 3) := by decide +kernel
theorem d_M_next_80 : decode b_M_next 80 = .ok (.iload_n 3, 1) := by decide +kernel
theorem d_M_next_81 : decode b_M_next 81 = .ok (.ireturn, 1) := by decide +kernel
theorem d_M_stands_0 : decode b_M_stands 0 = .ok (.aload_n 0, 1) := by decide +kernel
theorem d_M_stands_1 : decode b_M_stands 1 = .ok (.getfield 25, 3) := by decide +kernel
theorem d_M_stands_4 : decode b_M_stands 4 = .ok (.iload_n 1, 1) := by decide +kernel
theorem d_M_stands_5 : decode b_M_stands 5 = .ok (.iaload, 1) := by decide +kernel
theorem d_M_stands_6 : decode b_M_stands 6 = .ok (.iconst 3, 1) := by decide +kernel
theorem d_M_stands_7 : decode b_M_stands 7 = .ok (.if_icmp .eq 13, 3) := by decide +kernel
theorem d_M_stands_10 : decode b_M_stands 10 = .ok (.aload_n 0, 1) := by decide +kernel
theorem d_M_stands_11 : decode b_M_stands 11 = .ok (.getfield 25, 3) := by decide +kernel
theorem d_M_stands_14 : decode b_M_stands 14 = .ok (.iload_n 1, 1) := by decide +kernel
theorem d_M_stands_15 : decode b_M_stands 15 = .ok (.iaload, 1) := by decide +kernel
theorem d_M_stands_16 : decode b_M_stands 16 = .ok (.iconst 5, 1) := by decide +kernel
theorem d_M_stands_17 : decode b_M_stands 17 = .ok (.if_icmp .ne 7, 3) := by decide +kernel
theorem d_M_stands_20 : decode b_M_stands 20 = .ok (.iconst 1, 1) := by decide +kernel
theorem d_M_stands_21 : decode b_M_stands 21 = .ok (.goto 4, 3) := by decide +kernel
theorem d_M_stands_24 : decode b_M_stands 24 = .ok (.iconst 0, 1) := by decide +kernel
theorem d_M_stands_25 : decode b_M_stands 25 = .ok (.ireturn, 1) := by decide +kernel
theorem d_M_row_0 : decode b_M_row 0 = .ok (.aload_n 0, 1) := by decide +kernel
theorem d_M_row_1 : decode b_M_row 1 = .ok (.iload_n 1, 1) := by decide +kernel
theorem d_M_row_2 : decode b_M_row 2 = .ok (.iconst 0, 1) := by decide +kernel
theorem d_M_row_3 : decode b_M_row 3 = .ok (.aload_n 0, 1) := by decide +kernel
theorem d_M_row_4 : decode b_M_row 4 = .ok (.getfield 138, 3) := by decide +kernel
theorem d_M_row_7 : decode b_M_row 7 = .ok (.iconst 1, 1) := by decide +kernel
theorem d_M_row_8 : decode b_M_row 8 = .ok (.isub, 1) := by decide +kernel
theorem d_M_row_9 : decode b_M_row 9 = .ok (.invokestatic 97, 3) := by decide +kernel
theorem d_M_row_12 : decode b_M_row 12 = .ok (.ifCond .eq 12, 3) := by decide +kernel
theorem d_M_row_15 : decode b_M_row 15 = .ok (.iload_n 2, 1) := by decide +kernel
theorem d_M_row_16 : decode b_M_row 16 = .ok (.iconst 0, 1) := by decide +kernel
theorem d_M_row_17 : decode b_M_row 17 = .ok (.iconst 3, 1) := by decide +kernel
theorem d_M_row_18 : decode b_M_row 18 = .ok (.invokestatic 97, 3) := by decide +kernel
theorem d_M_row_21 : decode b_M_row 21 = .ok (.ifCond .ne 7, 3) := by decide +kernel
theorem d_M_row_24 : decode b_M_row 24 = .ok (.iconst 1, 1) := by decide +kernel
theorem d_M_row_25 : decode b_M_row 25 = .ok (.goto 4, 3) := by decide +kernel
theorem d_M_row_28 : decode b_M_row 28 = .ok (.iconst 0, 1) := by decide +kernel
theorem d_M_row_29 : decode b_M_row 29 = .ok (.putfield 92, 3) := by decide +kernel
theorem d_M_row_32 : decode b_M_row 32 = .ok (.aload_n 0, 1) := by decide +kernel
theorem d_M_row_33 : decode b_M_row 33 = .ok (.getfield 92, 3) := by decide +kernel
theorem d_M_row_36 : decode b_M_row 36 = .ok (.ifCond .le 5, 3) := by decide +kernel
theorem d_M_row_39 : decode b_M_row 39 = .ok (.iconst 0, 1) := by decide +kernel
theorem d_M_row_40 : decode b_M_row 40 = .ok (.ireturn, 1) := by decide +kernel
theorem d_M_row_41 : decode b_M_row 41 = .ok (.iload_n 2, 1) := by decide +kernel
theorem d_M_row_42 : decode b_M_row 42 = .ok (.ifCond .ne 12, 3) := by decide +kernel
theorem d_M_row_45 : decode b_M_row 45 = .ok (.aload_n 0, 1) := by decide +kernel
theorem d_M_row_46 : decode b_M_row 46 = .ok (.getfield 77, 3) := by decide +kernel
theorem d_M_row_49 : decode b_M_row 49 = .ok (.iload_n 1, 1) := by decide +kernel
theorem d_M_row_50 : decode b_M_row 50 = .ok (.iaload, 1) := by decide +kernel
theorem d_M_row_51 : decode b_M_row 51 = .ok (.goto 46, 3) := by decide +kernel
theorem d_M_row_54 : decode b_M_row 54 = .ok (.iload_n 2, 1) := by decide +kernel
theorem d_M_row_55 : decode b_M_row 55 = .ok (.iconst 1, 1) := by decide +kernel
theorem d_M_row_56 : decode b_M_row 56 = .ok (.if_icmp .ne 12, 3) := by decide +kernel
theorem d_M_row_59 : decode b_M_row 59 = .ok (.aload_n 0, 1) := by decide +kernel
theorem d_M_row_60 : decode b_M_row 60 = .ok (.getfield 80, 3) := by decide +kernel
theorem d_M_row_63 : decode b_M_row 63 = .ok (.iload_n 1, 1) := by decide +kernel
theorem d_M_row_64 : decode b_M_row 64 = .ok (.iaload, 1) := by decide +kernel
theorem d_M_row_65 : decode b_M_row 65 = .ok (.goto 32, 3) := by decide +kernel
theorem d_M_row_68 : decode b_M_row 68 = .ok (.iload_n 2, 1) := by decide +kernel
theorem d_M_row_69 : decode b_M_row 69 = .ok (.iconst 2, 1) := by decide +kernel
theorem d_M_row_70 : decode b_M_row 70 = .ok (.if_icmp .ne 12, 3) := by decide +kernel
theorem d_M_row_73 : decode b_M_row 73 = .ok (.aload_n 0, 1) := by decide +kernel
theorem d_M_row_74 : decode b_M_row 74 = .ok (.getfield 83, 3) := by decide +kernel
theorem d_M_row_77 : decode b_M_row 77 = .ok (.iload_n 1, 1) := by decide +kernel
theorem d_M_row_78 : decode b_M_row 78 = .ok (.iaload, 1) := by decide +kernel
theorem d_M_row_79 : decode b_M_row 79 = .ok (.goto 18, 3) := by decide +kernel
theorem d_M_row_82 : decode b_M_row 82 = .ok (.iload_n 1, 1) := by decide +kernel
theorem d_M_row_83 : decode b_M_row 83 = .ok (.aload_n 0, 1) := by decide +kernel
theorem d_M_row_84 : decode b_M_row 84 = .ok (.getfield 138, 3) := by decide +kernel
theorem d_M_row_87 : decode b_M_row 87 = .ok (.iconst 1, 1) := by decide +kernel
theorem d_M_row_88 : decode b_M_row 88 = .ok (.isub, 1) := by decide +kernel
theorem d_M_row_89 : decode b_M_row 89 = .ok (.if_icmp .ge 7, 3) := by decide +kernel
theorem d_M_row_92 : decode b_M_row 92 = .ok (.iconst 1, 1) := by decide +kernel
theorem d_M_row_93 : decode b_M_row 93 = .ok (.goto 4, 3) := by decide +kernel
theorem d_M_row_96 : decode b_M_row 96 = .ok (.iconst 0, 1) := by decide +kernel
theorem d_M_row_97 : decode b_M_row 97 = .ok (.ireturn, 1) := by decide +kernel
theorem d_M_about_0 : decode b_M_about 0 = .ok (.aload_n 0, 1) := by decide +kernel
theorem d_M_about_1 : decode b_M_about 1 = .ok (.iconst 0, 1) := by decide +kernel
theorem d_M_about_2 : decode b_M_about 2 = .ok (.putfield 92, 3) := by decide +kernel
theorem d_M_about_5 : decode b_M_about 5 = .ok (.aload_n 0, 1) := by decide +kernel
theorem d_M_about_6 : decode b_M_about 6 = .ok (.iload_n 1, 1) := by decide +kernel
theorem d_M_about_7 : decode b_M_about 7 = .ok (.invokevirtual 115, 3) := by decide +kernel
theorem d_M_about_10 : decode b_M_about 10 = .ok (.ifCond .ne 5, 3) := by decide +kernel
theorem d_M_about_13 : decode b_M_about 13 = .ok (.iconst (-1), 1) := by decide +kernel
theorem d_M_about_14 : decode b_M_about 14 = .ok (.ireturn, 1) := by decide +kernel
theorem d_M_about_15 : decode b_M_about 15 = .ok (.iload_n 2, 1) := by decide +kernel
theorem d_M_about_16 : decode b_M_about 16 = .ok (.tableswitch 159 0 10 #[60, 67, 74, 81, 88, 95, 102, 109, 138, 145, 152], 60) := by decide +kernel
theorem d_M_about_76 : decode b_M_about 76 = .ok (.aload_n 0, 1) := by decide +kernel
theorem d_M_about_77 : decode b_M_about 77 = .ok (.getfield 19, 3) := by decide +kernel
theorem d_M_about_80 : decode b_M_about 80 = .ok (.iload_n 1, 1) := by decide +kernel
theorem d_M_about_81 : decode b_M_about 81 = .ok (.iaload, 1) := by decide +kernel
theorem d_M_about_82 : decode b_M_about 82 = .ok (.ireturn, 1) := by decide +kernel
theorem d_M_about_83 : decode b_M_about 83 = .ok (.aload_n 0, 1) := by decide +kernel
theorem d_M_about_84 : decode b_M_about 84 = .ok (.getfield 22, 3) := by decide +kernel
theorem d_M_about_87 : decode b_M_about 87 = .ok (.iload_n 1, 1) := by decide +kernel
theorem d_M_about_88 : decode b_M_about 88 = .ok (.iaload, 1) := by decide +kernel
theorem d_M_about_89 : decode b_M_about 89 = .ok (.ireturn, 1) := by decide +kernel
theorem d_M_about_90 : decode b_M_about 90 = .ok (.aload_n 0, 1) := by decide +kernel
theorem d_M_about_91 : decode b_M_about 91 = .ok (.getfield 25, 3) := by decide +kernel
theorem d_M_about_94 : decode b_M_about 94 = .ok (.iload_n 1, 1) := by decide +kernel
theorem d_M_about_95 : decode b_M_about 95 = .ok (.iaload, 1) := by decide +kernel
theorem d_M_about_96 : decode b_M_about 96 = .ok (.ireturn, 1) := by decide +kernel
theorem d_M_about_97 : decode b_M_about 97 = .ok (.aload_n 0, 1) := by decide +kernel
theorem d_M_about_98 : decode b_M_about 98 = .ok (.getfield 28, 3) := by decide +kernel
theorem d_M_about_101 : decode b_M_about 101 = .ok (.iload_n 1, 1) := by decide +kernel
theorem d_M_about_102 : decode b_M_about 102 = .ok (.iaload, 1) := by decide +kernel
theorem d_M_about_103 : decode b_M_about 103 = .ok (.ireturn, 1) := by decide +kernel
theorem d_M_about_104 : decode b_M_about 104 = .ok (.aload_n 0, 1) := by decide +kernel
end
section
theorem d_M_about_105 : decode b_M_about 105 = .ok (.getfield 31, 3) := by decide +kernel
theorem d_M_about_108 : decode b_M_about 108 = .ok (.iload_n 1, 1) := by decide +kernel
theorem d_M_about_109 : decode b_M_about 109 = .ok (.iaload, 1) := by decide +kernel
theorem d_M_about_110 : decode b_M_about 110 = .ok (.ireturn, 1) := by decide +kernel
theorem d_M_about_111 : decode b_M_about 111 = .ok (.aload_n 0, 1) := by decide +kernel
theorem d_M_about_112 : decode b_M_about 112 = .ok (.getfield 37, 3) := by decide +kernel
theorem d_M_about_115 : decode b_M_about 115 = .ok (.iload_n 1, 1) := by decide +kernel
theorem d_M_about_116 : decode b_M_about 116 = .ok (.iaload, 1) := by decide +kernel
theorem d_M_about_117 : decode b_M_about 117 = .ok (.ireturn, 1) := by decide +kernel
theorem d_M_about_118 : decode b_M_about 118 = .ok (.aload_n 0, 1) := by decide +kernel
theorem d_M_about_119 : decode b_M_about 119 = .ok (.getfield 40, 3) := by decide +kernel
theorem d_M_about_122 : decode b_M_about 122 = .ok (.iload_n 1, 1) := by decide +kernel
theorem d_M_about_123 : decode b_M_about 123 = .ok (.iaload, 1) := by decide +kernel
theorem d_M_about_124 : decode b_M_about 124 = .ok (.ireturn, 1) := by decide +kernel
theorem d_M_about_125 : decode b_M_about 125 = .ok (.aload_n 0, 1) := by decide +kernel
theorem d_M_about_126 : decode b_M_about 126 = .ok (.iload_n 1, 1) := by decide +kernel
theorem d_M_about_127 : decode b_M_about 127 = .ok (.invokevirtual 128, 3) := by decide +kernel
theorem d_M_about_130 : decode b_M_about 130 = .ok (.ifCond .eq 22, 3) := by decide +kernel
theorem d_M_about_133 : decode b_M_about 133 = .ok (.aload_n 0, 1) := by decide +kernel
theorem d_M_about_134 : decode b_M_about 134 = .ok (.getfield 59, 3) := by decide +kernel
theorem d_M_about_137 : decode b_M_about 137 = .ok (.bipush 8, 2) := by decide +kernel
theorem d_M_about_139 : decode b_M_about 139 = .ok (.iload_n 1, 1) := by decide +kernel
theorem d_M_about_140 : decode b_M_about 140 = .ok (.imul, 1) := by decide +kernel
theorem d_M_about_141 : decode b_M_about 141 = .ok (.aload_n 0, 1) := by decide +kernel
theorem d_M_about_142 : decode b_M_about 142 = .ok (.getfield 65, 3) := by decide +kernel
theorem d_M_about_145 : decode b_M_about 145 = .ok (.iload_n 1, 1) := by decide +kernel
theorem d_M_about_146 : decode b_M_about 146 = .ok (.iaload, 1) := by decide +kernel
theorem d_M_about_147 : decode b_M_about 147 = .ok (.iadd, 1) := by decide +kernel
theorem d_M_about_148 : decode b_M_about 148 = .ok (.iaload, 1) := by decide +kernel
theorem d_M_about_149 : decode b_M_about 149 = .ok (.goto 4, 3) := by decide +kernel
theorem d_M_about_152 : decode b_M_about 152 = .ok (.iconst (-1), 1) := by decide +kernel
theorem d_M_about_153 : decode b_M_about 153 = .ok (.ireturn, 1) := by decide +kernel
theorem d_M_about_154 : decode b_M_about 154 = .ok (.aload_n 0, 1) := by decide +kernel
theorem d_M_about_155 : decode b_M_about 155 = .ok (.getfield 43, 3) := by decide +kernel
theorem d_M_about_158 : decode b_M_about 158 = .ok (.iload_n 1, 1) := by decide +kernel
theorem d_M_about_159 : decode b_M_about 159 = .ok (.iaload, 1) := by decide +kernel
theorem d_M_about_160 : decode b_M_about 160 = .ok (.ireturn, 1) := by decide +kernel
theorem d_M_about_161 : decode b_M_about 161 = .ok (.aload_n 0, 1) := by decide +kernel
theorem d_M_about_162 : decode b_M_about 162 = .ok (.getfield 46, 3) := by decide +kernel
theorem d_M_about_165 : decode b_M_about 165 = .ok (.iload_n 1, 1) := by decide +kernel
theorem d_M_about_166 : decode b_M_about 166 = .ok (.iaload, 1) := by decide +kernel
theorem d_M_about_167 : decode b_M_about 167 = .ok (.ireturn, 1) := by decide +kernel
theorem d_M_about_168 : decode b_M_about 168 = .ok (.aload_n 0, 1) := by decide +kernel
theorem d_M_about_169 : decode b_M_about 169 = .ok (.getfield 49, 3) := by decide +kernel
theorem d_M_about_172 : decode b_M_about 172 = .ok (.iload_n 1, 1) := by decide +kernel
theorem d_M_about_173 : decode b_M_about 173 = .ok (.iaload, 1) := by decide +kernel
theorem d_M_about_174 : decode b_M_about 174 = .ok (.ireturn, 1) := by decide +kernel
theorem d_M_about_175 : decode b_M_about 175 = .ok (.iconst (-1), 1) := by decide +kernel
theorem d_M_about_176 : decode b_M_about 176 = .ok (.ireturn, 1) := by decide +kernel
theorem d_M_cost_0 : decode b_M_cost 0 = .ok (.aload_n 0, 1) := by decide +kernel
theorem d_M_cost_1 : decode b_M_cost 1 = .ok (.iconst 0, 1) := by decide +kernel
theorem d_M_cost_2 : decode b_M_cost 2 = .ok (.putfield 92, 3) := by decide +kernel
theorem d_M_cost_5 : decode b_M_cost 5 = .ok (.aload_n 0, 1) := by decide +kernel
theorem d_M_cost_6 : decode b_M_cost 6 = .ok (.iload_n 1, 1) := by decide +kernel
theorem d_M_cost_7 : decode b_M_cost 7 = .ok (.invokevirtual 115, 3) := by decide +kernel
theorem d_M_cost_10 : decode b_M_cost 10 = .ok (.ifCond .ne 5, 3) := by decide +kernel
theorem d_M_cost_13 : decode b_M_cost 13 = .ok (.iconst (-1), 1) := by decide +kernel
theorem d_M_cost_14 : decode b_M_cost 14 = .ok (.ireturn, 1) := by decide +kernel
theorem d_M_cost_15 : decode b_M_cost 15 = .ok (.iload_n 2, 1) := by decide +kernel
theorem d_M_cost_16 : decode b_M_cost 16 = .ok (.iconst 0, 1) := by decide +kernel
theorem d_M_cost_17 : decode b_M_cost 17 = .ok (.ldc 147, 2) := by decide +kernel
theorem d_M_cost_19 : decode b_M_cost 19 = .ok (.invokestatic 97, 3) := by decide +kernel
theorem d_M_cost_22 : decode b_M_cost 22 = .ok (.ifCond .ne 6, 3) := by decide +kernel
theorem d_M_cost_25 : decode b_M_cost 25 = .ok (.bipush (-2), 2) := by decide +kernel
theorem d_M_cost_27 : decode b_M_cost 27 = .ok (.ireturn, 1) := by decide +kernel
theorem d_M_cost_28 : decode b_M_cost 28 = .ok (.aload_n 0, 1) := by decide +kernel
theorem d_M_cost_29 : decode b_M_cost 29 = .ok (.getfield 49, 3) := by decide +kernel
theorem d_M_cost_32 : decode b_M_cost 32 = .ok (.iload_n 1, 1) := by decide +kernel
theorem d_M_cost_33 : decode b_M_cost 33 = .ok (.iaload, 1) := by decide +kernel
theorem d_M_cost_34 : decode b_M_cost 34 = .ok (.iload_n 2, 1) := by decide +kernel
theorem d_M_cost_35 : decode b_M_cost 35 = .ok (.iadd, 1) := by decide +kernel
theorem d_M_cost_36 : decode b_M_cost 36 = .ok (.ldc 148, 2) := by decide +kernel
theorem d_M_cost_38 : decode b_M_cost 38 = .ok (.if_icmp .le 6, 3) := by decide +kernel
theorem d_M_cost_41 : decode b_M_cost 41 = .ok (.bipush (-4), 2) := by decide +kernel
theorem d_M_cost_43 : decode b_M_cost 43 = .ok (.ireturn, 1) := by decide +kernel
theorem d_M_cost_44 : decode b_M_cost 44 = .ok (.aload_n 0, 1) := by decide +kernel
theorem d_M_cost_45 : decode b_M_cost 45 = .ok (.getfield 49, 3) := by decide +kernel
theorem d_M_cost_48 : decode b_M_cost 48 = .ok (.iload_n 1, 1) := by decide +kernel
theorem d_M_cost_49 : decode b_M_cost 49 = .ok (.dup2, 1) := by decide +kernel
theorem d_M_cost_50 : decode b_M_cost 50 = .ok (.iaload, 1) := by decide +kernel
theorem d_M_cost_51 : decode b_M_cost 51 = .ok (.iload_n 2, 1) := by decide +kernel
theorem d_M_cost_52 : decode b_M_cost 52 = .ok (.iadd, 1) := by decide +kernel
theorem d_M_cost_53 : decode b_M_cost 53 = .ok (.iastore, 1) := by decide +kernel
theorem d_M_cost_54 : decode b_M_cost 54 = .ok (.aload_n 0, 1) := by decide +kernel
theorem d_M_cost_55 : decode b_M_cost 55 = .ok (.getfield 49, 3) := by decide +kernel
theorem d_M_cost_58 : decode b_M_cost 58 = .ok (.iload_n 1, 1) := by decide +kernel
theorem d_M_cost_59 : decode b_M_cost 59 = .ok (.iaload, 1) := by decide +kernel
theorem d_M_cost_60 : decode b_M_cost 60 = .ok (.ireturn, 1) := by decide +kernel
theorem d_M_told_0 : decode b_M_told 0 = .ok (.aload_n 0, 1) := by decide +kernel
theorem d_M_told_1 : decode b_M_told 1 = .ok (.iconst 0, 1) := by decide +kernel
theorem d_M_told_2 : decode b_M_told 2 = .ok (.putfield 92, 3) := by decide +kernel
theorem d_M_told_5 : decode b_M_told 5 = .ok (.iload_n 1, 1) := by decide +kernel
theorem d_M_told_6 : decode b_M_told 6 = .ok (.iconst 0, 1) := by decide +kernel
theorem d_M_told_7 : decode b_M_told 7 = .ok (.aload_n 0, 1) := by decide +kernel
theorem d_M_told_8 : decode b_M_told 8 = .ok (.getfield 104, 3) := by decide +kernel
theorem d_M_told_11 : decode b_M_told 11 = .ok (.iconst 1, 1) := by decide +kernel
theorem d_M_told_12 : decode b_M_told 12 = .ok (.isub, 1) := by decide +kernel
theorem d_M_told_13 : decode b_M_told 13 = .ok (.invokestatic 97, 3) := by decide +kernel
theorem d_M_told_16 : decode b_M_told 16 = .ok (.ifCond .eq 12, 3) := by decide +kernel
theorem d_M_told_19 : decode b_M_told 19 = .ok (.iload_n 2, 1) := by decide +kernel
theorem d_M_told_20 : decode b_M_told 20 = .ok (.iconst 0, 1) := by decide +kernel
theorem d_M_told_21 : decode b_M_told 21 = .ok (.iconst 1, 1) := by decide +kernel
theorem d_M_told_22 : decode b_M_told 22 = .ok (.invokestatic 97, 3) := by decide +kernel
theorem d_M_told_25 : decode b_M_told 25 = .ok (.ifCond .ne 7, 3) := by decide +kernel
theorem d_M_told_28 : decode b_M_told 28 = .ok (.iconst (-1), 1) := by decide +kernel
theorem d_M_told_29 : decode b_M_told 29 = .ok (.goto 22, 3) := by decide +kernel
theorem d_M_told_32 : decode b_M_told 32 = .ok (.iload_n 2, 1) := by decide +kernel
theorem d_M_told_33 : decode b_M_told 33 = .ok (.ifCond .ne 12, 3) := by decide +kernel
theorem d_M_told_36 : decode b_M_told 36 = .ok (.aload_n 0, 1) := by decide +kernel
theorem d_M_told_37 : decode b_M_told 37 = .ok (.getfield 86, 3) := by decide +kernel
theorem d_M_told_40 : decode b_M_told 40 = .ok (.iload_n 1, 1) := by decide +kernel
theorem d_M_told_41 : decode b_M_told 41 = .ok (.iaload, 1) := by decide +kernel
theorem d_M_told_42 : decode b_M_told 42 = .ok (.goto 9, 3) := by decide +kernel
theorem d_M_told_45 : decode b_M_told 45 = .ok (.aload_n 0, 1) := by decide +kernel
theorem d_M_told_46 : decode b_M_told 46 = .ok (.getfield 89, 3) := by decide +kernel
theorem d_M_told_49 : decode b_M_told 49 = .ok (.iload_n 1, 1) := by decide +kernel
theorem d_M_told_50 : decode b_M_told 50 = .ok (.iaload, 1) := by decide +kernel
theorem d_M_told_51 : decode b_M_told 51 = .ok (.ireturn, 1) := by decide +kernel
theorem d_M_lateness_0 : decode b_M_lateness 0 = .ok (.aload_n 0, 1) := by decide +kernel
theorem d_M_lateness_1 : decode b_M_lateness 1 = .ok (.iconst 0, 1) := by decide +kernel
theorem d_M_lateness_2 : decode b_M_lateness 2 = .ok (.putfield 92, 3) := by decide +kernel
theorem d_M_lateness_5 : decode b_M_lateness 5 = .ok (.iload_n 1, 1) := by decide +kernel
theorem d_M_lateness_6 : decode b_M_lateness 6 = .ok (.iconst 0, 1) := by decide +kernel
theorem d_M_lateness_7 : decode b_M_lateness 7 = .ok (.bipush 9, 2) := by decide +kernel
theorem d_M_lateness_9 : decode b_M_lateness 9 = .ok (.invokestatic 97, 3) := by decide +kernel
theorem d_M_lateness_12 : decode b_M_lateness 12 = .ok (.ifCond .ne 5, 3) := by decide +kernel
theorem d_M_lateness_15 : decode b_M_lateness 15 = .ok (.iconst (-1), 1) := by decide +kernel
theorem d_M_lateness_16 : decode b_M_lateness 16 = .ok (.ireturn, 1) := by decide +kernel
theorem d_M_lateness_17 : decode b_M_lateness 17 = .ok (.iconst 0, 1) := by decide +kernel
theorem d_M_lateness_18 : decode b_M_lateness 18 = .ok (.istore_n 2, 1) := by decide +kernel
theorem d_M_lateness_19 : decode b_M_lateness 19 = .ok (.iconst 0, 1) := by decide +kernel
theorem d_M_lateness_20 : decode b_M_lateness 20 = .ok (.istore_n 3, 1) := by decide +kernel
theorem d_M_lateness_21 : decode b_M_lateness 21 = .ok (.iload_n 3, 1) := by decide +kernel
theorem d_M_lateness_22 : decode b_M_lateness 22 = .ok (.aload_n 0, 1) := by decide +kernel
theorem d_M_lateness_23 : decode b_M_lateness 23 = .ok (.getfield 101, 3) := by decide +kernel
theorem d_M_lateness_26 : decode b_M_lateness 26 = .ok (.if_icmp .ge 68, 3) := by decide +kernel
theorem d_M_lateness_29 : decode b_M_lateness 29 = .ok (.aload_n 0, 1) := by decide +kernel
theorem d_M_lateness_30 : decode b_M_lateness 30 = .ok (.getfield 19, 3) := by decide +kernel
theorem d_M_lateness_33 : decode b_M_lateness 33 = .ok (.iload_n 3, 1) := by decide +kernel
theorem d_M_lateness_34 : decode b_M_lateness 34 = .ok (.iaload, 1) := by decide +kernel
theorem d_M_lateness_35 : decode b_M_lateness 35 = .ok (.iload_n 1, 1) := by decide +kernel
theorem d_M_lateness_36 : decode b_M_lateness 36 = .ok (.if_icmp .ne 52, 3) := by decide +kernel
theorem d_M_lateness_39 : decode b_M_lateness 39 = .ok (.aload_n 0, 1) := by decide +kernel
theorem d_M_lateness_40 : decode b_M_lateness 40 = .ok (.getfield 52, 3) := by decide +kernel
theorem d_M_lateness_43 : decode b_M_lateness 43 = .ok (.iload_n 3, 1) := by decide +kernel
theorem d_M_lateness_44 : decode b_M_lateness 44 = .ok (.baload, 1) := by decide +kernel
theorem d_M_lateness_45 : decode b_M_lateness 45 = .ok (.ifCond .ne 43, 3) := by decide +kernel
theorem d_M_lateness_48 : decode b_M_lateness 48 = .ok (.aload_n 0, 1) := by decide +kernel
theorem d_M_lateness_49 : decode b_M_lateness 49 = .ok (.getfield 28, 3) := by decide +kernel
theorem d_M_lateness_52 : decode b_M_lateness 52 = .ok (.iload_n 3, 1) := by decide +kernel
theorem d_M_lateness_53 : decode b_M_lateness 53 = .ok (.iaload, 1) := by decide +kernel
theorem d_M_lateness_54 : decode b_M_lateness 54 = .ok (.ifCond .lt 34, 3) := by decide +kernel
theorem d_M_lateness_57 : decode b_M_lateness 57 = .ok (.aload_n 0, 1) := by decide +kernel
theorem d_M_lateness_58 : decode b_M_lateness 58 = .ok (.getfield 40, 3) := by decide +kernel
theorem d_M_lateness_61 : decode b_M_lateness 61 = .ok (.iload_n 3, 1) := by decide +kernel
theorem d_M_lateness_62 : decode b_M_lateness 62 = .ok (.iaload, 1) := by decide +kernel
theorem d_M_lateness_63 : decode b_M_lateness 63 = .ok (.aload_n 0, 1) := by decide +kernel
theorem d_M_lateness_64 : decode b_M_lateness 64 = .ok (.getfield 28, 3) := by decide +kernel
theorem d_M_lateness_67 : decode b_M_lateness 67 = .ok (.iload_n 3, 1) := by decide +kernel
theorem d_M_lateness_68 : decode b_M_lateness 68 = .ok (.iaload, 1) := by decide +kernel
theorem d_M_lateness_69 : decode b_M_lateness 69 = .ok (.if_icmp .le 19, 3) := by decide +kernel
theorem d_M_lateness_72 : decode b_M_lateness 72 = .ok (.iload_n 2, 1) := by decide +kernel
theorem d_M_lateness_73 : decode b_M_lateness 73 = .ok (.aload_n 0, 1) := by decide +kernel
theorem d_M_lateness_74 : decode b_M_lateness 74 = .ok (.getfield 40, 3) := by decide +kernel
theorem d_M_lateness_77 : decode b_M_lateness 77 = .ok (.iload_n 3, 1) := by decide +kernel
theorem d_M_lateness_78 : decode b_M_lateness 78 = .ok (.iaload, 1) := by decide +kernel
theorem d_M_lateness_79 : decode b_M_lateness 79 = .ok (.aload_n 0, 1) := by decide +kernel
theorem d_M_lateness_80 : decode b_M_lateness 80 = .ok (.getfield 28, 3) := by decide +kernel
theorem d_M_lateness_83 : decode b_M_lateness 83 = .ok (.iload_n 3, 1) := by decide +kernel
theorem d_M_lateness_84 : decode b_M_lateness 84 = .ok (.iaload, 1) := by decide +kernel
theorem d_M_lateness_85 : decode b_M_lateness 85 = .ok (.isub, 1) := by decide +kernel
theorem d_M_lateness_86 : decode b_M_lateness 86 = .ok (.iadd, 1) := by decide +kernel
theorem d_M_lateness_87 : decode b_M_lateness 87 = .ok (.istore_n 2, 1) := by decide +kernel
theorem d_M_lateness_88 : decode b_M_lateness 88 = .ok (.iinc 3 1, 3) := by decide +kernel
theorem d_M_lateness_91 : decode b_M_lateness 91 = .ok (.goto (-70), 3) := by decide +kernel
theorem d_M_lateness_94 : decode b_M_lateness 94 = .ok (.iload_n 2, 1) := by decide +kernel
theorem d_M_lateness_95 : decode b_M_lateness 95 = .ok (.ireturn, 1) := by decide +kernel
end
section
theorem d_L_law_0 : decode code 0 = .ok (.new 8, 3) := by decide +kernel
theorem d_L_law_3 : decode code 3 = .ok (.dup, 1) := by decide +kernel
theorem d_L_law_4 : decode code 4 = .ok (.invokespecial 21, 3) := by decide +kernel
theorem d_L_law_7 : decode code 7 = .ok (.astore_n 1, 1) := by decide +kernel
theorem d_L_law_8 : decode code 8 = .ok (.new 22, 3) := by decide +kernel
theorem d_L_law_11 : decode code 11 = .ok (.dup, 1) := by decide +kernel
theorem d_L_law_12 : decode code 12 = .ok (.invokespecial 24, 3) := by decide +kernel
theorem d_L_law_15 : decode code 15 = .ok (.astore_n 2, 1) := by decide +kernel
theorem d_L_law_16 : decode code 16 = .ok (.iconst 1, 1) := by decide +kernel
theorem d_L_law_17 : decode code 17 = .ok (.newarray .long, 2) := by decide +kernel
theorem d_L_law_19 : decode code 19 = .ok (.astore_n 3, 1) := by decide +kernel
theorem d_L_law_20 : decode code 20 = .ok (.iconst 0, 1) := by decide +kernel
theorem d_L_law_21 : decode code 21 = .ok (.istore 4, 2) := by decide +kernel
theorem d_L_law_23 : decode code 23 = .ok (.iload 4, 2) := by decide +kernel
theorem d_L_law_25 : decode code 25 = .ok (.aload_n 0, 1) := by decide +kernel
theorem d_L_law_26 : decode code 26 = .ok (.arraylength, 1) := by decide +kernel
theorem d_L_law_27 : decode code 27 = .ok (.iconst 5, 1) := by decide +kernel
theorem d_L_law_28 : decode code 28 = .ok (.isub, 1) := by decide +kernel
theorem d_L_law_29 : decode code 29 = .ok (.if_icmp .gt 843, 3) := by decide +kernel
theorem d_L_law_32 : decode code 32 = .ok (.aload_n 0, 1) := by decide +kernel
theorem d_L_law_33 : decode code 33 = .ok (.iload 4, 2) := by decide +kernel
theorem d_L_law_35 : decode code 35 = .ok (.iaload, 1) := by decide +kernel
theorem d_L_law_36 : decode code 36 = .ok (.bipush 31, 2) := by decide +kernel
theorem d_L_law_38 : decode code 38 = .ok (.iand, 1) := by decide +kernel
theorem d_L_law_39 : decode code 39 = .ok (.tableswitch 827 0 16 #[81, 142, 191, 240, 265, 333, 382, 419, 456, 493, 530, 598, 623, 691, 728, 765, 802], 81) := by decide +kernel
theorem d_L_law_120 : decode code 120 = .ok (.aload_n 1, 1) := by decide +kernel
theorem d_L_law_121 : decode code 121 = .ok (.aload_n 0, 1) := by decide +kernel
theorem d_L_law_122 : decode code 122 = .ok (.iload 4, 2) := by decide +kernel
theorem d_L_law_124 : decode code 124 = .ok (.iconst 1, 1) := by decide +kernel
theorem d_L_law_125 : decode code 125 = .ok (.iadd, 1) := by decide +kernel
theorem d_L_law_126 : decode code 126 = .ok (.iaload, 1) := by decide +kernel
theorem d_L_law_127 : decode code 127 = .ok (.aload_n 0, 1) := by decide +kernel
theorem d_L_law_128 : decode code 128 = .ok (.iload 4, 2) := by decide +kernel
theorem d_L_law_130 : decode code 130 = .ok (.iconst 2, 1) := by decide +kernel
theorem d_L_law_131 : decode code 131 = .ok (.iadd, 1) := by decide +kernel
theorem d_L_law_132 : decode code 132 = .ok (.iaload, 1) := by decide +kernel
theorem d_L_law_133 : decode code 133 = .ok (.aload_n 0, 1) := by decide +kernel
theorem d_L_law_134 : decode code 134 = .ok (.iload 4, 2) := by decide +kernel
theorem d_L_law_136 : decode code 136 = .ok (.iconst 3, 1) := by decide +kernel
theorem d_L_law_137 : decode code 137 = .ok (.iadd, 1) := by decide +kernel
theorem d_L_law_138 : decode code 138 = .ok (.iaload, 1) := by decide +kernel
theorem d_L_law_139 : decode code 139 = .ok (.aload_n 0, 1) := by decide +kernel
theorem d_L_law_140 : decode code 140 = .ok (.iload 4, 2) := by decide +kernel
theorem d_L_law_142 : decode code 142 = .ok (.iconst 4, 1) := by decide +kernel
theorem d_L_law_143 : decode code 143 = .ok (.iadd, 1) := by decide +kernel
theorem d_L_law_144 : decode code 144 = .ok (.iaload, 1) := by decide +kernel
theorem d_L_law_145 : decode code 145 = .ok (.invokevirtual 25, 3) := by decide +kernel
theorem d_L_law_148 : decode code 148 = .ok (.aload_n 2, 1) := by decide +kernel
theorem d_L_law_149 : decode code 149 = .ok (.aload_n 0, 1) := by decide +kernel
theorem d_L_law_150 : decode code 150 = .ok (.iload 4, 2) := by decide +kernel
theorem d_L_law_152 : decode code 152 = .ok (.iconst 1, 1) := by decide +kernel
theorem d_L_law_153 : decode code 153 = .ok (.iadd, 1) := by decide +kernel
theorem d_L_law_154 : decode code 154 = .ok (.iaload, 1) := by decide +kernel
theorem d_L_law_155 : decode code 155 = .ok (.aload_n 0, 1) := by decide +kernel
theorem d_L_law_156 : decode code 156 = .ok (.iload 4, 2) := by decide +kernel
theorem d_L_law_158 : decode code 158 = .ok (.iconst 2, 1) := by decide +kernel
theorem d_L_law_159 : decode code 159 = .ok (.iadd, 1) := by decide +kernel
theorem d_L_law_160 : decode code 160 = .ok (.iaload, 1) := by decide +kernel
theorem d_L_law_161 : decode code 161 = .ok (.aload_n 0, 1) := by decide +kernel
theorem d_L_law_162 : decode code 162 = .ok (.iload 4, 2) := by decide +kernel
theorem d_L_law_164 : decode code 164 = .ok (.iconst 3, 1) := by decide +kernel
theorem d_L_law_165 : decode code 165 = .ok (.iadd, 1) := by decide +kernel
theorem d_L_law_166 : decode code 166 = .ok (.iaload, 1) := by decide +kernel
theorem d_L_law_167 : decode code 167 = .ok (.aload_n 0, 1) := by decide +kernel
theorem d_L_law_168 : decode code 168 = .ok (.iload 4, 2) := by decide +kernel
theorem d_L_law_170 : decode code 170 = .ok (.iconst 4, 1) := by decide +kernel
theorem d_L_law_171 : decode code 171 = .ok (.iadd, 1) := by decide +kernel
theorem d_L_law_172 : decode code 172 = .ok (.iaload, 1) := by decide +kernel
theorem d_L_law_173 : decode code 173 = .ok (.invokevirtual 29, 3) := by decide +kernel
theorem d_L_law_176 : decode code 176 = .ok (.if_icmp .eq 690, 3) := by decide +kernel
theorem d_L_law_179 : decode code 179 = .ok (.iconst 0, 1) := by decide +kernel
theorem d_L_law_180 : decode code 180 = .ok (.ireturn, 1) := by decide +kernel
theorem d_L_law_181 : decode code 181 = .ok (.aload_n 1, 1) := by decide +kernel
theorem d_L_law_182 : decode code 182 = .ok (.aload_n 0, 1) := by decide +kernel
theorem d_L_law_183 : decode code 183 = .ok (.iload 4, 2) := by decide +kernel
theorem d_L_law_185 : decode code 185 = .ok (.iconst 1, 1) := by decide +kernel
theorem d_L_law_186 : decode code 186 = .ok (.iadd, 1) := by decide +kernel
theorem d_L_law_187 : decode code 187 = .ok (.iaload, 1) := by decide +kernel
theorem d_L_law_188 : decode code 188 = .ok (.aload_n 0, 1) := by decide +kernel
theorem d_L_law_189 : decode code 189 = .ok (.iload 4, 2) := by decide +kernel
theorem d_L_law_191 : decode code 191 = .ok (.iconst 2, 1) := by decide +kernel
theorem d_L_law_192 : decode code 192 = .ok (.iadd, 1) := by decide +kernel
theorem d_L_law_193 : decode code 193 = .ok (.iaload, 1) := by decide +kernel
theorem d_L_law_194 : decode code 194 = .ok (.aload_n 0, 1) := by decide +kernel
theorem d_L_law_195 : decode code 195 = .ok (.iload 4, 2) := by decide +kernel
theorem d_L_law_197 : decode code 197 = .ok (.iconst 3, 1) := by decide +kernel
theorem d_L_law_198 : decode code 198 = .ok (.iadd, 1) := by decide +kernel
theorem d_L_law_199 : decode code 199 = .ok (.iaload, 1) := by decide +kernel
theorem d_L_law_200 : decode code 200 = .ok (.invokevirtual 30, 3) := by decide +kernel
theorem d_L_law_203 : decode code 203 = .ok (.aload_n 2, 1) := by decide +kernel
theorem d_L_law_204 : decode code 204 = .ok (.aload_n 0, 1) := by decide +kernel
theorem d_L_law_205 : decode code 205 = .ok (.iload 4, 2) := by decide +kernel
theorem d_L_law_207 : decode code 207 = .ok (.iconst 1, 1) := by decide +kernel
theorem d_L_law_208 : decode code 208 = .ok (.iadd, 1) := by decide +kernel
theorem d_L_law_209 : decode code 209 = .ok (.iaload, 1) := by decide +kernel
theorem d_L_law_210 : decode code 210 = .ok (.aload_n 0, 1) := by decide +kernel
theorem d_L_law_211 : decode code 211 = .ok (.iload 4, 2) := by decide +kernel
theorem d_L_law_213 : decode code 213 = .ok (.iconst 2, 1) := by decide +kernel
theorem d_L_law_214 : decode code 214 = .ok (.iadd, 1) := by decide +kernel
theorem d_L_law_215 : decode code 215 = .ok (.iaload, 1) := by decide +kernel
theorem d_L_law_216 : decode code 216 = .ok (.aload_n 0, 1) := by decide +kernel
theorem d_L_law_217 : decode code 217 = .ok (.iload 4, 2) := by decide +kernel
theorem d_L_law_219 : decode code 219 = .ok (.iconst 3, 1) := by decide +kernel
theorem d_L_law_220 : decode code 220 = .ok (.iadd, 1) := by decide +kernel
theorem d_L_law_221 : decode code 221 = .ok (.iaload, 1) := by decide +kernel
theorem d_L_law_222 : decode code 222 = .ok (.invokevirtual 34, 3) := by decide +kernel
theorem d_L_law_225 : decode code 225 = .ok (.if_icmp .eq 641, 3) := by decide +kernel
theorem d_L_law_228 : decode code 228 = .ok (.iconst 0, 1) := by decide +kernel
theorem d_L_law_229 : decode code 229 = .ok (.ireturn, 1) := by decide +kernel
theorem d_L_law_230 : decode code 230 = .ok (.aload_n 1, 1) := by decide +kernel
theorem d_L_law_231 : decode code 231 = .ok (.aload_n 0, 1) := by decide +kernel
theorem d_L_law_232 : decode code 232 = .ok (.iload 4, 2) := by decide +kernel
theorem d_L_law_234 : decode code 234 = .ok (.iconst 1, 1) := by decide +kernel
theorem d_L_law_235 : decode code 235 = .ok (.iadd, 1) := by decide +kernel
theorem d_L_law_236 : decode code 236 = .ok (.iaload, 1) := by decide +kernel
theorem d_L_law_237 : decode code 237 = .ok (.aload_n 0, 1) := by decide +kernel
theorem d_L_law_238 : decode code 238 = .ok (.iload 4, 2) := by decide +kernel
theorem d_L_law_240 : decode code 240 = .ok (.iconst 2, 1) := by decide +kernel
theorem d_L_law_241 : decode code 241 = .ok (.iadd, 1) := by decide +kernel
theorem d_L_law_242 : decode code 242 = .ok (.iaload, 1) := by decide +kernel
theorem d_L_law_243 : decode code 243 = .ok (.aload_n 0, 1) := by decide +kernel
theorem d_L_law_244 : decode code 244 = .ok (.iload 4, 2) := by decide +kernel
theorem d_L_law_246 : decode code 246 = .ok (.iconst 3, 1) := by decide +kernel
theorem d_L_law_247 : decode code 247 = .ok (.iadd, 1) := by decide +kernel
theorem d_L_law_248 : decode code 248 = .ok (.iaload, 1) := by decide +kernel
theorem d_L_law_249 : decode code 249 = .ok (.invokevirtual 35, 3) := by decide +kernel
theorem d_L_law_252 : decode code 252 = .ok (.aload_n 2, 1) := by decide +kernel
theorem d_L_law_253 : decode code 253 = .ok (.aload_n 0, 1) := by decide +kernel
theorem d_L_law_254 : decode code 254 = .ok (.iload 4, 2) := by decide +kernel
theorem d_L_law_256 : decode code 256 = .ok (.iconst 1, 1) := by decide +kernel
theorem d_L_law_257 : decode code 257 = .ok (.iadd, 1) := by decide +kernel
theorem d_L_law_258 : decode code 258 = .ok (.iaload, 1) := by decide +kernel
theorem d_L_law_259 : decode code 259 = .ok (.aload_n 0, 1) := by decide +kernel
theorem d_L_law_260 : decode code 260 = .ok (.iload 4, 2) := by decide +kernel
theorem d_L_law_262 : decode code 262 = .ok (.iconst 2, 1) := by decide +kernel
theorem d_L_law_263 : decode code 263 = .ok (.iadd, 1) := by decide +kernel
theorem d_L_law_264 : decode code 264 = .ok (.iaload, 1) := by decide +kernel
theorem d_L_law_265 : decode code 265 = .ok (.aload_n 0, 1) := by decide +kernel
theorem d_L_law_266 : decode code 266 = .ok (.iload 4, 2) := by decide +kernel
theorem d_L_law_268 : decode code 268 = .ok (.iconst 3, 1) := by decide +kernel
theorem d_L_law_269 : decode code 269 = .ok (.iadd, 1) := by decide +kernel
theorem d_L_law_270 : decode code 270 = .ok (.iaload, 1) := by decide +kernel
theorem d_L_law_271 : decode code 271 = .ok (.invokevirtual 38, 3) := by decide +kernel
theorem d_L_law_274 : decode code 274 = .ok (.if_icmp .eq 592, 3) := by decide +kernel
theorem d_L_law_277 : decode code 277 = .ok (.iconst 0, 1) := by decide +kernel
theorem d_L_law_278 : decode code 278 = .ok (.ireturn, 1) := by decide +kernel
theorem d_L_law_279 : decode code 279 = .ok (.aload_n 1, 1) := by decide +kernel
theorem d_L_law_280 : decode code 280 = .ok (.aload_n 0, 1) := by decide +kernel
theorem d_L_law_281 : decode code 281 = .ok (.iload 4, 2) := by decide +kernel
theorem d_L_law_283 : decode code 283 = .ok (.iconst 1, 1) := by decide +kernel
theorem d_L_law_284 : decode code 284 = .ok (.iadd, 1) := by decide +kernel
theorem d_L_law_285 : decode code 285 = .ok (.iaload, 1) := by decide +kernel
theorem d_L_law_286 : decode code 286 = .ok (.invokevirtual 39, 3) := by decide +kernel
theorem d_L_law_289 : decode code 289 = .ok (.aload_n 2, 1) := by decide +kernel
theorem d_L_law_290 : decode code 290 = .ok (.aload_n 0, 1) := by decide +kernel
theorem d_L_law_291 : decode code 291 = .ok (.iload 4, 2) := by decide +kernel
theorem d_L_law_293 : decode code 293 = .ok (.iconst 1, 1) := by decide +kernel
theorem d_L_law_294 : decode code 294 = .ok (.iadd, 1) := by decide +kernel
theorem d_L_law_295 : decode code 295 = .ok (.iaload, 1) := by decide +kernel
theorem d_L_law_296 : decode code 296 = .ok (.invokevirtual 43, 3) := by decide +kernel
theorem d_L_law_299 : decode code 299 = .ok (.if_icmp .eq 567, 3) := by decide +kernel
theorem d_L_law_302 : decode code 302 = .ok (.iconst 0, 1) := by decide +kernel
theorem d_L_law_303 : decode code 303 = .ok (.ireturn, 1) := by decide +kernel
theorem d_L_law_304 : decode code 304 = .ok (.aload_n 1, 1) := by decide +kernel
theorem d_L_law_305 : decode code 305 = .ok (.aload_n 0, 1) := by decide +kernel
theorem d_L_law_306 : decode code 306 = .ok (.iload 4, 2) := by decide +kernel
theorem d_L_law_308 : decode code 308 = .ok (.iconst 1, 1) := by decide +kernel
theorem d_L_law_309 : decode code 309 = .ok (.iadd, 1) := by decide +kernel
theorem d_L_law_310 : decode code 310 = .ok (.iaload, 1) := by decide +kernel
theorem d_L_law_311 : decode code 311 = .ok (.aload_n 0, 1) := by decide +kernel
theorem d_L_law_312 : decode code 312 = .ok (.iload 4, 2) := by decide +kernel
theorem d_L_law_314 : decode code 314 = .ok (.iconst 2, 1) := by decide +kernel
theorem d_L_law_315 : decode code 315 = .ok (.iadd, 1) := by decide +kernel
theorem d_L_law_316 : decode code 316 = .ok (.iaload, 1) := by decide +kernel
theorem d_L_law_317 : decode code 317 = .ok (.aload_n 3, 1) := by decide +kernel
theorem d_L_law_318 : decode code 318 = .ok (.invokestatic 44, 3) := by decide +kernel
theorem d_L_law_321 : decode code 321 = .ok (.istore 5, 2) := by decide +kernel
theorem d_L_law_323 : decode code 323 = .ok (.aload_n 2, 1) := by decide +kernel
theorem d_L_law_324 : decode code 324 = .ok (.aload_n 0, 1) := by decide +kernel
theorem d_L_law_325 : decode code 325 = .ok (.iload 4, 2) := by decide +kernel
theorem d_L_law_327 : decode code 327 = .ok (.iconst 1, 1) := by decide +kernel
theorem d_L_law_328 : decode code 328 = .ok (.iadd, 1) := by decide +kernel
theorem d_L_law_329 : decode code 329 = .ok (.iaload, 1) := by decide +kernel
theorem d_L_law_330 : decode code 330 = .ok (.aload_n 0, 1) := by decide +kernel
theorem d_L_law_331 : decode code 331 = .ok (.iload 4, 2) := by decide +kernel
theorem d_L_law_333 : decode code 333 = .ok (.iconst 2, 1) := by decide +kernel
theorem d_L_law_334 : decode code 334 = .ok (.iadd, 1) := by decide +kernel
theorem d_L_law_335 : decode code 335 = .ok (.iaload, 1) := by decide +kernel
theorem d_L_law_336 : decode code 336 = .ok (.invokevirtual 49, 3) := by decide +kernel
theorem d_L_law_339 : decode code 339 = .ok (.istore 6, 2) := by decide +kernel
theorem d_L_law_341 : decode code 341 = .ok (.aload_n 2, 1) := by decide +kernel
theorem d_L_law_342 : decode code 342 = .ok (.invokevirtual 50, 3) := by decide +kernel
theorem d_L_law_345 : decode code 345 = .ok (.iload 5, 2) := by decide +kernel
theorem d_L_law_347 : decode code 347 = .ok (.if_icmp .eq 5, 3) := by decide +kernel
theorem d_L_law_350 : decode code 350 = .ok (.iconst 0, 1) := by decide +kernel
theorem d_L_law_351 : decode code 351 = .ok (.ireturn, 1) := by decide +kernel
theorem d_L_law_352 : decode code 352 = .ok (.iload 5, 2) := by decide +kernel
theorem d_L_law_354 : decode code 354 = .ok (.ifCond .ne 15, 3) := by decide +kernel
theorem d_L_law_357 : decode code 357 = .ok (.aload_n 3, 1) := by decide +kernel
theorem d_L_law_358 : decode code 358 = .ok (.iconst 0, 1) := by decide +kernel
theorem d_L_law_359 : decode code 359 = .ok (.laload, 1) := by decide +kernel
theorem d_L_law_360 : decode code 360 = .ok (.iload 6, 2) := by decide +kernel
theorem d_L_law_362 : decode code 362 = .ok (.i2l, 1) := by decide +kernel
theorem d_L_law_363 : decode code 363 = .ok (.lcmp, 1) := by decide +kernel
theorem d_L_law_364 : decode code 364 = .ok (.ifCond .eq 5, 3) := by decide +kernel
theorem d_L_law_367 : decode code 367 = .ok (.iconst 0, 1) := by decide +kernel
theorem d_L_law_368 : decode code 368 = .ok (.ireturn, 1) := by decide +kernel
theorem d_L_law_369 : decode code 369 = .ok (.goto 497, 3) := by decide +kernel
theorem d_L_law_372 : decode code 372 = .ok (.aload_n 1, 1) := by decide +kernel
theorem d_L_law_373 : decode code 373 = .ok (.aload_n 0, 1) := by decide +kernel
theorem d_L_law_374 : decode code 374 = .ok (.iload 4, 2) := by decide +kernel
theorem d_L_law_376 : decode code 376 = .ok (.iconst 1, 1) := by decide +kernel
theorem d_L_law_377 : decode code 377 = .ok (.iadd, 1) := by decide +kernel
theorem d_L_law_378 : decode code 378 = .ok (.iaload, 1) := by decide +kernel
theorem d_L_law_379 : decode code 379 = .ok (.aload_n 0, 1) := by decide +kernel
theorem d_L_law_380 : decode code 380 = .ok (.iload 4, 2) := by decide +kernel
theorem d_L_law_382 : decode code 382 = .ok (.iconst 2, 1) := by decide +kernel
theorem d_L_law_383 : decode code 383 = .ok (.iadd, 1) := by decide +kernel
theorem d_L_law_384 : decode code 384 = .ok (.iaload, 1) := by decide +kernel
theorem d_L_law_385 : decode code 385 = .ok (.aload_n 0, 1) := by decide +kernel
theorem d_L_law_386 : decode code 386 = .ok (.iload 4, 2) := by decide +kernel
theorem d_L_law_388 : decode code 388 = .ok (.iconst 3, 1) := by decide +kernel
theorem d_L_law_389 : decode code 389 = .ok (.iadd, 1) := by decide +kernel
theorem d_L_law_390 : decode code 390 = .ok (.iaload, 1) := by decide +kernel
theorem d_L_law_391 : decode code 391 = .ok (.invokevirtual 54, 3) := by decide +kernel
theorem d_L_law_394 : decode code 394 = .ok (.aload_n 2, 1) := by decide +kernel
theorem d_L_law_395 : decode code 395 = .ok (.aload_n 0, 1) := by decide +kernel
theorem d_L_law_396 : decode code 396 = .ok (.iload 4, 2) := by decide +kernel
theorem d_L_law_398 : decode code 398 = .ok (.iconst 1, 1) := by decide +kernel
theorem d_L_law_399 : decode code 399 = .ok (.iadd, 1) := by decide +kernel
theorem d_L_law_400 : decode code 400 = .ok (.iaload, 1) := by decide +kernel
theorem d_L_law_401 : decode code 401 = .ok (.aload_n 0, 1) := by decide +kernel
theorem d_L_law_402 : decode code 402 = .ok (.iload 4, 2) := by decide +kernel
theorem d_L_law_404 : decode code 404 = .ok (.iconst 2, 1) := by decide +kernel
theorem d_L_law_405 : decode code 405 = .ok (.iadd, 1) := by decide +kernel
theorem d_L_law_406 : decode code 406 = .ok (.iaload, 1) := by decide +kernel
theorem d_L_law_407 : decode code 407 = .ok (.aload_n 0, 1) := by decide +kernel
theorem d_L_law_408 : decode code 408 = .ok (.iload 4, 2) := by decide +kernel
theorem d_L_law_410 : decode code 410 = .ok (.iconst 3, 1) := by decide +kernel
theorem d_L_law_411 : decode code 411 = .ok (.iadd, 1) := by decide +kernel
theorem d_L_law_412 : decode code 412 = .ok (.iaload, 1) := by decide +kernel
theorem d_L_law_413 : decode code 413 = .ok (.invokevirtual 57, 3) := by decide +kernel
theorem d_L_law_416 : decode code 416 = .ok (.if_icmp .eq 450, 3) := by decide +kernel
theorem d_L_law_419 : decode code 419 = .ok (.iconst 0, 1) := by decide +kernel
theorem d_L_law_420 : decode code 420 = .ok (.ireturn, 1) := by decide +kernel
theorem d_L_law_421 : decode code 421 = .ok (.aload_n 1, 1) := by decide +kernel
theorem d_L_law_422 : decode code 422 = .ok (.aload_n 0, 1) := by decide +kernel
theorem d_L_law_423 : decode code 423 = .ok (.iload 4, 2) := by decide +kernel
theorem d_L_law_425 : decode code 425 = .ok (.iconst 1, 1) := by decide +kernel
theorem d_L_law_426 : decode code 426 = .ok (.iadd, 1) := by decide +kernel
theorem d_L_law_427 : decode code 427 = .ok (.iaload, 1) := by decide +kernel
theorem d_L_law_428 : decode code 428 = .ok (.aload_n 0, 1) := by decide +kernel
theorem d_L_law_429 : decode code 429 = .ok (.iload 4, 2) := by decide +kernel
theorem d_L_law_431 : decode code 431 = .ok (.iconst 2, 1) := by decide +kernel
theorem d_L_law_432 : decode code 432 = .ok (.iadd, 1) := by decide +kernel
theorem d_L_law_433 : decode code 433 = .ok (.iaload, 1) := by decide +kernel
theorem d_L_law_434 : decode code 434 = .ok (.invokevirtual 58, 3) := by decide +kernel
theorem d_L_law_437 : decode code 437 = .ok (.aload_n 2, 1) := by decide +kernel
theorem d_L_law_438 : decode code 438 = .ok (.aload_n 0, 1) := by decide +kernel
theorem d_L_law_439 : decode code 439 = .ok (.iload 4, 2) := by decide +kernel
theorem d_L_law_441 : decode code 441 = .ok (.iconst 1, 1) := by decide +kernel
theorem d_L_law_442 : decode code 442 = .ok (.iadd, 1) := by decide +kernel
theorem d_L_law_443 : decode code 443 = .ok (.iaload, 1) := by decide +kernel
theorem d_L_law_444 : decode code 444 = .ok (.aload_n 0, 1) := by decide +kernel
theorem d_L_law_445 : decode code 445 = .ok (.iload 4, 2) := by decide +kernel
theorem d_L_law_447 : decode code 447 = .ok (.iconst 2, 1) := by decide +kernel
theorem d_L_law_448 : decode code 448 = .ok (.iadd, 1) := by decide +kernel
theorem d_L_law_449 : decode code 449 = .ok (.iaload, 1) := by decide +kernel
theorem d_L_law_450 : decode code 450 = .ok (.invokevirtual 61, 3) := by decide +kernel
theorem d_L_law_453 : decode code 453 = .ok (.if_icmp .eq 413, 3) := by decide +kernel
theorem d_L_law_456 : decode code 456 = .ok (.iconst 0, 1) := by decide +kernel
theorem d_L_law_457 : decode code 457 = .ok (.ireturn, 1) := by decide +kernel
theorem d_L_law_458 : decode code 458 = .ok (.aload_n 1, 1) := by decide +kernel
theorem d_L_law_459 : decode code 459 = .ok (.aload_n 0, 1) := by decide +kernel
theorem d_L_law_460 : decode code 460 = .ok (.iload 4, 2) := by decide +kernel
theorem d_L_law_462 : decode code 462 = .ok (.iconst 1, 1) := by decide +kernel
theorem d_L_law_463 : decode code 463 = .ok (.iadd, 1) := by decide +kernel
theorem d_L_law_464 : decode code 464 = .ok (.iaload, 1) := by decide +kernel
theorem d_L_law_465 : decode code 465 = .ok (.aload_n 0, 1) := by decide +kernel
theorem d_L_law_466 : decode code 466 = .ok (.iload 4, 2) := by decide +kernel
theorem d_L_law_468 : decode code 468 = .ok (.iconst 2, 1) := by decide +kernel
theorem d_L_law_469 : decode code 469 = .ok (.iadd, 1) := by decide +kernel
theorem d_L_law_470 : decode code 470 = .ok (.iaload, 1) := by decide +kernel
theorem d_L_law_471 : decode code 471 = .ok (.invokevirtual 62, 3) := by decide +kernel
theorem d_L_law_474 : decode code 474 = .ok (.aload_n 2, 1) := by decide +kernel
theorem d_L_law_475 : decode code 475 = .ok (.aload_n 0, 1) := by decide +kernel
theorem d_L_law_476 : decode code 476 = .ok (.iload 4, 2) := by decide +kernel
theorem d_L_law_478 : decode code 478 = .ok (.iconst 1, 1) := by decide +kernel
theorem d_L_law_479 : decode code 479 = .ok (.iadd, 1) := by decide +kernel
theorem d_L_law_480 : decode code 480 = .ok (.iaload, 1) := by decide +kernel
theorem d_L_law_481 : decode code 481 = .ok (.aload_n 0, 1) := by decide +kernel
theorem d_L_law_482 : decode code 482 = .ok (.iload 4, 2) := by decide +kernel
theorem d_L_law_484 : decode code 484 = .ok (.iconst 2, 1) := by decide +kernel
theorem d_L_law_485 : decode code 485 = .ok (.iadd, 1) := by decide +kernel
theorem d_L_law_486 : decode code 486 = .ok (.iaload, 1) := by decide +kernel
theorem d_L_law_487 : decode code 487 = .ok (.invokevirtual 65, 3) := by decide +kernel
theorem d_L_law_490 : decode code 490 = .ok (.if_icmp .eq 376, 3) := by decide +kernel
theorem d_L_law_493 : decode code 493 = .ok (.iconst 0, 1) := by decide +kernel
theorem d_L_law_494 : decode code 494 = .ok (.ireturn, 1) := by decide +kernel
theorem d_L_law_495 : decode code 495 = .ok (.aload_n 1, 1) := by decide +kernel
theorem d_L_law_496 : decode code 496 = .ok (.aload_n 0, 1) := by decide +kernel
theorem d_L_law_497 : decode code 497 = .ok (.iload 4, 2) := by decide +kernel
theorem d_L_law_499 : decode code 499 = .ok (.iconst 1, 1) := by decide +kernel
theorem d_L_law_500 : decode code 500 = .ok (.iadd, 1) := by decide +kernel
theorem d_L_law_501 : decode code 501 = .ok (.iaload, 1) := by decide +kernel
theorem d_L_law_502 : decode code 502 = .ok (.aload_n 0, 1) := by decide +kernel
theorem d_L_law_503 : decode code 503 = .ok (.iload 4, 2) := by decide +kernel
theorem d_L_law_505 : decode code 505 = .ok (.iconst 2, 1) := by decide +kernel
theorem d_L_law_506 : decode code 506 = .ok (.iadd, 1) := by decide +kernel
theorem d_L_law_507 : decode code 507 = .ok (.iaload, 1) := by decide +kernel
theorem d_L_law_508 : decode code 508 = .ok (.invokevirtual 66, 3) := by decide +kernel
theorem d_L_law_511 : decode code 511 = .ok (.aload_n 2, 1) := by decide +kernel
theorem d_L_law_512 : decode code 512 = .ok (.aload_n 0, 1) := by decide +kernel
theorem d_L_law_513 : decode code 513 = .ok (.iload 4, 2) := by decide +kernel
theorem d_L_law_515 : decode code 515 = .ok (.iconst 1, 1) := by decide +kernel
theorem d_L_law_516 : decode code 516 = .ok (.iadd, 1) := by decide +kernel
theorem d_L_law_517 : decode code 517 = .ok (.iaload, 1) := by decide +kernel
theorem d_L_law_518 : decode code 518 = .ok (.aload_n 0, 1) := by decide +kernel
theorem d_L_law_519 : decode code 519 = .ok (.iload 4, 2) := by decide +kernel
theorem d_L_law_521 : decode code 521 = .ok (.iconst 2, 1) := by decide +kernel
theorem d_L_law_522 : decode code 522 = .ok (.iadd, 1) := by decide +kernel
theorem d_L_law_523 : decode code 523 = .ok (.iaload, 1) := by decide +kernel
theorem d_L_law_524 : decode code 524 = .ok (.invokevirtual 69, 3) := by decide +kernel
theorem d_L_law_527 : decode code 527 = .ok (.if_icmp .eq 339, 3) := by decide +kernel
theorem d_L_law_530 : decode code 530 = .ok (.iconst 0, 1) := by decide +kernel
theorem d_L_law_531 : decode code 531 = .ok (.ireturn, 1) := by decide +kernel
theorem d_L_law_532 : decode code 532 = .ok (.aload_n 1, 1) := by decide +kernel
theorem d_L_law_533 : decode code 533 = .ok (.aload_n 0, 1) := by decide +kernel
theorem d_L_law_534 : decode code 534 = .ok (.iload 4, 2) := by decide +kernel
theorem d_L_law_536 : decode code 536 = .ok (.iconst 1, 1) := by decide +kernel
theorem d_L_law_537 : decode code 537 = .ok (.iadd, 1) := by decide +kernel
theorem d_L_law_538 : decode code 538 = .ok (.iaload, 1) := by decide +kernel
theorem d_L_law_539 : decode code 539 = .ok (.aload_n 0, 1) := by decide +kernel
theorem d_L_law_540 : decode code 540 = .ok (.iload 4, 2) := by decide +kernel
theorem d_L_law_542 : decode code 542 = .ok (.iconst 2, 1) := by decide +kernel
theorem d_L_law_543 : decode code 543 = .ok (.iadd, 1) := by decide +kernel
theorem d_L_law_544 : decode code 544 = .ok (.iaload, 1) := by decide +kernel
theorem d_L_law_545 : decode code 545 = .ok (.invokevirtual 70, 3) := by decide +kernel
theorem d_L_law_548 : decode code 548 = .ok (.aload_n 2, 1) := by decide +kernel
theorem d_L_law_549 : decode code 549 = .ok (.aload_n 0, 1) := by decide +kernel
theorem d_L_law_550 : decode code 550 = .ok (.iload 4, 2) := by decide +kernel
theorem d_L_law_552 : decode code 552 = .ok (.iconst 1, 1) := by decide +kernel
theorem d_L_law_553 : decode code 553 = .ok (.iadd, 1) := by decide +kernel
theorem d_L_law_554 : decode code 554 = .ok (.iaload, 1) := by decide +kernel
theorem d_L_law_555 : decode code 555 = .ok (.aload_n 0, 1) := by decide +kernel
theorem d_L_law_556 : decode code 556 = .ok (.iload 4, 2) := by decide +kernel
theorem d_L_law_558 : decode code 558 = .ok (.iconst 2, 1) := by decide +kernel
theorem d_L_law_559 : decode code 559 = .ok (.iadd, 1) := by decide +kernel
theorem d_L_law_560 : decode code 560 = .ok (.iaload, 1) := by decide +kernel
theorem d_L_law_561 : decode code 561 = .ok (.invokevirtual 73, 3) := by decide +kernel
end
section
theorem d_L_law_564 : decode code 564 = .ok (.if_icmp .eq 302, 3) := by decide +kernel
theorem d_L_law_567 : decode code 567 = .ok (.iconst 0, 1) := by decide +kernel
theorem d_L_law_568 : decode code 568 = .ok (.ireturn, 1) := by decide +kernel
theorem d_L_law_569 : decode code 569 = .ok (.aload_n 1, 1) := by decide +kernel
theorem d_L_law_570 : decode code 570 = .ok (.aload_n 0, 1) := by decide +kernel
theorem d_L_law_571 : decode code 571 = .ok (.iload 4, 2) := by decide +kernel
theorem d_L_law_573 : decode code 573 = .ok (.iconst 1, 1) := by decide +kernel
theorem d_L_law_574 : decode code 574 = .ok (.iadd, 1) := by decide +kernel
theorem d_L_law_575 : decode code 575 = .ok (.iaload, 1) := by decide +kernel
theorem d_L_law_576 : decode code 576 = .ok (.aload_n 0, 1) := by decide +kernel
theorem d_L_law_577 : decode code 577 = .ok (.iload 4, 2) := by decide +kernel
theorem d_L_law_579 : decode code 579 = .ok (.iconst 2, 1) := by decide +kernel
theorem d_L_law_580 : decode code 580 = .ok (.iadd, 1) := by decide +kernel
theorem d_L_law_581 : decode code 581 = .ok (.iaload, 1) := by decide +kernel
theorem d_L_law_582 : decode code 582 = .ok (.aload_n 3, 1) := by decide +kernel
theorem d_L_law_583 : decode code 583 = .ok (.invokestatic 74, 3) := by decide +kernel
theorem d_L_law_586 : decode code 586 = .ok (.istore 5, 2) := by decide +kernel
theorem d_L_law_588 : decode code 588 = .ok (.aload_n 2, 1) := by decide +kernel
theorem d_L_law_589 : decode code 589 = .ok (.aload_n 0, 1) := by decide +kernel
theorem d_L_law_590 : decode code 590 = .ok (.iload 4, 2) := by decide +kernel
theorem d_L_law_592 : decode code 592 = .ok (.iconst 1, 1) := by decide +kernel
theorem d_L_law_593 : decode code 593 = .ok (.iadd, 1) := by decide +kernel
theorem d_L_law_594 : decode code 594 = .ok (.iaload, 1) := by decide +kernel
theorem d_L_law_595 : decode code 595 = .ok (.aload_n 0, 1) := by decide +kernel
theorem d_L_law_596 : decode code 596 = .ok (.iload 4, 2) := by decide +kernel
theorem d_L_law_598 : decode code 598 = .ok (.iconst 2, 1) := by decide +kernel
theorem d_L_law_599 : decode code 599 = .ok (.iadd, 1) := by decide +kernel
theorem d_L_law_600 : decode code 600 = .ok (.iaload, 1) := by decide +kernel
theorem d_L_law_601 : decode code 601 = .ok (.invokevirtual 76, 3) := by decide +kernel
theorem d_L_law_604 : decode code 604 = .ok (.istore 6, 2) := by decide +kernel
theorem d_L_law_606 : decode code 606 = .ok (.aload_n 2, 1) := by decide +kernel
theorem d_L_law_607 : decode code 607 = .ok (.invokevirtual 50, 3) := by decide +kernel
theorem d_L_law_610 : decode code 610 = .ok (.iload 5, 2) := by decide +kernel
theorem d_L_law_612 : decode code 612 = .ok (.if_icmp .eq 5, 3) := by decide +kernel
theorem d_L_law_615 : decode code 615 = .ok (.iconst 0, 1) := by decide +kernel
theorem d_L_law_616 : decode code 616 = .ok (.ireturn, 1) := by decide +kernel
theorem d_L_law_617 : decode code 617 = .ok (.iload 5, 2) := by decide +kernel
theorem d_L_law_619 : decode code 619 = .ok (.ifCond .ne 15, 3) := by decide +kernel
theorem d_L_law_622 : decode code 622 = .ok (.aload_n 3, 1) := by decide +kernel
theorem d_L_law_623 : decode code 623 = .ok (.iconst 0, 1) := by decide +kernel
theorem d_L_law_624 : decode code 624 = .ok (.laload, 1) := by decide +kernel
theorem d_L_law_625 : decode code 625 = .ok (.iload 6, 2) := by decide +kernel
theorem d_L_law_627 : decode code 627 = .ok (.i2l, 1) := by decide +kernel
theorem d_L_law_628 : decode code 628 = .ok (.lcmp, 1) := by decide +kernel
theorem d_L_law_629 : decode code 629 = .ok (.ifCond .eq 5, 3) := by decide +kernel
theorem d_L_law_632 : decode code 632 = .ok (.iconst 0, 1) := by decide +kernel
theorem d_L_law_633 : decode code 633 = .ok (.ireturn, 1) := by decide +kernel
theorem d_L_law_634 : decode code 634 = .ok (.goto 232, 3) := by decide +kernel
theorem d_L_law_637 : decode code 637 = .ok (.aload_n 1, 1) := by decide +kernel
theorem d_L_law_638 : decode code 638 = .ok (.aload_n 0, 1) := by decide +kernel
theorem d_L_law_639 : decode code 639 = .ok (.iload 4, 2) := by decide +kernel
theorem d_L_law_641 : decode code 641 = .ok (.iconst 1, 1) := by decide +kernel
theorem d_L_law_642 : decode code 642 = .ok (.iadd, 1) := by decide +kernel
theorem d_L_law_643 : decode code 643 = .ok (.iaload, 1) := by decide +kernel
theorem d_L_law_644 : decode code 644 = .ok (.invokevirtual 77, 3) := by decide +kernel
theorem d_L_law_647 : decode code 647 = .ok (.aload_n 2, 1) := by decide +kernel
theorem d_L_law_648 : decode code 648 = .ok (.aload_n 0, 1) := by decide +kernel
theorem d_L_law_649 : decode code 649 = .ok (.iload 4, 2) := by decide +kernel
theorem d_L_law_651 : decode code 651 = .ok (.iconst 1, 1) := by decide +kernel
theorem d_L_law_652 : decode code 652 = .ok (.iadd, 1) := by decide +kernel
theorem d_L_law_653 : decode code 653 = .ok (.iaload, 1) := by decide +kernel
theorem d_L_law_654 : decode code 654 = .ok (.invokevirtual 80, 3) := by decide +kernel
theorem d_L_law_657 : decode code 657 = .ok (.if_icmp .eq 209, 3) := by decide +kernel
theorem d_L_law_660 : decode code 660 = .ok (.iconst 0, 1) := by decide +kernel
theorem d_L_law_661 : decode code 661 = .ok (.ireturn, 1) := by decide +kernel
theorem d_L_law_662 : decode code 662 = .ok (.aload_n 1, 1) := by decide +kernel
theorem d_L_law_663 : decode code 663 = .ok (.aload_n 0, 1) := by decide +kernel
theorem d_L_law_664 : decode code 664 = .ok (.iload 4, 2) := by decide +kernel
theorem d_L_law_666 : decode code 666 = .ok (.iconst 1, 1) := by decide +kernel
theorem d_L_law_667 : decode code 667 = .ok (.iadd, 1) := by decide +kernel
theorem d_L_law_668 : decode code 668 = .ok (.iaload, 1) := by decide +kernel
theorem d_L_law_669 : decode code 669 = .ok (.aload_n 0, 1) := by decide +kernel
theorem d_L_law_670 : decode code 670 = .ok (.iload 4, 2) := by decide +kernel
theorem d_L_law_672 : decode code 672 = .ok (.iconst 2, 1) := by decide +kernel
theorem d_L_law_673 : decode code 673 = .ok (.iadd, 1) := by decide +kernel
theorem d_L_law_674 : decode code 674 = .ok (.iaload, 1) := by decide +kernel
theorem d_L_law_675 : decode code 675 = .ok (.aload_n 3, 1) := by decide +kernel
theorem d_L_law_676 : decode code 676 = .ok (.invokestatic 81, 3) := by decide +kernel
theorem d_L_law_679 : decode code 679 = .ok (.istore 5, 2) := by decide +kernel
theorem d_L_law_681 : decode code 681 = .ok (.aload_n 2, 1) := by decide +kernel
theorem d_L_law_682 : decode code 682 = .ok (.aload_n 0, 1) := by decide +kernel
theorem d_L_law_683 : decode code 683 = .ok (.iload 4, 2) := by decide +kernel
theorem d_L_law_685 : decode code 685 = .ok (.iconst 1, 1) := by decide +kernel
theorem d_L_law_686 : decode code 686 = .ok (.iadd, 1) := by decide +kernel
theorem d_L_law_687 : decode code 687 = .ok (.iaload, 1) := by decide +kernel
theorem d_L_law_688 : decode code 688 = .ok (.aload_n 0, 1) := by decide +kernel
theorem d_L_law_689 : decode code 689 = .ok (.iload 4, 2) := by decide +kernel
theorem d_L_law_691 : decode code 691 = .ok (.iconst 2, 1) := by decide +kernel
theorem d_L_law_692 : decode code 692 = .ok (.iadd, 1) := by decide +kernel
theorem d_L_law_693 : decode code 693 = .ok (.iaload, 1) := by decide +kernel
theorem d_L_law_694 : decode code 694 = .ok (.invokevirtual 83, 3) := by decide +kernel
theorem d_L_law_697 : decode code 697 = .ok (.istore 6, 2) := by decide +kernel
theorem d_L_law_699 : decode code 699 = .ok (.aload_n 2, 1) := by decide +kernel
theorem d_L_law_700 : decode code 700 = .ok (.invokevirtual 50, 3) := by decide +kernel
theorem d_L_law_703 : decode code 703 = .ok (.iload 5, 2) := by decide +kernel
theorem d_L_law_705 : decode code 705 = .ok (.if_icmp .eq 5, 3) := by decide +kernel
theorem d_L_law_708 : decode code 708 = .ok (.iconst 0, 1) := by decide +kernel
theorem d_L_law_709 : decode code 709 = .ok (.ireturn, 1) := by decide +kernel
theorem d_L_law_710 : decode code 710 = .ok (.iload 5, 2) := by decide +kernel
theorem d_L_law_712 : decode code 712 = .ok (.ifCond .ne 15, 3) := by decide +kernel
theorem d_L_law_715 : decode code 715 = .ok (.aload_n 3, 1) := by decide +kernel
theorem d_L_law_716 : decode code 716 = .ok (.iconst 0, 1) := by decide +kernel
theorem d_L_law_717 : decode code 717 = .ok (.laload, 1) := by decide +kernel
theorem d_L_law_718 : decode code 718 = .ok (.iload 6, 2) := by decide +kernel
theorem d_L_law_720 : decode code 720 = .ok (.i2l, 1) := by decide +kernel
theorem d_L_law_721 : decode code 721 = .ok (.lcmp, 1) := by decide +kernel
theorem d_L_law_722 : decode code 722 = .ok (.ifCond .eq 5, 3) := by decide +kernel
theorem d_L_law_725 : decode code 725 = .ok (.iconst 0, 1) := by decide +kernel
theorem d_L_law_726 : decode code 726 = .ok (.ireturn, 1) := by decide +kernel
theorem d_L_law_727 : decode code 727 = .ok (.goto 139, 3) := by decide +kernel
theorem d_L_law_730 : decode code 730 = .ok (.aload_n 1, 1) := by decide +kernel
theorem d_L_law_731 : decode code 731 = .ok (.aload_n 0, 1) := by decide +kernel
theorem d_L_law_732 : decode code 732 = .ok (.iload 4, 2) := by decide +kernel
theorem d_L_law_734 : decode code 734 = .ok (.iconst 1, 1) := by decide +kernel
theorem d_L_law_735 : decode code 735 = .ok (.iadd, 1) := by decide +kernel
theorem d_L_law_736 : decode code 736 = .ok (.iaload, 1) := by decide +kernel
theorem d_L_law_737 : decode code 737 = .ok (.aload_n 0, 1) := by decide +kernel
theorem d_L_law_738 : decode code 738 = .ok (.iload 4, 2) := by decide +kernel
theorem d_L_law_740 : decode code 740 = .ok (.iconst 2, 1) := by decide +kernel
theorem d_L_law_741 : decode code 741 = .ok (.iadd, 1) := by decide +kernel
theorem d_L_law_742 : decode code 742 = .ok (.iaload, 1) := by decide +kernel
theorem d_L_law_743 : decode code 743 = .ok (.invokevirtual 84, 3) := by decide +kernel
theorem d_L_law_746 : decode code 746 = .ok (.aload_n 2, 1) := by decide +kernel
theorem d_L_law_747 : decode code 747 = .ok (.aload_n 0, 1) := by decide +kernel
theorem d_L_law_748 : decode code 748 = .ok (.iload 4, 2) := by decide +kernel
theorem d_L_law_750 : decode code 750 = .ok (.iconst 1, 1) := by decide +kernel
theorem d_L_law_751 : decode code 751 = .ok (.iadd, 1) := by decide +kernel
theorem d_L_law_752 : decode code 752 = .ok (.iaload, 1) := by decide +kernel
theorem d_L_law_753 : decode code 753 = .ok (.aload_n 0, 1) := by decide +kernel
theorem d_L_law_754 : decode code 754 = .ok (.iload 4, 2) := by decide +kernel
theorem d_L_law_756 : decode code 756 = .ok (.iconst 2, 1) := by decide +kernel
theorem d_L_law_757 : decode code 757 = .ok (.iadd, 1) := by decide +kernel
theorem d_L_law_758 : decode code 758 = .ok (.iaload, 1) := by decide +kernel
theorem d_L_law_759 : decode code 759 = .ok (.invokevirtual 87, 3) := by decide +kernel
theorem d_L_law_762 : decode code 762 = .ok (.if_icmp .eq 104, 3) := by decide +kernel
theorem d_L_law_765 : decode code 765 = .ok (.iconst 0, 1) := by decide +kernel
theorem d_L_law_766 : decode code 766 = .ok (.ireturn, 1) := by decide +kernel
theorem d_L_law_767 : decode code 767 = .ok (.aload_n 1, 1) := by decide +kernel
theorem d_L_law_768 : decode code 768 = .ok (.aload_n 0, 1) := by decide +kernel
theorem d_L_law_769 : decode code 769 = .ok (.iload 4, 2) := by decide +kernel
theorem d_L_law_771 : decode code 771 = .ok (.iconst 1, 1) := by decide +kernel
theorem d_L_law_772 : decode code 772 = .ok (.iadd, 1) := by decide +kernel
theorem d_L_law_773 : decode code 773 = .ok (.iaload, 1) := by decide +kernel
theorem d_L_law_774 : decode code 774 = .ok (.aload_n 0, 1) := by decide +kernel
theorem d_L_law_775 : decode code 775 = .ok (.iload 4, 2) := by decide +kernel
theorem d_L_law_777 : decode code 777 = .ok (.iconst 2, 1) := by decide +kernel
theorem d_L_law_778 : decode code 778 = .ok (.iadd, 1) := by decide +kernel
theorem d_L_law_779 : decode code 779 = .ok (.iaload, 1) := by decide +kernel
theorem d_L_law_780 : decode code 780 = .ok (.invokevirtual 88, 3) := by decide +kernel
theorem d_L_law_783 : decode code 783 = .ok (.aload_n 2, 1) := by decide +kernel
theorem d_L_law_784 : decode code 784 = .ok (.aload_n 0, 1) := by decide +kernel
theorem d_L_law_785 : decode code 785 = .ok (.iload 4, 2) := by decide +kernel
theorem d_L_law_787 : decode code 787 = .ok (.iconst 1, 1) := by decide +kernel
theorem d_L_law_788 : decode code 788 = .ok (.iadd, 1) := by decide +kernel
theorem d_L_law_789 : decode code 789 = .ok (.iaload, 1) := by decide +kernel
theorem d_L_law_790 : decode code 790 = .ok (.aload_n 0, 1) := by decide +kernel
theorem d_L_law_791 : decode code 791 = .ok (.iload 4, 2) := by decide +kernel
theorem d_L_law_793 : decode code 793 = .ok (.iconst 2, 1) := by decide +kernel
theorem d_L_law_794 : decode code 794 = .ok (.iadd, 1) := by decide +kernel
theorem d_L_law_795 : decode code 795 = .ok (.iaload, 1) := by decide +kernel
theorem d_L_law_796 : decode code 796 = .ok (.invokevirtual 91, 3) := by decide +kernel
theorem d_L_law_799 : decode code 799 = .ok (.if_icmp .eq 67, 3) := by decide +kernel
theorem d_L_law_802 : decode code 802 = .ok (.iconst 0, 1) := by decide +kernel
theorem d_L_law_803 : decode code 803 = .ok (.ireturn, 1) := by decide +kernel
theorem d_L_law_804 : decode code 804 = .ok (.aload_n 1, 1) := by decide +kernel
theorem d_L_law_805 : decode code 805 = .ok (.aload_n 0, 1) := by decide +kernel
theorem d_L_law_806 : decode code 806 = .ok (.iload 4, 2) := by decide +kernel
theorem d_L_law_808 : decode code 808 = .ok (.iconst 1, 1) := by decide +kernel
theorem d_L_law_809 : decode code 809 = .ok (.iadd, 1) := by decide +kernel
theorem d_L_law_810 : decode code 810 = .ok (.iaload, 1) := by decide +kernel
theorem d_L_law_811 : decode code 811 = .ok (.aload_n 0, 1) := by decide +kernel
theorem d_L_law_812 : decode code 812 = .ok (.iload 4, 2) := by decide +kernel
theorem d_L_law_814 : decode code 814 = .ok (.iconst 2, 1) := by decide +kernel
theorem d_L_law_815 : decode code 815 = .ok (.iadd, 1) := by decide +kernel
theorem d_L_law_816 : decode code 816 = .ok (.iaload, 1) := by decide +kernel
theorem d_L_law_817 : decode code 817 = .ok (.invokevirtual 92, 3) := by decide +kernel
theorem d_L_law_820 : decode code 820 = .ok (.aload_n 2, 1) := by decide +kernel
theorem d_L_law_821 : decode code 821 = .ok (.aload_n 0, 1) := by decide +kernel
theorem d_L_law_822 : decode code 822 = .ok (.iload 4, 2) := by decide +kernel
theorem d_L_law_824 : decode code 824 = .ok (.iconst 1, 1) := by decide +kernel
theorem d_L_law_825 : decode code 825 = .ok (.iadd, 1) := by decide +kernel
theorem d_L_law_826 : decode code 826 = .ok (.iaload, 1) := by decide +kernel
theorem d_L_law_827 : decode code 827 = .ok (.aload_n 0, 1) := by decide +kernel
theorem d_L_law_828 : decode code 828 = .ok (.iload 4, 2) := by decide +kernel
theorem d_L_law_830 : decode code 830 = .ok (.iconst 2, 1) := by decide +kernel
theorem d_L_law_831 : decode code 831 = .ok (.iadd, 1) := by decide +kernel
theorem d_L_law_832 : decode code 832 = .ok (.iaload, 1) := by decide +kernel
theorem d_L_law_833 : decode code 833 = .ok (.invokevirtual 95, 3) := by decide +kernel
theorem d_L_law_836 : decode code 836 = .ok (.if_icmp .eq 30, 3) := by decide +kernel
theorem d_L_law_839 : decode code 839 = .ok (.iconst 0, 1) := by decide +kernel
theorem d_L_law_840 : decode code 840 = .ok (.ireturn, 1) := by decide +kernel
theorem d_L_law_841 : decode code 841 = .ok (.aload_n 1, 1) := by decide +kernel
theorem d_L_law_842 : decode code 842 = .ok (.aload_n 0, 1) := by decide +kernel
theorem d_L_law_843 : decode code 843 = .ok (.iload 4, 2) := by decide +kernel
theorem d_L_law_845 : decode code 845 = .ok (.iconst 1, 1) := by decide +kernel
theorem d_L_law_846 : decode code 846 = .ok (.iadd, 1) := by decide +kernel
theorem d_L_law_847 : decode code 847 = .ok (.iaload, 1) := by decide +kernel
theorem d_L_law_848 : decode code 848 = .ok (.invokevirtual 96, 3) := by decide +kernel
theorem d_L_law_851 : decode code 851 = .ok (.aload_n 2, 1) := by decide +kernel
theorem d_L_law_852 : decode code 852 = .ok (.aload_n 0, 1) := by decide +kernel
theorem d_L_law_853 : decode code 853 = .ok (.iload 4, 2) := by decide +kernel
theorem d_L_law_855 : decode code 855 = .ok (.iconst 1, 1) := by decide +kernel
theorem d_L_law_856 : decode code 856 = .ok (.iadd, 1) := by decide +kernel
theorem d_L_law_857 : decode code 857 = .ok (.iaload, 1) := by decide +kernel
theorem d_L_law_858 : decode code 858 = .ok (.invokevirtual 99, 3) := by decide +kernel
theorem d_L_law_861 : decode code 861 = .ok (.if_icmp .eq 5, 3) := by decide +kernel
theorem d_L_law_864 : decode code 864 = .ok (.iconst 0, 1) := by decide +kernel
theorem d_L_law_865 : decode code 865 = .ok (.ireturn, 1) := by decide +kernel
theorem d_L_law_866 : decode code 866 = .ok (.iinc 4 5, 3) := by decide +kernel
theorem d_L_law_869 : decode code 869 = .ok (.goto (-846), 3) := by decide +kernel
theorem d_L_law_872 : decode code 872 = .ok (.iconst 1, 1) := by decide +kernel
theorem d_L_law_873 : decode code 873 = .ok (.ireturn, 1) := by decide +kernel
theorem d_L_claimed_0 : decode method_3_code 0 = .ok (.aload_n 3, 1) := by decide +kernel
theorem d_L_claimed_1 : decode method_3_code 1 = .ok (.iconst 0, 1) := by decide +kernel
theorem d_L_claimed_2 : decode method_3_code 2 = .ok (.aload_n 0, 1) := by decide +kernel
theorem d_L_claimed_3 : decode method_3_code 3 = .ok (.iload_n 1, 1) := by decide +kernel
theorem d_L_claimed_4 : decode method_3_code 4 = .ok (.iload_n 2, 1) := by decide +kernel
theorem d_L_claimed_5 : decode method_3_code 5 = .ok (.invokevirtual 7, 3) := by decide +kernel
theorem d_L_claimed_8 : decode method_3_code 8 = .ok (.i2l, 1) := by decide +kernel
theorem d_L_claimed_9 : decode method_3_code 9 = .ok (.lastore, 1) := by decide +kernel
theorem d_L_claimed_10 : decode method_3_code 10 = .ok (.goto 7, 3) := by decide +kernel
theorem d_L_claimed_13 : decode method_3_code 13 = .ok (.astore 4, 2) := by decide +kernel
theorem d_L_claimed_15 : decode method_3_code 15 = .ok (.iconst 1, 1) := by decide +kernel
theorem d_L_claimed_16 : decode method_3_code 16 = .ok (.ireturn, 1) := by decide +kernel
theorem d_L_claimed_17 : decode method_3_code 17 = .ok (.iconst 0, 1) := by decide +kernel
theorem d_L_claimed_18 : decode method_3_code 18 = .ok (.ireturn, 1) := by decide +kernel
theorem d_L_volume_0 : decode method_4_code 0 = .ok (.aload_n 3, 1) := by decide +kernel
theorem d_L_volume_1 : decode method_4_code 1 = .ok (.iconst 0, 1) := by decide +kernel
theorem d_L_volume_2 : decode method_4_code 2 = .ok (.aload_n 0, 1) := by decide +kernel
theorem d_L_volume_3 : decode method_4_code 3 = .ok (.iload_n 1, 1) := by decide +kernel
theorem d_L_volume_4 : decode method_4_code 4 = .ok (.iload_n 2, 1) := by decide +kernel
theorem d_L_volume_5 : decode method_4_code 5 = .ok (.invokevirtual 15, 3) := by decide +kernel
theorem d_L_volume_8 : decode method_4_code 8 = .ok (.i2l, 1) := by decide +kernel
theorem d_L_volume_9 : decode method_4_code 9 = .ok (.lastore, 1) := by decide +kernel
theorem d_L_volume_10 : decode method_4_code 10 = .ok (.goto 7, 3) := by decide +kernel
theorem d_L_volume_13 : decode method_4_code 13 = .ok (.astore 4, 2) := by decide +kernel
theorem d_L_volume_15 : decode method_4_code 15 = .ok (.iconst 1, 1) := by decide +kernel
theorem d_L_volume_16 : decode method_4_code 16 = .ok (.ireturn, 1) := by decide +kernel
theorem d_L_volume_17 : decode method_4_code 17 = .ok (.iconst 0, 1) := by decide +kernel
theorem d_L_volume_18 : decode method_4_code 18 = .ok (.ireturn, 1) := by decide +kernel
theorem d_L_row_0 : decode method_5_code 0 = .ok (.aload_n 3, 1) := by decide +kernel
theorem d_L_row_1 : decode method_5_code 1 = .ok (.iconst 0, 1) := by decide +kernel
theorem d_L_row_2 : decode method_5_code 2 = .ok (.aload_n 0, 1) := by decide +kernel
theorem d_L_row_3 : decode method_5_code 3 = .ok (.iload_n 1, 1) := by decide +kernel
theorem d_L_row_4 : decode method_5_code 4 = .ok (.iload_n 2, 1) := by decide +kernel
theorem d_L_row_5 : decode method_5_code 5 = .ok (.invokevirtual 18, 3) := by decide +kernel
theorem d_L_row_8 : decode method_5_code 8 = .ok (.i2l, 1) := by decide +kernel
theorem d_L_row_9 : decode method_5_code 9 = .ok (.lastore, 1) := by decide +kernel
theorem d_L_row_10 : decode method_5_code 10 = .ok (.goto 7, 3) := by decide +kernel
theorem d_L_row_13 : decode method_5_code 13 = .ok (.astore 4, 2) := by decide +kernel
theorem d_L_row_15 : decode method_5_code 15 = .ok (.iconst 1, 1) := by decide +kernel
theorem d_L_row_16 : decode method_5_code 16 = .ok (.ireturn, 1) := by decide +kernel
theorem d_L_row_17 : decode method_5_code 17 = .ok (.iconst 0, 1) := by decide +kernel
theorem d_L_row_18 : decode method_5_code 18 = .ok (.ireturn, 1) := by decide +kernel
end
section
/-! calls, with the words of WA -/
theorem gW : GoodIn WA WA := fun _ h => ⟨h, WA_g h⟩
theorem gC {a : Cond} (h : a ∈ WA) : GoodIn WA (a :: WA) := fun w hw => (List.mem_cons.mp hw).elim (fun e => by rw [e]; exact ⟨h, WA_g h⟩) (gW w)
section CW
variable {R : Room} {s : State} {args : Array Value} {own C host : String} {index maxL mc ms : Nat} {y : MethodName} {bytes : ByteArray} {ret : Option FieldType} {rm : Room}
theorem cw_V (n : Nat) (hw : ∀ w ∈ WA, w.before args s = true) (k1 : Cond.methodLink own index y ∈ WA) (k2 : Cond.instanceMethod y ∈ WA) (k3 : Cond.selects C y y ∈ WA) (k4 : Cond.initialized C ∈ WA) (kc : Cond.code y bytes maxL ret ∈ WA) (hrc : rm.cells = mc) (hrs : rm.slots = ms)
    (hd : y.cls = C ∧ y.cls ≠ "java/lang/invoke/MethodHandle" ∧ y.cls ≠ "java/lang/invoke/VarHandle" ∧ (parseMethodDescriptor y.desc).map (fun d => d.parameters.length) = some n) (hR : rm.frames + 1 ≤ R.frames ∧ 8 + (maxL + 11) + rm.locals ≤ R.locals) :
    CallW R s args own C index y bytes maxL ret (Cond.code y bytes maxL ret :: WA) rm mc ms n := by
  refine cwV n hw (fun w h => ?_) rfl hrc hrs hd hR
  unfold wsV at h
  rcases List.mem_append.mp h with h | h
  · simp only [List.mem_cons, List.not_mem_nil, or_false] at h
    rcases h with rfl | rfl | rfl | rfl
    · exact gW _ k1
    · exact gW _ k2
    · exact gW _ k3
    · exact gW _ k4
  · exact gC kc w h
theorem cw_S (n : Nat) (hw : ∀ w ∈ WA, w.before args s = true) (k1 : Cond.methodLink own index y ∈ WA) (k2 : Cond.static y ∈ WA) (k4 : Cond.initialized own ∈ WA) (kc : Cond.code y bytes maxL ret ∈ WA) (hrc : rm.cells = mc) (hrs : rm.slots = ms)
    (hd : y.cls = own ∧ y.cls ≠ "java/lang/invoke/MethodHandle" ∧ y.cls ≠ "java/lang/invoke/VarHandle" ∧ (parseMethodDescriptor y.desc).map (fun d => d.parameters.length) = some n) (hR : rm.frames + 1 ≤ R.frames ∧ 8 + (maxL + 11) + rm.locals ≤ R.locals) :
    CallB R s args own index y bytes maxL ret (Cond.code y bytes maxL ret :: WA) rm mc ms n ∧ (Cond.static y).before args s = true := by
  refine cwS n hw (fun w h => ?_) rfl hrc hrs hd hR
  unfold wsS at h
  rcases List.mem_append.mp h with h | h
  · simp only [List.mem_cons, List.not_mem_nil, or_false] at h
    rcases h with rfl | rfl | rfl
    · exact gW _ k1
    · exact gW _ k2
    · exact gW _ k4
  · exact gC kc w h
theorem cw_I (n : Nat) (hw : ∀ w ∈ WA, w.before args s = true) (k1 : Cond.methodLink own index y ∈ WA) (k2 : Cond.instanceMethod y ∈ WA) (k4 : Cond.initialized y.cls ∈ WA) (kc : Cond.code y bytes maxL none ∈ WA) (hrc : rm.cells = mc) (hrs : rm.slots = ms) (hy1 : y.name = "<init>")
    (hd : y.cls ≠ "java/lang/invoke/MethodHandle" ∧ y.cls ≠ "java/lang/invoke/VarHandle" ∧ (parseMethodDescriptor y.desc).map (fun d => d.parameters.length) = some n) (hR : rm.frames + 1 ≤ R.frames ∧ 8 + (maxL + 11) + rm.locals ≤ R.locals) :
    CallB R s args own index y bytes maxL none (Cond.code y bytes maxL none :: WA) rm mc ms n ∧ y.name = "<init>" ∧ (Cond.instanceMethod y).before args s = true :=
  cwI n hw (gC kc) rfl hrc hrs (hw _ k4) (hw _ k1) (hw _ k2) hy1 hd hR
theorem cw_SN (n : Nat) (hw : ∀ w ∈ WA, w.before args s = true) (k1 : va_Nw (.methodLinkNest own index y host) s) (k2 : Cond.static y ∈ WA) (k4 : Cond.initialized y.cls ∈ WA) (kc : Cond.code y bytes maxL ret ∈ WA) (hrc : rm.cells = mc) (hrs : rm.slots = ms)
    (hd : y.cls ≠ "java/lang/invoke/MethodHandle" ∧ y.cls ≠ "java/lang/invoke/VarHandle" ∧ (parseMethodDescriptor y.desc).map (fun d => d.parameters.length) = some n) (hR : rm.frames + 1 ≤ R.frames ∧ 8 + (maxL + 11) + rm.locals ≤ R.locals) :
    va_CN R s args own index y host bytes maxL ret (Cond.code y bytes maxL ret :: WA) rm mc ms n ∧ (Cond.static y).before args s = true ∧ True :=
  ⟨va_cnB n hw (gC kc) rfl hrc hrs k1 (hw _ k4) hd hR, hw _ k2, trivial⟩
theorem cw_IN (n : Nat) (hw : ∀ w ∈ WA, w.before args s = true) (k1 : va_Nw (.methodLinkNest own index y host) s) (k2 : Cond.instanceMethod y ∈ WA) (k4 : Cond.initialized y.cls ∈ WA) (kc : Cond.code y bytes maxL none ∈ WA) (hrc : rm.cells = mc) (hrs : rm.slots = ms) (hy1 : y.name = "<init>")
    (hd : y.cls ≠ "java/lang/invoke/MethodHandle" ∧ y.cls ≠ "java/lang/invoke/VarHandle" ∧ (parseMethodDescriptor y.desc).map (fun d => d.parameters.length) = some n) (hR : rm.frames + 1 ≤ R.frames ∧ 8 + (maxL + 11) + rm.locals ≤ R.locals) :
    va_CN R s args own index y host bytes maxL none (Cond.code y bytes maxL none :: WA) rm mc ms n ∧ y.name = "<init>" ∧ (Cond.instanceMethod y).before args s = true :=
  ⟨va_cnB n hw (gC kc) rfl hrc hrs k1 (hw _ k4) hd hR, hy1, hw _ k2⟩
end CW
/-- the array classes -/
abbrev TY (cs : Nat → ClassId) : List (ClassId × FieldType) := [(cs 0, .int), (cs 1, .boolean), (cs 2, .object "IssueRows$Rule"), (cs 3, .object "IssueRows$Issue"), (cs 4, .long)]
section PX
variable {p : Program} {l : Launch} {e : Env} {R : Room} {s : State} {m : MethodId} {args : Array Value} {below : List Frame} {meth : Method} {c : Code} {H : Heap} {locs : List Loc} {cells slots : Nat} {Q : State → Prop}
variable {cc : ByteArray} {pc : Nat} {ls : Array Slot} {rest : List Value} {D : va_G} {cl : List vw_C} {A : Nat → Prop} {tys : List (ClassId × FieldType)} {H0 : Heap} {N : Nat} {bk : Nat → Nat} {cw : Nat → va_E}
theorem pw_ialdC (hexec : p.tables.exec = Jvm.exec) (hb : c.code = cc) (hK : va_K D cl tys s) (hP : va_P D cl (wl N bk cw) H) (t0 : Nat) (k : Nat) (hk : k < N) {cA : ClassId} {n : Nat} {f : Nat → Int32} (he : cw k = .inl (cA, n, .inl f)) (ht : tys[t0]? = some (cA, .int)) {i : Int32} (hi : vp_in i n) (hdg : decode cc pc = .ok (.iaload, 1))
    (kk : W p l e R s m args below meth c H locs cells slots Q (F0 m (pc + 1) ls (.int (f i.toNatClampNeg) :: rest))) : W p l e R s m args below meth c H locs cells slots Q (F0 m pc ls (.int i :: .ref (bk k) :: rest)) :=
  va_iald hexec hb hK hP k t0 (wl_at hk he) ht hi hdg kk
theorem pw_iastC (hexec : p.tables.exec = Jvm.exec) (hb : c.code = cc) (hK : va_K D cl tys s) (hP : va_P D cl (wl N bk cw) H) (hD : va_D A (wl N bk cw)) (hS : va_S A H0 H locs) (t0 : Nat) (k : Nat) (hk : k < N) {cA : ClassId} {n : Nat} {f : Nat → Int32} (he : cw k = .inl (cA, n, .inl f)) (ht : tys[t0]? = some (cA, .int)) {i x : Int32} (hi : vp_in i n) (hdg : decode cc pc = .ok (.iastore, 1))
    (kk : ∀ (cw1 : Nat → va_E) (H1 : Heap) (locs1 : List Loc), cw1 = va_up cw k (.inl (cA, n, .inl (upd f i.toNatClampNeg x))) → va_P D cl (wl N bk cw1) H1 → va_D A (wl N bk cw1) → va_S A H0 H1 locs1 → W p l e R s m args below meth c H1 locs1 cells slots Q (F0 m (pc + 1) ls rest)) : W p l e R s m args below meth c H locs cells slots Q (F0 m pc ls (.int x :: .int i :: .ref (bk k) :: rest)) := by
  refine va_iast hexec hb hK hP hD hS k t0 (wl_at hk he) ht hi hdg (fun H1 locs1 hP hD hS => ?_)
  rw [wl_set] at hP hD
  exact kk _ H1 locs1 rfl hP hD hS
end PX
theorem T0 : (0 : Int32).toInt = 0 := by decide
theorem T1 : (1 : Int32).toInt = 1 := by decide
theorem T2 : (2 : Int32).toInt = 2 := by decide
theorem T3 : (3 : Int32).toInt = 3 := by decide
theorem T4 : (4 : Int32).toInt = 4 := by decide
theorem T5 : (5 : Int32).toInt = 5 := by decide
theorem T6 : (6 : Int32).toInt = 6 := by decide
theorem T7 : (7 : Int32).toInt = 7 := by decide
theorem T8 : (8 : Int32).toInt = 8 := by decide
theorem T9 : (9 : Int32).toInt = 9 := by decide
theorem T10 : (10 : Int32).toInt = 10 := by decide
theorem T20 : (20 : Int32).toInt = 20 := by decide
theorem T30 : (30 : Int32).toInt = 30 := by decide
theorem T39 : (39 : Int32).toInt = 39 := by decide
theorem T40 : (40 : Int32).toInt = 40 := by decide
theorem T41 : (41 : Int32).toInt = 41 := by decide
theorem T50 : (50 : Int32).toInt = 50 := by decide
theorem T99 : (99 : Int32).toInt = 99 := by decide
theorem T100 : (100 : Int32).toInt = 100 := by decide
theorem T199 : (199 : Int32).toInt = 199 := by decide
theorem T200 : (200 : Int32).toInt = 200 := by decide
theorem T999 : (999 : Int32).toInt = 999 := by decide
theorem T1000 : (1000 : Int32).toInt = 1000 := by decide
theorem T9999 : (9999 : Int32).toInt = 9999 := by decide
theorem T1000000 : (1000000 : Int32).toInt = 1000000 := by decide
theorem T10000000 : (10000000 : Int32).toInt = 10000000 := by decide
theorem T1000000000 : (1000000000 : Int32).toInt = 1000000000 := by decide
theorem Tm1 : (-1 : Int32).toInt = -1 := by decide
end
section
set_option maxHeartbeats 4000000 in
set_option maxRecDepth 100000 in
theorem c_X_within (l : Launch) (D : va_G) (cs : Nat → ClassId) (N : Nat) (bk : Nat → Nat) (cw : Nat → va_E) (sz : Nat) (a b c : Int32) : Met l y_X_within w_X_within ({ frames := 0, cells := 0, slots := 0, locals := 0 }) (va_Pc [.int (a), .int (b), .int (c)] (PB D classes (TY cs) N bk cw sz)) (vp_Si (fun r => r = bI (b ≤ a ∧ a ≤ c))) 0 0 (fun _ => False) := by
  refine pw_entry (cc := b_X_within) (maxL := 3) (ret := (some .boolean)) (by decide +kernel) rfl (Nat.le_of_ble_eq_true rfl) ?_
  intro p_ e_ s m below_ meth_ c_ ls hx hb hr hml hts hown hlocks hin hsz hP hK hD hS hA hN hl
  have hw : ∀ w ∈ WA, w.before _ s = true := fun w h => hts w (List.mem_cons_of_mem _ h)
  have hown : s.vm.findClass "IssueRows" = some m.cls := hown
  have hl : lv_has ls 3 [(0, .int (a)), (1, .int (b)), (2, .int (c))] := hl
  refine lv_iload_n hx hb d_X_within_0 rfl (lv_at hl 0 rfl) ?_
  refine lv_iload_n hx hb d_X_within_1 rfl (lv_at hl 1 rfl) ?_
  refine lv_icmp_lt (tgt := 14) hx hb d_X_within_2 (by decide) (fun c_1 => ?_) (fun c_1 => ?_)
  · have c_1 : a < b := c_1
    refine lv_iconst (v := 0) hx hb d_X_within_14 (by decide) ?_
    exact W.zret (v := 0) (ty := .boolean) hx hb hr (by decide) (fun t ht hW => ⟨0, rfl, (bI_f (by simp only [Int32.lt_iff_toInt_lt, Int32.le_iff_toInt_le, ← Int32.toInt_inj, T0, T1, T2, T3, T4, T5, T6, T7, T8, T9, T10, T40, T50, T99, T100, T200, T999, T1000, T9999, T1000000, T10000000, T1000000000, Tm1] at c_1 ⊢; omega)).symm, ht⟩) (fun q h => by cases h) d_X_within_15
  · have c_1 : ¬ a < b := c_1
    refine lv_iload_n hx hb d_X_within_5 rfl (lv_at hl 0 rfl) ?_
    refine lv_iload_n hx hb d_X_within_6 rfl (lv_at hl 2 rfl) ?_
    refine lv_icmp_gt (tgt := 14) hx hb d_X_within_7 (by decide) (fun c_2 => ?_) (fun c_2 => ?_)
    · have c_2 : c < a := c_2
      refine lv_iconst (v := 0) hx hb d_X_within_14 (by decide) ?_
      exact W.zret (v := 0) (ty := .boolean) hx hb hr (by decide) (fun t ht hW => ⟨0, rfl, (bI_f (by simp only [Int32.lt_iff_toInt_lt, Int32.le_iff_toInt_le, ← Int32.toInt_inj, T0, T1, T2, T3, T4, T5, T6, T7, T8, T9, T10, T40, T50, T99, T100, T200, T999, T1000, T9999, T1000000, T10000000, T1000000000, Tm1] at c_1 c_2 ⊢; omega)).symm, ht⟩) (fun q h => by cases h) d_X_within_15
    · have c_2 : ¬ c < a := c_2
      refine lv_iconst (v := 1) hx hb d_X_within_10 (by decide) ?_
      refine lv_goto (tgt := 15) hx hb d_X_within_11 (by decide) ?_
      exact W.zret (v := 1) (ty := .boolean) hx hb hr (by decide) (fun t ht hW => ⟨1, rfl, (bI_t (by simp only [Int32.lt_iff_toInt_lt, Int32.le_iff_toInt_le, ← Int32.toInt_inj, T0, T1, T2, T3, T4, T5, T6, T7, T8, T9, T10, T40, T50, T99, T100, T200, T999, T1000, T9999, T1000000, T10000000, T1000000000, Tm1] at c_1 c_2 ⊢; omega)).symm, ht⟩) (fun q h => by cases h) d_X_within_15
set_option maxHeartbeats 4000000 in
set_option maxRecDepth 100000 in
theorem c_X_isPattern (l : Launch) (D : va_G) (cs : Nat → ClassId) (N : Nat) (bk : Nat → Nat) (cw : Nat → va_E) (sz : Nat) (a : Int32) : Met l y_X_isPattern w_X_isPattern ({ frames := 1, cells := 0, slots := 0, locals := 22 }) (va_Pc [.int (a)] (PB D classes (TY cs) N bk cw sz)) (vp_Si (fun r => r = bI (0 ≤ a ∧ a ≤ 9))) 0 0 (fun _ => False) := by
  refine pw_entry (cc := b_X_isPattern) (maxL := 1) (ret := (some .boolean)) (by decide +kernel) rfl (Nat.le_of_ble_eq_true rfl) ?_
  intro p_ e_ s m below_ meth_ c_ ls hx hb hr hml hts hown hlocks hin hsz hP hK hD hS hA hN hl
  have hw : ∀ w ∈ WA, w.before _ s = true := fun w h => hts w (List.mem_cons_of_mem _ h)
  have hown : s.vm.findClass "IssueRows" = some m.cls := hown
  have hl : lv_has ls 1 [(0, .int (a))] := hl
  refine lv_iload_n hx hb d_X_isPattern_0 rfl (lv_at hl 0 rfl) ?_
  refine lv_iconst (v := 0) hx hb d_X_isPattern_1 (by decide) ?_
  refine lv_bipush (v := 9) hx hb d_X_isPattern_2 (by decide) ?_
  refine pw_callSi (va_runS (As := [.int (a), .int (0), .int (9)]) (rest := []) ⟨hx, hb, hml, hown, hw⟩ (c_X_within l D cs N bk cw s.heap.size a 0 9) (cw_S 3 hw kM_X_59 kS_X_within kZ_X kC_X_within rfl rfl ⟨rfl, by decide, by decide, by decide +kernel⟩ ⟨Nat.le_of_ble_eq_true rfl, Nat.le_of_ble_eq_true rfl⟩) (pw_preS hN hK hP hD) rfl rfl hl.1 rfl (lv_room (Nat.le_of_ble_eq_true rfl)) d_X_isPattern_4 ⟨Nat.le_of_ble_eq_true rfl, Nat.le_of_ble_eq_true rfl⟩) (fun r_1 hr_1 => ?_)
  have hr_1 : r_1 = bI (0 ≤ a ∧ a ≤ 9) := hr_1
  subst hr_1
  exact W.zret (v := bI (0 ≤ a ∧ a ≤ 9)) (ty := .boolean) hx hb hr bI_nar (fun t ht hW => ⟨bI (0 ≤ a ∧ a ≤ 9), rfl, rfl, ht⟩) (fun q h => by cases h) d_X_isPattern_7
set_option maxHeartbeats 4000000 in
set_option maxRecDepth 100000 in
theorem c_X_isDay (l : Launch) (D : va_G) (cs : Nat → ClassId) (N : Nat) (bk : Nat → Nat) (cw : Nat → va_E) (sz : Nat) (a : Int32) : Met l y_X_isDay w_X_isDay ({ frames := 1, cells := 0, slots := 0, locals := 22 }) (va_Pc [.int (a)] (PB D classes (TY cs) N bk cw sz)) (vp_Si (fun r => r = bI (0 ≤ a ∧ a ≤ 1000000))) 0 0 (fun _ => False) := by
  refine pw_entry (cc := b_X_isDay) (maxL := 1) (ret := (some .boolean)) (by decide +kernel) rfl (Nat.le_of_ble_eq_true rfl) ?_
  intro p_ e_ s m below_ meth_ c_ ls hx hb hr hml hts hown hlocks hin hsz hP hK hD hS hA hN hl
  have hw : ∀ w ∈ WA, w.before _ s = true := fun w h => hts w (List.mem_cons_of_mem _ h)
  have hown : s.vm.findClass "IssueRows" = some m.cls := hown
  have hl : lv_has ls 1 [(0, .int (a))] := hl
  refine lv_iload_n hx hb d_X_isDay_0 rfl (lv_at hl 0 rfl) ?_
  refine lv_iconst (v := 0) hx hb d_X_isDay_1 (by decide) ?_
  refine lv_ldc (v := 1000000) hx hb hown (hw _ kK_X_212) d_X_isDay_2 ?_
  refine pw_callSi (va_runS (As := [.int (a), .int (0), .int (1000000)]) (rest := []) ⟨hx, hb, hml, hown, hw⟩ (c_X_within l D cs N bk cw s.heap.size a 0 1000000) (cw_S 3 hw kM_X_59 kS_X_within kZ_X kC_X_within rfl rfl ⟨rfl, by decide, by decide, by decide +kernel⟩ ⟨Nat.le_of_ble_eq_true rfl, Nat.le_of_ble_eq_true rfl⟩) (pw_preS hN hK hP hD) rfl rfl hl.1 rfl (lv_room (Nat.le_of_ble_eq_true rfl)) d_X_isDay_4 ⟨Nat.le_of_ble_eq_true rfl, Nat.le_of_ble_eq_true rfl⟩) (fun r_1 hr_1 => ?_)
  have hr_1 : r_1 = bI (0 ≤ a ∧ a ≤ 1000000) := hr_1
  subst hr_1
  exact W.zret (v := bI (0 ≤ a ∧ a ≤ 1000000)) (ty := .boolean) hx hb hr bI_nar (fun t ht hW => ⟨bI (0 ≤ a ∧ a ≤ 1000000), rfl, rfl, ht⟩) (fun q h => by cases h) d_X_isDay_7
set_option maxHeartbeats 4000000 in
set_option maxRecDepth 100000 in
theorem c_G_isFull (l : Launch) (D : va_G) (cs : Nat → ClassId) (N : Nat) (bk : Nat → Nat) (cw : Nat → va_E) (sz : Nat) (K K1 K2 : Nat) (hk : K < N) (sz1 pl si : Int32) (he : cw K = .inr (3, [.ref (bk K1), .ref (bk K2), .int sz1, .int pl, .int si])) : Met l y_G_isFull w_G_isFull ({ frames := 0, cells := 0, slots := 0, locals := 0 }) (va_Pc [.ref (bk (K))] (PB D classes (TY cs) N bk cw sz)) (vp_Si (fun r => r = bI (8 ≤ sz1))) 0 0 (fun _ => False) := by
  refine pw_entry (cc := b_G_isFull) (maxL := 1) (ret := (some .boolean)) (by decide +kernel) rfl (Nat.le_of_ble_eq_true rfl) ?_
  intro p_ e_ s m below_ meth_ c_ ls hx hb hr hml hts hown hlocks hin hsz hP hK hD hS hA hN hl
  have hw : ∀ w ∈ WA, w.before _ s = true := fun w h => hts w (List.mem_cons_of_mem _ h)
  have hown : s.vm.findClass "IssueRows$Routing" = some m.cls := hown
  have hl : lv_has ls 1 [(0, .ref (bk (K)))] := hl
  refine lv_aload_n hx hb d_G_isFull_0 rfl (lv_at hl 0 rfl) ?_
  refine pw_get (ci := 3) (v := .int (sz1)) hx hb hw i_G hown hK hP (K) hk he rfl 2 (by decide) (hw _ kF_G_18) rfl d_G_isFull_1 ?_
  refine lv_bipush (v := 8) hx hb d_G_isFull_4 (by decide) ?_
  refine lv_icmp_lt (tgt := 13) hx hb d_G_isFull_6 (by decide) (fun c_1 => ?_) (fun c_1 => ?_)
  · have c_1 : sz1 < 8 := c_1
    refine lv_iconst (v := 0) hx hb d_G_isFull_13 (by decide) ?_
    exact W.zret (v := 0) (ty := .boolean) hx hb hr (by decide) (fun t ht hW => ⟨0, rfl, (bI_f (by simp only [Int32.lt_iff_toInt_lt, Int32.le_iff_toInt_le, ← Int32.toInt_inj, T0, T1, T2, T3, T4, T5, T6, T7, T8, T9, T10, T40, T50, T99, T100, T200, T999, T1000, T9999, T1000000, T10000000, T1000000000, Tm1] at c_1 ⊢; omega)).symm, ht⟩) (fun q h => by cases h) d_G_isFull_14
  · have c_1 : ¬ sz1 < 8 := c_1
    refine lv_iconst (v := 1) hx hb d_G_isFull_9 (by decide) ?_
    refine lv_goto (tgt := 14) hx hb d_G_isFull_10 (by decide) ?_
    exact W.zret (v := 1) (ty := .boolean) hx hb hr (by decide) (fun t ht hW => ⟨1, rfl, (bI_t (by simp only [Int32.lt_iff_toInt_lt, Int32.le_iff_toInt_le, ← Int32.toInt_inj, T0, T1, T2, T3, T4, T5, T6, T7, T8, T9, T10, T40, T50, T99, T100, T200, T999, T1000, T9999, T1000000, T10000000, T1000000000, Tm1] at c_1 ⊢; omega)).symm, ht⟩) (fun q h => by cases h) d_G_isFull_14
set_option maxHeartbeats 4000000 in
set_option maxRecDepth 100000 in
theorem c_G_isStarted (l : Launch) (D : va_G) (cs : Nat → ClassId) (N : Nat) (bk : Nat → Nat) (cw : Nat → va_E) (sz : Nat) (K K1 K2 : Nat) (hk : K < N) (sz1 pl si : Int32) (he : cw K = .inr (3, [.ref (bk K1), .ref (bk K2), .int sz1, .int pl, .int si])) : Met l y_G_isStarted w_G_isStarted ({ frames := 0, cells := 0, slots := 0, locals := 0 }) (va_Pc [.ref (bk (K))] (PB D classes (TY cs) N bk cw sz)) (vp_Si (fun r => r = bI (0 ≤ pl))) 0 0 (fun _ => False) := by
  refine pw_entry (cc := b_G_isStarted) (maxL := 1) (ret := (some .boolean)) (by decide +kernel) rfl (Nat.le_of_ble_eq_true rfl) ?_
  intro p_ e_ s m below_ meth_ c_ ls hx hb hr hml hts hown hlocks hin hsz hP hK hD hS hA hN hl
  have hw : ∀ w ∈ WA, w.before _ s = true := fun w h => hts w (List.mem_cons_of_mem _ h)
  have hown : s.vm.findClass "IssueRows$Routing" = some m.cls := hown
  have hl : lv_has ls 1 [(0, .ref (bk (K)))] := hl
  refine lv_aload_n hx hb d_G_isStarted_0 rfl (lv_at hl 0 rfl) ?_
  refine pw_get (ci := 3) (v := .int (pl)) hx hb hw i_G hown hK hP (K) hk he rfl 3 (by decide) (hw _ kF_G_22) rfl d_G_isStarted_1 ?_
  refine lv_if_lt (tgt := 11) hx hb d_G_isStarted_4 (by decide) (fun c_1 => ?_) (fun c_1 => ?_)
  · have c_1 : pl < 0 := c_1
    refine lv_iconst (v := 0) hx hb d_G_isStarted_11 (by decide) ?_
    exact W.zret (v := 0) (ty := .boolean) hx hb hr (by decide) (fun t ht hW => ⟨0, rfl, (bI_f (by simp only [Int32.lt_iff_toInt_lt, Int32.le_iff_toInt_le, ← Int32.toInt_inj, T0, T1, T2, T3, T4, T5, T6, T7, T8, T9, T10, T40, T50, T99, T100, T200, T999, T1000, T9999, T1000000, T10000000, T1000000000, Tm1] at c_1 ⊢; omega)).symm, ht⟩) (fun q h => by cases h) d_G_isStarted_12
  · have c_1 : ¬ pl < 0 := c_1
    refine lv_iconst (v := 1) hx hb d_G_isStarted_7 (by decide) ?_
    refine lv_goto (tgt := 12) hx hb d_G_isStarted_8 (by decide) ?_
    exact W.zret (v := 1) (ty := .boolean) hx hb hr (by decide) (fun t ht hW => ⟨1, rfl, (bI_t (by simp only [Int32.lt_iff_toInt_lt, Int32.le_iff_toInt_le, ← Int32.toInt_inj, T0, T1, T2, T3, T4, T5, T6, T7, T8, T9, T10, T40, T50, T99, T100, T200, T999, T1000, T9999, T1000000, T10000000, T1000000000, Tm1] at c_1 ⊢; omega)).symm, ht⟩) (fun q h => by cases h) d_G_isStarted_12
set_option maxHeartbeats 4000000 in
set_option maxRecDepth 100000 in
theorem c_G_isOut (l : Launch) (D : va_G) (cs : Nat → ClassId) (N : Nat) (bk : Nat → Nat) (cw : Nat → va_E) (sz : Nat) (K K1 K2 : Nat) (hk : K < N) (sz1 pl si : Int32) (he : cw K = .inr (3, [.ref (bk K1), .ref (bk K2), .int sz1, .int pl, .int si])) : Met l y_G_isOut w_G_isOut ({ frames := 0, cells := 0, slots := 0, locals := 0 }) (va_Pc [.ref (bk (K))] (PB D classes (TY cs) N bk cw sz)) (vp_Si (fun r => r = bI (0 ≤ pl ∧ pl < sz1))) 0 0 (fun _ => False) := by
  refine pw_entry (cc := b_G_isOut) (maxL := 1) (ret := (some .boolean)) (by decide +kernel) rfl (Nat.le_of_ble_eq_true rfl) ?_
  intro p_ e_ s m below_ meth_ c_ ls hx hb hr hml hts hown hlocks hin hsz hP hK hD hS hA hN hl
  have hw : ∀ w ∈ WA, w.before _ s = true := fun w h => hts w (List.mem_cons_of_mem _ h)
  have hown : s.vm.findClass "IssueRows$Routing" = some m.cls := hown
  have hl : lv_has ls 1 [(0, .ref (bk (K)))] := hl
  refine lv_aload_n hx hb d_G_isOut_0 rfl (lv_at hl 0 rfl) ?_
  refine pw_get (ci := 3) (v := .int (pl)) hx hb hw i_G hown hK hP (K) hk he rfl 3 (by decide) (hw _ kF_G_22) rfl d_G_isOut_1 ?_
  refine lv_if_lt (tgt := 22) hx hb d_G_isOut_4 (by decide) (fun c_1 => ?_) (fun c_1 => ?_)
  · have c_1 : pl < 0 := c_1
    refine lv_iconst (v := 0) hx hb d_G_isOut_22 (by decide) ?_
    exact W.zret (v := 0) (ty := .boolean) hx hb hr (by decide) (fun t ht hW => ⟨0, rfl, (bI_f (by simp only [Int32.lt_iff_toInt_lt, Int32.le_iff_toInt_le, ← Int32.toInt_inj, T0, T1, T2, T3, T4, T5, T6, T7, T8, T9, T10, T40, T50, T99, T100, T200, T999, T1000, T9999, T1000000, T10000000, T1000000000, Tm1] at c_1 ⊢; omega)).symm, ht⟩) (fun q h => by cases h) d_G_isOut_23
  · have c_1 : ¬ pl < 0 := c_1
    refine lv_aload_n hx hb d_G_isOut_7 rfl (lv_at hl 0 rfl) ?_
    refine pw_get (ci := 3) (v := .int (pl)) hx hb hw i_G hown hK hP (K) hk he rfl 3 (by decide) (hw _ kF_G_22) rfl d_G_isOut_8 ?_
    refine lv_aload_n hx hb d_G_isOut_11 rfl (lv_at hl 0 rfl) ?_
    refine pw_get (ci := 3) (v := .int (sz1)) hx hb hw i_G hown hK hP (K) hk he rfl 2 (by decide) (hw _ kF_G_18) rfl d_G_isOut_12 ?_
    refine lv_icmp_ge (tgt := 22) hx hb d_G_isOut_15 (by decide) (fun c_2 => ?_) (fun c_2 => ?_)
    · have c_2 : sz1 ≤ pl := c_2
      refine lv_iconst (v := 0) hx hb d_G_isOut_22 (by decide) ?_
      exact W.zret (v := 0) (ty := .boolean) hx hb hr (by decide) (fun t ht hW => ⟨0, rfl, (bI_f (by simp only [Int32.lt_iff_toInt_lt, Int32.le_iff_toInt_le, ← Int32.toInt_inj, T0, T1, T2, T3, T4, T5, T6, T7, T8, T9, T10, T40, T50, T99, T100, T200, T999, T1000, T9999, T1000000, T10000000, T1000000000, Tm1] at c_1 c_2 ⊢; omega)).symm, ht⟩) (fun q h => by cases h) d_G_isOut_23
    · have c_2 : ¬ sz1 ≤ pl := c_2
      refine lv_iconst (v := 1) hx hb d_G_isOut_18 (by decide) ?_
      refine lv_goto (tgt := 23) hx hb d_G_isOut_19 (by decide) ?_
      exact W.zret (v := 1) (ty := .boolean) hx hb hr (by decide) (fun t ht hW => ⟨1, rfl, (bI_t (by simp only [Int32.lt_iff_toInt_lt, Int32.le_iff_toInt_le, ← Int32.toInt_inj, T0, T1, T2, T3, T4, T5, T6, T7, T8, T9, T10, T40, T50, T99, T100, T200, T999, T1000, T9999, T1000000, T10000000, T1000000000, Tm1] at c_1 c_2 ⊢; omega)).symm, ht⟩) (fun q h => by cases h) d_G_isOut_23
set_option maxHeartbeats 4000000 in
set_option maxRecDepth 100000 in
theorem c_G_isLate (l : Launch) (D : va_G) (cs : Nat → ClassId) (N : Nat) (bk : Nat → Nat) (cw : Nat → va_E) (sz : Nat) (K K1 K2 : Nat) (hk : K < N) (sz1 pl si : Int32) (he : cw K = .inr (3, [.ref (bk K1), .ref (bk K2), .int sz1, .int pl, .int si])) (pp dd : Nat → Int32) (hk1 : K1 < N) (he1 : cw K1 = .inl (cs 0, 8, .inl pp)) (hk2 : K2 < N) (he2 : cw K2 = .inl (cs 0, 8, .inl dd)) (h8 : sz1 ≤ 8) (day : Int32) : Met l y_G_isLate w_G_isLate ({ frames := 1, cells := 0, slots := 0, locals := 20 }) (va_Pc [.ref (bk (K)), .int (day)] (PB D classes (TY cs) N bk cw sz)) (vp_Si (fun r => r = bI ((0 ≤ pl ∧ pl < sz1) ∧ dd pl.toNatClampNeg < day - si))) 0 0 (fun _ => False) := by
  refine pw_entry (cc := b_G_isLate) (maxL := 2) (ret := (some .boolean)) (by decide +kernel) rfl (Nat.le_of_ble_eq_true rfl) ?_
  intro p_ e_ s m below_ meth_ c_ ls hx hb hr hml hts hown hlocks hin hsz hP hK hD hS hA hN hl
  have hw : ∀ w ∈ WA, w.before _ s = true := fun w h => hts w (List.mem_cons_of_mem _ h)
  have hown : s.vm.findClass "IssueRows$Routing" = some m.cls := hown
  have hl : lv_has ls 2 [(0, .ref (bk (K))), (1, .int (day))] := hl
  refine lv_aload_n hx hb d_G_isLate_0 rfl (lv_at hl 0 rfl) ?_
  refine pw_callSi (va_runV (As := []) (rest := []) ⟨hx, hb, hml, hown, hw⟩ (c_G_isOut l D cs N bk cw s.heap.size (K) (K1) (K2) hk sz1 pl si he) (cw_V 0 hw kM_G_28 kI_G_isOut kV_G_isOut kZ_G kC_G_isOut rfl rfl ⟨rfl, by decide, by decide, by decide +kernel⟩ ⟨Nat.le_of_ble_eq_true rfl, Nat.le_of_ble_eq_true rfl⟩) (pw_preV hN hK hP hD (K) hk he rfl) rfl rfl hl.1 rfl (lv_room (Nat.le_of_ble_eq_true rfl)) d_G_isLate_1 ⟨Nat.le_of_ble_eq_true rfl, Nat.le_of_ble_eq_true rfl⟩) (fun r_1 hr_1 => ?_)
  have hr_1 : r_1 = bI (0 ≤ pl ∧ pl < sz1) := hr_1
  subst hr_1
  refine pw_ifeq (tgt := 29) hx hb d_G_isLate_4 (by decide) (fun c_2 => ?_) (fun c_2 => ?_)
  · have c_2 : ¬ (0 ≤ pl ∧ pl < sz1) := c_2
    refine lv_iconst (v := 0) hx hb d_G_isLate_29 (by decide) ?_
    exact W.zret (v := 0) (ty := .boolean) hx hb hr (by decide) (fun t ht hW => ⟨0, rfl, (bI_f (fun h => c_2 h.1)).symm, ht⟩) (fun q h => by cases h) d_G_isLate_30
  · have c_2 : 0 ≤ pl ∧ pl < sz1 := c_2
    refine lv_iload_n hx hb d_G_isLate_7 rfl (lv_at hl 1 rfl) ?_
    refine lv_aload_n hx hb d_G_isLate_8 rfl (lv_at hl 0 rfl) ?_
    refine pw_get (ci := 3) (v := .int (si)) hx hb hw i_G hown hK hP (K) hk he rfl 4 (by decide) (hw _ kF_G_25) rfl d_G_isLate_9 ?_
    refine lv_isub hx hb d_G_isLate_12 ?_
    refine lv_aload_n hx hb d_G_isLate_13 rfl (lv_at hl 0 rfl) ?_
    refine pw_get (ci := 3) (v := .ref (bk (K2))) hx hb hw i_G hown hK hP (K) hk he rfl 1 (by decide) (hw _ kF_G_15) rfl d_G_isLate_14 ?_
    refine lv_aload_n hx hb d_G_isLate_17 rfl (lv_at hl 0 rfl) ?_
    refine pw_get (ci := 3) (v := .int (pl)) hx hb hw i_G hown hK hP (K) hk he rfl 3 (by decide) (hw _ kF_G_22) rfl d_G_isLate_18 ?_
    refine pw_ialdC (n := 8) (f := dd) hx hb hK hP 0 (K2) hk2 he2 rfl (vp_in_iff.mpr (by have h9 := h8; have h7 := c_2; simp only [Int32.lt_iff_toInt_lt, Int32.le_iff_toInt_le, ← Int32.toInt_inj, T0, T1, T2, T3, T4, T5, T6, T7, T8, T9, T10, T40, T50, T99, T100, T200, T999, T1000, T9999, T1000000, T10000000, T1000000000, Tm1] at h9 h7 ⊢; omega)) d_G_isLate_21 ?_
    refine lv_icmp_le (tgt := 29) hx hb d_G_isLate_22 (by decide) (fun c_3 => ?_) (fun c_3 => ?_)
    · have c_3 : (day - si) ≤ (dd (pl).toNatClampNeg) := c_3
      refine lv_iconst (v := 0) hx hb d_G_isLate_29 (by decide) ?_
      exact W.zret (v := 0) (ty := .boolean) hx hb hr (by decide) (fun t ht hW => ⟨0, rfl, (bI_f (fun h => absurd h.2 (Int32.not_lt.mpr c_3))).symm, ht⟩) (fun q h => by cases h) d_G_isLate_30
    · have c_3 : ¬ (day - si) ≤ (dd (pl).toNatClampNeg) := c_3
      refine lv_iconst (v := 1) hx hb d_G_isLate_25 (by decide) ?_
      refine lv_goto (tgt := 30) hx hb d_G_isLate_26 (by decide) ?_
      exact W.zret (v := 1) (ty := .boolean) hx hb hr (by decide) (fun t ht hW => ⟨1, rfl, (bI_t ⟨c_2, Int32.not_le.mp c_3⟩).symm, ht⟩) (fun q h => by cases h) d_G_isLate_30
set_option maxHeartbeats 4000000 in
set_option maxRecDepth 100000 in
theorem c_G_holder (l : Launch) (D : va_G) (cs : Nat → ClassId) (N : Nat) (bk : Nat → Nat) (cw : Nat → va_E) (sz : Nat) (K K1 K2 : Nat) (hk : K < N) (sz1 pl si : Int32) (he : cw K = .inr (3, [.ref (bk K1), .ref (bk K2), .int sz1, .int pl, .int si])) (pp dd : Nat → Int32) (hk1 : K1 < N) (he1 : cw K1 = .inl (cs 0, 8, .inl pp)) (hk2 : K2 < N) (he2 : cw K2 = .inl (cs 0, 8, .inl dd)) (h8 : sz1 ≤ 8) : Met l y_G_holder w_G_holder ({ frames := 1, cells := 0, slots := 0, locals := 20 }) (va_Pc [.ref (bk (K))] (PB D classes (TY cs) N bk cw sz)) (vp_Si (fun r => r = if 0 ≤ pl ∧ pl < sz1 then pp pl.toNatClampNeg else -1)) 0 0 (fun _ => False) := by
  refine pw_entry (cc := b_G_holder) (maxL := 1) (ret := (some .int)) (by decide +kernel) rfl (Nat.le_of_ble_eq_true rfl) ?_
  intro p_ e_ s m below_ meth_ c_ ls hx hb hr hml hts hown hlocks hin hsz hP hK hD hS hA hN hl
  have hw : ∀ w ∈ WA, w.before _ s = true := fun w h => hts w (List.mem_cons_of_mem _ h)
  have hown : s.vm.findClass "IssueRows$Routing" = some m.cls := hown
  have hl : lv_has ls 1 [(0, .ref (bk (K)))] := hl
  refine lv_aload_n hx hb d_G_holder_0 rfl (lv_at hl 0 rfl) ?_
  refine pw_callSi (va_runV (As := []) (rest := []) ⟨hx, hb, hml, hown, hw⟩ (c_G_isOut l D cs N bk cw s.heap.size (K) (K1) (K2) hk sz1 pl si he) (cw_V 0 hw kM_G_28 kI_G_isOut kV_G_isOut kZ_G kC_G_isOut rfl rfl ⟨rfl, by decide, by decide, by decide +kernel⟩ ⟨Nat.le_of_ble_eq_true rfl, Nat.le_of_ble_eq_true rfl⟩) (pw_preV hN hK hP hD (K) hk he rfl) rfl rfl hl.1 rfl (lv_room (Nat.le_of_ble_eq_true rfl)) d_G_holder_1 ⟨Nat.le_of_ble_eq_true rfl, Nat.le_of_ble_eq_true rfl⟩) (fun r_1 hr_1 => ?_)
  have hr_1 : r_1 = bI (0 ≤ pl ∧ pl < sz1) := hr_1
  subst hr_1
  refine pw_ifeq (tgt := 19) hx hb d_G_holder_4 (by decide) (fun c_2 => ?_) (fun c_2 => ?_)
  · have c_2 : ¬ (0 ≤ pl ∧ pl < sz1) := c_2
    refine lv_iconst (v := -1) hx hb d_G_holder_19 (by decide) ?_
    exact W.iret (v := -1) hx hb hr (fun t ht hW => ⟨-1, rfl, (if_neg c_2).symm, ht⟩) (fun q h => by cases h) d_G_holder_20
  · have c_2 : 0 ≤ pl ∧ pl < sz1 := c_2
    refine lv_aload_n hx hb d_G_holder_7 rfl (lv_at hl 0 rfl) ?_
    refine pw_get (ci := 3) (v := .ref (bk (K1))) hx hb hw i_G hown hK hP (K) hk he rfl 0 (by decide) (hw _ kF_G_9) rfl d_G_holder_8 ?_
    refine lv_aload_n hx hb d_G_holder_11 rfl (lv_at hl 0 rfl) ?_
    refine pw_get (ci := 3) (v := .int (pl)) hx hb hw i_G hown hK hP (K) hk he rfl 3 (by decide) (hw _ kF_G_22) rfl d_G_holder_12 ?_
    refine pw_ialdC (n := 8) (f := pp) hx hb hK hP 0 (K1) hk1 he1 rfl (vp_in_iff.mpr (by have h9 := h8; have h7 := c_2; simp only [Int32.lt_iff_toInt_lt, Int32.le_iff_toInt_le, ← Int32.toInt_inj, T0, T1, T2, T3, T4, T5, T6, T7, T8, T9, T10, T40, T50, T99, T100, T200, T999, T1000, T9999, T1000000, T10000000, T1000000000, Tm1] at h9 h7 ⊢; omega)) d_G_holder_15 ?_
    refine lv_goto (tgt := 20) hx hb d_G_holder_16 (by decide) ?_
    exact W.iret (v := pp (pl).toNatClampNeg) hx hb hr (fun t ht hW => ⟨pp (pl).toNatClampNeg, rfl, (if_pos c_2).symm, ht⟩) (fun q h => by cases h) d_G_holder_20
set_option maxHeartbeats 4000000 in
set_option maxRecDepth 100000 in
theorem c_G_add (l : Launch) (D : va_G) (cs : Nat → ClassId) (N : Nat) (bk : Nat → Nat) (cw : Nat → va_E) (sz : Nat) (K K1 K2 : Nat) (hk : K < N) (sz1 pl si : Int32) (he : cw K = .inr (3, [.ref (bk K1), .ref (bk K2), .int sz1, .int pl, .int si])) (pp dd : Nat → Int32) (hk1 : K1 < N) (he1 : cw K1 = .inl (cs 0, 8, .inl pp)) (hk2 : K2 < N) (he2 : cw K2 = .inl (cs 0, 8, .inl dd)) (n1 : K ≠ K1) (n2 : K ≠ K2) (n3 : K1 ≠ K2) (h0 : 0 ≤ sz1) (person loan : Int32) : Met l y_G_add w_G_add ({ frames := 1, cells := 0, slots := 0, locals := 20 }) (va_Pc [.ref (bk (K)), .int (person), .int (loan)] (PB D classes (TY cs) N bk cw sz)) (va_Qv (fun u : Wt => (8 ≤ sz1 → u = (N, bk, cw)) ∧ (¬ 8 ≤ sz1 → u = (N, bk, va_up (va_up (va_up cw K1 (.inl (cs 0, 8, .inl (upd pp sz1.toNatClampNeg person)))) K2 (.inl (cs 0, 8, .inl (upd dd sz1.toNatClampNeg loan)))) K (.inr (3, [.ref (bk K1), .ref (bk K2), .int (sz1 + 1), .int pl, .int si]))))) (Wd D classes (TY cs) (AA N bk sz)) (AA N bk sz)) 0 0 (AA N bk sz) := by
  refine pw_entry (cc := b_G_add) (maxL := 3) (ret := none) (by decide +kernel) rfl (Nat.le_of_ble_eq_true rfl) ?_
  intro p_ e_ s m below_ meth_ c_ ls hx hb hr hml hts hown hlocks hin hsz hP hK hD hS hA hN hl
  have hw : ∀ w ∈ WA, w.before _ s = true := fun w h => hts w (List.mem_cons_of_mem _ h)
  have hown : s.vm.findClass "IssueRows$Routing" = some m.cls := hown
  have hl : lv_has ls 3 [(0, .ref (bk (K))), (1, .int (person)), (2, .int (loan))] := hl
  refine lv_aload_n hx hb d_G_add_0 rfl (lv_at hl 0 rfl) ?_
  refine pw_callSi (va_runV (As := []) (rest := []) ⟨hx, hb, hml, hown, hw⟩ (c_G_isFull l D cs N bk cw s.heap.size (K) (K1) (K2) hk sz1 pl si he) (cw_V 0 hw kM_G_32 kI_G_isFull kV_G_isFull kZ_G kC_G_isFull rfl rfl ⟨rfl, by decide, by decide, by decide +kernel⟩ ⟨Nat.le_of_ble_eq_true rfl, Nat.le_of_ble_eq_true rfl⟩) (pw_preV hN hK hP hD (K) hk he rfl) rfl rfl hl.1 rfl (lv_room (Nat.le_of_ble_eq_true rfl)) d_G_add_1 ⟨Nat.le_of_ble_eq_true rfl, Nat.le_of_ble_eq_true rfl⟩) (fun r_1 hr_1 => ?_)
  have hr_1 : r_1 = bI (8 ≤ sz1) := hr_1
  subst hr_1
  refine pw_ifne (tgt := 37) hx hb d_G_add_4 (by decide) (fun c_2 => ?_) (fun c_2 => ?_)
  · have c_2 : 8 ≤ sz1 := c_2
    exact W.vret hx hb hr (fun t ht hW => ⟨⟨(N, bk, cw), rfl, ⟨fun _ => rfl, fun h => absurd c_2 h⟩, by rw [ht]; exact hP, va_K.moved hW.alike hK, hD⟩, hS.F ht⟩) hS.2.2 d_G_add_37
  · have c_2 : ¬ (8 ≤ sz1) := c_2
    refine lv_aload_n hx hb d_G_add_7 rfl (lv_at hl 0 rfl) ?_
    refine pw_get (ci := 3) (v := .ref (bk (K1))) hx hb hw i_G hown hK hP (K) hk he rfl 0 (by decide) (hw _ kF_G_9) rfl d_G_add_8 ?_
    refine lv_aload_n hx hb d_G_add_11 rfl (lv_at hl 0 rfl) ?_
    refine pw_get (ci := 3) (v := .int (sz1)) hx hb hw i_G hown hK hP (K) hk he rfl 2 (by decide) (hw _ kF_G_18) rfl d_G_add_12 ?_
    refine lv_iload_n hx hb d_G_add_15 rfl (lv_at hl 1 rfl) ?_
    refine pw_iastC (n := 8) (f := pp) hx hb hK hP hD hS 0 (K1) hk1 he1 rfl (vp_in_iff.mpr (by have h9 := h0; have h7 := c_2; simp only [Int32.lt_iff_toInt_lt, Int32.le_iff_toInt_le, ← Int32.toInt_inj, T0, T1, T2, T3, T4, T5, T6, T7, T8, T9, T10, T40, T50, T99, T100, T200, T999, T1000, T9999, T1000000, T10000000, T1000000000, Tm1] at h9 h7 ⊢; omega)) d_G_add_16 (fun cw_3 H locs ecw_3 hP hD hS => ?_)
    have h_4 : cw_3 (K) = .inr (3, [.ref (bk (K1)), .ref (bk (K2)), .int (sz1), .int (pl), .int (si)]) := by rw [ecw_3, va_up_ne _ _ (by omega)]; exact he
    have h_5 : cw_3 (K1) = .inl (cs 0, 8, .inl (upd pp (sz1).toNatClampNeg (person))) := by rw [ecw_3]; exact va_up_self _ _ _
    have h_6 : cw_3 (K2) = .inl (cs 0, 8, .inl dd) := by rw [ecw_3, va_up_ne _ _ (by omega)]; exact he2
    refine lv_aload_n hx hb d_G_add_17 rfl (lv_at hl 0 rfl) ?_
    refine pw_get (ci := 3) (v := .ref (bk (K2))) hx hb hw i_G hown hK hP (K) hk h_4 rfl 1 (by decide) (hw _ kF_G_15) rfl d_G_add_18 ?_
    refine lv_aload_n hx hb d_G_add_21 rfl (lv_at hl 0 rfl) ?_
    refine pw_get (ci := 3) (v := .int (sz1)) hx hb hw i_G hown hK hP (K) hk h_4 rfl 2 (by decide) (hw _ kF_G_18) rfl d_G_add_22 ?_
    refine lv_iload_n hx hb d_G_add_25 rfl (lv_at hl 2 rfl) ?_
    refine pw_iastC (n := 8) (f := dd) hx hb hK hP hD hS 0 (K2) hk2 h_6 rfl (vp_in_iff.mpr (by have h9 := h0; have h7 := c_2; simp only [Int32.lt_iff_toInt_lt, Int32.le_iff_toInt_le, ← Int32.toInt_inj, T0, T1, T2, T3, T4, T5, T6, T7, T8, T9, T10, T40, T50, T99, T100, T200, T999, T1000, T9999, T1000000, T10000000, T1000000000, Tm1] at h9 h7 ⊢; omega)) d_G_add_26 (fun cw_7 H locs ecw_7 hP hD hS => ?_)
    have h_8 : cw_7 (K) = .inr (3, [.ref (bk (K1)), .ref (bk (K2)), .int (sz1), .int (pl), .int (si)]) := by rw [ecw_7, va_up_ne _ _ (by omega)]; exact h_4
    have h_9 : cw_7 (K1) = .inl (cs 0, 8, .inl (upd pp (sz1).toNatClampNeg (person))) := by rw [ecw_7, va_up_ne _ _ (by omega)]; exact h_5
    have h_10 : cw_7 (K2) = .inl (cs 0, 8, .inl (upd dd (sz1).toNatClampNeg (loan))) := by rw [ecw_7]; exact va_up_self _ _ _
    refine lv_aload_n hx hb d_G_add_27 rfl (lv_at hl 0 rfl) ?_
    refine lv_dup hx hb d_G_add_28 rfl ?_
    refine pw_get (ci := 3) (v := .int (sz1)) hx hb hw i_G hown hK hP (K) hk h_8 rfl 2 (by decide) (hw _ kF_G_18) rfl d_G_add_29 ?_
    refine lv_iconst (v := 1) hx hb d_G_add_32 (by decide) ?_
    refine lv_iadd hx hb d_G_add_33 ?_
    refine pw_put (ci := 3) (v := .int (sz1 + 1)) (ty := .int) (fs' := [.ref (bk (K1)), .ref (bk (K2)), .int (sz1 + 1), .int (pl), .int (si)]) hx hb hw i_G t_G t_G_ok n_G hown hK hP hD hS (K) hk h_8 rfl 2 (by decide) (hw _ kF_G_18) rfl (t_G_ok 2 (by decide)) rfl rfl (Nat.le_of_ble_eq_true rfl) rfl d_G_add_34 (fun cw_11 H locs ecw_11 hP hD hS => ?_)
    have h_12 : cw_11 (K) = .inr (3, [.ref (bk (K1)), .ref (bk (K2)), .int (sz1 + 1), .int (pl), .int (si)]) := by rw [ecw_11]; exact va_up_self _ _ _
    have h_13 : cw_11 (K1) = .inl (cs 0, 8, .inl (upd pp (sz1).toNatClampNeg (person))) := by rw [ecw_11, va_up_ne _ _ (by omega)]; exact h_9
    have h_14 : cw_11 (K2) = .inl (cs 0, 8, .inl (upd dd (sz1).toNatClampNeg (loan))) := by rw [ecw_11, va_up_ne _ _ (by omega)]; exact h_10
    exact W.vret hx hb hr (fun t ht hW => ⟨⟨(N, bk, cw_11), rfl, ⟨fun h => absurd h c_2, fun _ => by rw [ecw_11, ecw_7, ecw_3]⟩, by rw [ht]; exact hP, va_K.moved hW.alike hK, hD⟩, hS.F ht⟩) hS.2.2 d_G_add_37
set_option maxHeartbeats 4000000 in
set_option maxRecDepth 100000 in
theorem c_G_passOn (l : Launch) (D : va_G) (cs : Nat → ClassId) (N : Nat) (bk : Nat → Nat) (cw : Nat → va_E) (sz : Nat) (K K1 K2 : Nat) (hk : K < N) (sz1 pl si : Int32) (he : cw K = .inr (3, [.ref (bk K1), .ref (bk K2), .int sz1, .int pl, .int si])) (day : Int32) : Met l y_G_passOn w_G_passOn ({ frames := 0, cells := 0, slots := 0, locals := 0 }) (va_Pc [.ref (bk (K)), .int (day)] (PB D classes (TY cs) N bk cw sz)) (va_Qv (fun u : Wt => (pl < sz1 → u = (N, bk, va_up cw K (.inr (3, [.ref (bk K1), .ref (bk K2), .int sz1, .int (pl + 1), .int day])))) ∧ (¬ pl < sz1 → u = (N, bk, cw))) (Wd D classes (TY cs) (AA N bk sz)) (AA N bk sz)) 0 0 (AA N bk sz) := by
  refine pw_entry (cc := b_G_passOn) (maxL := 2) (ret := none) (by decide +kernel) rfl (Nat.le_of_ble_eq_true rfl) ?_
  intro p_ e_ s m below_ meth_ c_ ls hx hb hr hml hts hown hlocks hin hsz hP hK hD hS hA hN hl
  have hw : ∀ w ∈ WA, w.before _ s = true := fun w h => hts w (List.mem_cons_of_mem _ h)
  have hown : s.vm.findClass "IssueRows$Routing" = some m.cls := hown
  have hl : lv_has ls 2 [(0, .ref (bk (K))), (1, .int (day))] := hl
  refine lv_aload_n hx hb d_G_passOn_0 rfl (lv_at hl 0 rfl) ?_
  refine pw_get (ci := 3) (v := .int (pl)) hx hb hw i_G hown hK hP (K) hk he rfl 3 (by decide) (hw _ kF_G_22) rfl d_G_passOn_1 ?_
  refine lv_aload_n hx hb d_G_passOn_4 rfl (lv_at hl 0 rfl) ?_
  refine pw_get (ci := 3) (v := .int (sz1)) hx hb hw i_G hown hK hP (K) hk he rfl 2 (by decide) (hw _ kF_G_18) rfl d_G_passOn_5 ?_
  refine lv_icmp_ge (tgt := 26) hx hb d_G_passOn_8 (by decide) (fun c_1 => ?_) (fun c_1 => ?_)
  · have c_1 : sz1 ≤ pl := c_1
    exact W.vret hx hb hr (fun t ht hW => ⟨⟨(N, bk, cw), rfl, ⟨fun h => absurd h (Int32.not_lt.mpr c_1), fun _ => rfl⟩, by rw [ht]; exact hP, va_K.moved hW.alike hK, hD⟩, hS.F ht⟩) hS.2.2 d_G_passOn_26
  · have c_1 : ¬ sz1 ≤ pl := c_1
    refine lv_aload_n hx hb d_G_passOn_11 rfl (lv_at hl 0 rfl) ?_
    refine lv_dup hx hb d_G_passOn_12 rfl ?_
    refine pw_get (ci := 3) (v := .int (pl)) hx hb hw i_G hown hK hP (K) hk he rfl 3 (by decide) (hw _ kF_G_22) rfl d_G_passOn_13 ?_
    refine lv_iconst (v := 1) hx hb d_G_passOn_16 (by decide) ?_
    refine lv_iadd hx hb d_G_passOn_17 ?_
    refine pw_put (ci := 3) (v := .int (pl + 1)) (ty := .int) (fs' := [.ref (bk (K1)), .ref (bk (K2)), .int (sz1), .int (pl + 1), .int (si)]) hx hb hw i_G t_G t_G_ok n_G hown hK hP hD hS (K) hk he rfl 3 (by decide) (hw _ kF_G_22) rfl (t_G_ok 3 (by decide)) rfl rfl (Nat.le_of_ble_eq_true rfl) rfl d_G_passOn_18 (fun cw_2 H locs ecw_2 hP hD hS => ?_)
    have h_3 : cw_2 (K) = .inr (3, [.ref (bk (K1)), .ref (bk (K2)), .int (sz1), .int (pl + 1), .int (si)]) := by rw [ecw_2]; exact va_up_self _ _ _
    refine lv_aload_n hx hb d_G_passOn_21 rfl (lv_at hl 0 rfl) ?_
    refine lv_iload_n hx hb d_G_passOn_22 rfl (lv_at hl 1 rfl) ?_
    refine pw_put (ci := 3) (v := .int (day)) (ty := .int) (fs' := [.ref (bk (K1)), .ref (bk (K2)), .int (sz1), .int (pl + 1), .int (day)]) hx hb hw i_G t_G t_G_ok n_G hown hK hP hD hS (K) hk h_3 rfl 4 (by decide) (hw _ kF_G_25) rfl (t_G_ok 4 (by decide)) rfl rfl (Nat.le_of_ble_eq_true rfl) rfl d_G_passOn_23 (fun cw_4 H locs ecw_4 hP hD hS => ?_)
    have h_5 : cw_4 (K) = .inr (3, [.ref (bk (K1)), .ref (bk (K2)), .int (sz1), .int (pl + 1), .int (day)]) := by rw [ecw_4]; exact va_up_self _ _ _
    exact W.vret hx hb hr (fun t ht hW => ⟨⟨(N, bk, cw_4), rfl, ⟨fun _ => by rw [ecw_4, ecw_2, bx_uu], fun h => absurd (Int32.not_le.mp c_1) h⟩, by rw [ht]; exact hP, va_K.moved hW.alike hK, hD⟩, hS.F ht⟩) hS.2.2 d_G_passOn_26
set_option maxHeartbeats 4000000 in
set_option maxRecDepth 100000 in
theorem c_I_isAwaited (l : Launch) (D : va_G) (cs : Nat → ClassId) (N : Nat) (bk : Nat → Nat) (cw : Nat → va_E) (sz : Nat) (K KR : Nat) (hk : K < N) (nu pa od ex rp sa cl cd co ca vo rb ce : Int32) (he : cw K = .inr (2, [.int nu, .int pa, .int od, .int ex, .int rp, .ref (bk KR), .int sa, .int cl, .int cd, .int co, .int ca, .int vo, .int rb, .int ce])) : Met l y_I_isAwaited w_I_isAwaited ({ frames := 0, cells := 0, slots := 0, locals := 0 }) (va_Pc [.ref (bk (K))] (PB D classes (TY cs) N bk cw sz)) (vp_Si (fun r => r = bI (sa = 0 ∨ sa = 1 ∨ sa = 2 ∨ sa = 4))) 0 0 (fun _ => False) := by
  refine pw_entry (cc := b_I_isAwaited) (maxL := 1) (ret := (some .boolean)) (by decide +kernel) rfl (Nat.le_of_ble_eq_true rfl) ?_
  intro p_ e_ s m below_ meth_ c_ ls hx hb hr hml hts hown hlocks hin hsz hP hK hD hS hA hN hl
  have hw : ∀ w ∈ WA, w.before _ s = true := fun w h => hts w (List.mem_cons_of_mem _ h)
  have hown : s.vm.findClass "IssueRows$Issue" = some m.cls := hown
  have hl : lv_has ls 1 [(0, .ref (bk (K)))] := hl
  refine lv_aload_n hx hb d_I_isAwaited_0 rfl (lv_at hl 0 rfl) ?_
  refine pw_get (ci := 2) (v := .int (sa)) hx hb hw i_I hown hK hP (K) hk he rfl 6 (by decide) (hw _ kF_I_56) rfl d_I_isAwaited_1 ?_
  refine lv_if_eq (tgt := 31) hx hb d_I_isAwaited_4 (by decide) (fun c_1 => ?_) (fun c_1 => ?_)
  · have c_1 : sa = 0 := c_1
    refine lv_iconst (v := 1) hx hb d_I_isAwaited_31 (by decide) ?_
    refine lv_goto (tgt := 36) hx hb d_I_isAwaited_32 (by decide) ?_
    exact W.zret (v := 1) (ty := .boolean) hx hb hr (by decide) (fun t ht hW => ⟨1, rfl, (bI_t (by simp only [Int32.lt_iff_toInt_lt, Int32.le_iff_toInt_le, ← Int32.toInt_inj, T0, T1, T2, T3, T4, T5, T6, T7, T8, T9, T10, T40, T50, T99, T100, T200, T999, T1000, T9999, T1000000, T10000000, T1000000000, Tm1] at c_1 ⊢; omega)).symm, ht⟩) (fun q h => by cases h) d_I_isAwaited_36
  · have c_1 : ¬ sa = 0 := c_1
    refine lv_aload_n hx hb d_I_isAwaited_7 rfl (lv_at hl 0 rfl) ?_
    refine pw_get (ci := 2) (v := .int (sa)) hx hb hw i_I hown hK hP (K) hk he rfl 6 (by decide) (hw _ kF_I_56) rfl d_I_isAwaited_8 ?_
    refine lv_iconst (v := 1) hx hb d_I_isAwaited_11 (by decide) ?_
    refine lv_icmp_eq (tgt := 31) hx hb d_I_isAwaited_12 (by decide) (fun c_2 => ?_) (fun c_2 => ?_)
    · have c_2 : sa = 1 := c_2
      refine lv_iconst (v := 1) hx hb d_I_isAwaited_31 (by decide) ?_
      refine lv_goto (tgt := 36) hx hb d_I_isAwaited_32 (by decide) ?_
      exact W.zret (v := 1) (ty := .boolean) hx hb hr (by decide) (fun t ht hW => ⟨1, rfl, (bI_t (by simp only [Int32.lt_iff_toInt_lt, Int32.le_iff_toInt_le, ← Int32.toInt_inj, T0, T1, T2, T3, T4, T5, T6, T7, T8, T9, T10, T40, T50, T99, T100, T200, T999, T1000, T9999, T1000000, T10000000, T1000000000, Tm1] at c_1 c_2 ⊢; omega)).symm, ht⟩) (fun q h => by cases h) d_I_isAwaited_36
    · have c_2 : ¬ sa = 1 := c_2
      refine lv_aload_n hx hb d_I_isAwaited_15 rfl (lv_at hl 0 rfl) ?_
      refine pw_get (ci := 2) (v := .int (sa)) hx hb hw i_I hown hK hP (K) hk he rfl 6 (by decide) (hw _ kF_I_56) rfl d_I_isAwaited_16 ?_
      refine lv_iconst (v := 2) hx hb d_I_isAwaited_19 (by decide) ?_
      refine lv_icmp_eq (tgt := 31) hx hb d_I_isAwaited_20 (by decide) (fun c_3 => ?_) (fun c_3 => ?_)
      · have c_3 : sa = 2 := c_3
        refine lv_iconst (v := 1) hx hb d_I_isAwaited_31 (by decide) ?_
        refine lv_goto (tgt := 36) hx hb d_I_isAwaited_32 (by decide) ?_
        exact W.zret (v := 1) (ty := .boolean) hx hb hr (by decide) (fun t ht hW => ⟨1, rfl, (bI_t (by simp only [Int32.lt_iff_toInt_lt, Int32.le_iff_toInt_le, ← Int32.toInt_inj, T0, T1, T2, T3, T4, T5, T6, T7, T8, T9, T10, T40, T50, T99, T100, T200, T999, T1000, T9999, T1000000, T10000000, T1000000000, Tm1] at c_1 c_2 c_3 ⊢; omega)).symm, ht⟩) (fun q h => by cases h) d_I_isAwaited_36
      · have c_3 : ¬ sa = 2 := c_3
        refine lv_aload_n hx hb d_I_isAwaited_23 rfl (lv_at hl 0 rfl) ?_
        refine pw_get (ci := 2) (v := .int (sa)) hx hb hw i_I hown hK hP (K) hk he rfl 6 (by decide) (hw _ kF_I_56) rfl d_I_isAwaited_24 ?_
        refine lv_iconst (v := 4) hx hb d_I_isAwaited_27 (by decide) ?_
        refine lv_icmp_ne (tgt := 35) hx hb d_I_isAwaited_28 (by decide) (fun c_4 => ?_) (fun c_4 => ?_)
        · have c_4 : ¬ sa = 4 := c_4
          refine lv_iconst (v := 0) hx hb d_I_isAwaited_35 (by decide) ?_
          exact W.zret (v := 0) (ty := .boolean) hx hb hr (by decide) (fun t ht hW => ⟨0, rfl, (bI_f (by simp only [Int32.lt_iff_toInt_lt, Int32.le_iff_toInt_le, ← Int32.toInt_inj, T0, T1, T2, T3, T4, T5, T6, T7, T8, T9, T10, T40, T50, T99, T100, T200, T999, T1000, T9999, T1000000, T10000000, T1000000000, Tm1] at c_1 c_2 c_3 c_4 ⊢; omega)).symm, ht⟩) (fun q h => by cases h) d_I_isAwaited_36
        · have c_4 : sa = 4 := c_4
          refine lv_iconst (v := 1) hx hb d_I_isAwaited_31 (by decide) ?_
          refine lv_goto (tgt := 36) hx hb d_I_isAwaited_32 (by decide) ?_
          exact W.zret (v := 1) (ty := .boolean) hx hb hr (by decide) (fun t ht hW => ⟨1, rfl, (bI_t (by simp only [Int32.lt_iff_toInt_lt, Int32.le_iff_toInt_le, ← Int32.toInt_inj, T0, T1, T2, T3, T4, T5, T6, T7, T8, T9, T10, T40, T50, T99, T100, T200, T999, T1000, T9999, T1000000, T10000000, T1000000000, Tm1] at c_1 c_2 c_3 c_4 ⊢; omega)).symm, ht⟩) (fun q h => by cases h) d_I_isAwaited_36
set_option maxHeartbeats 4000000 in
set_option maxRecDepth 100000 in
theorem c_I_isThere (l : Launch) (D : va_G) (cs : Nat → ClassId) (N : Nat) (bk : Nat → Nat) (cw : Nat → va_E) (sz : Nat) (K KR : Nat) (hk : K < N) (nu pa od ex rp sa cl cd co ca vo rb ce : Int32) (he : cw K = .inr (2, [.int nu, .int pa, .int od, .int ex, .int rp, .ref (bk KR), .int sa, .int cl, .int cd, .int co, .int ca, .int vo, .int rb, .int ce])) : Met l y_I_isThere w_I_isThere ({ frames := 0, cells := 0, slots := 0, locals := 0 }) (va_Pc [.ref (bk (K))] (PB D classes (TY cs) N bk cw sz)) (vp_Si (fun r => r = bI (sa = 3 ∨ sa = 5))) 0 0 (fun _ => False) := by
  refine pw_entry (cc := b_I_isThere) (maxL := 1) (ret := (some .boolean)) (by decide +kernel) rfl (Nat.le_of_ble_eq_true rfl) ?_
  intro p_ e_ s m below_ meth_ c_ ls hx hb hr hml hts hown hlocks hin hsz hP hK hD hS hA hN hl
  have hw : ∀ w ∈ WA, w.before _ s = true := fun w h => hts w (List.mem_cons_of_mem _ h)
  have hown : s.vm.findClass "IssueRows$Issue" = some m.cls := hown
  have hl : lv_has ls 1 [(0, .ref (bk (K)))] := hl
  refine lv_aload_n hx hb d_I_isThere_0 rfl (lv_at hl 0 rfl) ?_
  refine pw_get (ci := 2) (v := .int (sa)) hx hb hw i_I hown hK hP (K) hk he rfl 6 (by decide) (hw _ kF_I_56) rfl d_I_isThere_1 ?_
  refine lv_iconst (v := 3) hx hb d_I_isThere_4 (by decide) ?_
  refine lv_icmp_eq (tgt := 16) hx hb d_I_isThere_5 (by decide) (fun c_1 => ?_) (fun c_1 => ?_)
  · have c_1 : sa = 3 := c_1
    refine lv_iconst (v := 1) hx hb d_I_isThere_16 (by decide) ?_
    refine lv_goto (tgt := 21) hx hb d_I_isThere_17 (by decide) ?_
    exact W.zret (v := 1) (ty := .boolean) hx hb hr (by decide) (fun t ht hW => ⟨1, rfl, (bI_t (by simp only [Int32.lt_iff_toInt_lt, Int32.le_iff_toInt_le, ← Int32.toInt_inj, T0, T1, T2, T3, T4, T5, T6, T7, T8, T9, T10, T40, T50, T99, T100, T200, T999, T1000, T9999, T1000000, T10000000, T1000000000, Tm1] at c_1 ⊢; omega)).symm, ht⟩) (fun q h => by cases h) d_I_isThere_21
  · have c_1 : ¬ sa = 3 := c_1
    refine lv_aload_n hx hb d_I_isThere_8 rfl (lv_at hl 0 rfl) ?_
    refine pw_get (ci := 2) (v := .int (sa)) hx hb hw i_I hown hK hP (K) hk he rfl 6 (by decide) (hw _ kF_I_56) rfl d_I_isThere_9 ?_
    refine lv_iconst (v := 5) hx hb d_I_isThere_12 (by decide) ?_
    refine lv_icmp_ne (tgt := 20) hx hb d_I_isThere_13 (by decide) (fun c_2 => ?_) (fun c_2 => ?_)
    · have c_2 : ¬ sa = 5 := c_2
      refine lv_iconst (v := 0) hx hb d_I_isThere_20 (by decide) ?_
      exact W.zret (v := 0) (ty := .boolean) hx hb hr (by decide) (fun t ht hW => ⟨0, rfl, (bI_f (by simp only [Int32.lt_iff_toInt_lt, Int32.le_iff_toInt_le, ← Int32.toInt_inj, T0, T1, T2, T3, T4, T5, T6, T7, T8, T9, T10, T40, T50, T99, T100, T200, T999, T1000, T9999, T1000000, T10000000, T1000000000, Tm1] at c_1 c_2 ⊢; omega)).symm, ht⟩) (fun q h => by cases h) d_I_isThere_21
    · have c_2 : sa = 5 := c_2
      refine lv_iconst (v := 1) hx hb d_I_isThere_16 (by decide) ?_
      refine lv_goto (tgt := 21) hx hb d_I_isThere_17 (by decide) ?_
      exact W.zret (v := 1) (ty := .boolean) hx hb hr (by decide) (fun t ht hW => ⟨1, rfl, (bI_t (by simp only [Int32.lt_iff_toInt_lt, Int32.le_iff_toInt_le, ← Int32.toInt_inj, T0, T1, T2, T3, T4, T5, T6, T7, T8, T9, T10, T40, T50, T99, T100, T200, T999, T1000, T9999, T1000000, T10000000, T1000000000, Tm1] at c_1 c_2 ⊢; omega)).symm, ht⟩) (fun q h => by cases h) d_I_isThere_21
set_option maxHeartbeats 4000000 in
set_option maxRecDepth 100000 in
theorem c_I_isReplaceable (l : Launch) (D : va_G) (cs : Nat → ClassId) (N : Nat) (bk : Nat → Nat) (cw : Nat → va_E) (sz : Nat) (K KR : Nat) (hk : K < N) (nu pa od ex rp sa cl cd co ca vo rb ce : Int32) (he : cw K = .inr (2, [.int nu, .int pa, .int od, .int ex, .int rp, .ref (bk KR), .int sa, .int cl, .int cd, .int co, .int ca, .int vo, .int rb, .int ce])) (K1 K2 : Nat) (hkr : KR < N) (sz1 pl si : Int32) (her : cw KR = .inr (3, [.ref (bk K1), .ref (bk K2), .int sz1, .int pl, .int si])) : Met l y_I_isReplaceable w_I_isReplaceable ({ frames := 1, cells := 0, slots := 0, locals := 20 }) (va_Pc [.ref (bk (K))] (PB D classes (TY cs) N bk cw sz)) (vp_Si (fun r => r = bI ((sa = 3 ∨ sa = 4) ∧ ¬ (0 ≤ pl ∧ pl < sz1)))) 0 0 (fun _ => False) := by
  refine pw_entry (cc := b_I_isReplaceable) (maxL := 1) (ret := (some .boolean)) (by decide +kernel) rfl (Nat.le_of_ble_eq_true rfl) ?_
  intro p_ e_ s m below_ meth_ c_ ls hx hb hr hml hts hown hlocks hin hsz hP hK hD hS hA hN hl
  have hw : ∀ w ∈ WA, w.before _ s = true := fun w h => hts w (List.mem_cons_of_mem _ h)
  have hown : s.vm.findClass "IssueRows$Issue" = some m.cls := hown
  have hl : lv_has ls 1 [(0, .ref (bk (K)))] := hl
  refine lv_aload_n hx hb d_I_isReplaceable_0 rfl (lv_at hl 0 rfl) ?_
  refine pw_get (ci := 2) (v := .int (sa)) hx hb hw i_I hown hK hP (K) hk he rfl 6 (by decide) (hw _ kF_I_56) rfl d_I_isReplaceable_1 ?_
  refine lv_iconst (v := 3) hx hb d_I_isReplaceable_4 (by decide) ?_
  refine lv_icmp_eq (tgt := 16) hx hb d_I_isReplaceable_5 (by decide) (fun c_1 => ?_) (fun c_1 => ?_)
  · have c_1 : sa = 3 := c_1
    refine lv_aload_n hx hb d_I_isReplaceable_16 rfl (lv_at hl 0 rfl) ?_
    refine pw_get (ci := 2) (v := .ref (bk (KR))) hx hb hw i_I hown hK hP (K) hk he rfl 5 (by decide) (hw _ kF_I_12) rfl d_I_isReplaceable_17 ?_
    refine pw_callSi (va_runV (As := []) (rest := []) ⟨hx, hb, hml, hown, hw⟩ (c_G_isOut l D cs N bk cw s.heap.size (KR) (K1) (K2) hkr sz1 pl si her) (cw_V 0 hw kM_I_59 kI_G_isOut kV_G_isOut kZ_G kC_G_isOut rfl rfl ⟨rfl, by decide, by decide, by decide +kernel⟩ ⟨Nat.le_of_ble_eq_true rfl, Nat.le_of_ble_eq_true rfl⟩) (pw_preV hN hK hP hD (KR) hkr her rfl) rfl rfl hl.1 rfl (lv_room (Nat.le_of_ble_eq_true rfl)) d_I_isReplaceable_20 ⟨Nat.le_of_ble_eq_true rfl, Nat.le_of_ble_eq_true rfl⟩) (fun r_2 hr_2 => ?_)
    have hr_2 : r_2 = bI (0 ≤ pl ∧ pl < sz1) := hr_2
    subst hr_2
    refine pw_ifne (tgt := 30) hx hb d_I_isReplaceable_23 (by decide) (fun c_3 => ?_) (fun c_3 => ?_)
    · have c_3 : 0 ≤ pl ∧ pl < sz1 := c_3
      refine lv_iconst (v := 0) hx hb d_I_isReplaceable_30 (by decide) ?_
      exact W.zret (v := 0) (ty := .boolean) hx hb hr (by decide) (fun t ht hW => ⟨0, rfl, (bI_f (fun h => h.2 c_3)).symm, ht⟩) (fun q h => by cases h) d_I_isReplaceable_31
    · have c_3 : ¬ (0 ≤ pl ∧ pl < sz1) := c_3
      refine lv_iconst (v := 1) hx hb d_I_isReplaceable_26 (by decide) ?_
      refine lv_goto (tgt := 31) hx hb d_I_isReplaceable_27 (by decide) ?_
      exact W.zret (v := 1) (ty := .boolean) hx hb hr (by decide) (fun t ht hW => ⟨1, rfl, (bI_t ⟨(Or.inl c_1), c_3⟩).symm, ht⟩) (fun q h => by cases h) d_I_isReplaceable_31
  · have c_1 : ¬ sa = 3 := c_1
    refine lv_aload_n hx hb d_I_isReplaceable_8 rfl (lv_at hl 0 rfl) ?_
    refine pw_get (ci := 2) (v := .int (sa)) hx hb hw i_I hown hK hP (K) hk he rfl 6 (by decide) (hw _ kF_I_56) rfl d_I_isReplaceable_9 ?_
    refine lv_iconst (v := 4) hx hb d_I_isReplaceable_12 (by decide) ?_
    refine lv_icmp_ne (tgt := 30) hx hb d_I_isReplaceable_13 (by decide) (fun c_4 => ?_) (fun c_4 => ?_)
    · have c_4 : ¬ sa = 4 := c_4
      refine lv_iconst (v := 0) hx hb d_I_isReplaceable_30 (by decide) ?_
      exact W.zret (v := 0) (ty := .boolean) hx hb hr (by decide) (fun t ht hW => ⟨0, rfl, (bI_f (fun h => h.1.elim c_1 c_4)).symm, ht⟩) (fun q h => by cases h) d_I_isReplaceable_31
    · have c_4 : sa = 4 := c_4
      refine lv_aload_n hx hb d_I_isReplaceable_16 rfl (lv_at hl 0 rfl) ?_
      refine pw_get (ci := 2) (v := .ref (bk (KR))) hx hb hw i_I hown hK hP (K) hk he rfl 5 (by decide) (hw _ kF_I_12) rfl d_I_isReplaceable_17 ?_
      refine pw_callSi (va_runV (As := []) (rest := []) ⟨hx, hb, hml, hown, hw⟩ (c_G_isOut l D cs N bk cw s.heap.size (KR) (K1) (K2) hkr sz1 pl si her) (cw_V 0 hw kM_I_59 kI_G_isOut kV_G_isOut kZ_G kC_G_isOut rfl rfl ⟨rfl, by decide, by decide, by decide +kernel⟩ ⟨Nat.le_of_ble_eq_true rfl, Nat.le_of_ble_eq_true rfl⟩) (pw_preV hN hK hP hD (KR) hkr her rfl) rfl rfl hl.1 rfl (lv_room (Nat.le_of_ble_eq_true rfl)) d_I_isReplaceable_20 ⟨Nat.le_of_ble_eq_true rfl, Nat.le_of_ble_eq_true rfl⟩) (fun r_5 hr_5 => ?_)
      have hr_5 : r_5 = bI (0 ≤ pl ∧ pl < sz1) := hr_5
      subst hr_5
      refine pw_ifne (tgt := 30) hx hb d_I_isReplaceable_23 (by decide) (fun c_6 => ?_) (fun c_6 => ?_)
      · have c_6 : 0 ≤ pl ∧ pl < sz1 := c_6
        refine lv_iconst (v := 0) hx hb d_I_isReplaceable_30 (by decide) ?_
        exact W.zret (v := 0) (ty := .boolean) hx hb hr (by decide) (fun t ht hW => ⟨0, rfl, (bI_f (fun h => h.2 c_6)).symm, ht⟩) (fun q h => by cases h) d_I_isReplaceable_31
      · have c_6 : ¬ (0 ≤ pl ∧ pl < sz1) := c_6
        refine lv_iconst (v := 1) hx hb d_I_isReplaceable_26 (by decide) ?_
        refine lv_goto (tgt := 31) hx hb d_I_isReplaceable_27 (by decide) ?_
        exact W.zret (v := 1) (ty := .boolean) hx hb hr (by decide) (fun t ht hW => ⟨1, rfl, (bI_t ⟨(Or.inr c_4), c_6⟩).symm, ht⟩) (fun q h => by cases h) d_I_isReplaceable_31
set_option maxHeartbeats 4000000 in
set_option maxRecDepth 100000 in
theorem c_I_arrive (l : Launch) (D : va_G) (cs : Nat → ClassId) (N : Nat) (bk : Nat → Nat) (cw : Nat → va_E) (sz : Nat) (K KR : Nat) (hk : K < N) (nu pa od ex rp sa cl cd co ca vo rb ce : Int32) (he : cw K = .inr (2, [.int nu, .int pa, .int od, .int ex, .int rp, .ref (bk KR), .int sa, .int cl, .int cd, .int co, .int ca, .int vo, .int rb, .int ce])) (cp day : Int32) : Met l y_I_arrive w_I_arrive ({ frames := 0, cells := 0, slots := 0, locals := 0 }) (va_Pc [.ref (bk (K)), .int (cp), .int (day)] (PB D classes (TY cs) N bk cw sz)) (va_Qv (fun u : Wt => u = (N, bk, va_up cw K (.inr (2, [.int nu, .int pa, .int od, .int ex, .int rp, .ref (bk KR), .int (3), .int cl, .int cd, .int (cp), .int (day), .int vo, .int rb, .int ce])))) (Wd D classes (TY cs) (AA N bk sz)) (AA N bk sz)) 0 0 (AA N bk sz) := by
  refine pw_entry (cc := b_I_arrive) (maxL := 3) (ret := none) (by decide +kernel) rfl (Nat.le_of_ble_eq_true rfl) ?_
  intro p_ e_ s m below_ meth_ c_ ls hx hb hr hml hts hown hlocks hin hsz hP hK hD hS hA hN hl
  have hw : ∀ w ∈ WA, w.before _ s = true := fun w h => hts w (List.mem_cons_of_mem _ h)
  have hown : s.vm.findClass "IssueRows$Issue" = some m.cls := hown
  have hl : lv_has ls 3 [(0, .ref (bk (K))), (1, .int (cp)), (2, .int (day))] := hl
  refine lv_aload_n hx hb d_I_arrive_0 rfl (lv_at hl 0 rfl) ?_
  refine lv_iconst (v := 3) hx hb d_I_arrive_1 (by decide) ?_
  refine pw_put (ci := 2) (v := .int (3)) (ty := .int) (fs' := [.int (nu), .int (pa), .int (od), .int (ex), .int (rp), .ref (bk (KR)), .int (3), .int (cl), .int (cd), .int (co), .int (ca), .int (vo), .int (rb), .int (ce)]) hx hb hw i_I t_I t_I_ok n_I hown hK hP hD hS (K) hk he rfl 6 (by decide) (hw _ kF_I_56) rfl (t_I_ok 6 (by decide)) rfl rfl (Nat.le_of_ble_eq_true rfl) rfl d_I_arrive_2 (fun cw_1 H locs ecw_1 hP hD hS => ?_)
  have h_2 : cw_1 (K) = .inr (2, [.int (nu), .int (pa), .int (od), .int (ex), .int (rp), .ref (bk (KR)), .int (3), .int (cl), .int (cd), .int (co), .int (ca), .int (vo), .int (rb), .int (ce)]) := by rw [ecw_1]; exact va_up_self _ _ _
  refine lv_aload_n hx hb d_I_arrive_5 rfl (lv_at hl 0 rfl) ?_
  refine lv_iload_n hx hb d_I_arrive_6 rfl (lv_at hl 1 rfl) ?_
  refine pw_put (ci := 2) (v := .int (cp)) (ty := .int) (fs' := [.int (nu), .int (pa), .int (od), .int (ex), .int (rp), .ref (bk (KR)), .int (3), .int (cl), .int (cd), .int (cp), .int (ca), .int (vo), .int (rb), .int (ce)]) hx hb hw i_I t_I t_I_ok n_I hown hK hP hD hS (K) hk h_2 rfl 9 (by decide) (hw _ kF_I_25) rfl (t_I_ok 9 (by decide)) rfl rfl (Nat.le_of_ble_eq_true rfl) rfl d_I_arrive_7 (fun cw_3 H locs ecw_3 hP hD hS => ?_)
  have h_4 : cw_3 (K) = .inr (2, [.int (nu), .int (pa), .int (od), .int (ex), .int (rp), .ref (bk (KR)), .int (3), .int (cl), .int (cd), .int (cp), .int (ca), .int (vo), .int (rb), .int (ce)]) := by rw [ecw_3]; exact va_up_self _ _ _
  refine lv_aload_n hx hb d_I_arrive_10 rfl (lv_at hl 0 rfl) ?_
  refine lv_iload_n hx hb d_I_arrive_11 rfl (lv_at hl 2 rfl) ?_
  refine pw_put (ci := 2) (v := .int (day)) (ty := .int) (fs' := [.int (nu), .int (pa), .int (od), .int (ex), .int (rp), .ref (bk (KR)), .int (3), .int (cl), .int (cd), .int (cp), .int (day), .int (vo), .int (rb), .int (ce)]) hx hb hw i_I t_I t_I_ok n_I hown hK hP hD hS (K) hk h_4 rfl 10 (by decide) (hw _ kF_I_28) rfl (t_I_ok 10 (by decide)) rfl rfl (Nat.le_of_ble_eq_true rfl) rfl d_I_arrive_12 (fun cw_5 H locs ecw_5 hP hD hS => ?_)
  have h_6 : cw_5 (K) = .inr (2, [.int (nu), .int (pa), .int (od), .int (ex), .int (rp), .ref (bk (KR)), .int (3), .int (cl), .int (cd), .int (cp), .int (day), .int (vo), .int (rb), .int (ce)]) := by rw [ecw_5]; exact va_up_self _ _ _
  exact W.vret hx hb hr (fun t ht hW => ⟨⟨(N, bk, cw_5), rfl, by rw [ecw_5, ecw_3, ecw_1, bx_uu, bx_uu], by rw [ht]; exact hP, va_K.moved hW.alike hK, hD⟩, hS.F ht⟩) hS.2.2 d_I_arrive_15
set_option maxHeartbeats 4000000 in
set_option maxRecDepth 100000 in
theorem c_I_claimOn (l : Launch) (D : va_G) (cs : Nat → ClassId) (N : Nat) (bk : Nat → Nat) (cw : Nat → va_E) (sz : Nat) (K KR : Nat) (hk : K < N) (nu pa od ex rp sa cl cd co ca vo rb ce : Int32) (he : cw K = .inr (2, [.int nu, .int pa, .int od, .int ex, .int rp, .ref (bk KR), .int sa, .int cl, .int cd, .int co, .int ca, .int vo, .int rb, .int ce])) (day : Int32) : Met l y_I_claimOn w_I_claimOn ({ frames := 0, cells := 0, slots := 0, locals := 0 }) (va_Pc [.ref (bk (K)), .int (day)] (PB D classes (TY cs) N bk cw sz)) (va_Qv (fun u : Wt => u = (N, bk, va_up cw K (.inr (2, [.int nu, .int pa, .int od, .int ex, .int rp, .ref (bk KR), .int (2), .int (cl + 1), .int (day), .int co, .int ca, .int vo, .int rb, .int ce])))) (Wd D classes (TY cs) (AA N bk sz)) (AA N bk sz)) 0 0 (AA N bk sz) := by
  refine pw_entry (cc := b_I_claimOn) (maxL := 2) (ret := none) (by decide +kernel) rfl (Nat.le_of_ble_eq_true rfl) ?_
  intro p_ e_ s m below_ meth_ c_ ls hx hb hr hml hts hown hlocks hin hsz hP hK hD hS hA hN hl
  have hw : ∀ w ∈ WA, w.before _ s = true := fun w h => hts w (List.mem_cons_of_mem _ h)
  have hown : s.vm.findClass "IssueRows$Issue" = some m.cls := hown
  have hl : lv_has ls 2 [(0, .ref (bk (K))), (1, .int (day))] := hl
  refine lv_aload_n hx hb d_I_claimOn_0 rfl (lv_at hl 0 rfl) ?_
  refine lv_iconst (v := 2) hx hb d_I_claimOn_1 (by decide) ?_
  refine pw_put (ci := 2) (v := .int (2)) (ty := .int) (fs' := [.int (nu), .int (pa), .int (od), .int (ex), .int (rp), .ref (bk (KR)), .int (2), .int (cl), .int (cd), .int (co), .int (ca), .int (vo), .int (rb), .int (ce)]) hx hb hw i_I t_I t_I_ok n_I hown hK hP hD hS (K) hk he rfl 6 (by decide) (hw _ kF_I_56) rfl (t_I_ok 6 (by decide)) rfl rfl (Nat.le_of_ble_eq_true rfl) rfl d_I_claimOn_2 (fun cw_1 H locs ecw_1 hP hD hS => ?_)
  have h_2 : cw_1 (K) = .inr (2, [.int (nu), .int (pa), .int (od), .int (ex), .int (rp), .ref (bk (KR)), .int (2), .int (cl), .int (cd), .int (co), .int (ca), .int (vo), .int (rb), .int (ce)]) := by rw [ecw_1]; exact va_up_self _ _ _
  refine lv_aload_n hx hb d_I_claimOn_5 rfl (lv_at hl 0 rfl) ?_
  refine lv_dup hx hb d_I_claimOn_6 rfl ?_
  refine pw_get (ci := 2) (v := .int (cl)) hx hb hw i_I hown hK hP (K) hk h_2 rfl 7 (by decide) (hw _ kF_I_18) rfl d_I_claimOn_7 ?_
  refine lv_iconst (v := 1) hx hb d_I_claimOn_10 (by decide) ?_
  refine lv_iadd hx hb d_I_claimOn_11 ?_
  refine pw_put (ci := 2) (v := .int (cl + 1)) (ty := .int) (fs' := [.int (nu), .int (pa), .int (od), .int (ex), .int (rp), .ref (bk (KR)), .int (2), .int (cl + 1), .int (cd), .int (co), .int (ca), .int (vo), .int (rb), .int (ce)]) hx hb hw i_I t_I t_I_ok n_I hown hK hP hD hS (K) hk h_2 rfl 7 (by decide) (hw _ kF_I_18) rfl (t_I_ok 7 (by decide)) rfl rfl (Nat.le_of_ble_eq_true rfl) rfl d_I_claimOn_12 (fun cw_3 H locs ecw_3 hP hD hS => ?_)
  have h_4 : cw_3 (K) = .inr (2, [.int (nu), .int (pa), .int (od), .int (ex), .int (rp), .ref (bk (KR)), .int (2), .int (cl + 1), .int (cd), .int (co), .int (ca), .int (vo), .int (rb), .int (ce)]) := by rw [ecw_3]; exact va_up_self _ _ _
  refine lv_aload_n hx hb d_I_claimOn_15 rfl (lv_at hl 0 rfl) ?_
  refine lv_iload_n hx hb d_I_claimOn_16 rfl (lv_at hl 1 rfl) ?_
  refine pw_put (ci := 2) (v := .int (day)) (ty := .int) (fs' := [.int (nu), .int (pa), .int (od), .int (ex), .int (rp), .ref (bk (KR)), .int (2), .int (cl + 1), .int (day), .int (co), .int (ca), .int (vo), .int (rb), .int (ce)]) hx hb hw i_I t_I t_I_ok n_I hown hK hP hD hS (K) hk h_4 rfl 8 (by decide) (hw _ kF_I_22) rfl (t_I_ok 8 (by decide)) rfl rfl (Nat.le_of_ble_eq_true rfl) rfl d_I_claimOn_17 (fun cw_5 H locs ecw_5 hP hD hS => ?_)
  have h_6 : cw_5 (K) = .inr (2, [.int (nu), .int (pa), .int (od), .int (ex), .int (rp), .ref (bk (KR)), .int (2), .int (cl + 1), .int (day), .int (co), .int (ca), .int (vo), .int (rb), .int (ce)]) := by rw [ecw_5]; exact va_up_self _ _ _
  exact W.vret hx hb hr (fun t ht hW => ⟨⟨(N, bk, cw_5), rfl, by rw [ecw_5, ecw_3, ecw_1, bx_uu, bx_uu], by rw [ht]; exact hP, va_K.moved hW.alike hK, hD⟩, hS.F ht⟩) hS.2.2 d_I_claimOn_20
set_option maxHeartbeats 4000000 in
set_option maxRecDepth 100000 in
theorem c_I_daysLate (l : Launch) (D : va_G) (cs : Nat → ClassId) (N : Nat) (bk : Nat → Nat) (cw : Nat → va_E) (sz : Nat) (K KR : Nat) (hk : K < N) (nu pa od ex rp sa cl cd co ca vo rb ce : Int32) (he : cw K = .inr (2, [.int nu, .int pa, .int od, .int ex, .int rp, .ref (bk KR), .int sa, .int cl, .int cd, .int co, .int ca, .int vo, .int rb, .int ce])) : Met l y_I_daysLate w_I_daysLate ({ frames := 0, cells := 0, slots := 0, locals := 0 }) (va_Pc [.ref (bk (K))] (PB D classes (TY cs) N bk cw sz)) (vp_Si (fun r => r = if (¬ ca = -1 ∧ ¬ ex = -1 ∧ rp = 0) ∧ ex < ca then ca - ex else 0)) 0 0 (fun _ => False) := by
  refine pw_entry (cc := b_I_daysLate) (maxL := 2) (ret := (some .int)) (by decide +kernel) rfl (Nat.le_of_ble_eq_true rfl) ?_
  intro p_ e_ s m below_ meth_ c_ ls hx hb hr hml hts hown hlocks hin hsz hP hK hD hS hA hN hl
  have hw : ∀ w ∈ WA, w.before _ s = true := fun w h => hts w (List.mem_cons_of_mem _ h)
  have hown : s.vm.findClass "IssueRows$Issue" = some m.cls := hown
  have hl : lv_has ls 2 [(0, .ref (bk (K)))] := hl
  refine lv_aload_n hx hb d_I_daysLate_0 rfl (lv_at hl 0 rfl) ?_
  refine pw_get (ci := 2) (v := .int (ca)) hx hb hw i_I hown hK hP (K) hk he rfl 10 (by decide) (hw _ kF_I_28) rfl d_I_daysLate_1 ?_
  refine lv_iconst (v := -1) hx hb d_I_daysLate_4 (by decide) ?_
  refine lv_icmp_eq (tgt := 27) hx hb d_I_daysLate_5 (by decide) (fun c_1 => ?_) (fun c_1 => ?_)
  · have c_1 : ca = (-1) := c_1
    refine lv_iconst (v := 0) hx hb d_I_daysLate_27 (by decide) ?_
    refine lv_istore_n (lv' := [(1, .int (0)), (0, .ref (bk (K)))]) hx hb d_I_daysLate_28 rfl hl (by decide) rfl (fun ls hl => ?_)
    refine lv_iload_n hx hb d_I_daysLate_29 rfl (lv_at hl 0 rfl) ?_
    refine lv_if_eq (tgt := 56) hx hb d_I_daysLate_30 (by decide) (fun c_2 => ?_) (fun c_2 => ?_)
    · skip
      refine lv_iconst (v := 0) hx hb d_I_daysLate_56 (by decide) ?_
      exact W.iret (v := 0) hx hb hr (fun t ht hW => ⟨0, rfl, (by rw [if_neg (by simp only [Int32.lt_iff_toInt_lt, Int32.le_iff_toInt_le, ← Int32.toInt_inj, T0, T1, T2, T3, T4, T5, T6, T7, T8, T9, T10, T40, T50, T99, T100, T200, T999, T1000, T9999, T1000000, T10000000, T1000000000, Tm1] at c_1 ⊢; omega)]), ht⟩) (fun q h => by cases h) d_I_daysLate_57
    · exact absurd c_2 (by decide)
  · have c_1 : ¬ ca = (-1) := c_1
    refine lv_aload_n hx hb d_I_daysLate_8 rfl (lv_at hl 0 rfl) ?_
    refine pw_get (ci := 2) (v := .int (ex)) hx hb hw i_I hown hK hP (K) hk he rfl 3 (by decide) (hw _ kF_I_49) rfl d_I_daysLate_9 ?_
    refine lv_iconst (v := -1) hx hb d_I_daysLate_12 (by decide) ?_
    refine lv_icmp_eq (tgt := 27) hx hb d_I_daysLate_13 (by decide) (fun c_3 => ?_) (fun c_3 => ?_)
    · have c_3 : ex = (-1) := c_3
      refine lv_iconst (v := 0) hx hb d_I_daysLate_27 (by decide) ?_
      refine lv_istore_n (lv' := [(1, .int (0)), (0, .ref (bk (K)))]) hx hb d_I_daysLate_28 rfl hl (by decide) rfl (fun ls hl => ?_)
      refine lv_iload_n hx hb d_I_daysLate_29 rfl (lv_at hl 0 rfl) ?_
      refine lv_if_eq (tgt := 56) hx hb d_I_daysLate_30 (by decide) (fun c_4 => ?_) (fun c_4 => ?_)
      · skip
        refine lv_iconst (v := 0) hx hb d_I_daysLate_56 (by decide) ?_
        exact W.iret (v := 0) hx hb hr (fun t ht hW => ⟨0, rfl, (by rw [if_neg (by simp only [Int32.lt_iff_toInt_lt, Int32.le_iff_toInt_le, ← Int32.toInt_inj, T0, T1, T2, T3, T4, T5, T6, T7, T8, T9, T10, T40, T50, T99, T100, T200, T999, T1000, T9999, T1000000, T10000000, T1000000000, Tm1] at c_1 c_3 ⊢; omega)]), ht⟩) (fun q h => by cases h) d_I_daysLate_57
      · exact absurd c_4 (by decide)
    · have c_3 : ¬ ex = (-1) := c_3
      refine lv_aload_n hx hb d_I_daysLate_16 rfl (lv_at hl 0 rfl) ?_
      refine pw_get (ci := 2) (v := .int (rp)) hx hb hw i_I hown hK hP (K) hk he rfl 4 (by decide) (hw _ kF_I_52) rfl d_I_daysLate_17 ?_
      refine lv_if_ne (tgt := 27) hx hb d_I_daysLate_20 (by decide) (fun c_5 => ?_) (fun c_5 => ?_)
      · have c_5 : ¬ rp = 0 := c_5
        refine lv_iconst (v := 0) hx hb d_I_daysLate_27 (by decide) ?_
        refine lv_istore_n (lv' := [(1, .int (0)), (0, .ref (bk (K)))]) hx hb d_I_daysLate_28 rfl hl (by decide) rfl (fun ls hl => ?_)
        refine lv_iload_n hx hb d_I_daysLate_29 rfl (lv_at hl 0 rfl) ?_
        refine lv_if_eq (tgt := 56) hx hb d_I_daysLate_30 (by decide) (fun c_6 => ?_) (fun c_6 => ?_)
        · skip
          refine lv_iconst (v := 0) hx hb d_I_daysLate_56 (by decide) ?_
          exact W.iret (v := 0) hx hb hr (fun t ht hW => ⟨0, rfl, (by rw [if_neg (by simp only [Int32.lt_iff_toInt_lt, Int32.le_iff_toInt_le, ← Int32.toInt_inj, T0, T1, T2, T3, T4, T5, T6, T7, T8, T9, T10, T40, T50, T99, T100, T200, T999, T1000, T9999, T1000000, T10000000, T1000000000, Tm1] at c_1 c_3 c_5 ⊢; omega)]), ht⟩) (fun q h => by cases h) d_I_daysLate_57
        · exact absurd c_6 (by decide)
      · have c_5 : rp = 0 := c_5
        refine lv_iconst (v := 1) hx hb d_I_daysLate_23 (by decide) ?_
        refine lv_goto (tgt := 28) hx hb d_I_daysLate_24 (by decide) ?_
        refine lv_istore_n (lv' := [(1, .int (1)), (0, .ref (bk (K)))]) hx hb d_I_daysLate_28 rfl hl (by decide) rfl (fun ls hl => ?_)
        refine lv_iload_n hx hb d_I_daysLate_29 rfl (lv_at hl 0 rfl) ?_
        refine lv_if_eq (tgt := 56) hx hb d_I_daysLate_30 (by decide) (fun c_7 => ?_) (fun c_7 => ?_)
        · exact absurd c_7 (by decide)
        · skip
          refine lv_aload_n hx hb d_I_daysLate_33 rfl (lv_at hl 1 rfl) ?_
          refine pw_get (ci := 2) (v := .int (ca)) hx hb hw i_I hown hK hP (K) hk he rfl 10 (by decide) (hw _ kF_I_28) rfl d_I_daysLate_34 ?_
          refine lv_aload_n hx hb d_I_daysLate_37 rfl (lv_at hl 1 rfl) ?_
          refine pw_get (ci := 2) (v := .int (ex)) hx hb hw i_I hown hK hP (K) hk he rfl 3 (by decide) (hw _ kF_I_49) rfl d_I_daysLate_38 ?_
          refine lv_icmp_le (tgt := 56) hx hb d_I_daysLate_41 (by decide) (fun c_8 => ?_) (fun c_8 => ?_)
          · have c_8 : ca ≤ ex := c_8
            refine lv_iconst (v := 0) hx hb d_I_daysLate_56 (by decide) ?_
            exact W.iret (v := 0) hx hb hr (fun t ht hW => ⟨0, rfl, (by rw [if_neg (by simp only [Int32.lt_iff_toInt_lt, Int32.le_iff_toInt_le, ← Int32.toInt_inj, T0, T1, T2, T3, T4, T5, T6, T7, T8, T9, T10, T40, T50, T99, T100, T200, T999, T1000, T9999, T1000000, T10000000, T1000000000, Tm1] at c_1 c_3 c_5 c_8 ⊢; omega)]), ht⟩) (fun q h => by cases h) d_I_daysLate_57
          · have c_8 : ¬ ca ≤ ex := c_8
            refine lv_aload_n hx hb d_I_daysLate_44 rfl (lv_at hl 1 rfl) ?_
            refine pw_get (ci := 2) (v := .int (ca)) hx hb hw i_I hown hK hP (K) hk he rfl 10 (by decide) (hw _ kF_I_28) rfl d_I_daysLate_45 ?_
            refine lv_aload_n hx hb d_I_daysLate_48 rfl (lv_at hl 1 rfl) ?_
            refine pw_get (ci := 2) (v := .int (ex)) hx hb hw i_I hown hK hP (K) hk he rfl 3 (by decide) (hw _ kF_I_49) rfl d_I_daysLate_49 ?_
            refine lv_isub hx hb d_I_daysLate_52 ?_
            refine lv_goto (tgt := 57) hx hb d_I_daysLate_53 (by decide) ?_
            exact W.iret (v := ca - ex) hx hb hr (fun t ht hW => ⟨ca - ex, rfl, (by rw [if_pos (by simp only [Int32.lt_iff_toInt_lt, Int32.le_iff_toInt_le, ← Int32.toInt_inj, T0, T1, T2, T3, T4, T5, T6, T7, T8, T9, T10, T40, T50, T99, T100, T200, T999, T1000, T9999, T1000000, T10000000, T1000000000, Tm1] at c_1 c_3 c_5 c_8 ⊢; omega)]), ht⟩) (fun q h => by cases h) d_I_daysLate_57
end
section
set_option maxHeartbeats 4000000 in
set_option maxRecDepth 100000 in
theorem c_U_isDue (l : Launch) (D : va_G) (cs : Nat → ClassId) (N : Nat) (bk : Nat → Nat) (cw : Nat → va_E) (sz : Nat) (K KR : Nat) (hk : K < N) (nu pa od ex rp sa cl cd co ca vo rb ce : Int32) (he : cw K = .inr (2, [.int nu, .int pa, .int od, .int ex, .int rp, .ref (bk KR), .int sa, .int cl, .int cd, .int co, .int ca, .int vo, .int rb, .int ce])) (KU : Nat) (hku : KU < N) (f1 f2 f3 : Int32) (heu : cw KU = .inr (1, [.int f1, .int f2, .int f3])) (day : Int32) : Met l y_U_isDue w_U_isDue ({ frames := 0, cells := 0, slots := 0, locals := 0 }) (va_Pc [.ref (bk (KU)), .ref (bk (K)), .int (day)] (PB D classes (TY cs) N bk cw sz)) (vp_Si (fun r => r = bI ((sa = 1 ∧ f1 ≤ day - ex) ∨ (sa = 2 ∧ f2 ≤ day - cd)))) 0 0 (fun _ => False) := by
  refine pw_entry (cc := b_U_isDue) (maxL := 3) (ret := (some .boolean)) (by decide +kernel) rfl (Nat.le_of_ble_eq_true rfl) ?_
  intro p_ e_ s m below_ meth_ c_ ls hx hb hr hml hts hown hlocks hin hsz hP hK hD hS hA hN hl
  have hw : ∀ w ∈ WA, w.before _ s = true := fun w h => hts w (List.mem_cons_of_mem _ h)
  have hown : s.vm.findClass "IssueRows$Rule" = some m.cls := hown
  have hl : lv_has ls 3 [(0, .ref (bk (KU))), (1, .ref (bk (K))), (2, .int (day))] := hl
  refine lv_aload_n hx hb d_U_isDue_0 rfl (lv_at hl 1 rfl) ?_
  refine pw_get (ci := 2) (v := .int (sa)) hx hb hw i_I hown hK hP (K) hk he rfl 6 (by decide) (hw _ kF_U_21) rfl d_U_isDue_1 ?_
  refine lv_iconst (v := 1) hx hb d_U_isDue_4 (by decide) ?_
  refine lv_icmp_ne (tgt := 27) hx hb d_U_isDue_5 (by decide) (fun c_1 => ?_) (fun c_1 => ?_)
  · have c_1 : ¬ sa = 1 := c_1
    refine lv_aload_n hx hb d_U_isDue_27 rfl (lv_at hl 1 rfl) ?_
    refine pw_get (ci := 2) (v := .int (sa)) hx hb hw i_I hown hK hP (K) hk he rfl 6 (by decide) (hw _ kF_U_21) rfl d_U_isDue_28 ?_
    refine lv_iconst (v := 2) hx hb d_U_isDue_31 (by decide) ?_
    refine lv_icmp_ne (tgt := 52) hx hb d_U_isDue_32 (by decide) (fun c_2 => ?_) (fun c_2 => ?_)
    · have c_2 : ¬ sa = 2 := c_2
      refine lv_iconst (v := 0) hx hb d_U_isDue_52 (by decide) ?_
      exact W.zret (v := 0) (ty := .boolean) hx hb hr (by decide) (fun t ht hW => ⟨0, rfl, (bI_f (by simp only [Int32.lt_iff_toInt_lt, Int32.le_iff_toInt_le, ← Int32.toInt_inj, T0, T1, T2, T3, T4, T5, T6, T7, T8, T9, T10, T40, T50, T99, T100, T200, T999, T1000, T9999, T1000000, T10000000, T1000000000, Tm1] at c_1 c_2 ⊢; omega)).symm, ht⟩) (fun q h => by cases h) d_U_isDue_53
    · have c_2 : sa = 2 := c_2
      refine lv_iload_n hx hb d_U_isDue_35 rfl (lv_at hl 2 rfl) ?_
      refine lv_aload_n hx hb d_U_isDue_36 rfl (lv_at hl 1 rfl) ?_
      refine pw_get (ci := 2) (v := .int (cd)) hx hb hw i_I hown hK hP (K) hk he rfl 8 (by decide) (hw _ kF_U_29) rfl d_U_isDue_37 ?_
      refine lv_isub hx hb d_U_isDue_40 ?_
      refine lv_aload_n hx hb d_U_isDue_41 rfl (lv_at hl 0 rfl) ?_
      refine pw_get (ci := 1) (v := .int (f2)) hx hb hw i_U hown hK hP (KU) hku heu rfl 1 (by decide) (hw _ kF_U_15) rfl d_U_isDue_42 ?_
      refine lv_icmp_lt (tgt := 52) hx hb d_U_isDue_45 (by decide) (fun c_3 => ?_) (fun c_3 => ?_)
      · have c_3 : (day - cd) < f2 := c_3
        refine lv_iconst (v := 0) hx hb d_U_isDue_52 (by decide) ?_
        exact W.zret (v := 0) (ty := .boolean) hx hb hr (by decide) (fun t ht hW => ⟨0, rfl, (bI_f (by simp only [Int32.lt_iff_toInt_lt, Int32.le_iff_toInt_le, ← Int32.toInt_inj, T0, T1, T2, T3, T4, T5, T6, T7, T8, T9, T10, T40, T50, T99, T100, T200, T999, T1000, T9999, T1000000, T10000000, T1000000000, Tm1] at c_1 c_2 c_3 ⊢; omega)).symm, ht⟩) (fun q h => by cases h) d_U_isDue_53
      · have c_3 : ¬ (day - cd) < f2 := c_3
        refine lv_iconst (v := 1) hx hb d_U_isDue_48 (by decide) ?_
        refine lv_goto (tgt := 53) hx hb d_U_isDue_49 (by decide) ?_
        exact W.zret (v := 1) (ty := .boolean) hx hb hr (by decide) (fun t ht hW => ⟨1, rfl, (bI_t (by simp only [Int32.lt_iff_toInt_lt, Int32.le_iff_toInt_le, ← Int32.toInt_inj, T0, T1, T2, T3, T4, T5, T6, T7, T8, T9, T10, T40, T50, T99, T100, T200, T999, T1000, T9999, T1000000, T10000000, T1000000000, Tm1] at c_1 c_2 c_3 ⊢; omega)).symm, ht⟩) (fun q h => by cases h) d_U_isDue_53
  · have c_1 : sa = 1 := c_1
    refine lv_iload_n hx hb d_U_isDue_8 rfl (lv_at hl 2 rfl) ?_
    refine lv_aload_n hx hb d_U_isDue_9 rfl (lv_at hl 1 rfl) ?_
    refine pw_get (ci := 2) (v := .int (ex)) hx hb hw i_I hown hK hP (K) hk he rfl 3 (by decide) (hw _ kF_U_26) rfl d_U_isDue_10 ?_
    refine lv_isub hx hb d_U_isDue_13 ?_
    refine lv_aload_n hx hb d_U_isDue_14 rfl (lv_at hl 0 rfl) ?_
    refine pw_get (ci := 1) (v := .int (f1)) hx hb hw i_U hown hK hP (KU) hku heu rfl 0 (by decide) (hw _ kF_U_9) rfl d_U_isDue_15 ?_
    refine lv_icmp_lt (tgt := 25) hx hb d_U_isDue_18 (by decide) (fun c_4 => ?_) (fun c_4 => ?_)
    · have c_4 : (day - ex) < f1 := c_4
      refine lv_iconst (v := 0) hx hb d_U_isDue_25 (by decide) ?_
      exact W.zret (v := 0) (ty := .boolean) hx hb hr (by decide) (fun t ht hW => ⟨0, rfl, (bI_f (by simp only [Int32.lt_iff_toInt_lt, Int32.le_iff_toInt_le, ← Int32.toInt_inj, T0, T1, T2, T3, T4, T5, T6, T7, T8, T9, T10, T40, T50, T99, T100, T200, T999, T1000, T9999, T1000000, T10000000, T1000000000, Tm1] at c_1 c_4 ⊢; omega)).symm, ht⟩) (fun q h => by cases h) d_U_isDue_26
    · have c_4 : ¬ (day - ex) < f1 := c_4
      refine lv_iconst (v := 1) hx hb d_U_isDue_21 (by decide) ?_
      refine lv_goto (tgt := 26) hx hb d_U_isDue_22 (by decide) ?_
      exact W.zret (v := 1) (ty := .boolean) hx hb hr (by decide) (fun t ht hW => ⟨1, rfl, (bI_t (by simp only [Int32.lt_iff_toInt_lt, Int32.le_iff_toInt_le, ← Int32.toInt_inj, T0, T1, T2, T3, T4, T5, T6, T7, T8, T9, T10, T40, T50, T99, T100, T200, T999, T1000, T9999, T1000000, T10000000, T1000000000, Tm1] at c_1 c_4 ⊢; omega)).symm, ht⟩) (fun q h => by cases h) d_U_isDue_26
set_option maxHeartbeats 4000000 in
set_option maxRecDepth 100000 in
theorem c_I_part (l : Launch) (D : va_G) (cs : Nat → ClassId) (N : Nat) (bk : Nat → Nat) (cw : Nat → va_E) (sz : Nat) (K KR : Nat) (hk : K < N) (nu pa od ex rp sa cl cd co ca vo rb ce : Int32) (he : cw K = .inr (2, [.int nu, .int pa, .int od, .int ex, .int rp, .ref (bk KR), .int sa, .int cl, .int cd, .int co, .int ca, .int vo, .int rb, .int ce])) (K1 K2 : Nat) (hkr : KR < N) (sz1 pl si : Int32) (her : cw KR = .inr (3, [.ref (bk K1), .ref (bk K2), .int sz1, .int pl, .int si])) (pp dd : Nat → Int32) (hk1 : K1 < N) (he1 : cw K1 = .inl (cs 0, 8, .inl pp)) (hk2 : K2 < N) (he2 : cw K2 = .inl (cs 0, 8, .inl dd)) (h8 : sz1 ≤ 8) (what : Int32) : Met l y_I_part w_I_part ({ frames := 2, cells := 0, slots := 0, locals := 40 }) (va_Pc [.ref (bk (K)), .int (what)] (PB D classes (TY cs) N bk cw sz)) (vp_Si (fun r => r = if what = 0 then pa else if what = 1 then od else if what = 2 then sa else if what = 3 then ex else if what = 4 then cl else if what = 5 then co else if what = 6 then ca else if what = 7 then (if 0 ≤ pl ∧ pl < sz1 then pp pl.toNatClampNeg else -1) else if what = 8 then vo else if what = 9 then rb else if what = 10 then ce else -1)) 0 0 (fun _ => False) := by
  refine pw_entry (cc := b_I_part) (maxL := 2) (ret := (some .int)) (by decide +kernel) rfl (Nat.le_of_ble_eq_true rfl) ?_
  intro p_ e_ s m below_ meth_ c_ ls hx hb hr hml hts hown hlocks hin hsz hP hK hD hS hA hN hl
  have hw : ∀ w ∈ WA, w.before _ s = true := fun w h => hts w (List.mem_cons_of_mem _ h)
  have hown : s.vm.findClass "IssueRows$Issue" = some m.cls := hown
  have hl : lv_has ls 2 [(0, .ref (bk (K))), (1, .int (what))] := hl
  refine lv_iload_n hx hb d_I_part_0 rfl (lv_at hl 1 rfl) ?_
  by_cases c_1 : what = 0
  · refine lv_tableIn (off := 59) (tgt := 60) hx hb d_I_part_1 (by rw [c_1]; decide) (by rw [c_1]; decide) (by rw [c_1]; rfl) (by decide) ?_
    refine lv_aload_n hx hb d_I_part_60 rfl (lv_at hl 0 rfl) ?_
    refine pw_get (ci := 2) (v := .int (pa)) hx hb hw i_I hown hK hP (K) hk he rfl 1 (by decide) (hw _ kF_I_43) rfl d_I_part_61 ?_
    exact W.iret (v := pa) hx hb hr (fun t ht hW => ⟨pa, rfl, (by rw [if_pos c_1]), ht⟩) (fun q h => by cases h) d_I_part_64
  by_cases c_2 : what = 1
  · refine lv_tableIn (off := 64) (tgt := 65) hx hb d_I_part_1 (by rw [c_2]; decide) (by rw [c_2]; decide) (by rw [c_2]; rfl) (by decide) ?_
    refine lv_aload_n hx hb d_I_part_65 rfl (lv_at hl 0 rfl) ?_
    refine pw_get (ci := 2) (v := .int (od)) hx hb hw i_I hown hK hP (K) hk he rfl 2 (by decide) (hw _ kF_I_46) rfl d_I_part_66 ?_
    exact W.iret (v := od) hx hb hr (fun t ht hW => ⟨od, rfl, (by rw [if_neg c_1, if_pos c_2]), ht⟩) (fun q h => by cases h) d_I_part_69
  by_cases c_3 : what = 2
  · refine lv_tableIn (off := 69) (tgt := 70) hx hb d_I_part_1 (by rw [c_3]; decide) (by rw [c_3]; decide) (by rw [c_3]; rfl) (by decide) ?_
    refine lv_aload_n hx hb d_I_part_70 rfl (lv_at hl 0 rfl) ?_
    refine pw_get (ci := 2) (v := .int (sa)) hx hb hw i_I hown hK hP (K) hk he rfl 6 (by decide) (hw _ kF_I_56) rfl d_I_part_71 ?_
    exact W.iret (v := sa) hx hb hr (fun t ht hW => ⟨sa, rfl, (by rw [if_neg c_1, if_neg c_2, if_pos c_3]), ht⟩) (fun q h => by cases h) d_I_part_74
  by_cases c_4 : what = 3
  · refine lv_tableIn (off := 74) (tgt := 75) hx hb d_I_part_1 (by rw [c_4]; decide) (by rw [c_4]; decide) (by rw [c_4]; rfl) (by decide) ?_
    refine lv_aload_n hx hb d_I_part_75 rfl (lv_at hl 0 rfl) ?_
    refine pw_get (ci := 2) (v := .int (ex)) hx hb hw i_I hown hK hP (K) hk he rfl 3 (by decide) (hw _ kF_I_49) rfl d_I_part_76 ?_
    exact W.iret (v := ex) hx hb hr (fun t ht hW => ⟨ex, rfl, (by rw [if_neg c_1, if_neg c_2, if_neg c_3, if_pos c_4]), ht⟩) (fun q h => by cases h) d_I_part_79
  by_cases c_5 : what = 4
  · refine lv_tableIn (off := 79) (tgt := 80) hx hb d_I_part_1 (by rw [c_5]; decide) (by rw [c_5]; decide) (by rw [c_5]; rfl) (by decide) ?_
    refine lv_aload_n hx hb d_I_part_80 rfl (lv_at hl 0 rfl) ?_
    refine pw_get (ci := 2) (v := .int (cl)) hx hb hw i_I hown hK hP (K) hk he rfl 7 (by decide) (hw _ kF_I_18) rfl d_I_part_81 ?_
    exact W.iret (v := cl) hx hb hr (fun t ht hW => ⟨cl, rfl, (by rw [if_neg c_1, if_neg c_2, if_neg c_3, if_neg c_4, if_pos c_5]), ht⟩) (fun q h => by cases h) d_I_part_84
  by_cases c_6 : what = 5
  · refine lv_tableIn (off := 84) (tgt := 85) hx hb d_I_part_1 (by rw [c_6]; decide) (by rw [c_6]; decide) (by rw [c_6]; rfl) (by decide) ?_
    refine lv_aload_n hx hb d_I_part_85 rfl (lv_at hl 0 rfl) ?_
    refine pw_get (ci := 2) (v := .int (co)) hx hb hw i_I hown hK hP (K) hk he rfl 9 (by decide) (hw _ kF_I_25) rfl d_I_part_86 ?_
    exact W.iret (v := co) hx hb hr (fun t ht hW => ⟨co, rfl, (by rw [if_neg c_1, if_neg c_2, if_neg c_3, if_neg c_4, if_neg c_5, if_pos c_6]), ht⟩) (fun q h => by cases h) d_I_part_89
  by_cases c_7 : what = 6
  · refine lv_tableIn (off := 89) (tgt := 90) hx hb d_I_part_1 (by rw [c_7]; decide) (by rw [c_7]; decide) (by rw [c_7]; rfl) (by decide) ?_
    refine lv_aload_n hx hb d_I_part_90 rfl (lv_at hl 0 rfl) ?_
    refine pw_get (ci := 2) (v := .int (ca)) hx hb hw i_I hown hK hP (K) hk he rfl 10 (by decide) (hw _ kF_I_28) rfl d_I_part_91 ?_
    exact W.iret (v := ca) hx hb hr (fun t ht hW => ⟨ca, rfl, (by rw [if_neg c_1, if_neg c_2, if_neg c_3, if_neg c_4, if_neg c_5, if_neg c_6, if_pos c_7]), ht⟩) (fun q h => by cases h) d_I_part_94
  by_cases c_8 : what = 7
  · refine lv_tableIn (off := 94) (tgt := 95) hx hb d_I_part_1 (by rw [c_8]; decide) (by rw [c_8]; decide) (by rw [c_8]; rfl) (by decide) ?_
    refine lv_aload_n hx hb d_I_part_95 rfl (lv_at hl 0 rfl) ?_
    refine pw_get (ci := 2) (v := .ref (bk (KR))) hx hb hw i_I hown hK hP (K) hk he rfl 5 (by decide) (hw _ kF_I_12) rfl d_I_part_96 ?_
    refine pw_callSi (va_runV (As := []) (rest := []) ⟨hx, hb, hml, hown, hw⟩ (c_G_holder l D cs N bk cw s.heap.size (KR) (K1) (K2) hkr sz1 pl si her pp dd hk1 he1 hk2 he2 h8) (cw_V 0 hw kM_I_63 kI_G_holder kV_G_holder kZ_G kC_G_holder rfl rfl ⟨rfl, by decide, by decide, by decide +kernel⟩ ⟨Nat.le_of_ble_eq_true rfl, Nat.le_of_ble_eq_true rfl⟩) (pw_preV hN hK hP hD (KR) hkr her rfl) rfl rfl hl.1 rfl (lv_room (Nat.le_of_ble_eq_true rfl)) d_I_part_99 ⟨Nat.le_of_ble_eq_true rfl, Nat.le_of_ble_eq_true rfl⟩) (fun r_9 hr_9 => ?_)
    have hr_9 : r_9 = if 0 ≤ pl ∧ pl < sz1 then pp (pl).toNatClampNeg else -1 := hr_9
    subst hr_9
    exact W.iret (v := if 0 ≤ pl ∧ pl < sz1 then pp (pl).toNatClampNeg else -1) hx hb hr (fun t ht hW => ⟨if 0 ≤ pl ∧ pl < sz1 then pp (pl).toNatClampNeg else -1, rfl, (by rw [if_neg c_1, if_neg c_2, if_neg c_3, if_neg c_4, if_neg c_5, if_neg c_6, if_neg c_7, if_pos c_8]), ht⟩) (fun q h => by cases h) d_I_part_102
  by_cases c_10 : what = 8
  · refine lv_tableIn (off := 102) (tgt := 103) hx hb d_I_part_1 (by rw [c_10]; decide) (by rw [c_10]; decide) (by rw [c_10]; rfl) (by decide) ?_
    refine lv_aload_n hx hb d_I_part_103 rfl (lv_at hl 0 rfl) ?_
    refine pw_get (ci := 2) (v := .int (vo)) hx hb hw i_I hown hK hP (K) hk he rfl 11 (by decide) (hw _ kF_I_31) rfl d_I_part_104 ?_
    exact W.iret (v := vo) hx hb hr (fun t ht hW => ⟨vo, rfl, (by rw [if_neg c_1, if_neg c_2, if_neg c_3, if_neg c_4, if_neg c_5, if_neg c_6, if_neg c_7, if_neg c_8, if_pos c_10]), ht⟩) (fun q h => by cases h) d_I_part_107
  by_cases c_11 : what = 9
  · refine lv_tableIn (off := 107) (tgt := 108) hx hb d_I_part_1 (by rw [c_11]; decide) (by rw [c_11]; decide) (by rw [c_11]; rfl) (by decide) ?_
    refine lv_aload_n hx hb d_I_part_108 rfl (lv_at hl 0 rfl) ?_
    refine pw_get (ci := 2) (v := .int (rb)) hx hb hw i_I hown hK hP (K) hk he rfl 12 (by decide) (hw _ kF_I_34) rfl d_I_part_109 ?_
    exact W.iret (v := rb) hx hb hr (fun t ht hW => ⟨rb, rfl, (by rw [if_neg c_1, if_neg c_2, if_neg c_3, if_neg c_4, if_neg c_5, if_neg c_6, if_neg c_7, if_neg c_8, if_neg c_10, if_pos c_11]), ht⟩) (fun q h => by cases h) d_I_part_112
  by_cases c_12 : what = 10
  · refine lv_tableIn (off := 112) (tgt := 113) hx hb d_I_part_1 (by rw [c_12]; decide) (by rw [c_12]; decide) (by rw [c_12]; rfl) (by decide) ?_
    refine lv_aload_n hx hb d_I_part_113 rfl (lv_at hl 0 rfl) ?_
    refine pw_get (ci := 2) (v := .int (ce)) hx hb hw i_I hown hK hP (K) hk he rfl 13 (by decide) (hw _ kF_I_37) rfl d_I_part_114 ?_
    exact W.iret (v := ce) hx hb hr (fun t ht hW => ⟨ce, rfl, (by rw [if_neg c_1, if_neg c_2, if_neg c_3, if_neg c_4, if_neg c_5, if_neg c_6, if_neg c_7, if_neg c_8, if_neg c_10, if_neg c_11, if_pos c_12]), ht⟩) (fun q h => by cases h) d_I_part_117
  refine lv_tableOut (tgt := 118) hx hb d_I_part_1 (by simp only [Int32.lt_iff_toInt_lt, Int32.le_iff_toInt_le, ← Int32.toInt_inj, T0, T1, T2, T3, T4, T5, T6, T7, T8, T9, T10, T40, T50, T99, T100, T199, T200, T999, T1000, T9999, T1000000, T10000000, T1000000000, Tm1] at c_1 c_2 c_3 c_4 c_5 c_6 c_7 c_8 c_10 c_11 c_12; omega) (by decide) ?_
  refine lv_iconst (v := -1) hx hb d_I_part_118 (by decide) ?_
  exact W.iret (v := -1) hx hb hr (fun t ht hW => ⟨-1, rfl, (by rw [if_neg c_1, if_neg c_2, if_neg c_3, if_neg c_4, if_neg c_5, if_neg c_6, if_neg c_7, if_neg c_8, if_neg c_10, if_neg c_11, if_neg c_12]), ht⟩) (fun q h => by cases h) d_I_part_119
end
section
theorem le_pr {x : Int32} {z : Nat} (h : z < 2 ^ 31) : x ≤ nI z - 1 ↔ x < nI z := by
  have e : (nI z - 1).toInt = (z : Int) - 1 := by
    rw [Int32.toInt_sub, nI_toInt h, T1]; exact Int.bmod_eq_of_le (by omega) (by omega)
  rw [Int32.le_iff_toInt_le, Int32.lt_iff_toInt_lt, e, nI_toInt h]; omega
theorem le_pq {j z : Nat} (h : j < z ∧ z < 2 ^ 31) : nI z - 1 ≤ nI j ↔ z ≤ j + 1 := by
  have e : (nI z - 1).toInt = (z : Int) - 1 := by
    rw [Int32.toInt_sub, nI_toInt h.2, T1]; exact Int.bmod_eq_of_le (by omega) (by omega)
  rw [Int32.le_iff_toInt_le, e, nI_toInt (by omega)]; omega
set_option maxHeartbeats 4000000 in
set_option maxRecDepth 100000 in
theorem c_P_clear (l : Launch) (D : va_G) (cs : Nat → ClassId) (N : Nat) (bk : Nat → Nat) (cw : Nat → va_E) (sz : Nat) (K K1 K2 : Nat) (hk : K < N) (zz : Int32) (he : cw K = .inr (4, [.ref (bk K1), .ref (bk K2), .int zz])) : Met l y_P_clear w_P_clear ({ frames := 0, cells := 0, slots := 0, locals := 0 }) (va_Pc [.ref (bk (K))] (PB D classes (TY cs) N bk cw sz)) (va_Qv (fun u : Wt => u = (N, bk, va_up cw K (.inr (4, [.ref (bk K1), .ref (bk K2), .int 0])))) (Wd D classes (TY cs) (AA N bk sz)) (AA N bk sz)) 0 0 (AA N bk sz) := by
  refine pw_entry (cc := b_P_clear) (maxL := 1) (ret := none) (by decide +kernel) rfl (Nat.le_of_ble_eq_true rfl) ?_
  intro p_ e_ s m below_ meth_ c_ ls hx hb hr hml hts hown hlocks hin hsz hP hK hD hS hA hN hl
  have hw : ∀ w ∈ WA, w.before _ s = true := fun w h => hts w (List.mem_cons_of_mem _ h)
  have hown : s.vm.findClass "IssueRows$Pairs" = some m.cls := hown
  have hl : lv_has ls 1 [(0, .ref (bk (K)))] := hl
  refine lv_aload_n hx hb d_P_clear_0 rfl (lv_at hl 0 rfl) ?_
  refine lv_iconst (v := 0) hx hb d_P_clear_1 (by decide) ?_
  refine pw_put (ci := 4) (v := .int (0)) (ty := .int) (fs' := [.ref (bk (K1)), .ref (bk (K2)), .int (0)]) hx hb hw i_P t_P t_P_ok n_P hown hK hP hD hS (K) hk he rfl 2 (by decide) (hw _ kF_P_9) rfl (t_P_ok 2 (by decide)) rfl rfl (Nat.le_of_ble_eq_true rfl) rfl d_P_clear_2 (fun cw_1 H locs ecw_1 hP hD hS => ?_)
  have h_2 : cw_1 (K) = .inr (4, [.ref (bk (K1)), .ref (bk (K2)), .int (0)]) := by rw [ecw_1]; exact va_up_self _ _ _
  exact W.vret hx hb hr (fun t ht hW => ⟨⟨(N, bk, cw_1), rfl, by rw [ecw_1], by rw [ht]; exact hP, va_K.moved hW.alike hK, hD⟩, hS.F ht⟩) hS.2.2 d_P_clear_5
set_option maxHeartbeats 4000000 in
set_option maxRecDepth 100000 in
theorem c_P_add (l : Launch) (D : va_G) (cs : Nat → ClassId) (N : Nat) (bk : Nat → Nat) (cw : Nat → va_E) (sz : Nat) (K K1 K2 : Nat) (hk : K < N) (z : Nat) (he : cw K = .inr (4, [.ref (bk K1), .ref (bk K2), .int (nI z)])) (ln : Nat) (hln : ln < 2 ^ 30) (hz : z ≤ ln) (f1 f2 : Nat → Int32) (hk1 : K1 < N) (he1 : cw K1 = .inl (cs 0, ln, .inl f1)) (hk2 : K2 < N) (he2 : cw K2 = .inl (cs 0, ln, .inl f2)) (n1 : K ≠ K1) (n2 : K ≠ K2) (n3 : K1 ≠ K2) (x y : Int32) : Met l y_P_add w_P_add ({ frames := 0, cells := 0, slots := 0, locals := 0 }) (va_Pc [.ref (bk (K)), .int (x), .int (y)] (PB D classes (TY cs) N bk cw sz)) (va_Qv (fun u : Wt => (z < ln → u = (N, bk, va_up (va_up (va_up cw K1 (.inl (cs 0, ln, .inl (upd f1 z x)))) K2 (.inl (cs 0, ln, .inl (upd f2 z y)))) K (.inr (4, [.ref (bk K1), .ref (bk K2), .int (nI (z + 1))])))) ∧ (¬ z < ln → u = (N, bk, cw))) (Wd D classes (TY cs) (AA N bk sz)) (AA N bk sz)) 0 0 (AA N bk sz) := by
  refine pw_entry (cc := b_P_add) (maxL := 3) (ret := none) (by decide +kernel) rfl (Nat.le_of_ble_eq_true rfl) ?_
  intro p_ e_ s m below_ meth_ c_ ls hx hb hr hml hts hown hlocks hin hsz hP hK hD hS hA hN hl
  have hw : ∀ w ∈ WA, w.before _ s = true := fun w h => hts w (List.mem_cons_of_mem _ h)
  have hown : s.vm.findClass "IssueRows$Pairs" = some m.cls := hown
  have hl : lv_has ls 3 [(0, .ref (bk (K))), (1, .int (x)), (2, .int (y))] := hl
  refine lv_aload_n hx hb d_P_add_0 rfl (lv_at hl 0 rfl) ?_
  refine pw_get (ci := 4) (v := .int (nI z)) hx hb hw i_P hown hK hP (K) hk he rfl 2 (by decide) (hw _ kF_P_9) rfl d_P_add_1 ?_
  refine lv_aload_n hx hb d_P_add_4 rfl (lv_at hl 0 rfl) ?_
  refine pw_get (ci := 4) (v := .ref (bk (K1))) hx hb hw i_P hown hK hP (K) hk he rfl 0 (by decide) (hw _ kF_P_21) rfl d_P_add_5 ?_
  refine pw_alen hx hb hK hP 0 (K1) hk1 he1 (ty := .int) rfl d_P_add_8 ?_
  refine lv_icmp_ge (tgt := 42) hx hb d_P_add_9 (by decide) (fun c_1 => ?_) (fun c_1 => ?_)
  · have c_1 : (nI (ln)) ≤ (nI z) := c_1
    exact W.vret hx hb hr (fun t ht hW => ⟨⟨(N, bk, cw), rfl, ⟨fun h => absurd ((nI_leI (by omega) (by omega)).mp c_1) (by omega), fun _ => rfl⟩, by rw [ht]; exact hP, va_K.moved hW.alike hK, hD⟩, hS.F ht⟩) hS.2.2 d_P_add_42
  · have c_1 : ¬ (nI (ln)) ≤ (nI z) := c_1
    refine lv_aload_n hx hb d_P_add_12 rfl (lv_at hl 0 rfl) ?_
    refine pw_get (ci := 4) (v := .ref (bk (K1))) hx hb hw i_P hown hK hP (K) hk he rfl 0 (by decide) (hw _ kF_P_21) rfl d_P_add_13 ?_
    refine lv_aload_n hx hb d_P_add_16 rfl (lv_at hl 0 rfl) ?_
    refine pw_get (ci := 4) (v := .int (nI z)) hx hb hw i_P hown hK hP (K) hk he rfl 2 (by decide) (hw _ kF_P_9) rfl d_P_add_17 ?_
    refine lv_iload_n hx hb d_P_add_20 rfl (lv_at hl 1 rfl) ?_
    refine pw_iast (n := ln) (f := f1) hx hb hK hP hD hS 0 (K1) hk1 he1 rfl (z) rfl (by have h7 := c_1; rw [nI_leI (by omega) (by omega)] at h7; omega) (by omega) d_P_add_21 (fun cw_2 H locs ecw_2 hP hD hS => ?_)
    have h_3 : cw_2 (K) = .inr (4, [.ref (bk (K1)), .ref (bk (K2)), .int (nI z)]) := by rw [ecw_2, va_up_ne _ _ (by omega)]; exact he
    have h_4 : cw_2 (K1) = .inl (cs 0, ln, .inl (upd f1 (z) (x))) := by rw [ecw_2]; exact va_up_self _ _ _
    have h_5 : cw_2 (K2) = .inl (cs 0, ln, .inl f2) := by rw [ecw_2, va_up_ne _ _ (by omega)]; exact he2
    refine lv_aload_n hx hb d_P_add_22 rfl (lv_at hl 0 rfl) ?_
    refine pw_get (ci := 4) (v := .ref (bk (K2))) hx hb hw i_P hown hK hP (K) hk h_3 rfl 1 (by decide) (hw _ kF_P_25) rfl d_P_add_23 ?_
    refine lv_aload_n hx hb d_P_add_26 rfl (lv_at hl 0 rfl) ?_
    refine pw_get (ci := 4) (v := .int (nI z)) hx hb hw i_P hown hK hP (K) hk h_3 rfl 2 (by decide) (hw _ kF_P_9) rfl d_P_add_27 ?_
    refine lv_iload_n hx hb d_P_add_30 rfl (lv_at hl 2 rfl) ?_
    refine pw_iast (n := ln) (f := f2) hx hb hK hP hD hS 0 (K2) hk2 h_5 rfl (z) rfl (by have h7 := c_1; rw [nI_leI (by omega) (by omega)] at h7; omega) (by omega) d_P_add_31 (fun cw_6 H locs ecw_6 hP hD hS => ?_)
    have h_7 : cw_6 (K) = .inr (4, [.ref (bk (K1)), .ref (bk (K2)), .int (nI z)]) := by rw [ecw_6, va_up_ne _ _ (by omega)]; exact h_3
    have h_8 : cw_6 (K1) = .inl (cs 0, ln, .inl (upd f1 (z) (x))) := by rw [ecw_6, va_up_ne _ _ (by omega)]; exact h_4
    have h_9 : cw_6 (K2) = .inl (cs 0, ln, .inl (upd f2 (z) (y))) := by rw [ecw_6]; exact va_up_self _ _ _
    refine lv_aload_n hx hb d_P_add_32 rfl (lv_at hl 0 rfl) ?_
    refine lv_dup hx hb d_P_add_33 rfl ?_
    refine pw_get (ci := 4) (v := .int (nI z)) hx hb hw i_P hown hK hP (K) hk h_7 rfl 2 (by decide) (hw _ kF_P_9) rfl d_P_add_34 ?_
    refine lv_iconst (v := 1) hx hb d_P_add_37 (by decide) ?_
    refine lv_iadd hx hb d_P_add_38 ?_
    rw [show (nI z) + 1 = nI (z + 1) from nI_1 z]
    refine pw_put (ci := 4) (v := .int (nI (z + 1))) (ty := .int) (fs' := [.ref (bk (K1)), .ref (bk (K2)), .int (nI (z + 1))]) hx hb hw i_P t_P t_P_ok n_P hown hK hP hD hS (K) hk h_7 rfl 2 (by decide) (hw _ kF_P_9) rfl (t_P_ok 2 (by decide)) rfl rfl (Nat.le_of_ble_eq_true rfl) rfl d_P_add_39 (fun cw_10 H locs ecw_10 hP hD hS => ?_)
    have h_11 : cw_10 (K) = .inr (4, [.ref (bk (K1)), .ref (bk (K2)), .int (nI (z + 1))]) := by rw [ecw_10]; exact va_up_self _ _ _
    have h_12 : cw_10 (K1) = .inl (cs 0, ln, .inl (upd f1 (z) (x))) := by rw [ecw_10, va_up_ne _ _ (by omega)]; exact h_8
    have h_13 : cw_10 (K2) = .inl (cs 0, ln, .inl (upd f2 (z) (y))) := by rw [ecw_10, va_up_ne _ _ (by omega)]; exact h_9
    exact W.vret hx hb hr (fun t ht hW => ⟨⟨(N, bk, cw_10), rfl, ⟨fun _ => by rw [ecw_10, ecw_6, ecw_2], fun h => absurd ((nI_leI (by omega) (by omega)).mpr (by omega)) c_1⟩, by rw [ht]; exact hP, va_K.moved hW.alike hK, hD⟩, hS.F ht⟩) hS.2.2 d_P_add_42
set_option maxHeartbeats 4000000 in
set_option maxRecDepth 100000 in
theorem c_P_has (l : Launch) (D : va_G) (cs : Nat → ClassId) (N : Nat) (bk : Nat → Nat) (cw : Nat → va_E) (sz : Nat) (K K1 K2 : Nat) (hk : K < N) (z : Nat) (he : cw K = .inr (4, [.ref (bk K1), .ref (bk K2), .int (nI z)])) (ln : Nat) (hln : ln < 2 ^ 30) (hz : z ≤ ln) (f1 f2 : Nat → Int32) (hk1 : K1 < N) (he1 : cw K1 = .inl (cs 0, ln, .inl f1)) (hk2 : K2 < N) (he2 : cw K2 = .inl (cs 0, ln, .inl f2)) (i what : Int32) : Met l y_P_has w_P_has ({ frames := 1, cells := 0, slots := 0, locals := 22 }) (va_Pc [.ref (bk (K)), .int (i), .int (what)] (PB D classes (TY cs) N bk cw sz)) (vp_Si (fun r => r = bI ((0 ≤ i ∧ i < nI z) ∧ 0 ≤ what ∧ what ≤ 1))) 0 0 (fun _ => False) := by
  refine pw_entry (cc := b_P_has) (maxL := 3) (ret := (some .boolean)) (by decide +kernel) rfl (Nat.le_of_ble_eq_true rfl) ?_
  intro p_ e_ s m below_ meth_ c_ ls hx hb hr hml hts hown hlocks hin hsz hP hK hD hS hA hN hl
  have hw : ∀ w ∈ WA, w.before _ s = true := fun w h => hts w (List.mem_cons_of_mem _ h)
  have hown : s.vm.findClass "IssueRows$Pairs" = some m.cls := hown
  have hl : lv_has ls 3 [(0, .ref (bk (K))), (1, .int (i)), (2, .int (what))] := hl
  refine lv_iload_n hx hb d_P_has_0 rfl (lv_at hl 1 rfl) ?_
  refine lv_iconst (v := 0) hx hb d_P_has_1 (by decide) ?_
  refine lv_aload_n hx hb d_P_has_2 rfl (lv_at hl 0 rfl) ?_
  refine pw_get (ci := 4) (v := .int (nI z)) hx hb hw i_P hown hK hP (K) hk he rfl 2 (by decide) (hw _ kF_P_9) rfl d_P_has_3 ?_
  refine lv_iconst (v := 1) hx hb d_P_has_6 (by decide) ?_
  refine lv_isub hx hb d_P_has_7 ?_
  refine pw_callSi (va_runSN (As := [.int (i), .int (0), .int ((nI z) - 1)]) (rest := []) ⟨hx, hb, hml, hown, hw⟩ (c_X_within l D cs N bk cw s.heap.size i 0 ((nI z) - 1)) (cw_SN 3 hw (kN_P_28 hN) kS_X_within kZ_X kC_X_within rfl rfl ⟨by decide, by decide, by decide +kernel⟩ ⟨Nat.le_of_ble_eq_true rfl, Nat.le_of_ble_eq_true rfl⟩) (pw_preS hN hK hP hD) rfl rfl hl.1 rfl (lv_room (Nat.le_of_ble_eq_true rfl)) d_P_has_8 ⟨Nat.le_of_ble_eq_true rfl, Nat.le_of_ble_eq_true rfl⟩) (fun r_1 hr_1 => ?_)
  have hr_1 : r_1 = bI (0 ≤ i ∧ i ≤ ((nI z) - 1)) := hr_1
  subst hr_1
  refine pw_ifeq (tgt := 27) hx hb d_P_has_11 (by decide) (fun c_2 => ?_) (fun c_2 => ?_)
  · have c_2 : ¬ (0 ≤ i ∧ i ≤ ((nI z) - 1)) := c_2
    refine lv_iconst (v := 0) hx hb d_P_has_27 (by decide) ?_
    exact W.zret (v := 0) (ty := .boolean) hx hb hr (by decide) (fun t ht hW => ⟨0, rfl, (bI_f (fun h => c_2 ⟨h.1.1, (le_pr (by omega)).mpr h.1.2⟩)).symm, ht⟩) (fun q h => by cases h) d_P_has_28
  · have c_2 : 0 ≤ i ∧ i ≤ ((nI z) - 1) := c_2
    refine lv_iload_n hx hb d_P_has_14 rfl (lv_at hl 2 rfl) ?_
    refine lv_iconst (v := 0) hx hb d_P_has_15 (by decide) ?_
    refine lv_iconst (v := 1) hx hb d_P_has_16 (by decide) ?_
    refine pw_callSi (va_runSN (As := [.int (what), .int (0), .int (1)]) (rest := []) ⟨hx, hb, hml, hown, hw⟩ (c_X_within l D cs N bk cw s.heap.size what 0 1) (cw_SN 3 hw (kN_P_28 hN) kS_X_within kZ_X kC_X_within rfl rfl ⟨by decide, by decide, by decide +kernel⟩ ⟨Nat.le_of_ble_eq_true rfl, Nat.le_of_ble_eq_true rfl⟩) (pw_preS hN hK hP hD) rfl rfl hl.1 rfl (lv_room (Nat.le_of_ble_eq_true rfl)) d_P_has_17 ⟨Nat.le_of_ble_eq_true rfl, Nat.le_of_ble_eq_true rfl⟩) (fun r_3 hr_3 => ?_)
    have hr_3 : r_3 = bI (0 ≤ what ∧ what ≤ 1) := hr_3
    subst hr_3
    refine pw_ifeq (tgt := 27) hx hb d_P_has_20 (by decide) (fun c_4 => ?_) (fun c_4 => ?_)
    · have c_4 : ¬ (0 ≤ what ∧ what ≤ 1) := c_4
      refine lv_iconst (v := 0) hx hb d_P_has_27 (by decide) ?_
      exact W.zret (v := 0) (ty := .boolean) hx hb hr (by decide) (fun t ht hW => ⟨0, rfl, (bI_f (fun h => c_4 h.2)).symm, ht⟩) (fun q h => by cases h) d_P_has_28
    · have c_4 : 0 ≤ what ∧ what ≤ 1 := c_4
      refine lv_iconst (v := 1) hx hb d_P_has_23 (by decide) ?_
      refine lv_goto (tgt := 28) hx hb d_P_has_24 (by decide) ?_
      exact W.zret (v := 1) (ty := .boolean) hx hb hr (by decide) (fun t ht hW => ⟨1, rfl, (bI_t ⟨⟨c_2.1, (le_pr (by omega)).mp c_2.2⟩, c_4⟩).symm, ht⟩) (fun q h => by cases h) d_P_has_28
set_option maxHeartbeats 4000000 in
set_option maxRecDepth 100000 in
theorem c_P_part (l : Launch) (D : va_G) (cs : Nat → ClassId) (N : Nat) (bk : Nat → Nat) (cw : Nat → va_E) (sz : Nat) (K K1 K2 : Nat) (hk : K < N) (z : Nat) (he : cw K = .inr (4, [.ref (bk K1), .ref (bk K2), .int (nI z)])) (ln : Nat) (hln : ln < 2 ^ 30) (hz : z ≤ ln) (f1 f2 : Nat → Int32) (hk1 : K1 < N) (he1 : cw K1 = .inl (cs 0, ln, .inl f1)) (hk2 : K2 < N) (he2 : cw K2 = .inl (cs 0, ln, .inl f2)) (j : Nat) (hj : j < z) (what : Int32) (hq : 0 ≤ what ∧ what ≤ 1) : Met l y_P_part w_P_part ({ frames := 2, cells := 0, slots := 0, locals := 44 }) (va_Pc [.ref (bk (K)), .int (nI j), .int (what)] (PB D classes (TY cs) N bk cw sz)) (vp_Si (fun r => r = if what = 0 then f1 j else f2 j)) 0 0 (fun _ => False) := by
  refine pw_entry (cc := b_P_part) (maxL := 3) (ret := (some .int)) (by decide +kernel) rfl (Nat.le_of_ble_eq_true rfl) ?_
  intro p_ e_ s m below_ meth_ c_ ls hx hb hr hml hts hown hlocks hin hsz hP hK hD hS hA hN hl
  have hw : ∀ w ∈ WA, w.before _ s = true := fun w h => hts w (List.mem_cons_of_mem _ h)
  have hown : s.vm.findClass "IssueRows$Pairs" = some m.cls := hown
  have hl : lv_has ls 3 [(0, .ref (bk (K))), (1, .int (nI j)), (2, .int (what))] := hl
  refine lv_aload_n hx hb d_P_part_0 rfl (lv_at hl 0 rfl) ?_
  refine lv_iload_n hx hb d_P_part_1 rfl (lv_at hl 1 rfl) ?_
  refine lv_iload_n hx hb d_P_part_2 rfl (lv_at hl 2 rfl) ?_
  refine pw_callSi (va_runV (As := [.int (nI j), .int (what)]) (rest := []) ⟨hx, hb, hml, hown, hw⟩ (c_P_has l D cs N bk cw s.heap.size (K) (K1) (K2) hk z he ln hln hz f1 f2 hk1 he1 hk2 he2 (nI j) what) (cw_V 2 hw kM_P_32 kI_P_has kV_P_has kZ_P kC_P_has rfl rfl ⟨rfl, by decide, by decide, by decide +kernel⟩ ⟨Nat.le_of_ble_eq_true rfl, Nat.le_of_ble_eq_true rfl⟩) (pw_preV hN hK hP hD (K) hk he rfl) rfl rfl hl.1 rfl (lv_room (Nat.le_of_ble_eq_true rfl)) d_P_part_3 ⟨Nat.le_of_ble_eq_true rfl, Nat.le_of_ble_eq_true rfl⟩) (fun r_1 hr_1 => ?_)
  have hr_1 : r_1 = bI ((0 ≤ (nI j) ∧ (nI j) < nI z) ∧ 0 ≤ what ∧ what ≤ 1) := hr_1
  subst hr_1
  refine pw_ifne (tgt := 11) hx hb d_P_part_6 (by decide) (fun c_2 => ?_) (fun c_2 => ?_)
  · have c_2 : (0 ≤ (nI j) ∧ (nI j) < nI z) ∧ 0 ≤ what ∧ what ≤ 1 := c_2
    refine lv_iload_n hx hb d_P_part_11 rfl (lv_at hl 2 rfl) ?_
    refine lv_if_ne (tgt := 24) hx hb d_P_part_12 (by decide) (fun c_3 => ?_) (fun c_3 => ?_)
    · have c_3 : ¬ what = 0 := c_3
      refine lv_aload_n hx hb d_P_part_24 rfl (lv_at hl 0 rfl) ?_
      refine pw_get (ci := 4) (v := .ref (bk (K2))) hx hb hw i_P hown hK hP (K) hk he rfl 1 (by decide) (hw _ kF_P_25) rfl d_P_part_25 ?_
      refine lv_iload_n hx hb d_P_part_28 rfl (lv_at hl 1 rfl) ?_
      refine pw_iald (n := ln) (f := f2) hx hb hK hP 0 (K2) hk2 he2 rfl (j) rfl (by omega) (by omega) d_P_part_29 ?_
      exact W.iret (v := f2 (j)) hx hb hr (fun t ht hW => ⟨f2 (j), rfl, (by rw [if_neg c_3]), ht⟩) (fun q h => by cases h) d_P_part_30
    · have c_3 : what = 0 := c_3
      refine lv_aload_n hx hb d_P_part_15 rfl (lv_at hl 0 rfl) ?_
      refine pw_get (ci := 4) (v := .ref (bk (K1))) hx hb hw i_P hown hK hP (K) hk he rfl 0 (by decide) (hw _ kF_P_21) rfl d_P_part_16 ?_
      refine lv_iload_n hx hb d_P_part_19 rfl (lv_at hl 1 rfl) ?_
      refine pw_iald (n := ln) (f := f1) hx hb hK hP 0 (K1) hk1 he1 rfl (j) rfl (by omega) (by omega) d_P_part_20 ?_
      refine lv_goto (tgt := 30) hx hb d_P_part_21 (by decide) ?_
      exact W.iret (v := f1 (j)) hx hb hr (fun t ht hW => ⟨f1 (j), rfl, (by rw [if_pos c_3]), ht⟩) (fun q h => by cases h) d_P_part_30
  · have c_2 : ¬ ((0 ≤ (nI j) ∧ (nI j) < nI z) ∧ 0 ≤ what ∧ what ≤ 1) := c_2
    exact absurd ⟨⟨nI_pos' (by omega), (nI_ltI (by omega) (by omega)).mpr hj⟩, hq⟩ c_2
set_option maxHeartbeats 4000000 in
set_option maxRecDepth 100000 in
theorem c_V_isFull (l : Launch) (D : va_G) (cs : Nat → ClassId) (N : Nat) (bk : Nat → Nat) (cw : Nat → va_E) (sz : Nat) (K K1 K2 : Nat) (hk : K < N) (v : Nat) (hv : v ≤ 40) (he : cw K = .inr (5, [.ref (bk K1), .ref (bk K2), .int (nI v)])) (mm en : Nat → Int32) (hk1 : K1 < N) (he1 : cw K1 = .inl (cs 0, 200, .inl mm)) (hk2 : K2 < N) (he2 : cw K2 = .inl (cs 0, 41, .inl en)) : Met l y_V_isFull w_V_isFull ({ frames := 0, cells := 0, slots := 0, locals := 0 }) (va_Pc [.ref (bk (K))] (PB D classes (TY cs) N bk cw sz)) (vp_Si (fun r => r = bI (40 ≤ v))) 0 0 (fun _ => False) := by
  refine pw_entry (cc := b_V_isFull) (maxL := 1) (ret := (some .boolean)) (by decide +kernel) rfl (Nat.le_of_ble_eq_true rfl) ?_
  intro p_ e_ s m below_ meth_ c_ ls hx hb hr hml hts hown hlocks hin hsz hP hK hD hS hA hN hl
  have hw : ∀ w ∈ WA, w.before _ s = true := fun w h => hts w (List.mem_cons_of_mem _ h)
  have hown : s.vm.findClass "IssueRows$Volumes" = some m.cls := hown
  have hl : lv_has ls 1 [(0, .ref (bk (K)))] := hl
  refine lv_aload_n hx hb d_V_isFull_0 rfl (lv_at hl 0 rfl) ?_
  refine pw_get (ci := 5) (v := .int (nI v)) hx hb hw i_V hown hK hP (K) hk he rfl 2 (by decide) (hw _ kF_V_18) rfl d_V_isFull_1 ?_
  refine lv_bipush (v := 40) hx hb d_V_isFull_4 (by decide) ?_
  refine lv_icmp_lt (tgt := 13) hx hb d_V_isFull_6 (by decide) (fun c_1 => ?_) (fun c_1 => ?_)
  · have c_1 : (nI v) < 40 := c_1
    refine lv_iconst (v := 0) hx hb d_V_isFull_13 (by decide) ?_
    exact W.zret (v := 0) (ty := .boolean) hx hb hr (by decide) (fun t ht hW => ⟨0, rfl, (bI_f (by have h7 := c_1; simp only [Int32.lt_iff_toInt_lt, nI_toInt (show v < 2 ^ 31 by omega), T40] at h7; omega)).symm, ht⟩) (fun q h => by cases h) d_V_isFull_14
  · have c_1 : ¬ (nI v) < 40 := c_1
    refine lv_iconst (v := 1) hx hb d_V_isFull_9 (by decide) ?_
    refine lv_goto (tgt := 14) hx hb d_V_isFull_10 (by decide) ?_
    exact W.zret (v := 1) (ty := .boolean) hx hb hr (by decide) (fun t ht hW => ⟨1, rfl, (bI_t (by have h7 := c_1; simp only [Int32.lt_iff_toInt_lt, nI_toInt (show v < 2 ^ 31 by omega), T40] at h7; omega)).symm, ht⟩) (fun q h => by cases h) d_V_isFull_14
set_option maxHeartbeats 4000000 in
set_option maxRecDepth 100000 in
theorem c_V_open (l : Launch) (D : va_G) (cs : Nat → ClassId) (N : Nat) (bk : Nat → Nat) (cw : Nat → va_E) (sz : Nat) (K K1 K2 : Nat) (hk : K < N) (v : Nat) (hv : v ≤ 40) (he : cw K = .inr (5, [.ref (bk K1), .ref (bk K2), .int (nI v)])) (mm en : Nat → Int32) (hk1 : K1 < N) (he1 : cw K1 = .inl (cs 0, 200, .inl mm)) (hk2 : K2 < N) (he2 : cw K2 = .inl (cs 0, 41, .inl en)) (n1 : K ≠ K1) (n2 : K ≠ K2) (n3 : K1 ≠ K2) : Met l y_V_open w_V_open ({ frames := 1, cells := 0, slots := 0, locals := 20 }) (va_Pc [.ref (bk (K))] (PB D classes (TY cs) N bk cw sz)) (va_Qi (fun (r : Int32) (u : Wt) => (v < 40 → r = nI v ∧ u = (N, bk, va_up (va_up cw K2 (.inl (cs 0, 41, .inl (upd en (v + 1) (en v))))) K (.inr (5, [.ref (bk K1), .ref (bk K2), .int (nI (v + 1))])))) ∧ (¬ v < 40 → r = -1 ∧ u = (N, bk, cw))) (Wd D classes (TY cs) (AA N bk sz)) (AA N bk sz)) 0 0 (AA N bk sz) := by
  refine pw_entry (cc := b_V_open) (maxL := 1) (ret := (some .int)) (by decide +kernel) rfl (Nat.le_of_ble_eq_true rfl) ?_
  intro p_ e_ s m below_ meth_ c_ ls hx hb hr hml hts hown hlocks hin hsz hP hK hD hS hA hN hl
  have hw : ∀ w ∈ WA, w.before _ s = true := fun w h => hts w (List.mem_cons_of_mem _ h)
  have hown : s.vm.findClass "IssueRows$Volumes" = some m.cls := hown
  have hl : lv_has ls 1 [(0, .ref (bk (K)))] := hl
  refine lv_aload_n hx hb d_V_open_0 rfl (lv_at hl 0 rfl) ?_
  refine pw_callSi (va_runV (As := []) (rest := []) ⟨hx, hb, hml, hown, hw⟩ (c_V_isFull l D cs N bk cw s.heap.size (K) (K1) (K2) hk v hv he mm en hk1 he1 hk2 he2) (cw_V 0 hw kM_V_22 kI_V_isFull kV_V_isFull kZ_V kC_V_isFull rfl rfl ⟨rfl, by decide, by decide, by decide +kernel⟩ ⟨Nat.le_of_ble_eq_true rfl, Nat.le_of_ble_eq_true rfl⟩) (pw_preV hN hK hP hD (K) hk he rfl) rfl rfl hl.1 rfl (lv_room (Nat.le_of_ble_eq_true rfl)) d_V_open_1 ⟨Nat.le_of_ble_eq_true rfl, Nat.le_of_ble_eq_true rfl⟩) (fun r_1 hr_1 => ?_)
  have hr_1 : r_1 = bI (40 ≤ v) := hr_1
  subst hr_1
  refine pw_ifeq (tgt := 9) hx hb d_V_open_4 (by decide) (fun c_2 => ?_) (fun c_2 => ?_)
  · have c_2 : ¬ (40 ≤ v) := c_2
    refine lv_aload_n hx hb d_V_open_9 rfl (lv_at hl 0 rfl) ?_
    refine pw_get (ci := 5) (v := .ref (bk (K2))) hx hb hw i_V hown hK hP (K) hk he rfl 1 (by decide) (hw _ kF_V_15) rfl d_V_open_10 ?_
    refine lv_aload_n hx hb d_V_open_13 rfl (lv_at hl 0 rfl) ?_
    refine pw_get (ci := 5) (v := .int (nI v)) hx hb hw i_V hown hK hP (K) hk he rfl 2 (by decide) (hw _ kF_V_18) rfl d_V_open_14 ?_
    refine lv_iconst (v := 1) hx hb d_V_open_17 (by decide) ?_
    refine lv_iadd hx hb d_V_open_18 ?_
    rw [show (nI v) + 1 = nI (v + 1) from nI_1 v]
    refine lv_aload_n hx hb d_V_open_19 rfl (lv_at hl 0 rfl) ?_
    refine pw_get (ci := 5) (v := .ref (bk (K2))) hx hb hw i_V hown hK hP (K) hk he rfl 1 (by decide) (hw _ kF_V_15) rfl d_V_open_20 ?_
    refine lv_aload_n hx hb d_V_open_23 rfl (lv_at hl 0 rfl) ?_
    refine pw_get (ci := 5) (v := .int (nI v)) hx hb hw i_V hown hK hP (K) hk he rfl 2 (by decide) (hw _ kF_V_18) rfl d_V_open_24 ?_
    refine pw_iald (n := 41) (f := en) hx hb hK hP 0 (K2) hk2 he2 rfl (v) rfl (by omega) (by decide) d_V_open_27 ?_
    refine pw_iast (n := 41) (f := en) hx hb hK hP hD hS 0 (K2) hk2 he2 rfl (v + 1) rfl (by omega) (by decide) d_V_open_28 (fun cw_3 H locs ecw_3 hP hD hS => ?_)
    have h_4 : cw_3 (K) = .inr (5, [.ref (bk (K1)), .ref (bk (K2)), .int (nI v)]) := by rw [ecw_3, va_up_ne _ _ (by omega)]; exact he
    have h_5 : cw_3 (K1) = .inl (cs 0, 200, .inl mm) := by rw [ecw_3, va_up_ne _ _ (by omega)]; exact he1
    have h_6 : cw_3 (K2) = .inl (cs 0, 41, .inl (upd en (v + 1) (en (v)))) := by rw [ecw_3]; exact va_up_self _ _ _
    refine lv_aload_n hx hb d_V_open_29 rfl (lv_at hl 0 rfl) ?_
    refine lv_dup hx hb d_V_open_30 rfl ?_
    refine pw_get (ci := 5) (v := .int (nI v)) hx hb hw i_V hown hK hP (K) hk h_4 rfl 2 (by decide) (hw _ kF_V_18) rfl d_V_open_31 ?_
    refine lv_iconst (v := 1) hx hb d_V_open_34 (by decide) ?_
    refine lv_iadd hx hb d_V_open_35 ?_
    rw [show (nI v) + 1 = nI (v + 1) from nI_1 v]
    refine pw_put (ci := 5) (v := .int (nI (v + 1))) (ty := .int) (fs' := [.ref (bk (K1)), .ref (bk (K2)), .int (nI (v + 1))]) hx hb hw i_V t_V t_V_ok n_V hown hK hP hD hS (K) hk h_4 rfl 2 (by decide) (hw _ kF_V_18) rfl (t_V_ok 2 (by decide)) rfl rfl (Nat.le_of_ble_eq_true rfl) rfl d_V_open_36 (fun cw_7 H locs ecw_7 hP hD hS => ?_)
    have h_8 : cw_7 (K) = .inr (5, [.ref (bk (K1)), .ref (bk (K2)), .int (nI (v + 1))]) := by rw [ecw_7]; exact va_up_self _ _ _
    have h_9 : cw_7 (K1) = .inl (cs 0, 200, .inl mm) := by rw [ecw_7, va_up_ne _ _ (by omega)]; exact h_5
    have h_10 : cw_7 (K2) = .inl (cs 0, 41, .inl (upd en (v + 1) (en (v)))) := by rw [ecw_7, va_up_ne _ _ (by omega)]; exact h_6
    refine lv_aload_n hx hb d_V_open_39 rfl (lv_at hl 0 rfl) ?_
    refine pw_get (ci := 5) (v := .int (nI (v + 1))) hx hb hw i_V hown hK hP (K) hk h_8 rfl 2 (by decide) (hw _ kF_V_18) rfl d_V_open_40 ?_
    refine lv_iconst (v := 1) hx hb d_V_open_43 (by decide) ?_
    refine lv_isub hx hb d_V_open_44 ?_
    rw [show (nI (v + 1)) - 1 = nI v from nI_pred v]
    exact W.iret (v := nI v) hx hb hr (fun t ht hW => ⟨⟨nI v, (N, bk, cw_7), rfl, ⟨fun _ => ⟨rfl, by rw [ecw_7, ecw_3]⟩, fun h => absurd (by omega) c_2⟩, by rw [ht]; exact hP, va_K.moved hW.alike hK, hD⟩, hS.F ht⟩) hS.2.2 d_V_open_45
  · have c_2 : 40 ≤ v := c_2
    refine lv_iconst (v := -1) hx hb d_V_open_7 (by decide) ?_
    exact W.iret (v := -1) hx hb hr (fun t ht hW => ⟨⟨-1, (N, bk, cw), rfl, ⟨fun h => absurd c_2 (by omega), fun _ => ⟨rfl, rfl⟩⟩, by rw [ht]; exact hP, va_K.moved hW.alike hK, hD⟩, hS.F ht⟩) hS.2.2 d_V_open_8
set_option maxHeartbeats 4000000 in
set_option maxRecDepth 100000 in
theorem c_V_add (l : Launch) (D : va_G) (cs : Nat → ClassId) (N : Nat) (bk : Nat → Nat) (cw : Nat → va_E) (sz : Nat) (K K1 K2 : Nat) (hk : K < N) (v : Nat) (hv : v ≤ 40) (he : cw K = .inr (5, [.ref (bk K1), .ref (bk K2), .int (nI v)])) (mm en : Nat → Int32) (hk1 : K1 < N) (he1 : cw K1 = .inl (cs 0, 200, .inl mm)) (hk2 : K2 < N) (he2 : cw K2 = .inl (cs 0, 41, .inl en)) (n1 : K ≠ K1) (n2 : K ≠ K2) (n3 : K1 ≠ K2) (hv1 : 1 ≤ v) (eb : Nat) (hee : en v = nI eb) (heb : eb < 200) (x : Int32) : Met l y_V_add w_V_add ({ frames := 1, cells := 0, slots := 0, locals := 22 }) (va_Pc [.ref (bk (K)), .int (x)] (PB D classes (TY cs) N bk cw sz)) (va_Qv (fun u : Wt => u = (N, bk, va_up (va_up cw K1 (.inl (cs 0, 200, .inl (upd mm eb x)))) K2 (.inl (cs 0, 41, .inl (upd en v (nI (eb + 1))))))) (Wd D classes (TY cs) (AA N bk sz)) (AA N bk sz)) 0 0 (AA N bk sz) := by
  refine pw_entry (cc := b_V_add) (maxL := 2) (ret := none) (by decide +kernel) rfl (Nat.le_of_ble_eq_true rfl) ?_
  intro p_ e_ s m below_ meth_ c_ ls hx hb hr hml hts hown hlocks hin hsz hP hK hD hS hA hN hl
  have hw : ∀ w ∈ WA, w.before _ s = true := fun w h => hts w (List.mem_cons_of_mem _ h)
  have hown : s.vm.findClass "IssueRows$Volumes" = some m.cls := hown
  have hl : lv_has ls 2 [(0, .ref (bk (K))), (1, .int (x))] := hl
  refine lv_aload_n hx hb d_V_add_0 rfl (lv_at hl 0 rfl) ?_
  refine pw_get (ci := 5) (v := .int (nI v)) hx hb hw i_V hown hK hP (K) hk he rfl 2 (by decide) (hw _ kF_V_18) rfl d_V_add_1 ?_
  refine lv_iconst (v := 1) hx hb d_V_add_4 (by decide) ?_
  refine lv_bipush (v := 40) hx hb d_V_add_5 (by decide) ?_
  refine pw_callSi (va_runSN (As := [.int (nI v), .int (1), .int (40)]) (rest := []) ⟨hx, hb, hml, hown, hw⟩ (c_X_within l D cs N bk cw s.heap.size (nI v) 1 40) (cw_SN 3 hw (kN_V_26 hN) kS_X_within kZ_X kC_X_within rfl rfl ⟨by decide, by decide, by decide +kernel⟩ ⟨Nat.le_of_ble_eq_true rfl, Nat.le_of_ble_eq_true rfl⟩) (pw_preS hN hK hP hD) rfl rfl hl.1 rfl (lv_room (Nat.le_of_ble_eq_true rfl)) d_V_add_7 ⟨Nat.le_of_ble_eq_true rfl, Nat.le_of_ble_eq_true rfl⟩) (fun r_1 hr_1 => ?_)
  have hr_1 : r_1 = bI (1 ≤ (nI v) ∧ (nI v) ≤ 40) := hr_1
  subst hr_1
  refine pw_ifeq (tgt := 60) hx hb d_V_add_10 (by decide) (fun c_2 => ?_) (fun c_2 => ?_)
  · have c_2 : ¬ (1 ≤ (nI v) ∧ (nI v) ≤ 40) := c_2
    exact absurd (by simp only [Int32.le_iff_toInt_le, nI_toInt (show v < 2 ^ 31 by omega), T1, T40]; omega) c_2
  · have c_2 : 1 ≤ (nI v) ∧ (nI v) ≤ 40 := c_2
    refine lv_aload_n hx hb d_V_add_13 rfl (lv_at hl 0 rfl) ?_
    refine pw_get (ci := 5) (v := .ref (bk (K2))) hx hb hw i_V hown hK hP (K) hk he rfl 1 (by decide) (hw _ kF_V_15) rfl d_V_add_14 ?_
    refine lv_aload_n hx hb d_V_add_17 rfl (lv_at hl 0 rfl) ?_
    refine pw_get (ci := 5) (v := .int (nI v)) hx hb hw i_V hown hK hP (K) hk he rfl 2 (by decide) (hw _ kF_V_18) rfl d_V_add_18 ?_
    refine pw_iald (n := 41) (f := en) hx hb hK hP 0 (K2) hk2 he2 rfl (v) rfl (by omega) (by decide) d_V_add_21 ?_
    rw [show en (v) = nI eb from hee]
    refine lv_iconst (v := 0) hx hb d_V_add_22 (by decide) ?_
    refine lv_sipush (v := 199) hx hb d_V_add_23 (by decide) ?_
    refine pw_callSi (va_runSN (As := [.int (nI eb), .int (0), .int (199)]) (rest := []) ⟨hx, hb, hml, hown, hw⟩ (c_X_within l D cs N bk cw s.heap.size (nI eb) 0 199) (cw_SN 3 hw (kN_V_26 hN) kS_X_within kZ_X kC_X_within rfl rfl ⟨by decide, by decide, by decide +kernel⟩ ⟨Nat.le_of_ble_eq_true rfl, Nat.le_of_ble_eq_true rfl⟩) (pw_preS hN hK hP hD) rfl rfl hl.1 rfl (lv_room (Nat.le_of_ble_eq_true rfl)) d_V_add_26 ⟨Nat.le_of_ble_eq_true rfl, Nat.le_of_ble_eq_true rfl⟩) (fun r_3 hr_3 => ?_)
    have hr_3 : r_3 = bI (0 ≤ (nI eb) ∧ (nI eb) ≤ 199) := hr_3
    subst hr_3
    refine pw_ifeq (tgt := 60) hx hb d_V_add_29 (by decide) (fun c_4 => ?_) (fun c_4 => ?_)
    · have c_4 : ¬ (0 ≤ (nI eb) ∧ (nI eb) ≤ 199) := c_4
      exact absurd (by simp only [Int32.le_iff_toInt_le, nI_toInt (show eb < 2 ^ 31 by omega), T0, T199]; omega) c_4
    · have c_4 : 0 ≤ (nI eb) ∧ (nI eb) ≤ 199 := c_4
      refine lv_aload_n hx hb d_V_add_32 rfl (lv_at hl 0 rfl) ?_
      refine pw_get (ci := 5) (v := .ref (bk (K1))) hx hb hw i_V hown hK hP (K) hk he rfl 0 (by decide) (hw _ kF_V_9) rfl d_V_add_33 ?_
      refine lv_aload_n hx hb d_V_add_36 rfl (lv_at hl 0 rfl) ?_
      refine pw_get (ci := 5) (v := .ref (bk (K2))) hx hb hw i_V hown hK hP (K) hk he rfl 1 (by decide) (hw _ kF_V_15) rfl d_V_add_37 ?_
      refine lv_aload_n hx hb d_V_add_40 rfl (lv_at hl 0 rfl) ?_
      refine pw_get (ci := 5) (v := .int (nI v)) hx hb hw i_V hown hK hP (K) hk he rfl 2 (by decide) (hw _ kF_V_18) rfl d_V_add_41 ?_
      refine pw_iald (n := 41) (f := en) hx hb hK hP 0 (K2) hk2 he2 rfl (v) rfl (by omega) (by decide) d_V_add_44 ?_
      rw [show en (v) = nI eb from hee]
      refine lv_iload_n hx hb d_V_add_45 rfl (lv_at hl 1 rfl) ?_
      refine pw_iast (n := 200) (f := mm) hx hb hK hP hD hS 0 (K1) hk1 he1 rfl (eb) rfl (by omega) (by decide) d_V_add_46 (fun cw_5 H locs ecw_5 hP hD hS => ?_)
      have h_6 : cw_5 (K) = .inr (5, [.ref (bk (K1)), .ref (bk (K2)), .int (nI v)]) := by rw [ecw_5, va_up_ne _ _ (by omega)]; exact he
      have h_7 : cw_5 (K1) = .inl (cs 0, 200, .inl (upd mm (eb) (x))) := by rw [ecw_5]; exact va_up_self _ _ _
      have h_8 : cw_5 (K2) = .inl (cs 0, 41, .inl en) := by rw [ecw_5, va_up_ne _ _ (by omega)]; exact he2
      refine lv_aload_n hx hb d_V_add_47 rfl (lv_at hl 0 rfl) ?_
      refine pw_get (ci := 5) (v := .ref (bk (K2))) hx hb hw i_V hown hK hP (K) hk h_6 rfl 1 (by decide) (hw _ kF_V_15) rfl d_V_add_48 ?_
      refine lv_aload_n hx hb d_V_add_51 rfl (lv_at hl 0 rfl) ?_
      refine pw_get (ci := 5) (v := .int (nI v)) hx hb hw i_V hown hK hP (K) hk h_6 rfl 2 (by decide) (hw _ kF_V_18) rfl d_V_add_52 ?_
      refine lv_dup2_11 hx hb d_V_add_55 rfl rfl ?_
      refine pw_iald (n := 41) (f := en) hx hb hK hP 0 (K2) hk2 h_8 rfl (v) rfl (by omega) (by decide) d_V_add_56 ?_
      rw [show en (v) = nI eb from hee]
      refine lv_iconst (v := 1) hx hb d_V_add_57 (by decide) ?_
      refine lv_iadd hx hb d_V_add_58 ?_
      rw [show (nI eb) + 1 = nI (eb + 1) from nI_1 eb]
      refine pw_iast (n := 41) (f := en) hx hb hK hP hD hS 0 (K2) hk2 h_8 rfl (v) rfl (by omega) (by decide) d_V_add_59 (fun cw_9 H locs ecw_9 hP hD hS => ?_)
      have h_10 : cw_9 (K) = .inr (5, [.ref (bk (K1)), .ref (bk (K2)), .int (nI v)]) := by rw [ecw_9, va_up_ne _ _ (by omega)]; exact h_6
      have h_11 : cw_9 (K1) = .inl (cs 0, 200, .inl (upd mm (eb) (x))) := by rw [ecw_9, va_up_ne _ _ (by omega)]; exact h_7
      have h_12 : cw_9 (K2) = .inl (cs 0, 41, .inl (upd en (v) (nI (eb + 1)))) := by rw [ecw_9]; exact va_up_self _ _ _
      exact W.vret hx hb hr (fun t ht hW => ⟨⟨(N, bk, cw_9), rfl, by rw [ecw_9, ecw_5], by rw [ht]; exact hP, va_K.moved hW.alike hK, hD⟩, hS.F ht⟩) hS.2.2 d_V_add_60
set_option maxHeartbeats 4000000 in
set_option maxRecDepth 100000 in
theorem c_V_has_in (l : Launch) (D : va_G) (cs : Nat → ClassId) (N : Nat) (bk : Nat → Nat) (cw : Nat → va_E) (sz : Nat) (K K1 K2 : Nat) (hk : K < N) (v : Nat) (hv : v ≤ 40) (he : cw K = .inr (5, [.ref (bk K1), .ref (bk K2), .int (nI v)])) (mm en : Nat → Int32) (hk1 : K1 < N) (he1 : cw K1 = .inl (cs 0, 200, .inl mm)) (hk2 : K2 < N) (he2 : cw K2 = .inl (cs 0, 41, .inl en)) (j : Nat) (hj : j < v) (e0 ed : Nat) (hed : e0 + ed ≤ 200) (h0 : en j = nI e0) (h1 : en (j + 1) = nI (e0 + ed)) (i : Int32) : Met l y_V_has w_V_has ({ frames := 1, cells := 0, slots := 0, locals := 22 }) (va_Pc [.ref (bk (K)), .int (nI j), .int (i)] (PB D classes (TY cs) N bk cw sz)) (vp_Si (fun r => r = bI (0 ≤ i ∧ i < nI ed))) 0 0 (fun _ => False) := by
  refine pw_entry (cc := b_V_has) (maxL := 3) (ret := (some .boolean)) (by decide +kernel) rfl (Nat.le_of_ble_eq_true rfl) ?_
  intro p_ e_ s m below_ meth_ c_ ls hx hb hr hml hts hown hlocks hin hsz hP hK hD hS hA hN hl
  have hw : ∀ w ∈ WA, w.before _ s = true := fun w h => hts w (List.mem_cons_of_mem _ h)
  have hown : s.vm.findClass "IssueRows$Volumes" = some m.cls := hown
  have hl : lv_has ls 3 [(0, .ref (bk (K))), (1, .int (nI j)), (2, .int (i))] := hl
  refine lv_iload_n hx hb d_V_has_0 rfl (lv_at hl 1 rfl) ?_
  refine lv_iconst (v := 0) hx hb d_V_has_1 (by decide) ?_
  refine lv_aload_n hx hb d_V_has_2 rfl (lv_at hl 0 rfl) ?_
  refine pw_get (ci := 5) (v := .int (nI v)) hx hb hw i_V hown hK hP (K) hk he rfl 2 (by decide) (hw _ kF_V_18) rfl d_V_has_3 ?_
  refine lv_iconst (v := 1) hx hb d_V_has_6 (by decide) ?_
  refine lv_isub hx hb d_V_has_7 ?_
  refine pw_callSi (va_runSN (As := [.int (nI j), .int (0), .int ((nI v) - 1)]) (rest := []) ⟨hx, hb, hml, hown, hw⟩ (c_X_within l D cs N bk cw s.heap.size (nI j) 0 ((nI v) - 1)) (cw_SN 3 hw (kN_V_26 hN) kS_X_within kZ_X kC_X_within rfl rfl ⟨by decide, by decide, by decide +kernel⟩ ⟨Nat.le_of_ble_eq_true rfl, Nat.le_of_ble_eq_true rfl⟩) (pw_preS hN hK hP hD) rfl rfl hl.1 rfl (lv_room (Nat.le_of_ble_eq_true rfl)) d_V_has_8 ⟨Nat.le_of_ble_eq_true rfl, Nat.le_of_ble_eq_true rfl⟩) (fun r_1 hr_1 => ?_)
  have hr_1 : r_1 = bI (0 ≤ (nI j) ∧ (nI j) ≤ ((nI v) - 1)) := hr_1
  subst hr_1
  refine pw_ifeq (tgt := 43) hx hb d_V_has_11 (by decide) (fun c_2 => ?_) (fun c_2 => ?_)
  · have c_2 : ¬ (0 ≤ (nI j) ∧ (nI j) ≤ ((nI v) - 1)) := c_2
    exact absurd ⟨nI_pos' (by omega), (le_pr (by omega)).mpr ((nI_ltI (by omega) (by omega)).mpr hj)⟩ c_2
  · have c_2 : 0 ≤ (nI j) ∧ (nI j) ≤ ((nI v) - 1) := c_2
    refine lv_iload_n hx hb d_V_has_14 rfl (lv_at hl 2 rfl) ?_
    refine lv_iconst (v := 0) hx hb d_V_has_15 (by decide) ?_
    refine lv_aload_n hx hb d_V_has_16 rfl (lv_at hl 0 rfl) ?_
    refine pw_get (ci := 5) (v := .ref (bk (K2))) hx hb hw i_V hown hK hP (K) hk he rfl 1 (by decide) (hw _ kF_V_15) rfl d_V_has_17 ?_
    refine lv_iload_n hx hb d_V_has_20 rfl (lv_at hl 1 rfl) ?_
    refine lv_iconst (v := 1) hx hb d_V_has_21 (by decide) ?_
    refine lv_iadd hx hb d_V_has_22 ?_
    rw [show (nI j) + 1 = nI (j + 1) from nI_1 j]
    refine pw_iald (n := 41) (f := en) hx hb hK hP 0 (K2) hk2 he2 rfl (j + 1) rfl (by omega) (by decide) d_V_has_23 ?_
    rw [show en (j + 1) = nI (e0 + ed) from h1]
    refine lv_aload_n hx hb d_V_has_24 rfl (lv_at hl 0 rfl) ?_
    refine pw_get (ci := 5) (v := .ref (bk (K2))) hx hb hw i_V hown hK hP (K) hk he rfl 1 (by decide) (hw _ kF_V_15) rfl d_V_has_25 ?_
    refine lv_iload_n hx hb d_V_has_28 rfl (lv_at hl 1 rfl) ?_
    refine pw_iald (n := 41) (f := en) hx hb hK hP 0 (K2) hk2 he2 rfl (j) rfl (by omega) (by decide) d_V_has_29 ?_
    rw [show en (j) = nI e0 from h0]
    refine lv_isub hx hb d_V_has_30 ?_
    rw [show (nI (e0 + ed)) - (nI e0) = nI ed from by rw [pk_sub (by omega)]; congr 1; omega]
    refine lv_iconst (v := 1) hx hb d_V_has_31 (by decide) ?_
    refine lv_isub hx hb d_V_has_32 ?_
    refine pw_callSi (va_runSN (As := [.int (i), .int (0), .int ((nI ed) - 1)]) (rest := []) ⟨hx, hb, hml, hown, hw⟩ (c_X_within l D cs N bk cw s.heap.size i 0 ((nI ed) - 1)) (cw_SN 3 hw (kN_V_26 hN) kS_X_within kZ_X kC_X_within rfl rfl ⟨by decide, by decide, by decide +kernel⟩ ⟨Nat.le_of_ble_eq_true rfl, Nat.le_of_ble_eq_true rfl⟩) (pw_preS hN hK hP hD) rfl rfl hl.1 rfl (lv_room (Nat.le_of_ble_eq_true rfl)) d_V_has_33 ⟨Nat.le_of_ble_eq_true rfl, Nat.le_of_ble_eq_true rfl⟩) (fun r_3 hr_3 => ?_)
    have hr_3 : r_3 = bI (0 ≤ i ∧ i ≤ ((nI ed) - 1)) := hr_3
    subst hr_3
    refine pw_ifeq (tgt := 43) hx hb d_V_has_36 (by decide) (fun c_4 => ?_) (fun c_4 => ?_)
    · have c_4 : ¬ (0 ≤ i ∧ i ≤ ((nI ed) - 1)) := c_4
      refine lv_iconst (v := 0) hx hb d_V_has_43 (by decide) ?_
      exact W.zret (v := 0) (ty := .boolean) hx hb hr (by decide) (fun t ht hW => ⟨0, rfl, (bI_f (fun h => c_4 ⟨h.1, (le_pr (by omega)).mpr h.2⟩)).symm, ht⟩) (fun q h => by cases h) d_V_has_44
    · have c_4 : 0 ≤ i ∧ i ≤ ((nI ed) - 1) := c_4
      refine lv_iconst (v := 1) hx hb d_V_has_39 (by decide) ?_
      refine lv_goto (tgt := 44) hx hb d_V_has_40 (by decide) ?_
      exact W.zret (v := 1) (ty := .boolean) hx hb hr (by decide) (fun t ht hW => ⟨1, rfl, (bI_t ⟨c_4.1, (le_pr (by omega)).mp c_4.2⟩).symm, ht⟩) (fun q h => by cases h) d_V_has_44
set_option maxHeartbeats 4000000 in
set_option maxRecDepth 100000 in
theorem c_V_has_out (l : Launch) (D : va_G) (cs : Nat → ClassId) (N : Nat) (bk : Nat → Nat) (cw : Nat → va_E) (sz : Nat) (K K1 K2 : Nat) (hk : K < N) (v : Nat) (hv : v ≤ 40) (he : cw K = .inr (5, [.ref (bk K1), .ref (bk K2), .int (nI v)])) (mm en : Nat → Int32) (hk1 : K1 < N) (he1 : cw K1 = .inl (cs 0, 200, .inl mm)) (hk2 : K2 < N) (he2 : cw K2 = .inl (cs 0, 41, .inl en)) (a i : Int32) (ha : ¬ (0 ≤ a ∧ a < nI v)) : Met l y_V_has w_V_has ({ frames := 1, cells := 0, slots := 0, locals := 22 }) (va_Pc [.ref (bk (K)), .int (a), .int (i)] (PB D classes (TY cs) N bk cw sz)) (vp_Si (fun r => r = 0)) 0 0 (fun _ => False) := by
  refine pw_entry (cc := b_V_has) (maxL := 3) (ret := (some .boolean)) (by decide +kernel) rfl (Nat.le_of_ble_eq_true rfl) ?_
  intro p_ e_ s m below_ meth_ c_ ls hx hb hr hml hts hown hlocks hin hsz hP hK hD hS hA hN hl
  have hw : ∀ w ∈ WA, w.before _ s = true := fun w h => hts w (List.mem_cons_of_mem _ h)
  have hown : s.vm.findClass "IssueRows$Volumes" = some m.cls := hown
  have hl : lv_has ls 3 [(0, .ref (bk (K))), (1, .int (a)), (2, .int (i))] := hl
  refine lv_iload_n hx hb d_V_has_0 rfl (lv_at hl 1 rfl) ?_
  refine lv_iconst (v := 0) hx hb d_V_has_1 (by decide) ?_
  refine lv_aload_n hx hb d_V_has_2 rfl (lv_at hl 0 rfl) ?_
  refine pw_get (ci := 5) (v := .int (nI v)) hx hb hw i_V hown hK hP (K) hk he rfl 2 (by decide) (hw _ kF_V_18) rfl d_V_has_3 ?_
  refine lv_iconst (v := 1) hx hb d_V_has_6 (by decide) ?_
  refine lv_isub hx hb d_V_has_7 ?_
  refine pw_callSi (va_runSN (As := [.int (a), .int (0), .int ((nI v) - 1)]) (rest := []) ⟨hx, hb, hml, hown, hw⟩ (c_X_within l D cs N bk cw s.heap.size a 0 ((nI v) - 1)) (cw_SN 3 hw (kN_V_26 hN) kS_X_within kZ_X kC_X_within rfl rfl ⟨by decide, by decide, by decide +kernel⟩ ⟨Nat.le_of_ble_eq_true rfl, Nat.le_of_ble_eq_true rfl⟩) (pw_preS hN hK hP hD) rfl rfl hl.1 rfl (lv_room (Nat.le_of_ble_eq_true rfl)) d_V_has_8 ⟨Nat.le_of_ble_eq_true rfl, Nat.le_of_ble_eq_true rfl⟩) (fun r_1 hr_1 => ?_)
  have hr_1 : r_1 = bI (0 ≤ a ∧ a ≤ ((nI v) - 1)) := hr_1
  subst hr_1
  refine pw_ifeq (tgt := 43) hx hb d_V_has_11 (by decide) (fun c_2 => ?_) (fun c_2 => ?_)
  · have c_2 : ¬ (0 ≤ a ∧ a ≤ ((nI v) - 1)) := c_2
    refine lv_iconst (v := 0) hx hb d_V_has_43 (by decide) ?_
    exact W.zret (v := 0) (ty := .boolean) hx hb hr (by decide) (fun t ht hW => ⟨0, rfl, rfl, ht⟩) (fun q h => by cases h) d_V_has_44
  · have c_2 : 0 ≤ a ∧ a ≤ ((nI v) - 1) := c_2
    exact absurd ⟨c_2.1, (le_pr (by omega)).mp c_2.2⟩ ha
set_option maxHeartbeats 4000000 in
set_option maxRecDepth 100000 in
theorem c_V_member (l : Launch) (D : va_G) (cs : Nat → ClassId) (N : Nat) (bk : Nat → Nat) (cw : Nat → va_E) (sz : Nat) (K K1 K2 : Nat) (hk : K < N) (v : Nat) (hv : v ≤ 40) (he : cw K = .inr (5, [.ref (bk K1), .ref (bk K2), .int (nI v)])) (mm en : Nat → Int32) (hk1 : K1 < N) (he1 : cw K1 = .inl (cs 0, 200, .inl mm)) (hk2 : K2 < N) (he2 : cw K2 = .inl (cs 0, 41, .inl en)) (j : Nat) (hj : j < v) (e0 ed : Nat) (hed : e0 + ed ≤ 200) (h0 : en j = nI e0) (h1 : en (j + 1) = nI (e0 + ed)) (k : Nat) (hk9 : k < ed) : Met l y_V_member w_V_member ({ frames := 2, cells := 0, slots := 0, locals := 44 }) (va_Pc [.ref (bk (K)), .int (nI j), .int (nI k)] (PB D classes (TY cs) N bk cw sz)) (vp_Si (fun r => r = mm (e0 + k))) 0 0 (fun _ => False) := by
  refine pw_entry (cc := b_V_member) (maxL := 3) (ret := (some .int)) (by decide +kernel) rfl (Nat.le_of_ble_eq_true rfl) ?_
  intro p_ e_ s m below_ meth_ c_ ls hx hb hr hml hts hown hlocks hin hsz hP hK hD hS hA hN hl
  have hw : ∀ w ∈ WA, w.before _ s = true := fun w h => hts w (List.mem_cons_of_mem _ h)
  have hown : s.vm.findClass "IssueRows$Volumes" = some m.cls := hown
  have hl : lv_has ls 3 [(0, .ref (bk (K))), (1, .int (nI j)), (2, .int (nI k))] := hl
  refine lv_aload_n hx hb d_V_member_0 rfl (lv_at hl 0 rfl) ?_
  refine lv_iload_n hx hb d_V_member_1 rfl (lv_at hl 1 rfl) ?_
  refine lv_iload_n hx hb d_V_member_2 rfl (lv_at hl 2 rfl) ?_
  refine pw_callSi (va_runV (As := [.int (nI j), .int (nI k)]) (rest := []) ⟨hx, hb, hml, hown, hw⟩ (c_V_has_in l D cs N bk cw s.heap.size (K) (K1) (K2) hk v hv he mm en hk1 he1 hk2 he2 j hj e0 ed hed h0 h1 (nI k)) (cw_V 2 hw kM_V_30 kI_V_has kV_V_has kZ_V kC_V_has rfl rfl ⟨rfl, by decide, by decide, by decide +kernel⟩ ⟨Nat.le_of_ble_eq_true rfl, Nat.le_of_ble_eq_true rfl⟩) (pw_preV hN hK hP hD (K) hk he rfl) rfl rfl hl.1 rfl (lv_room (Nat.le_of_ble_eq_true rfl)) d_V_member_3 ⟨Nat.le_of_ble_eq_true rfl, Nat.le_of_ble_eq_true rfl⟩) (fun r_1 hr_1 => ?_)
  have hr_1 : r_1 = bI (0 ≤ nI k ∧ nI k < nI ed) := hr_1
  subst hr_1
  refine pw_ifeq (tgt := 25) hx hb d_V_member_6 (by decide) (fun c_2 => ?_) (fun c_2 => ?_)
  · have c_2 : ¬ (0 ≤ nI k ∧ nI k < nI ed) := c_2
    exact absurd ⟨nI_pos' (by omega), (nI_ltI (by omega) (by omega)).mpr hk9⟩ c_2
  · have c_2 : 0 ≤ nI k ∧ nI k < nI ed := c_2
    refine lv_aload_n hx hb d_V_member_9 rfl (lv_at hl 0 rfl) ?_
    refine pw_get (ci := 5) (v := .ref (bk (K1))) hx hb hw i_V hown hK hP (K) hk he rfl 0 (by decide) (hw _ kF_V_9) rfl d_V_member_10 ?_
    refine lv_aload_n hx hb d_V_member_13 rfl (lv_at hl 0 rfl) ?_
    refine pw_get (ci := 5) (v := .ref (bk (K2))) hx hb hw i_V hown hK hP (K) hk he rfl 1 (by decide) (hw _ kF_V_15) rfl d_V_member_14 ?_
    refine lv_iload_n hx hb d_V_member_17 rfl (lv_at hl 1 rfl) ?_
    refine pw_iald (n := 41) (f := en) hx hb hK hP 0 (K2) hk2 he2 rfl (j) rfl (by omega) (by decide) d_V_member_18 ?_
    rw [show en (j) = nI e0 from h0]
    refine lv_iload_n hx hb d_V_member_19 rfl (lv_at hl 2 rfl) ?_
    refine lv_iadd hx hb d_V_member_20 ?_
    rw [show (nI e0) + (nI k) = nI (e0 + k) from nI_add e0 k]
    refine pw_iald (n := 200) (f := mm) hx hb hK hP 0 (K1) hk1 he1 rfl (e0 + k) rfl (by omega) (by decide) d_V_member_21 ?_
    refine lv_goto (tgt := 26) hx hb d_V_member_22 (by decide) ?_
    exact W.iret (v := mm (e0 + k)) hx hb hr (fun t ht hW => ⟨mm (e0 + k), rfl, rfl, ht⟩) (fun q h => by cases h) d_V_member_26
end
section
set_option maxHeartbeats 4000000 in
set_option maxRecDepth 100000 in
theorem c_S_clear (l : Launch) (D : va_G) (cs : Nat → ClassId) (N : Nat) (bk : Nat → Nat) (cw : Nat → va_E) (sz : Nat) (K K1 K2 K3 : Nat) (hk : K < N) (zz : Int32) (he : cw K = .inr (6, [.ref (bk K1), .ref (bk K2), .ref (bk K3), .int zz])) : Met l y_S_clear w_S_clear ({ frames := 0, cells := 0, slots := 0, locals := 0 }) (va_Pc [.ref (bk (K))] (PB D classes (TY cs) N bk cw sz)) (va_Qv (fun u : Wt => u = (N, bk, va_up cw K (.inr (6, [.ref (bk K1), .ref (bk K2), .ref (bk K3), .int 0])))) (Wd D classes (TY cs) (AA N bk sz)) (AA N bk sz)) 0 0 (AA N bk sz) := by
  refine pw_entry (cc := b_S_clear) (maxL := 1) (ret := none) (by decide +kernel) rfl (Nat.le_of_ble_eq_true rfl) ?_
  intro p_ e_ s m below_ meth_ c_ ls hx hb hr hml hts hown hlocks hin hsz hP hK hD hS hA hN hl
  have hw : ∀ w ∈ WA, w.before _ s = true := fun w h => hts w (List.mem_cons_of_mem _ h)
  have hown : s.vm.findClass "IssueRows$Statement" = some m.cls := hown
  have hl : lv_has ls 1 [(0, .ref (bk (K)))] := hl
  refine lv_aload_n hx hb d_S_clear_0 rfl (lv_at hl 0 rfl) ?_
  refine lv_iconst (v := 0) hx hb d_S_clear_1 (by decide) ?_
  refine pw_put (ci := 6) (v := .int (0)) (ty := .int) (fs' := [.ref (bk (K1)), .ref (bk (K2)), .ref (bk (K3)), .int (0)]) hx hb hw i_S t_S t_S_ok n_S hown hK hP hD hS (K) hk he rfl 3 (by decide) (hw _ kF_S_21) rfl (t_S_ok 3 (by decide)) rfl rfl (Nat.le_of_ble_eq_true rfl) rfl d_S_clear_2 (fun cw_1 H locs ecw_1 hP hD hS => ?_)
  have h_2 : cw_1 (K) = .inr (6, [.ref (bk (K1)), .ref (bk (K2)), .ref (bk (K3)), .int (0)]) := by rw [ecw_1]; exact va_up_self _ _ _
  exact W.vret hx hb hr (fun t ht hW => ⟨⟨(N, bk, cw_1), rfl, by rw [ecw_1], by rw [ht]; exact hP, va_K.moved hW.alike hK, hD⟩, hS.F ht⟩) hS.2.2 d_S_clear_5
set_option maxHeartbeats 4000000 in
set_option maxRecDepth 100000 in
theorem c_S_has (l : Launch) (D : va_G) (cs : Nat → ClassId) (N : Nat) (bk : Nat → Nat) (cw : Nat → va_E) (sz : Nat) (K K1 K2 K3 : Nat) (hk : K < N) (z : Nat) (he : cw K = .inr (6, [.ref (bk K1), .ref (bk K2), .ref (bk K3), .int (nI z)])) (hz : z ≤ 200) (f1 f2 f3 : Nat → Int32) (hk1 : K1 < N) (he1 : cw K1 = .inl (cs 0, 200, .inl f1)) (hk2 : K2 < N) (he2 : cw K2 = .inl (cs 0, 200, .inl f2)) (hk3 : K3 < N) (he3 : cw K3 = .inl (cs 0, 200, .inl f3)) (i what : Int32) : Met l y_S_has w_S_has ({ frames := 1, cells := 0, slots := 0, locals := 22 }) (va_Pc [.ref (bk (K)), .int (i), .int (what)] (PB D classes (TY cs) N bk cw sz)) (vp_Si (fun r => r = bI ((0 ≤ i ∧ i < nI z) ∧ 0 ≤ what ∧ what ≤ 3))) 0 0 (fun _ => False) := by
  refine pw_entry (cc := b_S_has) (maxL := 3) (ret := (some .boolean)) (by decide +kernel) rfl (Nat.le_of_ble_eq_true rfl) ?_
  intro p_ e_ s m below_ meth_ c_ ls hx hb hr hml hts hown hlocks hin hsz hP hK hD hS hA hN hl
  have hw : ∀ w ∈ WA, w.before _ s = true := fun w h => hts w (List.mem_cons_of_mem _ h)
  have hown : s.vm.findClass "IssueRows$Statement" = some m.cls := hown
  have hl : lv_has ls 3 [(0, .ref (bk (K))), (1, .int (i)), (2, .int (what))] := hl
  refine lv_iload_n hx hb d_S_has_0 rfl (lv_at hl 1 rfl) ?_
  refine lv_iconst (v := 0) hx hb d_S_has_1 (by decide) ?_
  refine lv_aload_n hx hb d_S_has_2 rfl (lv_at hl 0 rfl) ?_
  refine pw_get (ci := 6) (v := .int (nI z)) hx hb hw i_S hown hK hP (K) hk he rfl 3 (by decide) (hw _ kF_S_21) rfl d_S_has_3 ?_
  refine lv_iconst (v := 1) hx hb d_S_has_6 (by decide) ?_
  refine lv_isub hx hb d_S_has_7 ?_
  refine pw_callSi (va_runSN (As := [.int (i), .int (0), .int ((nI z) - 1)]) (rest := []) ⟨hx, hb, hml, hown, hw⟩ (c_X_within l D cs N bk cw s.heap.size i 0 ((nI z) - 1)) (cw_SN 3 hw (kN_S_25 hN) kS_X_within kZ_X kC_X_within rfl rfl ⟨by decide, by decide, by decide +kernel⟩ ⟨Nat.le_of_ble_eq_true rfl, Nat.le_of_ble_eq_true rfl⟩) (pw_preS hN hK hP hD) rfl rfl hl.1 rfl (lv_room (Nat.le_of_ble_eq_true rfl)) d_S_has_8 ⟨Nat.le_of_ble_eq_true rfl, Nat.le_of_ble_eq_true rfl⟩) (fun r_1 hr_1 => ?_)
  have hr_1 : r_1 = bI (0 ≤ i ∧ i ≤ ((nI z) - 1)) := hr_1
  subst hr_1
  refine pw_ifeq (tgt := 27) hx hb d_S_has_11 (by decide) (fun c_2 => ?_) (fun c_2 => ?_)
  · have c_2 : ¬ (0 ≤ i ∧ i ≤ ((nI z) - 1)) := c_2
    refine lv_iconst (v := 0) hx hb d_S_has_27 (by decide) ?_
    exact W.zret (v := 0) (ty := .boolean) hx hb hr (by decide) (fun t ht hW => ⟨0, rfl, (bI_f (fun h => c_2 ⟨h.1.1, (le_pr (by omega)).mpr h.1.2⟩)).symm, ht⟩) (fun q h => by cases h) d_S_has_28
  · have c_2 : 0 ≤ i ∧ i ≤ ((nI z) - 1) := c_2
    refine lv_iload_n hx hb d_S_has_14 rfl (lv_at hl 2 rfl) ?_
    refine lv_iconst (v := 0) hx hb d_S_has_15 (by decide) ?_
    refine lv_iconst (v := 3) hx hb d_S_has_16 (by decide) ?_
    refine pw_callSi (va_runSN (As := [.int (what), .int (0), .int (3)]) (rest := []) ⟨hx, hb, hml, hown, hw⟩ (c_X_within l D cs N bk cw s.heap.size what 0 3) (cw_SN 3 hw (kN_S_25 hN) kS_X_within kZ_X kC_X_within rfl rfl ⟨by decide, by decide, by decide +kernel⟩ ⟨Nat.le_of_ble_eq_true rfl, Nat.le_of_ble_eq_true rfl⟩) (pw_preS hN hK hP hD) rfl rfl hl.1 rfl (lv_room (Nat.le_of_ble_eq_true rfl)) d_S_has_17 ⟨Nat.le_of_ble_eq_true rfl, Nat.le_of_ble_eq_true rfl⟩) (fun r_3 hr_3 => ?_)
    have hr_3 : r_3 = bI (0 ≤ what ∧ what ≤ 3) := hr_3
    subst hr_3
    refine pw_ifeq (tgt := 27) hx hb d_S_has_20 (by decide) (fun c_4 => ?_) (fun c_4 => ?_)
    · have c_4 : ¬ (0 ≤ what ∧ what ≤ 3) := c_4
      refine lv_iconst (v := 0) hx hb d_S_has_27 (by decide) ?_
      exact W.zret (v := 0) (ty := .boolean) hx hb hr (by decide) (fun t ht hW => ⟨0, rfl, (bI_f (fun h => c_4 h.2)).symm, ht⟩) (fun q h => by cases h) d_S_has_28
    · have c_4 : 0 ≤ what ∧ what ≤ 3 := c_4
      refine lv_iconst (v := 1) hx hb d_S_has_23 (by decide) ?_
      refine lv_goto (tgt := 28) hx hb d_S_has_24 (by decide) ?_
      exact W.zret (v := 1) (ty := .boolean) hx hb hr (by decide) (fun t ht hW => ⟨1, rfl, (bI_t ⟨⟨c_2.1, (le_pr (by omega)).mp c_2.2⟩, c_4⟩).symm, ht⟩) (fun q h => by cases h) d_S_has_28
set_option maxHeartbeats 4000000 in
set_option maxRecDepth 100000 in
theorem c_S_part (l : Launch) (D : va_G) (cs : Nat → ClassId) (N : Nat) (bk : Nat → Nat) (cw : Nat → va_E) (sz : Nat) (K K1 K2 K3 : Nat) (hk : K < N) (z : Nat) (he : cw K = .inr (6, [.ref (bk K1), .ref (bk K2), .ref (bk K3), .int (nI z)])) (hz : z ≤ 200) (f1 f2 f3 : Nat → Int32) (hk1 : K1 < N) (he1 : cw K1 = .inl (cs 0, 200, .inl f1)) (hk2 : K2 < N) (he2 : cw K2 = .inl (cs 0, 200, .inl f2)) (hk3 : K3 < N) (he3 : cw K3 = .inl (cs 0, 200, .inl f3)) (j : Nat) (hj : j < z) (what : Int32) (hq : 0 ≤ what ∧ what ≤ 3) : Met l y_S_part w_S_part ({ frames := 2, cells := 0, slots := 0, locals := 44 }) (va_Pc [.ref (bk (K)), .int (nI j), .int (what)] (PB D classes (TY cs) N bk cw sz)) (vp_Si (fun r => r = if what = 0 then f1 j else if what = 1 then f2 j else if what = 2 then f3 j else if j + 1 < z then 1 else 0)) 0 0 (fun _ => False) := by
  refine pw_entry (cc := b_S_part) (maxL := 3) (ret := (some .int)) (by decide +kernel) rfl (Nat.le_of_ble_eq_true rfl) ?_
  intro p_ e_ s m below_ meth_ c_ ls hx hb hr hml hts hown hlocks hin hsz hP hK hD hS hA hN hl
  have hw : ∀ w ∈ WA, w.before _ s = true := fun w h => hts w (List.mem_cons_of_mem _ h)
  have hown : s.vm.findClass "IssueRows$Statement" = some m.cls := hown
  have hl : lv_has ls 3 [(0, .ref (bk (K))), (1, .int (nI j)), (2, .int (what))] := hl
  refine lv_aload_n hx hb d_S_part_0 rfl (lv_at hl 0 rfl) ?_
  refine lv_iload_n hx hb d_S_part_1 rfl (lv_at hl 1 rfl) ?_
  refine lv_iload_n hx hb d_S_part_2 rfl (lv_at hl 2 rfl) ?_
  refine pw_callSi (va_runV (As := [.int (nI j), .int (what)]) (rest := []) ⟨hx, hb, hml, hown, hw⟩ (c_S_has l D cs N bk cw s.heap.size (K) (K1) (K2) (K3) hk z he hz f1 f2 f3 hk1 he1 hk2 he2 hk3 he3 (nI j) what) (cw_V 2 hw kM_S_29 kI_S_has kV_S_has kZ_S kC_S_has rfl rfl ⟨rfl, by decide, by decide, by decide +kernel⟩ ⟨Nat.le_of_ble_eq_true rfl, Nat.le_of_ble_eq_true rfl⟩) (pw_preV hN hK hP hD (K) hk he rfl) rfl rfl hl.1 rfl (lv_room (Nat.le_of_ble_eq_true rfl)) d_S_part_3 ⟨Nat.le_of_ble_eq_true rfl, Nat.le_of_ble_eq_true rfl⟩) (fun r_1 hr_1 => ?_)
  have hr_1 : r_1 = bI ((0 ≤ (nI j) ∧ (nI j) < nI z) ∧ 0 ≤ what ∧ what ≤ 3) := hr_1
  subst hr_1
  refine pw_ifne (tgt := 11) hx hb d_S_part_6 (by decide) (fun c_2 => ?_) (fun c_2 => ?_)
  · have c_2 : (0 ≤ (nI j) ∧ (nI j) < nI z) ∧ 0 ≤ what ∧ what ≤ 3 := c_2
    refine lv_iload_n hx hb d_S_part_11 rfl (lv_at hl 2 rfl) ?_
    by_cases c_3 : what = 0
    · refine lv_tableIn (off := 28) (tgt := 40) hx hb d_S_part_12 (by rw [c_3]; decide) (by rw [c_3]; decide) (by rw [c_3]; rfl) (by decide) ?_
      refine lv_aload_n hx hb d_S_part_40 rfl (lv_at hl 0 rfl) ?_
      refine pw_get (ci := 6) (v := .ref (bk (K1))) hx hb hw i_S hown hK hP (K) hk he rfl 0 (by decide) (hw _ kF_S_9) rfl d_S_part_41 ?_
      refine lv_iload_n hx hb d_S_part_44 rfl (lv_at hl 1 rfl) ?_
      refine pw_iald (n := 200) (f := f1) hx hb hK hP 0 (K1) hk1 he1 rfl (j) rfl (by omega) (by decide) d_S_part_45 ?_
      exact W.iret (v := f1 (j)) hx hb hr (fun t ht hW => ⟨f1 (j), rfl, (by rw [if_pos c_3]), ht⟩) (fun q h => by cases h) d_S_part_46
    by_cases c_4 : what = 1
    · refine lv_tableIn (off := 35) (tgt := 47) hx hb d_S_part_12 (by rw [c_4]; decide) (by rw [c_4]; decide) (by rw [c_4]; rfl) (by decide) ?_
      refine lv_aload_n hx hb d_S_part_47 rfl (lv_at hl 0 rfl) ?_
      refine pw_get (ci := 6) (v := .ref (bk (K2))) hx hb hw i_S hown hK hP (K) hk he rfl 1 (by decide) (hw _ kF_S_15) rfl d_S_part_48 ?_
      refine lv_iload_n hx hb d_S_part_51 rfl (lv_at hl 1 rfl) ?_
      refine pw_iald (n := 200) (f := f2) hx hb hK hP 0 (K2) hk2 he2 rfl (j) rfl (by omega) (by decide) d_S_part_52 ?_
      exact W.iret (v := f2 (j)) hx hb hr (fun t ht hW => ⟨f2 (j), rfl, (by rw [if_neg c_3, if_pos c_4]), ht⟩) (fun q h => by cases h) d_S_part_53
    by_cases c_5 : what = 2
    · refine lv_tableIn (off := 42) (tgt := 54) hx hb d_S_part_12 (by rw [c_5]; decide) (by rw [c_5]; decide) (by rw [c_5]; rfl) (by decide) ?_
      refine lv_aload_n hx hb d_S_part_54 rfl (lv_at hl 0 rfl) ?_
      refine pw_get (ci := 6) (v := .ref (bk (K3))) hx hb hw i_S hown hK hP (K) hk he rfl 2 (by decide) (hw _ kF_S_18) rfl d_S_part_55 ?_
      refine lv_iload_n hx hb d_S_part_58 rfl (lv_at hl 1 rfl) ?_
      refine pw_iald (n := 200) (f := f3) hx hb hK hP 0 (K3) hk3 he3 rfl (j) rfl (by omega) (by decide) d_S_part_59 ?_
      exact W.iret (v := f3 (j)) hx hb hr (fun t ht hW => ⟨f3 (j), rfl, (by rw [if_neg c_3, if_neg c_4, if_pos c_5]), ht⟩) (fun q h => by cases h) d_S_part_60
    refine lv_tableOut (tgt := 61) hx hb d_S_part_12 (by simp only [Int32.lt_iff_toInt_lt, Int32.le_iff_toInt_le, ← Int32.toInt_inj, T0, T1, T2, T3, T4, T5, T6, T7, T8, T9, T10, T40, T50, T99, T100, T199, T200, T999, T1000, T9999, T1000000, T10000000, T1000000000, Tm1] at c_3 c_4 c_5; omega) (by decide) ?_
    refine lv_iload_n hx hb d_S_part_61 rfl (lv_at hl 1 rfl) ?_
    refine lv_aload_n hx hb d_S_part_62 rfl (lv_at hl 0 rfl) ?_
    refine pw_get (ci := 6) (v := .int (nI z)) hx hb hw i_S hown hK hP (K) hk he rfl 3 (by decide) (hw _ kF_S_21) rfl d_S_part_63 ?_
    refine lv_iconst (v := 1) hx hb d_S_part_66 (by decide) ?_
    refine lv_isub hx hb d_S_part_67 ?_
    refine lv_icmp_ge (tgt := 75) hx hb d_S_part_68 (by decide) (fun c_6 => ?_) (fun c_6 => ?_)
    · have c_6 : ((nI z) - 1) ≤ (nI j) := c_6
      refine lv_iconst (v := 0) hx hb d_S_part_75 (by decide) ?_
      exact W.iret (v := 0) hx hb hr (fun t ht hW => ⟨0, rfl, (by rw [if_neg c_3, if_neg c_4, if_neg c_5, if_neg (by have h7 := c_6; rw [le_pq (by omega)] at h7; omega)]), ht⟩) (fun q h => by cases h) d_S_part_76
    · have c_6 : ¬ ((nI z) - 1) ≤ (nI j) := c_6
      refine lv_iconst (v := 1) hx hb d_S_part_71 (by decide) ?_
      refine lv_goto (tgt := 76) hx hb d_S_part_72 (by decide) ?_
      exact W.iret (v := 1) hx hb hr (fun t ht hW => ⟨1, rfl, (by rw [if_neg c_3, if_neg c_4, if_neg c_5, if_pos (by have h7 := c_6; rw [le_pq (by omega)] at h7; omega)]), ht⟩) (fun q h => by cases h) d_S_part_76
  · have c_2 : ¬ ((0 ≤ (nI j) ∧ (nI j) < nI z) ∧ 0 ≤ what ∧ what ≤ 3) := c_2
    exact absurd ⟨⟨nI_pos' (by omega), (nI_ltI (by omega) (by omega)).mpr hj⟩, hq⟩ c_2
set_option maxHeartbeats 4000000 in
set_option maxRecDepth 100000 in
theorem c_S_add1 (l : Launch) (D : va_G) (cs : Nat → ClassId) (N : Nat) (bk : Nat → Nat) (cw : Nat → va_E) (sz : Nat) (K K1 K2 K3 : Nat) (hk : K < N) (z : Nat) (he : cw K = .inr (6, [.ref (bk K1), .ref (bk K2), .ref (bk K3), .int (nI z)])) (hz : z ≤ 200) (f1 f2 f3 : Nat → Int32) (hk1 : K1 < N) (he1 : cw K1 = .inl (cs 0, 200, .inl f1)) (hk2 : K2 < N) (he2 : cw K2 = .inl (cs 0, 200, .inl f2)) (hk3 : K3 < N) (he3 : cw K3 = .inl (cs 0, 200, .inl f3)) (n1 : K ≠ K1) (n2 : K ≠ K2) (n3 : K ≠ K3) (n4 : K1 ≠ K2) (n5 : K1 ≠ K3) (n6 : K2 ≠ K3) (x nr : Int32) (hnr : ¬ nr = 0) (hz1 : z < 200) : Met l y_S_add w_S_add ({ frames := 0, cells := 0, slots := 0, locals := 0 }) (va_Pc [.ref (bk (K)), .int (x), .int (nr)] (PB D classes (TY cs) N bk cw sz)) (va_Qv (fun u : Wt => u = (N, bk, va_up (va_up (va_up (va_up (va_up cw K1 (.inl (cs 0, 200, .inl (upd f1 z x)))) K3 (.inl (cs 0, 200, .inl (upd f3 z 0)))) K (.inr (6, [.ref (bk K1), .ref (bk K2), .ref (bk K3), .int (nI (z + 1))]))) K2 (.inl (cs 0, 200, .inl (upd f2 z x)))) K3 (.inl (cs 0, 200, .inl (upd (upd f3 z 0) z (upd f3 z 0 z + 1)))))) (Wd D classes (TY cs) (AA N bk sz)) (AA N bk sz)) 0 0 (AA N bk sz) := by
  refine pw_entry (cc := b_S_add) (maxL := 3) (ret := none) (by decide +kernel) rfl (Nat.le_of_ble_eq_true rfl) ?_
  intro p_ e_ s m below_ meth_ c_ ls hx hb hr hml hts hown hlocks hin hsz hP hK hD hS hA hN hl
  have hw : ∀ w ∈ WA, w.before _ s = true := fun w h => hts w (List.mem_cons_of_mem _ h)
  have hown : s.vm.findClass "IssueRows$Statement" = some m.cls := hown
  have hl : lv_has ls 3 [(0, .ref (bk (K))), (1, .int (x)), (2, .int (nr))] := hl
  refine lv_iload_n hx hb d_S_add_0 rfl (lv_at hl 2 rfl) ?_
  refine lv_if_eq (tgt := 44) hx hb d_S_add_1 (by decide) (fun c_1 => ?_) (fun c_1 => ?_)
  · have c_1 : nr = 0 := c_1
    exact absurd c_1 hnr
  · have c_1 : ¬ nr = 0 := c_1
    refine lv_aload_n hx hb d_S_add_4 rfl (lv_at hl 0 rfl) ?_
    refine pw_get (ci := 6) (v := .int (nI z)) hx hb hw i_S hown hK hP (K) hk he rfl 3 (by decide) (hw _ kF_S_21) rfl d_S_add_5 ?_
    refine lv_sipush (v := 200) hx hb d_S_add_8 (by decide) ?_
    refine lv_icmp_ge (tgt := 44) hx hb d_S_add_11 (by decide) (fun c_2 => ?_) (fun c_2 => ?_)
    · have c_2 : 200 ≤ (nI z) := c_2
      exact absurd c_2 (by rw [show (200 : Int32) = nI 200 from rfl, nI_leI (by decide) (by omega)]; omega)
    · have c_2 : ¬ 200 ≤ (nI z) := c_2
      refine lv_aload_n hx hb d_S_add_14 rfl (lv_at hl 0 rfl) ?_
      refine pw_get (ci := 6) (v := .ref (bk (K1))) hx hb hw i_S hown hK hP (K) hk he rfl 0 (by decide) (hw _ kF_S_9) rfl d_S_add_15 ?_
      refine lv_aload_n hx hb d_S_add_18 rfl (lv_at hl 0 rfl) ?_
      refine pw_get (ci := 6) (v := .int (nI z)) hx hb hw i_S hown hK hP (K) hk he rfl 3 (by decide) (hw _ kF_S_21) rfl d_S_add_19 ?_
      refine lv_iload_n hx hb d_S_add_22 rfl (lv_at hl 1 rfl) ?_
      refine pw_iast (n := 200) (f := f1) hx hb hK hP hD hS 0 (K1) hk1 he1 rfl (z) rfl (by omega) (by decide) d_S_add_23 (fun cw_3 H locs ecw_3 hP hD hS => ?_)
      have h_4 : cw_3 (K) = .inr (6, [.ref (bk (K1)), .ref (bk (K2)), .ref (bk (K3)), .int (nI z)]) := by rw [ecw_3, va_up_ne _ _ (by omega)]; exact he
      have h_5 : cw_3 (K1) = .inl (cs 0, 200, .inl (upd f1 (z) (x))) := by rw [ecw_3]; exact va_up_self _ _ _
      have h_6 : cw_3 (K2) = .inl (cs 0, 200, .inl f2) := by rw [ecw_3, va_up_ne _ _ (by omega)]; exact he2
      have h_7 : cw_3 (K3) = .inl (cs 0, 200, .inl f3) := by rw [ecw_3, va_up_ne _ _ (by omega)]; exact he3
      refine lv_aload_n hx hb d_S_add_24 rfl (lv_at hl 0 rfl) ?_
      refine pw_get (ci := 6) (v := .ref (bk (K3))) hx hb hw i_S hown hK hP (K) hk h_4 rfl 2 (by decide) (hw _ kF_S_18) rfl d_S_add_25 ?_
      refine lv_aload_n hx hb d_S_add_28 rfl (lv_at hl 0 rfl) ?_
      refine pw_get (ci := 6) (v := .int (nI z)) hx hb hw i_S hown hK hP (K) hk h_4 rfl 3 (by decide) (hw _ kF_S_21) rfl d_S_add_29 ?_
      refine lv_iconst (v := 0) hx hb d_S_add_32 (by decide) ?_
      refine pw_iast (n := 200) (f := f3) hx hb hK hP hD hS 0 (K3) hk3 h_7 rfl (z) rfl (by omega) (by decide) d_S_add_33 (fun cw_8 H locs ecw_8 hP hD hS => ?_)
      have h_9 : cw_8 (K) = .inr (6, [.ref (bk (K1)), .ref (bk (K2)), .ref (bk (K3)), .int (nI z)]) := by rw [ecw_8, va_up_ne _ _ (by omega)]; exact h_4
      have h_10 : cw_8 (K1) = .inl (cs 0, 200, .inl (upd f1 (z) (x))) := by rw [ecw_8, va_up_ne _ _ (by omega)]; exact h_5
      have h_11 : cw_8 (K2) = .inl (cs 0, 200, .inl f2) := by rw [ecw_8, va_up_ne _ _ (by omega)]; exact h_6
      have h_12 : cw_8 (K3) = .inl (cs 0, 200, .inl (upd f3 (z) (0))) := by rw [ecw_8]; exact va_up_self _ _ _
      refine lv_aload_n hx hb d_S_add_34 rfl (lv_at hl 0 rfl) ?_
      refine lv_dup hx hb d_S_add_35 rfl ?_
      refine pw_get (ci := 6) (v := .int (nI z)) hx hb hw i_S hown hK hP (K) hk h_9 rfl 3 (by decide) (hw _ kF_S_21) rfl d_S_add_36 ?_
      refine lv_iconst (v := 1) hx hb d_S_add_39 (by decide) ?_
      refine lv_iadd hx hb d_S_add_40 ?_
      rw [show (nI z) + 1 = nI (z + 1) from nI_1 z]
      refine pw_put (ci := 6) (v := .int (nI (z + 1))) (ty := .int) (fs' := [.ref (bk (K1)), .ref (bk (K2)), .ref (bk (K3)), .int (nI (z + 1))]) hx hb hw i_S t_S t_S_ok n_S hown hK hP hD hS (K) hk h_9 rfl 3 (by decide) (hw _ kF_S_21) rfl (t_S_ok 3 (by decide)) rfl rfl (Nat.le_of_ble_eq_true rfl) rfl d_S_add_41 (fun cw_13 H locs ecw_13 hP hD hS => ?_)
      have h_14 : cw_13 (K) = .inr (6, [.ref (bk (K1)), .ref (bk (K2)), .ref (bk (K3)), .int (nI (z + 1))]) := by rw [ecw_13]; exact va_up_self _ _ _
      have h_15 : cw_13 (K1) = .inl (cs 0, 200, .inl (upd f1 (z) (x))) := by rw [ecw_13, va_up_ne _ _ (by omega)]; exact h_10
      have h_16 : cw_13 (K2) = .inl (cs 0, 200, .inl f2) := by rw [ecw_13, va_up_ne _ _ (by omega)]; exact h_11
      have h_17 : cw_13 (K3) = .inl (cs 0, 200, .inl (upd f3 (z) (0))) := by rw [ecw_13, va_up_ne _ _ (by omega)]; exact h_12
      refine lv_aload_n hx hb d_S_add_44 rfl (lv_at hl 0 rfl) ?_
      refine pw_get (ci := 6) (v := .int (nI (z + 1))) hx hb hw i_S hown hK hP (K) hk h_14 rfl 3 (by decide) (hw _ kF_S_21) rfl d_S_add_45 ?_
      refine lv_if_le (tgt := 78) hx hb d_S_add_48 (by decide) (fun c_18 => ?_) (fun c_18 => ?_)
      · have c_18 : (nI (z + 1)) ≤ 0 := c_18
        exact absurd c_18 (nI_nle (by omega) (by omega))
      · have c_18 : ¬ (nI (z + 1)) ≤ 0 := c_18
        refine lv_aload_n hx hb d_S_add_51 rfl (lv_at hl 0 rfl) ?_
        refine pw_get (ci := 6) (v := .ref (bk (K2))) hx hb hw i_S hown hK hP (K) hk h_14 rfl 1 (by decide) (hw _ kF_S_15) rfl d_S_add_52 ?_
        refine lv_aload_n hx hb d_S_add_55 rfl (lv_at hl 0 rfl) ?_
        refine pw_get (ci := 6) (v := .int (nI (z + 1))) hx hb hw i_S hown hK hP (K) hk h_14 rfl 3 (by decide) (hw _ kF_S_21) rfl d_S_add_56 ?_
        refine lv_iconst (v := 1) hx hb d_S_add_59 (by decide) ?_
        refine lv_isub hx hb d_S_add_60 ?_
        rw [show (nI (z + 1)) - 1 = nI z from nI_pred z]
        refine lv_iload_n hx hb d_S_add_61 rfl (lv_at hl 1 rfl) ?_
        refine pw_iast (n := 200) (f := f2) hx hb hK hP hD hS 0 (K2) hk2 h_16 rfl (z) rfl (by omega) (by decide) d_S_add_62 (fun cw_19 H locs ecw_19 hP hD hS => ?_)
        have h_20 : cw_19 (K) = .inr (6, [.ref (bk (K1)), .ref (bk (K2)), .ref (bk (K3)), .int (nI (z + 1))]) := by rw [ecw_19, va_up_ne _ _ (by omega)]; exact h_14
        have h_21 : cw_19 (K1) = .inl (cs 0, 200, .inl (upd f1 (z) (x))) := by rw [ecw_19, va_up_ne _ _ (by omega)]; exact h_15
        have h_22 : cw_19 (K2) = .inl (cs 0, 200, .inl (upd f2 (z) (x))) := by rw [ecw_19]; exact va_up_self _ _ _
        have h_23 : cw_19 (K3) = .inl (cs 0, 200, .inl (upd f3 (z) (0))) := by rw [ecw_19, va_up_ne _ _ (by omega)]; exact h_17
        refine lv_aload_n hx hb d_S_add_63 rfl (lv_at hl 0 rfl) ?_
        refine pw_get (ci := 6) (v := .ref (bk (K3))) hx hb hw i_S hown hK hP (K) hk h_20 rfl 2 (by decide) (hw _ kF_S_18) rfl d_S_add_64 ?_
        refine lv_aload_n hx hb d_S_add_67 rfl (lv_at hl 0 rfl) ?_
        refine pw_get (ci := 6) (v := .int (nI (z + 1))) hx hb hw i_S hown hK hP (K) hk h_20 rfl 3 (by decide) (hw _ kF_S_21) rfl d_S_add_68 ?_
        refine lv_iconst (v := 1) hx hb d_S_add_71 (by decide) ?_
        refine lv_isub hx hb d_S_add_72 ?_
        rw [show (nI (z + 1)) - 1 = nI z from nI_pred z]
        refine lv_dup2_11 hx hb d_S_add_73 rfl rfl ?_
        refine pw_iald (n := 200) (f := (upd f3 (z) (0))) hx hb hK hP 0 (K3) hk3 h_23 rfl (z) rfl (by omega) (by decide) d_S_add_74 ?_
        refine lv_iconst (v := 1) hx hb d_S_add_75 (by decide) ?_
        refine lv_iadd hx hb d_S_add_76 ?_
        refine pw_iast (n := 200) (f := (upd f3 (z) (0))) hx hb hK hP hD hS 0 (K3) hk3 h_23 rfl (z) rfl (by omega) (by decide) d_S_add_77 (fun cw_24 H locs ecw_24 hP hD hS => ?_)
        have h_25 : cw_24 (K) = .inr (6, [.ref (bk (K1)), .ref (bk (K2)), .ref (bk (K3)), .int (nI (z + 1))]) := by rw [ecw_24, va_up_ne _ _ (by omega)]; exact h_20
        have h_26 : cw_24 (K1) = .inl (cs 0, 200, .inl (upd f1 (z) (x))) := by rw [ecw_24, va_up_ne _ _ (by omega)]; exact h_21
        have h_27 : cw_24 (K2) = .inl (cs 0, 200, .inl (upd f2 (z) (x))) := by rw [ecw_24, va_up_ne _ _ (by omega)]; exact h_22
        have h_28 : cw_24 (K3) = .inl (cs 0, 200, .inl (upd (upd f3 (z) (0)) (z) (((upd f3 (z) (0)) (z)) + 1))) := by rw [ecw_24]; exact va_up_self _ _ _
        exact W.vret hx hb hr (fun t ht hW => ⟨⟨(N, bk, cw_24), rfl, by rw [ecw_24, ecw_19, ecw_13, ecw_8, ecw_3], by rw [ht]; exact hP, va_K.moved hW.alike hK, hD⟩, hS.F ht⟩) hS.2.2 d_S_add_78
set_option maxHeartbeats 4000000 in
set_option maxRecDepth 100000 in
theorem c_S_add0 (l : Launch) (D : va_G) (cs : Nat → ClassId) (N : Nat) (bk : Nat → Nat) (cw : Nat → va_E) (sz : Nat) (K K1 K2 K3 : Nat) (hk : K < N) (z : Nat) (he : cw K = .inr (6, [.ref (bk K1), .ref (bk K2), .ref (bk K3), .int (nI (z + 1))])) (hz : z < 200) (f1 f2 f3 : Nat → Int32) (hk1 : K1 < N) (he1 : cw K1 = .inl (cs 0, 200, .inl f1)) (hk2 : K2 < N) (he2 : cw K2 = .inl (cs 0, 200, .inl f2)) (hk3 : K3 < N) (he3 : cw K3 = .inl (cs 0, 200, .inl f3)) (n1 : K ≠ K1) (n2 : K ≠ K2) (n3 : K ≠ K3) (n4 : K1 ≠ K2) (n5 : K1 ≠ K3) (n6 : K2 ≠ K3) (x nr : Int32) (hnr : nr = 0) : Met l y_S_add w_S_add ({ frames := 0, cells := 0, slots := 0, locals := 0 }) (va_Pc [.ref (bk (K)), .int (x), .int (nr)] (PB D classes (TY cs) N bk cw sz)) (va_Qv (fun u : Wt => u = (N, bk, va_up (va_up cw K2 (.inl (cs 0, 200, .inl (upd f2 z x)))) K3 (.inl (cs 0, 200, .inl (upd f3 z (f3 z + 1)))))) (Wd D classes (TY cs) (AA N bk sz)) (AA N bk sz)) 0 0 (AA N bk sz) := by
  refine pw_entry (cc := b_S_add) (maxL := 3) (ret := none) (by decide +kernel) rfl (Nat.le_of_ble_eq_true rfl) ?_
  intro p_ e_ s m below_ meth_ c_ ls hx hb hr hml hts hown hlocks hin hsz hP hK hD hS hA hN hl
  have hw : ∀ w ∈ WA, w.before _ s = true := fun w h => hts w (List.mem_cons_of_mem _ h)
  have hown : s.vm.findClass "IssueRows$Statement" = some m.cls := hown
  have hl : lv_has ls 3 [(0, .ref (bk (K))), (1, .int (x)), (2, .int (nr))] := hl
  refine lv_iload_n hx hb d_S_add_0 rfl (lv_at hl 2 rfl) ?_
  refine lv_if_eq (tgt := 44) hx hb d_S_add_1 (by decide) (fun c_1 => ?_) (fun c_1 => ?_)
  · have c_1 : nr = 0 := c_1
    refine lv_aload_n hx hb d_S_add_44 rfl (lv_at hl 0 rfl) ?_
    refine pw_get (ci := 6) (v := .int (nI (z + 1))) hx hb hw i_S hown hK hP (K) hk he rfl 3 (by decide) (hw _ kF_S_21) rfl d_S_add_45 ?_
    refine lv_if_le (tgt := 78) hx hb d_S_add_48 (by decide) (fun c_2 => ?_) (fun c_2 => ?_)
    · have c_2 : (nI (z + 1)) ≤ 0 := c_2
      exact absurd c_2 (nI_nle (by omega) (by omega))
    · have c_2 : ¬ (nI (z + 1)) ≤ 0 := c_2
      refine lv_aload_n hx hb d_S_add_51 rfl (lv_at hl 0 rfl) ?_
      refine pw_get (ci := 6) (v := .ref (bk (K2))) hx hb hw i_S hown hK hP (K) hk he rfl 1 (by decide) (hw _ kF_S_15) rfl d_S_add_52 ?_
      refine lv_aload_n hx hb d_S_add_55 rfl (lv_at hl 0 rfl) ?_
      refine pw_get (ci := 6) (v := .int (nI (z + 1))) hx hb hw i_S hown hK hP (K) hk he rfl 3 (by decide) (hw _ kF_S_21) rfl d_S_add_56 ?_
      refine lv_iconst (v := 1) hx hb d_S_add_59 (by decide) ?_
      refine lv_isub hx hb d_S_add_60 ?_
      rw [show (nI (z + 1)) - 1 = nI z from nI_pred z]
      refine lv_iload_n hx hb d_S_add_61 rfl (lv_at hl 1 rfl) ?_
      refine pw_iast (n := 200) (f := f2) hx hb hK hP hD hS 0 (K2) hk2 he2 rfl (z) rfl (by omega) (by decide) d_S_add_62 (fun cw_3 H locs ecw_3 hP hD hS => ?_)
      have h_4 : cw_3 (K) = .inr (6, [.ref (bk (K1)), .ref (bk (K2)), .ref (bk (K3)), .int (nI (z + 1))]) := by rw [ecw_3, va_up_ne _ _ (by omega)]; exact he
      have h_5 : cw_3 (K1) = .inl (cs 0, 200, .inl f1) := by rw [ecw_3, va_up_ne _ _ (by omega)]; exact he1
      have h_6 : cw_3 (K2) = .inl (cs 0, 200, .inl (upd f2 (z) (x))) := by rw [ecw_3]; exact va_up_self _ _ _
      have h_7 : cw_3 (K3) = .inl (cs 0, 200, .inl f3) := by rw [ecw_3, va_up_ne _ _ (by omega)]; exact he3
      refine lv_aload_n hx hb d_S_add_63 rfl (lv_at hl 0 rfl) ?_
      refine pw_get (ci := 6) (v := .ref (bk (K3))) hx hb hw i_S hown hK hP (K) hk h_4 rfl 2 (by decide) (hw _ kF_S_18) rfl d_S_add_64 ?_
      refine lv_aload_n hx hb d_S_add_67 rfl (lv_at hl 0 rfl) ?_
      refine pw_get (ci := 6) (v := .int (nI (z + 1))) hx hb hw i_S hown hK hP (K) hk h_4 rfl 3 (by decide) (hw _ kF_S_21) rfl d_S_add_68 ?_
      refine lv_iconst (v := 1) hx hb d_S_add_71 (by decide) ?_
      refine lv_isub hx hb d_S_add_72 ?_
      rw [show (nI (z + 1)) - 1 = nI z from nI_pred z]
      refine lv_dup2_11 hx hb d_S_add_73 rfl rfl ?_
      refine pw_iald (n := 200) (f := f3) hx hb hK hP 0 (K3) hk3 h_7 rfl (z) rfl (by omega) (by decide) d_S_add_74 ?_
      refine lv_iconst (v := 1) hx hb d_S_add_75 (by decide) ?_
      refine lv_iadd hx hb d_S_add_76 ?_
      refine pw_iast (n := 200) (f := f3) hx hb hK hP hD hS 0 (K3) hk3 h_7 rfl (z) rfl (by omega) (by decide) d_S_add_77 (fun cw_8 H locs ecw_8 hP hD hS => ?_)
      have h_9 : cw_8 (K) = .inr (6, [.ref (bk (K1)), .ref (bk (K2)), .ref (bk (K3)), .int (nI (z + 1))]) := by rw [ecw_8, va_up_ne _ _ (by omega)]; exact h_4
      have h_10 : cw_8 (K1) = .inl (cs 0, 200, .inl f1) := by rw [ecw_8, va_up_ne _ _ (by omega)]; exact h_5
      have h_11 : cw_8 (K2) = .inl (cs 0, 200, .inl (upd f2 (z) (x))) := by rw [ecw_8, va_up_ne _ _ (by omega)]; exact h_6
      have h_12 : cw_8 (K3) = .inl (cs 0, 200, .inl (upd f3 (z) ((f3 (z)) + 1))) := by rw [ecw_8]; exact va_up_self _ _ _
      exact W.vret hx hb hr (fun t ht hW => ⟨⟨(N, bk, cw_8), rfl, by rw [ecw_8, ecw_3], by rw [ht]; exact hP, va_K.moved hW.alike hK, hD⟩, hS.F ht⟩) hS.2.2 d_S_add_78
  · have c_1 : ¬ nr = 0 := c_1
    exact absurd hnr c_1
end
section
/-! THE REFERENCE's world: cell 0 the object, cells 1 .. 27 its arrays, in the order in which they are made: first, again, most, pattern, ordinal, state, expected, claims, claimDay, copies, came, volumeOf, replacedBy, cents, replaces, rowSize, person, personDays, holder, holderFrom, roundIssue, roundClaims, rowFirst, rowLast, rowMany, note, noteIssue. z: issues, round, volumes, rows, notes. th: thrown. -/
def lenM (k : Nat) : Nat := match k with
  | 1 => 10
  | 2 => 10
  | 3 => 10
  | 17 => 1600
  | 18 => 1600
  | 26 => 100
  | 27 => 100
  | _ => 200
def arrM (cs : Nat → ClassId) (k : Nat) (f : Nat → Int32) : va_E := if k = 15 then .inl (cs 1, 200, .inl f) else .inl (cs 0, lenM k, .inl f)
def fldM (th : Int32) (z : Nat → Nat) (bk : Nat → Nat) : List Value := [.int th, .ref (bk 1), .ref (bk 2), .ref (bk 3), .int (nI (z 0)), .ref (bk 4), .ref (bk 5), .ref (bk 6), .ref (bk 7), .ref (bk 8), .ref (bk 9), .ref (bk 10), .ref (bk 11), .ref (bk 12), .ref (bk 13), .ref (bk 14), .ref (bk 15), .ref (bk 16), .ref (bk 17), .ref (bk 18), .ref (bk 19), .ref (bk 20), .int (nI (z 1)), .ref (bk 21), .ref (bk 22), .int (nI (z 2)), .int (nI (z 3)), .ref (bk 23), .ref (bk 24), .ref (bk 25), .int (nI (z 4)), .ref (bk 26), .ref (bk 27)]
def MW (cs : Nat → ClassId) (th : Int32) (z : Nat → Nat) (a : Nat → Nat → Int32) (bk : Nat → Nat) : Nat → va_E := fun k => if k = 0 then .inr (7, fldM th z bk) else arrM cs k (a k)
theorem MW_obj {cs : Nat → ClassId} {th : Int32} {z : Nat → Nat} {a : Nat → Nat → Int32} {bk : Nat → Nat} (th' : Int32) (z' : Nat → Nat) : va_up (MW cs th z a bk) 0 (.inr (7, fldM th' z' bk)) = MW cs th' z' a bk := by
  funext k
  by_cases h : k = 0
  · subst h; rw [va_up_self]; rfl
  · rw [va_up_ne _ _ h]; simp [MW, h]
theorem MW_arr {cs : Nat → ClassId} {th : Int32} {z : Nat → Nat} {a : Nat → Nat → Int32} {bk : Nat → Nat} (k : Nat) (hk : k ≠ 0) (f : Nat → Int32) : va_up (MW cs th z a bk) k (arrM cs k f) = MW cs th z (va_up a k f) bk := by
  funext j
  by_cases h : j = k
  · subst h; rw [va_up_self]; simp [MW, hk, va_up_self]
  · rw [va_up_ne _ _ h]
    by_cases h0 : j = 0
    · simp [MW, h0]
    · simp [MW, h0, va_up_ne _ _ h]
abbrev MS : Type := Int32 × Int32 × (Nat → Nat) × (Nat → Nat → Int32)
/-- the reference behind a call: the answer and the world are the pure function's -/
def Mr (cs : Nat → ClassId) (bk : Nat → Nat) (R : MS) (r : Int32) (u : Wt) : Prop := r = R.1 ∧ u = (28, bk, MW cs R.2.1 R.2.2.1 R.2.2.2 bk)
def Mv (cs : Nat → ClassId) (bk : Nat → Nat) (R : MS) (u : Wt) : Prop := u = (28, bk, MW cs R.2.1 R.2.2.1 R.2.2.2 bk)
theorem Mr_of {cs : Nat → ClassId} {bk : Nat → Nat} {R : MS} {r th : Int32} {z : Nat → Nat} {a : Nat → Nat → Int32} (h : R = (r, th, z, a)) : Mr cs bk R r (28, bk, MW cs th z a bk) := by subst h; exact ⟨rfl, rfl⟩
theorem Mv_of {cs : Nat → ClassId} {bk : Nat → Nat} {R : MS} {r th : Int32} {z : Nat → Nat} {a : Nat → Nat → Int32} (h : R = (r, th, z, a)) : Mv cs bk R (28, bk, MW cs th z a bk) := by subst h; exact rfl
section PZ
variable {p : Program} {l : Launch} {e : Env} {R : Room} {s : State} {m : MethodId} {args : Array Value} {below : List Frame} {meth : Method} {c : Code} {H : Heap} {locs : List Loc} {cells slots : Nat} {Q : State → Prop}
variable {cc : ByteArray} {pc : Nat} {ls : Array Slot} {rest : List Value} {D : va_G} {cl : List vw_C} {A : Nat → Prop} {tys : List (ClassId × FieldType)} {H0 : Heap} {N : Nat} {bk : Nat → Nat} {cw : Nat → va_E}
theorem pw_zald (hexec : p.tables.exec = Jvm.exec) (hb : c.code = cc) (hK : va_K D cl tys s) (hP : va_P D cl (wl N bk cw) H) (t0 : Nat) (k : Nat) (hk : k < N) {cA : ClassId} {n : Nat} {f : Nat → Int32} (he : cw k = .inl (cA, n, .inl f)) (ht : tys[t0]? = some (cA, .boolean)) {i : Int32} (j : Nat) (hi : i = nI j) (hj : j < n) (hn : n < 2 ^ 31) (hdg : decode cc pc = .ok (.baload, 1))
    (kk : W p l e R s m args below meth c H locs cells slots Q (F0 m (pc + 1) ls (.int (f j) :: rest))) : W p l e R s m args below meth c H locs cells slots Q (F0 m pc ls (.int i :: .ref (bk k) :: rest)) := by
  subst hi
  refine va_zald hexec hb hK hP k t0 (wl_at hk he) ht (vp_in_nI hj hn) hdg ?_
  rw [nI_clamp (by omega)]
  exact kk
theorem pw_zast (hexec : p.tables.exec = Jvm.exec) (hb : c.code = cc) (hK : va_K D cl tys s) (hP : va_P D cl (wl N bk cw) H) (hD : va_D A (wl N bk cw)) (hS : va_S A H0 H locs) (t0 : Nat) (k : Nat) (hk : k < N) {cA : ClassId} {n : Nat} {f : Nat → Int32} (he : cw k = .inl (cA, n, .inl f)) (ht : tys[t0]? = some (cA, .boolean)) {i : Int32} (j : Nat) (hi : i = nI j) (hj : j < n) (hn : n < 2 ^ 31) (hdg : decode cc pc = .ok (.bastore, 1))
    (kk : ∀ (cw1 : Nat → va_E) (H1 : Heap) (locs1 : List Loc), cw1 = va_up cw k (.inl (cA, n, .inl (upd f j 1))) → va_P D cl (wl N bk cw1) H1 → va_D A (wl N bk cw1) → va_S A H0 H1 locs1 → W p l e R s m args below meth c H1 locs1 cells slots Q (F0 m (pc + 1) ls rest)) : W p l e R s m args below meth c H locs cells slots Q (F0 m pc ls (.int 1 :: .int i :: .ref (bk k) :: rest)) := by
  subst hi
  refine va_zast hexec hb hK hP hD hS k t0 (wl_at hk he) ht (vp_in_nI hj hn) hdg (fun H1 locs1 hP hD hS => ?_)
  rw [wl_set, nI_clamp (by omega), show vp_nar .boolean 1 = 1 from by decide] at hP hD
  exact kk _ H1 locs1 rfl hP hD hS
end PZ
section PM
variable {p : Program} {l : Launch} {e : Env} {R : Room} {s : State} {m : MethodId} {args : Array Value} {below : List Frame} {meth : Method} {c : Code} {H : Heap} {locs : List Loc} {cells slots : Nat} {Q : State → Prop}
variable {pc : Nat} {ls : Array Slot} {rest st0 : List Value} {av : Array Value} {A0 : Nat → Prop} {H0 : Heap} {mc ms : Nat} {D : va_G} {cl : List vw_C} {tys : List (ClassId × FieldType)} {N : Nat} {bk bk2 : Nat → Nat} {cs : Nat → ClassId} {T : MS} {u0 : Wt}
theorem pm_callv (hr : va_Run p l e R s m args below meth c H locs cells slots mc ms (F0 m pc ls st0) rest (va_Qv (Mv cs bk T) (Wd D cl tys (AA N bk2 H.size)) (AA N bk2 H.size) av) (AA N bk2 H.size)) (hS : va_S A0 H0 H locs) (hF : ∀ q, AA N bk2 H.size q → A0 q)
    (kk : ∀ (H1 : Heap) (locs1 : List Loc), va_P D cl (wl 28 bk (MW cs T.2.1 T.2.2.1 T.2.2.2 bk)) H1 → va_D A0 (wl 28 bk (MW cs T.2.1 T.2.2.1 T.2.2.2 bk)) → va_S A0 H0 H1 locs1 → W p l e R s m args below meth c H1 locs1 (cells + mc) (slots + ms) Q (F0 m (pc + 3) ls rest)) : W p l e R s m args below meth c H locs cells slots Q (F0 m pc ls st0) :=
  pw_callv hr hS hF (fun N1 bk1 cw1 H1 locs1 hw hP hD hS => by
    obtain ⟨h1, h2⟩ := Prod.mk.inj hw
    obtain ⟨h3, h4⟩ := Prod.mk.inj h2
    rw [h1, h3, h4] at hP hD
    exact kk H1 locs1 hP hD hS)
theorem pm_calli (hr : va_Run p l e R s m args below meth c H locs cells slots mc ms (F0 m pc ls st0) rest (va_Qi (Mr cs bk T) (Wd D cl tys (AA N bk2 H.size)) (AA N bk2 H.size) av) (AA N bk2 H.size)) (hS : va_S A0 H0 H locs) (hF : ∀ q, AA N bk2 H.size q → A0 q)
    (kk : ∀ (H1 : Heap) (locs1 : List Loc), va_P D cl (wl 28 bk (MW cs T.2.1 T.2.2.1 T.2.2.2 bk)) H1 → va_D A0 (wl 28 bk (MW cs T.2.1 T.2.2.1 T.2.2.2 bk)) → va_S A0 H0 H1 locs1 → W p l e R s m args below meth c H1 locs1 (cells + mc) (slots + ms) Q (F0 m (pc + 3) ls (.int T.1 :: rest))) : W p l e R s m args below meth c H locs cells slots Q (F0 m pc ls st0) :=
  pw_calli hr hS hF (fun r N1 bk1 cw1 H1 locs1 hw hP hD hS => by
    obtain ⟨h0, hw⟩ := hw
    obtain ⟨h1, h2⟩ := Prod.mk.inj hw
    obtain ⟨h3, h4⟩ := Prod.mk.inj h2
    rw [h1, h3, h4] at hP hD
    rw [h0]
    exact kk H1 locs1 hP hD hS)
end PM
end
section
set_option maxHeartbeats 4000000 in
set_option maxRecDepth 100000 in
theorem c_M_in (l : Launch) (D : va_G) (cs : Nat → ClassId) (bk : Nat → Nat) (sz : Nat) (th : Int32) (z : Nat → Nat) (a : Nat → Nat → Int32) (x lo hi : Int32) : Met l y_M_in w_M_in ({ frames := 0, cells := 0, slots := 0, locals := 0 }) (va_Pc [.int (x), .int (lo), .int (hi)] (PB D classes (TY cs) 28 bk (MW cs th z a bk) sz)) (vp_Si (fun r => r = bI (lo ≤ x ∧ x ≤ hi))) 0 0 (fun _ => False) := by
  refine pw_entry (cc := b_M_in) (maxL := 3) (ret := (some .boolean)) (by decide +kernel) rfl (Nat.le_of_ble_eq_true rfl) ?_
  intro p_ e_ s m below_ meth_ c_ ls hx hb hr hml hts hown hlocks hin hsz hP hK hD hS hA hN hl
  have hw : ∀ w ∈ WA, w.before _ s = true := fun w h => hts w (List.mem_cons_of_mem _ h)
  have hown : s.vm.findClass "IssueRowsModel" = some m.cls := hown
  have hl : lv_has ls 3 [(0, .int (x)), (1, .int (lo)), (2, .int (hi))] := hl
  refine lv_iload_n hx hb d_M_in_0 rfl (lv_at hl 0 rfl) ?_
  refine lv_iload_n hx hb d_M_in_1 rfl (lv_at hl 1 rfl) ?_
  refine lv_icmp_lt (tgt := 14) hx hb d_M_in_2 (by decide) (fun c_1 => ?_) (fun c_1 => ?_)
  · have c_1 : x < lo := c_1
    refine lv_iconst (v := 0) hx hb d_M_in_14 (by decide) ?_
    exact W.zret (v := 0) (ty := .boolean) hx hb hr (by decide) (fun t ht hW => ⟨0, rfl, (bI_f (by simp only [Int32.lt_iff_toInt_lt, Int32.le_iff_toInt_le, ← Int32.toInt_inj, T0, T1, T2, T3, T4, T5, T6, T7, T8, T9, T10, T40, T50, T99, T100, T200, T999, T1000, T9999, T1000000, T10000000, T1000000000, Tm1] at c_1 ⊢; omega)).symm, ht⟩) (fun q h => by cases h) d_M_in_15
  · have c_1 : ¬ x < lo := c_1
    refine lv_iload_n hx hb d_M_in_5 rfl (lv_at hl 0 rfl) ?_
    refine lv_iload_n hx hb d_M_in_6 rfl (lv_at hl 2 rfl) ?_
    refine lv_icmp_gt (tgt := 14) hx hb d_M_in_7 (by decide) (fun c_2 => ?_) (fun c_2 => ?_)
    · have c_2 : hi < x := c_2
      refine lv_iconst (v := 0) hx hb d_M_in_14 (by decide) ?_
      exact W.zret (v := 0) (ty := .boolean) hx hb hr (by decide) (fun t ht hW => ⟨0, rfl, (bI_f (by simp only [Int32.lt_iff_toInt_lt, Int32.le_iff_toInt_le, ← Int32.toInt_inj, T0, T1, T2, T3, T4, T5, T6, T7, T8, T9, T10, T40, T50, T99, T100, T200, T999, T1000, T9999, T1000000, T10000000, T1000000000, Tm1] at c_1 c_2 ⊢; omega)).symm, ht⟩) (fun q h => by cases h) d_M_in_15
    · have c_2 : ¬ hi < x := c_2
      refine lv_iconst (v := 1) hx hb d_M_in_10 (by decide) ?_
      refine lv_goto (tgt := 15) hx hb d_M_in_11 (by decide) ?_
      exact W.zret (v := 1) (ty := .boolean) hx hb hr (by decide) (fun t ht hW => ⟨1, rfl, (bI_t (by simp only [Int32.lt_iff_toInt_lt, Int32.le_iff_toInt_le, ← Int32.toInt_inj, T0, T1, T2, T3, T4, T5, T6, T7, T8, T9, T10, T40, T50, T99, T100, T200, T999, T1000, T9999, T1000000, T10000000, T1000000000, Tm1] at c_1 c_2 ⊢; omega)).symm, ht⟩) (fun q h => by cases h) d_M_in_15
set_option maxHeartbeats 4000000 in
set_option maxRecDepth 100000 in
theorem c_M_isDay (l : Launch) (D : va_G) (cs : Nat → ClassId) (bk : Nat → Nat) (sz : Nat) (th : Int32) (z : Nat → Nat) (a : Nat → Nat → Int32) (x : Int32) : Met l y_M_isDay w_M_isDay ({ frames := 1, cells := 0, slots := 0, locals := 22 }) (va_Pc [.int (x)] (PB D classes (TY cs) 28 bk (MW cs th z a bk) sz)) (vp_Si (fun r => r = bI (0 ≤ x ∧ x ≤ 1000000))) 0 0 (fun _ => False) := by
  refine pw_entry (cc := b_M_isDay) (maxL := 1) (ret := (some .boolean)) (by decide +kernel) rfl (Nat.le_of_ble_eq_true rfl) ?_
  intro p_ e_ s m below_ meth_ c_ ls hx hb hr hml hts hown hlocks hin hsz hP hK hD hS hA hN hl
  have hw : ∀ w ∈ WA, w.before _ s = true := fun w h => hts w (List.mem_cons_of_mem _ h)
  have hown : s.vm.findClass "IssueRowsModel" = some m.cls := hown
  have hl : lv_has ls 1 [(0, .int (x))] := hl
  refine lv_iload_n hx hb d_M_isDay_0 rfl (lv_at hl 0 rfl) ?_
  refine lv_iconst (v := 0) hx hb d_M_isDay_1 (by decide) ?_
  refine lv_ldc (v := 1000000) hx hb hown (hw _ kK_M_96) d_M_isDay_2 ?_
  refine pw_callSi (va_runS (As := [.int (x), .int (0), .int (1000000)]) (rest := []) ⟨hx, hb, hml, hown, hw⟩ (c_M_in l D cs bk s.heap.size th z a x 0 1000000) (cw_S 3 hw kM_M_97 kS_M_in kZ_M kC_M_in rfl rfl ⟨rfl, by decide, by decide, by decide +kernel⟩ ⟨Nat.le_of_ble_eq_true rfl, Nat.le_of_ble_eq_true rfl⟩) (pw_preS hN hK hP hD) rfl rfl hl.1 rfl (lv_room (Nat.le_of_ble_eq_true rfl)) d_M_isDay_4 ⟨Nat.le_of_ble_eq_true rfl, Nat.le_of_ble_eq_true rfl⟩) (fun r_1 hr_1 => ?_)
  have hr_1 : r_1 = bI (0 ≤ x ∧ x ≤ 1000000) := hr_1
  subst hr_1
  exact W.zret (v := bI (0 ≤ x ∧ x ≤ 1000000)) (ty := .boolean) hx hb hr bI_nar (fun t ht hW => ⟨bI (0 ≤ x ∧ x ≤ 1000000), rfl, rfl, ht⟩) (fun q h => by cases h) d_M_isDay_7
set_option maxHeartbeats 4000000 in
set_option maxRecDepth 100000 in
theorem c_M_isIssue (l : Launch) (D : va_G) (cs : Nat → ClassId) (bk : Nat → Nat) (sz : Nat) (th : Int32) (z : Nat → Nat) (a : Nat → Nat → Int32) (hz : z 0 ≤ 200) (x : Int32) : Met l y_M_isIssue w_M_isIssue ({ frames := 1, cells := 0, slots := 0, locals := 22 }) (va_Pc [.ref (bk (0)), .int (x)] (PB D classes (TY cs) 28 bk (MW cs th z a bk) sz)) (vp_Si (fun r => r = bI (0 ≤ x ∧ x < nI (z 0)))) 0 0 (fun _ => False) := by
  refine pw_entry (cc := b_M_isIssue) (maxL := 2) (ret := (some .boolean)) (by decide +kernel) rfl (Nat.le_of_ble_eq_true rfl) ?_
  intro p_ e_ s m below_ meth_ c_ ls hx hb hr hml hts hown hlocks hin hsz hP hK hD hS hA hN hl
  have hw : ∀ w ∈ WA, w.before _ s = true := fun w h => hts w (List.mem_cons_of_mem _ h)
  have hown : s.vm.findClass "IssueRowsModel" = some m.cls := hown
  have hl : lv_has ls 2 [(0, .ref (bk (0))), (1, .int (x))] := hl
  refine lv_iload_n hx hb d_M_isIssue_0 rfl (lv_at hl 1 rfl) ?_
  refine lv_iconst (v := 0) hx hb d_M_isIssue_1 (by decide) ?_
  refine lv_aload_n hx hb d_M_isIssue_2 rfl (lv_at hl 0 rfl) ?_
  refine pw_get (ci := 7) (v := .int (nI (z 0))) hx hb hw i_M hown hK hP (0) (by decide) rfl rfl 4 (by decide) (hw _ kF_M_101) rfl d_M_isIssue_3 ?_
  refine lv_iconst (v := 1) hx hb d_M_isIssue_6 (by decide) ?_
  refine lv_isub hx hb d_M_isIssue_7 ?_
  refine pw_callSi (va_runS (As := [.int (x), .int (0), .int ((nI (z 0)) - 1)]) (rest := []) ⟨hx, hb, hml, hown, hw⟩ (c_M_in l D cs bk s.heap.size th z a x 0 ((nI (z 0)) - 1)) (cw_S 3 hw kM_M_97 kS_M_in kZ_M kC_M_in rfl rfl ⟨rfl, by decide, by decide, by decide +kernel⟩ ⟨Nat.le_of_ble_eq_true rfl, Nat.le_of_ble_eq_true rfl⟩) (pw_preS hN hK hP hD) rfl rfl hl.1 rfl (lv_room (Nat.le_of_ble_eq_true rfl)) d_M_isIssue_8 ⟨Nat.le_of_ble_eq_true rfl, Nat.le_of_ble_eq_true rfl⟩) (fun r_1 hr_1 => ?_)
  have hr_1 : r_1 = bI (0 ≤ x ∧ x ≤ ((nI (z 0)) - 1)) := hr_1
  subst hr_1
  exact W.zret (v := bI (0 ≤ x ∧ x ≤ ((nI (z 0)) - 1))) (ty := .boolean) hx hb hr bI_nar (fun t ht hW => ⟨bI (0 ≤ x ∧ x ≤ ((nI (z 0)) - 1)), rfl, (bI_c (and_congr_right (fun _ => le_pr (by omega)))), ht⟩) (fun q h => by cases h) d_M_isIssue_11
set_option maxHeartbeats 4000000 in
set_option maxRecDepth 100000 in
theorem c_M_isHeld (l : Launch) (D : va_G) (cs : Nat → ClassId) (bk : Nat → Nat) (sz : Nat) (th : Int32) (z : Nat → Nat) (a : Nat → Nat → Int32) (j : Nat) (hj : j < 200) : Met l y_M_isHeld w_M_isHeld ({ frames := 0, cells := 0, slots := 0, locals := 0 }) (va_Pc [.ref (bk (0)), .int (nI j)] (PB D classes (TY cs) 28 bk (MW cs th z a bk) sz)) (vp_Si (fun r => r = bI (0 ≤ a 19 j ∧ a 19 j < a 16 j))) 0 0 (fun _ => False) := by
  refine pw_entry (cc := b_M_isHeld) (maxL := 2) (ret := (some .boolean)) (by decide +kernel) rfl (Nat.le_of_ble_eq_true rfl) ?_
  intro p_ e_ s m below_ meth_ c_ ls hx hb hr hml hts hown hlocks hin hsz hP hK hD hS hA hN hl
  have hw : ∀ w ∈ WA, w.before _ s = true := fun w h => hts w (List.mem_cons_of_mem _ h)
  have hown : s.vm.findClass "IssueRowsModel" = some m.cls := hown
  have hl : lv_has ls 2 [(0, .ref (bk (0))), (1, .int (nI j))] := hl
  refine lv_aload_n hx hb d_M_isHeld_0 rfl (lv_at hl 0 rfl) ?_
  refine pw_get (ci := 7) (v := .ref (bk (19))) hx hb hw i_M hown hK hP (0) (by decide) rfl rfl 20 (by decide) (hw _ kF_M_65) rfl d_M_isHeld_1 ?_
  refine lv_iload_n hx hb d_M_isHeld_4 rfl (lv_at hl 1 rfl) ?_
  refine pw_iald (n := 200) (f := (a 19)) hx hb hK hP 0 (19) (by decide) rfl rfl (j) rfl (by omega) (by decide) d_M_isHeld_5 ?_
  refine lv_if_lt (tgt := 28) hx hb d_M_isHeld_6 (by decide) (fun c_1 => ?_) (fun c_1 => ?_)
  · have c_1 : ((a 19) (j)) < 0 := c_1
    refine lv_iconst (v := 0) hx hb d_M_isHeld_28 (by decide) ?_
    exact W.zret (v := 0) (ty := .boolean) hx hb hr (by decide) (fun t ht hW => ⟨0, rfl, (bI_f (by simp only [Int32.lt_iff_toInt_lt, Int32.le_iff_toInt_le, ← Int32.toInt_inj, T0, T1, T2, T3, T4, T5, T6, T7, T8, T9, T10, T40, T50, T99, T100, T200, T999, T1000, T9999, T1000000, T10000000, T1000000000, Tm1] at c_1 ⊢; omega)).symm, ht⟩) (fun q h => by cases h) d_M_isHeld_29
  · have c_1 : ¬ ((a 19) (j)) < 0 := c_1
    refine lv_aload_n hx hb d_M_isHeld_9 rfl (lv_at hl 0 rfl) ?_
    refine pw_get (ci := 7) (v := .ref (bk (19))) hx hb hw i_M hown hK hP (0) (by decide) rfl rfl 20 (by decide) (hw _ kF_M_65) rfl d_M_isHeld_10 ?_
    refine lv_iload_n hx hb d_M_isHeld_13 rfl (lv_at hl 1 rfl) ?_
    refine pw_iald (n := 200) (f := (a 19)) hx hb hK hP 0 (19) (by decide) rfl rfl (j) rfl (by omega) (by decide) d_M_isHeld_14 ?_
    refine lv_aload_n hx hb d_M_isHeld_15 rfl (lv_at hl 0 rfl) ?_
    refine pw_get (ci := 7) (v := .ref (bk (16))) hx hb hw i_M hown hK hP (0) (by decide) rfl rfl 17 (by decide) (hw _ kF_M_56) rfl d_M_isHeld_16 ?_
    refine lv_iload_n hx hb d_M_isHeld_19 rfl (lv_at hl 1 rfl) ?_
    refine pw_iald (n := 200) (f := (a 16)) hx hb hK hP 0 (16) (by decide) rfl rfl (j) rfl (by omega) (by decide) d_M_isHeld_20 ?_
    refine lv_icmp_ge (tgt := 28) hx hb d_M_isHeld_21 (by decide) (fun c_2 => ?_) (fun c_2 => ?_)
    · have c_2 : ((a 16) (j)) ≤ ((a 19) (j)) := c_2
      refine lv_iconst (v := 0) hx hb d_M_isHeld_28 (by decide) ?_
      exact W.zret (v := 0) (ty := .boolean) hx hb hr (by decide) (fun t ht hW => ⟨0, rfl, (bI_f (by simp only [Int32.lt_iff_toInt_lt, Int32.le_iff_toInt_le, ← Int32.toInt_inj, T0, T1, T2, T3, T4, T5, T6, T7, T8, T9, T10, T40, T50, T99, T100, T200, T999, T1000, T9999, T1000000, T10000000, T1000000000, Tm1] at c_1 c_2 ⊢; omega)).symm, ht⟩) (fun q h => by cases h) d_M_isHeld_29
    · have c_2 : ¬ ((a 16) (j)) ≤ ((a 19) (j)) := c_2
      refine lv_iconst (v := 1) hx hb d_M_isHeld_24 (by decide) ?_
      refine lv_goto (tgt := 29) hx hb d_M_isHeld_25 (by decide) ?_
      exact W.zret (v := 1) (ty := .boolean) hx hb hr (by decide) (fun t ht hW => ⟨1, rfl, (bI_t (by simp only [Int32.lt_iff_toInt_lt, Int32.le_iff_toInt_le, ← Int32.toInt_inj, T0, T1, T2, T3, T4, T5, T6, T7, T8, T9, T10, T40, T50, T99, T100, T200, T999, T1000, T9999, T1000000, T10000000, T1000000000, Tm1] at c_1 c_2 ⊢; omega)).symm, ht⟩) (fun q h => by cases h) d_M_isHeld_29
set_option maxHeartbeats 4000000 in
set_option maxRecDepth 100000 in
theorem c_M_stands (l : Launch) (D : va_G) (cs : Nat → ClassId) (bk : Nat → Nat) (sz : Nat) (th : Int32) (z : Nat → Nat) (a : Nat → Nat → Int32) (j : Nat) (hj : j < 200) : Met l y_M_stands w_M_stands ({ frames := 0, cells := 0, slots := 0, locals := 0 }) (va_Pc [.ref (bk (0)), .int (nI j)] (PB D classes (TY cs) 28 bk (MW cs th z a bk) sz)) (vp_Si (fun r => r = bI (a 6 j = 3 ∨ a 6 j = 5))) 0 0 (fun _ => False) := by
  refine pw_entry (cc := b_M_stands) (maxL := 2) (ret := (some .boolean)) (by decide +kernel) rfl (Nat.le_of_ble_eq_true rfl) ?_
  intro p_ e_ s m below_ meth_ c_ ls hx hb hr hml hts hown hlocks hin hsz hP hK hD hS hA hN hl
  have hw : ∀ w ∈ WA, w.before _ s = true := fun w h => hts w (List.mem_cons_of_mem _ h)
  have hown : s.vm.findClass "IssueRowsModel" = some m.cls := hown
  have hl : lv_has ls 2 [(0, .ref (bk (0))), (1, .int (nI j))] := hl
  refine lv_aload_n hx hb d_M_stands_0 rfl (lv_at hl 0 rfl) ?_
  refine pw_get (ci := 7) (v := .ref (bk (6))) hx hb hw i_M hown hK hP (0) (by decide) rfl rfl 7 (by decide) (hw _ kF_M_25) rfl d_M_stands_1 ?_
  refine lv_iload_n hx hb d_M_stands_4 rfl (lv_at hl 1 rfl) ?_
  refine pw_iald (n := 200) (f := (a 6)) hx hb hK hP 0 (6) (by decide) rfl rfl (j) rfl (by omega) (by decide) d_M_stands_5 ?_
  refine lv_iconst (v := 3) hx hb d_M_stands_6 (by decide) ?_
  refine lv_icmp_eq (tgt := 20) hx hb d_M_stands_7 (by decide) (fun c_1 => ?_) (fun c_1 => ?_)
  · have c_1 : ((a 6) (j)) = 3 := c_1
    refine lv_iconst (v := 1) hx hb d_M_stands_20 (by decide) ?_
    refine lv_goto (tgt := 25) hx hb d_M_stands_21 (by decide) ?_
    exact W.zret (v := 1) (ty := .boolean) hx hb hr (by decide) (fun t ht hW => ⟨1, rfl, (bI_t (by simp only [Int32.lt_iff_toInt_lt, Int32.le_iff_toInt_le, ← Int32.toInt_inj, T0, T1, T2, T3, T4, T5, T6, T7, T8, T9, T10, T40, T50, T99, T100, T200, T999, T1000, T9999, T1000000, T10000000, T1000000000, Tm1] at c_1 ⊢; omega)).symm, ht⟩) (fun q h => by cases h) d_M_stands_25
  · have c_1 : ¬ ((a 6) (j)) = 3 := c_1
    refine lv_aload_n hx hb d_M_stands_10 rfl (lv_at hl 0 rfl) ?_
    refine pw_get (ci := 7) (v := .ref (bk (6))) hx hb hw i_M hown hK hP (0) (by decide) rfl rfl 7 (by decide) (hw _ kF_M_25) rfl d_M_stands_11 ?_
    refine lv_iload_n hx hb d_M_stands_14 rfl (lv_at hl 1 rfl) ?_
    refine pw_iald (n := 200) (f := (a 6)) hx hb hK hP 0 (6) (by decide) rfl rfl (j) rfl (by omega) (by decide) d_M_stands_15 ?_
    refine lv_iconst (v := 5) hx hb d_M_stands_16 (by decide) ?_
    refine lv_icmp_ne (tgt := 24) hx hb d_M_stands_17 (by decide) (fun c_2 => ?_) (fun c_2 => ?_)
    · have c_2 : ¬ ((a 6) (j)) = 5 := c_2
      refine lv_iconst (v := 0) hx hb d_M_stands_24 (by decide) ?_
      exact W.zret (v := 0) (ty := .boolean) hx hb hr (by decide) (fun t ht hW => ⟨0, rfl, (bI_f (by simp only [Int32.lt_iff_toInt_lt, Int32.le_iff_toInt_le, ← Int32.toInt_inj, T0, T1, T2, T3, T4, T5, T6, T7, T8, T9, T10, T40, T50, T99, T100, T200, T999, T1000, T9999, T1000000, T10000000, T1000000000, Tm1] at c_1 c_2 ⊢; omega)).symm, ht⟩) (fun q h => by cases h) d_M_stands_25
    · have c_2 : ((a 6) (j)) = 5 := c_2
      refine lv_iconst (v := 1) hx hb d_M_stands_20 (by decide) ?_
      refine lv_goto (tgt := 25) hx hb d_M_stands_21 (by decide) ?_
      exact W.zret (v := 1) (ty := .boolean) hx hb hr (by decide) (fun t ht hW => ⟨1, rfl, (bI_t (by simp only [Int32.lt_iff_toInt_lt, Int32.le_iff_toInt_le, ← Int32.toInt_inj, T0, T1, T2, T3, T4, T5, T6, T7, T8, T9, T10, T40, T50, T99, T100, T200, T999, T1000, T9999, T1000000, T10000000, T1000000000, Tm1] at c_1 c_2 ⊢; omega)).symm, ht⟩) (fun q h => by cases h) d_M_stands_25
def s_M_tell (th : Int32) (z : Nat → Nat) (a : Nat → Nat → Int32) (x : Int32) (y : Int32) : MS := (if (nI (z 4)) = 100 then (0, th, z, a) else (0, th, va_up z 4 ((z 4) + 1), va_up (va_up a 26 (upd (a 26) (z 4) (x))) 27 (upd (a 27) (z 4) (y))))
set_option maxHeartbeats 4000000 in
set_option maxRecDepth 100000 in
theorem c_M_tell (l : Launch) (D : va_G) (cs : Nat → ClassId) (bk : Nat → Nat) (sz : Nat) (th : Int32) (z : Nat → Nat) (a : Nat → Nat → Int32) (hz : z 4 ≤ 100) (x y : Int32) : Met l y_M_tell w_M_tell ({ frames := 0, cells := 0, slots := 0, locals := 0 }) (va_Pc [.ref (bk (0)), .int (x), .int (y)] (PB D classes (TY cs) 28 bk (MW cs th z a bk) sz)) (va_Qv (Mv cs bk (s_M_tell th z a x y)) (Wd D classes (TY cs) (AA 28 bk sz)) (AA 28 bk sz)) 0 0 (AA 28 bk sz) := by
  refine pw_entry (cc := b_M_tell) (maxL := 3) (ret := none) (by decide +kernel) rfl (Nat.le_of_ble_eq_true rfl) ?_
  intro p_ e_ s m below_ meth_ c_ ls hx hb hr hml hts hown hlocks hin hsz hP hK hD hS hA hN hl
  have hw : ∀ w ∈ WA, w.before _ s = true := fun w h => hts w (List.mem_cons_of_mem _ h)
  have hown : s.vm.findClass "IssueRowsModel" = some m.cls := hown
  have hl : lv_has ls 3 [(0, .ref (bk (0))), (1, .int (x)), (2, .int (y))] := hl
  refine lv_aload_n hx hb d_M_tell_0 rfl (lv_at hl 0 rfl) ?_
  refine pw_get (ci := 7) (v := .int (nI (z 4))) hx hb hw i_M hown hK hP (0) (by decide) rfl rfl 30 (by decide) (hw _ kF_M_104) rfl d_M_tell_1 ?_
  refine lv_bipush (v := 100) hx hb d_M_tell_4 (by decide) ?_
  refine lv_icmp_ne (tgt := 10) hx hb d_M_tell_6 (by decide) (fun c_1 => ?_) (fun c_1 => ?_)
  · have c_1 : ¬ (nI (z 4)) = 100 := c_1
    refine lv_aload_n hx hb d_M_tell_10 rfl (lv_at hl 0 rfl) ?_
    refine pw_get (ci := 7) (v := .ref (bk (26))) hx hb hw i_M hown hK hP (0) (by decide) rfl rfl 31 (by decide) (hw _ kF_M_86) rfl d_M_tell_11 ?_
    refine lv_aload_n hx hb d_M_tell_14 rfl (lv_at hl 0 rfl) ?_
    refine pw_get (ci := 7) (v := .int (nI (z 4))) hx hb hw i_M hown hK hP (0) (by decide) rfl rfl 30 (by decide) (hw _ kF_M_104) rfl d_M_tell_15 ?_
    refine lv_iload_n hx hb d_M_tell_18 rfl (lv_at hl 1 rfl) ?_
    refine pw_iast (n := 100) (f := (a 26)) hx hb hK hP hD hS 0 (26) (by decide) rfl rfl (z 4) rfl (by have h7 := c_1; rw [show (100 : Int32) = nI 100 from rfl, nI_eq (by omega) (by decide)] at h7; omega) (by decide) d_M_tell_19 (fun cw_2 H locs ecw_2 hP hD hS => ?_)
    obtain rfl : cw_2 = MW cs th z (va_up a 26 (upd (a 26) (z 4) (x))) bk := by rw [ecw_2]; exact MW_arr 26 (by decide) (upd (a 26) (z 4) (x))
    refine lv_aload_n hx hb d_M_tell_20 rfl (lv_at hl 0 rfl) ?_
    refine pw_get (ci := 7) (v := .ref (bk (27))) hx hb hw i_M hown hK hP (0) (by decide) rfl rfl 32 (by decide) (hw _ kF_M_89) rfl d_M_tell_21 ?_
    refine lv_aload_n hx hb d_M_tell_24 rfl (lv_at hl 0 rfl) ?_
    refine pw_get (ci := 7) (v := .int (nI (z 4))) hx hb hw i_M hown hK hP (0) (by decide) rfl rfl 30 (by decide) (hw _ kF_M_104) rfl d_M_tell_25 ?_
    refine lv_iload_n hx hb d_M_tell_28 rfl (lv_at hl 2 rfl) ?_
    refine pw_iast (n := 100) (f := (a 27)) hx hb hK hP hD hS 0 (27) (by decide) rfl rfl (z 4) rfl (by have h7 := c_1; rw [show (100 : Int32) = nI 100 from rfl, nI_eq (by omega) (by decide)] at h7; omega) (by decide) d_M_tell_29 (fun cw_3 H locs ecw_3 hP hD hS => ?_)
    obtain rfl : cw_3 = MW cs th z (va_up (va_up a 26 (upd (a 26) (z 4) (x))) 27 (upd (a 27) (z 4) (y))) bk := by rw [ecw_3]; exact MW_arr 27 (by decide) (upd (a 27) (z 4) (y))
    refine lv_aload_n hx hb d_M_tell_30 rfl (lv_at hl 0 rfl) ?_
    refine lv_dup hx hb d_M_tell_31 rfl ?_
    refine pw_get (ci := 7) (v := .int (nI (z 4))) hx hb hw i_M hown hK hP (0) (by decide) rfl rfl 30 (by decide) (hw _ kF_M_104) rfl d_M_tell_32 ?_
    refine lv_iconst (v := 1) hx hb d_M_tell_35 (by decide) ?_
    refine lv_iadd hx hb d_M_tell_36 ?_
    rw [show (nI (z 4)) + 1 = nI ((z 4) + 1) from nI_1 _]
    refine pw_put (ci := 7) (v := .int (nI ((z 4) + 1))) (ty := .int) (fs' := [.int (th), .ref (bk (1)), .ref (bk (2)), .ref (bk (3)), .int (nI (z 0)), .ref (bk (4)), .ref (bk (5)), .ref (bk (6)), .ref (bk (7)), .ref (bk (8)), .ref (bk (9)), .ref (bk (10)), .ref (bk (11)), .ref (bk (12)), .ref (bk (13)), .ref (bk (14)), .ref (bk (15)), .ref (bk (16)), .ref (bk (17)), .ref (bk (18)), .ref (bk (19)), .ref (bk (20)), .int (nI (z 1)), .ref (bk (21)), .ref (bk (22)), .int (nI (z 2)), .int (nI (z 3)), .ref (bk (23)), .ref (bk (24)), .ref (bk (25)), .int (nI ((z 4) + 1)), .ref (bk (26)), .ref (bk (27))]) hx hb hw i_M t_M t_M_ok n_M hown hK hP hD hS (0) (by decide) rfl rfl 30 (by decide) (hw _ kF_M_104) rfl (t_M_ok 30 (by decide)) rfl rfl (Nat.le_of_ble_eq_true rfl) rfl d_M_tell_37 (fun cw_4 H locs ecw_4 hP hD hS => ?_)
    obtain rfl : cw_4 = MW cs th (va_up z 4 ((z 4) + 1)) (va_up (va_up a 26 (upd (a 26) (z 4) (x))) 27 (upd (a 27) (z 4) (y))) bk := by rw [ecw_4]; exact MW_obj th (va_up z 4 ((z 4) + 1))
    exact W.vret hx hb hr (fun t ht hW => ⟨⟨(28, bk, MW cs th (va_up z 4 ((z 4) + 1)) (va_up (va_up a 26 (upd (a 26) (z 4) (x))) 27 (upd (a 27) (z 4) (y))) bk), rfl, Mv_of (r := 0) (by rw [s_M_tell, if_neg c_1]), by rw [ht]; exact hP, va_K.moved hW.alike hK, hD⟩, hS.F ht⟩) hS.2.2 d_M_tell_40
  · have c_1 : (nI (z 4)) = 100 := c_1
    exact W.vret hx hb hr (fun t ht hW => ⟨⟨(28, bk, MW cs th z a bk), rfl, Mv_of (r := 0) (by rw [s_M_tell, if_pos c_1]), by rw [ht]; exact hP, va_K.moved hW.alike hK, hD⟩, hS.F ht⟩) hS.2.2 d_M_tell_9
def s_M_rule (th : Int32) (z : Nat → Nat) (a : Nat → Nat → Int32) (x : Int32) (f : Int32) (b : Int32) (mo : Int32) : MS := (if 0 ≤ x ∧ x ≤ 9 then (if 1 ≤ f ∧ f ≤ 1000 then (if 1 ≤ b ∧ b ≤ 1000 then (if 0 ≤ mo ∧ mo ≤ 9 then (1, 0, z, va_up (va_up (va_up a 1 (upd (a 1) (x).toNatClampNeg (f))) 2 (upd (a 2) (x).toNatClampNeg (b))) 3 (upd (a 3) (x).toNatClampNeg (mo))) else (-2, 0, z, a)) else (-2, 0, z, a)) else (-2, 0, z, a)) else (-1, 0, z, a))
set_option maxHeartbeats 4000000 in
set_option maxRecDepth 100000 in
theorem c_M_rule (l : Launch) (D : va_G) (cs : Nat → ClassId) (bk : Nat → Nat) (sz : Nat) (th : Int32) (z : Nat → Nat) (a : Nat → Nat → Int32) (x f b mo : Int32) : Met l y_M_rule w_M_rule ({ frames := 1, cells := 0, slots := 0, locals := 22 }) (va_Pc [.ref (bk (0)), .int (x), .int (f), .int (b), .int (mo)] (PB D classes (TY cs) 28 bk (MW cs th z a bk) sz)) (va_Qi (Mr cs bk (s_M_rule th z a x f b mo)) (Wd D classes (TY cs) (AA 28 bk sz)) (AA 28 bk sz)) 0 0 (AA 28 bk sz) := by
  refine pw_entry (cc := b_M_rule) (maxL := 5) (ret := (some .int)) (by decide +kernel) rfl (Nat.le_of_ble_eq_true rfl) ?_
  intro p_ e_ s m below_ meth_ c_ ls hx hb hr hml hts hown hlocks hin hsz hP hK hD hS hA hN hl
  have hw : ∀ w ∈ WA, w.before _ s = true := fun w h => hts w (List.mem_cons_of_mem _ h)
  have hown : s.vm.findClass "IssueRowsModel" = some m.cls := hown
  have hl : lv_has ls 5 [(0, .ref (bk (0))), (1, .int (x)), (2, .int (f)), (3, .int (b)), (4, .int (mo))] := hl
  refine lv_aload_n hx hb d_M_rule_0 rfl (lv_at hl 0 rfl) ?_
  refine lv_iconst (v := 0) hx hb d_M_rule_1 (by decide) ?_
  refine pw_put (ci := 7) (v := .int (0)) (ty := .int) (fs' := [.int (0), .ref (bk (1)), .ref (bk (2)), .ref (bk (3)), .int (nI (z 0)), .ref (bk (4)), .ref (bk (5)), .ref (bk (6)), .ref (bk (7)), .ref (bk (8)), .ref (bk (9)), .ref (bk (10)), .ref (bk (11)), .ref (bk (12)), .ref (bk (13)), .ref (bk (14)), .ref (bk (15)), .ref (bk (16)), .ref (bk (17)), .ref (bk (18)), .ref (bk (19)), .ref (bk (20)), .int (nI (z 1)), .ref (bk (21)), .ref (bk (22)), .int (nI (z 2)), .int (nI (z 3)), .ref (bk (23)), .ref (bk (24)), .ref (bk (25)), .int (nI (z 4)), .ref (bk (26)), .ref (bk (27))]) hx hb hw i_M t_M t_M_ok n_M hown hK hP hD hS (0) (by decide) rfl rfl 0 (by decide) (hw _ kF_M_92) rfl (t_M_ok 0 (by decide)) rfl rfl (Nat.le_of_ble_eq_true rfl) rfl d_M_rule_2 (fun cw_1 H locs ecw_1 hP hD hS => ?_)
  obtain rfl : cw_1 = MW cs 0 z a bk := by rw [ecw_1]; exact MW_obj 0 z
  refine lv_iload_n hx hb d_M_rule_5 rfl (lv_at hl 1 rfl) ?_
  refine lv_iconst (v := 0) hx hb d_M_rule_6 (by decide) ?_
  refine lv_bipush (v := 9) hx hb d_M_rule_7 (by decide) ?_
  refine pw_callSi (va_runS (As := [.int (x), .int (0), .int (9)]) (rest := []) ⟨hx, hb, hml, hown, hw⟩ (c_M_in l D cs bk H.size 0 z a x 0 9) (cw_S 3 hw kM_M_97 kS_M_in kZ_M kC_M_in rfl rfl ⟨rfl, by decide, by decide, by decide +kernel⟩ ⟨Nat.le_of_ble_eq_true rfl, Nat.le_of_ble_eq_true rfl⟩) (pw_preS hN hK hP hD) rfl rfl hl.1 rfl (lv_room (Nat.le_of_ble_eq_true rfl)) d_M_rule_9 ⟨Nat.le_of_ble_eq_true rfl, Nat.le_of_ble_eq_true rfl⟩) (fun r_2 hr_2 => ?_)
  have hr_2 : r_2 = bI (0 ≤ x ∧ x ≤ 9) := hr_2
  subst hr_2
  refine pw_ifne (tgt := 17) hx hb d_M_rule_12 (by decide) (fun c_3 => ?_) (fun c_3 => ?_)
  · have c_3 : 0 ≤ x ∧ x ≤ 9 := c_3
    refine lv_iload_n hx hb d_M_rule_17 rfl (lv_at hl 2 rfl) ?_
    refine lv_iconst (v := 1) hx hb d_M_rule_18 (by decide) ?_
    refine lv_sipush (v := 1000) hx hb d_M_rule_19 (by decide) ?_
    refine pw_callSi (va_runS (As := [.int (f), .int (1), .int (1000)]) (rest := []) ⟨hx, hb, hml, hown, hw⟩ (c_M_in l D cs bk H.size 0 z a f 1 1000) (cw_S 3 hw kM_M_97 kS_M_in kZ_M kC_M_in rfl rfl ⟨rfl, by decide, by decide, by decide +kernel⟩ ⟨Nat.le_of_ble_eq_true rfl, Nat.le_of_ble_eq_true rfl⟩) (pw_preS hN hK hP hD) rfl rfl hl.1 rfl (lv_room (Nat.le_of_ble_eq_true rfl)) d_M_rule_22 ⟨Nat.le_of_ble_eq_true rfl, Nat.le_of_ble_eq_true rfl⟩) (fun r_4 hr_4 => ?_)
    have hr_4 : r_4 = bI (1 ≤ f ∧ f ≤ 1000) := hr_4
    subst hr_4
    refine pw_ifeq (tgt := 50) hx hb d_M_rule_25 (by decide) (fun c_5 => ?_) (fun c_5 => ?_)
    · have c_5 : ¬ (1 ≤ f ∧ f ≤ 1000) := c_5
      refine lv_bipush (v := -2) hx hb d_M_rule_50 (by decide) ?_
      exact W.iret (v := -2) hx hb hr (fun t ht hW => ⟨⟨-2, (28, bk, MW cs 0 z a bk), rfl, Mr_of (by rw [s_M_rule, if_pos c_3, if_neg c_5]), by rw [ht]; exact hP, va_K.moved hW.alike hK, hD⟩, hS.F ht⟩) hS.2.2 d_M_rule_52
    · have c_5 : 1 ≤ f ∧ f ≤ 1000 := c_5
      refine lv_iload_n hx hb d_M_rule_28 rfl (lv_at hl 3 rfl) ?_
      refine lv_iconst (v := 1) hx hb d_M_rule_29 (by decide) ?_
      refine lv_sipush (v := 1000) hx hb d_M_rule_30 (by decide) ?_
      refine pw_callSi (va_runS (As := [.int (b), .int (1), .int (1000)]) (rest := []) ⟨hx, hb, hml, hown, hw⟩ (c_M_in l D cs bk H.size 0 z a b 1 1000) (cw_S 3 hw kM_M_97 kS_M_in kZ_M kC_M_in rfl rfl ⟨rfl, by decide, by decide, by decide +kernel⟩ ⟨Nat.le_of_ble_eq_true rfl, Nat.le_of_ble_eq_true rfl⟩) (pw_preS hN hK hP hD) rfl rfl hl.1 rfl (lv_room (Nat.le_of_ble_eq_true rfl)) d_M_rule_33 ⟨Nat.le_of_ble_eq_true rfl, Nat.le_of_ble_eq_true rfl⟩) (fun r_6 hr_6 => ?_)
      have hr_6 : r_6 = bI (1 ≤ b ∧ b ≤ 1000) := hr_6
      subst hr_6
      refine pw_ifeq (tgt := 50) hx hb d_M_rule_36 (by decide) (fun c_7 => ?_) (fun c_7 => ?_)
      · have c_7 : ¬ (1 ≤ b ∧ b ≤ 1000) := c_7
        refine lv_bipush (v := -2) hx hb d_M_rule_50 (by decide) ?_
        exact W.iret (v := -2) hx hb hr (fun t ht hW => ⟨⟨-2, (28, bk, MW cs 0 z a bk), rfl, Mr_of (by rw [s_M_rule, if_pos c_3, if_pos c_5, if_neg c_7]), by rw [ht]; exact hP, va_K.moved hW.alike hK, hD⟩, hS.F ht⟩) hS.2.2 d_M_rule_52
      · have c_7 : 1 ≤ b ∧ b ≤ 1000 := c_7
        refine lv_iload hx hb d_M_rule_39 (lv_at hl 4 rfl) ?_
        refine lv_iconst (v := 0) hx hb d_M_rule_41 (by decide) ?_
        refine lv_bipush (v := 9) hx hb d_M_rule_42 (by decide) ?_
        refine pw_callSi (va_runS (As := [.int (mo), .int (0), .int (9)]) (rest := []) ⟨hx, hb, hml, hown, hw⟩ (c_M_in l D cs bk H.size 0 z a mo 0 9) (cw_S 3 hw kM_M_97 kS_M_in kZ_M kC_M_in rfl rfl ⟨rfl, by decide, by decide, by decide +kernel⟩ ⟨Nat.le_of_ble_eq_true rfl, Nat.le_of_ble_eq_true rfl⟩) (pw_preS hN hK hP hD) rfl rfl hl.1 rfl (lv_room (Nat.le_of_ble_eq_true rfl)) d_M_rule_44 ⟨Nat.le_of_ble_eq_true rfl, Nat.le_of_ble_eq_true rfl⟩) (fun r_8 hr_8 => ?_)
        have hr_8 : r_8 = bI (0 ≤ mo ∧ mo ≤ 9) := hr_8
        subst hr_8
        refine pw_ifne (tgt := 53) hx hb d_M_rule_47 (by decide) (fun c_9 => ?_) (fun c_9 => ?_)
        · have c_9 : 0 ≤ mo ∧ mo ≤ 9 := c_9
          refine lv_aload_n hx hb d_M_rule_53 rfl (lv_at hl 0 rfl) ?_
          refine pw_get (ci := 7) (v := .ref (bk (1))) hx hb hw i_M hown hK hP (0) (by decide) rfl rfl 1 (by decide) (hw _ kF_M_7) rfl d_M_rule_54 ?_
          refine lv_iload_n hx hb d_M_rule_57 rfl (lv_at hl 1 rfl) ?_
          refine lv_iload_n hx hb d_M_rule_58 rfl (lv_at hl 2 rfl) ?_
          refine pw_iastC (n := 10) (f := (a 1)) hx hb hK hP hD hS 0 (1) (by decide) rfl rfl (vp_in_iff.mpr (by have h7 := c_3; simp only [Int32.lt_iff_toInt_lt, Int32.le_iff_toInt_le, ← Int32.toInt_inj, T0, T1, T2, T3, T4, T5, T6, T7, T8, T9, T10, T40, T50, T99, T100, T200, T999, T1000, T9999, T1000000, T10000000, T1000000000, Tm1] at h7 ⊢; omega)) d_M_rule_59 (fun cw_10 H locs ecw_10 hP hD hS => ?_)
          obtain rfl : cw_10 = MW cs 0 z (va_up a 1 (upd (a 1) (x).toNatClampNeg (f))) bk := by rw [ecw_10]; exact MW_arr 1 (by decide) (upd (a 1) (x).toNatClampNeg (f))
          refine lv_aload_n hx hb d_M_rule_60 rfl (lv_at hl 0 rfl) ?_
          refine pw_get (ci := 7) (v := .ref (bk (2))) hx hb hw i_M hown hK hP (0) (by decide) rfl rfl 2 (by decide) (hw _ kF_M_13) rfl d_M_rule_61 ?_
          refine lv_iload_n hx hb d_M_rule_64 rfl (lv_at hl 1 rfl) ?_
          refine lv_iload_n hx hb d_M_rule_65 rfl (lv_at hl 3 rfl) ?_
          refine pw_iastC (n := 10) (f := (a 2)) hx hb hK hP hD hS 0 (2) (by decide) rfl rfl (vp_in_iff.mpr (by have h7 := c_3; simp only [Int32.lt_iff_toInt_lt, Int32.le_iff_toInt_le, ← Int32.toInt_inj, T0, T1, T2, T3, T4, T5, T6, T7, T8, T9, T10, T40, T50, T99, T100, T200, T999, T1000, T9999, T1000000, T10000000, T1000000000, Tm1] at h7 ⊢; omega)) d_M_rule_66 (fun cw_11 H locs ecw_11 hP hD hS => ?_)
          obtain rfl : cw_11 = MW cs 0 z (va_up (va_up a 1 (upd (a 1) (x).toNatClampNeg (f))) 2 (upd (a 2) (x).toNatClampNeg (b))) bk := by rw [ecw_11]; exact MW_arr 2 (by decide) (upd (a 2) (x).toNatClampNeg (b))
          refine lv_aload_n hx hb d_M_rule_67 rfl (lv_at hl 0 rfl) ?_
          refine pw_get (ci := 7) (v := .ref (bk (3))) hx hb hw i_M hown hK hP (0) (by decide) rfl rfl 3 (by decide) (hw _ kF_M_16) rfl d_M_rule_68 ?_
          refine lv_iload_n hx hb d_M_rule_71 rfl (lv_at hl 1 rfl) ?_
          refine lv_iload hx hb d_M_rule_72 (lv_at hl 4 rfl) ?_
          refine pw_iastC (n := 10) (f := (a 3)) hx hb hK hP hD hS 0 (3) (by decide) rfl rfl (vp_in_iff.mpr (by have h7 := c_3; simp only [Int32.lt_iff_toInt_lt, Int32.le_iff_toInt_le, ← Int32.toInt_inj, T0, T1, T2, T3, T4, T5, T6, T7, T8, T9, T10, T40, T50, T99, T100, T200, T999, T1000, T9999, T1000000, T10000000, T1000000000, Tm1] at h7 ⊢; omega)) d_M_rule_74 (fun cw_12 H locs ecw_12 hP hD hS => ?_)
          obtain rfl : cw_12 = MW cs 0 z (va_up (va_up (va_up a 1 (upd (a 1) (x).toNatClampNeg (f))) 2 (upd (a 2) (x).toNatClampNeg (b))) 3 (upd (a 3) (x).toNatClampNeg (mo))) bk := by rw [ecw_12]; exact MW_arr 3 (by decide) (upd (a 3) (x).toNatClampNeg (mo))
          refine lv_iconst (v := 1) hx hb d_M_rule_75 (by decide) ?_
          exact W.iret (v := 1) hx hb hr (fun t ht hW => ⟨⟨1, (28, bk, MW cs 0 z (va_up (va_up (va_up a 1 (upd (a 1) (x).toNatClampNeg (f))) 2 (upd (a 2) (x).toNatClampNeg (b))) 3 (upd (a 3) (x).toNatClampNeg (mo))) bk), rfl, Mr_of (by rw [s_M_rule, if_pos c_3, if_pos c_5, if_pos c_7, if_pos c_9]), by rw [ht]; exact hP, va_K.moved hW.alike hK, hD⟩, hS.F ht⟩) hS.2.2 d_M_rule_76
        · have c_9 : ¬ (0 ≤ mo ∧ mo ≤ 9) := c_9
          refine lv_bipush (v := -2) hx hb d_M_rule_50 (by decide) ?_
          exact W.iret (v := -2) hx hb hr (fun t ht hW => ⟨⟨-2, (28, bk, MW cs 0 z a bk), rfl, Mr_of (by rw [s_M_rule, if_pos c_3, if_pos c_5, if_pos c_7, if_neg c_9]), by rw [ht]; exact hP, va_K.moved hW.alike hK, hD⟩, hS.F ht⟩) hS.2.2 d_M_rule_52
  · have c_3 : ¬ (0 ≤ x ∧ x ≤ 9) := c_3
    refine lv_iconst (v := -1) hx hb d_M_rule_15 (by decide) ?_
    exact W.iret (v := -1) hx hb hr (fun t ht hW => ⟨⟨-1, (28, bk, MW cs 0 z a bk), rfl, Mr_of (by rw [s_M_rule, if_neg c_3]), by rw [ht]; exact hP, va_K.moved hW.alike hK, hD⟩, hS.F ht⟩) hS.2.2 d_M_rule_16
def s_M_checkIn_out (th : Int32) (z : Nat → Nat) (a : Nat → Nat → Int32) (x : Int32) (many : Int32) (day : Int32) : MS := (-1, 0, z, a)
set_option maxHeartbeats 4000000 in
set_option maxRecDepth 100000 in
theorem c_M_checkIn_out (l : Launch) (D : va_G) (cs : Nat → ClassId) (bk : Nat → Nat) (sz : Nat) (th : Int32) (z : Nat → Nat) (a : Nat → Nat → Int32) (hz : z 0 ≤ 200) (x : Int32) (ho : ¬ (0 ≤ x ∧ x < nI (z 0))) (many day : Int32) : Met l y_M_checkIn w_M_checkIn ({ frames := 2, cells := 0, slots := 0, locals := 43 }) (va_Pc [.ref (bk (0)), .int (x), .int (many), .int (day)] (PB D classes (TY cs) 28 bk (MW cs th z a bk) sz)) (va_Qi (Mr cs bk (s_M_checkIn_out th z a x many day)) (Wd D classes (TY cs) (AA 28 bk sz)) (AA 28 bk sz)) 0 0 (AA 28 bk sz) := by
  refine pw_entry (cc := b_M_checkIn) (maxL := 5) (ret := (some .int)) (by decide +kernel) rfl (Nat.le_of_ble_eq_true rfl) ?_
  intro p_ e_ s m below_ meth_ c_ ls hx hb hr hml hts hown hlocks hin hsz hP hK hD hS hA hN hl
  have hw : ∀ w ∈ WA, w.before _ s = true := fun w h => hts w (List.mem_cons_of_mem _ h)
  have hown : s.vm.findClass "IssueRowsModel" = some m.cls := hown
  have hl : lv_has ls 5 [(0, .ref (bk (0))), (1, .int (x)), (2, .int (many)), (3, .int (day))] := hl
  refine lv_aload_n hx hb d_M_checkIn_0 rfl (lv_at hl 0 rfl) ?_
  refine lv_iconst (v := 0) hx hb d_M_checkIn_1 (by decide) ?_
  refine pw_put (ci := 7) (v := .int (0)) (ty := .int) (fs' := [.int (0), .ref (bk (1)), .ref (bk (2)), .ref (bk (3)), .int (nI (z 0)), .ref (bk (4)), .ref (bk (5)), .ref (bk (6)), .ref (bk (7)), .ref (bk (8)), .ref (bk (9)), .ref (bk (10)), .ref (bk (11)), .ref (bk (12)), .ref (bk (13)), .ref (bk (14)), .ref (bk (15)), .ref (bk (16)), .ref (bk (17)), .ref (bk (18)), .ref (bk (19)), .ref (bk (20)), .int (nI (z 1)), .ref (bk (21)), .ref (bk (22)), .int (nI (z 2)), .int (nI (z 3)), .ref (bk (23)), .ref (bk (24)), .ref (bk (25)), .int (nI (z 4)), .ref (bk (26)), .ref (bk (27))]) hx hb hw i_M t_M t_M_ok n_M hown hK hP hD hS (0) (by decide) rfl rfl 0 (by decide) (hw _ kF_M_92) rfl (t_M_ok 0 (by decide)) rfl rfl (Nat.le_of_ble_eq_true rfl) rfl d_M_checkIn_2 (fun cw_1 H locs ecw_1 hP hD hS => ?_)
  obtain rfl : cw_1 = MW cs 0 z a bk := by rw [ecw_1]; exact MW_obj 0 z
  refine lv_aload_n hx hb d_M_checkIn_5 rfl (lv_at hl 0 rfl) ?_
  refine lv_iload_n hx hb d_M_checkIn_6 rfl (lv_at hl 1 rfl) ?_
  refine pw_callSi (va_runV (As := [.int (x)]) (rest := []) ⟨hx, hb, hml, hown, hw⟩ (c_M_isIssue l D cs bk H.size 0 z a hz x) (cw_V 1 hw kM_M_115 kI_M_isIssue kV_M_isIssue kZ_M kC_M_isIssue rfl rfl ⟨rfl, by decide, by decide, by decide +kernel⟩ ⟨Nat.le_of_ble_eq_true rfl, Nat.le_of_ble_eq_true rfl⟩) (pw_preV hN hK hP hD (0) (by decide) rfl rfl) rfl rfl hl.1 rfl (lv_room (Nat.le_of_ble_eq_true rfl)) d_M_checkIn_7 ⟨Nat.le_of_ble_eq_true rfl, Nat.le_of_ble_eq_true rfl⟩) (fun r_2 hr_2 => ?_)
  have hr_2 : r_2 = bI (0 ≤ x ∧ x < nI (z 0)) := hr_2
  subst hr_2
  refine pw_ifne (tgt := 15) hx hb d_M_checkIn_10 (by decide) (fun c_3 => ?_) (fun c_3 => ?_)
  · have c_3 : 0 ≤ x ∧ x < nI (z 0) := c_3
    exact absurd c_3 ho
  · have c_3 : ¬ (0 ≤ x ∧ x < nI (z 0)) := c_3
    refine lv_iconst (v := -1) hx hb d_M_checkIn_13 (by decide) ?_
    exact W.iret (v := -1) hx hb hr (fun t ht hW => ⟨⟨-1, (28, bk, MW cs 0 z a bk), rfl, Mr_of (by rw [s_M_checkIn_out]), by rw [ht]; exact hP, va_K.moved hW.alike hK, hD⟩, hS.F ht⟩) hS.2.2 d_M_checkIn_14
def s_M_checkIn (th : Int32) (z : Nat → Nat) (a : Nat → Nat → Int32) (j : Nat) (many : Int32) (day : Int32) : MS := (if 1 ≤ many ∧ many ≤ 99 then (if 0 ≤ day ∧ day ≤ 1000000 then (if ((a 6) (j)) = 0 then (if ((a 6) (j)) = 0 then (if ((a 6) (j)) = 0 then (0, (s_M_tell 0 z (va_up (va_up (va_up a 6 (upd (a 6) (j) (3))) 10 (upd (a 10) (j) (many))) 11 (upd (a 11) (j) (day))) 1 (nI j)).2.1, (s_M_tell 0 z (va_up (va_up (va_up a 6 (upd (a 6) (j) (3))) 10 (upd (a 10) (j) (many))) 11 (upd (a 11) (j) (day))) 1 (nI j)).2.2.1, (s_M_tell 0 z (va_up (va_up (va_up a 6 (upd (a 6) (j) (3))) 10 (upd (a 10) (j) (many))) 11 (upd (a 11) (j) (day))) 1 (nI j)).2.2.2) else (1, (s_M_tell 0 z (va_up (va_up (va_up a 6 (upd (a 6) (j) (3))) 10 (upd (a 10) (j) (many))) 11 (upd (a 11) (j) (day))) 1 (nI j)).2.1, (s_M_tell 0 z (va_up (va_up (va_up a 6 (upd (a 6) (j) (3))) 10 (upd (a 10) (j) (many))) 11 (upd (a 11) (j) (day))) 1 (nI j)).2.2.1, (s_M_tell 0 z (va_up (va_up (va_up a 6 (upd (a 6) (j) (3))) 10 (upd (a 10) (j) (many))) 11 (upd (a 11) (j) (day))) 1 (nI j)).2.2.2)) else (if ((a 6) (j)) = 4 then (if ((a 6) (j)) = 0 then (0, (s_M_tell 0 z (va_up (va_up (va_up a 6 (upd (a 6) (j) (3))) 10 (upd (a 10) (j) (many))) 11 (upd (a 11) (j) (day))) 2 (nI j)).2.1, (s_M_tell 0 z (va_up (va_up (va_up a 6 (upd (a 6) (j) (3))) 10 (upd (a 10) (j) (many))) 11 (upd (a 11) (j) (day))) 2 (nI j)).2.2.1, (s_M_tell 0 z (va_up (va_up (va_up a 6 (upd (a 6) (j) (3))) 10 (upd (a 10) (j) (many))) 11 (upd (a 11) (j) (day))) 2 (nI j)).2.2.2) else (1, (s_M_tell 0 z (va_up (va_up (va_up a 6 (upd (a 6) (j) (3))) 10 (upd (a 10) (j) (many))) 11 (upd (a 11) (j) (day))) 2 (nI j)).2.1, (s_M_tell 0 z (va_up (va_up (va_up a 6 (upd (a 6) (j) (3))) 10 (upd (a 10) (j) (many))) 11 (upd (a 11) (j) (day))) 2 (nI j)).2.2.1, (s_M_tell 0 z (va_up (va_up (va_up a 6 (upd (a 6) (j) (3))) 10 (upd (a 10) (j) (many))) 11 (upd (a 11) (j) (day))) 2 (nI j)).2.2.2)) else (if day ≤ ((a 7) (j)) then (if ((a 6) (j)) = 0 then (0, 0, z, va_up (va_up (va_up a 6 (upd (a 6) (j) (3))) 10 (upd (a 10) (j) (many))) 11 (upd (a 11) (j) (day))) else (1, 0, z, va_up (va_up (va_up a 6 (upd (a 6) (j) (3))) 10 (upd (a 10) (j) (many))) 11 (upd (a 11) (j) (day)))) else (if ((a 6) (j)) = 0 then (0, (s_M_tell 0 z (va_up (va_up (va_up a 6 (upd (a 6) (j) (3))) 10 (upd (a 10) (j) (many))) 11 (upd (a 11) (j) (day))) 2 (nI j)).2.1, (s_M_tell 0 z (va_up (va_up (va_up a 6 (upd (a 6) (j) (3))) 10 (upd (a 10) (j) (many))) 11 (upd (a 11) (j) (day))) 2 (nI j)).2.2.1, (s_M_tell 0 z (va_up (va_up (va_up a 6 (upd (a 6) (j) (3))) 10 (upd (a 10) (j) (many))) 11 (upd (a 11) (j) (day))) 2 (nI j)).2.2.2) else (1, (s_M_tell 0 z (va_up (va_up (va_up a 6 (upd (a 6) (j) (3))) 10 (upd (a 10) (j) (many))) 11 (upd (a 11) (j) (day))) 2 (nI j)).2.1, (s_M_tell 0 z (va_up (va_up (va_up a 6 (upd (a 6) (j) (3))) 10 (upd (a 10) (j) (many))) 11 (upd (a 11) (j) (day))) 2 (nI j)).2.2.1, (s_M_tell 0 z (va_up (va_up (va_up a 6 (upd (a 6) (j) (3))) 10 (upd (a 10) (j) (many))) 11 (upd (a 11) (j) (day))) 2 (nI j)).2.2.2))))) else (if ((a 6) (j)) = 1 then (if ((a 6) (j)) = 0 then (if ((a 6) (j)) = 0 then (0, (s_M_tell 0 z (va_up (va_up (va_up a 6 (upd (a 6) (j) (3))) 10 (upd (a 10) (j) (many))) 11 (upd (a 11) (j) (day))) 1 (nI j)).2.1, (s_M_tell 0 z (va_up (va_up (va_up a 6 (upd (a 6) (j) (3))) 10 (upd (a 10) (j) (many))) 11 (upd (a 11) (j) (day))) 1 (nI j)).2.2.1, (s_M_tell 0 z (va_up (va_up (va_up a 6 (upd (a 6) (j) (3))) 10 (upd (a 10) (j) (many))) 11 (upd (a 11) (j) (day))) 1 (nI j)).2.2.2) else (1, (s_M_tell 0 z (va_up (va_up (va_up a 6 (upd (a 6) (j) (3))) 10 (upd (a 10) (j) (many))) 11 (upd (a 11) (j) (day))) 1 (nI j)).2.1, (s_M_tell 0 z (va_up (va_up (va_up a 6 (upd (a 6) (j) (3))) 10 (upd (a 10) (j) (many))) 11 (upd (a 11) (j) (day))) 1 (nI j)).2.2.1, (s_M_tell 0 z (va_up (va_up (va_up a 6 (upd (a 6) (j) (3))) 10 (upd (a 10) (j) (many))) 11 (upd (a 11) (j) (day))) 1 (nI j)).2.2.2)) else (if ((a 6) (j)) = 4 then (if ((a 6) (j)) = 0 then (0, (s_M_tell 0 z (va_up (va_up (va_up a 6 (upd (a 6) (j) (3))) 10 (upd (a 10) (j) (many))) 11 (upd (a 11) (j) (day))) 2 (nI j)).2.1, (s_M_tell 0 z (va_up (va_up (va_up a 6 (upd (a 6) (j) (3))) 10 (upd (a 10) (j) (many))) 11 (upd (a 11) (j) (day))) 2 (nI j)).2.2.1, (s_M_tell 0 z (va_up (va_up (va_up a 6 (upd (a 6) (j) (3))) 10 (upd (a 10) (j) (many))) 11 (upd (a 11) (j) (day))) 2 (nI j)).2.2.2) else (1, (s_M_tell 0 z (va_up (va_up (va_up a 6 (upd (a 6) (j) (3))) 10 (upd (a 10) (j) (many))) 11 (upd (a 11) (j) (day))) 2 (nI j)).2.1, (s_M_tell 0 z (va_up (va_up (va_up a 6 (upd (a 6) (j) (3))) 10 (upd (a 10) (j) (many))) 11 (upd (a 11) (j) (day))) 2 (nI j)).2.2.1, (s_M_tell 0 z (va_up (va_up (va_up a 6 (upd (a 6) (j) (3))) 10 (upd (a 10) (j) (many))) 11 (upd (a 11) (j) (day))) 2 (nI j)).2.2.2)) else (if day ≤ ((a 7) (j)) then (if ((a 6) (j)) = 0 then (0, 0, z, va_up (va_up (va_up a 6 (upd (a 6) (j) (3))) 10 (upd (a 10) (j) (many))) 11 (upd (a 11) (j) (day))) else (1, 0, z, va_up (va_up (va_up a 6 (upd (a 6) (j) (3))) 10 (upd (a 10) (j) (many))) 11 (upd (a 11) (j) (day)))) else (if ((a 6) (j)) = 0 then (0, (s_M_tell 0 z (va_up (va_up (va_up a 6 (upd (a 6) (j) (3))) 10 (upd (a 10) (j) (many))) 11 (upd (a 11) (j) (day))) 2 (nI j)).2.1, (s_M_tell 0 z (va_up (va_up (va_up a 6 (upd (a 6) (j) (3))) 10 (upd (a 10) (j) (many))) 11 (upd (a 11) (j) (day))) 2 (nI j)).2.2.1, (s_M_tell 0 z (va_up (va_up (va_up a 6 (upd (a 6) (j) (3))) 10 (upd (a 10) (j) (many))) 11 (upd (a 11) (j) (day))) 2 (nI j)).2.2.2) else (1, (s_M_tell 0 z (va_up (va_up (va_up a 6 (upd (a 6) (j) (3))) 10 (upd (a 10) (j) (many))) 11 (upd (a 11) (j) (day))) 2 (nI j)).2.1, (s_M_tell 0 z (va_up (va_up (va_up a 6 (upd (a 6) (j) (3))) 10 (upd (a 10) (j) (many))) 11 (upd (a 11) (j) (day))) 2 (nI j)).2.2.1, (s_M_tell 0 z (va_up (va_up (va_up a 6 (upd (a 6) (j) (3))) 10 (upd (a 10) (j) (many))) 11 (upd (a 11) (j) (day))) 2 (nI j)).2.2.2))))) else (if ((a 6) (j)) = 2 then (if ((a 6) (j)) = 0 then (if ((a 6) (j)) = 0 then (0, (s_M_tell 0 z (va_up (va_up (va_up a 6 (upd (a 6) (j) (3))) 10 (upd (a 10) (j) (many))) 11 (upd (a 11) (j) (day))) 1 (nI j)).2.1, (s_M_tell 0 z (va_up (va_up (va_up a 6 (upd (a 6) (j) (3))) 10 (upd (a 10) (j) (many))) 11 (upd (a 11) (j) (day))) 1 (nI j)).2.2.1, (s_M_tell 0 z (va_up (va_up (va_up a 6 (upd (a 6) (j) (3))) 10 (upd (a 10) (j) (many))) 11 (upd (a 11) (j) (day))) 1 (nI j)).2.2.2) else (1, (s_M_tell 0 z (va_up (va_up (va_up a 6 (upd (a 6) (j) (3))) 10 (upd (a 10) (j) (many))) 11 (upd (a 11) (j) (day))) 1 (nI j)).2.1, (s_M_tell 0 z (va_up (va_up (va_up a 6 (upd (a 6) (j) (3))) 10 (upd (a 10) (j) (many))) 11 (upd (a 11) (j) (day))) 1 (nI j)).2.2.1, (s_M_tell 0 z (va_up (va_up (va_up a 6 (upd (a 6) (j) (3))) 10 (upd (a 10) (j) (many))) 11 (upd (a 11) (j) (day))) 1 (nI j)).2.2.2)) else (if ((a 6) (j)) = 4 then (if ((a 6) (j)) = 0 then (0, (s_M_tell 0 z (va_up (va_up (va_up a 6 (upd (a 6) (j) (3))) 10 (upd (a 10) (j) (many))) 11 (upd (a 11) (j) (day))) 2 (nI j)).2.1, (s_M_tell 0 z (va_up (va_up (va_up a 6 (upd (a 6) (j) (3))) 10 (upd (a 10) (j) (many))) 11 (upd (a 11) (j) (day))) 2 (nI j)).2.2.1, (s_M_tell 0 z (va_up (va_up (va_up a 6 (upd (a 6) (j) (3))) 10 (upd (a 10) (j) (many))) 11 (upd (a 11) (j) (day))) 2 (nI j)).2.2.2) else (1, (s_M_tell 0 z (va_up (va_up (va_up a 6 (upd (a 6) (j) (3))) 10 (upd (a 10) (j) (many))) 11 (upd (a 11) (j) (day))) 2 (nI j)).2.1, (s_M_tell 0 z (va_up (va_up (va_up a 6 (upd (a 6) (j) (3))) 10 (upd (a 10) (j) (many))) 11 (upd (a 11) (j) (day))) 2 (nI j)).2.2.1, (s_M_tell 0 z (va_up (va_up (va_up a 6 (upd (a 6) (j) (3))) 10 (upd (a 10) (j) (many))) 11 (upd (a 11) (j) (day))) 2 (nI j)).2.2.2)) else (if day ≤ ((a 7) (j)) then (if ((a 6) (j)) = 0 then (0, 0, z, va_up (va_up (va_up a 6 (upd (a 6) (j) (3))) 10 (upd (a 10) (j) (many))) 11 (upd (a 11) (j) (day))) else (1, 0, z, va_up (va_up (va_up a 6 (upd (a 6) (j) (3))) 10 (upd (a 10) (j) (many))) 11 (upd (a 11) (j) (day)))) else (if ((a 6) (j)) = 0 then (0, (s_M_tell 0 z (va_up (va_up (va_up a 6 (upd (a 6) (j) (3))) 10 (upd (a 10) (j) (many))) 11 (upd (a 11) (j) (day))) 2 (nI j)).2.1, (s_M_tell 0 z (va_up (va_up (va_up a 6 (upd (a 6) (j) (3))) 10 (upd (a 10) (j) (many))) 11 (upd (a 11) (j) (day))) 2 (nI j)).2.2.1, (s_M_tell 0 z (va_up (va_up (va_up a 6 (upd (a 6) (j) (3))) 10 (upd (a 10) (j) (many))) 11 (upd (a 11) (j) (day))) 2 (nI j)).2.2.2) else (1, (s_M_tell 0 z (va_up (va_up (va_up a 6 (upd (a 6) (j) (3))) 10 (upd (a 10) (j) (many))) 11 (upd (a 11) (j) (day))) 2 (nI j)).2.1, (s_M_tell 0 z (va_up (va_up (va_up a 6 (upd (a 6) (j) (3))) 10 (upd (a 10) (j) (many))) 11 (upd (a 11) (j) (day))) 2 (nI j)).2.2.1, (s_M_tell 0 z (va_up (va_up (va_up a 6 (upd (a 6) (j) (3))) 10 (upd (a 10) (j) (many))) 11 (upd (a 11) (j) (day))) 2 (nI j)).2.2.2))))) else (if ((a 6) (j)) = 4 then (if ((a 6) (j)) = 0 then (if ((a 6) (j)) = 0 then (0, (s_M_tell 0 z (va_up (va_up (va_up a 6 (upd (a 6) (j) (3))) 10 (upd (a 10) (j) (many))) 11 (upd (a 11) (j) (day))) 1 (nI j)).2.1, (s_M_tell 0 z (va_up (va_up (va_up a 6 (upd (a 6) (j) (3))) 10 (upd (a 10) (j) (many))) 11 (upd (a 11) (j) (day))) 1 (nI j)).2.2.1, (s_M_tell 0 z (va_up (va_up (va_up a 6 (upd (a 6) (j) (3))) 10 (upd (a 10) (j) (many))) 11 (upd (a 11) (j) (day))) 1 (nI j)).2.2.2) else (1, (s_M_tell 0 z (va_up (va_up (va_up a 6 (upd (a 6) (j) (3))) 10 (upd (a 10) (j) (many))) 11 (upd (a 11) (j) (day))) 1 (nI j)).2.1, (s_M_tell 0 z (va_up (va_up (va_up a 6 (upd (a 6) (j) (3))) 10 (upd (a 10) (j) (many))) 11 (upd (a 11) (j) (day))) 1 (nI j)).2.2.1, (s_M_tell 0 z (va_up (va_up (va_up a 6 (upd (a 6) (j) (3))) 10 (upd (a 10) (j) (many))) 11 (upd (a 11) (j) (day))) 1 (nI j)).2.2.2)) else (if ((a 6) (j)) = 4 then (if ((a 6) (j)) = 0 then (0, (s_M_tell 0 z (va_up (va_up (va_up a 6 (upd (a 6) (j) (3))) 10 (upd (a 10) (j) (many))) 11 (upd (a 11) (j) (day))) 2 (nI j)).2.1, (s_M_tell 0 z (va_up (va_up (va_up a 6 (upd (a 6) (j) (3))) 10 (upd (a 10) (j) (many))) 11 (upd (a 11) (j) (day))) 2 (nI j)).2.2.1, (s_M_tell 0 z (va_up (va_up (va_up a 6 (upd (a 6) (j) (3))) 10 (upd (a 10) (j) (many))) 11 (upd (a 11) (j) (day))) 2 (nI j)).2.2.2) else (1, (s_M_tell 0 z (va_up (va_up (va_up a 6 (upd (a 6) (j) (3))) 10 (upd (a 10) (j) (many))) 11 (upd (a 11) (j) (day))) 2 (nI j)).2.1, (s_M_tell 0 z (va_up (va_up (va_up a 6 (upd (a 6) (j) (3))) 10 (upd (a 10) (j) (many))) 11 (upd (a 11) (j) (day))) 2 (nI j)).2.2.1, (s_M_tell 0 z (va_up (va_up (va_up a 6 (upd (a 6) (j) (3))) 10 (upd (a 10) (j) (many))) 11 (upd (a 11) (j) (day))) 2 (nI j)).2.2.2)) else (if day ≤ ((a 7) (j)) then (if ((a 6) (j)) = 0 then (0, 0, z, va_up (va_up (va_up a 6 (upd (a 6) (j) (3))) 10 (upd (a 10) (j) (many))) 11 (upd (a 11) (j) (day))) else (1, 0, z, va_up (va_up (va_up a 6 (upd (a 6) (j) (3))) 10 (upd (a 10) (j) (many))) 11 (upd (a 11) (j) (day)))) else (if ((a 6) (j)) = 0 then (0, (s_M_tell 0 z (va_up (va_up (va_up a 6 (upd (a 6) (j) (3))) 10 (upd (a 10) (j) (many))) 11 (upd (a 11) (j) (day))) 2 (nI j)).2.1, (s_M_tell 0 z (va_up (va_up (va_up a 6 (upd (a 6) (j) (3))) 10 (upd (a 10) (j) (many))) 11 (upd (a 11) (j) (day))) 2 (nI j)).2.2.1, (s_M_tell 0 z (va_up (va_up (va_up a 6 (upd (a 6) (j) (3))) 10 (upd (a 10) (j) (many))) 11 (upd (a 11) (j) (day))) 2 (nI j)).2.2.2) else (1, (s_M_tell 0 z (va_up (va_up (va_up a 6 (upd (a 6) (j) (3))) 10 (upd (a 10) (j) (many))) 11 (upd (a 11) (j) (day))) 2 (nI j)).2.1, (s_M_tell 0 z (va_up (va_up (va_up a 6 (upd (a 6) (j) (3))) 10 (upd (a 10) (j) (many))) 11 (upd (a 11) (j) (day))) 2 (nI j)).2.2.1, (s_M_tell 0 z (va_up (va_up (va_up a 6 (upd (a 6) (j) (3))) 10 (upd (a 10) (j) (many))) 11 (upd (a 11) (j) (day))) 2 (nI j)).2.2.2))))) else (-3, 0, z, a))))) else (-2, 0, z, a)) else (-2, 0, z, a))
set_option maxHeartbeats 4000000 in
set_option maxRecDepth 100000 in
theorem c_M_checkIn (l : Launch) (D : va_G) (cs : Nat → ClassId) (bk : Nat → Nat) (sz : Nat) (th : Int32) (z : Nat → Nat) (a : Nat → Nat → Int32) (hz : z 0 ≤ 200) (j : Nat) (hj : j < z 0) (hz4 : z 4 ≤ 100) (many day : Int32) : Met l y_M_checkIn w_M_checkIn ({ frames := 2, cells := 0, slots := 0, locals := 43 }) (va_Pc [.ref (bk (0)), .int (nI j), .int (many), .int (day)] (PB D classes (TY cs) 28 bk (MW cs th z a bk) sz)) (va_Qi (Mr cs bk (s_M_checkIn th z a j many day)) (Wd D classes (TY cs) (AA 28 bk sz)) (AA 28 bk sz)) 0 0 (AA 28 bk sz) := by
  refine pw_entry (cc := b_M_checkIn) (maxL := 5) (ret := (some .int)) (by decide +kernel) rfl (Nat.le_of_ble_eq_true rfl) ?_
  intro p_ e_ s m below_ meth_ c_ ls hx hb hr hml hts hown hlocks hin hsz hP hK hD hS hA hN hl
  have hw : ∀ w ∈ WA, w.before _ s = true := fun w h => hts w (List.mem_cons_of_mem _ h)
  have hown : s.vm.findClass "IssueRowsModel" = some m.cls := hown
  have hl : lv_has ls 5 [(0, .ref (bk (0))), (1, .int (nI j)), (2, .int (many)), (3, .int (day))] := hl
  refine lv_aload_n hx hb d_M_checkIn_0 rfl (lv_at hl 0 rfl) ?_
  refine lv_iconst (v := 0) hx hb d_M_checkIn_1 (by decide) ?_
  refine pw_put (ci := 7) (v := .int (0)) (ty := .int) (fs' := [.int (0), .ref (bk (1)), .ref (bk (2)), .ref (bk (3)), .int (nI (z 0)), .ref (bk (4)), .ref (bk (5)), .ref (bk (6)), .ref (bk (7)), .ref (bk (8)), .ref (bk (9)), .ref (bk (10)), .ref (bk (11)), .ref (bk (12)), .ref (bk (13)), .ref (bk (14)), .ref (bk (15)), .ref (bk (16)), .ref (bk (17)), .ref (bk (18)), .ref (bk (19)), .ref (bk (20)), .int (nI (z 1)), .ref (bk (21)), .ref (bk (22)), .int (nI (z 2)), .int (nI (z 3)), .ref (bk (23)), .ref (bk (24)), .ref (bk (25)), .int (nI (z 4)), .ref (bk (26)), .ref (bk (27))]) hx hb hw i_M t_M t_M_ok n_M hown hK hP hD hS (0) (by decide) rfl rfl 0 (by decide) (hw _ kF_M_92) rfl (t_M_ok 0 (by decide)) rfl rfl (Nat.le_of_ble_eq_true rfl) rfl d_M_checkIn_2 (fun cw_1 H locs ecw_1 hP hD hS => ?_)
  obtain rfl : cw_1 = MW cs 0 z a bk := by rw [ecw_1]; exact MW_obj 0 z
  refine lv_aload_n hx hb d_M_checkIn_5 rfl (lv_at hl 0 rfl) ?_
  refine lv_iload_n hx hb d_M_checkIn_6 rfl (lv_at hl 1 rfl) ?_
  refine pw_callSi (va_runV (As := [.int (nI j)]) (rest := []) ⟨hx, hb, hml, hown, hw⟩ (c_M_isIssue l D cs bk H.size 0 z a hz (nI j)) (cw_V 1 hw kM_M_115 kI_M_isIssue kV_M_isIssue kZ_M kC_M_isIssue rfl rfl ⟨rfl, by decide, by decide, by decide +kernel⟩ ⟨Nat.le_of_ble_eq_true rfl, Nat.le_of_ble_eq_true rfl⟩) (pw_preV hN hK hP hD (0) (by decide) rfl rfl) rfl rfl hl.1 rfl (lv_room (Nat.le_of_ble_eq_true rfl)) d_M_checkIn_7 ⟨Nat.le_of_ble_eq_true rfl, Nat.le_of_ble_eq_true rfl⟩) (fun r_2 hr_2 => ?_)
  have hr_2 : r_2 = bI (0 ≤ (nI j) ∧ (nI j) < nI (z 0)) := hr_2
  subst hr_2
  refine pw_ifne (tgt := 15) hx hb d_M_checkIn_10 (by decide) (fun c_3 => ?_) (fun c_3 => ?_)
  · have c_3 : 0 ≤ (nI j) ∧ (nI j) < nI (z 0) := c_3
    refine lv_iload_n hx hb d_M_checkIn_15 rfl (lv_at hl 2 rfl) ?_
    refine lv_iconst (v := 1) hx hb d_M_checkIn_16 (by decide) ?_
    refine lv_bipush (v := 99) hx hb d_M_checkIn_17 (by decide) ?_
    refine pw_callSi (va_runS (As := [.int (many), .int (1), .int (99)]) (rest := []) ⟨hx, hb, hml, hown, hw⟩ (c_M_in l D cs bk H.size 0 z a many 1 99) (cw_S 3 hw kM_M_97 kS_M_in kZ_M kC_M_in rfl rfl ⟨rfl, by decide, by decide, by decide +kernel⟩ ⟨Nat.le_of_ble_eq_true rfl, Nat.le_of_ble_eq_true rfl⟩) (pw_preS hN hK hP hD) rfl rfl hl.1 rfl (lv_room (Nat.le_of_ble_eq_true rfl)) d_M_checkIn_19 ⟨Nat.le_of_ble_eq_true rfl, Nat.le_of_ble_eq_true rfl⟩) (fun r_4 hr_4 => ?_)
    have hr_4 : r_4 = bI (1 ≤ many ∧ many ≤ 99) := hr_4
    subst hr_4
    refine pw_ifeq (tgt := 32) hx hb d_M_checkIn_22 (by decide) (fun c_5 => ?_) (fun c_5 => ?_)
    · have c_5 : ¬ (1 ≤ many ∧ many ≤ 99) := c_5
      refine lv_bipush (v := -2) hx hb d_M_checkIn_32 (by decide) ?_
      exact W.iret (v := -2) hx hb hr (fun t ht hW => ⟨⟨-2, (28, bk, MW cs 0 z a bk), rfl, Mr_of (by rw [s_M_checkIn, if_neg c_5]), by rw [ht]; exact hP, va_K.moved hW.alike hK, hD⟩, hS.F ht⟩) hS.2.2 d_M_checkIn_34
    · have c_5 : 1 ≤ many ∧ many ≤ 99 := c_5
      refine lv_iload_n hx hb d_M_checkIn_25 rfl (lv_at hl 3 rfl) ?_
      refine pw_callSi (va_runS (As := [.int (day)]) (rest := []) ⟨hx, hb, hml, hown, hw⟩ (c_M_isDay l D cs bk H.size 0 z a day) (cw_S 1 hw kM_M_107 kS_M_isDay kZ_M kC_M_isDay rfl rfl ⟨rfl, by decide, by decide, by decide +kernel⟩ ⟨Nat.le_of_ble_eq_true rfl, Nat.le_of_ble_eq_true rfl⟩) (pw_preS hN hK hP hD) rfl rfl hl.1 rfl (lv_room (Nat.le_of_ble_eq_true rfl)) d_M_checkIn_26 ⟨Nat.le_of_ble_eq_true rfl, Nat.le_of_ble_eq_true rfl⟩) (fun r_6 hr_6 => ?_)
      have hr_6 : r_6 = bI (0 ≤ day ∧ day ≤ 1000000) := hr_6
      subst hr_6
      refine pw_ifne (tgt := 35) hx hb d_M_checkIn_29 (by decide) (fun c_7 => ?_) (fun c_7 => ?_)
      · have c_7 : 0 ≤ day ∧ day ≤ 1000000 := c_7
        refine lv_aload_n hx hb d_M_checkIn_35 rfl (lv_at hl 0 rfl) ?_
        refine pw_get (ci := 7) (v := .ref (bk (6))) hx hb hw i_M hown hK hP (0) (by decide) rfl rfl 7 (by decide) (hw _ kF_M_25) rfl d_M_checkIn_36 ?_
        refine lv_iload_n hx hb d_M_checkIn_39 rfl (lv_at hl 1 rfl) ?_
        refine pw_iald (n := 200) (f := (a 6)) hx hb hK hP 0 (6) (by decide) rfl rfl (j) rfl (by omega) (by decide) d_M_checkIn_40 ?_
        refine lv_istore (lv' := [(4, .int ((a 6) (j))), (0, .ref (bk (0))), (1, .int (nI j)), (2, .int (many)), (3, .int (day))]) hx hb d_M_checkIn_41 hl (by decide) rfl (fun ls hl => ?_)
        refine lv_iload hx hb d_M_checkIn_43 (lv_at hl 0 rfl) ?_
        refine lv_if_eq (tgt := 69) hx hb d_M_checkIn_45 (by decide) (fun c_8 => ?_) (fun c_8 => ?_)
        · have c_8 : ((a 6) (j)) = 0 := c_8
          refine lv_aload_n hx hb d_M_checkIn_69 rfl (lv_at hl 1 rfl) ?_
          refine pw_get (ci := 7) (v := .ref (bk (6))) hx hb hw i_M hown hK hP (0) (by decide) rfl rfl 7 (by decide) (hw _ kF_M_25) rfl d_M_checkIn_70 ?_
          refine lv_iload_n hx hb d_M_checkIn_73 rfl (lv_at hl 2 rfl) ?_
          refine lv_iconst (v := 3) hx hb d_M_checkIn_74 (by decide) ?_
          refine pw_iast (n := 200) (f := (a 6)) hx hb hK hP hD hS 0 (6) (by decide) rfl rfl (j) rfl (by omega) (by decide) d_M_checkIn_75 (fun cw_9 H locs ecw_9 hP hD hS => ?_)
          obtain rfl : cw_9 = MW cs 0 z (va_up a 6 (upd (a 6) (j) (3))) bk := by rw [ecw_9]; exact MW_arr 6 (by decide) (upd (a 6) (j) (3))
          refine lv_aload_n hx hb d_M_checkIn_76 rfl (lv_at hl 1 rfl) ?_
          refine pw_get (ci := 7) (v := .ref (bk (10))) hx hb hw i_M hown hK hP (0) (by decide) rfl rfl 11 (by decide) (hw _ kF_M_37) rfl d_M_checkIn_77 ?_
          refine lv_iload_n hx hb d_M_checkIn_80 rfl (lv_at hl 2 rfl) ?_
          refine lv_iload_n hx hb d_M_checkIn_81 rfl (lv_at hl 3 rfl) ?_
          refine pw_iast (n := 200) (f := (a 10)) hx hb hK hP hD hS 0 (10) (by decide) rfl rfl (j) rfl (by omega) (by decide) d_M_checkIn_82 (fun cw_10 H locs ecw_10 hP hD hS => ?_)
          obtain rfl : cw_10 = MW cs 0 z (va_up (va_up a 6 (upd (a 6) (j) (3))) 10 (upd (a 10) (j) (many))) bk := by rw [ecw_10]; exact MW_arr 10 (by decide) (upd (a 10) (j) (many))
          refine lv_aload_n hx hb d_M_checkIn_83 rfl (lv_at hl 1 rfl) ?_
          refine pw_get (ci := 7) (v := .ref (bk (11))) hx hb hw i_M hown hK hP (0) (by decide) rfl rfl 12 (by decide) (hw _ kF_M_40) rfl d_M_checkIn_84 ?_
          refine lv_iload_n hx hb d_M_checkIn_87 rfl (lv_at hl 2 rfl) ?_
          refine lv_iload_n hx hb d_M_checkIn_88 rfl (lv_at hl 4 rfl) ?_
          refine pw_iast (n := 200) (f := (a 11)) hx hb hK hP hD hS 0 (11) (by decide) rfl rfl (j) rfl (by omega) (by decide) d_M_checkIn_89 (fun cw_11 H locs ecw_11 hP hD hS => ?_)
          obtain rfl : cw_11 = MW cs 0 z (va_up (va_up (va_up a 6 (upd (a 6) (j) (3))) 10 (upd (a 10) (j) (many))) 11 (upd (a 11) (j) (day))) bk := by rw [ecw_11]; exact MW_arr 11 (by decide) (upd (a 11) (j) (day))
          refine lv_iload hx hb d_M_checkIn_90 (lv_at hl 0 rfl) ?_
          refine lv_if_ne (tgt := 104) hx hb d_M_checkIn_92 (by decide) (fun c_12 => ?_) (fun c_12 => ?_)
          · have c_12 : ¬ ((a 6) (j)) = 0 := c_12
            refine lv_iload hx hb d_M_checkIn_104 (lv_at hl 0 rfl) ?_
            refine lv_iconst (v := 4) hx hb d_M_checkIn_106 (by decide) ?_
            refine lv_icmp_eq (tgt := 120) hx hb d_M_checkIn_107 (by decide) (fun c_13 => ?_) (fun c_13 => ?_)
            · have c_13 : ((a 6) (j)) = 4 := c_13
              refine lv_aload_n hx hb d_M_checkIn_120 rfl (lv_at hl 1 rfl) ?_
              refine lv_iconst (v := 2) hx hb d_M_checkIn_121 (by decide) ?_
              refine lv_iload_n hx hb d_M_checkIn_122 rfl (lv_at hl 2 rfl) ?_
              refine pm_callv (va_runV (As := [.int (2), .int (nI j)]) (rest := []) ⟨hx, hb, hml, hown, hw⟩ (c_M_tell l D cs bk H.size 0 z (va_up (va_up (va_up a 6 (upd (a 6) (j) (3))) 10 (upd (a 10) (j) (many))) 11 (upd (a 11) (j) (day))) hz4 2 (nI j)) (cw_V 2 hw kM_M_118 kI_M_tell kV_M_tell kZ_M kC_M_tell rfl rfl ⟨rfl, by decide, by decide, by decide +kernel⟩ ⟨Nat.le_of_ble_eq_true rfl, Nat.le_of_ble_eq_true rfl⟩) (pw_preV hN hK hP hD (0) (by decide) rfl rfl) rfl rfl hl.1 rfl (lv_room (Nat.le_of_ble_eq_true rfl)) d_M_checkIn_123 ⟨Nat.le_of_ble_eq_true rfl, Nat.le_of_ble_eq_true rfl⟩) hS (wl_free hD hS hA) (fun H locs hP hD hS => ?_)
              refine lv_iload hx hb d_M_checkIn_126 (lv_at hl 0 rfl) ?_
              refine lv_if_ne (tgt := 135) hx hb d_M_checkIn_128 (by decide) (fun c_14 => ?_) (fun c_14 => ?_)
              · have c_14 : ¬ ((a 6) (j)) = 0 := c_14
                refine lv_iconst (v := 1) hx hb d_M_checkIn_135 (by decide) ?_
                exact W.iret (v := 1) hx hb hr (fun t ht hW => ⟨⟨1, (28, bk, MW cs ((s_M_tell 0 z (va_up (va_up (va_up a 6 (upd (a 6) (j) (3))) 10 (upd (a 10) (j) (many))) 11 (upd (a 11) (j) (day))) 2 (nI j)).2.1) ((s_M_tell 0 z (va_up (va_up (va_up a 6 (upd (a 6) (j) (3))) 10 (upd (a 10) (j) (many))) 11 (upd (a 11) (j) (day))) 2 (nI j)).2.2.1) ((s_M_tell 0 z (va_up (va_up (va_up a 6 (upd (a 6) (j) (3))) 10 (upd (a 10) (j) (many))) 11 (upd (a 11) (j) (day))) 2 (nI j)).2.2.2) bk), rfl, Mr_of (by rw [s_M_checkIn, if_pos c_5, if_pos c_7, if_pos c_8, if_neg c_12, if_pos c_13, if_neg c_14]), by rw [ht]; exact hP, va_K.moved hW.alike hK, hD⟩, hS.F ht⟩) hS.2.2 d_M_checkIn_136
              · have c_14 : ((a 6) (j)) = 0 := c_14
                refine lv_iconst (v := 0) hx hb d_M_checkIn_131 (by decide) ?_
                refine lv_goto (tgt := 136) hx hb d_M_checkIn_132 (by decide) ?_
                exact W.iret (v := 0) hx hb hr (fun t ht hW => ⟨⟨0, (28, bk, MW cs ((s_M_tell 0 z (va_up (va_up (va_up a 6 (upd (a 6) (j) (3))) 10 (upd (a 10) (j) (many))) 11 (upd (a 11) (j) (day))) 2 (nI j)).2.1) ((s_M_tell 0 z (va_up (va_up (va_up a 6 (upd (a 6) (j) (3))) 10 (upd (a 10) (j) (many))) 11 (upd (a 11) (j) (day))) 2 (nI j)).2.2.1) ((s_M_tell 0 z (va_up (va_up (va_up a 6 (upd (a 6) (j) (3))) 10 (upd (a 10) (j) (many))) 11 (upd (a 11) (j) (day))) 2 (nI j)).2.2.2) bk), rfl, Mr_of (by rw [s_M_checkIn, if_pos c_5, if_pos c_7, if_pos c_8, if_neg c_12, if_pos c_13, if_pos c_14]), by rw [ht]; exact hP, va_K.moved hW.alike hK, hD⟩, hS.F ht⟩) hS.2.2 d_M_checkIn_136
            · have c_13 : ¬ ((a 6) (j)) = 4 := c_13
              refine lv_iload_n hx hb d_M_checkIn_110 rfl (lv_at hl 4 rfl) ?_
              refine lv_aload_n hx hb d_M_checkIn_111 rfl (lv_at hl 1 rfl) ?_
              refine pw_get (ci := 7) (v := .ref (bk (7))) hx hb hw i_M hown hK hP (0) (by decide) rfl rfl 8 (by decide) (hw _ kF_M_28) rfl d_M_checkIn_112 ?_
              refine lv_iload_n hx hb d_M_checkIn_115 rfl (lv_at hl 2 rfl) ?_
              refine pw_iald (n := 200) (f := (a 7)) hx hb hK hP 0 (7) (by decide) rfl rfl (j) rfl (by omega) (by decide) d_M_checkIn_116 ?_
              refine lv_icmp_le (tgt := 126) hx hb d_M_checkIn_117 (by decide) (fun c_15 => ?_) (fun c_15 => ?_)
              · have c_15 : day ≤ ((a 7) (j)) := c_15
                refine lv_iload hx hb d_M_checkIn_126 (lv_at hl 0 rfl) ?_
                refine lv_if_ne (tgt := 135) hx hb d_M_checkIn_128 (by decide) (fun c_16 => ?_) (fun c_16 => ?_)
                · have c_16 : ¬ ((a 6) (j)) = 0 := c_16
                  refine lv_iconst (v := 1) hx hb d_M_checkIn_135 (by decide) ?_
                  exact W.iret (v := 1) hx hb hr (fun t ht hW => ⟨⟨1, (28, bk, MW cs 0 z (va_up (va_up (va_up a 6 (upd (a 6) (j) (3))) 10 (upd (a 10) (j) (many))) 11 (upd (a 11) (j) (day))) bk), rfl, Mr_of (by rw [s_M_checkIn, if_pos c_5, if_pos c_7, if_pos c_8, if_neg c_12, if_neg c_13, if_pos c_15, if_neg c_16]), by rw [ht]; exact hP, va_K.moved hW.alike hK, hD⟩, hS.F ht⟩) hS.2.2 d_M_checkIn_136
                · have c_16 : ((a 6) (j)) = 0 := c_16
                  refine lv_iconst (v := 0) hx hb d_M_checkIn_131 (by decide) ?_
                  refine lv_goto (tgt := 136) hx hb d_M_checkIn_132 (by decide) ?_
                  exact W.iret (v := 0) hx hb hr (fun t ht hW => ⟨⟨0, (28, bk, MW cs 0 z (va_up (va_up (va_up a 6 (upd (a 6) (j) (3))) 10 (upd (a 10) (j) (many))) 11 (upd (a 11) (j) (day))) bk), rfl, Mr_of (by rw [s_M_checkIn, if_pos c_5, if_pos c_7, if_pos c_8, if_neg c_12, if_neg c_13, if_pos c_15, if_pos c_16]), by rw [ht]; exact hP, va_K.moved hW.alike hK, hD⟩, hS.F ht⟩) hS.2.2 d_M_checkIn_136
              · have c_15 : ¬ day ≤ ((a 7) (j)) := c_15
                refine lv_aload_n hx hb d_M_checkIn_120 rfl (lv_at hl 1 rfl) ?_
                refine lv_iconst (v := 2) hx hb d_M_checkIn_121 (by decide) ?_
                refine lv_iload_n hx hb d_M_checkIn_122 rfl (lv_at hl 2 rfl) ?_
                refine pm_callv (va_runV (As := [.int (2), .int (nI j)]) (rest := []) ⟨hx, hb, hml, hown, hw⟩ (c_M_tell l D cs bk H.size 0 z (va_up (va_up (va_up a 6 (upd (a 6) (j) (3))) 10 (upd (a 10) (j) (many))) 11 (upd (a 11) (j) (day))) hz4 2 (nI j)) (cw_V 2 hw kM_M_118 kI_M_tell kV_M_tell kZ_M kC_M_tell rfl rfl ⟨rfl, by decide, by decide, by decide +kernel⟩ ⟨Nat.le_of_ble_eq_true rfl, Nat.le_of_ble_eq_true rfl⟩) (pw_preV hN hK hP hD (0) (by decide) rfl rfl) rfl rfl hl.1 rfl (lv_room (Nat.le_of_ble_eq_true rfl)) d_M_checkIn_123 ⟨Nat.le_of_ble_eq_true rfl, Nat.le_of_ble_eq_true rfl⟩) hS (wl_free hD hS hA) (fun H locs hP hD hS => ?_)
                refine lv_iload hx hb d_M_checkIn_126 (lv_at hl 0 rfl) ?_
                refine lv_if_ne (tgt := 135) hx hb d_M_checkIn_128 (by decide) (fun c_17 => ?_) (fun c_17 => ?_)
                · have c_17 : ¬ ((a 6) (j)) = 0 := c_17
                  refine lv_iconst (v := 1) hx hb d_M_checkIn_135 (by decide) ?_
                  exact W.iret (v := 1) hx hb hr (fun t ht hW => ⟨⟨1, (28, bk, MW cs ((s_M_tell 0 z (va_up (va_up (va_up a 6 (upd (a 6) (j) (3))) 10 (upd (a 10) (j) (many))) 11 (upd (a 11) (j) (day))) 2 (nI j)).2.1) ((s_M_tell 0 z (va_up (va_up (va_up a 6 (upd (a 6) (j) (3))) 10 (upd (a 10) (j) (many))) 11 (upd (a 11) (j) (day))) 2 (nI j)).2.2.1) ((s_M_tell 0 z (va_up (va_up (va_up a 6 (upd (a 6) (j) (3))) 10 (upd (a 10) (j) (many))) 11 (upd (a 11) (j) (day))) 2 (nI j)).2.2.2) bk), rfl, Mr_of (by rw [s_M_checkIn, if_pos c_5, if_pos c_7, if_pos c_8, if_neg c_12, if_neg c_13, if_neg c_15, if_neg c_17]), by rw [ht]; exact hP, va_K.moved hW.alike hK, hD⟩, hS.F ht⟩) hS.2.2 d_M_checkIn_136
                · have c_17 : ((a 6) (j)) = 0 := c_17
                  refine lv_iconst (v := 0) hx hb d_M_checkIn_131 (by decide) ?_
                  refine lv_goto (tgt := 136) hx hb d_M_checkIn_132 (by decide) ?_
                  exact W.iret (v := 0) hx hb hr (fun t ht hW => ⟨⟨0, (28, bk, MW cs ((s_M_tell 0 z (va_up (va_up (va_up a 6 (upd (a 6) (j) (3))) 10 (upd (a 10) (j) (many))) 11 (upd (a 11) (j) (day))) 2 (nI j)).2.1) ((s_M_tell 0 z (va_up (va_up (va_up a 6 (upd (a 6) (j) (3))) 10 (upd (a 10) (j) (many))) 11 (upd (a 11) (j) (day))) 2 (nI j)).2.2.1) ((s_M_tell 0 z (va_up (va_up (va_up a 6 (upd (a 6) (j) (3))) 10 (upd (a 10) (j) (many))) 11 (upd (a 11) (j) (day))) 2 (nI j)).2.2.2) bk), rfl, Mr_of (by rw [s_M_checkIn, if_pos c_5, if_pos c_7, if_pos c_8, if_neg c_12, if_neg c_13, if_neg c_15, if_pos c_17]), by rw [ht]; exact hP, va_K.moved hW.alike hK, hD⟩, hS.F ht⟩) hS.2.2 d_M_checkIn_136
          · have c_12 : ((a 6) (j)) = 0 := c_12
            refine lv_aload_n hx hb d_M_checkIn_95 rfl (lv_at hl 1 rfl) ?_
            refine lv_iconst (v := 1) hx hb d_M_checkIn_96 (by decide) ?_
            refine lv_iload_n hx hb d_M_checkIn_97 rfl (lv_at hl 2 rfl) ?_
            refine pm_callv (va_runV (As := [.int (1), .int (nI j)]) (rest := []) ⟨hx, hb, hml, hown, hw⟩ (c_M_tell l D cs bk H.size 0 z (va_up (va_up (va_up a 6 (upd (a 6) (j) (3))) 10 (upd (a 10) (j) (many))) 11 (upd (a 11) (j) (day))) hz4 1 (nI j)) (cw_V 2 hw kM_M_118 kI_M_tell kV_M_tell kZ_M kC_M_tell rfl rfl ⟨rfl, by decide, by decide, by decide +kernel⟩ ⟨Nat.le_of_ble_eq_true rfl, Nat.le_of_ble_eq_true rfl⟩) (pw_preV hN hK hP hD (0) (by decide) rfl rfl) rfl rfl hl.1 rfl (lv_room (Nat.le_of_ble_eq_true rfl)) d_M_checkIn_98 ⟨Nat.le_of_ble_eq_true rfl, Nat.le_of_ble_eq_true rfl⟩) hS (wl_free hD hS hA) (fun H locs hP hD hS => ?_)
            refine lv_goto (tgt := 126) hx hb d_M_checkIn_101 (by decide) ?_
            refine lv_iload hx hb d_M_checkIn_126 (lv_at hl 0 rfl) ?_
            refine lv_if_ne (tgt := 135) hx hb d_M_checkIn_128 (by decide) (fun c_18 => ?_) (fun c_18 => ?_)
            · have c_18 : ¬ ((a 6) (j)) = 0 := c_18
              refine lv_iconst (v := 1) hx hb d_M_checkIn_135 (by decide) ?_
              exact W.iret (v := 1) hx hb hr (fun t ht hW => ⟨⟨1, (28, bk, MW cs ((s_M_tell 0 z (va_up (va_up (va_up a 6 (upd (a 6) (j) (3))) 10 (upd (a 10) (j) (many))) 11 (upd (a 11) (j) (day))) 1 (nI j)).2.1) ((s_M_tell 0 z (va_up (va_up (va_up a 6 (upd (a 6) (j) (3))) 10 (upd (a 10) (j) (many))) 11 (upd (a 11) (j) (day))) 1 (nI j)).2.2.1) ((s_M_tell 0 z (va_up (va_up (va_up a 6 (upd (a 6) (j) (3))) 10 (upd (a 10) (j) (many))) 11 (upd (a 11) (j) (day))) 1 (nI j)).2.2.2) bk), rfl, Mr_of (by rw [s_M_checkIn, if_pos c_5, if_pos c_7, if_pos c_8, if_pos c_12, if_neg c_18]), by rw [ht]; exact hP, va_K.moved hW.alike hK, hD⟩, hS.F ht⟩) hS.2.2 d_M_checkIn_136
            · have c_18 : ((a 6) (j)) = 0 := c_18
              refine lv_iconst (v := 0) hx hb d_M_checkIn_131 (by decide) ?_
              refine lv_goto (tgt := 136) hx hb d_M_checkIn_132 (by decide) ?_
              exact W.iret (v := 0) hx hb hr (fun t ht hW => ⟨⟨0, (28, bk, MW cs ((s_M_tell 0 z (va_up (va_up (va_up a 6 (upd (a 6) (j) (3))) 10 (upd (a 10) (j) (many))) 11 (upd (a 11) (j) (day))) 1 (nI j)).2.1) ((s_M_tell 0 z (va_up (va_up (va_up a 6 (upd (a 6) (j) (3))) 10 (upd (a 10) (j) (many))) 11 (upd (a 11) (j) (day))) 1 (nI j)).2.2.1) ((s_M_tell 0 z (va_up (va_up (va_up a 6 (upd (a 6) (j) (3))) 10 (upd (a 10) (j) (many))) 11 (upd (a 11) (j) (day))) 1 (nI j)).2.2.2) bk), rfl, Mr_of (by rw [s_M_checkIn, if_pos c_5, if_pos c_7, if_pos c_8, if_pos c_12, if_pos c_18]), by rw [ht]; exact hP, va_K.moved hW.alike hK, hD⟩, hS.F ht⟩) hS.2.2 d_M_checkIn_136
        · have c_8 : ¬ ((a 6) (j)) = 0 := c_8
          refine lv_iload hx hb d_M_checkIn_48 (lv_at hl 0 rfl) ?_
          refine lv_iconst (v := 1) hx hb d_M_checkIn_50 (by decide) ?_
          refine lv_icmp_eq (tgt := 69) hx hb d_M_checkIn_51 (by decide) (fun c_19 => ?_) (fun c_19 => ?_)
          · have c_19 : ((a 6) (j)) = 1 := c_19
            refine lv_aload_n hx hb d_M_checkIn_69 rfl (lv_at hl 1 rfl) ?_
            refine pw_get (ci := 7) (v := .ref (bk (6))) hx hb hw i_M hown hK hP (0) (by decide) rfl rfl 7 (by decide) (hw _ kF_M_25) rfl d_M_checkIn_70 ?_
            refine lv_iload_n hx hb d_M_checkIn_73 rfl (lv_at hl 2 rfl) ?_
            refine lv_iconst (v := 3) hx hb d_M_checkIn_74 (by decide) ?_
            refine pw_iast (n := 200) (f := (a 6)) hx hb hK hP hD hS 0 (6) (by decide) rfl rfl (j) rfl (by omega) (by decide) d_M_checkIn_75 (fun cw_20 H locs ecw_20 hP hD hS => ?_)
            obtain rfl : cw_20 = MW cs 0 z (va_up a 6 (upd (a 6) (j) (3))) bk := by rw [ecw_20]; exact MW_arr 6 (by decide) (upd (a 6) (j) (3))
            refine lv_aload_n hx hb d_M_checkIn_76 rfl (lv_at hl 1 rfl) ?_
            refine pw_get (ci := 7) (v := .ref (bk (10))) hx hb hw i_M hown hK hP (0) (by decide) rfl rfl 11 (by decide) (hw _ kF_M_37) rfl d_M_checkIn_77 ?_
            refine lv_iload_n hx hb d_M_checkIn_80 rfl (lv_at hl 2 rfl) ?_
            refine lv_iload_n hx hb d_M_checkIn_81 rfl (lv_at hl 3 rfl) ?_
            refine pw_iast (n := 200) (f := (a 10)) hx hb hK hP hD hS 0 (10) (by decide) rfl rfl (j) rfl (by omega) (by decide) d_M_checkIn_82 (fun cw_21 H locs ecw_21 hP hD hS => ?_)
            obtain rfl : cw_21 = MW cs 0 z (va_up (va_up a 6 (upd (a 6) (j) (3))) 10 (upd (a 10) (j) (many))) bk := by rw [ecw_21]; exact MW_arr 10 (by decide) (upd (a 10) (j) (many))
            refine lv_aload_n hx hb d_M_checkIn_83 rfl (lv_at hl 1 rfl) ?_
            refine pw_get (ci := 7) (v := .ref (bk (11))) hx hb hw i_M hown hK hP (0) (by decide) rfl rfl 12 (by decide) (hw _ kF_M_40) rfl d_M_checkIn_84 ?_
            refine lv_iload_n hx hb d_M_checkIn_87 rfl (lv_at hl 2 rfl) ?_
            refine lv_iload_n hx hb d_M_checkIn_88 rfl (lv_at hl 4 rfl) ?_
            refine pw_iast (n := 200) (f := (a 11)) hx hb hK hP hD hS 0 (11) (by decide) rfl rfl (j) rfl (by omega) (by decide) d_M_checkIn_89 (fun cw_22 H locs ecw_22 hP hD hS => ?_)
            obtain rfl : cw_22 = MW cs 0 z (va_up (va_up (va_up a 6 (upd (a 6) (j) (3))) 10 (upd (a 10) (j) (many))) 11 (upd (a 11) (j) (day))) bk := by rw [ecw_22]; exact MW_arr 11 (by decide) (upd (a 11) (j) (day))
            refine lv_iload hx hb d_M_checkIn_90 (lv_at hl 0 rfl) ?_
            refine lv_if_ne (tgt := 104) hx hb d_M_checkIn_92 (by decide) (fun c_23 => ?_) (fun c_23 => ?_)
            · have c_23 : ¬ ((a 6) (j)) = 0 := c_23
              refine lv_iload hx hb d_M_checkIn_104 (lv_at hl 0 rfl) ?_
              refine lv_iconst (v := 4) hx hb d_M_checkIn_106 (by decide) ?_
              refine lv_icmp_eq (tgt := 120) hx hb d_M_checkIn_107 (by decide) (fun c_24 => ?_) (fun c_24 => ?_)
              · have c_24 : ((a 6) (j)) = 4 := c_24
                refine lv_aload_n hx hb d_M_checkIn_120 rfl (lv_at hl 1 rfl) ?_
                refine lv_iconst (v := 2) hx hb d_M_checkIn_121 (by decide) ?_
                refine lv_iload_n hx hb d_M_checkIn_122 rfl (lv_at hl 2 rfl) ?_
                refine pm_callv (va_runV (As := [.int (2), .int (nI j)]) (rest := []) ⟨hx, hb, hml, hown, hw⟩ (c_M_tell l D cs bk H.size 0 z (va_up (va_up (va_up a 6 (upd (a 6) (j) (3))) 10 (upd (a 10) (j) (many))) 11 (upd (a 11) (j) (day))) hz4 2 (nI j)) (cw_V 2 hw kM_M_118 kI_M_tell kV_M_tell kZ_M kC_M_tell rfl rfl ⟨rfl, by decide, by decide, by decide +kernel⟩ ⟨Nat.le_of_ble_eq_true rfl, Nat.le_of_ble_eq_true rfl⟩) (pw_preV hN hK hP hD (0) (by decide) rfl rfl) rfl rfl hl.1 rfl (lv_room (Nat.le_of_ble_eq_true rfl)) d_M_checkIn_123 ⟨Nat.le_of_ble_eq_true rfl, Nat.le_of_ble_eq_true rfl⟩) hS (wl_free hD hS hA) (fun H locs hP hD hS => ?_)
                refine lv_iload hx hb d_M_checkIn_126 (lv_at hl 0 rfl) ?_
                refine lv_if_ne (tgt := 135) hx hb d_M_checkIn_128 (by decide) (fun c_25 => ?_) (fun c_25 => ?_)
                · have c_25 : ¬ ((a 6) (j)) = 0 := c_25
                  refine lv_iconst (v := 1) hx hb d_M_checkIn_135 (by decide) ?_
                  exact W.iret (v := 1) hx hb hr (fun t ht hW => ⟨⟨1, (28, bk, MW cs ((s_M_tell 0 z (va_up (va_up (va_up a 6 (upd (a 6) (j) (3))) 10 (upd (a 10) (j) (many))) 11 (upd (a 11) (j) (day))) 2 (nI j)).2.1) ((s_M_tell 0 z (va_up (va_up (va_up a 6 (upd (a 6) (j) (3))) 10 (upd (a 10) (j) (many))) 11 (upd (a 11) (j) (day))) 2 (nI j)).2.2.1) ((s_M_tell 0 z (va_up (va_up (va_up a 6 (upd (a 6) (j) (3))) 10 (upd (a 10) (j) (many))) 11 (upd (a 11) (j) (day))) 2 (nI j)).2.2.2) bk), rfl, Mr_of (by rw [s_M_checkIn, if_pos c_5, if_pos c_7, if_neg c_8, if_pos c_19, if_neg c_23, if_pos c_24, if_neg c_25]), by rw [ht]; exact hP, va_K.moved hW.alike hK, hD⟩, hS.F ht⟩) hS.2.2 d_M_checkIn_136
                · have c_25 : ((a 6) (j)) = 0 := c_25
                  refine lv_iconst (v := 0) hx hb d_M_checkIn_131 (by decide) ?_
                  refine lv_goto (tgt := 136) hx hb d_M_checkIn_132 (by decide) ?_
                  exact W.iret (v := 0) hx hb hr (fun t ht hW => ⟨⟨0, (28, bk, MW cs ((s_M_tell 0 z (va_up (va_up (va_up a 6 (upd (a 6) (j) (3))) 10 (upd (a 10) (j) (many))) 11 (upd (a 11) (j) (day))) 2 (nI j)).2.1) ((s_M_tell 0 z (va_up (va_up (va_up a 6 (upd (a 6) (j) (3))) 10 (upd (a 10) (j) (many))) 11 (upd (a 11) (j) (day))) 2 (nI j)).2.2.1) ((s_M_tell 0 z (va_up (va_up (va_up a 6 (upd (a 6) (j) (3))) 10 (upd (a 10) (j) (many))) 11 (upd (a 11) (j) (day))) 2 (nI j)).2.2.2) bk), rfl, Mr_of (by rw [s_M_checkIn, if_pos c_5, if_pos c_7, if_neg c_8, if_pos c_19, if_neg c_23, if_pos c_24, if_pos c_25]), by rw [ht]; exact hP, va_K.moved hW.alike hK, hD⟩, hS.F ht⟩) hS.2.2 d_M_checkIn_136
              · have c_24 : ¬ ((a 6) (j)) = 4 := c_24
                refine lv_iload_n hx hb d_M_checkIn_110 rfl (lv_at hl 4 rfl) ?_
                refine lv_aload_n hx hb d_M_checkIn_111 rfl (lv_at hl 1 rfl) ?_
                refine pw_get (ci := 7) (v := .ref (bk (7))) hx hb hw i_M hown hK hP (0) (by decide) rfl rfl 8 (by decide) (hw _ kF_M_28) rfl d_M_checkIn_112 ?_
                refine lv_iload_n hx hb d_M_checkIn_115 rfl (lv_at hl 2 rfl) ?_
                refine pw_iald (n := 200) (f := (a 7)) hx hb hK hP 0 (7) (by decide) rfl rfl (j) rfl (by omega) (by decide) d_M_checkIn_116 ?_
                refine lv_icmp_le (tgt := 126) hx hb d_M_checkIn_117 (by decide) (fun c_26 => ?_) (fun c_26 => ?_)
                · have c_26 : day ≤ ((a 7) (j)) := c_26
                  refine lv_iload hx hb d_M_checkIn_126 (lv_at hl 0 rfl) ?_
                  refine lv_if_ne (tgt := 135) hx hb d_M_checkIn_128 (by decide) (fun c_27 => ?_) (fun c_27 => ?_)
                  · have c_27 : ¬ ((a 6) (j)) = 0 := c_27
                    refine lv_iconst (v := 1) hx hb d_M_checkIn_135 (by decide) ?_
                    exact W.iret (v := 1) hx hb hr (fun t ht hW => ⟨⟨1, (28, bk, MW cs 0 z (va_up (va_up (va_up a 6 (upd (a 6) (j) (3))) 10 (upd (a 10) (j) (many))) 11 (upd (a 11) (j) (day))) bk), rfl, Mr_of (by rw [s_M_checkIn, if_pos c_5, if_pos c_7, if_neg c_8, if_pos c_19, if_neg c_23, if_neg c_24, if_pos c_26, if_neg c_27]), by rw [ht]; exact hP, va_K.moved hW.alike hK, hD⟩, hS.F ht⟩) hS.2.2 d_M_checkIn_136
                  · have c_27 : ((a 6) (j)) = 0 := c_27
                    refine lv_iconst (v := 0) hx hb d_M_checkIn_131 (by decide) ?_
                    refine lv_goto (tgt := 136) hx hb d_M_checkIn_132 (by decide) ?_
                    exact W.iret (v := 0) hx hb hr (fun t ht hW => ⟨⟨0, (28, bk, MW cs 0 z (va_up (va_up (va_up a 6 (upd (a 6) (j) (3))) 10 (upd (a 10) (j) (many))) 11 (upd (a 11) (j) (day))) bk), rfl, Mr_of (by rw [s_M_checkIn, if_pos c_5, if_pos c_7, if_neg c_8, if_pos c_19, if_neg c_23, if_neg c_24, if_pos c_26, if_pos c_27]), by rw [ht]; exact hP, va_K.moved hW.alike hK, hD⟩, hS.F ht⟩) hS.2.2 d_M_checkIn_136
                · have c_26 : ¬ day ≤ ((a 7) (j)) := c_26
                  refine lv_aload_n hx hb d_M_checkIn_120 rfl (lv_at hl 1 rfl) ?_
                  refine lv_iconst (v := 2) hx hb d_M_checkIn_121 (by decide) ?_
                  refine lv_iload_n hx hb d_M_checkIn_122 rfl (lv_at hl 2 rfl) ?_
                  refine pm_callv (va_runV (As := [.int (2), .int (nI j)]) (rest := []) ⟨hx, hb, hml, hown, hw⟩ (c_M_tell l D cs bk H.size 0 z (va_up (va_up (va_up a 6 (upd (a 6) (j) (3))) 10 (upd (a 10) (j) (many))) 11 (upd (a 11) (j) (day))) hz4 2 (nI j)) (cw_V 2 hw kM_M_118 kI_M_tell kV_M_tell kZ_M kC_M_tell rfl rfl ⟨rfl, by decide, by decide, by decide +kernel⟩ ⟨Nat.le_of_ble_eq_true rfl, Nat.le_of_ble_eq_true rfl⟩) (pw_preV hN hK hP hD (0) (by decide) rfl rfl) rfl rfl hl.1 rfl (lv_room (Nat.le_of_ble_eq_true rfl)) d_M_checkIn_123 ⟨Nat.le_of_ble_eq_true rfl, Nat.le_of_ble_eq_true rfl⟩) hS (wl_free hD hS hA) (fun H locs hP hD hS => ?_)
                  refine lv_iload hx hb d_M_checkIn_126 (lv_at hl 0 rfl) ?_
                  refine lv_if_ne (tgt := 135) hx hb d_M_checkIn_128 (by decide) (fun c_28 => ?_) (fun c_28 => ?_)
                  · have c_28 : ¬ ((a 6) (j)) = 0 := c_28
                    refine lv_iconst (v := 1) hx hb d_M_checkIn_135 (by decide) ?_
                    exact W.iret (v := 1) hx hb hr (fun t ht hW => ⟨⟨1, (28, bk, MW cs ((s_M_tell 0 z (va_up (va_up (va_up a 6 (upd (a 6) (j) (3))) 10 (upd (a 10) (j) (many))) 11 (upd (a 11) (j) (day))) 2 (nI j)).2.1) ((s_M_tell 0 z (va_up (va_up (va_up a 6 (upd (a 6) (j) (3))) 10 (upd (a 10) (j) (many))) 11 (upd (a 11) (j) (day))) 2 (nI j)).2.2.1) ((s_M_tell 0 z (va_up (va_up (va_up a 6 (upd (a 6) (j) (3))) 10 (upd (a 10) (j) (many))) 11 (upd (a 11) (j) (day))) 2 (nI j)).2.2.2) bk), rfl, Mr_of (by rw [s_M_checkIn, if_pos c_5, if_pos c_7, if_neg c_8, if_pos c_19, if_neg c_23, if_neg c_24, if_neg c_26, if_neg c_28]), by rw [ht]; exact hP, va_K.moved hW.alike hK, hD⟩, hS.F ht⟩) hS.2.2 d_M_checkIn_136
                  · have c_28 : ((a 6) (j)) = 0 := c_28
                    refine lv_iconst (v := 0) hx hb d_M_checkIn_131 (by decide) ?_
                    refine lv_goto (tgt := 136) hx hb d_M_checkIn_132 (by decide) ?_
                    exact W.iret (v := 0) hx hb hr (fun t ht hW => ⟨⟨0, (28, bk, MW cs ((s_M_tell 0 z (va_up (va_up (va_up a 6 (upd (a 6) (j) (3))) 10 (upd (a 10) (j) (many))) 11 (upd (a 11) (j) (day))) 2 (nI j)).2.1) ((s_M_tell 0 z (va_up (va_up (va_up a 6 (upd (a 6) (j) (3))) 10 (upd (a 10) (j) (many))) 11 (upd (a 11) (j) (day))) 2 (nI j)).2.2.1) ((s_M_tell 0 z (va_up (va_up (va_up a 6 (upd (a 6) (j) (3))) 10 (upd (a 10) (j) (many))) 11 (upd (a 11) (j) (day))) 2 (nI j)).2.2.2) bk), rfl, Mr_of (by rw [s_M_checkIn, if_pos c_5, if_pos c_7, if_neg c_8, if_pos c_19, if_neg c_23, if_neg c_24, if_neg c_26, if_pos c_28]), by rw [ht]; exact hP, va_K.moved hW.alike hK, hD⟩, hS.F ht⟩) hS.2.2 d_M_checkIn_136
            · have c_23 : ((a 6) (j)) = 0 := c_23
              refine lv_aload_n hx hb d_M_checkIn_95 rfl (lv_at hl 1 rfl) ?_
              refine lv_iconst (v := 1) hx hb d_M_checkIn_96 (by decide) ?_
              refine lv_iload_n hx hb d_M_checkIn_97 rfl (lv_at hl 2 rfl) ?_
              refine pm_callv (va_runV (As := [.int (1), .int (nI j)]) (rest := []) ⟨hx, hb, hml, hown, hw⟩ (c_M_tell l D cs bk H.size 0 z (va_up (va_up (va_up a 6 (upd (a 6) (j) (3))) 10 (upd (a 10) (j) (many))) 11 (upd (a 11) (j) (day))) hz4 1 (nI j)) (cw_V 2 hw kM_M_118 kI_M_tell kV_M_tell kZ_M kC_M_tell rfl rfl ⟨rfl, by decide, by decide, by decide +kernel⟩ ⟨Nat.le_of_ble_eq_true rfl, Nat.le_of_ble_eq_true rfl⟩) (pw_preV hN hK hP hD (0) (by decide) rfl rfl) rfl rfl hl.1 rfl (lv_room (Nat.le_of_ble_eq_true rfl)) d_M_checkIn_98 ⟨Nat.le_of_ble_eq_true rfl, Nat.le_of_ble_eq_true rfl⟩) hS (wl_free hD hS hA) (fun H locs hP hD hS => ?_)
              refine lv_goto (tgt := 126) hx hb d_M_checkIn_101 (by decide) ?_
              refine lv_iload hx hb d_M_checkIn_126 (lv_at hl 0 rfl) ?_
              refine lv_if_ne (tgt := 135) hx hb d_M_checkIn_128 (by decide) (fun c_29 => ?_) (fun c_29 => ?_)
              · have c_29 : ¬ ((a 6) (j)) = 0 := c_29
                refine lv_iconst (v := 1) hx hb d_M_checkIn_135 (by decide) ?_
                exact W.iret (v := 1) hx hb hr (fun t ht hW => ⟨⟨1, (28, bk, MW cs ((s_M_tell 0 z (va_up (va_up (va_up a 6 (upd (a 6) (j) (3))) 10 (upd (a 10) (j) (many))) 11 (upd (a 11) (j) (day))) 1 (nI j)).2.1) ((s_M_tell 0 z (va_up (va_up (va_up a 6 (upd (a 6) (j) (3))) 10 (upd (a 10) (j) (many))) 11 (upd (a 11) (j) (day))) 1 (nI j)).2.2.1) ((s_M_tell 0 z (va_up (va_up (va_up a 6 (upd (a 6) (j) (3))) 10 (upd (a 10) (j) (many))) 11 (upd (a 11) (j) (day))) 1 (nI j)).2.2.2) bk), rfl, Mr_of (by rw [s_M_checkIn, if_pos c_5, if_pos c_7, if_neg c_8, if_pos c_19, if_pos c_23, if_neg c_29]), by rw [ht]; exact hP, va_K.moved hW.alike hK, hD⟩, hS.F ht⟩) hS.2.2 d_M_checkIn_136
              · have c_29 : ((a 6) (j)) = 0 := c_29
                refine lv_iconst (v := 0) hx hb d_M_checkIn_131 (by decide) ?_
                refine lv_goto (tgt := 136) hx hb d_M_checkIn_132 (by decide) ?_
                exact W.iret (v := 0) hx hb hr (fun t ht hW => ⟨⟨0, (28, bk, MW cs ((s_M_tell 0 z (va_up (va_up (va_up a 6 (upd (a 6) (j) (3))) 10 (upd (a 10) (j) (many))) 11 (upd (a 11) (j) (day))) 1 (nI j)).2.1) ((s_M_tell 0 z (va_up (va_up (va_up a 6 (upd (a 6) (j) (3))) 10 (upd (a 10) (j) (many))) 11 (upd (a 11) (j) (day))) 1 (nI j)).2.2.1) ((s_M_tell 0 z (va_up (va_up (va_up a 6 (upd (a 6) (j) (3))) 10 (upd (a 10) (j) (many))) 11 (upd (a 11) (j) (day))) 1 (nI j)).2.2.2) bk), rfl, Mr_of (by rw [s_M_checkIn, if_pos c_5, if_pos c_7, if_neg c_8, if_pos c_19, if_pos c_23, if_pos c_29]), by rw [ht]; exact hP, va_K.moved hW.alike hK, hD⟩, hS.F ht⟩) hS.2.2 d_M_checkIn_136
          · have c_19 : ¬ ((a 6) (j)) = 1 := c_19
            refine lv_iload hx hb d_M_checkIn_54 (lv_at hl 0 rfl) ?_
            refine lv_iconst (v := 2) hx hb d_M_checkIn_56 (by decide) ?_
            refine lv_icmp_eq (tgt := 69) hx hb d_M_checkIn_57 (by decide) (fun c_30 => ?_) (fun c_30 => ?_)
            · have c_30 : ((a 6) (j)) = 2 := c_30
              refine lv_aload_n hx hb d_M_checkIn_69 rfl (lv_at hl 1 rfl) ?_
              refine pw_get (ci := 7) (v := .ref (bk (6))) hx hb hw i_M hown hK hP (0) (by decide) rfl rfl 7 (by decide) (hw _ kF_M_25) rfl d_M_checkIn_70 ?_
              refine lv_iload_n hx hb d_M_checkIn_73 rfl (lv_at hl 2 rfl) ?_
              refine lv_iconst (v := 3) hx hb d_M_checkIn_74 (by decide) ?_
              refine pw_iast (n := 200) (f := (a 6)) hx hb hK hP hD hS 0 (6) (by decide) rfl rfl (j) rfl (by omega) (by decide) d_M_checkIn_75 (fun cw_31 H locs ecw_31 hP hD hS => ?_)
              obtain rfl : cw_31 = MW cs 0 z (va_up a 6 (upd (a 6) (j) (3))) bk := by rw [ecw_31]; exact MW_arr 6 (by decide) (upd (a 6) (j) (3))
              refine lv_aload_n hx hb d_M_checkIn_76 rfl (lv_at hl 1 rfl) ?_
              refine pw_get (ci := 7) (v := .ref (bk (10))) hx hb hw i_M hown hK hP (0) (by decide) rfl rfl 11 (by decide) (hw _ kF_M_37) rfl d_M_checkIn_77 ?_
              refine lv_iload_n hx hb d_M_checkIn_80 rfl (lv_at hl 2 rfl) ?_
              refine lv_iload_n hx hb d_M_checkIn_81 rfl (lv_at hl 3 rfl) ?_
              refine pw_iast (n := 200) (f := (a 10)) hx hb hK hP hD hS 0 (10) (by decide) rfl rfl (j) rfl (by omega) (by decide) d_M_checkIn_82 (fun cw_32 H locs ecw_32 hP hD hS => ?_)
              obtain rfl : cw_32 = MW cs 0 z (va_up (va_up a 6 (upd (a 6) (j) (3))) 10 (upd (a 10) (j) (many))) bk := by rw [ecw_32]; exact MW_arr 10 (by decide) (upd (a 10) (j) (many))
              refine lv_aload_n hx hb d_M_checkIn_83 rfl (lv_at hl 1 rfl) ?_
              refine pw_get (ci := 7) (v := .ref (bk (11))) hx hb hw i_M hown hK hP (0) (by decide) rfl rfl 12 (by decide) (hw _ kF_M_40) rfl d_M_checkIn_84 ?_
              refine lv_iload_n hx hb d_M_checkIn_87 rfl (lv_at hl 2 rfl) ?_
              refine lv_iload_n hx hb d_M_checkIn_88 rfl (lv_at hl 4 rfl) ?_
              refine pw_iast (n := 200) (f := (a 11)) hx hb hK hP hD hS 0 (11) (by decide) rfl rfl (j) rfl (by omega) (by decide) d_M_checkIn_89 (fun cw_33 H locs ecw_33 hP hD hS => ?_)
              obtain rfl : cw_33 = MW cs 0 z (va_up (va_up (va_up a 6 (upd (a 6) (j) (3))) 10 (upd (a 10) (j) (many))) 11 (upd (a 11) (j) (day))) bk := by rw [ecw_33]; exact MW_arr 11 (by decide) (upd (a 11) (j) (day))
              refine lv_iload hx hb d_M_checkIn_90 (lv_at hl 0 rfl) ?_
              refine lv_if_ne (tgt := 104) hx hb d_M_checkIn_92 (by decide) (fun c_34 => ?_) (fun c_34 => ?_)
              · have c_34 : ¬ ((a 6) (j)) = 0 := c_34
                refine lv_iload hx hb d_M_checkIn_104 (lv_at hl 0 rfl) ?_
                refine lv_iconst (v := 4) hx hb d_M_checkIn_106 (by decide) ?_
                refine lv_icmp_eq (tgt := 120) hx hb d_M_checkIn_107 (by decide) (fun c_35 => ?_) (fun c_35 => ?_)
                · have c_35 : ((a 6) (j)) = 4 := c_35
                  refine lv_aload_n hx hb d_M_checkIn_120 rfl (lv_at hl 1 rfl) ?_
                  refine lv_iconst (v := 2) hx hb d_M_checkIn_121 (by decide) ?_
                  refine lv_iload_n hx hb d_M_checkIn_122 rfl (lv_at hl 2 rfl) ?_
                  refine pm_callv (va_runV (As := [.int (2), .int (nI j)]) (rest := []) ⟨hx, hb, hml, hown, hw⟩ (c_M_tell l D cs bk H.size 0 z (va_up (va_up (va_up a 6 (upd (a 6) (j) (3))) 10 (upd (a 10) (j) (many))) 11 (upd (a 11) (j) (day))) hz4 2 (nI j)) (cw_V 2 hw kM_M_118 kI_M_tell kV_M_tell kZ_M kC_M_tell rfl rfl ⟨rfl, by decide, by decide, by decide +kernel⟩ ⟨Nat.le_of_ble_eq_true rfl, Nat.le_of_ble_eq_true rfl⟩) (pw_preV hN hK hP hD (0) (by decide) rfl rfl) rfl rfl hl.1 rfl (lv_room (Nat.le_of_ble_eq_true rfl)) d_M_checkIn_123 ⟨Nat.le_of_ble_eq_true rfl, Nat.le_of_ble_eq_true rfl⟩) hS (wl_free hD hS hA) (fun H locs hP hD hS => ?_)
                  refine lv_iload hx hb d_M_checkIn_126 (lv_at hl 0 rfl) ?_
                  refine lv_if_ne (tgt := 135) hx hb d_M_checkIn_128 (by decide) (fun c_36 => ?_) (fun c_36 => ?_)
                  · have c_36 : ¬ ((a 6) (j)) = 0 := c_36
                    refine lv_iconst (v := 1) hx hb d_M_checkIn_135 (by decide) ?_
                    exact W.iret (v := 1) hx hb hr (fun t ht hW => ⟨⟨1, (28, bk, MW cs ((s_M_tell 0 z (va_up (va_up (va_up a 6 (upd (a 6) (j) (3))) 10 (upd (a 10) (j) (many))) 11 (upd (a 11) (j) (day))) 2 (nI j)).2.1) ((s_M_tell 0 z (va_up (va_up (va_up a 6 (upd (a 6) (j) (3))) 10 (upd (a 10) (j) (many))) 11 (upd (a 11) (j) (day))) 2 (nI j)).2.2.1) ((s_M_tell 0 z (va_up (va_up (va_up a 6 (upd (a 6) (j) (3))) 10 (upd (a 10) (j) (many))) 11 (upd (a 11) (j) (day))) 2 (nI j)).2.2.2) bk), rfl, Mr_of (by rw [s_M_checkIn, if_pos c_5, if_pos c_7, if_neg c_8, if_neg c_19, if_pos c_30, if_neg c_34, if_pos c_35, if_neg c_36]), by rw [ht]; exact hP, va_K.moved hW.alike hK, hD⟩, hS.F ht⟩) hS.2.2 d_M_checkIn_136
                  · have c_36 : ((a 6) (j)) = 0 := c_36
                    refine lv_iconst (v := 0) hx hb d_M_checkIn_131 (by decide) ?_
                    refine lv_goto (tgt := 136) hx hb d_M_checkIn_132 (by decide) ?_
                    exact W.iret (v := 0) hx hb hr (fun t ht hW => ⟨⟨0, (28, bk, MW cs ((s_M_tell 0 z (va_up (va_up (va_up a 6 (upd (a 6) (j) (3))) 10 (upd (a 10) (j) (many))) 11 (upd (a 11) (j) (day))) 2 (nI j)).2.1) ((s_M_tell 0 z (va_up (va_up (va_up a 6 (upd (a 6) (j) (3))) 10 (upd (a 10) (j) (many))) 11 (upd (a 11) (j) (day))) 2 (nI j)).2.2.1) ((s_M_tell 0 z (va_up (va_up (va_up a 6 (upd (a 6) (j) (3))) 10 (upd (a 10) (j) (many))) 11 (upd (a 11) (j) (day))) 2 (nI j)).2.2.2) bk), rfl, Mr_of (by rw [s_M_checkIn, if_pos c_5, if_pos c_7, if_neg c_8, if_neg c_19, if_pos c_30, if_neg c_34, if_pos c_35, if_pos c_36]), by rw [ht]; exact hP, va_K.moved hW.alike hK, hD⟩, hS.F ht⟩) hS.2.2 d_M_checkIn_136
                · have c_35 : ¬ ((a 6) (j)) = 4 := c_35
                  refine lv_iload_n hx hb d_M_checkIn_110 rfl (lv_at hl 4 rfl) ?_
                  refine lv_aload_n hx hb d_M_checkIn_111 rfl (lv_at hl 1 rfl) ?_
                  refine pw_get (ci := 7) (v := .ref (bk (7))) hx hb hw i_M hown hK hP (0) (by decide) rfl rfl 8 (by decide) (hw _ kF_M_28) rfl d_M_checkIn_112 ?_
                  refine lv_iload_n hx hb d_M_checkIn_115 rfl (lv_at hl 2 rfl) ?_
                  refine pw_iald (n := 200) (f := (a 7)) hx hb hK hP 0 (7) (by decide) rfl rfl (j) rfl (by omega) (by decide) d_M_checkIn_116 ?_
                  refine lv_icmp_le (tgt := 126) hx hb d_M_checkIn_117 (by decide) (fun c_37 => ?_) (fun c_37 => ?_)
                  · have c_37 : day ≤ ((a 7) (j)) := c_37
                    refine lv_iload hx hb d_M_checkIn_126 (lv_at hl 0 rfl) ?_
                    refine lv_if_ne (tgt := 135) hx hb d_M_checkIn_128 (by decide) (fun c_38 => ?_) (fun c_38 => ?_)
                    · have c_38 : ¬ ((a 6) (j)) = 0 := c_38
                      refine lv_iconst (v := 1) hx hb d_M_checkIn_135 (by decide) ?_
                      exact W.iret (v := 1) hx hb hr (fun t ht hW => ⟨⟨1, (28, bk, MW cs 0 z (va_up (va_up (va_up a 6 (upd (a 6) (j) (3))) 10 (upd (a 10) (j) (many))) 11 (upd (a 11) (j) (day))) bk), rfl, Mr_of (by rw [s_M_checkIn, if_pos c_5, if_pos c_7, if_neg c_8, if_neg c_19, if_pos c_30, if_neg c_34, if_neg c_35, if_pos c_37, if_neg c_38]), by rw [ht]; exact hP, va_K.moved hW.alike hK, hD⟩, hS.F ht⟩) hS.2.2 d_M_checkIn_136
                    · have c_38 : ((a 6) (j)) = 0 := c_38
                      refine lv_iconst (v := 0) hx hb d_M_checkIn_131 (by decide) ?_
                      refine lv_goto (tgt := 136) hx hb d_M_checkIn_132 (by decide) ?_
                      exact W.iret (v := 0) hx hb hr (fun t ht hW => ⟨⟨0, (28, bk, MW cs 0 z (va_up (va_up (va_up a 6 (upd (a 6) (j) (3))) 10 (upd (a 10) (j) (many))) 11 (upd (a 11) (j) (day))) bk), rfl, Mr_of (by rw [s_M_checkIn, if_pos c_5, if_pos c_7, if_neg c_8, if_neg c_19, if_pos c_30, if_neg c_34, if_neg c_35, if_pos c_37, if_pos c_38]), by rw [ht]; exact hP, va_K.moved hW.alike hK, hD⟩, hS.F ht⟩) hS.2.2 d_M_checkIn_136
                  · have c_37 : ¬ day ≤ ((a 7) (j)) := c_37
                    refine lv_aload_n hx hb d_M_checkIn_120 rfl (lv_at hl 1 rfl) ?_
                    refine lv_iconst (v := 2) hx hb d_M_checkIn_121 (by decide) ?_
                    refine lv_iload_n hx hb d_M_checkIn_122 rfl (lv_at hl 2 rfl) ?_
                    refine pm_callv (va_runV (As := [.int (2), .int (nI j)]) (rest := []) ⟨hx, hb, hml, hown, hw⟩ (c_M_tell l D cs bk H.size 0 z (va_up (va_up (va_up a 6 (upd (a 6) (j) (3))) 10 (upd (a 10) (j) (many))) 11 (upd (a 11) (j) (day))) hz4 2 (nI j)) (cw_V 2 hw kM_M_118 kI_M_tell kV_M_tell kZ_M kC_M_tell rfl rfl ⟨rfl, by decide, by decide, by decide +kernel⟩ ⟨Nat.le_of_ble_eq_true rfl, Nat.le_of_ble_eq_true rfl⟩) (pw_preV hN hK hP hD (0) (by decide) rfl rfl) rfl rfl hl.1 rfl (lv_room (Nat.le_of_ble_eq_true rfl)) d_M_checkIn_123 ⟨Nat.le_of_ble_eq_true rfl, Nat.le_of_ble_eq_true rfl⟩) hS (wl_free hD hS hA) (fun H locs hP hD hS => ?_)
                    refine lv_iload hx hb d_M_checkIn_126 (lv_at hl 0 rfl) ?_
                    refine lv_if_ne (tgt := 135) hx hb d_M_checkIn_128 (by decide) (fun c_39 => ?_) (fun c_39 => ?_)
                    · have c_39 : ¬ ((a 6) (j)) = 0 := c_39
                      refine lv_iconst (v := 1) hx hb d_M_checkIn_135 (by decide) ?_
                      exact W.iret (v := 1) hx hb hr (fun t ht hW => ⟨⟨1, (28, bk, MW cs ((s_M_tell 0 z (va_up (va_up (va_up a 6 (upd (a 6) (j) (3))) 10 (upd (a 10) (j) (many))) 11 (upd (a 11) (j) (day))) 2 (nI j)).2.1) ((s_M_tell 0 z (va_up (va_up (va_up a 6 (upd (a 6) (j) (3))) 10 (upd (a 10) (j) (many))) 11 (upd (a 11) (j) (day))) 2 (nI j)).2.2.1) ((s_M_tell 0 z (va_up (va_up (va_up a 6 (upd (a 6) (j) (3))) 10 (upd (a 10) (j) (many))) 11 (upd (a 11) (j) (day))) 2 (nI j)).2.2.2) bk), rfl, Mr_of (by rw [s_M_checkIn, if_pos c_5, if_pos c_7, if_neg c_8, if_neg c_19, if_pos c_30, if_neg c_34, if_neg c_35, if_neg c_37, if_neg c_39]), by rw [ht]; exact hP, va_K.moved hW.alike hK, hD⟩, hS.F ht⟩) hS.2.2 d_M_checkIn_136
                    · have c_39 : ((a 6) (j)) = 0 := c_39
                      refine lv_iconst (v := 0) hx hb d_M_checkIn_131 (by decide) ?_
                      refine lv_goto (tgt := 136) hx hb d_M_checkIn_132 (by decide) ?_
                      exact W.iret (v := 0) hx hb hr (fun t ht hW => ⟨⟨0, (28, bk, MW cs ((s_M_tell 0 z (va_up (va_up (va_up a 6 (upd (a 6) (j) (3))) 10 (upd (a 10) (j) (many))) 11 (upd (a 11) (j) (day))) 2 (nI j)).2.1) ((s_M_tell 0 z (va_up (va_up (va_up a 6 (upd (a 6) (j) (3))) 10 (upd (a 10) (j) (many))) 11 (upd (a 11) (j) (day))) 2 (nI j)).2.2.1) ((s_M_tell 0 z (va_up (va_up (va_up a 6 (upd (a 6) (j) (3))) 10 (upd (a 10) (j) (many))) 11 (upd (a 11) (j) (day))) 2 (nI j)).2.2.2) bk), rfl, Mr_of (by rw [s_M_checkIn, if_pos c_5, if_pos c_7, if_neg c_8, if_neg c_19, if_pos c_30, if_neg c_34, if_neg c_35, if_neg c_37, if_pos c_39]), by rw [ht]; exact hP, va_K.moved hW.alike hK, hD⟩, hS.F ht⟩) hS.2.2 d_M_checkIn_136
              · have c_34 : ((a 6) (j)) = 0 := c_34
                refine lv_aload_n hx hb d_M_checkIn_95 rfl (lv_at hl 1 rfl) ?_
                refine lv_iconst (v := 1) hx hb d_M_checkIn_96 (by decide) ?_
                refine lv_iload_n hx hb d_M_checkIn_97 rfl (lv_at hl 2 rfl) ?_
                refine pm_callv (va_runV (As := [.int (1), .int (nI j)]) (rest := []) ⟨hx, hb, hml, hown, hw⟩ (c_M_tell l D cs bk H.size 0 z (va_up (va_up (va_up a 6 (upd (a 6) (j) (3))) 10 (upd (a 10) (j) (many))) 11 (upd (a 11) (j) (day))) hz4 1 (nI j)) (cw_V 2 hw kM_M_118 kI_M_tell kV_M_tell kZ_M kC_M_tell rfl rfl ⟨rfl, by decide, by decide, by decide +kernel⟩ ⟨Nat.le_of_ble_eq_true rfl, Nat.le_of_ble_eq_true rfl⟩) (pw_preV hN hK hP hD (0) (by decide) rfl rfl) rfl rfl hl.1 rfl (lv_room (Nat.le_of_ble_eq_true rfl)) d_M_checkIn_98 ⟨Nat.le_of_ble_eq_true rfl, Nat.le_of_ble_eq_true rfl⟩) hS (wl_free hD hS hA) (fun H locs hP hD hS => ?_)
                refine lv_goto (tgt := 126) hx hb d_M_checkIn_101 (by decide) ?_
                refine lv_iload hx hb d_M_checkIn_126 (lv_at hl 0 rfl) ?_
                refine lv_if_ne (tgt := 135) hx hb d_M_checkIn_128 (by decide) (fun c_40 => ?_) (fun c_40 => ?_)
                · have c_40 : ¬ ((a 6) (j)) = 0 := c_40
                  refine lv_iconst (v := 1) hx hb d_M_checkIn_135 (by decide) ?_
                  exact W.iret (v := 1) hx hb hr (fun t ht hW => ⟨⟨1, (28, bk, MW cs ((s_M_tell 0 z (va_up (va_up (va_up a 6 (upd (a 6) (j) (3))) 10 (upd (a 10) (j) (many))) 11 (upd (a 11) (j) (day))) 1 (nI j)).2.1) ((s_M_tell 0 z (va_up (va_up (va_up a 6 (upd (a 6) (j) (3))) 10 (upd (a 10) (j) (many))) 11 (upd (a 11) (j) (day))) 1 (nI j)).2.2.1) ((s_M_tell 0 z (va_up (va_up (va_up a 6 (upd (a 6) (j) (3))) 10 (upd (a 10) (j) (many))) 11 (upd (a 11) (j) (day))) 1 (nI j)).2.2.2) bk), rfl, Mr_of (by rw [s_M_checkIn, if_pos c_5, if_pos c_7, if_neg c_8, if_neg c_19, if_pos c_30, if_pos c_34, if_neg c_40]), by rw [ht]; exact hP, va_K.moved hW.alike hK, hD⟩, hS.F ht⟩) hS.2.2 d_M_checkIn_136
                · have c_40 : ((a 6) (j)) = 0 := c_40
                  refine lv_iconst (v := 0) hx hb d_M_checkIn_131 (by decide) ?_
                  refine lv_goto (tgt := 136) hx hb d_M_checkIn_132 (by decide) ?_
                  exact W.iret (v := 0) hx hb hr (fun t ht hW => ⟨⟨0, (28, bk, MW cs ((s_M_tell 0 z (va_up (va_up (va_up a 6 (upd (a 6) (j) (3))) 10 (upd (a 10) (j) (many))) 11 (upd (a 11) (j) (day))) 1 (nI j)).2.1) ((s_M_tell 0 z (va_up (va_up (va_up a 6 (upd (a 6) (j) (3))) 10 (upd (a 10) (j) (many))) 11 (upd (a 11) (j) (day))) 1 (nI j)).2.2.1) ((s_M_tell 0 z (va_up (va_up (va_up a 6 (upd (a 6) (j) (3))) 10 (upd (a 10) (j) (many))) 11 (upd (a 11) (j) (day))) 1 (nI j)).2.2.2) bk), rfl, Mr_of (by rw [s_M_checkIn, if_pos c_5, if_pos c_7, if_neg c_8, if_neg c_19, if_pos c_30, if_pos c_34, if_pos c_40]), by rw [ht]; exact hP, va_K.moved hW.alike hK, hD⟩, hS.F ht⟩) hS.2.2 d_M_checkIn_136
            · have c_30 : ¬ ((a 6) (j)) = 2 := c_30
              refine lv_iload hx hb d_M_checkIn_60 (lv_at hl 0 rfl) ?_
              refine lv_iconst (v := 4) hx hb d_M_checkIn_62 (by decide) ?_
              refine lv_icmp_eq (tgt := 69) hx hb d_M_checkIn_63 (by decide) (fun c_41 => ?_) (fun c_41 => ?_)
              · have c_41 : ((a 6) (j)) = 4 := c_41
                refine lv_aload_n hx hb d_M_checkIn_69 rfl (lv_at hl 1 rfl) ?_
                refine pw_get (ci := 7) (v := .ref (bk (6))) hx hb hw i_M hown hK hP (0) (by decide) rfl rfl 7 (by decide) (hw _ kF_M_25) rfl d_M_checkIn_70 ?_
                refine lv_iload_n hx hb d_M_checkIn_73 rfl (lv_at hl 2 rfl) ?_
                refine lv_iconst (v := 3) hx hb d_M_checkIn_74 (by decide) ?_
                refine pw_iast (n := 200) (f := (a 6)) hx hb hK hP hD hS 0 (6) (by decide) rfl rfl (j) rfl (by omega) (by decide) d_M_checkIn_75 (fun cw_42 H locs ecw_42 hP hD hS => ?_)
                obtain rfl : cw_42 = MW cs 0 z (va_up a 6 (upd (a 6) (j) (3))) bk := by rw [ecw_42]; exact MW_arr 6 (by decide) (upd (a 6) (j) (3))
                refine lv_aload_n hx hb d_M_checkIn_76 rfl (lv_at hl 1 rfl) ?_
                refine pw_get (ci := 7) (v := .ref (bk (10))) hx hb hw i_M hown hK hP (0) (by decide) rfl rfl 11 (by decide) (hw _ kF_M_37) rfl d_M_checkIn_77 ?_
                refine lv_iload_n hx hb d_M_checkIn_80 rfl (lv_at hl 2 rfl) ?_
                refine lv_iload_n hx hb d_M_checkIn_81 rfl (lv_at hl 3 rfl) ?_
                refine pw_iast (n := 200) (f := (a 10)) hx hb hK hP hD hS 0 (10) (by decide) rfl rfl (j) rfl (by omega) (by decide) d_M_checkIn_82 (fun cw_43 H locs ecw_43 hP hD hS => ?_)
                obtain rfl : cw_43 = MW cs 0 z (va_up (va_up a 6 (upd (a 6) (j) (3))) 10 (upd (a 10) (j) (many))) bk := by rw [ecw_43]; exact MW_arr 10 (by decide) (upd (a 10) (j) (many))
                refine lv_aload_n hx hb d_M_checkIn_83 rfl (lv_at hl 1 rfl) ?_
                refine pw_get (ci := 7) (v := .ref (bk (11))) hx hb hw i_M hown hK hP (0) (by decide) rfl rfl 12 (by decide) (hw _ kF_M_40) rfl d_M_checkIn_84 ?_
                refine lv_iload_n hx hb d_M_checkIn_87 rfl (lv_at hl 2 rfl) ?_
                refine lv_iload_n hx hb d_M_checkIn_88 rfl (lv_at hl 4 rfl) ?_
                refine pw_iast (n := 200) (f := (a 11)) hx hb hK hP hD hS 0 (11) (by decide) rfl rfl (j) rfl (by omega) (by decide) d_M_checkIn_89 (fun cw_44 H locs ecw_44 hP hD hS => ?_)
                obtain rfl : cw_44 = MW cs 0 z (va_up (va_up (va_up a 6 (upd (a 6) (j) (3))) 10 (upd (a 10) (j) (many))) 11 (upd (a 11) (j) (day))) bk := by rw [ecw_44]; exact MW_arr 11 (by decide) (upd (a 11) (j) (day))
                refine lv_iload hx hb d_M_checkIn_90 (lv_at hl 0 rfl) ?_
                refine lv_if_ne (tgt := 104) hx hb d_M_checkIn_92 (by decide) (fun c_45 => ?_) (fun c_45 => ?_)
                · have c_45 : ¬ ((a 6) (j)) = 0 := c_45
                  refine lv_iload hx hb d_M_checkIn_104 (lv_at hl 0 rfl) ?_
                  refine lv_iconst (v := 4) hx hb d_M_checkIn_106 (by decide) ?_
                  refine lv_icmp_eq (tgt := 120) hx hb d_M_checkIn_107 (by decide) (fun c_46 => ?_) (fun c_46 => ?_)
                  · have c_46 : ((a 6) (j)) = 4 := c_46
                    refine lv_aload_n hx hb d_M_checkIn_120 rfl (lv_at hl 1 rfl) ?_
                    refine lv_iconst (v := 2) hx hb d_M_checkIn_121 (by decide) ?_
                    refine lv_iload_n hx hb d_M_checkIn_122 rfl (lv_at hl 2 rfl) ?_
                    refine pm_callv (va_runV (As := [.int (2), .int (nI j)]) (rest := []) ⟨hx, hb, hml, hown, hw⟩ (c_M_tell l D cs bk H.size 0 z (va_up (va_up (va_up a 6 (upd (a 6) (j) (3))) 10 (upd (a 10) (j) (many))) 11 (upd (a 11) (j) (day))) hz4 2 (nI j)) (cw_V 2 hw kM_M_118 kI_M_tell kV_M_tell kZ_M kC_M_tell rfl rfl ⟨rfl, by decide, by decide, by decide +kernel⟩ ⟨Nat.le_of_ble_eq_true rfl, Nat.le_of_ble_eq_true rfl⟩) (pw_preV hN hK hP hD (0) (by decide) rfl rfl) rfl rfl hl.1 rfl (lv_room (Nat.le_of_ble_eq_true rfl)) d_M_checkIn_123 ⟨Nat.le_of_ble_eq_true rfl, Nat.le_of_ble_eq_true rfl⟩) hS (wl_free hD hS hA) (fun H locs hP hD hS => ?_)
                    refine lv_iload hx hb d_M_checkIn_126 (lv_at hl 0 rfl) ?_
                    refine lv_if_ne (tgt := 135) hx hb d_M_checkIn_128 (by decide) (fun c_47 => ?_) (fun c_47 => ?_)
                    · have c_47 : ¬ ((a 6) (j)) = 0 := c_47
                      refine lv_iconst (v := 1) hx hb d_M_checkIn_135 (by decide) ?_
                      exact W.iret (v := 1) hx hb hr (fun t ht hW => ⟨⟨1, (28, bk, MW cs ((s_M_tell 0 z (va_up (va_up (va_up a 6 (upd (a 6) (j) (3))) 10 (upd (a 10) (j) (many))) 11 (upd (a 11) (j) (day))) 2 (nI j)).2.1) ((s_M_tell 0 z (va_up (va_up (va_up a 6 (upd (a 6) (j) (3))) 10 (upd (a 10) (j) (many))) 11 (upd (a 11) (j) (day))) 2 (nI j)).2.2.1) ((s_M_tell 0 z (va_up (va_up (va_up a 6 (upd (a 6) (j) (3))) 10 (upd (a 10) (j) (many))) 11 (upd (a 11) (j) (day))) 2 (nI j)).2.2.2) bk), rfl, Mr_of (by rw [s_M_checkIn, if_pos c_5, if_pos c_7, if_neg c_8, if_neg c_19, if_neg c_30, if_pos c_41, if_neg c_45, if_pos c_46, if_neg c_47]), by rw [ht]; exact hP, va_K.moved hW.alike hK, hD⟩, hS.F ht⟩) hS.2.2 d_M_checkIn_136
                    · have c_47 : ((a 6) (j)) = 0 := c_47
                      refine lv_iconst (v := 0) hx hb d_M_checkIn_131 (by decide) ?_
                      refine lv_goto (tgt := 136) hx hb d_M_checkIn_132 (by decide) ?_
                      exact W.iret (v := 0) hx hb hr (fun t ht hW => ⟨⟨0, (28, bk, MW cs ((s_M_tell 0 z (va_up (va_up (va_up a 6 (upd (a 6) (j) (3))) 10 (upd (a 10) (j) (many))) 11 (upd (a 11) (j) (day))) 2 (nI j)).2.1) ((s_M_tell 0 z (va_up (va_up (va_up a 6 (upd (a 6) (j) (3))) 10 (upd (a 10) (j) (many))) 11 (upd (a 11) (j) (day))) 2 (nI j)).2.2.1) ((s_M_tell 0 z (va_up (va_up (va_up a 6 (upd (a 6) (j) (3))) 10 (upd (a 10) (j) (many))) 11 (upd (a 11) (j) (day))) 2 (nI j)).2.2.2) bk), rfl, Mr_of (by rw [s_M_checkIn, if_pos c_5, if_pos c_7, if_neg c_8, if_neg c_19, if_neg c_30, if_pos c_41, if_neg c_45, if_pos c_46, if_pos c_47]), by rw [ht]; exact hP, va_K.moved hW.alike hK, hD⟩, hS.F ht⟩) hS.2.2 d_M_checkIn_136
                  · have c_46 : ¬ ((a 6) (j)) = 4 := c_46
                    refine lv_iload_n hx hb d_M_checkIn_110 rfl (lv_at hl 4 rfl) ?_
                    refine lv_aload_n hx hb d_M_checkIn_111 rfl (lv_at hl 1 rfl) ?_
                    refine pw_get (ci := 7) (v := .ref (bk (7))) hx hb hw i_M hown hK hP (0) (by decide) rfl rfl 8 (by decide) (hw _ kF_M_28) rfl d_M_checkIn_112 ?_
                    refine lv_iload_n hx hb d_M_checkIn_115 rfl (lv_at hl 2 rfl) ?_
                    refine pw_iald (n := 200) (f := (a 7)) hx hb hK hP 0 (7) (by decide) rfl rfl (j) rfl (by omega) (by decide) d_M_checkIn_116 ?_
                    refine lv_icmp_le (tgt := 126) hx hb d_M_checkIn_117 (by decide) (fun c_48 => ?_) (fun c_48 => ?_)
                    · have c_48 : day ≤ ((a 7) (j)) := c_48
                      refine lv_iload hx hb d_M_checkIn_126 (lv_at hl 0 rfl) ?_
                      refine lv_if_ne (tgt := 135) hx hb d_M_checkIn_128 (by decide) (fun c_49 => ?_) (fun c_49 => ?_)
                      · have c_49 : ¬ ((a 6) (j)) = 0 := c_49
                        refine lv_iconst (v := 1) hx hb d_M_checkIn_135 (by decide) ?_
                        exact W.iret (v := 1) hx hb hr (fun t ht hW => ⟨⟨1, (28, bk, MW cs 0 z (va_up (va_up (va_up a 6 (upd (a 6) (j) (3))) 10 (upd (a 10) (j) (many))) 11 (upd (a 11) (j) (day))) bk), rfl, Mr_of (by rw [s_M_checkIn, if_pos c_5, if_pos c_7, if_neg c_8, if_neg c_19, if_neg c_30, if_pos c_41, if_neg c_45, if_neg c_46, if_pos c_48, if_neg c_49]), by rw [ht]; exact hP, va_K.moved hW.alike hK, hD⟩, hS.F ht⟩) hS.2.2 d_M_checkIn_136
                      · have c_49 : ((a 6) (j)) = 0 := c_49
                        refine lv_iconst (v := 0) hx hb d_M_checkIn_131 (by decide) ?_
                        refine lv_goto (tgt := 136) hx hb d_M_checkIn_132 (by decide) ?_
                        exact W.iret (v := 0) hx hb hr (fun t ht hW => ⟨⟨0, (28, bk, MW cs 0 z (va_up (va_up (va_up a 6 (upd (a 6) (j) (3))) 10 (upd (a 10) (j) (many))) 11 (upd (a 11) (j) (day))) bk), rfl, Mr_of (by rw [s_M_checkIn, if_pos c_5, if_pos c_7, if_neg c_8, if_neg c_19, if_neg c_30, if_pos c_41, if_neg c_45, if_neg c_46, if_pos c_48, if_pos c_49]), by rw [ht]; exact hP, va_K.moved hW.alike hK, hD⟩, hS.F ht⟩) hS.2.2 d_M_checkIn_136
                    · have c_48 : ¬ day ≤ ((a 7) (j)) := c_48
                      refine lv_aload_n hx hb d_M_checkIn_120 rfl (lv_at hl 1 rfl) ?_
                      refine lv_iconst (v := 2) hx hb d_M_checkIn_121 (by decide) ?_
                      refine lv_iload_n hx hb d_M_checkIn_122 rfl (lv_at hl 2 rfl) ?_
                      refine pm_callv (va_runV (As := [.int (2), .int (nI j)]) (rest := []) ⟨hx, hb, hml, hown, hw⟩ (c_M_tell l D cs bk H.size 0 z (va_up (va_up (va_up a 6 (upd (a 6) (j) (3))) 10 (upd (a 10) (j) (many))) 11 (upd (a 11) (j) (day))) hz4 2 (nI j)) (cw_V 2 hw kM_M_118 kI_M_tell kV_M_tell kZ_M kC_M_tell rfl rfl ⟨rfl, by decide, by decide, by decide +kernel⟩ ⟨Nat.le_of_ble_eq_true rfl, Nat.le_of_ble_eq_true rfl⟩) (pw_preV hN hK hP hD (0) (by decide) rfl rfl) rfl rfl hl.1 rfl (lv_room (Nat.le_of_ble_eq_true rfl)) d_M_checkIn_123 ⟨Nat.le_of_ble_eq_true rfl, Nat.le_of_ble_eq_true rfl⟩) hS (wl_free hD hS hA) (fun H locs hP hD hS => ?_)
                      refine lv_iload hx hb d_M_checkIn_126 (lv_at hl 0 rfl) ?_
                      refine lv_if_ne (tgt := 135) hx hb d_M_checkIn_128 (by decide) (fun c_50 => ?_) (fun c_50 => ?_)
                      · have c_50 : ¬ ((a 6) (j)) = 0 := c_50
                        refine lv_iconst (v := 1) hx hb d_M_checkIn_135 (by decide) ?_
                        exact W.iret (v := 1) hx hb hr (fun t ht hW => ⟨⟨1, (28, bk, MW cs ((s_M_tell 0 z (va_up (va_up (va_up a 6 (upd (a 6) (j) (3))) 10 (upd (a 10) (j) (many))) 11 (upd (a 11) (j) (day))) 2 (nI j)).2.1) ((s_M_tell 0 z (va_up (va_up (va_up a 6 (upd (a 6) (j) (3))) 10 (upd (a 10) (j) (many))) 11 (upd (a 11) (j) (day))) 2 (nI j)).2.2.1) ((s_M_tell 0 z (va_up (va_up (va_up a 6 (upd (a 6) (j) (3))) 10 (upd (a 10) (j) (many))) 11 (upd (a 11) (j) (day))) 2 (nI j)).2.2.2) bk), rfl, Mr_of (by rw [s_M_checkIn, if_pos c_5, if_pos c_7, if_neg c_8, if_neg c_19, if_neg c_30, if_pos c_41, if_neg c_45, if_neg c_46, if_neg c_48, if_neg c_50]), by rw [ht]; exact hP, va_K.moved hW.alike hK, hD⟩, hS.F ht⟩) hS.2.2 d_M_checkIn_136
                      · have c_50 : ((a 6) (j)) = 0 := c_50
                        refine lv_iconst (v := 0) hx hb d_M_checkIn_131 (by decide) ?_
                        refine lv_goto (tgt := 136) hx hb d_M_checkIn_132 (by decide) ?_
                        exact W.iret (v := 0) hx hb hr (fun t ht hW => ⟨⟨0, (28, bk, MW cs ((s_M_tell 0 z (va_up (va_up (va_up a 6 (upd (a 6) (j) (3))) 10 (upd (a 10) (j) (many))) 11 (upd (a 11) (j) (day))) 2 (nI j)).2.1) ((s_M_tell 0 z (va_up (va_up (va_up a 6 (upd (a 6) (j) (3))) 10 (upd (a 10) (j) (many))) 11 (upd (a 11) (j) (day))) 2 (nI j)).2.2.1) ((s_M_tell 0 z (va_up (va_up (va_up a 6 (upd (a 6) (j) (3))) 10 (upd (a 10) (j) (many))) 11 (upd (a 11) (j) (day))) 2 (nI j)).2.2.2) bk), rfl, Mr_of (by rw [s_M_checkIn, if_pos c_5, if_pos c_7, if_neg c_8, if_neg c_19, if_neg c_30, if_pos c_41, if_neg c_45, if_neg c_46, if_neg c_48, if_pos c_50]), by rw [ht]; exact hP, va_K.moved hW.alike hK, hD⟩, hS.F ht⟩) hS.2.2 d_M_checkIn_136
                · have c_45 : ((a 6) (j)) = 0 := c_45
                  refine lv_aload_n hx hb d_M_checkIn_95 rfl (lv_at hl 1 rfl) ?_
                  refine lv_iconst (v := 1) hx hb d_M_checkIn_96 (by decide) ?_
                  refine lv_iload_n hx hb d_M_checkIn_97 rfl (lv_at hl 2 rfl) ?_
                  refine pm_callv (va_runV (As := [.int (1), .int (nI j)]) (rest := []) ⟨hx, hb, hml, hown, hw⟩ (c_M_tell l D cs bk H.size 0 z (va_up (va_up (va_up a 6 (upd (a 6) (j) (3))) 10 (upd (a 10) (j) (many))) 11 (upd (a 11) (j) (day))) hz4 1 (nI j)) (cw_V 2 hw kM_M_118 kI_M_tell kV_M_tell kZ_M kC_M_tell rfl rfl ⟨rfl, by decide, by decide, by decide +kernel⟩ ⟨Nat.le_of_ble_eq_true rfl, Nat.le_of_ble_eq_true rfl⟩) (pw_preV hN hK hP hD (0) (by decide) rfl rfl) rfl rfl hl.1 rfl (lv_room (Nat.le_of_ble_eq_true rfl)) d_M_checkIn_98 ⟨Nat.le_of_ble_eq_true rfl, Nat.le_of_ble_eq_true rfl⟩) hS (wl_free hD hS hA) (fun H locs hP hD hS => ?_)
                  refine lv_goto (tgt := 126) hx hb d_M_checkIn_101 (by decide) ?_
                  refine lv_iload hx hb d_M_checkIn_126 (lv_at hl 0 rfl) ?_
                  refine lv_if_ne (tgt := 135) hx hb d_M_checkIn_128 (by decide) (fun c_51 => ?_) (fun c_51 => ?_)
                  · have c_51 : ¬ ((a 6) (j)) = 0 := c_51
                    refine lv_iconst (v := 1) hx hb d_M_checkIn_135 (by decide) ?_
                    exact W.iret (v := 1) hx hb hr (fun t ht hW => ⟨⟨1, (28, bk, MW cs ((s_M_tell 0 z (va_up (va_up (va_up a 6 (upd (a 6) (j) (3))) 10 (upd (a 10) (j) (many))) 11 (upd (a 11) (j) (day))) 1 (nI j)).2.1) ((s_M_tell 0 z (va_up (va_up (va_up a 6 (upd (a 6) (j) (3))) 10 (upd (a 10) (j) (many))) 11 (upd (a 11) (j) (day))) 1 (nI j)).2.2.1) ((s_M_tell 0 z (va_up (va_up (va_up a 6 (upd (a 6) (j) (3))) 10 (upd (a 10) (j) (many))) 11 (upd (a 11) (j) (day))) 1 (nI j)).2.2.2) bk), rfl, Mr_of (by rw [s_M_checkIn, if_pos c_5, if_pos c_7, if_neg c_8, if_neg c_19, if_neg c_30, if_pos c_41, if_pos c_45, if_neg c_51]), by rw [ht]; exact hP, va_K.moved hW.alike hK, hD⟩, hS.F ht⟩) hS.2.2 d_M_checkIn_136
                  · have c_51 : ((a 6) (j)) = 0 := c_51
                    refine lv_iconst (v := 0) hx hb d_M_checkIn_131 (by decide) ?_
                    refine lv_goto (tgt := 136) hx hb d_M_checkIn_132 (by decide) ?_
                    exact W.iret (v := 0) hx hb hr (fun t ht hW => ⟨⟨0, (28, bk, MW cs ((s_M_tell 0 z (va_up (va_up (va_up a 6 (upd (a 6) (j) (3))) 10 (upd (a 10) (j) (many))) 11 (upd (a 11) (j) (day))) 1 (nI j)).2.1) ((s_M_tell 0 z (va_up (va_up (va_up a 6 (upd (a 6) (j) (3))) 10 (upd (a 10) (j) (many))) 11 (upd (a 11) (j) (day))) 1 (nI j)).2.2.1) ((s_M_tell 0 z (va_up (va_up (va_up a 6 (upd (a 6) (j) (3))) 10 (upd (a 10) (j) (many))) 11 (upd (a 11) (j) (day))) 1 (nI j)).2.2.2) bk), rfl, Mr_of (by rw [s_M_checkIn, if_pos c_5, if_pos c_7, if_neg c_8, if_neg c_19, if_neg c_30, if_pos c_41, if_pos c_45, if_pos c_51]), by rw [ht]; exact hP, va_K.moved hW.alike hK, hD⟩, hS.F ht⟩) hS.2.2 d_M_checkIn_136
              · have c_41 : ¬ ((a 6) (j)) = 4 := c_41
                refine lv_bipush (v := -3) hx hb d_M_checkIn_66 (by decide) ?_
                exact W.iret (v := -3) hx hb hr (fun t ht hW => ⟨⟨-3, (28, bk, MW cs 0 z a bk), rfl, Mr_of (by rw [s_M_checkIn, if_pos c_5, if_pos c_7, if_neg c_8, if_neg c_19, if_neg c_30, if_neg c_41]), by rw [ht]; exact hP, va_K.moved hW.alike hK, hD⟩, hS.F ht⟩) hS.2.2 d_M_checkIn_68
      · have c_7 : ¬ (0 ≤ day ∧ day ≤ 1000000) := c_7
        refine lv_bipush (v := -2) hx hb d_M_checkIn_32 (by decide) ?_
        exact W.iret (v := -2) hx hb hr (fun t ht hW => ⟨⟨-2, (28, bk, MW cs 0 z a bk), rfl, Mr_of (by rw [s_M_checkIn, if_pos c_5, if_neg c_7]), by rw [ht]; exact hP, va_K.moved hW.alike hK, hD⟩, hS.F ht⟩) hS.2.2 d_M_checkIn_34
  · have c_3 : ¬ (0 ≤ (nI j) ∧ (nI j) < nI (z 0)) := c_3
    exact absurd ⟨nI_pos' (by omega), (nI_ltI (by omega) (by omega)).mpr hj⟩ c_3
end
section
def s_M_askFor (th : Int32) (z : Nat → Nat) (a : Nat → Nat → Int32) (j : Nat) (day : Int32) : MS := (if ((a 6) (j)) = 1 then (if (day - ((a 7) (j))) < ((a 1) ((a 4) (j)).toNatClampNeg) then (0, th, z, a) else (if ((a 8) (j)) < ((a 3) ((a 4) (j)).toNatClampNeg) then (0, th, va_up z 1 ((z 1) + 1), va_up (va_up (va_up (va_up (va_up a 6 (upd (a 6) (j) (2))) 8 (upd (a 8) (j) (((a 8) (j)) + 1))) 9 (upd (a 9) (j) (day))) 21 (upd (a 21) (z 1) (nI j))) 22 (upd (a 22) (z 1) ((upd (a 8) (j) (((a 8) (j)) + 1)) (j)))) else (0, (s_M_tell th z (va_up a 6 (upd (a 6) (j) (4))) 3 (nI j)).2.1, (s_M_tell th z (va_up a 6 (upd (a 6) (j) (4))) 3 (nI j)).2.2.1, (s_M_tell th z (va_up a 6 (upd (a 6) (j) (4))) 3 (nI j)).2.2.2))) else (if ((a 6) (j)) = 2 then (if (day - ((a 9) (j))) < ((a 2) ((a 4) (j)).toNatClampNeg) then (0, th, z, a) else (if ((a 8) (j)) < ((a 3) ((a 4) (j)).toNatClampNeg) then (0, th, va_up z 1 ((z 1) + 1), va_up (va_up (va_up (va_up (va_up a 6 (upd (a 6) (j) (2))) 8 (upd (a 8) (j) (((a 8) (j)) + 1))) 9 (upd (a 9) (j) (day))) 21 (upd (a 21) (z 1) (nI j))) 22 (upd (a 22) (z 1) ((upd (a 8) (j) (((a 8) (j)) + 1)) (j)))) else (0, (s_M_tell th z (va_up a 6 (upd (a 6) (j) (4))) 3 (nI j)).2.1, (s_M_tell th z (va_up a 6 (upd (a 6) (j) (4))) 3 (nI j)).2.2.1, (s_M_tell th z (va_up a 6 (upd (a 6) (j) (4))) 3 (nI j)).2.2.2))) else (0, th, z, a)))
set_option maxHeartbeats 4000000 in
set_option maxRecDepth 100000 in
theorem c_M_askFor (l : Launch) (D : va_G) (cs : Nat → ClassId) (bk : Nat → Nat) (sz : Nat) (th : Int32) (z : Nat → Nat) (a : Nat → Nat → Int32) (j : Nat) (hj : j < 200) (hz4 : z 4 ≤ 100) (hz1 : z 1 < 200) (hpa : 0 ≤ a 4 j ∧ a 4 j ≤ 9) (day : Int32) : Met l y_M_askFor w_M_askFor ({ frames := 1, cells := 0, slots := 0, locals := 22 }) (va_Pc [.ref (bk (0)), .int (nI j), .int (day)] (PB D classes (TY cs) 28 bk (MW cs th z a bk) sz)) (va_Qv (Mv cs bk (s_M_askFor th z a j day)) (Wd D classes (TY cs) (AA 28 bk sz)) (AA 28 bk sz)) 0 0 (AA 28 bk sz) := by
  refine pw_entry (cc := b_M_askFor) (maxL := 5) (ret := none) (by decide +kernel) rfl (Nat.le_of_ble_eq_true rfl) ?_
  intro p_ e_ s m below_ meth_ c_ ls hx hb hr hml hts hown hlocks hin hsz hP hK hD hS hA hN hl
  have hw : ∀ w ∈ WA, w.before _ s = true := fun w h => hts w (List.mem_cons_of_mem _ h)
  have hown : s.vm.findClass "IssueRowsModel" = some m.cls := hown
  have hl : lv_has ls 5 [(0, .ref (bk (0))), (1, .int (nI j)), (2, .int (day))] := hl
  refine lv_aload_n hx hb d_M_askFor_0 rfl (lv_at hl 0 rfl) ?_
  refine pw_get (ci := 7) (v := .ref (bk (4))) hx hb hw i_M hown hK hP (0) (by decide) rfl rfl 5 (by decide) (hw _ kF_M_19) rfl d_M_askFor_1 ?_
  refine lv_iload_n hx hb d_M_askFor_4 rfl (lv_at hl 1 rfl) ?_
  refine pw_iald (n := 200) (f := (a 4)) hx hb hK hP 0 (4) (by decide) rfl rfl (j) rfl (by omega) (by decide) d_M_askFor_5 ?_
  refine lv_istore_n (lv' := [(3, .int ((a 4) (j))), (0, .ref (bk (0))), (1, .int (nI j)), (2, .int (day))]) hx hb d_M_askFor_6 rfl hl (by decide) rfl (fun ls hl => ?_)
  refine lv_aload_n hx hb d_M_askFor_7 rfl (lv_at hl 1 rfl) ?_
  refine pw_get (ci := 7) (v := .ref (bk (6))) hx hb hw i_M hown hK hP (0) (by decide) rfl rfl 7 (by decide) (hw _ kF_M_25) rfl d_M_askFor_8 ?_
  refine lv_iload_n hx hb d_M_askFor_11 rfl (lv_at hl 2 rfl) ?_
  refine pw_iald (n := 200) (f := (a 6)) hx hb hK hP 0 (6) (by decide) rfl rfl (j) rfl (by omega) (by decide) d_M_askFor_12 ?_
  refine lv_iconst (v := 1) hx hb d_M_askFor_13 (by decide) ?_
  refine lv_icmp_ne (tgt := 42) hx hb d_M_askFor_14 (by decide) (fun c_1 => ?_) (fun c_1 => ?_)
  · have c_1 : ¬ ((a 6) (j)) = 1 := c_1
    refine lv_aload_n hx hb d_M_askFor_42 rfl (lv_at hl 1 rfl) ?_
    refine pw_get (ci := 7) (v := .ref (bk (6))) hx hb hw i_M hown hK hP (0) (by decide) rfl rfl 7 (by decide) (hw _ kF_M_25) rfl d_M_askFor_43 ?_
    refine lv_iload_n hx hb d_M_askFor_46 rfl (lv_at hl 2 rfl) ?_
    refine pw_iald (n := 200) (f := (a 6)) hx hb hK hP 0 (6) (by decide) rfl rfl (j) rfl (by omega) (by decide) d_M_askFor_47 ?_
    refine lv_iconst (v := 2) hx hb d_M_askFor_48 (by decide) ?_
    refine lv_icmp_ne (tgt := 73) hx hb d_M_askFor_49 (by decide) (fun c_2 => ?_) (fun c_2 => ?_)
    · have c_2 : ¬ ((a 6) (j)) = 2 := c_2
      refine lv_iconst (v := 0) hx hb d_M_askFor_73 (by decide) ?_
      refine lv_istore (lv' := [(4, .int (0)), (3, .int ((a 4) (j))), (0, .ref (bk (0))), (1, .int (nI j)), (2, .int (day))]) hx hb d_M_askFor_74 hl (by decide) rfl (fun ls hl => ?_)
      refine lv_iload hx hb d_M_askFor_76 (lv_at hl 0 rfl) ?_
      refine lv_if_ne (tgt := 82) hx hb d_M_askFor_78 (by decide) (fun c_3 => ?_) (fun c_3 => ?_)
      · exact absurd c_3 (by decide)
      · skip
        exact W.vret hx hb hr (fun t ht hW => ⟨⟨(28, bk, MW cs th z a bk), rfl, Mv_of (r := 0) (by rw [s_M_askFor, if_neg c_1, if_neg c_2]), by rw [ht]; exact hP, va_K.moved hW.alike hK, hD⟩, hS.F ht⟩) hS.2.2 d_M_askFor_81
    · have c_2 : ((a 6) (j)) = 2 := c_2
      refine lv_iload_n hx hb d_M_askFor_52 rfl (lv_at hl 3 rfl) ?_
      refine lv_aload_n hx hb d_M_askFor_53 rfl (lv_at hl 1 rfl) ?_
      refine pw_get (ci := 7) (v := .ref (bk (9))) hx hb hw i_M hown hK hP (0) (by decide) rfl rfl 10 (by decide) (hw _ kF_M_34) rfl d_M_askFor_54 ?_
      refine lv_iload_n hx hb d_M_askFor_57 rfl (lv_at hl 2 rfl) ?_
      refine pw_iald (n := 200) (f := (a 9)) hx hb hK hP 0 (9) (by decide) rfl rfl (j) rfl (by omega) (by decide) d_M_askFor_58 ?_
      refine lv_isub hx hb d_M_askFor_59 ?_
      refine lv_aload_n hx hb d_M_askFor_60 rfl (lv_at hl 1 rfl) ?_
      refine pw_get (ci := 7) (v := .ref (bk (2))) hx hb hw i_M hown hK hP (0) (by decide) rfl rfl 2 (by decide) (hw _ kF_M_13) rfl d_M_askFor_61 ?_
      refine lv_iload_n hx hb d_M_askFor_64 rfl (lv_at hl 0 rfl) ?_
      refine pw_ialdC (n := 10) (f := (a 2)) hx hb hK hP 0 (2) (by decide) rfl rfl (vp_in_iff.mpr (by have h7 := hpa; simp only [Int32.lt_iff_toInt_lt, Int32.le_iff_toInt_le, ← Int32.toInt_inj, T0, T1, T2, T3, T4, T5, T6, T7, T8, T9, T10, T40, T50, T99, T100, T200, T999, T1000, T9999, T1000000, T10000000, T1000000000, Tm1] at h7 ⊢; omega)) d_M_askFor_65 ?_
      refine lv_icmp_lt (tgt := 73) hx hb d_M_askFor_66 (by decide) (fun c_4 => ?_) (fun c_4 => ?_)
      · have c_4 : (day - ((a 9) (j))) < ((a 2) ((a 4) (j)).toNatClampNeg) := c_4
        refine lv_iconst (v := 0) hx hb d_M_askFor_73 (by decide) ?_
        refine lv_istore (lv' := [(4, .int (0)), (3, .int ((a 4) (j))), (0, .ref (bk (0))), (1, .int (nI j)), (2, .int (day))]) hx hb d_M_askFor_74 hl (by decide) rfl (fun ls hl => ?_)
        refine lv_iload hx hb d_M_askFor_76 (lv_at hl 0 rfl) ?_
        refine lv_if_ne (tgt := 82) hx hb d_M_askFor_78 (by decide) (fun c_5 => ?_) (fun c_5 => ?_)
        · exact absurd c_5 (by decide)
        · skip
          exact W.vret hx hb hr (fun t ht hW => ⟨⟨(28, bk, MW cs th z a bk), rfl, Mv_of (r := 0) (by rw [s_M_askFor, if_neg c_1, if_pos c_2, if_pos c_4]), by rw [ht]; exact hP, va_K.moved hW.alike hK, hD⟩, hS.F ht⟩) hS.2.2 d_M_askFor_81
      · have c_4 : ¬ (day - ((a 9) (j))) < ((a 2) ((a 4) (j)).toNatClampNeg) := c_4
        refine lv_iconst (v := 1) hx hb d_M_askFor_69 (by decide) ?_
        refine lv_goto (tgt := 74) hx hb d_M_askFor_70 (by decide) ?_
        refine lv_istore (lv' := [(4, .int (1)), (3, .int ((a 4) (j))), (0, .ref (bk (0))), (1, .int (nI j)), (2, .int (day))]) hx hb d_M_askFor_74 hl (by decide) rfl (fun ls hl => ?_)
        refine lv_iload hx hb d_M_askFor_76 (lv_at hl 0 rfl) ?_
        refine lv_if_ne (tgt := 82) hx hb d_M_askFor_78 (by decide) (fun c_6 => ?_) (fun c_6 => ?_)
        · skip
          refine lv_aload_n hx hb d_M_askFor_82 rfl (lv_at hl 2 rfl) ?_
          refine pw_get (ci := 7) (v := .ref (bk (8))) hx hb hw i_M hown hK hP (0) (by decide) rfl rfl 9 (by decide) (hw _ kF_M_31) rfl d_M_askFor_83 ?_
          refine lv_iload_n hx hb d_M_askFor_86 rfl (lv_at hl 3 rfl) ?_
          refine pw_iald (n := 200) (f := (a 8)) hx hb hK hP 0 (8) (by decide) rfl rfl (j) rfl (by omega) (by decide) d_M_askFor_87 ?_
          refine lv_aload_n hx hb d_M_askFor_88 rfl (lv_at hl 2 rfl) ?_
          refine pw_get (ci := 7) (v := .ref (bk (3))) hx hb hw i_M hown hK hP (0) (by decide) rfl rfl 3 (by decide) (hw _ kF_M_16) rfl d_M_askFor_89 ?_
          refine lv_iload_n hx hb d_M_askFor_92 rfl (lv_at hl 1 rfl) ?_
          refine pw_ialdC (n := 10) (f := (a 3)) hx hb hK hP 0 (3) (by decide) rfl rfl (vp_in_iff.mpr (by have h7 := hpa; simp only [Int32.lt_iff_toInt_lt, Int32.le_iff_toInt_le, ← Int32.toInt_inj, T0, T1, T2, T3, T4, T5, T6, T7, T8, T9, T10, T40, T50, T99, T100, T200, T999, T1000, T9999, T1000000, T10000000, T1000000000, Tm1] at h7 ⊢; omega)) d_M_askFor_93 ?_
          refine lv_icmp_lt (tgt := 111) hx hb d_M_askFor_94 (by decide) (fun c_7 => ?_) (fun c_7 => ?_)
          · have c_7 : ((a 8) (j)) < ((a 3) ((a 4) (j)).toNatClampNeg) := c_7
            refine lv_aload_n hx hb d_M_askFor_111 rfl (lv_at hl 2 rfl) ?_
            refine pw_get (ci := 7) (v := .ref (bk (6))) hx hb hw i_M hown hK hP (0) (by decide) rfl rfl 7 (by decide) (hw _ kF_M_25) rfl d_M_askFor_112 ?_
            refine lv_iload_n hx hb d_M_askFor_115 rfl (lv_at hl 3 rfl) ?_
            refine lv_iconst (v := 2) hx hb d_M_askFor_116 (by decide) ?_
            refine pw_iast (n := 200) (f := (a 6)) hx hb hK hP hD hS 0 (6) (by decide) rfl rfl (j) rfl (by omega) (by decide) d_M_askFor_117 (fun cw_8 H locs ecw_8 hP hD hS => ?_)
            obtain rfl : cw_8 = MW cs th z (va_up a 6 (upd (a 6) (j) (2))) bk := by rw [ecw_8]; exact MW_arr 6 (by decide) (upd (a 6) (j) (2))
            refine lv_aload_n hx hb d_M_askFor_118 rfl (lv_at hl 2 rfl) ?_
            refine pw_get (ci := 7) (v := .ref (bk (8))) hx hb hw i_M hown hK hP (0) (by decide) rfl rfl 9 (by decide) (hw _ kF_M_31) rfl d_M_askFor_119 ?_
            refine lv_iload_n hx hb d_M_askFor_122 rfl (lv_at hl 3 rfl) ?_
            refine lv_dup2_11 hx hb d_M_askFor_123 rfl rfl ?_
            refine pw_iald (n := 200) (f := (a 8)) hx hb hK hP 0 (8) (by decide) rfl rfl (j) rfl (by omega) (by decide) d_M_askFor_124 ?_
            refine lv_iconst (v := 1) hx hb d_M_askFor_125 (by decide) ?_
            refine lv_iadd hx hb d_M_askFor_126 ?_
            refine pw_iast (n := 200) (f := (a 8)) hx hb hK hP hD hS 0 (8) (by decide) rfl rfl (j) rfl (by omega) (by decide) d_M_askFor_127 (fun cw_9 H locs ecw_9 hP hD hS => ?_)
            obtain rfl : cw_9 = MW cs th z (va_up (va_up a 6 (upd (a 6) (j) (2))) 8 (upd (a 8) (j) (((a 8) (j)) + 1))) bk := by rw [ecw_9]; exact MW_arr 8 (by decide) (upd (a 8) (j) (((a 8) (j)) + 1))
            refine lv_aload_n hx hb d_M_askFor_128 rfl (lv_at hl 2 rfl) ?_
            refine pw_get (ci := 7) (v := .ref (bk (9))) hx hb hw i_M hown hK hP (0) (by decide) rfl rfl 10 (by decide) (hw _ kF_M_34) rfl d_M_askFor_129 ?_
            refine lv_iload_n hx hb d_M_askFor_132 rfl (lv_at hl 3 rfl) ?_
            refine lv_iload_n hx hb d_M_askFor_133 rfl (lv_at hl 4 rfl) ?_
            refine pw_iast (n := 200) (f := (a 9)) hx hb hK hP hD hS 0 (9) (by decide) rfl rfl (j) rfl (by omega) (by decide) d_M_askFor_134 (fun cw_10 H locs ecw_10 hP hD hS => ?_)
            obtain rfl : cw_10 = MW cs th z (va_up (va_up (va_up a 6 (upd (a 6) (j) (2))) 8 (upd (a 8) (j) (((a 8) (j)) + 1))) 9 (upd (a 9) (j) (day))) bk := by rw [ecw_10]; exact MW_arr 9 (by decide) (upd (a 9) (j) (day))
            refine lv_aload_n hx hb d_M_askFor_135 rfl (lv_at hl 2 rfl) ?_
            refine pw_get (ci := 7) (v := .ref (bk (21))) hx hb hw i_M hown hK hP (0) (by decide) rfl rfl 23 (by decide) (hw _ kF_M_71) rfl d_M_askFor_136 ?_
            refine lv_aload_n hx hb d_M_askFor_139 rfl (lv_at hl 2 rfl) ?_
            refine pw_get (ci := 7) (v := .int (nI (z 1))) hx hb hw i_M hown hK hP (0) (by decide) rfl rfl 22 (by decide) (hw _ kF_M_122) rfl d_M_askFor_140 ?_
            refine lv_iload_n hx hb d_M_askFor_143 rfl (lv_at hl 3 rfl) ?_
            refine pw_iast (n := 200) (f := (a 21)) hx hb hK hP hD hS 0 (21) (by decide) rfl rfl (z 1) rfl (by omega) (by decide) d_M_askFor_144 (fun cw_11 H locs ecw_11 hP hD hS => ?_)
            obtain rfl : cw_11 = MW cs th z (va_up (va_up (va_up (va_up a 6 (upd (a 6) (j) (2))) 8 (upd (a 8) (j) (((a 8) (j)) + 1))) 9 (upd (a 9) (j) (day))) 21 (upd (a 21) (z 1) (nI j))) bk := by rw [ecw_11]; exact MW_arr 21 (by decide) (upd (a 21) (z 1) (nI j))
            refine lv_aload_n hx hb d_M_askFor_145 rfl (lv_at hl 2 rfl) ?_
            refine pw_get (ci := 7) (v := .ref (bk (22))) hx hb hw i_M hown hK hP (0) (by decide) rfl rfl 24 (by decide) (hw _ kF_M_74) rfl d_M_askFor_146 ?_
            refine lv_aload_n hx hb d_M_askFor_149 rfl (lv_at hl 2 rfl) ?_
            refine pw_get (ci := 7) (v := .int (nI (z 1))) hx hb hw i_M hown hK hP (0) (by decide) rfl rfl 22 (by decide) (hw _ kF_M_122) rfl d_M_askFor_150 ?_
            refine lv_aload_n hx hb d_M_askFor_153 rfl (lv_at hl 2 rfl) ?_
            refine pw_get (ci := 7) (v := .ref (bk (8))) hx hb hw i_M hown hK hP (0) (by decide) rfl rfl 9 (by decide) (hw _ kF_M_31) rfl d_M_askFor_154 ?_
            refine lv_iload_n hx hb d_M_askFor_157 rfl (lv_at hl 3 rfl) ?_
            refine pw_iald (n := 200) (f := (upd (a 8) (j) (((a 8) (j)) + 1))) hx hb hK hP 0 (8) (by decide) rfl rfl (j) rfl (by omega) (by decide) d_M_askFor_158 ?_
            refine pw_iast (n := 200) (f := (a 22)) hx hb hK hP hD hS 0 (22) (by decide) rfl rfl (z 1) rfl (by omega) (by decide) d_M_askFor_159 (fun cw_12 H locs ecw_12 hP hD hS => ?_)
            obtain rfl : cw_12 = MW cs th z (va_up (va_up (va_up (va_up (va_up a 6 (upd (a 6) (j) (2))) 8 (upd (a 8) (j) (((a 8) (j)) + 1))) 9 (upd (a 9) (j) (day))) 21 (upd (a 21) (z 1) (nI j))) 22 (upd (a 22) (z 1) ((upd (a 8) (j) (((a 8) (j)) + 1)) (j)))) bk := by rw [ecw_12]; exact MW_arr 22 (by decide) (upd (a 22) (z 1) ((upd (a 8) (j) (((a 8) (j)) + 1)) (j)))
            refine lv_aload_n hx hb d_M_askFor_160 rfl (lv_at hl 2 rfl) ?_
            refine lv_dup hx hb d_M_askFor_161 rfl ?_
            refine pw_get (ci := 7) (v := .int (nI (z 1))) hx hb hw i_M hown hK hP (0) (by decide) rfl rfl 22 (by decide) (hw _ kF_M_122) rfl d_M_askFor_162 ?_
            refine lv_iconst (v := 1) hx hb d_M_askFor_165 (by decide) ?_
            refine lv_iadd hx hb d_M_askFor_166 ?_
            rw [show (nI (z 1)) + 1 = nI ((z 1) + 1) from nI_1 _]
            refine pw_put (ci := 7) (v := .int (nI ((z 1) + 1))) (ty := .int) (fs' := [.int (th), .ref (bk (1)), .ref (bk (2)), .ref (bk (3)), .int (nI (z 0)), .ref (bk (4)), .ref (bk (5)), .ref (bk (6)), .ref (bk (7)), .ref (bk (8)), .ref (bk (9)), .ref (bk (10)), .ref (bk (11)), .ref (bk (12)), .ref (bk (13)), .ref (bk (14)), .ref (bk (15)), .ref (bk (16)), .ref (bk (17)), .ref (bk (18)), .ref (bk (19)), .ref (bk (20)), .int (nI ((z 1) + 1)), .ref (bk (21)), .ref (bk (22)), .int (nI (z 2)), .int (nI (z 3)), .ref (bk (23)), .ref (bk (24)), .ref (bk (25)), .int (nI (z 4)), .ref (bk (26)), .ref (bk (27))]) hx hb hw i_M t_M t_M_ok n_M hown hK hP hD hS (0) (by decide) rfl rfl 22 (by decide) (hw _ kF_M_122) rfl (t_M_ok 22 (by decide)) rfl rfl (Nat.le_of_ble_eq_true rfl) rfl d_M_askFor_167 (fun cw_13 H locs ecw_13 hP hD hS => ?_)
            obtain rfl : cw_13 = MW cs th (va_up z 1 ((z 1) + 1)) (va_up (va_up (va_up (va_up (va_up a 6 (upd (a 6) (j) (2))) 8 (upd (a 8) (j) (((a 8) (j)) + 1))) 9 (upd (a 9) (j) (day))) 21 (upd (a 21) (z 1) (nI j))) 22 (upd (a 22) (z 1) ((upd (a 8) (j) (((a 8) (j)) + 1)) (j)))) bk := by rw [ecw_13]; exact MW_obj th (va_up z 1 ((z 1) + 1))
            exact W.vret hx hb hr (fun t ht hW => ⟨⟨(28, bk, MW cs th (va_up z 1 ((z 1) + 1)) (va_up (va_up (va_up (va_up (va_up a 6 (upd (a 6) (j) (2))) 8 (upd (a 8) (j) (((a 8) (j)) + 1))) 9 (upd (a 9) (j) (day))) 21 (upd (a 21) (z 1) (nI j))) 22 (upd (a 22) (z 1) ((upd (a 8) (j) (((a 8) (j)) + 1)) (j)))) bk), rfl, Mv_of (r := 0) (by rw [s_M_askFor, if_neg c_1, if_pos c_2, if_neg c_4, if_pos c_7]), by rw [ht]; exact hP, va_K.moved hW.alike hK, hD⟩, hS.F ht⟩) hS.2.2 d_M_askFor_170
          · have c_7 : ¬ ((a 8) (j)) < ((a 3) ((a 4) (j)).toNatClampNeg) := c_7
            refine lv_aload_n hx hb d_M_askFor_97 rfl (lv_at hl 2 rfl) ?_
            refine pw_get (ci := 7) (v := .ref (bk (6))) hx hb hw i_M hown hK hP (0) (by decide) rfl rfl 7 (by decide) (hw _ kF_M_25) rfl d_M_askFor_98 ?_
            refine lv_iload_n hx hb d_M_askFor_101 rfl (lv_at hl 3 rfl) ?_
            refine lv_iconst (v := 4) hx hb d_M_askFor_102 (by decide) ?_
            refine pw_iast (n := 200) (f := (a 6)) hx hb hK hP hD hS 0 (6) (by decide) rfl rfl (j) rfl (by omega) (by decide) d_M_askFor_103 (fun cw_14 H locs ecw_14 hP hD hS => ?_)
            obtain rfl : cw_14 = MW cs th z (va_up a 6 (upd (a 6) (j) (4))) bk := by rw [ecw_14]; exact MW_arr 6 (by decide) (upd (a 6) (j) (4))
            refine lv_aload_n hx hb d_M_askFor_104 rfl (lv_at hl 2 rfl) ?_
            refine lv_iconst (v := 3) hx hb d_M_askFor_105 (by decide) ?_
            refine lv_iload_n hx hb d_M_askFor_106 rfl (lv_at hl 3 rfl) ?_
            refine pm_callv (va_runV (As := [.int (3), .int (nI j)]) (rest := []) ⟨hx, hb, hml, hown, hw⟩ (c_M_tell l D cs bk H.size th z (va_up a 6 (upd (a 6) (j) (4))) hz4 3 (nI j)) (cw_V 2 hw kM_M_118 kI_M_tell kV_M_tell kZ_M kC_M_tell rfl rfl ⟨rfl, by decide, by decide, by decide +kernel⟩ ⟨Nat.le_of_ble_eq_true rfl, Nat.le_of_ble_eq_true rfl⟩) (pw_preV hN hK hP hD (0) (by decide) rfl rfl) rfl rfl hl.1 rfl (lv_room (Nat.le_of_ble_eq_true rfl)) d_M_askFor_107 ⟨Nat.le_of_ble_eq_true rfl, Nat.le_of_ble_eq_true rfl⟩) hS (wl_free hD hS hA) (fun H locs hP hD hS => ?_)
            exact W.vret hx hb hr (fun t ht hW => ⟨⟨(28, bk, MW cs ((s_M_tell th z (va_up a 6 (upd (a 6) (j) (4))) 3 (nI j)).2.1) ((s_M_tell th z (va_up a 6 (upd (a 6) (j) (4))) 3 (nI j)).2.2.1) ((s_M_tell th z (va_up a 6 (upd (a 6) (j) (4))) 3 (nI j)).2.2.2) bk), rfl, Mv_of (r := 0) (by rw [s_M_askFor, if_neg c_1, if_pos c_2, if_neg c_4, if_neg c_7]), by rw [ht]; exact hP, va_K.moved hW.alike hK, hD⟩, hS.F ht⟩) hS.2.2 d_M_askFor_110
        · exact absurd c_6 (by decide)
  · have c_1 : ((a 6) (j)) = 1 := c_1
    refine lv_iload_n hx hb d_M_askFor_17 rfl (lv_at hl 3 rfl) ?_
    refine lv_aload_n hx hb d_M_askFor_18 rfl (lv_at hl 1 rfl) ?_
    refine pw_get (ci := 7) (v := .ref (bk (7))) hx hb hw i_M hown hK hP (0) (by decide) rfl rfl 8 (by decide) (hw _ kF_M_28) rfl d_M_askFor_19 ?_
    refine lv_iload_n hx hb d_M_askFor_22 rfl (lv_at hl 2 rfl) ?_
    refine pw_iald (n := 200) (f := (a 7)) hx hb hK hP 0 (7) (by decide) rfl rfl (j) rfl (by omega) (by decide) d_M_askFor_23 ?_
    refine lv_isub hx hb d_M_askFor_24 ?_
    refine lv_aload_n hx hb d_M_askFor_25 rfl (lv_at hl 1 rfl) ?_
    refine pw_get (ci := 7) (v := .ref (bk (1))) hx hb hw i_M hown hK hP (0) (by decide) rfl rfl 1 (by decide) (hw _ kF_M_7) rfl d_M_askFor_26 ?_
    refine lv_iload_n hx hb d_M_askFor_29 rfl (lv_at hl 0 rfl) ?_
    refine pw_ialdC (n := 10) (f := (a 1)) hx hb hK hP 0 (1) (by decide) rfl rfl (vp_in_iff.mpr (by have h7 := hpa; simp only [Int32.lt_iff_toInt_lt, Int32.le_iff_toInt_le, ← Int32.toInt_inj, T0, T1, T2, T3, T4, T5, T6, T7, T8, T9, T10, T40, T50, T99, T100, T200, T999, T1000, T9999, T1000000, T10000000, T1000000000, Tm1] at h7 ⊢; omega)) d_M_askFor_30 ?_
    refine lv_icmp_lt (tgt := 38) hx hb d_M_askFor_31 (by decide) (fun c_15 => ?_) (fun c_15 => ?_)
    · have c_15 : (day - ((a 7) (j))) < ((a 1) ((a 4) (j)).toNatClampNeg) := c_15
      refine lv_iconst (v := 0) hx hb d_M_askFor_38 (by decide) ?_
      refine lv_goto (tgt := 74) hx hb d_M_askFor_39 (by decide) ?_
      refine lv_istore (lv' := [(4, .int (0)), (3, .int ((a 4) (j))), (0, .ref (bk (0))), (1, .int (nI j)), (2, .int (day))]) hx hb d_M_askFor_74 hl (by decide) rfl (fun ls hl => ?_)
      refine lv_iload hx hb d_M_askFor_76 (lv_at hl 0 rfl) ?_
      refine lv_if_ne (tgt := 82) hx hb d_M_askFor_78 (by decide) (fun c_16 => ?_) (fun c_16 => ?_)
      · exact absurd c_16 (by decide)
      · skip
        exact W.vret hx hb hr (fun t ht hW => ⟨⟨(28, bk, MW cs th z a bk), rfl, Mv_of (r := 0) (by rw [s_M_askFor, if_pos c_1, if_pos c_15]), by rw [ht]; exact hP, va_K.moved hW.alike hK, hD⟩, hS.F ht⟩) hS.2.2 d_M_askFor_81
    · have c_15 : ¬ (day - ((a 7) (j))) < ((a 1) ((a 4) (j)).toNatClampNeg) := c_15
      refine lv_iconst (v := 1) hx hb d_M_askFor_34 (by decide) ?_
      refine lv_goto (tgt := 74) hx hb d_M_askFor_35 (by decide) ?_
      refine lv_istore (lv' := [(4, .int (1)), (3, .int ((a 4) (j))), (0, .ref (bk (0))), (1, .int (nI j)), (2, .int (day))]) hx hb d_M_askFor_74 hl (by decide) rfl (fun ls hl => ?_)
      refine lv_iload hx hb d_M_askFor_76 (lv_at hl 0 rfl) ?_
      refine lv_if_ne (tgt := 82) hx hb d_M_askFor_78 (by decide) (fun c_17 => ?_) (fun c_17 => ?_)
      · skip
        refine lv_aload_n hx hb d_M_askFor_82 rfl (lv_at hl 2 rfl) ?_
        refine pw_get (ci := 7) (v := .ref (bk (8))) hx hb hw i_M hown hK hP (0) (by decide) rfl rfl 9 (by decide) (hw _ kF_M_31) rfl d_M_askFor_83 ?_
        refine lv_iload_n hx hb d_M_askFor_86 rfl (lv_at hl 3 rfl) ?_
        refine pw_iald (n := 200) (f := (a 8)) hx hb hK hP 0 (8) (by decide) rfl rfl (j) rfl (by omega) (by decide) d_M_askFor_87 ?_
        refine lv_aload_n hx hb d_M_askFor_88 rfl (lv_at hl 2 rfl) ?_
        refine pw_get (ci := 7) (v := .ref (bk (3))) hx hb hw i_M hown hK hP (0) (by decide) rfl rfl 3 (by decide) (hw _ kF_M_16) rfl d_M_askFor_89 ?_
        refine lv_iload_n hx hb d_M_askFor_92 rfl (lv_at hl 1 rfl) ?_
        refine pw_ialdC (n := 10) (f := (a 3)) hx hb hK hP 0 (3) (by decide) rfl rfl (vp_in_iff.mpr (by have h7 := hpa; simp only [Int32.lt_iff_toInt_lt, Int32.le_iff_toInt_le, ← Int32.toInt_inj, T0, T1, T2, T3, T4, T5, T6, T7, T8, T9, T10, T40, T50, T99, T100, T200, T999, T1000, T9999, T1000000, T10000000, T1000000000, Tm1] at h7 ⊢; omega)) d_M_askFor_93 ?_
        refine lv_icmp_lt (tgt := 111) hx hb d_M_askFor_94 (by decide) (fun c_18 => ?_) (fun c_18 => ?_)
        · have c_18 : ((a 8) (j)) < ((a 3) ((a 4) (j)).toNatClampNeg) := c_18
          refine lv_aload_n hx hb d_M_askFor_111 rfl (lv_at hl 2 rfl) ?_
          refine pw_get (ci := 7) (v := .ref (bk (6))) hx hb hw i_M hown hK hP (0) (by decide) rfl rfl 7 (by decide) (hw _ kF_M_25) rfl d_M_askFor_112 ?_
          refine lv_iload_n hx hb d_M_askFor_115 rfl (lv_at hl 3 rfl) ?_
          refine lv_iconst (v := 2) hx hb d_M_askFor_116 (by decide) ?_
          refine pw_iast (n := 200) (f := (a 6)) hx hb hK hP hD hS 0 (6) (by decide) rfl rfl (j) rfl (by omega) (by decide) d_M_askFor_117 (fun cw_19 H locs ecw_19 hP hD hS => ?_)
          obtain rfl : cw_19 = MW cs th z (va_up a 6 (upd (a 6) (j) (2))) bk := by rw [ecw_19]; exact MW_arr 6 (by decide) (upd (a 6) (j) (2))
          refine lv_aload_n hx hb d_M_askFor_118 rfl (lv_at hl 2 rfl) ?_
          refine pw_get (ci := 7) (v := .ref (bk (8))) hx hb hw i_M hown hK hP (0) (by decide) rfl rfl 9 (by decide) (hw _ kF_M_31) rfl d_M_askFor_119 ?_
          refine lv_iload_n hx hb d_M_askFor_122 rfl (lv_at hl 3 rfl) ?_
          refine lv_dup2_11 hx hb d_M_askFor_123 rfl rfl ?_
          refine pw_iald (n := 200) (f := (a 8)) hx hb hK hP 0 (8) (by decide) rfl rfl (j) rfl (by omega) (by decide) d_M_askFor_124 ?_
          refine lv_iconst (v := 1) hx hb d_M_askFor_125 (by decide) ?_
          refine lv_iadd hx hb d_M_askFor_126 ?_
          refine pw_iast (n := 200) (f := (a 8)) hx hb hK hP hD hS 0 (8) (by decide) rfl rfl (j) rfl (by omega) (by decide) d_M_askFor_127 (fun cw_20 H locs ecw_20 hP hD hS => ?_)
          obtain rfl : cw_20 = MW cs th z (va_up (va_up a 6 (upd (a 6) (j) (2))) 8 (upd (a 8) (j) (((a 8) (j)) + 1))) bk := by rw [ecw_20]; exact MW_arr 8 (by decide) (upd (a 8) (j) (((a 8) (j)) + 1))
          refine lv_aload_n hx hb d_M_askFor_128 rfl (lv_at hl 2 rfl) ?_
          refine pw_get (ci := 7) (v := .ref (bk (9))) hx hb hw i_M hown hK hP (0) (by decide) rfl rfl 10 (by decide) (hw _ kF_M_34) rfl d_M_askFor_129 ?_
          refine lv_iload_n hx hb d_M_askFor_132 rfl (lv_at hl 3 rfl) ?_
          refine lv_iload_n hx hb d_M_askFor_133 rfl (lv_at hl 4 rfl) ?_
          refine pw_iast (n := 200) (f := (a 9)) hx hb hK hP hD hS 0 (9) (by decide) rfl rfl (j) rfl (by omega) (by decide) d_M_askFor_134 (fun cw_21 H locs ecw_21 hP hD hS => ?_)
          obtain rfl : cw_21 = MW cs th z (va_up (va_up (va_up a 6 (upd (a 6) (j) (2))) 8 (upd (a 8) (j) (((a 8) (j)) + 1))) 9 (upd (a 9) (j) (day))) bk := by rw [ecw_21]; exact MW_arr 9 (by decide) (upd (a 9) (j) (day))
          refine lv_aload_n hx hb d_M_askFor_135 rfl (lv_at hl 2 rfl) ?_
          refine pw_get (ci := 7) (v := .ref (bk (21))) hx hb hw i_M hown hK hP (0) (by decide) rfl rfl 23 (by decide) (hw _ kF_M_71) rfl d_M_askFor_136 ?_
          refine lv_aload_n hx hb d_M_askFor_139 rfl (lv_at hl 2 rfl) ?_
          refine pw_get (ci := 7) (v := .int (nI (z 1))) hx hb hw i_M hown hK hP (0) (by decide) rfl rfl 22 (by decide) (hw _ kF_M_122) rfl d_M_askFor_140 ?_
          refine lv_iload_n hx hb d_M_askFor_143 rfl (lv_at hl 3 rfl) ?_
          refine pw_iast (n := 200) (f := (a 21)) hx hb hK hP hD hS 0 (21) (by decide) rfl rfl (z 1) rfl (by omega) (by decide) d_M_askFor_144 (fun cw_22 H locs ecw_22 hP hD hS => ?_)
          obtain rfl : cw_22 = MW cs th z (va_up (va_up (va_up (va_up a 6 (upd (a 6) (j) (2))) 8 (upd (a 8) (j) (((a 8) (j)) + 1))) 9 (upd (a 9) (j) (day))) 21 (upd (a 21) (z 1) (nI j))) bk := by rw [ecw_22]; exact MW_arr 21 (by decide) (upd (a 21) (z 1) (nI j))
          refine lv_aload_n hx hb d_M_askFor_145 rfl (lv_at hl 2 rfl) ?_
          refine pw_get (ci := 7) (v := .ref (bk (22))) hx hb hw i_M hown hK hP (0) (by decide) rfl rfl 24 (by decide) (hw _ kF_M_74) rfl d_M_askFor_146 ?_
          refine lv_aload_n hx hb d_M_askFor_149 rfl (lv_at hl 2 rfl) ?_
          refine pw_get (ci := 7) (v := .int (nI (z 1))) hx hb hw i_M hown hK hP (0) (by decide) rfl rfl 22 (by decide) (hw _ kF_M_122) rfl d_M_askFor_150 ?_
          refine lv_aload_n hx hb d_M_askFor_153 rfl (lv_at hl 2 rfl) ?_
          refine pw_get (ci := 7) (v := .ref (bk (8))) hx hb hw i_M hown hK hP (0) (by decide) rfl rfl 9 (by decide) (hw _ kF_M_31) rfl d_M_askFor_154 ?_
          refine lv_iload_n hx hb d_M_askFor_157 rfl (lv_at hl 3 rfl) ?_
          refine pw_iald (n := 200) (f := (upd (a 8) (j) (((a 8) (j)) + 1))) hx hb hK hP 0 (8) (by decide) rfl rfl (j) rfl (by omega) (by decide) d_M_askFor_158 ?_
          refine pw_iast (n := 200) (f := (a 22)) hx hb hK hP hD hS 0 (22) (by decide) rfl rfl (z 1) rfl (by omega) (by decide) d_M_askFor_159 (fun cw_23 H locs ecw_23 hP hD hS => ?_)
          obtain rfl : cw_23 = MW cs th z (va_up (va_up (va_up (va_up (va_up a 6 (upd (a 6) (j) (2))) 8 (upd (a 8) (j) (((a 8) (j)) + 1))) 9 (upd (a 9) (j) (day))) 21 (upd (a 21) (z 1) (nI j))) 22 (upd (a 22) (z 1) ((upd (a 8) (j) (((a 8) (j)) + 1)) (j)))) bk := by rw [ecw_23]; exact MW_arr 22 (by decide) (upd (a 22) (z 1) ((upd (a 8) (j) (((a 8) (j)) + 1)) (j)))
          refine lv_aload_n hx hb d_M_askFor_160 rfl (lv_at hl 2 rfl) ?_
          refine lv_dup hx hb d_M_askFor_161 rfl ?_
          refine pw_get (ci := 7) (v := .int (nI (z 1))) hx hb hw i_M hown hK hP (0) (by decide) rfl rfl 22 (by decide) (hw _ kF_M_122) rfl d_M_askFor_162 ?_
          refine lv_iconst (v := 1) hx hb d_M_askFor_165 (by decide) ?_
          refine lv_iadd hx hb d_M_askFor_166 ?_
          rw [show (nI (z 1)) + 1 = nI ((z 1) + 1) from nI_1 _]
          refine pw_put (ci := 7) (v := .int (nI ((z 1) + 1))) (ty := .int) (fs' := [.int (th), .ref (bk (1)), .ref (bk (2)), .ref (bk (3)), .int (nI (z 0)), .ref (bk (4)), .ref (bk (5)), .ref (bk (6)), .ref (bk (7)), .ref (bk (8)), .ref (bk (9)), .ref (bk (10)), .ref (bk (11)), .ref (bk (12)), .ref (bk (13)), .ref (bk (14)), .ref (bk (15)), .ref (bk (16)), .ref (bk (17)), .ref (bk (18)), .ref (bk (19)), .ref (bk (20)), .int (nI ((z 1) + 1)), .ref (bk (21)), .ref (bk (22)), .int (nI (z 2)), .int (nI (z 3)), .ref (bk (23)), .ref (bk (24)), .ref (bk (25)), .int (nI (z 4)), .ref (bk (26)), .ref (bk (27))]) hx hb hw i_M t_M t_M_ok n_M hown hK hP hD hS (0) (by decide) rfl rfl 22 (by decide) (hw _ kF_M_122) rfl (t_M_ok 22 (by decide)) rfl rfl (Nat.le_of_ble_eq_true rfl) rfl d_M_askFor_167 (fun cw_24 H locs ecw_24 hP hD hS => ?_)
          obtain rfl : cw_24 = MW cs th (va_up z 1 ((z 1) + 1)) (va_up (va_up (va_up (va_up (va_up a 6 (upd (a 6) (j) (2))) 8 (upd (a 8) (j) (((a 8) (j)) + 1))) 9 (upd (a 9) (j) (day))) 21 (upd (a 21) (z 1) (nI j))) 22 (upd (a 22) (z 1) ((upd (a 8) (j) (((a 8) (j)) + 1)) (j)))) bk := by rw [ecw_24]; exact MW_obj th (va_up z 1 ((z 1) + 1))
          exact W.vret hx hb hr (fun t ht hW => ⟨⟨(28, bk, MW cs th (va_up z 1 ((z 1) + 1)) (va_up (va_up (va_up (va_up (va_up a 6 (upd (a 6) (j) (2))) 8 (upd (a 8) (j) (((a 8) (j)) + 1))) 9 (upd (a 9) (j) (day))) 21 (upd (a 21) (z 1) (nI j))) 22 (upd (a 22) (z 1) ((upd (a 8) (j) (((a 8) (j)) + 1)) (j)))) bk), rfl, Mv_of (r := 0) (by rw [s_M_askFor, if_pos c_1, if_neg c_15, if_pos c_18]), by rw [ht]; exact hP, va_K.moved hW.alike hK, hD⟩, hS.F ht⟩) hS.2.2 d_M_askFor_170
        · have c_18 : ¬ ((a 8) (j)) < ((a 3) ((a 4) (j)).toNatClampNeg) := c_18
          refine lv_aload_n hx hb d_M_askFor_97 rfl (lv_at hl 2 rfl) ?_
          refine pw_get (ci := 7) (v := .ref (bk (6))) hx hb hw i_M hown hK hP (0) (by decide) rfl rfl 7 (by decide) (hw _ kF_M_25) rfl d_M_askFor_98 ?_
          refine lv_iload_n hx hb d_M_askFor_101 rfl (lv_at hl 3 rfl) ?_
          refine lv_iconst (v := 4) hx hb d_M_askFor_102 (by decide) ?_
          refine pw_iast (n := 200) (f := (a 6)) hx hb hK hP hD hS 0 (6) (by decide) rfl rfl (j) rfl (by omega) (by decide) d_M_askFor_103 (fun cw_25 H locs ecw_25 hP hD hS => ?_)
          obtain rfl : cw_25 = MW cs th z (va_up a 6 (upd (a 6) (j) (4))) bk := by rw [ecw_25]; exact MW_arr 6 (by decide) (upd (a 6) (j) (4))
          refine lv_aload_n hx hb d_M_askFor_104 rfl (lv_at hl 2 rfl) ?_
          refine lv_iconst (v := 3) hx hb d_M_askFor_105 (by decide) ?_
          refine lv_iload_n hx hb d_M_askFor_106 rfl (lv_at hl 3 rfl) ?_
          refine pm_callv (va_runV (As := [.int (3), .int (nI j)]) (rest := []) ⟨hx, hb, hml, hown, hw⟩ (c_M_tell l D cs bk H.size th z (va_up a 6 (upd (a 6) (j) (4))) hz4 3 (nI j)) (cw_V 2 hw kM_M_118 kI_M_tell kV_M_tell kZ_M kC_M_tell rfl rfl ⟨rfl, by decide, by decide, by decide +kernel⟩ ⟨Nat.le_of_ble_eq_true rfl, Nat.le_of_ble_eq_true rfl⟩) (pw_preV hN hK hP hD (0) (by decide) rfl rfl) rfl rfl hl.1 rfl (lv_room (Nat.le_of_ble_eq_true rfl)) d_M_askFor_107 ⟨Nat.le_of_ble_eq_true rfl, Nat.le_of_ble_eq_true rfl⟩) hS (wl_free hD hS hA) (fun H locs hP hD hS => ?_)
          exact W.vret hx hb hr (fun t ht hW => ⟨⟨(28, bk, MW cs ((s_M_tell th z (va_up a 6 (upd (a 6) (j) (4))) 3 (nI j)).2.1) ((s_M_tell th z (va_up a 6 (upd (a 6) (j) (4))) 3 (nI j)).2.2.1) ((s_M_tell th z (va_up a 6 (upd (a 6) (j) (4))) 3 (nI j)).2.2.2) bk), rfl, Mv_of (r := 0) (by rw [s_M_askFor, if_pos c_1, if_neg c_15, if_neg c_18]), by rw [ht]; exact hP, va_K.moved hW.alike hK, hD⟩, hS.F ht⟩) hS.2.2 d_M_askFor_110
      · exact absurd c_17 (by decide)
def s_M_claimed (th : Int32) (z : Nat → Nat) (a : Nat → Nat → Int32) (x : Int32) (what : Int32) : MS := (if 0 ≤ x ∧ x ≤ ((nI (z 1)) - 1) then (if 0 ≤ what ∧ what ≤ 1 then (if what = 0 then ((a 21) (x).toNatClampNeg, 0, z, a) else ((a 22) (x).toNatClampNeg, 0, z, a)) else (0, 1, z, a)) else (0, 1, z, a))
set_option maxHeartbeats 4000000 in
set_option maxRecDepth 100000 in
theorem c_M_claimed (l : Launch) (D : va_G) (cs : Nat → ClassId) (bk : Nat → Nat) (sz : Nat) (th : Int32) (z : Nat → Nat) (a : Nat → Nat → Int32) (hz1 : z 1 ≤ 200) (x what : Int32) : Met l y_M_claimed w_M_claimed ({ frames := 1, cells := 0, slots := 0, locals := 22 }) (va_Pc [.ref (bk (0)), .int (x), .int (what)] (PB D classes (TY cs) 28 bk (MW cs th z a bk) sz)) (va_Qi (Mr cs bk (s_M_claimed th z a x what)) (Wd D classes (TY cs) (AA 28 bk sz)) (AA 28 bk sz)) 0 0 (AA 28 bk sz) := by
  refine pw_entry (cc := b_M_claimed) (maxL := 3) (ret := (some .int)) (by decide +kernel) rfl (Nat.le_of_ble_eq_true rfl) ?_
  intro p_ e_ s m below_ meth_ c_ ls hx hb hr hml hts hown hlocks hin hsz hP hK hD hS hA hN hl
  have hw : ∀ w ∈ WA, w.before _ s = true := fun w h => hts w (List.mem_cons_of_mem _ h)
  have hown : s.vm.findClass "IssueRowsModel" = some m.cls := hown
  have hl : lv_has ls 3 [(0, .ref (bk (0))), (1, .int (x)), (2, .int (what))] := hl
  refine lv_aload_n hx hb d_M_claimed_0 rfl (lv_at hl 0 rfl) ?_
  refine lv_iload_n hx hb d_M_claimed_1 rfl (lv_at hl 1 rfl) ?_
  refine lv_iconst (v := 0) hx hb d_M_claimed_2 (by decide) ?_
  refine lv_aload_n hx hb d_M_claimed_3 rfl (lv_at hl 0 rfl) ?_
  refine pw_get (ci := 7) (v := .int (nI (z 1))) hx hb hw i_M hown hK hP (0) (by decide) rfl rfl 22 (by decide) (hw _ kF_M_122) rfl d_M_claimed_4 ?_
  refine lv_iconst (v := 1) hx hb d_M_claimed_7 (by decide) ?_
  refine lv_isub hx hb d_M_claimed_8 ?_
  refine pw_callSi (va_runS (As := [.int (x), .int (0), .int ((nI (z 1)) - 1)]) (rest := [.ref (bk (0))]) ⟨hx, hb, hml, hown, hw⟩ (c_M_in l D cs bk s.heap.size th z a x 0 ((nI (z 1)) - 1)) (cw_S 3 hw kM_M_97 kS_M_in kZ_M kC_M_in rfl rfl ⟨rfl, by decide, by decide, by decide +kernel⟩ ⟨Nat.le_of_ble_eq_true rfl, Nat.le_of_ble_eq_true rfl⟩) (pw_preS hN hK hP hD) rfl rfl hl.1 rfl (lv_room (Nat.le_of_ble_eq_true rfl)) d_M_claimed_9 ⟨Nat.le_of_ble_eq_true rfl, Nat.le_of_ble_eq_true rfl⟩) (fun r_1 hr_1 => ?_)
  have hr_1 : r_1 = bI (0 ≤ x ∧ x ≤ ((nI (z 1)) - 1)) := hr_1
  subst hr_1
  refine pw_ifeq (tgt := 24) hx hb d_M_claimed_12 (by decide) (fun c_2 => ?_) (fun c_2 => ?_)
  · have c_2 : ¬ (0 ≤ x ∧ x ≤ ((nI (z 1)) - 1)) := c_2
    refine lv_iconst (v := 1) hx hb d_M_claimed_24 (by decide) ?_
    refine lv_goto (tgt := 29) hx hb d_M_claimed_25 (by decide) ?_
    refine pw_put (ci := 7) (v := .int (1)) (ty := .int) (fs' := [.int (1), .ref (bk (1)), .ref (bk (2)), .ref (bk (3)), .int (nI (z 0)), .ref (bk (4)), .ref (bk (5)), .ref (bk (6)), .ref (bk (7)), .ref (bk (8)), .ref (bk (9)), .ref (bk (10)), .ref (bk (11)), .ref (bk (12)), .ref (bk (13)), .ref (bk (14)), .ref (bk (15)), .ref (bk (16)), .ref (bk (17)), .ref (bk (18)), .ref (bk (19)), .ref (bk (20)), .int (nI (z 1)), .ref (bk (21)), .ref (bk (22)), .int (nI (z 2)), .int (nI (z 3)), .ref (bk (23)), .ref (bk (24)), .ref (bk (25)), .int (nI (z 4)), .ref (bk (26)), .ref (bk (27))]) hx hb hw i_M t_M t_M_ok n_M hown hK hP hD hS (0) (by decide) rfl rfl 0 (by decide) (hw _ kF_M_92) rfl (t_M_ok 0 (by decide)) rfl rfl (Nat.le_of_ble_eq_true rfl) rfl d_M_claimed_29 (fun cw_3 H locs ecw_3 hP hD hS => ?_)
    obtain rfl : cw_3 = MW cs 1 z a bk := by rw [ecw_3]; exact MW_obj 1 z
    refine lv_aload_n hx hb d_M_claimed_32 rfl (lv_at hl 0 rfl) ?_
    refine pw_get (ci := 7) (v := .int (1)) hx hb hw i_M hown hK hP (0) (by decide) rfl rfl 0 (by decide) (hw _ kF_M_92) rfl d_M_claimed_33 ?_
    refine lv_if_le (tgt := 43) hx hb d_M_claimed_36 (by decide) (fun c_4 => ?_) (fun c_4 => ?_)
    · exact absurd c_4 (by decide)
    · skip
      refine lv_iconst (v := 0) hx hb d_M_claimed_39 (by decide) ?_
      refine lv_goto (tgt := 62) hx hb d_M_claimed_40 (by decide) ?_
      exact W.iret (v := 0) hx hb hr (fun t ht hW => ⟨⟨0, (28, bk, MW cs 1 z a bk), rfl, Mr_of (by rw [s_M_claimed, if_neg c_2]), by rw [ht]; exact hP, va_K.moved hW.alike hK, hD⟩, hS.F ht⟩) hS.2.2 d_M_claimed_62
  · have c_2 : 0 ≤ x ∧ x ≤ ((nI (z 1)) - 1) := c_2
    refine lv_iload_n hx hb d_M_claimed_15 rfl (lv_at hl 2 rfl) ?_
    refine lv_iconst (v := 0) hx hb d_M_claimed_16 (by decide) ?_
    refine lv_iconst (v := 1) hx hb d_M_claimed_17 (by decide) ?_
    refine pw_callSi (va_runS (As := [.int (what), .int (0), .int (1)]) (rest := [.ref (bk (0))]) ⟨hx, hb, hml, hown, hw⟩ (c_M_in l D cs bk s.heap.size th z a what 0 1) (cw_S 3 hw kM_M_97 kS_M_in kZ_M kC_M_in rfl rfl ⟨rfl, by decide, by decide, by decide +kernel⟩ ⟨Nat.le_of_ble_eq_true rfl, Nat.le_of_ble_eq_true rfl⟩) (pw_preS hN hK hP hD) rfl rfl hl.1 rfl (lv_room (Nat.le_of_ble_eq_true rfl)) d_M_claimed_18 ⟨Nat.le_of_ble_eq_true rfl, Nat.le_of_ble_eq_true rfl⟩) (fun r_5 hr_5 => ?_)
    have hr_5 : r_5 = bI (0 ≤ what ∧ what ≤ 1) := hr_5
    subst hr_5
    refine pw_ifne (tgt := 28) hx hb d_M_claimed_21 (by decide) (fun c_6 => ?_) (fun c_6 => ?_)
    · have c_6 : 0 ≤ what ∧ what ≤ 1 := c_6
      refine lv_iconst (v := 0) hx hb d_M_claimed_28 (by decide) ?_
      refine pw_put (ci := 7) (v := .int (0)) (ty := .int) (fs' := [.int (0), .ref (bk (1)), .ref (bk (2)), .ref (bk (3)), .int (nI (z 0)), .ref (bk (4)), .ref (bk (5)), .ref (bk (6)), .ref (bk (7)), .ref (bk (8)), .ref (bk (9)), .ref (bk (10)), .ref (bk (11)), .ref (bk (12)), .ref (bk (13)), .ref (bk (14)), .ref (bk (15)), .ref (bk (16)), .ref (bk (17)), .ref (bk (18)), .ref (bk (19)), .ref (bk (20)), .int (nI (z 1)), .ref (bk (21)), .ref (bk (22)), .int (nI (z 2)), .int (nI (z 3)), .ref (bk (23)), .ref (bk (24)), .ref (bk (25)), .int (nI (z 4)), .ref (bk (26)), .ref (bk (27))]) hx hb hw i_M t_M t_M_ok n_M hown hK hP hD hS (0) (by decide) rfl rfl 0 (by decide) (hw _ kF_M_92) rfl (t_M_ok 0 (by decide)) rfl rfl (Nat.le_of_ble_eq_true rfl) rfl d_M_claimed_29 (fun cw_7 H locs ecw_7 hP hD hS => ?_)
      obtain rfl : cw_7 = MW cs 0 z a bk := by rw [ecw_7]; exact MW_obj 0 z
      refine lv_aload_n hx hb d_M_claimed_32 rfl (lv_at hl 0 rfl) ?_
      refine pw_get (ci := 7) (v := .int (0)) hx hb hw i_M hown hK hP (0) (by decide) rfl rfl 0 (by decide) (hw _ kF_M_92) rfl d_M_claimed_33 ?_
      refine lv_if_le (tgt := 43) hx hb d_M_claimed_36 (by decide) (fun c_8 => ?_) (fun c_8 => ?_)
      · skip
        refine lv_iload_n hx hb d_M_claimed_43 rfl (lv_at hl 2 rfl) ?_
        refine lv_if_ne (tgt := 56) hx hb d_M_claimed_44 (by decide) (fun c_9 => ?_) (fun c_9 => ?_)
        · have c_9 : ¬ what = 0 := c_9
          refine lv_aload_n hx hb d_M_claimed_56 rfl (lv_at hl 0 rfl) ?_
          refine pw_get (ci := 7) (v := .ref (bk (22))) hx hb hw i_M hown hK hP (0) (by decide) rfl rfl 24 (by decide) (hw _ kF_M_74) rfl d_M_claimed_57 ?_
          refine lv_iload_n hx hb d_M_claimed_60 rfl (lv_at hl 1 rfl) ?_
          refine pw_ialdC (n := 200) (f := (a 22)) hx hb hK hP 0 (22) (by decide) rfl rfl (vp_in_iff.mpr (by have h7 := c_2; have h8 := (le_pr (by omega)).mp h7.2; simp only [Int32.le_iff_toInt_le, Int32.lt_iff_toInt_lt, T0, nI_toInt (show z 1 < 2 ^ 31 by omega)] at h7 h8; omega)) d_M_claimed_61 ?_
          exact W.iret (v := (a 22) (x).toNatClampNeg) hx hb hr (fun t ht hW => ⟨⟨(a 22) (x).toNatClampNeg, (28, bk, MW cs 0 z a bk), rfl, Mr_of (by rw [s_M_claimed, if_pos c_2, if_pos c_6, if_neg c_9]), by rw [ht]; exact hP, va_K.moved hW.alike hK, hD⟩, hS.F ht⟩) hS.2.2 d_M_claimed_62
        · have c_9 : what = 0 := c_9
          refine lv_aload_n hx hb d_M_claimed_47 rfl (lv_at hl 0 rfl) ?_
          refine pw_get (ci := 7) (v := .ref (bk (21))) hx hb hw i_M hown hK hP (0) (by decide) rfl rfl 23 (by decide) (hw _ kF_M_71) rfl d_M_claimed_48 ?_
          refine lv_iload_n hx hb d_M_claimed_51 rfl (lv_at hl 1 rfl) ?_
          refine pw_ialdC (n := 200) (f := (a 21)) hx hb hK hP 0 (21) (by decide) rfl rfl (vp_in_iff.mpr (by have h7 := c_2; have h8 := (le_pr (by omega)).mp h7.2; simp only [Int32.le_iff_toInt_le, Int32.lt_iff_toInt_lt, T0, nI_toInt (show z 1 < 2 ^ 31 by omega)] at h7 h8; omega)) d_M_claimed_52 ?_
          refine lv_goto (tgt := 62) hx hb d_M_claimed_53 (by decide) ?_
          exact W.iret (v := (a 21) (x).toNatClampNeg) hx hb hr (fun t ht hW => ⟨⟨(a 21) (x).toNatClampNeg, (28, bk, MW cs 0 z a bk), rfl, Mr_of (by rw [s_M_claimed, if_pos c_2, if_pos c_6, if_pos c_9]), by rw [ht]; exact hP, va_K.moved hW.alike hK, hD⟩, hS.F ht⟩) hS.2.2 d_M_claimed_62
      · exact absurd c_8 (by decide)
    · have c_6 : ¬ (0 ≤ what ∧ what ≤ 1) := c_6
      refine lv_iconst (v := 1) hx hb d_M_claimed_24 (by decide) ?_
      refine lv_goto (tgt := 29) hx hb d_M_claimed_25 (by decide) ?_
      refine pw_put (ci := 7) (v := .int (1)) (ty := .int) (fs' := [.int (1), .ref (bk (1)), .ref (bk (2)), .ref (bk (3)), .int (nI (z 0)), .ref (bk (4)), .ref (bk (5)), .ref (bk (6)), .ref (bk (7)), .ref (bk (8)), .ref (bk (9)), .ref (bk (10)), .ref (bk (11)), .ref (bk (12)), .ref (bk (13)), .ref (bk (14)), .ref (bk (15)), .ref (bk (16)), .ref (bk (17)), .ref (bk (18)), .ref (bk (19)), .ref (bk (20)), .int (nI (z 1)), .ref (bk (21)), .ref (bk (22)), .int (nI (z 2)), .int (nI (z 3)), .ref (bk (23)), .ref (bk (24)), .ref (bk (25)), .int (nI (z 4)), .ref (bk (26)), .ref (bk (27))]) hx hb hw i_M t_M t_M_ok n_M hown hK hP hD hS (0) (by decide) rfl rfl 0 (by decide) (hw _ kF_M_92) rfl (t_M_ok 0 (by decide)) rfl rfl (Nat.le_of_ble_eq_true rfl) rfl d_M_claimed_29 (fun cw_10 H locs ecw_10 hP hD hS => ?_)
      obtain rfl : cw_10 = MW cs 1 z a bk := by rw [ecw_10]; exact MW_obj 1 z
      refine lv_aload_n hx hb d_M_claimed_32 rfl (lv_at hl 0 rfl) ?_
      refine pw_get (ci := 7) (v := .int (1)) hx hb hw i_M hown hK hP (0) (by decide) rfl rfl 0 (by decide) (hw _ kF_M_92) rfl d_M_claimed_33 ?_
      refine lv_if_le (tgt := 43) hx hb d_M_claimed_36 (by decide) (fun c_11 => ?_) (fun c_11 => ?_)
      · exact absurd c_11 (by decide)
      · skip
        refine lv_iconst (v := 0) hx hb d_M_claimed_39 (by decide) ?_
        refine lv_goto (tgt := 62) hx hb d_M_claimed_40 (by decide) ?_
        exact W.iret (v := 0) hx hb hr (fun t ht hW => ⟨⟨0, (28, bk, MW cs 1 z a bk), rfl, Mr_of (by rw [s_M_claimed, if_pos c_2, if_neg c_6]), by rw [ht]; exact hP, va_K.moved hW.alike hK, hD⟩, hS.F ht⟩) hS.2.2 d_M_claimed_62
def s_M_told (th : Int32) (z : Nat → Nat) (a : Nat → Nat → Int32) (x : Int32) (what : Int32) : MS := (if 0 ≤ x ∧ x ≤ ((nI (z 4)) - 1) then (if 0 ≤ what ∧ what ≤ 1 then (if what = 0 then ((a 26) (x).toNatClampNeg, 0, z, a) else ((a 27) (x).toNatClampNeg, 0, z, a)) else (-1, 0, z, a)) else (-1, 0, z, a))
set_option maxHeartbeats 4000000 in
set_option maxRecDepth 100000 in
theorem c_M_told (l : Launch) (D : va_G) (cs : Nat → ClassId) (bk : Nat → Nat) (sz : Nat) (th : Int32) (z : Nat → Nat) (a : Nat → Nat → Int32) (hz4 : z 4 ≤ 100) (x what : Int32) : Met l y_M_told w_M_told ({ frames := 1, cells := 0, slots := 0, locals := 22 }) (va_Pc [.ref (bk (0)), .int (x), .int (what)] (PB D classes (TY cs) 28 bk (MW cs th z a bk) sz)) (va_Qi (Mr cs bk (s_M_told th z a x what)) (Wd D classes (TY cs) (AA 28 bk sz)) (AA 28 bk sz)) 0 0 (AA 28 bk sz) := by
  refine pw_entry (cc := b_M_told) (maxL := 3) (ret := (some .int)) (by decide +kernel) rfl (Nat.le_of_ble_eq_true rfl) ?_
  intro p_ e_ s m below_ meth_ c_ ls hx hb hr hml hts hown hlocks hin hsz hP hK hD hS hA hN hl
  have hw : ∀ w ∈ WA, w.before _ s = true := fun w h => hts w (List.mem_cons_of_mem _ h)
  have hown : s.vm.findClass "IssueRowsModel" = some m.cls := hown
  have hl : lv_has ls 3 [(0, .ref (bk (0))), (1, .int (x)), (2, .int (what))] := hl
  refine lv_aload_n hx hb d_M_told_0 rfl (lv_at hl 0 rfl) ?_
  refine lv_iconst (v := 0) hx hb d_M_told_1 (by decide) ?_
  refine pw_put (ci := 7) (v := .int (0)) (ty := .int) (fs' := [.int (0), .ref (bk (1)), .ref (bk (2)), .ref (bk (3)), .int (nI (z 0)), .ref (bk (4)), .ref (bk (5)), .ref (bk (6)), .ref (bk (7)), .ref (bk (8)), .ref (bk (9)), .ref (bk (10)), .ref (bk (11)), .ref (bk (12)), .ref (bk (13)), .ref (bk (14)), .ref (bk (15)), .ref (bk (16)), .ref (bk (17)), .ref (bk (18)), .ref (bk (19)), .ref (bk (20)), .int (nI (z 1)), .ref (bk (21)), .ref (bk (22)), .int (nI (z 2)), .int (nI (z 3)), .ref (bk (23)), .ref (bk (24)), .ref (bk (25)), .int (nI (z 4)), .ref (bk (26)), .ref (bk (27))]) hx hb hw i_M t_M t_M_ok n_M hown hK hP hD hS (0) (by decide) rfl rfl 0 (by decide) (hw _ kF_M_92) rfl (t_M_ok 0 (by decide)) rfl rfl (Nat.le_of_ble_eq_true rfl) rfl d_M_told_2 (fun cw_1 H locs ecw_1 hP hD hS => ?_)
  obtain rfl : cw_1 = MW cs 0 z a bk := by rw [ecw_1]; exact MW_obj 0 z
  refine lv_iload_n hx hb d_M_told_5 rfl (lv_at hl 1 rfl) ?_
  refine lv_iconst (v := 0) hx hb d_M_told_6 (by decide) ?_
  refine lv_aload_n hx hb d_M_told_7 rfl (lv_at hl 0 rfl) ?_
  refine pw_get (ci := 7) (v := .int (nI (z 4))) hx hb hw i_M hown hK hP (0) (by decide) rfl rfl 30 (by decide) (hw _ kF_M_104) rfl d_M_told_8 ?_
  refine lv_iconst (v := 1) hx hb d_M_told_11 (by decide) ?_
  refine lv_isub hx hb d_M_told_12 ?_
  refine pw_callSi (va_runS (As := [.int (x), .int (0), .int ((nI (z 4)) - 1)]) (rest := []) ⟨hx, hb, hml, hown, hw⟩ (c_M_in l D cs bk H.size 0 z a x 0 ((nI (z 4)) - 1)) (cw_S 3 hw kM_M_97 kS_M_in kZ_M kC_M_in rfl rfl ⟨rfl, by decide, by decide, by decide +kernel⟩ ⟨Nat.le_of_ble_eq_true rfl, Nat.le_of_ble_eq_true rfl⟩) (pw_preS hN hK hP hD) rfl rfl hl.1 rfl (lv_room (Nat.le_of_ble_eq_true rfl)) d_M_told_13 ⟨Nat.le_of_ble_eq_true rfl, Nat.le_of_ble_eq_true rfl⟩) (fun r_2 hr_2 => ?_)
  have hr_2 : r_2 = bI (0 ≤ x ∧ x ≤ ((nI (z 4)) - 1)) := hr_2
  subst hr_2
  refine pw_ifeq (tgt := 28) hx hb d_M_told_16 (by decide) (fun c_3 => ?_) (fun c_3 => ?_)
  · have c_3 : ¬ (0 ≤ x ∧ x ≤ ((nI (z 4)) - 1)) := c_3
    refine lv_iconst (v := -1) hx hb d_M_told_28 (by decide) ?_
    refine lv_goto (tgt := 51) hx hb d_M_told_29 (by decide) ?_
    exact W.iret (v := -1) hx hb hr (fun t ht hW => ⟨⟨-1, (28, bk, MW cs 0 z a bk), rfl, Mr_of (by rw [s_M_told, if_neg c_3]), by rw [ht]; exact hP, va_K.moved hW.alike hK, hD⟩, hS.F ht⟩) hS.2.2 d_M_told_51
  · have c_3 : 0 ≤ x ∧ x ≤ ((nI (z 4)) - 1) := c_3
    refine lv_iload_n hx hb d_M_told_19 rfl (lv_at hl 2 rfl) ?_
    refine lv_iconst (v := 0) hx hb d_M_told_20 (by decide) ?_
    refine lv_iconst (v := 1) hx hb d_M_told_21 (by decide) ?_
    refine pw_callSi (va_runS (As := [.int (what), .int (0), .int (1)]) (rest := []) ⟨hx, hb, hml, hown, hw⟩ (c_M_in l D cs bk H.size 0 z a what 0 1) (cw_S 3 hw kM_M_97 kS_M_in kZ_M kC_M_in rfl rfl ⟨rfl, by decide, by decide, by decide +kernel⟩ ⟨Nat.le_of_ble_eq_true rfl, Nat.le_of_ble_eq_true rfl⟩) (pw_preS hN hK hP hD) rfl rfl hl.1 rfl (lv_room (Nat.le_of_ble_eq_true rfl)) d_M_told_22 ⟨Nat.le_of_ble_eq_true rfl, Nat.le_of_ble_eq_true rfl⟩) (fun r_4 hr_4 => ?_)
    have hr_4 : r_4 = bI (0 ≤ what ∧ what ≤ 1) := hr_4
    subst hr_4
    refine pw_ifne (tgt := 32) hx hb d_M_told_25 (by decide) (fun c_5 => ?_) (fun c_5 => ?_)
    · have c_5 : 0 ≤ what ∧ what ≤ 1 := c_5
      refine lv_iload_n hx hb d_M_told_32 rfl (lv_at hl 2 rfl) ?_
      refine lv_if_ne (tgt := 45) hx hb d_M_told_33 (by decide) (fun c_6 => ?_) (fun c_6 => ?_)
      · have c_6 : ¬ what = 0 := c_6
        refine lv_aload_n hx hb d_M_told_45 rfl (lv_at hl 0 rfl) ?_
        refine pw_get (ci := 7) (v := .ref (bk (27))) hx hb hw i_M hown hK hP (0) (by decide) rfl rfl 32 (by decide) (hw _ kF_M_89) rfl d_M_told_46 ?_
        refine lv_iload_n hx hb d_M_told_49 rfl (lv_at hl 1 rfl) ?_
        refine pw_ialdC (n := 100) (f := (a 27)) hx hb hK hP 0 (27) (by decide) rfl rfl (vp_in_iff.mpr (by have h7 := c_3; have h8 := (le_pr (by omega)).mp h7.2; simp only [Int32.le_iff_toInt_le, Int32.lt_iff_toInt_lt, T0, nI_toInt (show z 4 < 2 ^ 31 by omega)] at h7 h8; omega)) d_M_told_50 ?_
        exact W.iret (v := (a 27) (x).toNatClampNeg) hx hb hr (fun t ht hW => ⟨⟨(a 27) (x).toNatClampNeg, (28, bk, MW cs 0 z a bk), rfl, Mr_of (by rw [s_M_told, if_pos c_3, if_pos c_5, if_neg c_6]), by rw [ht]; exact hP, va_K.moved hW.alike hK, hD⟩, hS.F ht⟩) hS.2.2 d_M_told_51
      · have c_6 : what = 0 := c_6
        refine lv_aload_n hx hb d_M_told_36 rfl (lv_at hl 0 rfl) ?_
        refine pw_get (ci := 7) (v := .ref (bk (26))) hx hb hw i_M hown hK hP (0) (by decide) rfl rfl 31 (by decide) (hw _ kF_M_86) rfl d_M_told_37 ?_
        refine lv_iload_n hx hb d_M_told_40 rfl (lv_at hl 1 rfl) ?_
        refine pw_ialdC (n := 100) (f := (a 26)) hx hb hK hP 0 (26) (by decide) rfl rfl (vp_in_iff.mpr (by have h7 := c_3; have h8 := (le_pr (by omega)).mp h7.2; simp only [Int32.le_iff_toInt_le, Int32.lt_iff_toInt_lt, T0, nI_toInt (show z 4 < 2 ^ 31 by omega)] at h7 h8; omega)) d_M_told_41 ?_
        refine lv_goto (tgt := 51) hx hb d_M_told_42 (by decide) ?_
        exact W.iret (v := (a 26) (x).toNatClampNeg) hx hb hr (fun t ht hW => ⟨⟨(a 26) (x).toNatClampNeg, (28, bk, MW cs 0 z a bk), rfl, Mr_of (by rw [s_M_told, if_pos c_3, if_pos c_5, if_pos c_6]), by rw [ht]; exact hP, va_K.moved hW.alike hK, hD⟩, hS.F ht⟩) hS.2.2 d_M_told_51
    · have c_5 : ¬ (0 ≤ what ∧ what ≤ 1) := c_5
      refine lv_iconst (v := -1) hx hb d_M_told_28 (by decide) ?_
      refine lv_goto (tgt := 51) hx hb d_M_told_29 (by decide) ?_
      exact W.iret (v := -1) hx hb hr (fun t ht hW => ⟨⟨-1, (28, bk, MW cs 0 z a bk), rfl, Mr_of (by rw [s_M_told, if_pos c_3, if_neg c_5]), by rw [ht]; exact hP, va_K.moved hW.alike hK, hD⟩, hS.F ht⟩) hS.2.2 d_M_told_51
def s_M_row (th : Int32) (z : Nat → Nat) (a : Nat → Nat → Int32) (x : Int32) (what : Int32) : MS := (if 0 ≤ x ∧ x ≤ ((nI (z 3)) - 1) then (if 0 ≤ what ∧ what ≤ 3 then (if what = 0 then ((a 23) (x).toNatClampNeg, 0, z, a) else (if what = 1 then ((a 24) (x).toNatClampNeg, 0, z, a) else (if what = 2 then ((a 25) (x).toNatClampNeg, 0, z, a) else (if ((nI (z 3)) - 1) ≤ x then (0, 0, z, a) else (1, 0, z, a))))) else (0, 1, z, a)) else (0, 1, z, a))
set_option maxHeartbeats 4000000 in
set_option maxRecDepth 100000 in
theorem c_M_row (l : Launch) (D : va_G) (cs : Nat → ClassId) (bk : Nat → Nat) (sz : Nat) (th : Int32) (z : Nat → Nat) (a : Nat → Nat → Int32) (hz3 : z 3 ≤ 200) (x what : Int32) : Met l y_M_row w_M_row ({ frames := 1, cells := 0, slots := 0, locals := 22 }) (va_Pc [.ref (bk (0)), .int (x), .int (what)] (PB D classes (TY cs) 28 bk (MW cs th z a bk) sz)) (va_Qi (Mr cs bk (s_M_row th z a x what)) (Wd D classes (TY cs) (AA 28 bk sz)) (AA 28 bk sz)) 0 0 (AA 28 bk sz) := by
  refine pw_entry (cc := b_M_row) (maxL := 3) (ret := (some .int)) (by decide +kernel) rfl (Nat.le_of_ble_eq_true rfl) ?_
  intro p_ e_ s m below_ meth_ c_ ls hx hb hr hml hts hown hlocks hin hsz hP hK hD hS hA hN hl
  have hw : ∀ w ∈ WA, w.before _ s = true := fun w h => hts w (List.mem_cons_of_mem _ h)
  have hown : s.vm.findClass "IssueRowsModel" = some m.cls := hown
  have hl : lv_has ls 3 [(0, .ref (bk (0))), (1, .int (x)), (2, .int (what))] := hl
  refine lv_aload_n hx hb d_M_row_0 rfl (lv_at hl 0 rfl) ?_
  refine lv_iload_n hx hb d_M_row_1 rfl (lv_at hl 1 rfl) ?_
  refine lv_iconst (v := 0) hx hb d_M_row_2 (by decide) ?_
  refine lv_aload_n hx hb d_M_row_3 rfl (lv_at hl 0 rfl) ?_
  refine pw_get (ci := 7) (v := .int (nI (z 3))) hx hb hw i_M hown hK hP (0) (by decide) rfl rfl 26 (by decide) (hw _ kF_M_138) rfl d_M_row_4 ?_
  refine lv_iconst (v := 1) hx hb d_M_row_7 (by decide) ?_
  refine lv_isub hx hb d_M_row_8 ?_
  refine pw_callSi (va_runS (As := [.int (x), .int (0), .int ((nI (z 3)) - 1)]) (rest := [.ref (bk (0))]) ⟨hx, hb, hml, hown, hw⟩ (c_M_in l D cs bk s.heap.size th z a x 0 ((nI (z 3)) - 1)) (cw_S 3 hw kM_M_97 kS_M_in kZ_M kC_M_in rfl rfl ⟨rfl, by decide, by decide, by decide +kernel⟩ ⟨Nat.le_of_ble_eq_true rfl, Nat.le_of_ble_eq_true rfl⟩) (pw_preS hN hK hP hD) rfl rfl hl.1 rfl (lv_room (Nat.le_of_ble_eq_true rfl)) d_M_row_9 ⟨Nat.le_of_ble_eq_true rfl, Nat.le_of_ble_eq_true rfl⟩) (fun r_1 hr_1 => ?_)
  have hr_1 : r_1 = bI (0 ≤ x ∧ x ≤ ((nI (z 3)) - 1)) := hr_1
  subst hr_1
  refine pw_ifeq (tgt := 24) hx hb d_M_row_12 (by decide) (fun c_2 => ?_) (fun c_2 => ?_)
  · have c_2 : ¬ (0 ≤ x ∧ x ≤ ((nI (z 3)) - 1)) := c_2
    refine lv_iconst (v := 1) hx hb d_M_row_24 (by decide) ?_
    refine lv_goto (tgt := 29) hx hb d_M_row_25 (by decide) ?_
    refine pw_put (ci := 7) (v := .int (1)) (ty := .int) (fs' := [.int (1), .ref (bk (1)), .ref (bk (2)), .ref (bk (3)), .int (nI (z 0)), .ref (bk (4)), .ref (bk (5)), .ref (bk (6)), .ref (bk (7)), .ref (bk (8)), .ref (bk (9)), .ref (bk (10)), .ref (bk (11)), .ref (bk (12)), .ref (bk (13)), .ref (bk (14)), .ref (bk (15)), .ref (bk (16)), .ref (bk (17)), .ref (bk (18)), .ref (bk (19)), .ref (bk (20)), .int (nI (z 1)), .ref (bk (21)), .ref (bk (22)), .int (nI (z 2)), .int (nI (z 3)), .ref (bk (23)), .ref (bk (24)), .ref (bk (25)), .int (nI (z 4)), .ref (bk (26)), .ref (bk (27))]) hx hb hw i_M t_M t_M_ok n_M hown hK hP hD hS (0) (by decide) rfl rfl 0 (by decide) (hw _ kF_M_92) rfl (t_M_ok 0 (by decide)) rfl rfl (Nat.le_of_ble_eq_true rfl) rfl d_M_row_29 (fun cw_3 H locs ecw_3 hP hD hS => ?_)
    obtain rfl : cw_3 = MW cs 1 z a bk := by rw [ecw_3]; exact MW_obj 1 z
    refine lv_aload_n hx hb d_M_row_32 rfl (lv_at hl 0 rfl) ?_
    refine pw_get (ci := 7) (v := .int (1)) hx hb hw i_M hown hK hP (0) (by decide) rfl rfl 0 (by decide) (hw _ kF_M_92) rfl d_M_row_33 ?_
    refine lv_if_le (tgt := 41) hx hb d_M_row_36 (by decide) (fun c_4 => ?_) (fun c_4 => ?_)
    · exact absurd c_4 (by decide)
    · skip
      refine lv_iconst (v := 0) hx hb d_M_row_39 (by decide) ?_
      exact W.iret (v := 0) hx hb hr (fun t ht hW => ⟨⟨0, (28, bk, MW cs 1 z a bk), rfl, Mr_of (by rw [s_M_row, if_neg c_2]), by rw [ht]; exact hP, va_K.moved hW.alike hK, hD⟩, hS.F ht⟩) hS.2.2 d_M_row_40
  · have c_2 : 0 ≤ x ∧ x ≤ ((nI (z 3)) - 1) := c_2
    refine lv_iload_n hx hb d_M_row_15 rfl (lv_at hl 2 rfl) ?_
    refine lv_iconst (v := 0) hx hb d_M_row_16 (by decide) ?_
    refine lv_iconst (v := 3) hx hb d_M_row_17 (by decide) ?_
    refine pw_callSi (va_runS (As := [.int (what), .int (0), .int (3)]) (rest := [.ref (bk (0))]) ⟨hx, hb, hml, hown, hw⟩ (c_M_in l D cs bk s.heap.size th z a what 0 3) (cw_S 3 hw kM_M_97 kS_M_in kZ_M kC_M_in rfl rfl ⟨rfl, by decide, by decide, by decide +kernel⟩ ⟨Nat.le_of_ble_eq_true rfl, Nat.le_of_ble_eq_true rfl⟩) (pw_preS hN hK hP hD) rfl rfl hl.1 rfl (lv_room (Nat.le_of_ble_eq_true rfl)) d_M_row_18 ⟨Nat.le_of_ble_eq_true rfl, Nat.le_of_ble_eq_true rfl⟩) (fun r_5 hr_5 => ?_)
    have hr_5 : r_5 = bI (0 ≤ what ∧ what ≤ 3) := hr_5
    subst hr_5
    refine pw_ifne (tgt := 28) hx hb d_M_row_21 (by decide) (fun c_6 => ?_) (fun c_6 => ?_)
    · have c_6 : 0 ≤ what ∧ what ≤ 3 := c_6
      refine lv_iconst (v := 0) hx hb d_M_row_28 (by decide) ?_
      refine pw_put (ci := 7) (v := .int (0)) (ty := .int) (fs' := [.int (0), .ref (bk (1)), .ref (bk (2)), .ref (bk (3)), .int (nI (z 0)), .ref (bk (4)), .ref (bk (5)), .ref (bk (6)), .ref (bk (7)), .ref (bk (8)), .ref (bk (9)), .ref (bk (10)), .ref (bk (11)), .ref (bk (12)), .ref (bk (13)), .ref (bk (14)), .ref (bk (15)), .ref (bk (16)), .ref (bk (17)), .ref (bk (18)), .ref (bk (19)), .ref (bk (20)), .int (nI (z 1)), .ref (bk (21)), .ref (bk (22)), .int (nI (z 2)), .int (nI (z 3)), .ref (bk (23)), .ref (bk (24)), .ref (bk (25)), .int (nI (z 4)), .ref (bk (26)), .ref (bk (27))]) hx hb hw i_M t_M t_M_ok n_M hown hK hP hD hS (0) (by decide) rfl rfl 0 (by decide) (hw _ kF_M_92) rfl (t_M_ok 0 (by decide)) rfl rfl (Nat.le_of_ble_eq_true rfl) rfl d_M_row_29 (fun cw_7 H locs ecw_7 hP hD hS => ?_)
      obtain rfl : cw_7 = MW cs 0 z a bk := by rw [ecw_7]; exact MW_obj 0 z
      refine lv_aload_n hx hb d_M_row_32 rfl (lv_at hl 0 rfl) ?_
      refine pw_get (ci := 7) (v := .int (0)) hx hb hw i_M hown hK hP (0) (by decide) rfl rfl 0 (by decide) (hw _ kF_M_92) rfl d_M_row_33 ?_
      refine lv_if_le (tgt := 41) hx hb d_M_row_36 (by decide) (fun c_8 => ?_) (fun c_8 => ?_)
      · skip
        refine lv_iload_n hx hb d_M_row_41 rfl (lv_at hl 2 rfl) ?_
        refine lv_if_ne (tgt := 54) hx hb d_M_row_42 (by decide) (fun c_9 => ?_) (fun c_9 => ?_)
        · have c_9 : ¬ what = 0 := c_9
          refine lv_iload_n hx hb d_M_row_54 rfl (lv_at hl 2 rfl) ?_
          refine lv_iconst (v := 1) hx hb d_M_row_55 (by decide) ?_
          refine lv_icmp_ne (tgt := 68) hx hb d_M_row_56 (by decide) (fun c_10 => ?_) (fun c_10 => ?_)
          · have c_10 : ¬ what = 1 := c_10
            refine lv_iload_n hx hb d_M_row_68 rfl (lv_at hl 2 rfl) ?_
            refine lv_iconst (v := 2) hx hb d_M_row_69 (by decide) ?_
            refine lv_icmp_ne (tgt := 82) hx hb d_M_row_70 (by decide) (fun c_11 => ?_) (fun c_11 => ?_)
            · have c_11 : ¬ what = 2 := c_11
              refine lv_iload_n hx hb d_M_row_82 rfl (lv_at hl 1 rfl) ?_
              refine lv_aload_n hx hb d_M_row_83 rfl (lv_at hl 0 rfl) ?_
              refine pw_get (ci := 7) (v := .int (nI (z 3))) hx hb hw i_M hown hK hP (0) (by decide) rfl rfl 26 (by decide) (hw _ kF_M_138) rfl d_M_row_84 ?_
              refine lv_iconst (v := 1) hx hb d_M_row_87 (by decide) ?_
              refine lv_isub hx hb d_M_row_88 ?_
              refine lv_icmp_ge (tgt := 96) hx hb d_M_row_89 (by decide) (fun c_12 => ?_) (fun c_12 => ?_)
              · have c_12 : ((nI (z 3)) - 1) ≤ x := c_12
                refine lv_iconst (v := 0) hx hb d_M_row_96 (by decide) ?_
                exact W.iret (v := 0) hx hb hr (fun t ht hW => ⟨⟨0, (28, bk, MW cs 0 z a bk), rfl, Mr_of (by rw [s_M_row, if_pos c_2, if_pos c_6, if_neg c_9, if_neg c_10, if_neg c_11, if_pos c_12]), by rw [ht]; exact hP, va_K.moved hW.alike hK, hD⟩, hS.F ht⟩) hS.2.2 d_M_row_97
              · have c_12 : ¬ ((nI (z 3)) - 1) ≤ x := c_12
                refine lv_iconst (v := 1) hx hb d_M_row_92 (by decide) ?_
                refine lv_goto (tgt := 97) hx hb d_M_row_93 (by decide) ?_
                exact W.iret (v := 1) hx hb hr (fun t ht hW => ⟨⟨1, (28, bk, MW cs 0 z a bk), rfl, Mr_of (by rw [s_M_row, if_pos c_2, if_pos c_6, if_neg c_9, if_neg c_10, if_neg c_11, if_neg c_12]), by rw [ht]; exact hP, va_K.moved hW.alike hK, hD⟩, hS.F ht⟩) hS.2.2 d_M_row_97
            · have c_11 : what = 2 := c_11
              refine lv_aload_n hx hb d_M_row_73 rfl (lv_at hl 0 rfl) ?_
              refine pw_get (ci := 7) (v := .ref (bk (25))) hx hb hw i_M hown hK hP (0) (by decide) rfl rfl 29 (by decide) (hw _ kF_M_83) rfl d_M_row_74 ?_
              refine lv_iload_n hx hb d_M_row_77 rfl (lv_at hl 1 rfl) ?_
              refine pw_ialdC (n := 200) (f := (a 25)) hx hb hK hP 0 (25) (by decide) rfl rfl (vp_in_iff.mpr (by have h7 := c_2; have h8 := (le_pr (by omega)).mp h7.2; simp only [Int32.le_iff_toInt_le, Int32.lt_iff_toInt_lt, T0, nI_toInt (show z 3 < 2 ^ 31 by omega)] at h7 h8; omega)) d_M_row_78 ?_
              refine lv_goto (tgt := 97) hx hb d_M_row_79 (by decide) ?_
              exact W.iret (v := (a 25) (x).toNatClampNeg) hx hb hr (fun t ht hW => ⟨⟨(a 25) (x).toNatClampNeg, (28, bk, MW cs 0 z a bk), rfl, Mr_of (by rw [s_M_row, if_pos c_2, if_pos c_6, if_neg c_9, if_neg c_10, if_pos c_11]), by rw [ht]; exact hP, va_K.moved hW.alike hK, hD⟩, hS.F ht⟩) hS.2.2 d_M_row_97
          · have c_10 : what = 1 := c_10
            refine lv_aload_n hx hb d_M_row_59 rfl (lv_at hl 0 rfl) ?_
            refine pw_get (ci := 7) (v := .ref (bk (24))) hx hb hw i_M hown hK hP (0) (by decide) rfl rfl 28 (by decide) (hw _ kF_M_80) rfl d_M_row_60 ?_
            refine lv_iload_n hx hb d_M_row_63 rfl (lv_at hl 1 rfl) ?_
            refine pw_ialdC (n := 200) (f := (a 24)) hx hb hK hP 0 (24) (by decide) rfl rfl (vp_in_iff.mpr (by have h7 := c_2; have h8 := (le_pr (by omega)).mp h7.2; simp only [Int32.le_iff_toInt_le, Int32.lt_iff_toInt_lt, T0, nI_toInt (show z 3 < 2 ^ 31 by omega)] at h7 h8; omega)) d_M_row_64 ?_
            refine lv_goto (tgt := 97) hx hb d_M_row_65 (by decide) ?_
            exact W.iret (v := (a 24) (x).toNatClampNeg) hx hb hr (fun t ht hW => ⟨⟨(a 24) (x).toNatClampNeg, (28, bk, MW cs 0 z a bk), rfl, Mr_of (by rw [s_M_row, if_pos c_2, if_pos c_6, if_neg c_9, if_pos c_10]), by rw [ht]; exact hP, va_K.moved hW.alike hK, hD⟩, hS.F ht⟩) hS.2.2 d_M_row_97
        · have c_9 : what = 0 := c_9
          refine lv_aload_n hx hb d_M_row_45 rfl (lv_at hl 0 rfl) ?_
          refine pw_get (ci := 7) (v := .ref (bk (23))) hx hb hw i_M hown hK hP (0) (by decide) rfl rfl 27 (by decide) (hw _ kF_M_77) rfl d_M_row_46 ?_
          refine lv_iload_n hx hb d_M_row_49 rfl (lv_at hl 1 rfl) ?_
          refine pw_ialdC (n := 200) (f := (a 23)) hx hb hK hP 0 (23) (by decide) rfl rfl (vp_in_iff.mpr (by have h7 := c_2; have h8 := (le_pr (by omega)).mp h7.2; simp only [Int32.le_iff_toInt_le, Int32.lt_iff_toInt_lt, T0, nI_toInt (show z 3 < 2 ^ 31 by omega)] at h7 h8; omega)) d_M_row_50 ?_
          refine lv_goto (tgt := 97) hx hb d_M_row_51 (by decide) ?_
          exact W.iret (v := (a 23) (x).toNatClampNeg) hx hb hr (fun t ht hW => ⟨⟨(a 23) (x).toNatClampNeg, (28, bk, MW cs 0 z a bk), rfl, Mr_of (by rw [s_M_row, if_pos c_2, if_pos c_6, if_pos c_9]), by rw [ht]; exact hP, va_K.moved hW.alike hK, hD⟩, hS.F ht⟩) hS.2.2 d_M_row_97
      · exact absurd c_8 (by decide)
    · have c_6 : ¬ (0 ≤ what ∧ what ≤ 3) := c_6
      refine lv_iconst (v := 1) hx hb d_M_row_24 (by decide) ?_
      refine lv_goto (tgt := 29) hx hb d_M_row_25 (by decide) ?_
      refine pw_put (ci := 7) (v := .int (1)) (ty := .int) (fs' := [.int (1), .ref (bk (1)), .ref (bk (2)), .ref (bk (3)), .int (nI (z 0)), .ref (bk (4)), .ref (bk (5)), .ref (bk (6)), .ref (bk (7)), .ref (bk (8)), .ref (bk (9)), .ref (bk (10)), .ref (bk (11)), .ref (bk (12)), .ref (bk (13)), .ref (bk (14)), .ref (bk (15)), .ref (bk (16)), .ref (bk (17)), .ref (bk (18)), .ref (bk (19)), .ref (bk (20)), .int (nI (z 1)), .ref (bk (21)), .ref (bk (22)), .int (nI (z 2)), .int (nI (z 3)), .ref (bk (23)), .ref (bk (24)), .ref (bk (25)), .int (nI (z 4)), .ref (bk (26)), .ref (bk (27))]) hx hb hw i_M t_M t_M_ok n_M hown hK hP hD hS (0) (by decide) rfl rfl 0 (by decide) (hw _ kF_M_92) rfl (t_M_ok 0 (by decide)) rfl rfl (Nat.le_of_ble_eq_true rfl) rfl d_M_row_29 (fun cw_13 H locs ecw_13 hP hD hS => ?_)
      obtain rfl : cw_13 = MW cs 1 z a bk := by rw [ecw_13]; exact MW_obj 1 z
      refine lv_aload_n hx hb d_M_row_32 rfl (lv_at hl 0 rfl) ?_
      refine pw_get (ci := 7) (v := .int (1)) hx hb hw i_M hown hK hP (0) (by decide) rfl rfl 0 (by decide) (hw _ kF_M_92) rfl d_M_row_33 ?_
      refine lv_if_le (tgt := 41) hx hb d_M_row_36 (by decide) (fun c_14 => ?_) (fun c_14 => ?_)
      · exact absurd c_14 (by decide)
      · skip
        refine lv_iconst (v := 0) hx hb d_M_row_39 (by decide) ?_
        exact W.iret (v := 0) hx hb hr (fun t ht hW => ⟨⟨0, (28, bk, MW cs 1 z a bk), rfl, Mr_of (by rw [s_M_row, if_pos c_2, if_neg c_6]), by rw [ht]; exact hP, va_K.moved hW.alike hK, hD⟩, hS.F ht⟩) hS.2.2 d_M_row_40
end
section
/-- what 'tell' leaves, without a branch -/
def tlz (z : Nat → Nat) : Nat := if nI (z 4) = 100 then z 4 else z 4 + 1
def tla (z : Nat → Nat) (f : Nat → Int32) (x : Int32) : Nat → Int32 := if nI (z 4) = 100 then f else upd f (z 4) x
theorem va_up_id {α : Type} (f : Nat → α) (k : Nat) : va_up f k (f k) = f := by
  funext j
  by_cases h : j = k
  · subst h; rw [va_up_self]
  · rw [va_up_ne _ _ h]
theorem tell_eq {th : Int32} {z : Nat → Nat} {a : Nat → Nat → Int32} {x y : Int32} : s_M_tell th z a x y = (0, th, va_up z 4 (tlz z), va_up (va_up a 26 (tla z (a 26) x)) 27 (tla z (a 27) y)) := by
  unfold s_M_tell tlz tla
  by_cases h : nI (z 4) = 100
  · simp only [if_pos h]
    rw [va_up_id, va_up_id, va_up_id]
  · simp only [if_neg h]
theorem px_eq {j : Nat} {x : Int32} (h : 0 ≤ x) : 8 * nI j + x = nI (8 * j + x.toNatClampNeg) := by
  obtain ⟨k, hk, rfl⟩ := nI_of (x := x) (Int32.not_lt.mpr h)
  rw [nI_clamp hk]
  exact (congrArg (· + nI k) (pk_mul 8 j)).trans (nI_add (8 * j) k)
theorem px_lt {x : Int32} (h : 0 ≤ x) {n : Nat} {y : Int32} (hy : x < y) (hn : y ≤ nI n) (h31 : n < 2 ^ 31) : x.toNatClampNeg < n := by
  obtain ⟨k, hk, rfl⟩ := nI_of (x := x) (Int32.not_lt.mpr h)
  rw [nI_clamp hk]
  rw [Int32.lt_iff_toInt_lt, nI_toInt hk] at hy
  rw [Int32.le_iff_toInt_le, nI_toInt h31] at hn
  omega
theorem px_s {x : Int32} (h : 0 ≤ x) (h8 : x < 8) : (x + 1).toNatClampNeg = x.toNatClampNeg + 1 := by
  obtain ⟨k, hk, rfl⟩ := nI_of (x := x) (Int32.not_lt.mpr h)
  rw [Int32.lt_iff_toInt_lt, nI_toInt hk, T8] at h8
  rw [nI_1, nI_clamp (by omega), nI_clamp hk]
end
section
def s_M_list_out (th : Int32) (z : Nat → Nat) (a : Nat → Nat → Int32) (x : Int32) (who : Int32) (days : Int32) : MS := (-1, 0, z, a)
set_option maxHeartbeats 4000000 in
set_option maxRecDepth 100000 in
theorem c_M_list_out (l : Launch) (D : va_G) (cs : Nat → ClassId) (bk : Nat → Nat) (sz : Nat) (th : Int32) (z : Nat → Nat) (a : Nat → Nat → Int32) (hz : z 0 ≤ 200) (x : Int32) (ho : ¬ (0 ≤ x ∧ x < nI (z 0))) (who days : Int32) : Met l y_M_list w_M_list ({ frames := 2, cells := 0, slots := 0, locals := 43 }) (va_Pc [.ref (bk (0)), .int (x), .int (who), .int (days)] (PB D classes (TY cs) 28 bk (MW cs th z a bk) sz)) (va_Qi (Mr cs bk (s_M_list_out th z a x who days)) (Wd D classes (TY cs) (AA 28 bk sz)) (AA 28 bk sz)) 0 0 (AA 28 bk sz) := by
  refine pw_entry (cc := b_M_list) (maxL := 4) (ret := (some .int)) (by decide +kernel) rfl (Nat.le_of_ble_eq_true rfl) ?_
  intro p_ e_ s m below_ meth_ c_ ls hx hb hr hml hts hown hlocks hin hsz hP hK hD hS hA hN hl
  have hw : ∀ w ∈ WA, w.before _ s = true := fun w h => hts w (List.mem_cons_of_mem _ h)
  have hown : s.vm.findClass "IssueRowsModel" = some m.cls := hown
  have hl : lv_has ls 4 [(0, .ref (bk (0))), (1, .int (x)), (2, .int (who)), (3, .int (days))] := hl
  refine lv_aload_n hx hb d_M_list_0 rfl (lv_at hl 0 rfl) ?_
  refine lv_iconst (v := 0) hx hb d_M_list_1 (by decide) ?_
  refine pw_put (ci := 7) (v := .int (0)) (ty := .int) (fs' := [.int (0), .ref (bk (1)), .ref (bk (2)), .ref (bk (3)), .int (nI (z 0)), .ref (bk (4)), .ref (bk (5)), .ref (bk (6)), .ref (bk (7)), .ref (bk (8)), .ref (bk (9)), .ref (bk (10)), .ref (bk (11)), .ref (bk (12)), .ref (bk (13)), .ref (bk (14)), .ref (bk (15)), .ref (bk (16)), .ref (bk (17)), .ref (bk (18)), .ref (bk (19)), .ref (bk (20)), .int (nI (z 1)), .ref (bk (21)), .ref (bk (22)), .int (nI (z 2)), .int (nI (z 3)), .ref (bk (23)), .ref (bk (24)), .ref (bk (25)), .int (nI (z 4)), .ref (bk (26)), .ref (bk (27))]) hx hb hw i_M t_M t_M_ok n_M hown hK hP hD hS (0) (by decide) rfl rfl 0 (by decide) (hw _ kF_M_92) rfl (t_M_ok 0 (by decide)) rfl rfl (Nat.le_of_ble_eq_true rfl) rfl d_M_list_2 (fun cw_1 H locs ecw_1 hP hD hS => ?_)
  obtain rfl : cw_1 = MW cs 0 z a bk := by rw [ecw_1]; exact MW_obj 0 z
  refine lv_aload_n hx hb d_M_list_5 rfl (lv_at hl 0 rfl) ?_
  refine lv_iload_n hx hb d_M_list_6 rfl (lv_at hl 1 rfl) ?_
  refine pw_callSi (va_runV (As := [.int (x)]) (rest := []) ⟨hx, hb, hml, hown, hw⟩ (c_M_isIssue l D cs bk H.size 0 z a hz x) (cw_V 1 hw kM_M_115 kI_M_isIssue kV_M_isIssue kZ_M kC_M_isIssue rfl rfl ⟨rfl, by decide, by decide, by decide +kernel⟩ ⟨Nat.le_of_ble_eq_true rfl, Nat.le_of_ble_eq_true rfl⟩) (pw_preV hN hK hP hD (0) (by decide) rfl rfl) rfl rfl hl.1 rfl (lv_room (Nat.le_of_ble_eq_true rfl)) d_M_list_7 ⟨Nat.le_of_ble_eq_true rfl, Nat.le_of_ble_eq_true rfl⟩) (fun r_2 hr_2 => ?_)
  have hr_2 : r_2 = bI (0 ≤ x ∧ x < nI (z 0)) := hr_2
  subst hr_2
  refine pw_ifne (tgt := 15) hx hb d_M_list_10 (by decide) (fun c_3 => ?_) (fun c_3 => ?_)
  · have c_3 : 0 ≤ x ∧ x < nI (z 0) := c_3
    exact absurd c_3 ho
  · have c_3 : ¬ (0 ≤ x ∧ x < nI (z 0)) := c_3
    refine lv_iconst (v := -1) hx hb d_M_list_13 (by decide) ?_
    exact W.iret (v := -1) hx hb hr (fun t ht hW => ⟨⟨-1, (28, bk, MW cs 0 z a bk), rfl, Mr_of (by rw [s_M_list_out]), by rw [ht]; exact hP, va_K.moved hW.alike hK, hD⟩, hS.F ht⟩) hS.2.2 d_M_list_14
def s_M_list (th : Int32) (z : Nat → Nat) (a : Nat → Nat → Int32) (j : Nat) (who : Int32) (days : Int32) : MS := (if 0 ≤ who ∧ who ≤ 999 then (if 1 ≤ days ∧ days ≤ 100 then (if ((a 6) (j)) = 3 then (if ((a 19) (j)) < 0 then (if ((a 16) (j)) = 8 then (-4, 0, z, a) else ((upd (a 16) (j) (((a 16) (j)) + 1)) (j), 0, z, va_up (va_up (va_up a 17 (upd (a 17) (8 * j + ((a 16) (j)).toNatClampNeg) (who))) 18 (upd (a 18) (8 * j + ((a 16) (j)).toNatClampNeg) (days))) 16 (upd (a 16) (j) (((a 16) (j)) + 1)))) else (-3, 0, z, a)) else (-3, 0, z, a)) else (-2, 0, z, a)) else (-2, 0, z, a))
set_option maxHeartbeats 4000000 in
set_option maxRecDepth 100000 in
theorem c_M_list (l : Launch) (D : va_G) (cs : Nat → ClassId) (bk : Nat → Nat) (sz : Nat) (th : Int32) (z : Nat → Nat) (a : Nat → Nat → Int32) (hz : z 0 ≤ 200) (j : Nat) (hj : j < z 0) (hrs : 0 ≤ a 16 j ∧ a 16 j ≤ 8) (who days : Int32) : Met l y_M_list w_M_list ({ frames := 2, cells := 0, slots := 0, locals := 43 }) (va_Pc [.ref (bk (0)), .int (nI j), .int (who), .int (days)] (PB D classes (TY cs) 28 bk (MW cs th z a bk) sz)) (va_Qi (Mr cs bk (s_M_list th z a j who days)) (Wd D classes (TY cs) (AA 28 bk sz)) (AA 28 bk sz)) 0 0 (AA 28 bk sz) := by
  refine pw_entry (cc := b_M_list) (maxL := 4) (ret := (some .int)) (by decide +kernel) rfl (Nat.le_of_ble_eq_true rfl) ?_
  intro p_ e_ s m below_ meth_ c_ ls hx hb hr hml hts hown hlocks hin hsz hP hK hD hS hA hN hl
  have hw : ∀ w ∈ WA, w.before _ s = true := fun w h => hts w (List.mem_cons_of_mem _ h)
  have hown : s.vm.findClass "IssueRowsModel" = some m.cls := hown
  have hl : lv_has ls 4 [(0, .ref (bk (0))), (1, .int (nI j)), (2, .int (who)), (3, .int (days))] := hl
  refine lv_aload_n hx hb d_M_list_0 rfl (lv_at hl 0 rfl) ?_
  refine lv_iconst (v := 0) hx hb d_M_list_1 (by decide) ?_
  refine pw_put (ci := 7) (v := .int (0)) (ty := .int) (fs' := [.int (0), .ref (bk (1)), .ref (bk (2)), .ref (bk (3)), .int (nI (z 0)), .ref (bk (4)), .ref (bk (5)), .ref (bk (6)), .ref (bk (7)), .ref (bk (8)), .ref (bk (9)), .ref (bk (10)), .ref (bk (11)), .ref (bk (12)), .ref (bk (13)), .ref (bk (14)), .ref (bk (15)), .ref (bk (16)), .ref (bk (17)), .ref (bk (18)), .ref (bk (19)), .ref (bk (20)), .int (nI (z 1)), .ref (bk (21)), .ref (bk (22)), .int (nI (z 2)), .int (nI (z 3)), .ref (bk (23)), .ref (bk (24)), .ref (bk (25)), .int (nI (z 4)), .ref (bk (26)), .ref (bk (27))]) hx hb hw i_M t_M t_M_ok n_M hown hK hP hD hS (0) (by decide) rfl rfl 0 (by decide) (hw _ kF_M_92) rfl (t_M_ok 0 (by decide)) rfl rfl (Nat.le_of_ble_eq_true rfl) rfl d_M_list_2 (fun cw_1 H locs ecw_1 hP hD hS => ?_)
  obtain rfl : cw_1 = MW cs 0 z a bk := by rw [ecw_1]; exact MW_obj 0 z
  refine lv_aload_n hx hb d_M_list_5 rfl (lv_at hl 0 rfl) ?_
  refine lv_iload_n hx hb d_M_list_6 rfl (lv_at hl 1 rfl) ?_
  refine pw_callSi (va_runV (As := [.int (nI j)]) (rest := []) ⟨hx, hb, hml, hown, hw⟩ (c_M_isIssue l D cs bk H.size 0 z a hz (nI j)) (cw_V 1 hw kM_M_115 kI_M_isIssue kV_M_isIssue kZ_M kC_M_isIssue rfl rfl ⟨rfl, by decide, by decide, by decide +kernel⟩ ⟨Nat.le_of_ble_eq_true rfl, Nat.le_of_ble_eq_true rfl⟩) (pw_preV hN hK hP hD (0) (by decide) rfl rfl) rfl rfl hl.1 rfl (lv_room (Nat.le_of_ble_eq_true rfl)) d_M_list_7 ⟨Nat.le_of_ble_eq_true rfl, Nat.le_of_ble_eq_true rfl⟩) (fun r_2 hr_2 => ?_)
  have hr_2 : r_2 = bI (0 ≤ (nI j) ∧ (nI j) < nI (z 0)) := hr_2
  subst hr_2
  refine pw_ifne (tgt := 15) hx hb d_M_list_10 (by decide) (fun c_3 => ?_) (fun c_3 => ?_)
  · have c_3 : 0 ≤ (nI j) ∧ (nI j) < nI (z 0) := c_3
    refine lv_iload_n hx hb d_M_list_15 rfl (lv_at hl 2 rfl) ?_
    refine lv_iconst (v := 0) hx hb d_M_list_16 (by decide) ?_
    refine lv_sipush (v := 999) hx hb d_M_list_17 (by decide) ?_
    refine pw_callSi (va_runS (As := [.int (who), .int (0), .int (999)]) (rest := []) ⟨hx, hb, hml, hown, hw⟩ (c_M_in l D cs bk H.size 0 z a who 0 999) (cw_S 3 hw kM_M_97 kS_M_in kZ_M kC_M_in rfl rfl ⟨rfl, by decide, by decide, by decide +kernel⟩ ⟨Nat.le_of_ble_eq_true rfl, Nat.le_of_ble_eq_true rfl⟩) (pw_preS hN hK hP hD) rfl rfl hl.1 rfl (lv_room (Nat.le_of_ble_eq_true rfl)) d_M_list_20 ⟨Nat.le_of_ble_eq_true rfl, Nat.le_of_ble_eq_true rfl⟩) (fun r_4 hr_4 => ?_)
    have hr_4 : r_4 = bI (0 ≤ who ∧ who ≤ 999) := hr_4
    subst hr_4
    refine pw_ifeq (tgt := 36) hx hb d_M_list_23 (by decide) (fun c_5 => ?_) (fun c_5 => ?_)
    · have c_5 : ¬ (0 ≤ who ∧ who ≤ 999) := c_5
      refine lv_bipush (v := -2) hx hb d_M_list_36 (by decide) ?_
      exact W.iret (v := -2) hx hb hr (fun t ht hW => ⟨⟨-2, (28, bk, MW cs 0 z a bk), rfl, Mr_of (by rw [s_M_list, if_neg c_5]), by rw [ht]; exact hP, va_K.moved hW.alike hK, hD⟩, hS.F ht⟩) hS.2.2 d_M_list_38
    · have c_5 : 0 ≤ who ∧ who ≤ 999 := c_5
      refine lv_iload_n hx hb d_M_list_26 rfl (lv_at hl 3 rfl) ?_
      refine lv_iconst (v := 1) hx hb d_M_list_27 (by decide) ?_
      refine lv_bipush (v := 100) hx hb d_M_list_28 (by decide) ?_
      refine pw_callSi (va_runS (As := [.int (days), .int (1), .int (100)]) (rest := []) ⟨hx, hb, hml, hown, hw⟩ (c_M_in l D cs bk H.size 0 z a days 1 100) (cw_S 3 hw kM_M_97 kS_M_in kZ_M kC_M_in rfl rfl ⟨rfl, by decide, by decide, by decide +kernel⟩ ⟨Nat.le_of_ble_eq_true rfl, Nat.le_of_ble_eq_true rfl⟩) (pw_preS hN hK hP hD) rfl rfl hl.1 rfl (lv_room (Nat.le_of_ble_eq_true rfl)) d_M_list_30 ⟨Nat.le_of_ble_eq_true rfl, Nat.le_of_ble_eq_true rfl⟩) (fun r_6 hr_6 => ?_)
      have hr_6 : r_6 = bI (1 ≤ days ∧ days ≤ 100) := hr_6
      subst hr_6
      refine pw_ifne (tgt := 39) hx hb d_M_list_33 (by decide) (fun c_7 => ?_) (fun c_7 => ?_)
      · have c_7 : 1 ≤ days ∧ days ≤ 100 := c_7
        refine lv_aload_n hx hb d_M_list_39 rfl (lv_at hl 0 rfl) ?_
        refine pw_get (ci := 7) (v := .ref (bk (6))) hx hb hw i_M hown hK hP (0) (by decide) rfl rfl 7 (by decide) (hw _ kF_M_25) rfl d_M_list_40 ?_
        refine lv_iload_n hx hb d_M_list_43 rfl (lv_at hl 1 rfl) ?_
        refine pw_iald (n := 200) (f := (a 6)) hx hb hK hP 0 (6) (by decide) rfl rfl (j) rfl (by omega) (by decide) d_M_list_44 ?_
        refine lv_iconst (v := 3) hx hb d_M_list_45 (by decide) ?_
        refine lv_icmp_ne (tgt := 58) hx hb d_M_list_46 (by decide) (fun c_8 => ?_) (fun c_8 => ?_)
        · have c_8 : ¬ ((a 6) (j)) = 3 := c_8
          refine lv_bipush (v := -3) hx hb d_M_list_58 (by decide) ?_
          exact W.iret (v := -3) hx hb hr (fun t ht hW => ⟨⟨-3, (28, bk, MW cs 0 z a bk), rfl, Mr_of (by rw [s_M_list, if_pos c_5, if_pos c_7, if_neg c_8]), by rw [ht]; exact hP, va_K.moved hW.alike hK, hD⟩, hS.F ht⟩) hS.2.2 d_M_list_60
        · have c_8 : ((a 6) (j)) = 3 := c_8
          refine lv_aload_n hx hb d_M_list_49 rfl (lv_at hl 0 rfl) ?_
          refine pw_get (ci := 7) (v := .ref (bk (19))) hx hb hw i_M hown hK hP (0) (by decide) rfl rfl 20 (by decide) (hw _ kF_M_65) rfl d_M_list_50 ?_
          refine lv_iload_n hx hb d_M_list_53 rfl (lv_at hl 1 rfl) ?_
          refine pw_iald (n := 200) (f := (a 19)) hx hb hK hP 0 (19) (by decide) rfl rfl (j) rfl (by omega) (by decide) d_M_list_54 ?_
          refine lv_if_lt (tgt := 61) hx hb d_M_list_55 (by decide) (fun c_9 => ?_) (fun c_9 => ?_)
          · have c_9 : ((a 19) (j)) < 0 := c_9
            refine lv_aload_n hx hb d_M_list_61 rfl (lv_at hl 0 rfl) ?_
            refine pw_get (ci := 7) (v := .ref (bk (16))) hx hb hw i_M hown hK hP (0) (by decide) rfl rfl 17 (by decide) (hw _ kF_M_56) rfl d_M_list_62 ?_
            refine lv_iload_n hx hb d_M_list_65 rfl (lv_at hl 1 rfl) ?_
            refine pw_iald (n := 200) (f := (a 16)) hx hb hK hP 0 (16) (by decide) rfl rfl (j) rfl (by omega) (by decide) d_M_list_66 ?_
            refine lv_bipush (v := 8) hx hb d_M_list_67 (by decide) ?_
            refine lv_icmp_ne (tgt := 75) hx hb d_M_list_69 (by decide) (fun c_10 => ?_) (fun c_10 => ?_)
            · have c_10 : ¬ ((a 16) (j)) = 8 := c_10
              refine lv_aload_n hx hb d_M_list_75 rfl (lv_at hl 0 rfl) ?_
              refine pw_get (ci := 7) (v := .ref (bk (17))) hx hb hw i_M hown hK hP (0) (by decide) rfl rfl 18 (by decide) (hw _ kF_M_59) rfl d_M_list_76 ?_
              refine lv_bipush (v := 8) hx hb d_M_list_79 (by decide) ?_
              refine lv_iload_n hx hb d_M_list_81 rfl (lv_at hl 1 rfl) ?_
              refine lv_imul hx hb d_M_list_82 ?_
              refine lv_aload_n hx hb d_M_list_83 rfl (lv_at hl 0 rfl) ?_
              refine pw_get (ci := 7) (v := .ref (bk (16))) hx hb hw i_M hown hK hP (0) (by decide) rfl rfl 17 (by decide) (hw _ kF_M_56) rfl d_M_list_84 ?_
              refine lv_iload_n hx hb d_M_list_87 rfl (lv_at hl 1 rfl) ?_
              refine pw_iald (n := 200) (f := (a 16)) hx hb hK hP 0 (16) (by decide) rfl rfl (j) rfl (by omega) (by decide) d_M_list_88 ?_
              refine lv_iadd hx hb d_M_list_89 ?_
              rw [show (8 * (nI j)) + ((a 16) (j)) = nI (8 * j + ((a 16) (j)).toNatClampNeg) from px_eq hrs.1]
              refine lv_iload_n hx hb d_M_list_90 rfl (lv_at hl 2 rfl) ?_
              refine pw_iast (n := 1600) (f := (a 17)) hx hb hK hP hD hS 0 (17) (by decide) rfl rfl (8 * j + ((a 16) (j)).toNatClampNeg) rfl (by have h5 := px_lt (n := 8) (y := 8) hrs.1 (by have h6 := c_10; have h7 := hrs; simp only [Int32.lt_iff_toInt_lt, Int32.le_iff_toInt_le, ← Int32.toInt_inj, T0, T1, T2, T3, T4, T5, T6, T7, T8, T9, T10, T40, T50, T99, T100, T200, T999, T1000, T9999, T1000000, T10000000, T1000000000, Tm1] at h6 h7 ⊢; omega) (by decide) (by decide); omega) (by decide) d_M_list_91 (fun cw_11 H locs ecw_11 hP hD hS => ?_)
              obtain rfl : cw_11 = MW cs 0 z (va_up a 17 (upd (a 17) (8 * j + ((a 16) (j)).toNatClampNeg) (who))) bk := by rw [ecw_11]; exact MW_arr 17 (by decide) (upd (a 17) (8 * j + ((a 16) (j)).toNatClampNeg) (who))
              refine lv_aload_n hx hb d_M_list_92 rfl (lv_at hl 0 rfl) ?_
              refine pw_get (ci := 7) (v := .ref (bk (18))) hx hb hw i_M hown hK hP (0) (by decide) rfl rfl 19 (by decide) (hw _ kF_M_62) rfl d_M_list_93 ?_
              refine lv_bipush (v := 8) hx hb d_M_list_96 (by decide) ?_
              refine lv_iload_n hx hb d_M_list_98 rfl (lv_at hl 1 rfl) ?_
              refine lv_imul hx hb d_M_list_99 ?_
              refine lv_aload_n hx hb d_M_list_100 rfl (lv_at hl 0 rfl) ?_
              refine pw_get (ci := 7) (v := .ref (bk (16))) hx hb hw i_M hown hK hP (0) (by decide) rfl rfl 17 (by decide) (hw _ kF_M_56) rfl d_M_list_101 ?_
              refine lv_iload_n hx hb d_M_list_104 rfl (lv_at hl 1 rfl) ?_
              refine pw_iald (n := 200) (f := (a 16)) hx hb hK hP 0 (16) (by decide) rfl rfl (j) rfl (by omega) (by decide) d_M_list_105 ?_
              refine lv_iadd hx hb d_M_list_106 ?_
              rw [show (8 * (nI j)) + ((a 16) (j)) = nI (8 * j + ((a 16) (j)).toNatClampNeg) from px_eq hrs.1]
              refine lv_iload_n hx hb d_M_list_107 rfl (lv_at hl 3 rfl) ?_
              refine pw_iast (n := 1600) (f := (a 18)) hx hb hK hP hD hS 0 (18) (by decide) rfl rfl (8 * j + ((a 16) (j)).toNatClampNeg) rfl (by have h5 := px_lt (n := 8) (y := 8) hrs.1 (by have h6 := c_10; have h7 := hrs; simp only [Int32.lt_iff_toInt_lt, Int32.le_iff_toInt_le, ← Int32.toInt_inj, T0, T1, T2, T3, T4, T5, T6, T7, T8, T9, T10, T40, T50, T99, T100, T200, T999, T1000, T9999, T1000000, T10000000, T1000000000, Tm1] at h6 h7 ⊢; omega) (by decide) (by decide); omega) (by decide) d_M_list_108 (fun cw_12 H locs ecw_12 hP hD hS => ?_)
              obtain rfl : cw_12 = MW cs 0 z (va_up (va_up a 17 (upd (a 17) (8 * j + ((a 16) (j)).toNatClampNeg) (who))) 18 (upd (a 18) (8 * j + ((a 16) (j)).toNatClampNeg) (days))) bk := by rw [ecw_12]; exact MW_arr 18 (by decide) (upd (a 18) (8 * j + ((a 16) (j)).toNatClampNeg) (days))
              refine lv_aload_n hx hb d_M_list_109 rfl (lv_at hl 0 rfl) ?_
              refine pw_get (ci := 7) (v := .ref (bk (16))) hx hb hw i_M hown hK hP (0) (by decide) rfl rfl 17 (by decide) (hw _ kF_M_56) rfl d_M_list_110 ?_
              refine lv_iload_n hx hb d_M_list_113 rfl (lv_at hl 1 rfl) ?_
              refine lv_dup2_11 hx hb d_M_list_114 rfl rfl ?_
              refine pw_iald (n := 200) (f := (a 16)) hx hb hK hP 0 (16) (by decide) rfl rfl (j) rfl (by omega) (by decide) d_M_list_115 ?_
              refine lv_iconst (v := 1) hx hb d_M_list_116 (by decide) ?_
              refine lv_iadd hx hb d_M_list_117 ?_
              refine pw_iast (n := 200) (f := (a 16)) hx hb hK hP hD hS 0 (16) (by decide) rfl rfl (j) rfl (by omega) (by decide) d_M_list_118 (fun cw_13 H locs ecw_13 hP hD hS => ?_)
              obtain rfl : cw_13 = MW cs 0 z (va_up (va_up (va_up a 17 (upd (a 17) (8 * j + ((a 16) (j)).toNatClampNeg) (who))) 18 (upd (a 18) (8 * j + ((a 16) (j)).toNatClampNeg) (days))) 16 (upd (a 16) (j) (((a 16) (j)) + 1))) bk := by rw [ecw_13]; exact MW_arr 16 (by decide) (upd (a 16) (j) (((a 16) (j)) + 1))
              refine lv_aload_n hx hb d_M_list_119 rfl (lv_at hl 0 rfl) ?_
              refine pw_get (ci := 7) (v := .ref (bk (16))) hx hb hw i_M hown hK hP (0) (by decide) rfl rfl 17 (by decide) (hw _ kF_M_56) rfl d_M_list_120 ?_
              refine lv_iload_n hx hb d_M_list_123 rfl (lv_at hl 1 rfl) ?_
              refine pw_iald (n := 200) (f := (upd (a 16) (j) (((a 16) (j)) + 1))) hx hb hK hP 0 (16) (by decide) rfl rfl (j) rfl (by omega) (by decide) d_M_list_124 ?_
              exact W.iret (v := (upd (a 16) (j) (((a 16) (j)) + 1)) (j)) hx hb hr (fun t ht hW => ⟨⟨(upd (a 16) (j) (((a 16) (j)) + 1)) (j), (28, bk, MW cs 0 z (va_up (va_up (va_up a 17 (upd (a 17) (8 * j + ((a 16) (j)).toNatClampNeg) (who))) 18 (upd (a 18) (8 * j + ((a 16) (j)).toNatClampNeg) (days))) 16 (upd (a 16) (j) (((a 16) (j)) + 1))) bk), rfl, Mr_of (by rw [s_M_list, if_pos c_5, if_pos c_7, if_pos c_8, if_pos c_9, if_neg c_10]), by rw [ht]; exact hP, va_K.moved hW.alike hK, hD⟩, hS.F ht⟩) hS.2.2 d_M_list_125
            · have c_10 : ((a 16) (j)) = 8 := c_10
              refine lv_bipush (v := -4) hx hb d_M_list_72 (by decide) ?_
              exact W.iret (v := -4) hx hb hr (fun t ht hW => ⟨⟨-4, (28, bk, MW cs 0 z a bk), rfl, Mr_of (by rw [s_M_list, if_pos c_5, if_pos c_7, if_pos c_8, if_pos c_9, if_pos c_10]), by rw [ht]; exact hP, va_K.moved hW.alike hK, hD⟩, hS.F ht⟩) hS.2.2 d_M_list_74
          · have c_9 : ¬ ((a 19) (j)) < 0 := c_9
            refine lv_bipush (v := -3) hx hb d_M_list_58 (by decide) ?_
            exact W.iret (v := -3) hx hb hr (fun t ht hW => ⟨⟨-3, (28, bk, MW cs 0 z a bk), rfl, Mr_of (by rw [s_M_list, if_pos c_5, if_pos c_7, if_pos c_8, if_neg c_9]), by rw [ht]; exact hP, va_K.moved hW.alike hK, hD⟩, hS.F ht⟩) hS.2.2 d_M_list_60
      · have c_7 : ¬ (1 ≤ days ∧ days ≤ 100) := c_7
        refine lv_bipush (v := -2) hx hb d_M_list_36 (by decide) ?_
        exact W.iret (v := -2) hx hb hr (fun t ht hW => ⟨⟨-2, (28, bk, MW cs 0 z a bk), rfl, Mr_of (by rw [s_M_list, if_pos c_5, if_neg c_7]), by rw [ht]; exact hP, va_K.moved hW.alike hK, hD⟩, hS.F ht⟩) hS.2.2 d_M_list_38
  · have c_3 : ¬ (0 ≤ (nI j) ∧ (nI j) < nI (z 0)) := c_3
    exact absurd ⟨nI_pos' (by omega), (nI_ltI (by omega) (by omega)).mpr hj⟩ c_3
def s_M_route_out (th : Int32) (z : Nat → Nat) (a : Nat → Nat → Int32) (x : Int32) (day : Int32) : MS := (-1, 0, z, a)
set_option maxHeartbeats 4000000 in
set_option maxRecDepth 100000 in
theorem c_M_route_out (l : Launch) (D : va_G) (cs : Nat → ClassId) (bk : Nat → Nat) (sz : Nat) (th : Int32) (z : Nat → Nat) (a : Nat → Nat → Int32) (hz : z 0 ≤ 200) (x : Int32) (ho : ¬ (0 ≤ x ∧ x < nI (z 0))) (day : Int32) : Met l y_M_route w_M_route ({ frames := 2, cells := 0, slots := 0, locals := 43 }) (va_Pc [.ref (bk (0)), .int (x), .int (day)] (PB D classes (TY cs) 28 bk (MW cs th z a bk) sz)) (va_Qi (Mr cs bk (s_M_route_out th z a x day)) (Wd D classes (TY cs) (AA 28 bk sz)) (AA 28 bk sz)) 0 0 (AA 28 bk sz) := by
  refine pw_entry (cc := b_M_route) (maxL := 3) (ret := (some .int)) (by decide +kernel) rfl (Nat.le_of_ble_eq_true rfl) ?_
  intro p_ e_ s m below_ meth_ c_ ls hx hb hr hml hts hown hlocks hin hsz hP hK hD hS hA hN hl
  have hw : ∀ w ∈ WA, w.before _ s = true := fun w h => hts w (List.mem_cons_of_mem _ h)
  have hown : s.vm.findClass "IssueRowsModel" = some m.cls := hown
  have hl : lv_has ls 3 [(0, .ref (bk (0))), (1, .int (x)), (2, .int (day))] := hl
  refine lv_aload_n hx hb d_M_route_0 rfl (lv_at hl 0 rfl) ?_
  refine lv_iconst (v := 0) hx hb d_M_route_1 (by decide) ?_
  refine pw_put (ci := 7) (v := .int (0)) (ty := .int) (fs' := [.int (0), .ref (bk (1)), .ref (bk (2)), .ref (bk (3)), .int (nI (z 0)), .ref (bk (4)), .ref (bk (5)), .ref (bk (6)), .ref (bk (7)), .ref (bk (8)), .ref (bk (9)), .ref (bk (10)), .ref (bk (11)), .ref (bk (12)), .ref (bk (13)), .ref (bk (14)), .ref (bk (15)), .ref (bk (16)), .ref (bk (17)), .ref (bk (18)), .ref (bk (19)), .ref (bk (20)), .int (nI (z 1)), .ref (bk (21)), .ref (bk (22)), .int (nI (z 2)), .int (nI (z 3)), .ref (bk (23)), .ref (bk (24)), .ref (bk (25)), .int (nI (z 4)), .ref (bk (26)), .ref (bk (27))]) hx hb hw i_M t_M t_M_ok n_M hown hK hP hD hS (0) (by decide) rfl rfl 0 (by decide) (hw _ kF_M_92) rfl (t_M_ok 0 (by decide)) rfl rfl (Nat.le_of_ble_eq_true rfl) rfl d_M_route_2 (fun cw_1 H locs ecw_1 hP hD hS => ?_)
  obtain rfl : cw_1 = MW cs 0 z a bk := by rw [ecw_1]; exact MW_obj 0 z
  refine lv_aload_n hx hb d_M_route_5 rfl (lv_at hl 0 rfl) ?_
  refine lv_iload_n hx hb d_M_route_6 rfl (lv_at hl 1 rfl) ?_
  refine pw_callSi (va_runV (As := [.int (x)]) (rest := []) ⟨hx, hb, hml, hown, hw⟩ (c_M_isIssue l D cs bk H.size 0 z a hz x) (cw_V 1 hw kM_M_115 kI_M_isIssue kV_M_isIssue kZ_M kC_M_isIssue rfl rfl ⟨rfl, by decide, by decide, by decide +kernel⟩ ⟨Nat.le_of_ble_eq_true rfl, Nat.le_of_ble_eq_true rfl⟩) (pw_preV hN hK hP hD (0) (by decide) rfl rfl) rfl rfl hl.1 rfl (lv_room (Nat.le_of_ble_eq_true rfl)) d_M_route_7 ⟨Nat.le_of_ble_eq_true rfl, Nat.le_of_ble_eq_true rfl⟩) (fun r_2 hr_2 => ?_)
  have hr_2 : r_2 = bI (0 ≤ x ∧ x < nI (z 0)) := hr_2
  subst hr_2
  refine pw_ifne (tgt := 15) hx hb d_M_route_10 (by decide) (fun c_3 => ?_) (fun c_3 => ?_)
  · have c_3 : 0 ≤ x ∧ x < nI (z 0) := c_3
    exact absurd c_3 ho
  · have c_3 : ¬ (0 ≤ x ∧ x < nI (z 0)) := c_3
    refine lv_iconst (v := -1) hx hb d_M_route_13 (by decide) ?_
    exact W.iret (v := -1) hx hb hr (fun t ht hW => ⟨⟨-1, (28, bk, MW cs 0 z a bk), rfl, Mr_of (by rw [s_M_route_out]), by rw [ht]; exact hP, va_K.moved hW.alike hK, hD⟩, hS.F ht⟩) hS.2.2 d_M_route_14
def s_M_route (th : Int32) (z : Nat → Nat) (a : Nat → Nat → Int32) (j : Nat) (day : Int32) : MS := (if 0 ≤ day ∧ day ≤ 1000000 then (if ((a 6) (j)) = 3 then (if 0 ≤ ((a 19) (j)) then (-3, 0, z, a) else (if ((a 16) (j)) = 0 then (-3, 0, z, a) else ((a 17) (8 * j), 0, z, va_up (va_up a 19 (upd (a 19) (j) (0))) 20 (upd (a 20) (j) (day))))) else (-3, 0, z, a)) else (-2, 0, z, a))
set_option maxHeartbeats 4000000 in
set_option maxRecDepth 100000 in
theorem c_M_route (l : Launch) (D : va_G) (cs : Nat → ClassId) (bk : Nat → Nat) (sz : Nat) (th : Int32) (z : Nat → Nat) (a : Nat → Nat → Int32) (hz : z 0 ≤ 200) (j : Nat) (hj : j < z 0) (day : Int32) : Met l y_M_route w_M_route ({ frames := 2, cells := 0, slots := 0, locals := 43 }) (va_Pc [.ref (bk (0)), .int (nI j), .int (day)] (PB D classes (TY cs) 28 bk (MW cs th z a bk) sz)) (va_Qi (Mr cs bk (s_M_route th z a j day)) (Wd D classes (TY cs) (AA 28 bk sz)) (AA 28 bk sz)) 0 0 (AA 28 bk sz) := by
  refine pw_entry (cc := b_M_route) (maxL := 3) (ret := (some .int)) (by decide +kernel) rfl (Nat.le_of_ble_eq_true rfl) ?_
  intro p_ e_ s m below_ meth_ c_ ls hx hb hr hml hts hown hlocks hin hsz hP hK hD hS hA hN hl
  have hw : ∀ w ∈ WA, w.before _ s = true := fun w h => hts w (List.mem_cons_of_mem _ h)
  have hown : s.vm.findClass "IssueRowsModel" = some m.cls := hown
  have hl : lv_has ls 3 [(0, .ref (bk (0))), (1, .int (nI j)), (2, .int (day))] := hl
  refine lv_aload_n hx hb d_M_route_0 rfl (lv_at hl 0 rfl) ?_
  refine lv_iconst (v := 0) hx hb d_M_route_1 (by decide) ?_
  refine pw_put (ci := 7) (v := .int (0)) (ty := .int) (fs' := [.int (0), .ref (bk (1)), .ref (bk (2)), .ref (bk (3)), .int (nI (z 0)), .ref (bk (4)), .ref (bk (5)), .ref (bk (6)), .ref (bk (7)), .ref (bk (8)), .ref (bk (9)), .ref (bk (10)), .ref (bk (11)), .ref (bk (12)), .ref (bk (13)), .ref (bk (14)), .ref (bk (15)), .ref (bk (16)), .ref (bk (17)), .ref (bk (18)), .ref (bk (19)), .ref (bk (20)), .int (nI (z 1)), .ref (bk (21)), .ref (bk (22)), .int (nI (z 2)), .int (nI (z 3)), .ref (bk (23)), .ref (bk (24)), .ref (bk (25)), .int (nI (z 4)), .ref (bk (26)), .ref (bk (27))]) hx hb hw i_M t_M t_M_ok n_M hown hK hP hD hS (0) (by decide) rfl rfl 0 (by decide) (hw _ kF_M_92) rfl (t_M_ok 0 (by decide)) rfl rfl (Nat.le_of_ble_eq_true rfl) rfl d_M_route_2 (fun cw_1 H locs ecw_1 hP hD hS => ?_)
  obtain rfl : cw_1 = MW cs 0 z a bk := by rw [ecw_1]; exact MW_obj 0 z
  refine lv_aload_n hx hb d_M_route_5 rfl (lv_at hl 0 rfl) ?_
  refine lv_iload_n hx hb d_M_route_6 rfl (lv_at hl 1 rfl) ?_
  refine pw_callSi (va_runV (As := [.int (nI j)]) (rest := []) ⟨hx, hb, hml, hown, hw⟩ (c_M_isIssue l D cs bk H.size 0 z a hz (nI j)) (cw_V 1 hw kM_M_115 kI_M_isIssue kV_M_isIssue kZ_M kC_M_isIssue rfl rfl ⟨rfl, by decide, by decide, by decide +kernel⟩ ⟨Nat.le_of_ble_eq_true rfl, Nat.le_of_ble_eq_true rfl⟩) (pw_preV hN hK hP hD (0) (by decide) rfl rfl) rfl rfl hl.1 rfl (lv_room (Nat.le_of_ble_eq_true rfl)) d_M_route_7 ⟨Nat.le_of_ble_eq_true rfl, Nat.le_of_ble_eq_true rfl⟩) (fun r_2 hr_2 => ?_)
  have hr_2 : r_2 = bI (0 ≤ (nI j) ∧ (nI j) < nI (z 0)) := hr_2
  subst hr_2
  refine pw_ifne (tgt := 15) hx hb d_M_route_10 (by decide) (fun c_3 => ?_) (fun c_3 => ?_)
  · have c_3 : 0 ≤ (nI j) ∧ (nI j) < nI (z 0) := c_3
    refine lv_iload_n hx hb d_M_route_15 rfl (lv_at hl 2 rfl) ?_
    refine pw_callSi (va_runS (As := [.int (day)]) (rest := []) ⟨hx, hb, hml, hown, hw⟩ (c_M_isDay l D cs bk H.size 0 z a day) (cw_S 1 hw kM_M_107 kS_M_isDay kZ_M kC_M_isDay rfl rfl ⟨rfl, by decide, by decide, by decide +kernel⟩ ⟨Nat.le_of_ble_eq_true rfl, Nat.le_of_ble_eq_true rfl⟩) (pw_preS hN hK hP hD) rfl rfl hl.1 rfl (lv_room (Nat.le_of_ble_eq_true rfl)) d_M_route_16 ⟨Nat.le_of_ble_eq_true rfl, Nat.le_of_ble_eq_true rfl⟩) (fun r_4 hr_4 => ?_)
    have hr_4 : r_4 = bI (0 ≤ day ∧ day ≤ 1000000) := hr_4
    subst hr_4
    refine pw_ifne (tgt := 25) hx hb d_M_route_19 (by decide) (fun c_5 => ?_) (fun c_5 => ?_)
    · have c_5 : 0 ≤ day ∧ day ≤ 1000000 := c_5
      refine lv_aload_n hx hb d_M_route_25 rfl (lv_at hl 0 rfl) ?_
      refine pw_get (ci := 7) (v := .ref (bk (6))) hx hb hw i_M hown hK hP (0) (by decide) rfl rfl 7 (by decide) (hw _ kF_M_25) rfl d_M_route_26 ?_
      refine lv_iload_n hx hb d_M_route_29 rfl (lv_at hl 1 rfl) ?_
      refine pw_iald (n := 200) (f := (a 6)) hx hb hK hP 0 (6) (by decide) rfl rfl (j) rfl (by omega) (by decide) d_M_route_30 ?_
      refine lv_iconst (v := 3) hx hb d_M_route_31 (by decide) ?_
      refine lv_icmp_ne (tgt := 53) hx hb d_M_route_32 (by decide) (fun c_6 => ?_) (fun c_6 => ?_)
      · have c_6 : ¬ ((a 6) (j)) = 3 := c_6
        refine lv_bipush (v := -3) hx hb d_M_route_53 (by decide) ?_
        exact W.iret (v := -3) hx hb hr (fun t ht hW => ⟨⟨-3, (28, bk, MW cs 0 z a bk), rfl, Mr_of (by rw [s_M_route, if_pos c_5, if_neg c_6]), by rw [ht]; exact hP, va_K.moved hW.alike hK, hD⟩, hS.F ht⟩) hS.2.2 d_M_route_55
      · have c_6 : ((a 6) (j)) = 3 := c_6
        refine lv_aload_n hx hb d_M_route_35 rfl (lv_at hl 0 rfl) ?_
        refine pw_get (ci := 7) (v := .ref (bk (19))) hx hb hw i_M hown hK hP (0) (by decide) rfl rfl 20 (by decide) (hw _ kF_M_65) rfl d_M_route_36 ?_
        refine lv_iload_n hx hb d_M_route_39 rfl (lv_at hl 1 rfl) ?_
        refine pw_iald (n := 200) (f := (a 19)) hx hb hK hP 0 (19) (by decide) rfl rfl (j) rfl (by omega) (by decide) d_M_route_40 ?_
        refine lv_if_ge (tgt := 53) hx hb d_M_route_41 (by decide) (fun c_7 => ?_) (fun c_7 => ?_)
        · have c_7 : 0 ≤ ((a 19) (j)) := c_7
          refine lv_bipush (v := -3) hx hb d_M_route_53 (by decide) ?_
          exact W.iret (v := -3) hx hb hr (fun t ht hW => ⟨⟨-3, (28, bk, MW cs 0 z a bk), rfl, Mr_of (by rw [s_M_route, if_pos c_5, if_pos c_6, if_pos c_7]), by rw [ht]; exact hP, va_K.moved hW.alike hK, hD⟩, hS.F ht⟩) hS.2.2 d_M_route_55
        · have c_7 : ¬ 0 ≤ ((a 19) (j)) := c_7
          refine lv_aload_n hx hb d_M_route_44 rfl (lv_at hl 0 rfl) ?_
          refine pw_get (ci := 7) (v := .ref (bk (16))) hx hb hw i_M hown hK hP (0) (by decide) rfl rfl 17 (by decide) (hw _ kF_M_56) rfl d_M_route_45 ?_
          refine lv_iload_n hx hb d_M_route_48 rfl (lv_at hl 1 rfl) ?_
          refine pw_iald (n := 200) (f := (a 16)) hx hb hK hP 0 (16) (by decide) rfl rfl (j) rfl (by omega) (by decide) d_M_route_49 ?_
          refine lv_if_ne (tgt := 56) hx hb d_M_route_50 (by decide) (fun c_8 => ?_) (fun c_8 => ?_)
          · have c_8 : ¬ ((a 16) (j)) = 0 := c_8
            refine lv_aload_n hx hb d_M_route_56 rfl (lv_at hl 0 rfl) ?_
            refine pw_get (ci := 7) (v := .ref (bk (19))) hx hb hw i_M hown hK hP (0) (by decide) rfl rfl 20 (by decide) (hw _ kF_M_65) rfl d_M_route_57 ?_
            refine lv_iload_n hx hb d_M_route_60 rfl (lv_at hl 1 rfl) ?_
            refine lv_iconst (v := 0) hx hb d_M_route_61 (by decide) ?_
            refine pw_iast (n := 200) (f := (a 19)) hx hb hK hP hD hS 0 (19) (by decide) rfl rfl (j) rfl (by omega) (by decide) d_M_route_62 (fun cw_9 H locs ecw_9 hP hD hS => ?_)
            obtain rfl : cw_9 = MW cs 0 z (va_up a 19 (upd (a 19) (j) (0))) bk := by rw [ecw_9]; exact MW_arr 19 (by decide) (upd (a 19) (j) (0))
            refine lv_aload_n hx hb d_M_route_63 rfl (lv_at hl 0 rfl) ?_
            refine pw_get (ci := 7) (v := .ref (bk (20))) hx hb hw i_M hown hK hP (0) (by decide) rfl rfl 21 (by decide) (hw _ kF_M_68) rfl d_M_route_64 ?_
            refine lv_iload_n hx hb d_M_route_67 rfl (lv_at hl 1 rfl) ?_
            refine lv_iload_n hx hb d_M_route_68 rfl (lv_at hl 2 rfl) ?_
            refine pw_iast (n := 200) (f := (a 20)) hx hb hK hP hD hS 0 (20) (by decide) rfl rfl (j) rfl (by omega) (by decide) d_M_route_69 (fun cw_10 H locs ecw_10 hP hD hS => ?_)
            obtain rfl : cw_10 = MW cs 0 z (va_up (va_up a 19 (upd (a 19) (j) (0))) 20 (upd (a 20) (j) (day))) bk := by rw [ecw_10]; exact MW_arr 20 (by decide) (upd (a 20) (j) (day))
            refine lv_aload_n hx hb d_M_route_70 rfl (lv_at hl 0 rfl) ?_
            refine pw_get (ci := 7) (v := .ref (bk (17))) hx hb hw i_M hown hK hP (0) (by decide) rfl rfl 18 (by decide) (hw _ kF_M_59) rfl d_M_route_71 ?_
            refine lv_bipush (v := 8) hx hb d_M_route_74 (by decide) ?_
            refine lv_iload_n hx hb d_M_route_76 rfl (lv_at hl 1 rfl) ?_
            refine lv_imul hx hb d_M_route_77 ?_
            rw [show 8 * (nI j) = nI (8 * j) from pk_mul 8 j]
            refine pw_iald (n := 1600) (f := (a 17)) hx hb hK hP 0 (17) (by decide) rfl rfl (8 * j) rfl (by omega) (by decide) d_M_route_78 ?_
            exact W.iret (v := (a 17) (8 * j)) hx hb hr (fun t ht hW => ⟨⟨(a 17) (8 * j), (28, bk, MW cs 0 z (va_up (va_up a 19 (upd (a 19) (j) (0))) 20 (upd (a 20) (j) (day))) bk), rfl, Mr_of (by rw [s_M_route, if_pos c_5, if_pos c_6, if_neg c_7, if_neg c_8]), by rw [ht]; exact hP, va_K.moved hW.alike hK, hD⟩, hS.F ht⟩) hS.2.2 d_M_route_79
          · have c_8 : ((a 16) (j)) = 0 := c_8
            refine lv_bipush (v := -3) hx hb d_M_route_53 (by decide) ?_
            exact W.iret (v := -3) hx hb hr (fun t ht hW => ⟨⟨-3, (28, bk, MW cs 0 z a bk), rfl, Mr_of (by rw [s_M_route, if_pos c_5, if_pos c_6, if_neg c_7, if_pos c_8]), by rw [ht]; exact hP, va_K.moved hW.alike hK, hD⟩, hS.F ht⟩) hS.2.2 d_M_route_55
    · have c_5 : ¬ (0 ≤ day ∧ day ≤ 1000000) := c_5
      refine lv_bipush (v := -2) hx hb d_M_route_22 (by decide) ?_
      exact W.iret (v := -2) hx hb hr (fun t ht hW => ⟨⟨-2, (28, bk, MW cs 0 z a bk), rfl, Mr_of (by rw [s_M_route, if_neg c_5]), by rw [ht]; exact hP, va_K.moved hW.alike hK, hD⟩, hS.F ht⟩) hS.2.2 d_M_route_24
  · have c_3 : ¬ (0 ≤ (nI j) ∧ (nI j) < nI (z 0)) := c_3
    exact absurd ⟨nI_pos' (by omega), (nI_ltI (by omega) (by omega)).mpr hj⟩ c_3
def s_M_returned_out (th : Int32) (z : Nat → Nat) (a : Nat → Nat → Int32) (x : Int32) (day : Int32) : MS := (-1, 0, z, a)
set_option maxHeartbeats 4000000 in
set_option maxRecDepth 100000 in
theorem c_M_returned_out (l : Launch) (D : va_G) (cs : Nat → ClassId) (bk : Nat → Nat) (sz : Nat) (th : Int32) (z : Nat → Nat) (a : Nat → Nat → Int32) (hz : z 0 ≤ 200) (x : Int32) (ho : ¬ (0 ≤ x ∧ x < nI (z 0))) (day : Int32) : Met l y_M_returned w_M_returned ({ frames := 2, cells := 0, slots := 0, locals := 43 }) (va_Pc [.ref (bk (0)), .int (x), .int (day)] (PB D classes (TY cs) 28 bk (MW cs th z a bk) sz)) (va_Qi (Mr cs bk (s_M_returned_out th z a x day)) (Wd D classes (TY cs) (AA 28 bk sz)) (AA 28 bk sz)) 0 0 (AA 28 bk sz) := by
  refine pw_entry (cc := b_M_returned) (maxL := 4) (ret := (some .int)) (by decide +kernel) rfl (Nat.le_of_ble_eq_true rfl) ?_
  intro p_ e_ s m below_ meth_ c_ ls hx hb hr hml hts hown hlocks hin hsz hP hK hD hS hA hN hl
  have hw : ∀ w ∈ WA, w.before _ s = true := fun w h => hts w (List.mem_cons_of_mem _ h)
  have hown : s.vm.findClass "IssueRowsModel" = some m.cls := hown
  have hl : lv_has ls 4 [(0, .ref (bk (0))), (1, .int (x)), (2, .int (day))] := hl
  refine lv_aload_n hx hb d_M_returned_0 rfl (lv_at hl 0 rfl) ?_
  refine lv_iconst (v := 0) hx hb d_M_returned_1 (by decide) ?_
  refine pw_put (ci := 7) (v := .int (0)) (ty := .int) (fs' := [.int (0), .ref (bk (1)), .ref (bk (2)), .ref (bk (3)), .int (nI (z 0)), .ref (bk (4)), .ref (bk (5)), .ref (bk (6)), .ref (bk (7)), .ref (bk (8)), .ref (bk (9)), .ref (bk (10)), .ref (bk (11)), .ref (bk (12)), .ref (bk (13)), .ref (bk (14)), .ref (bk (15)), .ref (bk (16)), .ref (bk (17)), .ref (bk (18)), .ref (bk (19)), .ref (bk (20)), .int (nI (z 1)), .ref (bk (21)), .ref (bk (22)), .int (nI (z 2)), .int (nI (z 3)), .ref (bk (23)), .ref (bk (24)), .ref (bk (25)), .int (nI (z 4)), .ref (bk (26)), .ref (bk (27))]) hx hb hw i_M t_M t_M_ok n_M hown hK hP hD hS (0) (by decide) rfl rfl 0 (by decide) (hw _ kF_M_92) rfl (t_M_ok 0 (by decide)) rfl rfl (Nat.le_of_ble_eq_true rfl) rfl d_M_returned_2 (fun cw_1 H locs ecw_1 hP hD hS => ?_)
  obtain rfl : cw_1 = MW cs 0 z a bk := by rw [ecw_1]; exact MW_obj 0 z
  refine lv_aload_n hx hb d_M_returned_5 rfl (lv_at hl 0 rfl) ?_
  refine lv_iload_n hx hb d_M_returned_6 rfl (lv_at hl 1 rfl) ?_
  refine pw_callSi (va_runV (As := [.int (x)]) (rest := []) ⟨hx, hb, hml, hown, hw⟩ (c_M_isIssue l D cs bk H.size 0 z a hz x) (cw_V 1 hw kM_M_115 kI_M_isIssue kV_M_isIssue kZ_M kC_M_isIssue rfl rfl ⟨rfl, by decide, by decide, by decide +kernel⟩ ⟨Nat.le_of_ble_eq_true rfl, Nat.le_of_ble_eq_true rfl⟩) (pw_preV hN hK hP hD (0) (by decide) rfl rfl) rfl rfl hl.1 rfl (lv_room (Nat.le_of_ble_eq_true rfl)) d_M_returned_7 ⟨Nat.le_of_ble_eq_true rfl, Nat.le_of_ble_eq_true rfl⟩) (fun r_2 hr_2 => ?_)
  have hr_2 : r_2 = bI (0 ≤ x ∧ x < nI (z 0)) := hr_2
  subst hr_2
  refine pw_ifne (tgt := 15) hx hb d_M_returned_10 (by decide) (fun c_3 => ?_) (fun c_3 => ?_)
  · have c_3 : 0 ≤ x ∧ x < nI (z 0) := c_3
    exact absurd c_3 ho
  · have c_3 : ¬ (0 ≤ x ∧ x < nI (z 0)) := c_3
    refine lv_iconst (v := -1) hx hb d_M_returned_13 (by decide) ?_
    exact W.iret (v := -1) hx hb hr (fun t ht hW => ⟨⟨-1, (28, bk, MW cs 0 z a bk), rfl, Mr_of (by rw [s_M_returned_out]), by rw [ht]; exact hP, va_K.moved hW.alike hK, hD⟩, hS.F ht⟩) hS.2.2 d_M_returned_14
def s_M_returned (th : Int32) (z : Nat → Nat) (a : Nat → Nat → Int32) (j : Nat) (day : Int32) : MS := (if 0 ≤ day ∧ day ≤ 1000000 then (if 0 ≤ a 19 j ∧ a 19 j < a 16 j then (if ((a 20) (j)) ≤ day then (if (day - ((a 20) (j))) ≤ ((a 18) (8 * j + ((a 19) (j)).toNatClampNeg)) then (if 0 ≤ (upd (a 19) (j) (((a 19) (j)) + 1)) j ∧ (upd (a 19) (j) (((a 19) (j)) + 1)) j < a 16 j then ((a 17) ((8 * j + ((a 19) (j)).toNatClampNeg) + 1), 0, z, va_up (va_up a 19 (upd (a 19) (j) (((a 19) (j)) + 1))) 20 (upd (a 20) (j) (day))) else (1000, 0, z, va_up (va_up a 19 (upd (a 19) (j) (((a 19) (j)) + 1))) 20 (upd (a 20) (j) (day)))) else (if 0 ≤ (upd (a 19) (j) (((a 19) (j)) + 1)) j ∧ (upd (a 19) (j) (((a 19) (j)) + 1)) j < a 16 j then ((a 17) ((8 * j + ((a 19) (j)).toNatClampNeg) + 1), 0, va_up z 4 (tlz z), va_up (va_up (va_up (va_up a 26 (tla z (a 26) 4)) 27 (tla z (a 27) (nI j))) 19 (upd (a 19) (j) (((a 19) (j)) + 1))) 20 (upd (a 20) (j) (day))) else (1000, 0, va_up z 4 (tlz z), va_up (va_up (va_up (va_up a 26 (tla z (a 26) 4)) 27 (tla z (a 27) (nI j))) 19 (upd (a 19) (j) (((a 19) (j)) + 1))) 20 (upd (a 20) (j) (day))))) else (-2, 0, z, a)) else (-3, 0, z, a)) else (-2, 0, z, a))
set_option maxHeartbeats 4000000 in
set_option maxRecDepth 100000 in
theorem c_M_returned (l : Launch) (D : va_G) (cs : Nat → ClassId) (bk : Nat → Nat) (sz : Nat) (th : Int32) (z : Nat → Nat) (a : Nat → Nat → Int32) (hz : z 0 ≤ 200) (j : Nat) (hj : j < z 0) (hz4 : z 4 ≤ 100) (hrs : 0 ≤ a 16 j ∧ a 16 j ≤ 8) (day : Int32) : Met l y_M_returned w_M_returned ({ frames := 2, cells := 0, slots := 0, locals := 43 }) (va_Pc [.ref (bk (0)), .int (nI j), .int (day)] (PB D classes (TY cs) 28 bk (MW cs th z a bk) sz)) (va_Qi (Mr cs bk (s_M_returned th z a j day)) (Wd D classes (TY cs) (AA 28 bk sz)) (AA 28 bk sz)) 0 0 (AA 28 bk sz) := by
  refine pw_entry (cc := b_M_returned) (maxL := 4) (ret := (some .int)) (by decide +kernel) rfl (Nat.le_of_ble_eq_true rfl) ?_
  intro p_ e_ s m below_ meth_ c_ ls hx hb hr hml hts hown hlocks hin hsz hP hK hD hS hA hN hl
  have hw : ∀ w ∈ WA, w.before _ s = true := fun w h => hts w (List.mem_cons_of_mem _ h)
  have hown : s.vm.findClass "IssueRowsModel" = some m.cls := hown
  have hl : lv_has ls 4 [(0, .ref (bk (0))), (1, .int (nI j)), (2, .int (day))] := hl
  refine lv_aload_n hx hb d_M_returned_0 rfl (lv_at hl 0 rfl) ?_
  refine lv_iconst (v := 0) hx hb d_M_returned_1 (by decide) ?_
  refine pw_put (ci := 7) (v := .int (0)) (ty := .int) (fs' := [.int (0), .ref (bk (1)), .ref (bk (2)), .ref (bk (3)), .int (nI (z 0)), .ref (bk (4)), .ref (bk (5)), .ref (bk (6)), .ref (bk (7)), .ref (bk (8)), .ref (bk (9)), .ref (bk (10)), .ref (bk (11)), .ref (bk (12)), .ref (bk (13)), .ref (bk (14)), .ref (bk (15)), .ref (bk (16)), .ref (bk (17)), .ref (bk (18)), .ref (bk (19)), .ref (bk (20)), .int (nI (z 1)), .ref (bk (21)), .ref (bk (22)), .int (nI (z 2)), .int (nI (z 3)), .ref (bk (23)), .ref (bk (24)), .ref (bk (25)), .int (nI (z 4)), .ref (bk (26)), .ref (bk (27))]) hx hb hw i_M t_M t_M_ok n_M hown hK hP hD hS (0) (by decide) rfl rfl 0 (by decide) (hw _ kF_M_92) rfl (t_M_ok 0 (by decide)) rfl rfl (Nat.le_of_ble_eq_true rfl) rfl d_M_returned_2 (fun cw_1 H locs ecw_1 hP hD hS => ?_)
  obtain rfl : cw_1 = MW cs 0 z a bk := by rw [ecw_1]; exact MW_obj 0 z
  refine lv_aload_n hx hb d_M_returned_5 rfl (lv_at hl 0 rfl) ?_
  refine lv_iload_n hx hb d_M_returned_6 rfl (lv_at hl 1 rfl) ?_
  refine pw_callSi (va_runV (As := [.int (nI j)]) (rest := []) ⟨hx, hb, hml, hown, hw⟩ (c_M_isIssue l D cs bk H.size 0 z a hz (nI j)) (cw_V 1 hw kM_M_115 kI_M_isIssue kV_M_isIssue kZ_M kC_M_isIssue rfl rfl ⟨rfl, by decide, by decide, by decide +kernel⟩ ⟨Nat.le_of_ble_eq_true rfl, Nat.le_of_ble_eq_true rfl⟩) (pw_preV hN hK hP hD (0) (by decide) rfl rfl) rfl rfl hl.1 rfl (lv_room (Nat.le_of_ble_eq_true rfl)) d_M_returned_7 ⟨Nat.le_of_ble_eq_true rfl, Nat.le_of_ble_eq_true rfl⟩) (fun r_2 hr_2 => ?_)
  have hr_2 : r_2 = bI (0 ≤ (nI j) ∧ (nI j) < nI (z 0)) := hr_2
  subst hr_2
  refine pw_ifne (tgt := 15) hx hb d_M_returned_10 (by decide) (fun c_3 => ?_) (fun c_3 => ?_)
  · have c_3 : 0 ≤ (nI j) ∧ (nI j) < nI (z 0) := c_3
    refine lv_iload_n hx hb d_M_returned_15 rfl (lv_at hl 2 rfl) ?_
    refine pw_callSi (va_runS (As := [.int (day)]) (rest := []) ⟨hx, hb, hml, hown, hw⟩ (c_M_isDay l D cs bk H.size 0 z a day) (cw_S 1 hw kM_M_107 kS_M_isDay kZ_M kC_M_isDay rfl rfl ⟨rfl, by decide, by decide, by decide +kernel⟩ ⟨Nat.le_of_ble_eq_true rfl, Nat.le_of_ble_eq_true rfl⟩) (pw_preS hN hK hP hD) rfl rfl hl.1 rfl (lv_room (Nat.le_of_ble_eq_true rfl)) d_M_returned_16 ⟨Nat.le_of_ble_eq_true rfl, Nat.le_of_ble_eq_true rfl⟩) (fun r_4 hr_4 => ?_)
    have hr_4 : r_4 = bI (0 ≤ day ∧ day ≤ 1000000) := hr_4
    subst hr_4
    refine pw_ifeq (tgt := 40) hx hb d_M_returned_19 (by decide) (fun c_5 => ?_) (fun c_5 => ?_)
    · have c_5 : ¬ (0 ≤ day ∧ day ≤ 1000000) := c_5
      refine lv_bipush (v := -2) hx hb d_M_returned_40 (by decide) ?_
      exact W.iret (v := -2) hx hb hr (fun t ht hW => ⟨⟨-2, (28, bk, MW cs 0 z a bk), rfl, Mr_of (by rw [s_M_returned, if_neg c_5]), by rw [ht]; exact hP, va_K.moved hW.alike hK, hD⟩, hS.F ht⟩) hS.2.2 d_M_returned_42
    · have c_5 : 0 ≤ day ∧ day ≤ 1000000 := c_5
      refine lv_aload_n hx hb d_M_returned_22 rfl (lv_at hl 0 rfl) ?_
      refine lv_iload_n hx hb d_M_returned_23 rfl (lv_at hl 1 rfl) ?_
      refine pw_callSi (va_runV (As := [.int (nI j)]) (rest := []) ⟨hx, hb, hml, hown, hw⟩ (c_M_isHeld l D cs bk H.size 0 z a j (by omega)) (cw_V 1 hw kM_M_128 kI_M_isHeld kV_M_isHeld kZ_M kC_M_isHeld rfl rfl ⟨rfl, by decide, by decide, by decide +kernel⟩ ⟨Nat.le_of_ble_eq_true rfl, Nat.le_of_ble_eq_true rfl⟩) (pw_preV hN hK hP hD (0) (by decide) rfl rfl) rfl rfl hl.1 rfl (lv_room (Nat.le_of_ble_eq_true rfl)) d_M_returned_24 ⟨Nat.le_of_ble_eq_true rfl, Nat.le_of_ble_eq_true rfl⟩) (fun r_6 hr_6 => ?_)
      have hr_6 : r_6 = bI (0 ≤ a 19 j ∧ a 19 j < a 16 j) := hr_6
      subst hr_6
      refine pw_ifeq (tgt := 43) hx hb d_M_returned_27 (by decide) (fun c_7 => ?_) (fun c_7 => ?_)
      · have c_7 : ¬ (0 ≤ a 19 j ∧ a 19 j < a 16 j) := c_7
        refine lv_aload_n hx hb d_M_returned_43 rfl (lv_at hl 0 rfl) ?_
        refine lv_iload_n hx hb d_M_returned_44 rfl (lv_at hl 1 rfl) ?_
        refine pw_callSi (va_runV (As := [.int (nI j)]) (rest := []) ⟨hx, hb, hml, hown, hw⟩ (c_M_isHeld l D cs bk H.size 0 z a j (by omega)) (cw_V 1 hw kM_M_128 kI_M_isHeld kV_M_isHeld kZ_M kC_M_isHeld rfl rfl ⟨rfl, by decide, by decide, by decide +kernel⟩ ⟨Nat.le_of_ble_eq_true rfl, Nat.le_of_ble_eq_true rfl⟩) (pw_preV hN hK hP hD (0) (by decide) rfl rfl) rfl rfl hl.1 rfl (lv_room (Nat.le_of_ble_eq_true rfl)) d_M_returned_45 ⟨Nat.le_of_ble_eq_true rfl, Nat.le_of_ble_eq_true rfl⟩) (fun r_8 hr_8 => ?_)
        have hr_8 : r_8 = bI (0 ≤ a 19 j ∧ a 19 j < a 16 j) := hr_8
        subst hr_8
        refine pw_ifne (tgt := 54) hx hb d_M_returned_48 (by decide) (fun c_9 => ?_) (fun c_9 => ?_)
        · have c_9 : 0 ≤ a 19 j ∧ a 19 j < a 16 j := c_9
          exact absurd c_9 c_7
        · have c_9 : ¬ (0 ≤ a 19 j ∧ a 19 j < a 16 j) := c_9
          refine lv_bipush (v := -3) hx hb d_M_returned_51 (by decide) ?_
          exact W.iret (v := -3) hx hb hr (fun t ht hW => ⟨⟨-3, (28, bk, MW cs 0 z a bk), rfl, Mr_of (by rw [s_M_returned, if_pos c_5, if_neg c_7]), by rw [ht]; exact hP, va_K.moved hW.alike hK, hD⟩, hS.F ht⟩) hS.2.2 d_M_returned_53
      · have c_7 : 0 ≤ a 19 j ∧ a 19 j < a 16 j := c_7
        refine lv_iload_n hx hb d_M_returned_30 rfl (lv_at hl 2 rfl) ?_
        refine lv_aload_n hx hb d_M_returned_31 rfl (lv_at hl 0 rfl) ?_
        refine pw_get (ci := 7) (v := .ref (bk (20))) hx hb hw i_M hown hK hP (0) (by decide) rfl rfl 21 (by decide) (hw _ kF_M_68) rfl d_M_returned_32 ?_
        refine lv_iload_n hx hb d_M_returned_35 rfl (lv_at hl 1 rfl) ?_
        refine pw_iald (n := 200) (f := (a 20)) hx hb hK hP 0 (20) (by decide) rfl rfl (j) rfl (by omega) (by decide) d_M_returned_36 ?_
        refine lv_icmp_ge (tgt := 43) hx hb d_M_returned_37 (by decide) (fun c_10 => ?_) (fun c_10 => ?_)
        · have c_10 : ((a 20) (j)) ≤ day := c_10
          refine lv_aload_n hx hb d_M_returned_43 rfl (lv_at hl 0 rfl) ?_
          refine lv_iload_n hx hb d_M_returned_44 rfl (lv_at hl 1 rfl) ?_
          refine pw_callSi (va_runV (As := [.int (nI j)]) (rest := []) ⟨hx, hb, hml, hown, hw⟩ (c_M_isHeld l D cs bk H.size 0 z a j (by omega)) (cw_V 1 hw kM_M_128 kI_M_isHeld kV_M_isHeld kZ_M kC_M_isHeld rfl rfl ⟨rfl, by decide, by decide, by decide +kernel⟩ ⟨Nat.le_of_ble_eq_true rfl, Nat.le_of_ble_eq_true rfl⟩) (pw_preV hN hK hP hD (0) (by decide) rfl rfl) rfl rfl hl.1 rfl (lv_room (Nat.le_of_ble_eq_true rfl)) d_M_returned_45 ⟨Nat.le_of_ble_eq_true rfl, Nat.le_of_ble_eq_true rfl⟩) (fun r_11 hr_11 => ?_)
          have hr_11 : r_11 = bI (0 ≤ a 19 j ∧ a 19 j < a 16 j) := hr_11
          subst hr_11
          refine pw_ifne (tgt := 54) hx hb d_M_returned_48 (by decide) (fun c_12 => ?_) (fun c_12 => ?_)
          · have c_12 : 0 ≤ a 19 j ∧ a 19 j < a 16 j := c_12
            refine lv_bipush (v := 8) hx hb d_M_returned_54 (by decide) ?_
            refine lv_iload_n hx hb d_M_returned_56 rfl (lv_at hl 1 rfl) ?_
            refine lv_imul hx hb d_M_returned_57 ?_
            refine lv_aload_n hx hb d_M_returned_58 rfl (lv_at hl 0 rfl) ?_
            refine pw_get (ci := 7) (v := .ref (bk (19))) hx hb hw i_M hown hK hP (0) (by decide) rfl rfl 20 (by decide) (hw _ kF_M_65) rfl d_M_returned_59 ?_
            refine lv_iload_n hx hb d_M_returned_62 rfl (lv_at hl 1 rfl) ?_
            refine pw_iald (n := 200) (f := (a 19)) hx hb hK hP 0 (19) (by decide) rfl rfl (j) rfl (by omega) (by decide) d_M_returned_63 ?_
            refine lv_iadd hx hb d_M_returned_64 ?_
            rw [show (8 * (nI j)) + ((a 19) (j)) = nI (8 * j + ((a 19) (j)).toNatClampNeg) from px_eq c_7.1]
            refine lv_istore_n (lv' := [(3, .int (nI (8 * j + ((a 19) (j)).toNatClampNeg))), (0, .ref (bk (0))), (1, .int (nI j)), (2, .int (day))]) hx hb d_M_returned_65 rfl hl (by decide) rfl (fun ls hl => ?_)
            refine lv_iload_n hx hb d_M_returned_66 rfl (lv_at hl 3 rfl) ?_
            refine lv_aload_n hx hb d_M_returned_67 rfl (lv_at hl 1 rfl) ?_
            refine pw_get (ci := 7) (v := .ref (bk (20))) hx hb hw i_M hown hK hP (0) (by decide) rfl rfl 21 (by decide) (hw _ kF_M_68) rfl d_M_returned_68 ?_
            refine lv_iload_n hx hb d_M_returned_71 rfl (lv_at hl 2 rfl) ?_
            refine pw_iald (n := 200) (f := (a 20)) hx hb hK hP 0 (20) (by decide) rfl rfl (j) rfl (by omega) (by decide) d_M_returned_72 ?_
            refine lv_isub hx hb d_M_returned_73 ?_
            refine lv_aload_n hx hb d_M_returned_74 rfl (lv_at hl 1 rfl) ?_
            refine pw_get (ci := 7) (v := .ref (bk (18))) hx hb hw i_M hown hK hP (0) (by decide) rfl rfl 19 (by decide) (hw _ kF_M_62) rfl d_M_returned_75 ?_
            refine lv_iload_n hx hb d_M_returned_78 rfl (lv_at hl 0 rfl) ?_
            refine pw_iald (n := 1600) (f := (a 18)) hx hb hK hP 0 (18) (by decide) rfl rfl (8 * j + ((a 19) (j)).toNatClampNeg) rfl (by have h5 := px_lt (n := 8) c_7.1 c_7.2 hrs.2 (by decide); omega) (by decide) d_M_returned_79 ?_
            refine lv_icmp_le (tgt := 89) hx hb d_M_returned_80 (by decide) (fun c_13 => ?_) (fun c_13 => ?_)
            · have c_13 : (day - ((a 20) (j))) ≤ ((a 18) (8 * j + ((a 19) (j)).toNatClampNeg)) := c_13
              refine lv_aload_n hx hb d_M_returned_89 rfl (lv_at hl 1 rfl) ?_
              refine pw_get (ci := 7) (v := .ref (bk (19))) hx hb hw i_M hown hK hP (0) (by decide) rfl rfl 20 (by decide) (hw _ kF_M_65) rfl d_M_returned_90 ?_
              refine lv_iload_n hx hb d_M_returned_93 rfl (lv_at hl 2 rfl) ?_
              refine lv_dup2_11 hx hb d_M_returned_94 rfl rfl ?_
              refine pw_iald (n := 200) (f := (a 19)) hx hb hK hP 0 (19) (by decide) rfl rfl (j) rfl (by omega) (by decide) d_M_returned_95 ?_
              refine lv_iconst (v := 1) hx hb d_M_returned_96 (by decide) ?_
              refine lv_iadd hx hb d_M_returned_97 ?_
              refine pw_iast (n := 200) (f := (a 19)) hx hb hK hP hD hS 0 (19) (by decide) rfl rfl (j) rfl (by omega) (by decide) d_M_returned_98 (fun cw_14 H locs ecw_14 hP hD hS => ?_)
              obtain rfl : cw_14 = MW cs 0 z (va_up a 19 (upd (a 19) (j) (((a 19) (j)) + 1))) bk := by rw [ecw_14]; exact MW_arr 19 (by decide) (upd (a 19) (j) (((a 19) (j)) + 1))
              refine lv_aload_n hx hb d_M_returned_99 rfl (lv_at hl 1 rfl) ?_
              refine pw_get (ci := 7) (v := .ref (bk (20))) hx hb hw i_M hown hK hP (0) (by decide) rfl rfl 21 (by decide) (hw _ kF_M_68) rfl d_M_returned_100 ?_
              refine lv_iload_n hx hb d_M_returned_103 rfl (lv_at hl 2 rfl) ?_
              refine lv_iload_n hx hb d_M_returned_104 rfl (lv_at hl 3 rfl) ?_
              refine pw_iast (n := 200) (f := (a 20)) hx hb hK hP hD hS 0 (20) (by decide) rfl rfl (j) rfl (by omega) (by decide) d_M_returned_105 (fun cw_15 H locs ecw_15 hP hD hS => ?_)
              obtain rfl : cw_15 = MW cs 0 z (va_up (va_up a 19 (upd (a 19) (j) (((a 19) (j)) + 1))) 20 (upd (a 20) (j) (day))) bk := by rw [ecw_15]; exact MW_arr 20 (by decide) (upd (a 20) (j) (day))
              refine lv_aload_n hx hb d_M_returned_106 rfl (lv_at hl 1 rfl) ?_
              refine lv_iload_n hx hb d_M_returned_107 rfl (lv_at hl 2 rfl) ?_
              refine pw_callSi (va_runV (As := [.int (nI j)]) (rest := []) ⟨hx, hb, hml, hown, hw⟩ (c_M_isHeld l D cs bk H.size 0 z (va_up (va_up a 19 (upd (a 19) (j) (((a 19) (j)) + 1))) 20 (upd (a 20) (j) (day))) j (by omega)) (cw_V 1 hw kM_M_128 kI_M_isHeld kV_M_isHeld kZ_M kC_M_isHeld rfl rfl ⟨rfl, by decide, by decide, by decide +kernel⟩ ⟨Nat.le_of_ble_eq_true rfl, Nat.le_of_ble_eq_true rfl⟩) (pw_preV hN hK hP hD (0) (by decide) rfl rfl) rfl rfl hl.1 rfl (lv_room (Nat.le_of_ble_eq_true rfl)) d_M_returned_108 ⟨Nat.le_of_ble_eq_true rfl, Nat.le_of_ble_eq_true rfl⟩) (fun r_16 hr_16 => ?_)
              have hr_16 : r_16 = bI (0 ≤ (upd (a 19) (j) (((a 19) (j)) + 1)) j ∧ (upd (a 19) (j) (((a 19) (j)) + 1)) j < a 16 j) := hr_16
              subst hr_16
              refine pw_ifeq (tgt := 125) hx hb d_M_returned_111 (by decide) (fun c_17 => ?_) (fun c_17 => ?_)
              · have c_17 : ¬ (0 ≤ (upd (a 19) (j) (((a 19) (j)) + 1)) j ∧ (upd (a 19) (j) (((a 19) (j)) + 1)) j < a 16 j) := c_17
                refine lv_sipush (v := 1000) hx hb d_M_returned_125 (by decide) ?_
                exact W.iret (v := 1000) hx hb hr (fun t ht hW => ⟨⟨1000, (28, bk, MW cs 0 z (va_up (va_up a 19 (upd (a 19) (j) (((a 19) (j)) + 1))) 20 (upd (a 20) (j) (day))) bk), rfl, Mr_of (by rw [s_M_returned, if_pos c_5, if_pos c_7, if_pos c_10, if_pos c_13, if_neg c_17]), by rw [ht]; exact hP, va_K.moved hW.alike hK, hD⟩, hS.F ht⟩) hS.2.2 d_M_returned_128
              · have c_17 : 0 ≤ (upd (a 19) (j) (((a 19) (j)) + 1)) j ∧ (upd (a 19) (j) (((a 19) (j)) + 1)) j < a 16 j := c_17
                refine lv_aload_n hx hb d_M_returned_114 rfl (lv_at hl 1 rfl) ?_
                refine pw_get (ci := 7) (v := .ref (bk (17))) hx hb hw i_M hown hK hP (0) (by decide) rfl rfl 18 (by decide) (hw _ kF_M_59) rfl d_M_returned_115 ?_
                refine lv_iload_n hx hb d_M_returned_118 rfl (lv_at hl 0 rfl) ?_
                refine lv_iconst (v := 1) hx hb d_M_returned_119 (by decide) ?_
                refine lv_iadd hx hb d_M_returned_120 ?_
                rw [show (nI (8 * j + ((a 19) (j)).toNatClampNeg)) + 1 = nI ((8 * j + ((a 19) (j)).toNatClampNeg) + 1) from nI_1 _]
                refine pw_iald (n := 1600) (f := (a 17)) hx hb hK hP 0 (17) (by decide) rfl rfl ((8 * j + ((a 19) (j)).toNatClampNeg) + 1) rfl (by have h4 := c_17; simp only [pk_us] at h4; have h5 := px_lt (n := 8) h4.1 h4.2 hrs.2 (by decide); rw [px_s c_7.1 (Int32.lt_of_lt_of_le c_7.2 hrs.2)] at h5; omega) (by decide) d_M_returned_121 ?_
                refine lv_goto (tgt := 128) hx hb d_M_returned_122 (by decide) ?_
                exact W.iret (v := (a 17) ((8 * j + ((a 19) (j)).toNatClampNeg) + 1)) hx hb hr (fun t ht hW => ⟨⟨(a 17) ((8 * j + ((a 19) (j)).toNatClampNeg) + 1), (28, bk, MW cs 0 z (va_up (va_up a 19 (upd (a 19) (j) (((a 19) (j)) + 1))) 20 (upd (a 20) (j) (day))) bk), rfl, Mr_of (by rw [s_M_returned, if_pos c_5, if_pos c_7, if_pos c_10, if_pos c_13, if_pos c_17]), by rw [ht]; exact hP, va_K.moved hW.alike hK, hD⟩, hS.F ht⟩) hS.2.2 d_M_returned_128
            · have c_13 : ¬ (day - ((a 20) (j))) ≤ ((a 18) (8 * j + ((a 19) (j)).toNatClampNeg)) := c_13
              refine lv_aload_n hx hb d_M_returned_83 rfl (lv_at hl 1 rfl) ?_
              refine lv_iconst (v := 4) hx hb d_M_returned_84 (by decide) ?_
              refine lv_iload_n hx hb d_M_returned_85 rfl (lv_at hl 2 rfl) ?_
              refine pm_callv (va_runV (As := [.int (4), .int (nI j)]) (rest := []) ⟨hx, hb, hml, hown, hw⟩ (c_M_tell l D cs bk H.size 0 z a hz4 4 (nI j)) (cw_V 2 hw kM_M_118 kI_M_tell kV_M_tell kZ_M kC_M_tell rfl rfl ⟨rfl, by decide, by decide, by decide +kernel⟩ ⟨Nat.le_of_ble_eq_true rfl, Nat.le_of_ble_eq_true rfl⟩) (pw_preV hN hK hP hD (0) (by decide) rfl rfl) rfl rfl hl.1 rfl (lv_room (Nat.le_of_ble_eq_true rfl)) d_M_returned_86 ⟨Nat.le_of_ble_eq_true rfl, Nat.le_of_ble_eq_true rfl⟩) hS (wl_free hD hS hA) (fun H locs hP hD hS => ?_)
              rw [tell_eq] at hP hD
              have hP : va_P D classes (wl 28 bk (MW cs 0 (va_up z 4 (tlz z)) (va_up (va_up a 26 (tla z (a 26) 4)) 27 (tla z (a 27) (nI j))) bk)) H := hP
              have hD : va_D (AA 28 bk sz) (wl 28 bk (MW cs 0 (va_up z 4 (tlz z)) (va_up (va_up a 26 (tla z (a 26) 4)) 27 (tla z (a 27) (nI j))) bk)) := hD
              refine lv_aload_n hx hb d_M_returned_89 rfl (lv_at hl 1 rfl) ?_
              refine pw_get (ci := 7) (v := .ref (bk (19))) hx hb hw i_M hown hK hP (0) (by decide) rfl rfl 20 (by decide) (hw _ kF_M_65) rfl d_M_returned_90 ?_
              refine lv_iload_n hx hb d_M_returned_93 rfl (lv_at hl 2 rfl) ?_
              refine lv_dup2_11 hx hb d_M_returned_94 rfl rfl ?_
              refine pw_iald (n := 200) (f := (a 19)) hx hb hK hP 0 (19) (by decide) rfl rfl (j) rfl (by omega) (by decide) d_M_returned_95 ?_
              refine lv_iconst (v := 1) hx hb d_M_returned_96 (by decide) ?_
              refine lv_iadd hx hb d_M_returned_97 ?_
              refine pw_iast (n := 200) (f := (a 19)) hx hb hK hP hD hS 0 (19) (by decide) rfl rfl (j) rfl (by omega) (by decide) d_M_returned_98 (fun cw_18 H locs ecw_18 hP hD hS => ?_)
              obtain rfl : cw_18 = MW cs 0 (va_up z 4 (tlz z)) (va_up (va_up (va_up a 26 (tla z (a 26) 4)) 27 (tla z (a 27) (nI j))) 19 (upd (a 19) (j) (((a 19) (j)) + 1))) bk := by rw [ecw_18]; exact MW_arr 19 (by decide) (upd (a 19) (j) (((a 19) (j)) + 1))
              refine lv_aload_n hx hb d_M_returned_99 rfl (lv_at hl 1 rfl) ?_
              refine pw_get (ci := 7) (v := .ref (bk (20))) hx hb hw i_M hown hK hP (0) (by decide) rfl rfl 21 (by decide) (hw _ kF_M_68) rfl d_M_returned_100 ?_
              refine lv_iload_n hx hb d_M_returned_103 rfl (lv_at hl 2 rfl) ?_
              refine lv_iload_n hx hb d_M_returned_104 rfl (lv_at hl 3 rfl) ?_
              refine pw_iast (n := 200) (f := (a 20)) hx hb hK hP hD hS 0 (20) (by decide) rfl rfl (j) rfl (by omega) (by decide) d_M_returned_105 (fun cw_19 H locs ecw_19 hP hD hS => ?_)
              obtain rfl : cw_19 = MW cs 0 (va_up z 4 (tlz z)) (va_up (va_up (va_up (va_up a 26 (tla z (a 26) 4)) 27 (tla z (a 27) (nI j))) 19 (upd (a 19) (j) (((a 19) (j)) + 1))) 20 (upd (a 20) (j) (day))) bk := by rw [ecw_19]; exact MW_arr 20 (by decide) (upd (a 20) (j) (day))
              refine lv_aload_n hx hb d_M_returned_106 rfl (lv_at hl 1 rfl) ?_
              refine lv_iload_n hx hb d_M_returned_107 rfl (lv_at hl 2 rfl) ?_
              refine pw_callSi (va_runV (As := [.int (nI j)]) (rest := []) ⟨hx, hb, hml, hown, hw⟩ (c_M_isHeld l D cs bk H.size 0 (va_up z 4 (tlz z)) (va_up (va_up (va_up (va_up a 26 (tla z (a 26) 4)) 27 (tla z (a 27) (nI j))) 19 (upd (a 19) (j) (((a 19) (j)) + 1))) 20 (upd (a 20) (j) (day))) j (by omega)) (cw_V 1 hw kM_M_128 kI_M_isHeld kV_M_isHeld kZ_M kC_M_isHeld rfl rfl ⟨rfl, by decide, by decide, by decide +kernel⟩ ⟨Nat.le_of_ble_eq_true rfl, Nat.le_of_ble_eq_true rfl⟩) (pw_preV hN hK hP hD (0) (by decide) rfl rfl) rfl rfl hl.1 rfl (lv_room (Nat.le_of_ble_eq_true rfl)) d_M_returned_108 ⟨Nat.le_of_ble_eq_true rfl, Nat.le_of_ble_eq_true rfl⟩) (fun r_20 hr_20 => ?_)
              have hr_20 : r_20 = bI (0 ≤ (upd (a 19) (j) (((a 19) (j)) + 1)) j ∧ (upd (a 19) (j) (((a 19) (j)) + 1)) j < a 16 j) := hr_20
              subst hr_20
              refine pw_ifeq (tgt := 125) hx hb d_M_returned_111 (by decide) (fun c_21 => ?_) (fun c_21 => ?_)
              · have c_21 : ¬ (0 ≤ (upd (a 19) (j) (((a 19) (j)) + 1)) j ∧ (upd (a 19) (j) (((a 19) (j)) + 1)) j < a 16 j) := c_21
                refine lv_sipush (v := 1000) hx hb d_M_returned_125 (by decide) ?_
                exact W.iret (v := 1000) hx hb hr (fun t ht hW => ⟨⟨1000, (28, bk, MW cs 0 (va_up z 4 (tlz z)) (va_up (va_up (va_up (va_up a 26 (tla z (a 26) 4)) 27 (tla z (a 27) (nI j))) 19 (upd (a 19) (j) (((a 19) (j)) + 1))) 20 (upd (a 20) (j) (day))) bk), rfl, Mr_of (by rw [s_M_returned, if_pos c_5, if_pos c_7, if_pos c_10, if_neg c_13, if_neg c_21]), by rw [ht]; exact hP, va_K.moved hW.alike hK, hD⟩, hS.F ht⟩) hS.2.2 d_M_returned_128
              · have c_21 : 0 ≤ (upd (a 19) (j) (((a 19) (j)) + 1)) j ∧ (upd (a 19) (j) (((a 19) (j)) + 1)) j < a 16 j := c_21
                refine lv_aload_n hx hb d_M_returned_114 rfl (lv_at hl 1 rfl) ?_
                refine pw_get (ci := 7) (v := .ref (bk (17))) hx hb hw i_M hown hK hP (0) (by decide) rfl rfl 18 (by decide) (hw _ kF_M_59) rfl d_M_returned_115 ?_
                refine lv_iload_n hx hb d_M_returned_118 rfl (lv_at hl 0 rfl) ?_
                refine lv_iconst (v := 1) hx hb d_M_returned_119 (by decide) ?_
                refine lv_iadd hx hb d_M_returned_120 ?_
                rw [show (nI (8 * j + ((a 19) (j)).toNatClampNeg)) + 1 = nI ((8 * j + ((a 19) (j)).toNatClampNeg) + 1) from nI_1 _]
                refine pw_iald (n := 1600) (f := (a 17)) hx hb hK hP 0 (17) (by decide) rfl rfl ((8 * j + ((a 19) (j)).toNatClampNeg) + 1) rfl (by have h4 := c_21; simp only [pk_us] at h4; have h5 := px_lt (n := 8) h4.1 h4.2 hrs.2 (by decide); rw [px_s c_7.1 (Int32.lt_of_lt_of_le c_7.2 hrs.2)] at h5; omega) (by decide) d_M_returned_121 ?_
                refine lv_goto (tgt := 128) hx hb d_M_returned_122 (by decide) ?_
                exact W.iret (v := (a 17) ((8 * j + ((a 19) (j)).toNatClampNeg) + 1)) hx hb hr (fun t ht hW => ⟨⟨(a 17) ((8 * j + ((a 19) (j)).toNatClampNeg) + 1), (28, bk, MW cs 0 (va_up z 4 (tlz z)) (va_up (va_up (va_up (va_up a 26 (tla z (a 26) 4)) 27 (tla z (a 27) (nI j))) 19 (upd (a 19) (j) (((a 19) (j)) + 1))) 20 (upd (a 20) (j) (day))) bk), rfl, Mr_of (by rw [s_M_returned, if_pos c_5, if_pos c_7, if_pos c_10, if_neg c_13, if_pos c_21]), by rw [ht]; exact hP, va_K.moved hW.alike hK, hD⟩, hS.F ht⟩) hS.2.2 d_M_returned_128
          · have c_12 : ¬ (0 ≤ a 19 j ∧ a 19 j < a 16 j) := c_12
            exact absurd c_7 c_12
        · have c_10 : ¬ ((a 20) (j)) ≤ day := c_10
          refine lv_bipush (v := -2) hx hb d_M_returned_40 (by decide) ?_
          exact W.iret (v := -2) hx hb hr (fun t ht hW => ⟨⟨-2, (28, bk, MW cs 0 z a bk), rfl, Mr_of (by rw [s_M_returned, if_pos c_5, if_pos c_7, if_neg c_10]), by rw [ht]; exact hP, va_K.moved hW.alike hK, hD⟩, hS.F ht⟩) hS.2.2 d_M_returned_42
  · have c_3 : ¬ (0 ≤ (nI j) ∧ (nI j) < nI (z 0)) := c_3
    exact absurd ⟨nI_pos' (by omega), (nI_ltI (by omega) (by omega)).mpr hj⟩ c_3
def s_M_about_out (th : Int32) (z : Nat → Nat) (a : Nat → Nat → Int32) (x : Int32) (what : Int32) : MS := (-1, 0, z, a)
set_option maxHeartbeats 4000000 in
set_option maxRecDepth 100000 in
theorem c_M_about_out (l : Launch) (D : va_G) (cs : Nat → ClassId) (bk : Nat → Nat) (sz : Nat) (th : Int32) (z : Nat → Nat) (a : Nat → Nat → Int32) (hz : z 0 ≤ 200) (x : Int32) (ho : ¬ (0 ≤ x ∧ x < nI (z 0))) (what : Int32) : Met l y_M_about w_M_about ({ frames := 2, cells := 0, slots := 0, locals := 43 }) (va_Pc [.ref (bk (0)), .int (x), .int (what)] (PB D classes (TY cs) 28 bk (MW cs th z a bk) sz)) (va_Qi (Mr cs bk (s_M_about_out th z a x what)) (Wd D classes (TY cs) (AA 28 bk sz)) (AA 28 bk sz)) 0 0 (AA 28 bk sz) := by
  refine pw_entry (cc := b_M_about) (maxL := 3) (ret := (some .int)) (by decide +kernel) rfl (Nat.le_of_ble_eq_true rfl) ?_
  intro p_ e_ s m below_ meth_ c_ ls hx hb hr hml hts hown hlocks hin hsz hP hK hD hS hA hN hl
  have hw : ∀ w ∈ WA, w.before _ s = true := fun w h => hts w (List.mem_cons_of_mem _ h)
  have hown : s.vm.findClass "IssueRowsModel" = some m.cls := hown
  have hl : lv_has ls 3 [(0, .ref (bk (0))), (1, .int (x)), (2, .int (what))] := hl
  refine lv_aload_n hx hb d_M_about_0 rfl (lv_at hl 0 rfl) ?_
  refine lv_iconst (v := 0) hx hb d_M_about_1 (by decide) ?_
  refine pw_put (ci := 7) (v := .int (0)) (ty := .int) (fs' := [.int (0), .ref (bk (1)), .ref (bk (2)), .ref (bk (3)), .int (nI (z 0)), .ref (bk (4)), .ref (bk (5)), .ref (bk (6)), .ref (bk (7)), .ref (bk (8)), .ref (bk (9)), .ref (bk (10)), .ref (bk (11)), .ref (bk (12)), .ref (bk (13)), .ref (bk (14)), .ref (bk (15)), .ref (bk (16)), .ref (bk (17)), .ref (bk (18)), .ref (bk (19)), .ref (bk (20)), .int (nI (z 1)), .ref (bk (21)), .ref (bk (22)), .int (nI (z 2)), .int (nI (z 3)), .ref (bk (23)), .ref (bk (24)), .ref (bk (25)), .int (nI (z 4)), .ref (bk (26)), .ref (bk (27))]) hx hb hw i_M t_M t_M_ok n_M hown hK hP hD hS (0) (by decide) rfl rfl 0 (by decide) (hw _ kF_M_92) rfl (t_M_ok 0 (by decide)) rfl rfl (Nat.le_of_ble_eq_true rfl) rfl d_M_about_2 (fun cw_1 H locs ecw_1 hP hD hS => ?_)
  obtain rfl : cw_1 = MW cs 0 z a bk := by rw [ecw_1]; exact MW_obj 0 z
  refine lv_aload_n hx hb d_M_about_5 rfl (lv_at hl 0 rfl) ?_
  refine lv_iload_n hx hb d_M_about_6 rfl (lv_at hl 1 rfl) ?_
  refine pw_callSi (va_runV (As := [.int (x)]) (rest := []) ⟨hx, hb, hml, hown, hw⟩ (c_M_isIssue l D cs bk H.size 0 z a hz x) (cw_V 1 hw kM_M_115 kI_M_isIssue kV_M_isIssue kZ_M kC_M_isIssue rfl rfl ⟨rfl, by decide, by decide, by decide +kernel⟩ ⟨Nat.le_of_ble_eq_true rfl, Nat.le_of_ble_eq_true rfl⟩) (pw_preV hN hK hP hD (0) (by decide) rfl rfl) rfl rfl hl.1 rfl (lv_room (Nat.le_of_ble_eq_true rfl)) d_M_about_7 ⟨Nat.le_of_ble_eq_true rfl, Nat.le_of_ble_eq_true rfl⟩) (fun r_2 hr_2 => ?_)
  have hr_2 : r_2 = bI (0 ≤ x ∧ x < nI (z 0)) := hr_2
  subst hr_2
  refine pw_ifne (tgt := 15) hx hb d_M_about_10 (by decide) (fun c_3 => ?_) (fun c_3 => ?_)
  · have c_3 : 0 ≤ x ∧ x < nI (z 0) := c_3
    exact absurd c_3 ho
  · have c_3 : ¬ (0 ≤ x ∧ x < nI (z 0)) := c_3
    refine lv_iconst (v := -1) hx hb d_M_about_13 (by decide) ?_
    exact W.iret (v := -1) hx hb hr (fun t ht hW => ⟨⟨-1, (28, bk, MW cs 0 z a bk), rfl, Mr_of (by rw [s_M_about_out]), by rw [ht]; exact hP, va_K.moved hW.alike hK, hD⟩, hS.F ht⟩) hS.2.2 d_M_about_14
def s_M_about (th : Int32) (z : Nat → Nat) (a : Nat → Nat → Int32) (j : Nat) (what : Int32) : MS := (if what = 0 then ((a 4) (j), 0, z, a) else if what = 1 then ((a 5) (j), 0, z, a) else if what = 2 then ((a 6) (j), 0, z, a) else if what = 3 then ((a 7) (j), 0, z, a) else if what = 4 then ((a 8) (j), 0, z, a) else if what = 5 then ((a 10) (j), 0, z, a) else if what = 6 then ((a 11) (j), 0, z, a) else if what = 7 then (if 0 ≤ a 19 j ∧ a 19 j < a 16 j then ((a 17) (8 * j + ((a 19) (j)).toNatClampNeg), 0, z, a) else (-1, 0, z, a)) else if what = 8 then ((a 12) (j), 0, z, a) else if what = 9 then ((a 13) (j), 0, z, a) else if what = 10 then ((a 14) (j), 0, z, a) else (-1, 0, z, a))
set_option maxHeartbeats 4000000 in
set_option maxRecDepth 100000 in
theorem c_M_about (l : Launch) (D : va_G) (cs : Nat → ClassId) (bk : Nat → Nat) (sz : Nat) (th : Int32) (z : Nat → Nat) (a : Nat → Nat → Int32) (hz : z 0 ≤ 200) (j : Nat) (hj : j < z 0) (hrs : 0 ≤ a 16 j ∧ a 16 j ≤ 8) (what : Int32) : Met l y_M_about w_M_about ({ frames := 2, cells := 0, slots := 0, locals := 43 }) (va_Pc [.ref (bk (0)), .int (nI j), .int (what)] (PB D classes (TY cs) 28 bk (MW cs th z a bk) sz)) (va_Qi (Mr cs bk (s_M_about th z a j what)) (Wd D classes (TY cs) (AA 28 bk sz)) (AA 28 bk sz)) 0 0 (AA 28 bk sz) := by
  refine pw_entry (cc := b_M_about) (maxL := 3) (ret := (some .int)) (by decide +kernel) rfl (Nat.le_of_ble_eq_true rfl) ?_
  intro p_ e_ s m below_ meth_ c_ ls hx hb hr hml hts hown hlocks hin hsz hP hK hD hS hA hN hl
  have hw : ∀ w ∈ WA, w.before _ s = true := fun w h => hts w (List.mem_cons_of_mem _ h)
  have hown : s.vm.findClass "IssueRowsModel" = some m.cls := hown
  have hl : lv_has ls 3 [(0, .ref (bk (0))), (1, .int (nI j)), (2, .int (what))] := hl
  refine lv_aload_n hx hb d_M_about_0 rfl (lv_at hl 0 rfl) ?_
  refine lv_iconst (v := 0) hx hb d_M_about_1 (by decide) ?_
  refine pw_put (ci := 7) (v := .int (0)) (ty := .int) (fs' := [.int (0), .ref (bk (1)), .ref (bk (2)), .ref (bk (3)), .int (nI (z 0)), .ref (bk (4)), .ref (bk (5)), .ref (bk (6)), .ref (bk (7)), .ref (bk (8)), .ref (bk (9)), .ref (bk (10)), .ref (bk (11)), .ref (bk (12)), .ref (bk (13)), .ref (bk (14)), .ref (bk (15)), .ref (bk (16)), .ref (bk (17)), .ref (bk (18)), .ref (bk (19)), .ref (bk (20)), .int (nI (z 1)), .ref (bk (21)), .ref (bk (22)), .int (nI (z 2)), .int (nI (z 3)), .ref (bk (23)), .ref (bk (24)), .ref (bk (25)), .int (nI (z 4)), .ref (bk (26)), .ref (bk (27))]) hx hb hw i_M t_M t_M_ok n_M hown hK hP hD hS (0) (by decide) rfl rfl 0 (by decide) (hw _ kF_M_92) rfl (t_M_ok 0 (by decide)) rfl rfl (Nat.le_of_ble_eq_true rfl) rfl d_M_about_2 (fun cw_1 H locs ecw_1 hP hD hS => ?_)
  obtain rfl : cw_1 = MW cs 0 z a bk := by rw [ecw_1]; exact MW_obj 0 z
  refine lv_aload_n hx hb d_M_about_5 rfl (lv_at hl 0 rfl) ?_
  refine lv_iload_n hx hb d_M_about_6 rfl (lv_at hl 1 rfl) ?_
  refine pw_callSi (va_runV (As := [.int (nI j)]) (rest := []) ⟨hx, hb, hml, hown, hw⟩ (c_M_isIssue l D cs bk H.size 0 z a hz (nI j)) (cw_V 1 hw kM_M_115 kI_M_isIssue kV_M_isIssue kZ_M kC_M_isIssue rfl rfl ⟨rfl, by decide, by decide, by decide +kernel⟩ ⟨Nat.le_of_ble_eq_true rfl, Nat.le_of_ble_eq_true rfl⟩) (pw_preV hN hK hP hD (0) (by decide) rfl rfl) rfl rfl hl.1 rfl (lv_room (Nat.le_of_ble_eq_true rfl)) d_M_about_7 ⟨Nat.le_of_ble_eq_true rfl, Nat.le_of_ble_eq_true rfl⟩) (fun r_2 hr_2 => ?_)
  have hr_2 : r_2 = bI (0 ≤ (nI j) ∧ (nI j) < nI (z 0)) := hr_2
  subst hr_2
  refine pw_ifne (tgt := 15) hx hb d_M_about_10 (by decide) (fun c_3 => ?_) (fun c_3 => ?_)
  · have c_3 : 0 ≤ (nI j) ∧ (nI j) < nI (z 0) := c_3
    refine lv_iload_n hx hb d_M_about_15 rfl (lv_at hl 2 rfl) ?_
    by_cases c_4 : what = 0
    · refine lv_tableIn (off := 60) (tgt := 76) hx hb d_M_about_16 (by rw [c_4]; decide) (by rw [c_4]; decide) (by rw [c_4]; rfl) (by decide) ?_
      refine lv_aload_n hx hb d_M_about_76 rfl (lv_at hl 0 rfl) ?_
      refine pw_get (ci := 7) (v := .ref (bk (4))) hx hb hw i_M hown hK hP (0) (by decide) rfl rfl 5 (by decide) (hw _ kF_M_19) rfl d_M_about_77 ?_
      refine lv_iload_n hx hb d_M_about_80 rfl (lv_at hl 1 rfl) ?_
      refine pw_iald (n := 200) (f := (a 4)) hx hb hK hP 0 (4) (by decide) rfl rfl (j) rfl (by omega) (by decide) d_M_about_81 ?_
      exact W.iret (v := (a 4) (j)) hx hb hr (fun t ht hW => ⟨⟨(a 4) (j), (28, bk, MW cs 0 z a bk), rfl, Mr_of (by rw [s_M_about, if_pos c_4]), by rw [ht]; exact hP, va_K.moved hW.alike hK, hD⟩, hS.F ht⟩) hS.2.2 d_M_about_82
    by_cases c_5 : what = 1
    · refine lv_tableIn (off := 67) (tgt := 83) hx hb d_M_about_16 (by rw [c_5]; decide) (by rw [c_5]; decide) (by rw [c_5]; rfl) (by decide) ?_
      refine lv_aload_n hx hb d_M_about_83 rfl (lv_at hl 0 rfl) ?_
      refine pw_get (ci := 7) (v := .ref (bk (5))) hx hb hw i_M hown hK hP (0) (by decide) rfl rfl 6 (by decide) (hw _ kF_M_22) rfl d_M_about_84 ?_
      refine lv_iload_n hx hb d_M_about_87 rfl (lv_at hl 1 rfl) ?_
      refine pw_iald (n := 200) (f := (a 5)) hx hb hK hP 0 (5) (by decide) rfl rfl (j) rfl (by omega) (by decide) d_M_about_88 ?_
      exact W.iret (v := (a 5) (j)) hx hb hr (fun t ht hW => ⟨⟨(a 5) (j), (28, bk, MW cs 0 z a bk), rfl, Mr_of (by rw [s_M_about, if_neg c_4, if_pos c_5]), by rw [ht]; exact hP, va_K.moved hW.alike hK, hD⟩, hS.F ht⟩) hS.2.2 d_M_about_89
    by_cases c_6 : what = 2
    · refine lv_tableIn (off := 74) (tgt := 90) hx hb d_M_about_16 (by rw [c_6]; decide) (by rw [c_6]; decide) (by rw [c_6]; rfl) (by decide) ?_
      refine lv_aload_n hx hb d_M_about_90 rfl (lv_at hl 0 rfl) ?_
      refine pw_get (ci := 7) (v := .ref (bk (6))) hx hb hw i_M hown hK hP (0) (by decide) rfl rfl 7 (by decide) (hw _ kF_M_25) rfl d_M_about_91 ?_
      refine lv_iload_n hx hb d_M_about_94 rfl (lv_at hl 1 rfl) ?_
      refine pw_iald (n := 200) (f := (a 6)) hx hb hK hP 0 (6) (by decide) rfl rfl (j) rfl (by omega) (by decide) d_M_about_95 ?_
      exact W.iret (v := (a 6) (j)) hx hb hr (fun t ht hW => ⟨⟨(a 6) (j), (28, bk, MW cs 0 z a bk), rfl, Mr_of (by rw [s_M_about, if_neg c_4, if_neg c_5, if_pos c_6]), by rw [ht]; exact hP, va_K.moved hW.alike hK, hD⟩, hS.F ht⟩) hS.2.2 d_M_about_96
    by_cases c_7 : what = 3
    · refine lv_tableIn (off := 81) (tgt := 97) hx hb d_M_about_16 (by rw [c_7]; decide) (by rw [c_7]; decide) (by rw [c_7]; rfl) (by decide) ?_
      refine lv_aload_n hx hb d_M_about_97 rfl (lv_at hl 0 rfl) ?_
      refine pw_get (ci := 7) (v := .ref (bk (7))) hx hb hw i_M hown hK hP (0) (by decide) rfl rfl 8 (by decide) (hw _ kF_M_28) rfl d_M_about_98 ?_
      refine lv_iload_n hx hb d_M_about_101 rfl (lv_at hl 1 rfl) ?_
      refine pw_iald (n := 200) (f := (a 7)) hx hb hK hP 0 (7) (by decide) rfl rfl (j) rfl (by omega) (by decide) d_M_about_102 ?_
      exact W.iret (v := (a 7) (j)) hx hb hr (fun t ht hW => ⟨⟨(a 7) (j), (28, bk, MW cs 0 z a bk), rfl, Mr_of (by rw [s_M_about, if_neg c_4, if_neg c_5, if_neg c_6, if_pos c_7]), by rw [ht]; exact hP, va_K.moved hW.alike hK, hD⟩, hS.F ht⟩) hS.2.2 d_M_about_103
    by_cases c_8 : what = 4
    · refine lv_tableIn (off := 88) (tgt := 104) hx hb d_M_about_16 (by rw [c_8]; decide) (by rw [c_8]; decide) (by rw [c_8]; rfl) (by decide) ?_
      refine lv_aload_n hx hb d_M_about_104 rfl (lv_at hl 0 rfl) ?_
      refine pw_get (ci := 7) (v := .ref (bk (8))) hx hb hw i_M hown hK hP (0) (by decide) rfl rfl 9 (by decide) (hw _ kF_M_31) rfl d_M_about_105 ?_
      refine lv_iload_n hx hb d_M_about_108 rfl (lv_at hl 1 rfl) ?_
      refine pw_iald (n := 200) (f := (a 8)) hx hb hK hP 0 (8) (by decide) rfl rfl (j) rfl (by omega) (by decide) d_M_about_109 ?_
      exact W.iret (v := (a 8) (j)) hx hb hr (fun t ht hW => ⟨⟨(a 8) (j), (28, bk, MW cs 0 z a bk), rfl, Mr_of (by rw [s_M_about, if_neg c_4, if_neg c_5, if_neg c_6, if_neg c_7, if_pos c_8]), by rw [ht]; exact hP, va_K.moved hW.alike hK, hD⟩, hS.F ht⟩) hS.2.2 d_M_about_110
    by_cases c_9 : what = 5
    · refine lv_tableIn (off := 95) (tgt := 111) hx hb d_M_about_16 (by rw [c_9]; decide) (by rw [c_9]; decide) (by rw [c_9]; rfl) (by decide) ?_
      refine lv_aload_n hx hb d_M_about_111 rfl (lv_at hl 0 rfl) ?_
      refine pw_get (ci := 7) (v := .ref (bk (10))) hx hb hw i_M hown hK hP (0) (by decide) rfl rfl 11 (by decide) (hw _ kF_M_37) rfl d_M_about_112 ?_
      refine lv_iload_n hx hb d_M_about_115 rfl (lv_at hl 1 rfl) ?_
      refine pw_iald (n := 200) (f := (a 10)) hx hb hK hP 0 (10) (by decide) rfl rfl (j) rfl (by omega) (by decide) d_M_about_116 ?_
      exact W.iret (v := (a 10) (j)) hx hb hr (fun t ht hW => ⟨⟨(a 10) (j), (28, bk, MW cs 0 z a bk), rfl, Mr_of (by rw [s_M_about, if_neg c_4, if_neg c_5, if_neg c_6, if_neg c_7, if_neg c_8, if_pos c_9]), by rw [ht]; exact hP, va_K.moved hW.alike hK, hD⟩, hS.F ht⟩) hS.2.2 d_M_about_117
    by_cases c_10 : what = 6
    · refine lv_tableIn (off := 102) (tgt := 118) hx hb d_M_about_16 (by rw [c_10]; decide) (by rw [c_10]; decide) (by rw [c_10]; rfl) (by decide) ?_
      refine lv_aload_n hx hb d_M_about_118 rfl (lv_at hl 0 rfl) ?_
      refine pw_get (ci := 7) (v := .ref (bk (11))) hx hb hw i_M hown hK hP (0) (by decide) rfl rfl 12 (by decide) (hw _ kF_M_40) rfl d_M_about_119 ?_
      refine lv_iload_n hx hb d_M_about_122 rfl (lv_at hl 1 rfl) ?_
      refine pw_iald (n := 200) (f := (a 11)) hx hb hK hP 0 (11) (by decide) rfl rfl (j) rfl (by omega) (by decide) d_M_about_123 ?_
      exact W.iret (v := (a 11) (j)) hx hb hr (fun t ht hW => ⟨⟨(a 11) (j), (28, bk, MW cs 0 z a bk), rfl, Mr_of (by rw [s_M_about, if_neg c_4, if_neg c_5, if_neg c_6, if_neg c_7, if_neg c_8, if_neg c_9, if_pos c_10]), by rw [ht]; exact hP, va_K.moved hW.alike hK, hD⟩, hS.F ht⟩) hS.2.2 d_M_about_124
    by_cases c_11 : what = 7
    · refine lv_tableIn (off := 109) (tgt := 125) hx hb d_M_about_16 (by rw [c_11]; decide) (by rw [c_11]; decide) (by rw [c_11]; rfl) (by decide) ?_
      refine lv_aload_n hx hb d_M_about_125 rfl (lv_at hl 0 rfl) ?_
      refine lv_iload_n hx hb d_M_about_126 rfl (lv_at hl 1 rfl) ?_
      refine pw_callSi (va_runV (As := [.int (nI j)]) (rest := []) ⟨hx, hb, hml, hown, hw⟩ (c_M_isHeld l D cs bk H.size 0 z a j (by omega)) (cw_V 1 hw kM_M_128 kI_M_isHeld kV_M_isHeld kZ_M kC_M_isHeld rfl rfl ⟨rfl, by decide, by decide, by decide +kernel⟩ ⟨Nat.le_of_ble_eq_true rfl, Nat.le_of_ble_eq_true rfl⟩) (pw_preV hN hK hP hD (0) (by decide) rfl rfl) rfl rfl hl.1 rfl (lv_room (Nat.le_of_ble_eq_true rfl)) d_M_about_127 ⟨Nat.le_of_ble_eq_true rfl, Nat.le_of_ble_eq_true rfl⟩) (fun r_12 hr_12 => ?_)
      have hr_12 : r_12 = bI (0 ≤ a 19 j ∧ a 19 j < a 16 j) := hr_12
      subst hr_12
      refine pw_ifeq (tgt := 152) hx hb d_M_about_130 (by decide) (fun c_13 => ?_) (fun c_13 => ?_)
      · have c_13 : ¬ (0 ≤ a 19 j ∧ a 19 j < a 16 j) := c_13
        refine lv_iconst (v := -1) hx hb d_M_about_152 (by decide) ?_
        exact W.iret (v := -1) hx hb hr (fun t ht hW => ⟨⟨-1, (28, bk, MW cs 0 z a bk), rfl, Mr_of (by rw [s_M_about, if_neg c_4, if_neg c_5, if_neg c_6, if_neg c_7, if_neg c_8, if_neg c_9, if_neg c_10, if_pos c_11, if_neg c_13]), by rw [ht]; exact hP, va_K.moved hW.alike hK, hD⟩, hS.F ht⟩) hS.2.2 d_M_about_153
      · have c_13 : 0 ≤ a 19 j ∧ a 19 j < a 16 j := c_13
        refine lv_aload_n hx hb d_M_about_133 rfl (lv_at hl 0 rfl) ?_
        refine pw_get (ci := 7) (v := .ref (bk (17))) hx hb hw i_M hown hK hP (0) (by decide) rfl rfl 18 (by decide) (hw _ kF_M_59) rfl d_M_about_134 ?_
        refine lv_bipush (v := 8) hx hb d_M_about_137 (by decide) ?_
        refine lv_iload_n hx hb d_M_about_139 rfl (lv_at hl 1 rfl) ?_
        refine lv_imul hx hb d_M_about_140 ?_
        refine lv_aload_n hx hb d_M_about_141 rfl (lv_at hl 0 rfl) ?_
        refine pw_get (ci := 7) (v := .ref (bk (19))) hx hb hw i_M hown hK hP (0) (by decide) rfl rfl 20 (by decide) (hw _ kF_M_65) rfl d_M_about_142 ?_
        refine lv_iload_n hx hb d_M_about_145 rfl (lv_at hl 1 rfl) ?_
        refine pw_iald (n := 200) (f := (a 19)) hx hb hK hP 0 (19) (by decide) rfl rfl (j) rfl (by omega) (by decide) d_M_about_146 ?_
        refine lv_iadd hx hb d_M_about_147 ?_
        rw [show (8 * (nI j)) + ((a 19) (j)) = nI (8 * j + ((a 19) (j)).toNatClampNeg) from px_eq c_13.1]
        refine pw_iald (n := 1600) (f := (a 17)) hx hb hK hP 0 (17) (by decide) rfl rfl (8 * j + ((a 19) (j)).toNatClampNeg) rfl (by have h5 := px_lt (n := 8) c_13.1 c_13.2 hrs.2 (by decide); omega) (by decide) d_M_about_148 ?_
        refine lv_goto (tgt := 153) hx hb d_M_about_149 (by decide) ?_
        exact W.iret (v := (a 17) (8 * j + ((a 19) (j)).toNatClampNeg)) hx hb hr (fun t ht hW => ⟨⟨(a 17) (8 * j + ((a 19) (j)).toNatClampNeg), (28, bk, MW cs 0 z a bk), rfl, Mr_of (by rw [s_M_about, if_neg c_4, if_neg c_5, if_neg c_6, if_neg c_7, if_neg c_8, if_neg c_9, if_neg c_10, if_pos c_11, if_pos c_13]), by rw [ht]; exact hP, va_K.moved hW.alike hK, hD⟩, hS.F ht⟩) hS.2.2 d_M_about_153
    by_cases c_14 : what = 8
    · refine lv_tableIn (off := 138) (tgt := 154) hx hb d_M_about_16 (by rw [c_14]; decide) (by rw [c_14]; decide) (by rw [c_14]; rfl) (by decide) ?_
      refine lv_aload_n hx hb d_M_about_154 rfl (lv_at hl 0 rfl) ?_
      refine pw_get (ci := 7) (v := .ref (bk (12))) hx hb hw i_M hown hK hP (0) (by decide) rfl rfl 13 (by decide) (hw _ kF_M_43) rfl d_M_about_155 ?_
      refine lv_iload_n hx hb d_M_about_158 rfl (lv_at hl 1 rfl) ?_
      refine pw_iald (n := 200) (f := (a 12)) hx hb hK hP 0 (12) (by decide) rfl rfl (j) rfl (by omega) (by decide) d_M_about_159 ?_
      exact W.iret (v := (a 12) (j)) hx hb hr (fun t ht hW => ⟨⟨(a 12) (j), (28, bk, MW cs 0 z a bk), rfl, Mr_of (by rw [s_M_about, if_neg c_4, if_neg c_5, if_neg c_6, if_neg c_7, if_neg c_8, if_neg c_9, if_neg c_10, if_neg c_11, if_pos c_14]), by rw [ht]; exact hP, va_K.moved hW.alike hK, hD⟩, hS.F ht⟩) hS.2.2 d_M_about_160
    by_cases c_15 : what = 9
    · refine lv_tableIn (off := 145) (tgt := 161) hx hb d_M_about_16 (by rw [c_15]; decide) (by rw [c_15]; decide) (by rw [c_15]; rfl) (by decide) ?_
      refine lv_aload_n hx hb d_M_about_161 rfl (lv_at hl 0 rfl) ?_
      refine pw_get (ci := 7) (v := .ref (bk (13))) hx hb hw i_M hown hK hP (0) (by decide) rfl rfl 14 (by decide) (hw _ kF_M_46) rfl d_M_about_162 ?_
      refine lv_iload_n hx hb d_M_about_165 rfl (lv_at hl 1 rfl) ?_
      refine pw_iald (n := 200) (f := (a 13)) hx hb hK hP 0 (13) (by decide) rfl rfl (j) rfl (by omega) (by decide) d_M_about_166 ?_
      exact W.iret (v := (a 13) (j)) hx hb hr (fun t ht hW => ⟨⟨(a 13) (j), (28, bk, MW cs 0 z a bk), rfl, Mr_of (by rw [s_M_about, if_neg c_4, if_neg c_5, if_neg c_6, if_neg c_7, if_neg c_8, if_neg c_9, if_neg c_10, if_neg c_11, if_neg c_14, if_pos c_15]), by rw [ht]; exact hP, va_K.moved hW.alike hK, hD⟩, hS.F ht⟩) hS.2.2 d_M_about_167
    by_cases c_16 : what = 10
    · refine lv_tableIn (off := 152) (tgt := 168) hx hb d_M_about_16 (by rw [c_16]; decide) (by rw [c_16]; decide) (by rw [c_16]; rfl) (by decide) ?_
      refine lv_aload_n hx hb d_M_about_168 rfl (lv_at hl 0 rfl) ?_
      refine pw_get (ci := 7) (v := .ref (bk (14))) hx hb hw i_M hown hK hP (0) (by decide) rfl rfl 15 (by decide) (hw _ kF_M_49) rfl d_M_about_169 ?_
      refine lv_iload_n hx hb d_M_about_172 rfl (lv_at hl 1 rfl) ?_
      refine pw_iald (n := 200) (f := (a 14)) hx hb hK hP 0 (14) (by decide) rfl rfl (j) rfl (by omega) (by decide) d_M_about_173 ?_
      exact W.iret (v := (a 14) (j)) hx hb hr (fun t ht hW => ⟨⟨(a 14) (j), (28, bk, MW cs 0 z a bk), rfl, Mr_of (by rw [s_M_about, if_neg c_4, if_neg c_5, if_neg c_6, if_neg c_7, if_neg c_8, if_neg c_9, if_neg c_10, if_neg c_11, if_neg c_14, if_neg c_15, if_pos c_16]), by rw [ht]; exact hP, va_K.moved hW.alike hK, hD⟩, hS.F ht⟩) hS.2.2 d_M_about_174
    refine lv_tableOut (tgt := 175) hx hb d_M_about_16 (by simp only [Int32.lt_iff_toInt_lt, Int32.le_iff_toInt_le, ← Int32.toInt_inj, T0, T1, T2, T3, T4, T5, T6, T7, T8, T9, T10, T40, T50, T99, T100, T199, T200, T999, T1000, T9999, T1000000, T10000000, T1000000000, Tm1] at c_4 c_5 c_6 c_7 c_8 c_9 c_10 c_11 c_14 c_15 c_16; omega) (by decide) ?_
    refine lv_iconst (v := -1) hx hb d_M_about_175 (by decide) ?_
    exact W.iret (v := -1) hx hb hr (fun t ht hW => ⟨⟨-1, (28, bk, MW cs 0 z a bk), rfl, Mr_of (by rw [s_M_about, if_neg c_4, if_neg c_5, if_neg c_6, if_neg c_7, if_neg c_8, if_neg c_9, if_neg c_10, if_neg c_11, if_neg c_14, if_neg c_15, if_neg c_16]), by rw [ht]; exact hP, va_K.moved hW.alike hK, hD⟩, hS.F ht⟩) hS.2.2 d_M_about_176
  · have c_3 : ¬ (0 ≤ (nI j) ∧ (nI j) < nI (z 0)) := c_3
    exact absurd ⟨nI_pos' (by omega), (nI_ltI (by omega) (by omega)).mpr hj⟩ c_3
def s_M_cost_out (th : Int32) (z : Nat → Nat) (a : Nat → Nat → Int32) (x : Int32) (more : Int32) : MS := (-1, 0, z, a)
set_option maxHeartbeats 4000000 in
set_option maxRecDepth 100000 in
theorem c_M_cost_out (l : Launch) (D : va_G) (cs : Nat → ClassId) (bk : Nat → Nat) (sz : Nat) (th : Int32) (z : Nat → Nat) (a : Nat → Nat → Int32) (hz : z 0 ≤ 200) (x : Int32) (ho : ¬ (0 ≤ x ∧ x < nI (z 0))) (more : Int32) : Met l y_M_cost w_M_cost ({ frames := 2, cells := 0, slots := 0, locals := 43 }) (va_Pc [.ref (bk (0)), .int (x), .int (more)] (PB D classes (TY cs) 28 bk (MW cs th z a bk) sz)) (va_Qi (Mr cs bk (s_M_cost_out th z a x more)) (Wd D classes (TY cs) (AA 28 bk sz)) (AA 28 bk sz)) 0 0 (AA 28 bk sz) := by
  refine pw_entry (cc := b_M_cost) (maxL := 3) (ret := (some .int)) (by decide +kernel) rfl (Nat.le_of_ble_eq_true rfl) ?_
  intro p_ e_ s m below_ meth_ c_ ls hx hb hr hml hts hown hlocks hin hsz hP hK hD hS hA hN hl
  have hw : ∀ w ∈ WA, w.before _ s = true := fun w h => hts w (List.mem_cons_of_mem _ h)
  have hown : s.vm.findClass "IssueRowsModel" = some m.cls := hown
  have hl : lv_has ls 3 [(0, .ref (bk (0))), (1, .int (x)), (2, .int (more))] := hl
  refine lv_aload_n hx hb d_M_cost_0 rfl (lv_at hl 0 rfl) ?_
  refine lv_iconst (v := 0) hx hb d_M_cost_1 (by decide) ?_
  refine pw_put (ci := 7) (v := .int (0)) (ty := .int) (fs' := [.int (0), .ref (bk (1)), .ref (bk (2)), .ref (bk (3)), .int (nI (z 0)), .ref (bk (4)), .ref (bk (5)), .ref (bk (6)), .ref (bk (7)), .ref (bk (8)), .ref (bk (9)), .ref (bk (10)), .ref (bk (11)), .ref (bk (12)), .ref (bk (13)), .ref (bk (14)), .ref (bk (15)), .ref (bk (16)), .ref (bk (17)), .ref (bk (18)), .ref (bk (19)), .ref (bk (20)), .int (nI (z 1)), .ref (bk (21)), .ref (bk (22)), .int (nI (z 2)), .int (nI (z 3)), .ref (bk (23)), .ref (bk (24)), .ref (bk (25)), .int (nI (z 4)), .ref (bk (26)), .ref (bk (27))]) hx hb hw i_M t_M t_M_ok n_M hown hK hP hD hS (0) (by decide) rfl rfl 0 (by decide) (hw _ kF_M_92) rfl (t_M_ok 0 (by decide)) rfl rfl (Nat.le_of_ble_eq_true rfl) rfl d_M_cost_2 (fun cw_1 H locs ecw_1 hP hD hS => ?_)
  obtain rfl : cw_1 = MW cs 0 z a bk := by rw [ecw_1]; exact MW_obj 0 z
  refine lv_aload_n hx hb d_M_cost_5 rfl (lv_at hl 0 rfl) ?_
  refine lv_iload_n hx hb d_M_cost_6 rfl (lv_at hl 1 rfl) ?_
  refine pw_callSi (va_runV (As := [.int (x)]) (rest := []) ⟨hx, hb, hml, hown, hw⟩ (c_M_isIssue l D cs bk H.size 0 z a hz x) (cw_V 1 hw kM_M_115 kI_M_isIssue kV_M_isIssue kZ_M kC_M_isIssue rfl rfl ⟨rfl, by decide, by decide, by decide +kernel⟩ ⟨Nat.le_of_ble_eq_true rfl, Nat.le_of_ble_eq_true rfl⟩) (pw_preV hN hK hP hD (0) (by decide) rfl rfl) rfl rfl hl.1 rfl (lv_room (Nat.le_of_ble_eq_true rfl)) d_M_cost_7 ⟨Nat.le_of_ble_eq_true rfl, Nat.le_of_ble_eq_true rfl⟩) (fun r_2 hr_2 => ?_)
  have hr_2 : r_2 = bI (0 ≤ x ∧ x < nI (z 0)) := hr_2
  subst hr_2
  refine pw_ifne (tgt := 15) hx hb d_M_cost_10 (by decide) (fun c_3 => ?_) (fun c_3 => ?_)
  · have c_3 : 0 ≤ x ∧ x < nI (z 0) := c_3
    exact absurd c_3 ho
  · have c_3 : ¬ (0 ≤ x ∧ x < nI (z 0)) := c_3
    refine lv_iconst (v := -1) hx hb d_M_cost_13 (by decide) ?_
    exact W.iret (v := -1) hx hb hr (fun t ht hW => ⟨⟨-1, (28, bk, MW cs 0 z a bk), rfl, Mr_of (by rw [s_M_cost_out]), by rw [ht]; exact hP, va_K.moved hW.alike hK, hD⟩, hS.F ht⟩) hS.2.2 d_M_cost_14
def s_M_cost (th : Int32) (z : Nat → Nat) (a : Nat → Nat → Int32) (j : Nat) (more : Int32) : MS := (if 0 ≤ more ∧ more ≤ 10000000 then (if (((a 14) (j)) + more) ≤ 1000000000 then ((upd (a 14) (j) (((a 14) (j)) + more)) (j), 0, z, va_up a 14 (upd (a 14) (j) (((a 14) (j)) + more))) else (-4, 0, z, a)) else (-2, 0, z, a))
set_option maxHeartbeats 4000000 in
set_option maxRecDepth 100000 in
theorem c_M_cost (l : Launch) (D : va_G) (cs : Nat → ClassId) (bk : Nat → Nat) (sz : Nat) (th : Int32) (z : Nat → Nat) (a : Nat → Nat → Int32) (hz : z 0 ≤ 200) (j : Nat) (hj : j < z 0) (more : Int32) : Met l y_M_cost w_M_cost ({ frames := 2, cells := 0, slots := 0, locals := 43 }) (va_Pc [.ref (bk (0)), .int (nI j), .int (more)] (PB D classes (TY cs) 28 bk (MW cs th z a bk) sz)) (va_Qi (Mr cs bk (s_M_cost th z a j more)) (Wd D classes (TY cs) (AA 28 bk sz)) (AA 28 bk sz)) 0 0 (AA 28 bk sz) := by
  refine pw_entry (cc := b_M_cost) (maxL := 3) (ret := (some .int)) (by decide +kernel) rfl (Nat.le_of_ble_eq_true rfl) ?_
  intro p_ e_ s m below_ meth_ c_ ls hx hb hr hml hts hown hlocks hin hsz hP hK hD hS hA hN hl
  have hw : ∀ w ∈ WA, w.before _ s = true := fun w h => hts w (List.mem_cons_of_mem _ h)
  have hown : s.vm.findClass "IssueRowsModel" = some m.cls := hown
  have hl : lv_has ls 3 [(0, .ref (bk (0))), (1, .int (nI j)), (2, .int (more))] := hl
  refine lv_aload_n hx hb d_M_cost_0 rfl (lv_at hl 0 rfl) ?_
  refine lv_iconst (v := 0) hx hb d_M_cost_1 (by decide) ?_
  refine pw_put (ci := 7) (v := .int (0)) (ty := .int) (fs' := [.int (0), .ref (bk (1)), .ref (bk (2)), .ref (bk (3)), .int (nI (z 0)), .ref (bk (4)), .ref (bk (5)), .ref (bk (6)), .ref (bk (7)), .ref (bk (8)), .ref (bk (9)), .ref (bk (10)), .ref (bk (11)), .ref (bk (12)), .ref (bk (13)), .ref (bk (14)), .ref (bk (15)), .ref (bk (16)), .ref (bk (17)), .ref (bk (18)), .ref (bk (19)), .ref (bk (20)), .int (nI (z 1)), .ref (bk (21)), .ref (bk (22)), .int (nI (z 2)), .int (nI (z 3)), .ref (bk (23)), .ref (bk (24)), .ref (bk (25)), .int (nI (z 4)), .ref (bk (26)), .ref (bk (27))]) hx hb hw i_M t_M t_M_ok n_M hown hK hP hD hS (0) (by decide) rfl rfl 0 (by decide) (hw _ kF_M_92) rfl (t_M_ok 0 (by decide)) rfl rfl (Nat.le_of_ble_eq_true rfl) rfl d_M_cost_2 (fun cw_1 H locs ecw_1 hP hD hS => ?_)
  obtain rfl : cw_1 = MW cs 0 z a bk := by rw [ecw_1]; exact MW_obj 0 z
  refine lv_aload_n hx hb d_M_cost_5 rfl (lv_at hl 0 rfl) ?_
  refine lv_iload_n hx hb d_M_cost_6 rfl (lv_at hl 1 rfl) ?_
  refine pw_callSi (va_runV (As := [.int (nI j)]) (rest := []) ⟨hx, hb, hml, hown, hw⟩ (c_M_isIssue l D cs bk H.size 0 z a hz (nI j)) (cw_V 1 hw kM_M_115 kI_M_isIssue kV_M_isIssue kZ_M kC_M_isIssue rfl rfl ⟨rfl, by decide, by decide, by decide +kernel⟩ ⟨Nat.le_of_ble_eq_true rfl, Nat.le_of_ble_eq_true rfl⟩) (pw_preV hN hK hP hD (0) (by decide) rfl rfl) rfl rfl hl.1 rfl (lv_room (Nat.le_of_ble_eq_true rfl)) d_M_cost_7 ⟨Nat.le_of_ble_eq_true rfl, Nat.le_of_ble_eq_true rfl⟩) (fun r_2 hr_2 => ?_)
  have hr_2 : r_2 = bI (0 ≤ (nI j) ∧ (nI j) < nI (z 0)) := hr_2
  subst hr_2
  refine pw_ifne (tgt := 15) hx hb d_M_cost_10 (by decide) (fun c_3 => ?_) (fun c_3 => ?_)
  · have c_3 : 0 ≤ (nI j) ∧ (nI j) < nI (z 0) := c_3
    refine lv_iload_n hx hb d_M_cost_15 rfl (lv_at hl 2 rfl) ?_
    refine lv_iconst (v := 0) hx hb d_M_cost_16 (by decide) ?_
    refine lv_ldc (v := 10000000) hx hb hown (hw _ kK_M_147) d_M_cost_17 ?_
    refine pw_callSi (va_runS (As := [.int (more), .int (0), .int (10000000)]) (rest := []) ⟨hx, hb, hml, hown, hw⟩ (c_M_in l D cs bk H.size 0 z a more 0 10000000) (cw_S 3 hw kM_M_97 kS_M_in kZ_M kC_M_in rfl rfl ⟨rfl, by decide, by decide, by decide +kernel⟩ ⟨Nat.le_of_ble_eq_true rfl, Nat.le_of_ble_eq_true rfl⟩) (pw_preS hN hK hP hD) rfl rfl hl.1 rfl (lv_room (Nat.le_of_ble_eq_true rfl)) d_M_cost_19 ⟨Nat.le_of_ble_eq_true rfl, Nat.le_of_ble_eq_true rfl⟩) (fun r_4 hr_4 => ?_)
    have hr_4 : r_4 = bI (0 ≤ more ∧ more ≤ 10000000) := hr_4
    subst hr_4
    refine pw_ifne (tgt := 28) hx hb d_M_cost_22 (by decide) (fun c_5 => ?_) (fun c_5 => ?_)
    · have c_5 : 0 ≤ more ∧ more ≤ 10000000 := c_5
      refine lv_aload_n hx hb d_M_cost_28 rfl (lv_at hl 0 rfl) ?_
      refine pw_get (ci := 7) (v := .ref (bk (14))) hx hb hw i_M hown hK hP (0) (by decide) rfl rfl 15 (by decide) (hw _ kF_M_49) rfl d_M_cost_29 ?_
      refine lv_iload_n hx hb d_M_cost_32 rfl (lv_at hl 1 rfl) ?_
      refine pw_iald (n := 200) (f := (a 14)) hx hb hK hP 0 (14) (by decide) rfl rfl (j) rfl (by omega) (by decide) d_M_cost_33 ?_
      refine lv_iload_n hx hb d_M_cost_34 rfl (lv_at hl 2 rfl) ?_
      refine lv_iadd hx hb d_M_cost_35 ?_
      refine lv_ldc (v := 1000000000) hx hb hown (hw _ kK_M_148) d_M_cost_36 ?_
      refine lv_icmp_le (tgt := 44) hx hb d_M_cost_38 (by decide) (fun c_6 => ?_) (fun c_6 => ?_)
      · have c_6 : (((a 14) (j)) + more) ≤ 1000000000 := c_6
        refine lv_aload_n hx hb d_M_cost_44 rfl (lv_at hl 0 rfl) ?_
        refine pw_get (ci := 7) (v := .ref (bk (14))) hx hb hw i_M hown hK hP (0) (by decide) rfl rfl 15 (by decide) (hw _ kF_M_49) rfl d_M_cost_45 ?_
        refine lv_iload_n hx hb d_M_cost_48 rfl (lv_at hl 1 rfl) ?_
        refine lv_dup2_11 hx hb d_M_cost_49 rfl rfl ?_
        refine pw_iald (n := 200) (f := (a 14)) hx hb hK hP 0 (14) (by decide) rfl rfl (j) rfl (by omega) (by decide) d_M_cost_50 ?_
        refine lv_iload_n hx hb d_M_cost_51 rfl (lv_at hl 2 rfl) ?_
        refine lv_iadd hx hb d_M_cost_52 ?_
        refine pw_iast (n := 200) (f := (a 14)) hx hb hK hP hD hS 0 (14) (by decide) rfl rfl (j) rfl (by omega) (by decide) d_M_cost_53 (fun cw_7 H locs ecw_7 hP hD hS => ?_)
        obtain rfl : cw_7 = MW cs 0 z (va_up a 14 (upd (a 14) (j) (((a 14) (j)) + more))) bk := by rw [ecw_7]; exact MW_arr 14 (by decide) (upd (a 14) (j) (((a 14) (j)) + more))
        refine lv_aload_n hx hb d_M_cost_54 rfl (lv_at hl 0 rfl) ?_
        refine pw_get (ci := 7) (v := .ref (bk (14))) hx hb hw i_M hown hK hP (0) (by decide) rfl rfl 15 (by decide) (hw _ kF_M_49) rfl d_M_cost_55 ?_
        refine lv_iload_n hx hb d_M_cost_58 rfl (lv_at hl 1 rfl) ?_
        refine pw_iald (n := 200) (f := (upd (a 14) (j) (((a 14) (j)) + more))) hx hb hK hP 0 (14) (by decide) rfl rfl (j) rfl (by omega) (by decide) d_M_cost_59 ?_
        exact W.iret (v := (upd (a 14) (j) (((a 14) (j)) + more)) (j)) hx hb hr (fun t ht hW => ⟨⟨(upd (a 14) (j) (((a 14) (j)) + more)) (j), (28, bk, MW cs 0 z (va_up a 14 (upd (a 14) (j) (((a 14) (j)) + more))) bk), rfl, Mr_of (by rw [s_M_cost, if_pos c_5, if_pos c_6]), by rw [ht]; exact hP, va_K.moved hW.alike hK, hD⟩, hS.F ht⟩) hS.2.2 d_M_cost_60
      · have c_6 : ¬ (((a 14) (j)) + more) ≤ 1000000000 := c_6
        refine lv_bipush (v := -4) hx hb d_M_cost_41 (by decide) ?_
        exact W.iret (v := -4) hx hb hr (fun t ht hW => ⟨⟨-4, (28, bk, MW cs 0 z a bk), rfl, Mr_of (by rw [s_M_cost, if_pos c_5, if_neg c_6]), by rw [ht]; exact hP, va_K.moved hW.alike hK, hD⟩, hS.F ht⟩) hS.2.2 d_M_cost_43
    · have c_5 : ¬ (0 ≤ more ∧ more ≤ 10000000) := c_5
      refine lv_bipush (v := -2) hx hb d_M_cost_25 (by decide) ?_
      exact W.iret (v := -2) hx hb hr (fun t ht hW => ⟨⟨-2, (28, bk, MW cs 0 z a bk), rfl, Mr_of (by rw [s_M_cost, if_neg c_5]), by rw [ht]; exact hP, va_K.moved hW.alike hK, hD⟩, hS.F ht⟩) hS.2.2 d_M_cost_27
  · have c_3 : ¬ (0 ≤ (nI j) ∧ (nI j) < nI (z 0)) := c_3
    exact absurd ⟨nI_pos' (by omega), (nI_ltI (by omega) (by omega)).mpr hj⟩ c_3
set_option maxHeartbeats 4000000 in
set_option maxRecDepth 100000 in
theorem c_M_thrown (l : Launch) (D : va_G) (cs : Nat → ClassId) (bk : Nat → Nat) (sz : Nat) (th : Int32) (z : Nat → Nat) (a : Nat → Nat → Int32)  : Met l y_M_thrown w_M_thrown ({ frames := 0, cells := 0, slots := 0, locals := 0 }) (va_Pc [.ref (bk (0))] (PB D classes (TY cs) 28 bk (MW cs th z a bk) sz)) (vp_Si (fun r => r = th)) 0 0 (fun _ => False) := by
  refine pw_entry (cc := b_M_thrown) (maxL := 1) (ret := (some .int)) (by decide +kernel) rfl (Nat.le_of_ble_eq_true rfl) ?_
  intro p_ e_ s m below_ meth_ c_ ls hx hb hr hml hts hown hlocks hin hsz hP hK hD hS hA hN hl
  have hw : ∀ w ∈ WA, w.before _ s = true := fun w h => hts w (List.mem_cons_of_mem _ h)
  have hown : s.vm.findClass "IssueRowsModel" = some m.cls := hown
  have hl : lv_has ls 1 [(0, .ref (bk (0)))] := hl
  refine lv_aload_n hx hb d_M_thrown_0 rfl (lv_at hl 0 rfl) ?_
  refine pw_get (ci := 7) (v := .int (th)) hx hb hw i_M hown hK hP (0) (by decide) rfl rfl 0 (by decide) (hw _ kF_M_92) rfl d_M_thrown_1 ?_
  exact W.iret (v := th) hx hb hr (fun t ht hW => ⟨th, rfl, rfl, ht⟩) (fun q h => by cases h) d_M_thrown_4
end
section
theorem zz_last : 1 = 1 := rfl
end
