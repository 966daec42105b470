def R_X : String := "IssueRows"
def F_X : u_T := fun k => match k with
  | 0 => ("IssueRows", "rules", "[LIssueRows$Rule;", true)
  | 1 => ("IssueRows", "issues", "[LIssueRows$Issue;", true)
  | 2 => ("IssueRows", "byOrdinal", "[LIssueRows$Issue;", true)
  | 3 => ("IssueRows", "issueCount", "I", false)
  | 4 => ("IssueRows", "round", "LIssueRows$Pairs;", true)
  | 5 => ("IssueRows", "notes", "LIssueRows$Pairs;", true)
  | 6 => ("IssueRows", "volumes", "LIssueRows$Volumes;", true)
  | _ => ("IssueRows", "latest", "LIssueRows$Statement;", true)
def t_X : Nat → FieldType := fun k => match k with
  | 0 => .array (.object "IssueRows$Rule")
  | 1 => .array (.object "IssueRows$Issue")
  | 2 => .array (.object "IssueRows$Issue")
  | 3 => .int
  | 4 => .object "IssueRows$Pairs"
  | 5 => .object "IssueRows$Pairs"
  | 6 => .object "IssueRows$Volumes"
  | _ => .object "IssueRows$Statement"
theorem n_X : ∀ a, a < 8 → ∀ b, b < 8 → a ≠ b → (F_X a).2.1 ≠ (F_X b).2.1 := by decide +kernel
theorem t_X_ok : ∀ k, k < 8 → parseFieldDescriptor (F_X k).2.2.1 = some (t_X k) := by decide +kernel
def R_U : String := "IssueRows$Rule"
def F_U : u_T := fun k => match k with
  | 0 => ("IssueRows$Rule", "first", "I", false)
  | 1 => ("IssueRows$Rule", "again", "I", false)
  | _ => ("IssueRows$Rule", "most", "I", false)
def t_U : Nat → FieldType := fun k => match k with
  | 0 => .int
  | 1 => .int
  | _ => .int
theorem n_U : ∀ a, a < 3 → ∀ b, b < 3 → a ≠ b → (F_U a).2.1 ≠ (F_U b).2.1 := by decide +kernel
theorem t_U_ok : ∀ k, k < 3 → parseFieldDescriptor (F_U k).2.2.1 = some (t_U k) := by decide +kernel
def R_I : String := "IssueRows$Issue"
def F_I : u_T := fun k => match k with
  | 0 => ("IssueRows$Issue", "number", "I", true)
  | 1 => ("IssueRows$Issue", "pattern", "I", true)
  | 2 => ("IssueRows$Issue", "ordinal", "I", true)
  | 3 => ("IssueRows$Issue", "expected", "I", true)
  | 4 => ("IssueRows$Issue", "replacement", "Z", true)
  | 5 => ("IssueRows$Issue", "routing", "LIssueRows$Routing;", true)
  | 6 => ("IssueRows$Issue", "state", "I", false)
  | 7 => ("IssueRows$Issue", "claims", "I", false)
  | 8 => ("IssueRows$Issue", "claimedOn", "I", false)
  | 9 => ("IssueRows$Issue", "copies", "I", false)
  | 10 => ("IssueRows$Issue", "came", "I", false)
  | 11 => ("IssueRows$Issue", "volume", "I", false)
  | 12 => ("IssueRows$Issue", "replacedBy", "I", false)
  | _ => ("IssueRows$Issue", "cents", "I", false)
def t_I : Nat → FieldType := fun k => match k with
  | 0 => .int
  | 1 => .int
  | 2 => .int
  | 3 => .int
  | 4 => .boolean
  | 5 => .object "IssueRows$Routing"
  | 6 => .int
  | 7 => .int
  | 8 => .int
  | 9 => .int
  | 10 => .int
  | 11 => .int
  | 12 => .int
  | _ => .int
theorem n_I : ∀ a, a < 14 → ∀ b, b < 14 → a ≠ b → (F_I a).2.1 ≠ (F_I b).2.1 := by decide +kernel
theorem t_I_ok : ∀ k, k < 14 → parseFieldDescriptor (F_I k).2.2.1 = some (t_I k) := by decide +kernel
def R_G : String := "IssueRows$Routing"
def F_G : u_T := fun k => match k with
  | 0 => ("IssueRows$Routing", "persons", "[I", true)
  | 1 => ("IssueRows$Routing", "days", "[I", true)
  | 2 => ("IssueRows$Routing", "size", "I", false)
  | 3 => ("IssueRows$Routing", "place", "I", false)
  | _ => ("IssueRows$Routing", "since", "I", false)
def t_G : Nat → FieldType := fun k => match k with
  | 0 => .array .int
  | 1 => .array .int
  | 2 => .int
  | 3 => .int
  | _ => .int
theorem n_G : ∀ a, a < 5 → ∀ b, b < 5 → a ≠ b → (F_G a).2.1 ≠ (F_G b).2.1 := by decide +kernel
theorem t_G_ok : ∀ k, k < 5 → parseFieldDescriptor (F_G k).2.2.1 = some (t_G k) := by decide +kernel
def R_P : String := "IssueRows$Pairs"
def F_P : u_T := fun k => match k with
  | 0 => ("IssueRows$Pairs", "firsts", "[I", true)
  | 1 => ("IssueRows$Pairs", "seconds", "[I", true)
  | _ => ("IssueRows$Pairs", "size", "I", false)
def t_P : Nat → FieldType := fun k => match k with
  | 0 => .array .int
  | 1 => .array .int
  | _ => .int
theorem n_P : ∀ a, a < 3 → ∀ b, b < 3 → a ≠ b → (F_P a).2.1 ≠ (F_P b).2.1 := by decide +kernel
theorem t_P_ok : ∀ k, k < 3 → parseFieldDescriptor (F_P k).2.2.1 = some (t_P k) := by decide +kernel
def R_V : String := "IssueRows$Volumes"
def F_V : u_T := fun k => match k with
  | 0 => ("IssueRows$Volumes", "members", "[I", true)
  | 1 => ("IssueRows$Volumes", "ends", "[I", true)
  | _ => ("IssueRows$Volumes", "count", "I", false)
def t_V : Nat → FieldType := fun k => match k with
  | 0 => .array .int
  | 1 => .array .int
  | _ => .int
theorem n_V : ∀ a, a < 3 → ∀ b, b < 3 → a ≠ b → (F_V a).2.1 ≠ (F_V b).2.1 := by decide +kernel
theorem t_V_ok : ∀ k, k < 3 → parseFieldDescriptor (F_V k).2.2.1 = some (t_V k) := by decide +kernel
def R_S : String := "IssueRows$Statement"
def F_S : u_T := fun k => match k with
  | 0 => ("IssueRows$Statement", "firsts", "[I", true)
  | 1 => ("IssueRows$Statement", "lasts", "[I", true)
  | 2 => ("IssueRows$Statement", "counts", "[I", true)
  | _ => ("IssueRows$Statement", "size", "I", false)
def t_S : Nat → FieldType := fun k => match k with
  | 0 => .array .int
  | 1 => .array .int
  | 2 => .array .int
  | _ => .int
theorem n_S : ∀ a, a < 4 → ∀ b, b < 4 → a ≠ b → (F_S a).2.1 ≠ (F_S b).2.1 := by decide +kernel
theorem t_S_ok : ∀ k, k < 4 → parseFieldDescriptor (F_S k).2.2.1 = some (t_S k) := by decide +kernel
def R_M : String := "IssueRowsModel"
def F_M : u_T := fun k => match k with
  | 0 => ("IssueRowsModel", "thrown", "I", false)
  | 1 => ("IssueRowsModel", "first", "[I", true)
  | 2 => ("IssueRowsModel", "again", "[I", true)
  | 3 => ("IssueRowsModel", "most", "[I", true)
  | 4 => ("IssueRowsModel", "issues", "I", false)
  | 5 => ("IssueRowsModel", "pattern", "[I", true)
  | 6 => ("IssueRowsModel", "ordinal", "[I", true)
  | 7 => ("IssueRowsModel", "state", "[I", true)
  | 8 => ("IssueRowsModel", "expected", "[I", true)
  | 9 => ("IssueRowsModel", "claims", "[I", true)
  | 10 => ("IssueRowsModel", "claimDay", "[I", true)
  | 11 => ("IssueRowsModel", "copies", "[I", true)
  | 12 => ("IssueRowsModel", "came", "[I", true)
  | 13 => ("IssueRowsModel", "volumeOf", "[I", true)
  | 14 => ("IssueRowsModel", "replacedBy", "[I", true)
  | 15 => ("IssueRowsModel", "cents", "[I", true)
  | 16 => ("IssueRowsModel", "replaces", "[Z", true)
  | 17 => ("IssueRowsModel", "rowSize", "[I", true)
  | 18 => ("IssueRowsModel", "person", "[I", true)
  | 19 => ("IssueRowsModel", "personDays", "[I", true)
  | 20 => ("IssueRowsModel", "holder", "[I", true)
  | 21 => ("IssueRowsModel", "holderFrom", "[I", true)
  | 22 => ("IssueRowsModel", "round", "I", false)
  | 23 => ("IssueRowsModel", "roundIssue", "[I", true)
  | 24 => ("IssueRowsModel", "roundClaims", "[I", true)
  | 25 => ("IssueRowsModel", "volumes", "I", false)
  | 26 => ("IssueRowsModel", "rows", "I", false)
  | 27 => ("IssueRowsModel", "rowFirst", "[I", true)
  | 28 => ("IssueRowsModel", "rowLast", "[I", true)
  | 29 => ("IssueRowsModel", "rowMany", "[I", true)
  | 30 => ("IssueRowsModel", "notes", "I", false)
  | 31 => ("IssueRowsModel", "note", "[I", true)
  | _ => ("IssueRowsModel", "noteIssue", "[I", true)
def t_M : Nat → FieldType := fun k => match k with
  | 0 => .int
  | 1 => .array .int
  | 2 => .array .int
  | 3 => .array .int
  | 4 => .int
  | 5 => .array .int
  | 6 => .array .int
  | 7 => .array .int
  | 8 => .array .int
  | 9 => .array .int
  | 10 => .array .int
  | 11 => .array .int
  | 12 => .array .int
  | 13 => .array .int
  | 14 => .array .int
  | 15 => .array .int
  | 16 => .array .boolean
  | 17 => .array .int
  | 18 => .array .int
  | 19 => .array .int
  | 20 => .array .int
  | 21 => .array .int
  | 22 => .int
  | 23 => .array .int
  | 24 => .array .int
  | 25 => .int
  | 26 => .int
  | 27 => .array .int
  | 28 => .array .int
  | 29 => .array .int
  | 30 => .int
  | 31 => .array .int
  | _ => .array .int
theorem n_M : ∀ a, a < 33 → ∀ b, b < 33 → a ≠ b → (F_M a).2.1 ≠ (F_M b).2.1 := by decide +kernel
theorem t_M_ok : ∀ k, k < 33 → parseFieldDescriptor (F_M k).2.2.1 = some (t_M k) := by decide +kernel
def R_L : String := "IssueRowsLaw"
abbrev classes : List vw_C := [(R_X, F_X, 8), (R_U, F_U, 3), (R_I, F_I, 14), (R_G, F_G, 5), (R_P, F_P, 3), (R_V, F_V, 3), (R_S, F_S, 4), (R_M, F_M, 33)]
abbrev b_X_init : ByteArray := prog_1_method_1_code
abbrev y_X_init : MethodName := ⟨"IssueRows", "<init>", "()V"⟩
abbrev w_X_init : List Cond := .code y_X_init b_X_init 2 none :: WA
abbrev b_O_init : ByteArray := object_method_1_code
abbrev y_O_init : MethodName := ⟨"java/lang/Object", "<init>", "()V"⟩
abbrev w_O_init : List Cond := .code y_O_init b_O_init 1 none :: WA
abbrev b_P_init : ByteArray := prog_3_method_1_code
abbrev y_P_init : MethodName := ⟨"IssueRows$Pairs", "<init>", "(I)V"⟩
abbrev w_P_init : List Cond := .code y_P_init b_P_init 3 none :: WA
abbrev b_H_max : ByteArray := prog_12_method_65_code
abbrev y_H_max : MethodName := ⟨"java/lang/Math", "max", "(II)I"⟩
abbrev w_H_max : List Cond := .code y_H_max b_H_max 2 (some .int) :: WA
abbrev b_V_init : ByteArray := prog_7_method_1_code
abbrev y_V_init : MethodName := ⟨"IssueRows$Volumes", "<init>", "()V"⟩
abbrev w_V_init : List Cond := .code y_V_init b_V_init 1 none :: WA
abbrev b_S_init : ByteArray := prog_6_method_1_code
abbrev y_S_init : MethodName := ⟨"IssueRows$Statement", "<init>", "()V"⟩
abbrev w_S_init : List Cond := .code y_S_init b_S_init 1 none :: WA
abbrev b_U_init : ByteArray := prog_5_method_1_code
abbrev y_U_init : MethodName := ⟨"IssueRows$Rule", "<init>", "()V"⟩
abbrev w_U_init : List Cond := .code y_U_init b_U_init 1 none :: WA
abbrev b_X_rule : ByteArray := prog_1_method_2_code
abbrev y_X_rule : MethodName := ⟨"IssueRows", "rule", "(IIII)I"⟩
abbrev w_X_rule : List Cond := .code y_X_rule b_X_rule 6 (some .int) :: WA
abbrev b_X_isPattern : ByteArray := prog_1_method_20_code
abbrev y_X_isPattern : MethodName := ⟨"IssueRows", "isPattern", "(I)Z"⟩
abbrev w_X_isPattern : List Cond := .code y_X_isPattern b_X_isPattern 1 (some .boolean) :: WA
abbrev b_X_within : ByteArray := prog_1_method_19_code
abbrev y_X_within : MethodName := ⟨"IssueRows", "within", "(III)Z"⟩
abbrev w_X_within : List Cond := .code y_X_within b_X_within 3 (some .boolean) :: WA
abbrev b_X_issue : ByteArray := prog_1_method_3_code
abbrev y_X_issue : MethodName := ⟨"IssueRows", "issue", "(III)I"⟩
abbrev w_X_issue : List Cond := .code y_X_issue b_X_issue 5 (some .int) :: WA
abbrev b_X_isDay : ByteArray := prog_1_method_21_code
abbrev y_X_isDay : MethodName := ⟨"IssueRows", "isDay", "(I)Z"⟩
abbrev w_X_isDay : List Cond := .code y_X_isDay b_X_isDay 1 (some .boolean) :: WA
abbrev b_X_hasOrdinal : ByteArray := prog_1_method_23_code
abbrev y_X_hasOrdinal : MethodName := ⟨"IssueRows", "hasOrdinal", "(II)Z"⟩
abbrev w_X_hasOrdinal : List Cond := .code y_X_hasOrdinal b_X_hasOrdinal 4 (some .boolean) :: WA
abbrev b_I_init : ByteArray := prog_2_method_1_code
abbrev y_I_init : MethodName := ⟨"IssueRows$Issue", "<init>", "(IIIIZ)V"⟩
abbrev w_I_init : List Cond := .code y_I_init b_I_init 6 none :: WA
abbrev b_G_init : ByteArray := prog_4_method_1_code
abbrev y_G_init : MethodName := ⟨"IssueRows$Routing", "<init>", "()V"⟩
abbrev w_G_init : List Cond := .code y_G_init b_G_init 1 none :: WA
abbrev b_X_keep : ByteArray := prog_1_method_24_code
abbrev y_X_keep : MethodName := ⟨"IssueRows", "keep", "(LIssueRows$Issue;)V"⟩
abbrev w_X_keep : List Cond := .code y_X_keep b_X_keep 3 none :: WA
abbrev b_X_checkIn : ByteArray := prog_1_method_4_code
abbrev y_X_checkIn : MethodName := ⟨"IssueRows", "checkIn", "(III)I"⟩
abbrev w_X_checkIn : List Cond := .code y_X_checkIn b_X_checkIn 6 (some .int) :: WA
abbrev b_X_find : ByteArray := prog_1_method_22_code
abbrev y_X_find : MethodName := ⟨"IssueRows", "find", "(I)LIssueRows$Issue;"⟩
abbrev w_X_find : List Cond := .code y_X_find b_X_find 2 (some (.object "IssueRows$Issue")) :: WA
abbrev b_I_isAwaited : ByteArray := prog_2_method_2_code
abbrev y_I_isAwaited : MethodName := ⟨"IssueRows$Issue", "isAwaited", "()Z"⟩
abbrev w_I_isAwaited : List Cond := .code y_I_isAwaited b_I_isAwaited 1 (some .boolean) :: WA
abbrev b_P_add : ByteArray := prog_3_method_3_code
abbrev y_P_add : MethodName := ⟨"IssueRows$Pairs", "add", "(II)V"⟩
abbrev w_P_add : List Cond := .code y_P_add b_P_add 3 none :: WA
abbrev b_I_arrive : ByteArray := prog_2_method_5_code
abbrev y_I_arrive : MethodName := ⟨"IssueRows$Issue", "arrive", "(II)V"⟩
abbrev w_I_arrive : List Cond := .code y_I_arrive b_I_arrive 3 none :: WA
abbrev b_X_claim : ByteArray := prog_1_method_5_code
abbrev y_X_claim : MethodName := ⟨"IssueRows", "claim", "(I)I"⟩
abbrev w_X_claim : List Cond := .code y_X_claim b_X_claim 3 (some .int) :: WA
abbrev b_P_clear : ByteArray := prog_3_method_2_code
abbrev y_P_clear : MethodName := ⟨"IssueRows$Pairs", "clear", "()V"⟩
abbrev w_P_clear : List Cond := .code y_P_clear b_P_clear 1 none :: WA
abbrev b_X_claimIfDue : ByteArray := prog_1_method_25_code
abbrev y_X_claimIfDue : MethodName := ⟨"IssueRows", "claimIfDue", "(LIssueRows$Issue;I)V"⟩
abbrev w_X_claimIfDue : List Cond := .code y_X_claimIfDue b_X_claimIfDue 4 none :: WA
abbrev b_U_isDue : ByteArray := prog_5_method_2_code
abbrev y_U_isDue : MethodName := ⟨"IssueRows$Rule", "isDue", "(LIssueRows$Issue;I)Z"⟩
abbrev w_U_isDue : List Cond := .code y_U_isDue b_U_isDue 3 (some .boolean) :: WA
abbrev b_I_claimOn : ByteArray := prog_2_method_6_code
abbrev y_I_claimOn : MethodName := ⟨"IssueRows$Issue", "claimOn", "(I)V"⟩
abbrev w_I_claimOn : List Cond := .code y_I_claimOn b_I_claimOn 2 none :: WA
abbrev b_X_list : ByteArray := prog_1_method_7_code
abbrev y_X_list : MethodName := ⟨"IssueRows", "list", "(III)I"⟩
abbrev w_X_list : List Cond := .code y_X_list b_X_list 5 (some .int) :: WA
abbrev b_G_isStarted : ByteArray := prog_4_method_3_code
abbrev y_G_isStarted : MethodName := ⟨"IssueRows$Routing", "isStarted", "()Z"⟩
abbrev w_G_isStarted : List Cond := .code y_G_isStarted b_G_isStarted 1 (some .boolean) :: WA
abbrev b_G_isFull : ByteArray := prog_4_method_2_code
abbrev y_G_isFull : MethodName := ⟨"IssueRows$Routing", "isFull", "()Z"⟩
abbrev w_G_isFull : List Cond := .code y_G_isFull b_G_isFull 1 (some .boolean) :: WA
abbrev b_G_add : ByteArray := prog_4_method_7_code
abbrev y_G_add : MethodName := ⟨"IssueRows$Routing", "add", "(II)V"⟩
abbrev w_G_add : List Cond := .code y_G_add b_G_add 3 none :: WA
abbrev b_X_route : ByteArray := prog_1_method_8_code
abbrev y_X_route : MethodName := ⟨"IssueRows", "route", "(II)I"⟩
abbrev w_X_route : List Cond := .code y_X_route b_X_route 4 (some .int) :: WA
abbrev b_G_passOn : ByteArray := prog_4_method_8_code
abbrev y_G_passOn : MethodName := ⟨"IssueRows$Routing", "passOn", "(I)V"⟩
abbrev w_G_passOn : List Cond := .code y_G_passOn b_G_passOn 2 none :: WA
abbrev b_G_holder : ByteArray := prog_4_method_6_code
abbrev y_G_holder : MethodName := ⟨"IssueRows$Routing", "holder", "()I"⟩
abbrev w_G_holder : List Cond := .code y_G_holder b_G_holder 1 (some .int) :: WA
abbrev b_G_isOut : ByteArray := prog_4_method_4_code
abbrev y_G_isOut : MethodName := ⟨"IssueRows$Routing", "isOut", "()Z"⟩
abbrev w_G_isOut : List Cond := .code y_G_isOut b_G_isOut 1 (some .boolean) :: WA
abbrev b_X_returned : ByteArray := prog_1_method_9_code
abbrev y_X_returned : MethodName := ⟨"IssueRows", "returned", "(II)I"⟩
abbrev w_X_returned : List Cond := .code y_X_returned b_X_returned 5 (some .int) :: WA
abbrev b_G_isLate : ByteArray := prog_4_method_5_code
abbrev y_G_isLate : MethodName := ⟨"IssueRows$Routing", "isLate", "(I)Z"⟩
abbrev w_G_isLate : List Cond := .code y_G_isLate b_G_isLate 2 (some .boolean) :: WA
abbrev b_X_replace : ByteArray := prog_1_method_10_code
abbrev y_X_replace : MethodName := ⟨"IssueRows", "replace", "(II)I"⟩
abbrev w_X_replace : List Cond := .code y_X_replace b_X_replace 5 (some .int) :: WA
abbrev b_I_isReplaceable : ByteArray := prog_2_method_4_code
abbrev y_I_isReplaceable : MethodName := ⟨"IssueRows$Issue", "isReplaceable", "()Z"⟩
abbrev w_I_isReplaceable : List Cond := .code y_I_isReplaceable b_I_isReplaceable 1 (some .boolean) :: WA
abbrev b_X_bind : ByteArray := prog_1_method_11_code
abbrev y_X_bind : MethodName := ⟨"IssueRows", "bind", "(II)I"⟩
abbrev w_X_bind : List Cond := .code y_X_bind b_X_bind 3 (some .int) :: WA
abbrev b_X_isBindable : ByteArray := prog_1_method_26_code
abbrev y_X_isBindable : MethodName := ⟨"IssueRows", "isBindable", "(II)Z"⟩
abbrev w_X_isBindable : List Cond := .code y_X_isBindable b_X_isBindable 6 (some .boolean) :: WA
abbrev b_V_isFull : ByteArray := prog_7_method_2_code
abbrev y_V_isFull : MethodName := ⟨"IssueRows$Volumes", "isFull", "()Z"⟩
abbrev w_V_isFull : List Cond := .code y_V_isFull b_V_isFull 1 (some .boolean) :: WA
abbrev b_X_bindNext : ByteArray := prog_1_method_27_code
abbrev y_X_bindNext : MethodName := ⟨"IssueRows", "bindNext", "(II)I"⟩
abbrev w_X_bindNext : List Cond := .code y_X_bindNext b_X_bindNext 7 (some .int) :: WA
abbrev b_V_open : ByteArray := prog_7_method_3_code
abbrev y_V_open : MethodName := ⟨"IssueRows$Volumes", "open", "()I"⟩
abbrev w_V_open : List Cond := .code y_V_open b_V_open 1 (some .int) :: WA
abbrev b_V_add : ByteArray := prog_7_method_4_code
abbrev y_V_add : MethodName := ⟨"IssueRows$Volumes", "add", "(I)V"⟩
abbrev w_V_add : List Cond := .code y_V_add b_V_add 2 none :: WA
abbrev b_X_statement : ByteArray := prog_1_method_13_code
abbrev y_X_statement : MethodName := ⟨"IssueRows", "statement", "(I)I"⟩
abbrev w_X_statement : List Cond := .code y_X_statement b_X_statement 5 (some .int) :: WA
abbrev b_S_clear : ByteArray := prog_6_method_2_code
abbrev y_S_clear : MethodName := ⟨"IssueRows$Statement", "clear", "()V"⟩
abbrev w_S_clear : List Cond := .code y_S_clear b_S_clear 1 none :: WA
abbrev b_I_isThere : ByteArray := prog_2_method_3_code
abbrev y_I_isThere : MethodName := ⟨"IssueRows$Issue", "isThere", "()Z"⟩
abbrev w_I_isThere : List Cond := .code y_I_isThere b_I_isThere 1 (some .boolean) :: WA
abbrev b_S_add : ByteArray := prog_6_method_3_code
abbrev y_S_add : MethodName := ⟨"IssueRows$Statement", "add", "(IZ)V"⟩
abbrev w_S_add : List Cond := .code y_S_add b_S_add 3 none :: WA
abbrev b_X_about : ByteArray := prog_1_method_15_code
abbrev y_X_about : MethodName := ⟨"IssueRows", "about", "(II)I"⟩
abbrev w_X_about : List Cond := .code y_X_about b_X_about 4 (some .int) :: WA
abbrev b_I_part : ByteArray := prog_2_method_8_code
abbrev y_I_part : MethodName := ⟨"IssueRows$Issue", "part", "(I)I"⟩
abbrev w_I_part : List Cond := .code y_I_part b_I_part 2 (some .int) :: WA
abbrev b_X_cost : ByteArray := prog_1_method_16_code
abbrev y_X_cost : MethodName := ⟨"IssueRows", "cost", "(II)I"⟩
abbrev w_X_cost : List Cond := .code y_X_cost b_X_cost 4 (some .int) :: WA
abbrev b_X_told : ByteArray := prog_1_method_17_code
abbrev y_X_told : MethodName := ⟨"IssueRows", "told", "(II)I"⟩
abbrev w_X_told : List Cond := .code y_X_told b_X_told 3 (some .int) :: WA
abbrev b_P_has : ByteArray := prog_3_method_4_code
abbrev y_P_has : MethodName := ⟨"IssueRows$Pairs", "has", "(II)Z"⟩
abbrev w_P_has : List Cond := .code y_P_has b_P_has 3 (some .boolean) :: WA
abbrev b_P_part : ByteArray := prog_3_method_5_code
abbrev y_P_part : MethodName := ⟨"IssueRows$Pairs", "part", "(II)I"⟩
abbrev w_P_part : List Cond := .code y_P_part b_P_part 3 (some .int) :: WA
abbrev b_X_lateness : ByteArray := prog_1_method_18_code
abbrev y_X_lateness : MethodName := ⟨"IssueRows", "lateness", "(I)I"⟩
abbrev w_X_lateness : List Cond := .code y_X_lateness b_X_lateness 4 (some .int) :: WA
abbrev b_I_daysLate : ByteArray := prog_2_method_7_code
abbrev y_I_daysLate : MethodName := ⟨"IssueRows$Issue", "daysLate", "()I"⟩
abbrev w_I_daysLate : List Cond := .code y_I_daysLate b_I_daysLate 2 (some .int) :: WA
abbrev b_X_claimed : ByteArray := prog_1_method_6_code
abbrev y_X_claimed : MethodName := ⟨"IssueRows", "claimed", "(II)I"⟩
abbrev w_X_claimed : List Cond := .code y_X_claimed b_X_claimed 3 (some .int) :: WA
abbrev b_T_init : ByteArray := prog_15_method_1_code
abbrev y_T_init : MethodName := ⟨"java/lang/Throwable", "<init>", "()V"⟩
abbrev w_T_init : List Cond := .code y_T_init b_T_init 1 none :: WA
abbrev b_A_init : ByteArray := prog_11_method_2_code
abbrev y_A_init : MethodName := ⟨"java/lang/IndexOutOfBoundsException", "<init>", "(Ljava/lang/String;)V"⟩
abbrev w_A_init : List Cond := .code y_A_init b_A_init 2 none :: WA
abbrev b_B_init : ByteArray := prog_13_method_2_code
abbrev y_B_init : MethodName := ⟨"java/lang/RuntimeException", "<init>", "(Ljava/lang/String;)V"⟩
abbrev w_B_init : List Cond := .code y_B_init b_B_init 2 none :: WA
abbrev b_E_init : ByteArray := prog_10_method_2_code
abbrev y_E_init : MethodName := ⟨"java/lang/Exception", "<init>", "(Ljava/lang/String;)V"⟩
abbrev w_E_init : List Cond := .code y_E_init b_E_init 2 none :: WA
abbrev b_T_init2 : ByteArray := prog_15_method_2_code
abbrev y_T_init2 : MethodName := ⟨"java/lang/Throwable", "<init>", "(Ljava/lang/String;)V"⟩
abbrev w_T_init2 : List Cond := .code y_T_init2 b_T_init2 2 none :: WA
abbrev b_X_volume : ByteArray := prog_1_method_12_code
abbrev y_X_volume : MethodName := ⟨"IssueRows", "volume", "(II)I"⟩
abbrev w_X_volume : List Cond := .code y_X_volume b_X_volume 3 (some .int) :: WA
abbrev b_V_has : ByteArray := prog_7_method_5_code
abbrev y_V_has : MethodName := ⟨"IssueRows$Volumes", "has", "(II)Z"⟩
abbrev w_V_has : List Cond := .code y_V_has b_V_has 3 (some .boolean) :: WA
abbrev b_V_member : ByteArray := prog_7_method_6_code
abbrev y_V_member : MethodName := ⟨"IssueRows$Volumes", "member", "(II)I"⟩
abbrev w_V_member : List Cond := .code y_V_member b_V_member 3 (some .int) :: WA
abbrev b_X_row : ByteArray := prog_1_method_14_code
abbrev y_X_row : MethodName := ⟨"IssueRows", "row", "(II)I"⟩
abbrev w_X_row : List Cond := .code y_X_row b_X_row 3 (some .int) :: WA
abbrev b_S_has : ByteArray := prog_6_method_4_code
abbrev y_S_has : MethodName := ⟨"IssueRows$Statement", "has", "(II)Z"⟩
abbrev w_S_has : List Cond := .code y_S_has b_S_has 3 (some .boolean) :: WA
abbrev b_S_part : ByteArray := prog_6_method_5_code
abbrev y_S_part : MethodName := ⟨"IssueRows$Statement", "part", "(II)I"⟩
abbrev w_S_part : List Cond := .code y_S_part b_S_part 3 (some .int) :: WA
abbrev b_M_init : ByteArray := prog_9_method_1_code
abbrev y_M_init : MethodName := ⟨"IssueRowsModel", "<init>", "()V"⟩
abbrev w_M_init : List Cond := .code y_M_init b_M_init 2 none :: WA
abbrev b_M_thrown : ByteArray := prog_9_method_2_code
abbrev y_M_thrown : MethodName := ⟨"IssueRowsModel", "thrown", "()I"⟩
abbrev w_M_thrown : List Cond := .code y_M_thrown b_M_thrown 1 (some .int) :: WA
abbrev b_M_rule : ByteArray := prog_9_method_7_code
abbrev y_M_rule : MethodName := ⟨"IssueRowsModel", "rule", "(IIII)I"⟩
abbrev w_M_rule : List Cond := .code y_M_rule b_M_rule 5 (some .int) :: WA
abbrev b_M_in : ByteArray := prog_9_method_3_code
abbrev y_M_in : MethodName := ⟨"IssueRowsModel", "in", "(III)Z"⟩
abbrev w_M_in : List Cond := .code y_M_in b_M_in 3 (some .boolean) :: WA
abbrev b_M_issue : ByteArray := prog_9_method_9_code
abbrev y_M_issue : MethodName := ⟨"IssueRowsModel", "issue", "(III)I"⟩
abbrev w_M_issue : List Cond := .code y_M_issue b_M_issue 5 (some .int) :: WA
abbrev b_M_isDay : ByteArray := prog_9_method_4_code
abbrev y_M_isDay : MethodName := ⟨"IssueRowsModel", "isDay", "(I)Z"⟩
abbrev w_M_isDay : List Cond := .code y_M_isDay b_M_isDay 1 (some .boolean) :: WA
abbrev b_M_lay : ByteArray := prog_9_method_8_code
abbrev y_M_lay : MethodName := ⟨"IssueRowsModel", "lay", "(III)I"⟩
abbrev w_M_lay : List Cond := .code y_M_lay b_M_lay 5 (some .int) :: WA
abbrev b_M_checkIn : ByteArray := prog_9_method_10_code
abbrev y_M_checkIn : MethodName := ⟨"IssueRowsModel", "checkIn", "(III)I"⟩
abbrev w_M_checkIn : List Cond := .code y_M_checkIn b_M_checkIn 5 (some .int) :: WA
abbrev b_M_isIssue : ByteArray := prog_9_method_5_code
abbrev y_M_isIssue : MethodName := ⟨"IssueRowsModel", "isIssue", "(I)Z"⟩
abbrev w_M_isIssue : List Cond := .code y_M_isIssue b_M_isIssue 2 (some .boolean) :: WA
abbrev b_M_tell : ByteArray := prog_9_method_6_code
abbrev y_M_tell : MethodName := ⟨"IssueRowsModel", "tell", "(II)V"⟩
abbrev w_M_tell : List Cond := .code y_M_tell b_M_tell 3 none :: WA
abbrev b_M_claim : ByteArray := prog_9_method_12_code
abbrev y_M_claim : MethodName := ⟨"IssueRowsModel", "claim", "(I)I"⟩
abbrev w_M_claim : List Cond := .code y_M_claim b_M_claim 3 (some .int) :: WA
abbrev b_M_askFor : ByteArray := prog_9_method_11_code
abbrev y_M_askFor : MethodName := ⟨"IssueRowsModel", "askFor", "(II)V"⟩
abbrev w_M_askFor : List Cond := .code y_M_askFor b_M_askFor 5 none :: WA
abbrev b_M_claimed : ByteArray := prog_9_method_13_code
abbrev y_M_claimed : MethodName := ⟨"IssueRowsModel", "claimed", "(II)I"⟩
abbrev w_M_claimed : List Cond := .code y_M_claimed b_M_claimed 3 (some .int) :: WA
abbrev b_M_list : ByteArray := prog_9_method_15_code
abbrev y_M_list : MethodName := ⟨"IssueRowsModel", "list", "(III)I"⟩
abbrev w_M_list : List Cond := .code y_M_list b_M_list 4 (some .int) :: WA
abbrev b_M_route : ByteArray := prog_9_method_16_code
abbrev y_M_route : MethodName := ⟨"IssueRowsModel", "route", "(II)I"⟩
abbrev w_M_route : List Cond := .code y_M_route b_M_route 3 (some .int) :: WA
abbrev b_M_returned : ByteArray := prog_9_method_17_code
abbrev y_M_returned : MethodName := ⟨"IssueRowsModel", "returned", "(II)I"⟩
abbrev w_M_returned : List Cond := .code y_M_returned b_M_returned 4 (some .int) :: WA
abbrev b_M_isHeld : ByteArray := prog_9_method_14_code
abbrev y_M_isHeld : MethodName := ⟨"IssueRowsModel", "isHeld", "(I)Z"⟩
abbrev w_M_isHeld : List Cond := .code y_M_isHeld b_M_isHeld 2 (some .boolean) :: WA
abbrev b_M_replace : ByteArray := prog_9_method_18_code
abbrev y_M_replace : MethodName := ⟨"IssueRowsModel", "replace", "(II)I"⟩
abbrev w_M_replace : List Cond := .code y_M_replace b_M_replace 4 (some .int) :: WA
abbrev b_M_bind : ByteArray := prog_9_method_20_code
abbrev y_M_bind : MethodName := ⟨"IssueRowsModel", "bind", "(II)I"⟩
abbrev w_M_bind : List Cond := .code y_M_bind b_M_bind 6 (some .int) :: WA
abbrev b_M_nextHere : ByteArray := prog_9_method_19_code
abbrev y_M_nextHere : MethodName := ⟨"IssueRowsModel", "nextHere", "(II)I"⟩
abbrev w_M_nextHere : List Cond := .code y_M_nextHere b_M_nextHere 5 (some .int) :: WA
abbrev b_M_volume : ByteArray := prog_9_method_21_code
abbrev y_M_volume : MethodName := ⟨"IssueRowsModel", "volume", "(II)I"⟩
abbrev w_M_volume : List Cond := .code y_M_volume b_M_volume 8 (some .int) :: WA
abbrev b_M_statement : ByteArray := prog_9_method_24_code
abbrev y_M_statement : MethodName := ⟨"IssueRowsModel", "statement", "(I)I"⟩
abbrev w_M_statement : List Cond := .code y_M_statement b_M_statement 4 (some .int) :: WA
abbrev b_M_next : ByteArray := prog_9_method_23_code
abbrev y_M_next : MethodName := ⟨"IssueRowsModel", "next", "(II)I"⟩
abbrev w_M_next : List Cond := .code y_M_next b_M_next 5 (some .int) :: WA
abbrev b_M_stands : ByteArray := prog_9_method_22_code
abbrev y_M_stands : MethodName := ⟨"IssueRowsModel", "stands", "(I)Z"⟩
abbrev w_M_stands : List Cond := .code y_M_stands b_M_stands 2 (some .boolean) :: WA
abbrev b_M_row : ByteArray := prog_9_method_25_code
abbrev y_M_row : MethodName := ⟨"IssueRowsModel", "row", "(II)I"⟩
abbrev w_M_row : List Cond := .code y_M_row b_M_row 3 (some .int) :: WA
abbrev b_M_about : ByteArray := prog_9_method_26_code
abbrev y_M_about : MethodName := ⟨"IssueRowsModel", "about", "(II)I"⟩
abbrev w_M_about : List Cond := .code y_M_about b_M_about 3 (some .int) :: WA
abbrev b_M_cost : ByteArray := prog_9_method_27_code
abbrev y_M_cost : MethodName := ⟨"IssueRowsModel", "cost", "(II)I"⟩
abbrev w_M_cost : List Cond := .code y_M_cost b_M_cost 3 (some .int) :: WA
abbrev b_M_told : ByteArray := prog_9_method_28_code
abbrev y_M_told : MethodName := ⟨"IssueRowsModel", "told", "(II)I"⟩
abbrev w_M_told : List Cond := .code y_M_told b_M_told 3 (some .int) :: WA
abbrev b_M_lateness : ByteArray := prog_9_method_29_code
abbrev y_M_lateness : MethodName := ⟨"IssueRowsModel", "lateness", "(I)I"⟩
abbrev w_M_lateness : List Cond := .code y_M_lateness b_M_lateness 4 (some .int) :: WA
theorem kZ_L : (Cond.initialized "IssueRowsLaw") ∈ WA := WA_t (List.mem_append_left _ (List.mem_of_getElem? (i := 0) rfl)) rfl
theorem kZ_X : (Cond.initialized "IssueRows") ∈ WA := WA_t (List.mem_append_left _ (List.mem_of_getElem? (i := 1) rfl)) rfl
theorem kZ_P : (Cond.initialized "IssueRows$Pairs") ∈ WA := WA_t (List.mem_append_left _ (List.mem_of_getElem? (i := 2) rfl)) rfl
theorem kZ_H : (Cond.initialized "java/lang/Math") ∈ WA := WA_t (List.mem_append_left _ (List.mem_of_getElem? (i := 3) rfl)) rfl
theorem kZ_V : (Cond.initialized "IssueRows$Volumes") ∈ WA := WA_t (List.mem_append_left _ (List.mem_of_getElem? (i := 4) rfl)) rfl
theorem kZ_S : (Cond.initialized "IssueRows$Statement") ∈ WA := WA_t (List.mem_append_left _ (List.mem_of_getElem? (i := 5) rfl)) rfl
theorem kZ_U : (Cond.initialized "IssueRows$Rule") ∈ WA := WA_t (List.mem_append_left _ (List.mem_of_getElem? (i := 6) rfl)) rfl
theorem kZ_M : (Cond.initialized "IssueRowsModel") ∈ WA := WA_t (List.mem_append_left _ (List.mem_of_getElem? (i := 7) rfl)) rfl
theorem kZ_I : (Cond.initialized "IssueRows$Issue") ∈ WA := WA_t (List.mem_append_left _ (List.mem_of_getElem? (i := 8) rfl)) rfl
theorem kZ_G : (Cond.initialized "IssueRows$Routing") ∈ WA := WA_t (List.mem_append_left _ (List.mem_of_getElem? (i := 9) rfl)) rfl
theorem kZ_T : (Cond.initialized "java/lang/Throwable") ∈ WA := WA_t (List.mem_append_left _ (List.mem_of_getElem? (i := 10) rfl)) rfl
theorem kZ_E : (Cond.initialized "java/lang/Exception") ∈ WA := WA_t (List.mem_append_left _ (List.mem_of_getElem? (i := 11) rfl)) rfl
theorem kZ_B : (Cond.initialized "java/lang/RuntimeException") ∈ WA := WA_t (List.mem_append_left _ (List.mem_of_getElem? (i := 12) rfl)) rfl
theorem kZ_A : (Cond.initialized "java/lang/IndexOutOfBoundsException") ∈ WA := WA_t (List.mem_append_left _ (List.mem_of_getElem? (i := 13) rfl)) rfl
theorem kL_L_8 : (Cond.classLink "IssueRowsLaw" (8 : Nat) "IssueRows") ∈ WA := WA_t (List.mem_append_left _ (List.mem_of_getElem? (i := 14) rfl)) rfl
theorem kA_X : (Cond.instantiable "IssueRows" (8 : Nat)) ∈ WA := WA_t (List.mem_append_left _ (List.mem_of_getElem? (i := 15) rfl)) rfl
theorem kM_L_21 : (Cond.methodLink "IssueRowsLaw" (21 : Nat) ({ cls := "IssueRows", name := "<init>", desc := "()V" } : MethodName)) ∈ WA := WA_t (List.mem_append_left _ (List.mem_of_getElem? (i := 16) rfl)) rfl
theorem kI_X_init : (Cond.instanceMethod ({ cls := "IssueRows", name := "<init>", desc := "()V" } : MethodName)) ∈ WA := WA_t (List.mem_append_left _ (List.mem_of_getElem? (i := 17) rfl)) rfl
theorem kC_X_init : (Cond.code ({ cls := "IssueRows", name := "<init>", desc := "()V" } : MethodName) prog_1_method_1_code (2 : Nat) (Option.none : Option FieldType)) ∈ WA := WA_t (List.mem_append_left _ (List.mem_of_getElem? (i := 18) rfl)) rfl
theorem kM_X_1 : (Cond.methodLink "IssueRows" (1 : Nat) ({ cls := "java/lang/Object", name := "<init>", desc := "()V" } : MethodName)) ∈ WA := WA_t (List.mem_append_left _ (List.mem_of_getElem? (i := 19) rfl)) rfl
theorem kI_O_init : (Cond.instanceMethod ({ cls := "java/lang/Object", name := "<init>", desc := "()V" } : MethodName)) ∈ WA := WA_t (List.mem_append_left _ (List.mem_of_getElem? (i := 20) rfl)) rfl
theorem kC_O_init : (Cond.code ({ cls := "java/lang/Object", name := "<init>", desc := "()V" } : MethodName) object_method_1_code (1 : Nat) (Option.none : Option FieldType)) ∈ WA := WA_t (List.mem_append_left _ (List.mem_of_getElem? (i := 21) rfl)) rfl
theorem kL_X_9 : (Cond.classLink "IssueRows" (9 : Nat) "IssueRows$Rule") ∈ WA := WA_t (List.mem_append_left _ (List.mem_of_getElem? (i := 22) rfl)) rfl
theorem kL_X_15 : (Cond.classLink "IssueRows" (15 : Nat) "IssueRows$Issue") ∈ WA := WA_t (List.mem_append_left _ (List.mem_of_getElem? (i := 24) rfl)) rfl
theorem kL_X_28 : (Cond.classLink "IssueRows" (28 : Nat) "IssueRows$Pairs") ∈ WA := WA_t (List.mem_append_left _ (List.mem_of_getElem? (i := 26) rfl)) rfl
theorem kA_P : (Cond.instantiable "IssueRows$Pairs" (3 : Nat)) ∈ WA := WA_t (List.mem_append_left _ (List.mem_of_getElem? (i := 27) rfl)) rfl
theorem kM_X_30 : (Cond.methodLink "IssueRows" (30 : Nat) ({ cls := "IssueRows$Pairs", name := "<init>", desc := "(I)V" } : MethodName)) ∈ WA := WA_t (List.mem_append_left _ (List.mem_of_getElem? (i := 28) rfl)) rfl
theorem kI_P_init : (Cond.instanceMethod ({ cls := "IssueRows$Pairs", name := "<init>", desc := "(I)V" } : MethodName)) ∈ WA := WA_t (List.mem_append_left _ (List.mem_of_getElem? (i := 29) rfl)) rfl
theorem kC_P_init : (Cond.code ({ cls := "IssueRows$Pairs", name := "<init>", desc := "(I)V" } : MethodName) prog_3_method_1_code (3 : Nat) (Option.none : Option FieldType)) ∈ WA := WA_t (List.mem_append_left _ (List.mem_of_getElem? (i := 30) rfl)) rfl
theorem kM_P_3 : (Cond.methodLink "IssueRows$Pairs" (3 : Nat) ({ cls := "java/lang/Object", name := "<init>", desc := "()V" } : MethodName)) ∈ WA := WA_t (List.mem_append_left _ (List.mem_of_getElem? (i := 31) rfl)) rfl
theorem kM_P_15 : (Cond.methodLink "IssueRows$Pairs" (15 : Nat) ({ cls := "java/lang/Math", name := "max", desc := "(II)I" } : MethodName)) ∈ WA := WA_t (List.mem_append_left _ (List.mem_of_getElem? (i := 32) rfl)) rfl
theorem kS_H_max : (Cond.static ({ cls := "java/lang/Math", name := "max", desc := "(II)I" } : MethodName)) ∈ WA := WA_t (List.mem_append_left _ (List.mem_of_getElem? (i := 33) rfl)) rfl
theorem kC_H_max : (Cond.code ({ cls := "java/lang/Math", name := "max", desc := "(II)I" } : MethodName) prog_12_method_65_code (2 : Nat) (Option.some FieldType.int)) ∈ WA := WA_t (List.mem_append_left _ (List.mem_of_getElem? (i := 34) rfl)) rfl
theorem kF_P_21 : (Cond.fieldLink "IssueRows$Pairs" (21 : Nat) "IssueRows$Pairs" "firsts" "[I") ∈ WA := WA_t (List.mem_append_left _ (List.mem_of_getElem? (i := 35) rfl)) rfl
theorem kF_P_25 : (Cond.fieldLink "IssueRows$Pairs" (25 : Nat) "IssueRows$Pairs" "seconds" "[I") ∈ WA := WA_t (List.mem_append_left _ (List.mem_of_getElem? (i := 36) rfl)) rfl
theorem kF_P_9 : (Cond.fieldLink "IssueRows$Pairs" (9 : Nat) "IssueRows$Pairs" "size" "I") ∈ WA := WA_t (List.mem_append_left _ (List.mem_of_getElem? (i := 37) rfl)) rfl
theorem kF_X_117 : (Cond.fieldLink "IssueRows" (117 : Nat) "IssueRows$Pairs" "size" "I") ∈ WA := WA_t (List.mem_append_left _ (List.mem_of_getElem? (i := 38) rfl)) rfl
theorem kY_P_firsts : (Cond.laysFinal "IssueRows$Pairs" "IssueRows$Pairs" "firsts" "[I") ∈ WA := WA_t (List.mem_append_left _ (List.mem_of_getElem? (i := 39) rfl)) rfl
theorem kY_P_seconds : (Cond.laysFinal "IssueRows$Pairs" "IssueRows$Pairs" "seconds" "[I") ∈ WA := WA_t (List.mem_append_left _ (List.mem_of_getElem? (i := 41) rfl)) rfl
theorem kY_P_size : (Cond.lays "IssueRows$Pairs" "IssueRows$Pairs" "size" "I") ∈ WA := WA_t (List.mem_append_left _ (List.mem_of_getElem? (i := 43) rfl)) rfl
theorem kR_int : (Cond.arrayClass FieldType.int) ∈ WA := WA_t (List.mem_append_left _ (List.mem_of_getElem? (i := 46) rfl)) rfl
theorem kL_X_40 : (Cond.classLink "IssueRows" (40 : Nat) "IssueRows$Volumes") ∈ WA := WA_t (List.mem_append_left _ (List.mem_of_getElem? (i := 47) rfl)) rfl
theorem kA_V : (Cond.instantiable "IssueRows$Volumes" (3 : Nat)) ∈ WA := WA_t (List.mem_append_left _ (List.mem_of_getElem? (i := 48) rfl)) rfl
theorem kI_V_init : (Cond.instanceMethod ({ cls := "IssueRows$Volumes", name := "<init>", desc := "()V" } : MethodName)) ∈ WA := WA_t (List.mem_append_left _ (List.mem_of_getElem? (i := 50) rfl)) rfl
theorem kC_V_init : (Cond.code ({ cls := "IssueRows$Volumes", name := "<init>", desc := "()V" } : MethodName) prog_7_method_1_code (1 : Nat) (Option.none : Option FieldType)) ∈ WA := WA_t (List.mem_append_left _ (List.mem_of_getElem? (i := 51) rfl)) rfl
theorem kM_V_3 : (Cond.methodLink "IssueRows$Volumes" (3 : Nat) ({ cls := "java/lang/Object", name := "<init>", desc := "()V" } : MethodName)) ∈ WA := WA_t (List.mem_append_left _ (List.mem_of_getElem? (i := 52) rfl)) rfl
theorem kF_V_9 : (Cond.fieldLink "IssueRows$Volumes" (9 : Nat) "IssueRows$Volumes" "members" "[I") ∈ WA := WA_t (List.mem_append_left _ (List.mem_of_getElem? (i := 53) rfl)) rfl
theorem kF_V_15 : (Cond.fieldLink "IssueRows$Volumes" (15 : Nat) "IssueRows$Volumes" "ends" "[I") ∈ WA := WA_t (List.mem_append_left _ (List.mem_of_getElem? (i := 54) rfl)) rfl
theorem kF_V_18 : (Cond.fieldLink "IssueRows$Volumes" (18 : Nat) "IssueRows$Volumes" "count" "I") ∈ WA := WA_t (List.mem_append_left _ (List.mem_of_getElem? (i := 55) rfl)) rfl
theorem kY_V_members : (Cond.laysFinal "IssueRows$Volumes" "IssueRows$Volumes" "members" "[I") ∈ WA := WA_t (List.mem_append_left _ (List.mem_of_getElem? (i := 56) rfl)) rfl
theorem kY_V_ends : (Cond.laysFinal "IssueRows$Volumes" "IssueRows$Volumes" "ends" "[I") ∈ WA := WA_t (List.mem_append_left _ (List.mem_of_getElem? (i := 58) rfl)) rfl
theorem kY_V_count : (Cond.lays "IssueRows$Volumes" "IssueRows$Volumes" "count" "I") ∈ WA := WA_t (List.mem_append_left _ (List.mem_of_getElem? (i := 60) rfl)) rfl
theorem kL_X_47 : (Cond.classLink "IssueRows" (47 : Nat) "IssueRows$Statement") ∈ WA := WA_t (List.mem_append_left _ (List.mem_of_getElem? (i := 63) rfl)) rfl
theorem kA_S : (Cond.instantiable "IssueRows$Statement" (4 : Nat)) ∈ WA := WA_t (List.mem_append_left _ (List.mem_of_getElem? (i := 64) rfl)) rfl
theorem kI_S_init : (Cond.instanceMethod ({ cls := "IssueRows$Statement", name := "<init>", desc := "()V" } : MethodName)) ∈ WA := WA_t (List.mem_append_left _ (List.mem_of_getElem? (i := 66) rfl)) rfl
theorem kC_S_init : (Cond.code ({ cls := "IssueRows$Statement", name := "<init>", desc := "()V" } : MethodName) prog_6_method_1_code (1 : Nat) (Option.none : Option FieldType)) ∈ WA := WA_t (List.mem_append_left _ (List.mem_of_getElem? (i := 67) rfl)) rfl
theorem kM_S_3 : (Cond.methodLink "IssueRows$Statement" (3 : Nat) ({ cls := "java/lang/Object", name := "<init>", desc := "()V" } : MethodName)) ∈ WA := WA_t (List.mem_append_left _ (List.mem_of_getElem? (i := 68) rfl)) rfl
theorem kF_S_9 : (Cond.fieldLink "IssueRows$Statement" (9 : Nat) "IssueRows$Statement" "firsts" "[I") ∈ WA := WA_t (List.mem_append_left _ (List.mem_of_getElem? (i := 69) rfl)) rfl
theorem kF_S_15 : (Cond.fieldLink "IssueRows$Statement" (15 : Nat) "IssueRows$Statement" "lasts" "[I") ∈ WA := WA_t (List.mem_append_left _ (List.mem_of_getElem? (i := 70) rfl)) rfl
theorem kF_S_18 : (Cond.fieldLink "IssueRows$Statement" (18 : Nat) "IssueRows$Statement" "counts" "[I") ∈ WA := WA_t (List.mem_append_left _ (List.mem_of_getElem? (i := 71) rfl)) rfl
theorem kF_S_21 : (Cond.fieldLink "IssueRows$Statement" (21 : Nat) "IssueRows$Statement" "size" "I") ∈ WA := WA_t (List.mem_append_left _ (List.mem_of_getElem? (i := 72) rfl)) rfl
theorem kF_X_196 : (Cond.fieldLink "IssueRows" (196 : Nat) "IssueRows$Statement" "size" "I") ∈ WA := WA_t (List.mem_append_left _ (List.mem_of_getElem? (i := 73) rfl)) rfl
theorem kY_S_firsts : (Cond.laysFinal "IssueRows$Statement" "IssueRows$Statement" "firsts" "[I") ∈ WA := WA_t (List.mem_append_left _ (List.mem_of_getElem? (i := 74) rfl)) rfl
theorem kY_S_lasts : (Cond.laysFinal "IssueRows$Statement" "IssueRows$Statement" "lasts" "[I") ∈ WA := WA_t (List.mem_append_left _ (List.mem_of_getElem? (i := 76) rfl)) rfl
theorem kY_S_counts : (Cond.laysFinal "IssueRows$Statement" "IssueRows$Statement" "counts" "[I") ∈ WA := WA_t (List.mem_append_left _ (List.mem_of_getElem? (i := 78) rfl)) rfl
theorem kY_S_size : (Cond.lays "IssueRows$Statement" "IssueRows$Statement" "size" "I") ∈ WA := WA_t (List.mem_append_left _ (List.mem_of_getElem? (i := 80) rfl)) rfl
theorem kA_U : (Cond.instantiable "IssueRows$Rule" (3 : Nat)) ∈ WA := WA_t (List.mem_append_left _ (List.mem_of_getElem? (i := 83) rfl)) rfl
theorem kI_U_init : (Cond.instanceMethod ({ cls := "IssueRows$Rule", name := "<init>", desc := "()V" } : MethodName)) ∈ WA := WA_t (List.mem_append_left _ (List.mem_of_getElem? (i := 85) rfl)) rfl
theorem kC_U_init : (Cond.code ({ cls := "IssueRows$Rule", name := "<init>", desc := "()V" } : MethodName) prog_5_method_1_code (1 : Nat) (Option.none : Option FieldType)) ∈ WA := WA_t (List.mem_append_left _ (List.mem_of_getElem? (i := 86) rfl)) rfl
theorem kM_U_3 : (Cond.methodLink "IssueRows$Rule" (3 : Nat) ({ cls := "java/lang/Object", name := "<init>", desc := "()V" } : MethodName)) ∈ WA := WA_t (List.mem_append_left _ (List.mem_of_getElem? (i := 87) rfl)) rfl
theorem kF_U_9 : (Cond.fieldLink "IssueRows$Rule" (9 : Nat) "IssueRows$Rule" "first" "I") ∈ WA := WA_t (List.mem_append_left _ (List.mem_of_getElem? (i := 88) rfl)) rfl
theorem kF_X_63 : (Cond.fieldLink "IssueRows" (63 : Nat) "IssueRows$Rule" "first" "I") ∈ WA := WA_t (List.mem_append_left _ (List.mem_of_getElem? (i := 89) rfl)) rfl
theorem kF_U_15 : (Cond.fieldLink "IssueRows$Rule" (15 : Nat) "IssueRows$Rule" "again" "I") ∈ WA := WA_t (List.mem_append_left _ (List.mem_of_getElem? (i := 90) rfl)) rfl
theorem kF_X_66 : (Cond.fieldLink "IssueRows" (66 : Nat) "IssueRows$Rule" "again" "I") ∈ WA := WA_t (List.mem_append_left _ (List.mem_of_getElem? (i := 91) rfl)) rfl
theorem kF_U_18 : (Cond.fieldLink "IssueRows$Rule" (18 : Nat) "IssueRows$Rule" "most" "I") ∈ WA := WA_t (List.mem_append_left _ (List.mem_of_getElem? (i := 92) rfl)) rfl
theorem kF_X_69 : (Cond.fieldLink "IssueRows" (69 : Nat) "IssueRows$Rule" "most" "I") ∈ WA := WA_t (List.mem_append_left _ (List.mem_of_getElem? (i := 93) rfl)) rfl
theorem kY_U_first : (Cond.lays "IssueRows$Rule" "IssueRows$Rule" "first" "I") ∈ WA := WA_t (List.mem_append_left _ (List.mem_of_getElem? (i := 94) rfl)) rfl
theorem kY_U_again : (Cond.lays "IssueRows$Rule" "IssueRows$Rule" "again" "I") ∈ WA := WA_t (List.mem_append_left _ (List.mem_of_getElem? (i := 96) rfl)) rfl
theorem kY_U_most : (Cond.lays "IssueRows$Rule" "IssueRows$Rule" "most" "I") ∈ WA := WA_t (List.mem_append_left _ (List.mem_of_getElem? (i := 98) rfl)) rfl
theorem kF_X_11 : (Cond.fieldLink "IssueRows" (11 : Nat) "IssueRows" "rules" "[LIssueRows$Rule;") ∈ WA := WA_t (List.mem_append_left _ (List.mem_of_getElem? (i := 101) rfl)) rfl
theorem kF_X_17 : (Cond.fieldLink "IssueRows" (17 : Nat) "IssueRows" "issues" "[LIssueRows$Issue;") ∈ WA := WA_t (List.mem_append_left _ (List.mem_of_getElem? (i := 102) rfl)) rfl
theorem kF_X_21 : (Cond.fieldLink "IssueRows" (21 : Nat) "IssueRows" "byOrdinal" "[LIssueRows$Issue;") ∈ WA := WA_t (List.mem_append_left _ (List.mem_of_getElem? (i := 103) rfl)) rfl
theorem kF_X_24 : (Cond.fieldLink "IssueRows" (24 : Nat) "IssueRows" "issueCount" "I") ∈ WA := WA_t (List.mem_append_left _ (List.mem_of_getElem? (i := 104) rfl)) rfl
theorem kF_X_33 : (Cond.fieldLink "IssueRows" (33 : Nat) "IssueRows" "round" "LIssueRows$Pairs;") ∈ WA := WA_t (List.mem_append_left _ (List.mem_of_getElem? (i := 105) rfl)) rfl
theorem kF_X_37 : (Cond.fieldLink "IssueRows" (37 : Nat) "IssueRows" "notes" "LIssueRows$Pairs;") ∈ WA := WA_t (List.mem_append_left _ (List.mem_of_getElem? (i := 106) rfl)) rfl
theorem kF_X_43 : (Cond.fieldLink "IssueRows" (43 : Nat) "IssueRows" "volumes" "LIssueRows$Volumes;") ∈ WA := WA_t (List.mem_append_left _ (List.mem_of_getElem? (i := 107) rfl)) rfl
theorem kF_X_50 : (Cond.fieldLink "IssueRows" (50 : Nat) "IssueRows" "latest" "LIssueRows$Statement;") ∈ WA := WA_t (List.mem_append_left _ (List.mem_of_getElem? (i := 108) rfl)) rfl
theorem kY_X_rules : (Cond.laysFinal "IssueRows" "IssueRows" "rules" "[LIssueRows$Rule;") ∈ WA := WA_t (List.mem_append_left _ (List.mem_of_getElem? (i := 109) rfl)) rfl
theorem kY_X_issues : (Cond.laysFinal "IssueRows" "IssueRows" "issues" "[LIssueRows$Issue;") ∈ WA := WA_t (List.mem_append_left _ (List.mem_of_getElem? (i := 111) rfl)) rfl
theorem kY_X_byOrdinal : (Cond.laysFinal "IssueRows" "IssueRows" "byOrdinal" "[LIssueRows$Issue;") ∈ WA := WA_t (List.mem_append_left _ (List.mem_of_getElem? (i := 113) rfl)) rfl
theorem kY_X_issueCount : (Cond.lays "IssueRows" "IssueRows" "issueCount" "I") ∈ WA := WA_t (List.mem_append_left _ (List.mem_of_getElem? (i := 115) rfl)) rfl
theorem kY_X_round : (Cond.laysFinal "IssueRows" "IssueRows" "round" "LIssueRows$Pairs;") ∈ WA := WA_t (List.mem_append_left _ (List.mem_of_getElem? (i := 117) rfl)) rfl
theorem kY_X_notes : (Cond.laysFinal "IssueRows" "IssueRows" "notes" "LIssueRows$Pairs;") ∈ WA := WA_t (List.mem_append_left _ (List.mem_of_getElem? (i := 119) rfl)) rfl
theorem kY_X_volumes : (Cond.laysFinal "IssueRows" "IssueRows" "volumes" "LIssueRows$Volumes;") ∈ WA := WA_t (List.mem_append_left _ (List.mem_of_getElem? (i := 121) rfl)) rfl
theorem kY_X_latest : (Cond.laysFinal "IssueRows" "IssueRows" "latest" "LIssueRows$Statement;") ∈ WA := WA_t (List.mem_append_left _ (List.mem_of_getElem? (i := 123) rfl)) rfl
theorem kM_L_25 : (Cond.methodLink "IssueRowsLaw" (25 : Nat) ({ cls := "IssueRows", name := "rule", desc := "(IIII)I" } : MethodName)) ∈ WA := WA_t (List.mem_append_left _ (List.mem_of_getElem? (i := 126) rfl)) rfl
theorem kI_X_rule : (Cond.instanceMethod ({ cls := "IssueRows", name := "rule", desc := "(IIII)I" } : MethodName)) ∈ WA := WA_t (List.mem_append_left _ (List.mem_of_getElem? (i := 127) rfl)) rfl
theorem kV_X_rule : (Cond.selects "IssueRows" ({ cls := "IssueRows", name := "rule", desc := "(IIII)I" } : MethodName) ({ cls := "IssueRows", name := "rule", desc := "(IIII)I" } : MethodName)) ∈ WA := WA_t (List.mem_append_left _ (List.mem_of_getElem? (i := 128) rfl)) rfl
theorem kC_X_rule : (Cond.code ({ cls := "IssueRows", name := "rule", desc := "(IIII)I" } : MethodName) prog_1_method_2_code (6 : Nat) (Option.some FieldType.int)) ∈ WA := WA_t (List.mem_append_left _ (List.mem_of_getElem? (i := 129) rfl)) rfl
theorem kM_X_55 : (Cond.methodLink "IssueRows" (55 : Nat) ({ cls := "IssueRows", name := "isPattern", desc := "(I)Z" } : MethodName)) ∈ WA := WA_t (List.mem_append_left _ (List.mem_of_getElem? (i := 130) rfl)) rfl
theorem kS_X_isPattern : (Cond.static ({ cls := "IssueRows", name := "isPattern", desc := "(I)Z" } : MethodName)) ∈ WA := WA_t (List.mem_append_left _ (List.mem_of_getElem? (i := 131) rfl)) rfl
theorem kC_X_isPattern : (Cond.code ({ cls := "IssueRows", name := "isPattern", desc := "(I)Z" } : MethodName) prog_1_method_20_code (1 : Nat) (Option.some FieldType.boolean)) ∈ WA := WA_t (List.mem_append_left _ (List.mem_of_getElem? (i := 132) rfl)) rfl
theorem kM_X_59 : (Cond.methodLink "IssueRows" (59 : Nat) ({ cls := "IssueRows", name := "within", desc := "(III)Z" } : MethodName)) ∈ WA := WA_t (List.mem_append_left _ (List.mem_of_getElem? (i := 133) rfl)) rfl
theorem kS_X_within : (Cond.static ({ cls := "IssueRows", name := "within", desc := "(III)Z" } : MethodName)) ∈ WA := WA_t (List.mem_append_left _ (List.mem_of_getElem? (i := 134) rfl)) rfl
theorem kC_X_within : (Cond.code ({ cls := "IssueRows", name := "within", desc := "(III)Z" } : MethodName) prog_1_method_19_code (3 : Nat) (Option.some FieldType.boolean)) ∈ WA := WA_t (List.mem_append_left _ (List.mem_of_getElem? (i := 135) rfl)) rfl
theorem kM_L_30 : (Cond.methodLink "IssueRowsLaw" (30 : Nat) ({ cls := "IssueRows", name := "issue", desc := "(III)I" } : MethodName)) ∈ WA := WA_t (List.mem_append_left _ (List.mem_of_getElem? (i := 136) rfl)) rfl
theorem kI_X_issue : (Cond.instanceMethod ({ cls := "IssueRows", name := "issue", desc := "(III)I" } : MethodName)) ∈ WA := WA_t (List.mem_append_left _ (List.mem_of_getElem? (i := 137) rfl)) rfl
theorem kV_X_issue : (Cond.selects "IssueRows" ({ cls := "IssueRows", name := "issue", desc := "(III)I" } : MethodName) ({ cls := "IssueRows", name := "issue", desc := "(III)I" } : MethodName)) ∈ WA := WA_t (List.mem_append_left _ (List.mem_of_getElem? (i := 138) rfl)) rfl
theorem kC_X_issue : (Cond.code ({ cls := "IssueRows", name := "issue", desc := "(III)I" } : MethodName) prog_1_method_3_code (5 : Nat) (Option.some FieldType.int)) ∈ WA := WA_t (List.mem_append_left _ (List.mem_of_getElem? (i := 139) rfl)) rfl
theorem kM_X_72 : (Cond.methodLink "IssueRows" (72 : Nat) ({ cls := "IssueRows", name := "isDay", desc := "(I)Z" } : MethodName)) ∈ WA := WA_t (List.mem_append_left _ (List.mem_of_getElem? (i := 140) rfl)) rfl
theorem kS_X_isDay : (Cond.static ({ cls := "IssueRows", name := "isDay", desc := "(I)Z" } : MethodName)) ∈ WA := WA_t (List.mem_append_left _ (List.mem_of_getElem? (i := 141) rfl)) rfl
theorem kC_X_isDay : (Cond.code ({ cls := "IssueRows", name := "isDay", desc := "(I)Z" } : MethodName) prog_1_method_21_code (1 : Nat) (Option.some FieldType.boolean)) ∈ WA := WA_t (List.mem_append_left _ (List.mem_of_getElem? (i := 142) rfl)) rfl
theorem kK_X_212 : (Cond.constant "IssueRows" (212 : Nat) (1000000 : Int32)) ∈ WA := WA_t (List.mem_append_left _ (List.mem_of_getElem? (i := 143) rfl)) rfl
theorem kM_X_75 : (Cond.methodLink "IssueRows" (75 : Nat) ({ cls := "IssueRows", name := "hasOrdinal", desc := "(II)Z" } : MethodName)) ∈ WA := WA_t (List.mem_append_left _ (List.mem_of_getElem? (i := 144) rfl)) rfl
theorem kI_X_hasOrdinal : (Cond.instanceMethod ({ cls := "IssueRows", name := "hasOrdinal", desc := "(II)Z" } : MethodName)) ∈ WA := WA_t (List.mem_append_left _ (List.mem_of_getElem? (i := 146) rfl)) rfl
theorem kC_X_hasOrdinal : (Cond.code ({ cls := "IssueRows", name := "hasOrdinal", desc := "(II)Z" } : MethodName) prog_1_method_23_code (4 : Nat) (Option.some FieldType.boolean)) ∈ WA := WA_t (List.mem_append_left _ (List.mem_of_getElem? (i := 147) rfl)) rfl
theorem kA_I : (Cond.instantiable "IssueRows$Issue" (14 : Nat)) ∈ WA := WA_t (List.mem_append_left _ (List.mem_of_getElem? (i := 148) rfl)) rfl
theorem kM_X_79 : (Cond.methodLink "IssueRows" (79 : Nat) ({ cls := "IssueRows$Issue", name := "<init>", desc := "(IIIIZ)V" } : MethodName)) ∈ WA := WA_t (List.mem_append_left _ (List.mem_of_getElem? (i := 149) rfl)) rfl
theorem kI_I_init : (Cond.instanceMethod ({ cls := "IssueRows$Issue", name := "<init>", desc := "(IIIIZ)V" } : MethodName)) ∈ WA := WA_t (List.mem_append_left _ (List.mem_of_getElem? (i := 150) rfl)) rfl
theorem kC_I_init : (Cond.code ({ cls := "IssueRows$Issue", name := "<init>", desc := "(IIIIZ)V" } : MethodName) prog_2_method_1_code (6 : Nat) (Option.none : Option FieldType)) ∈ WA := WA_t (List.mem_append_left _ (List.mem_of_getElem? (i := 151) rfl)) rfl
theorem kM_I_3 : (Cond.methodLink "IssueRows$Issue" (3 : Nat) ({ cls := "java/lang/Object", name := "<init>", desc := "()V" } : MethodName)) ∈ WA := WA_t (List.mem_append_left _ (List.mem_of_getElem? (i := 152) rfl)) rfl
theorem kL_I_9 : (Cond.classLink "IssueRows$Issue" (9 : Nat) "IssueRows$Routing") ∈ WA := WA_t (List.mem_append_left _ (List.mem_of_getElem? (i := 153) rfl)) rfl
theorem kA_G : (Cond.instantiable "IssueRows$Routing" (5 : Nat)) ∈ WA := WA_t (List.mem_append_left _ (List.mem_of_getElem? (i := 154) rfl)) rfl
theorem kI_G_init : (Cond.instanceMethod ({ cls := "IssueRows$Routing", name := "<init>", desc := "()V" } : MethodName)) ∈ WA := WA_t (List.mem_append_left _ (List.mem_of_getElem? (i := 156) rfl)) rfl
theorem kC_G_init : (Cond.code ({ cls := "IssueRows$Routing", name := "<init>", desc := "()V" } : MethodName) prog_4_method_1_code (1 : Nat) (Option.none : Option FieldType)) ∈ WA := WA_t (List.mem_append_left _ (List.mem_of_getElem? (i := 157) rfl)) rfl
theorem kM_G_3 : (Cond.methodLink "IssueRows$Routing" (3 : Nat) ({ cls := "java/lang/Object", name := "<init>", desc := "()V" } : MethodName)) ∈ WA := WA_t (List.mem_append_left _ (List.mem_of_getElem? (i := 158) rfl)) rfl
theorem kF_G_9 : (Cond.fieldLink "IssueRows$Routing" (9 : Nat) "IssueRows$Routing" "persons" "[I") ∈ WA := WA_t (List.mem_append_left _ (List.mem_of_getElem? (i := 159) rfl)) rfl
theorem kF_G_15 : (Cond.fieldLink "IssueRows$Routing" (15 : Nat) "IssueRows$Routing" "days" "[I") ∈ WA := WA_t (List.mem_append_left _ (List.mem_of_getElem? (i := 160) rfl)) rfl
theorem kF_G_18 : (Cond.fieldLink "IssueRows$Routing" (18 : Nat) "IssueRows$Routing" "size" "I") ∈ WA := WA_t (List.mem_append_left _ (List.mem_of_getElem? (i := 161) rfl)) rfl
theorem kF_X_147 : (Cond.fieldLink "IssueRows" (147 : Nat) "IssueRows$Routing" "size" "I") ∈ WA := WA_t (List.mem_append_left _ (List.mem_of_getElem? (i := 162) rfl)) rfl
theorem kF_G_22 : (Cond.fieldLink "IssueRows$Routing" (22 : Nat) "IssueRows$Routing" "place" "I") ∈ WA := WA_t (List.mem_append_left _ (List.mem_of_getElem? (i := 163) rfl)) rfl
theorem kF_G_25 : (Cond.fieldLink "IssueRows$Routing" (25 : Nat) "IssueRows$Routing" "since" "I") ∈ WA := WA_t (List.mem_append_left _ (List.mem_of_getElem? (i := 164) rfl)) rfl
theorem kF_X_158 : (Cond.fieldLink "IssueRows" (158 : Nat) "IssueRows$Routing" "since" "I") ∈ WA := WA_t (List.mem_append_left _ (List.mem_of_getElem? (i := 165) rfl)) rfl
theorem kY_G_persons : (Cond.laysFinal "IssueRows$Routing" "IssueRows$Routing" "persons" "[I") ∈ WA := WA_t (List.mem_append_left _ (List.mem_of_getElem? (i := 166) rfl)) rfl
theorem kY_G_days : (Cond.laysFinal "IssueRows$Routing" "IssueRows$Routing" "days" "[I") ∈ WA := WA_t (List.mem_append_left _ (List.mem_of_getElem? (i := 168) rfl)) rfl
theorem kY_G_size : (Cond.lays "IssueRows$Routing" "IssueRows$Routing" "size" "I") ∈ WA := WA_t (List.mem_append_left _ (List.mem_of_getElem? (i := 170) rfl)) rfl
theorem kY_G_place : (Cond.lays "IssueRows$Routing" "IssueRows$Routing" "place" "I") ∈ WA := WA_t (List.mem_append_left _ (List.mem_of_getElem? (i := 172) rfl)) rfl
theorem kY_G_since : (Cond.lays "IssueRows$Routing" "IssueRows$Routing" "since" "I") ∈ WA := WA_t (List.mem_append_left _ (List.mem_of_getElem? (i := 174) rfl)) rfl
theorem kF_I_40 : (Cond.fieldLink "IssueRows$Issue" (40 : Nat) "IssueRows$Issue" "number" "I") ∈ WA := WA_t (List.mem_append_left _ (List.mem_of_getElem? (i := 177) rfl)) rfl
theorem kF_X_86 : (Cond.fieldLink "IssueRows" (86 : Nat) "IssueRows$Issue" "number" "I") ∈ WA := WA_t (List.mem_append_left _ (List.mem_of_getElem? (i := 178) rfl)) rfl
theorem kF_I_43 : (Cond.fieldLink "IssueRows$Issue" (43 : Nat) "IssueRows$Issue" "pattern" "I") ∈ WA := WA_t (List.mem_append_left _ (List.mem_of_getElem? (i := 179) rfl)) rfl
theorem kF_X_167 : (Cond.fieldLink "IssueRows" (167 : Nat) "IssueRows$Issue" "pattern" "I") ∈ WA := WA_t (List.mem_append_left _ (List.mem_of_getElem? (i := 180) rfl)) rfl
theorem kF_I_46 : (Cond.fieldLink "IssueRows$Issue" (46 : Nat) "IssueRows$Issue" "ordinal" "I") ∈ WA := WA_t (List.mem_append_left _ (List.mem_of_getElem? (i := 181) rfl)) rfl
theorem kF_X_170 : (Cond.fieldLink "IssueRows" (170 : Nat) "IssueRows$Issue" "ordinal" "I") ∈ WA := WA_t (List.mem_append_left _ (List.mem_of_getElem? (i := 182) rfl)) rfl
theorem kF_I_49 : (Cond.fieldLink "IssueRows$Issue" (49 : Nat) "IssueRows$Issue" "expected" "I") ∈ WA := WA_t (List.mem_append_left _ (List.mem_of_getElem? (i := 183) rfl)) rfl
theorem kF_U_26 : (Cond.fieldLink "IssueRows$Rule" (26 : Nat) "IssueRows$Issue" "expected" "I") ∈ WA := WA_t (List.mem_append_left _ (List.mem_of_getElem? (i := 184) rfl)) rfl
theorem kF_X_104 : (Cond.fieldLink "IssueRows" (104 : Nat) "IssueRows$Issue" "expected" "I") ∈ WA := WA_t (List.mem_append_left _ (List.mem_of_getElem? (i := 185) rfl)) rfl
theorem kF_I_52 : (Cond.fieldLink "IssueRows$Issue" (52 : Nat) "IssueRows$Issue" "replacement" "Z") ∈ WA := WA_t (List.mem_append_left _ (List.mem_of_getElem? (i := 186) rfl)) rfl
theorem kF_I_12 : (Cond.fieldLink "IssueRows$Issue" (12 : Nat) "IssueRows$Issue" "routing" "LIssueRows$Routing;") ∈ WA := WA_t (List.mem_append_left _ (List.mem_of_getElem? (i := 187) rfl)) rfl
theorem kF_X_134 : (Cond.fieldLink "IssueRows" (134 : Nat) "IssueRows$Issue" "routing" "LIssueRows$Routing;") ∈ WA := WA_t (List.mem_append_left _ (List.mem_of_getElem? (i := 188) rfl)) rfl
theorem kF_I_56 : (Cond.fieldLink "IssueRows$Issue" (56 : Nat) "IssueRows$Issue" "state" "I") ∈ WA := WA_t (List.mem_append_left _ (List.mem_of_getElem? (i := 189) rfl)) rfl
theorem kF_U_21 : (Cond.fieldLink "IssueRows$Rule" (21 : Nat) "IssueRows$Issue" "state" "I") ∈ WA := WA_t (List.mem_append_left _ (List.mem_of_getElem? (i := 190) rfl)) rfl
theorem kF_X_97 : (Cond.fieldLink "IssueRows" (97 : Nat) "IssueRows$Issue" "state" "I") ∈ WA := WA_t (List.mem_append_left _ (List.mem_of_getElem? (i := 191) rfl)) rfl
theorem kF_I_18 : (Cond.fieldLink "IssueRows$Issue" (18 : Nat) "IssueRows$Issue" "claims" "I") ∈ WA := WA_t (List.mem_append_left _ (List.mem_of_getElem? (i := 192) rfl)) rfl
theorem kF_X_217 : (Cond.fieldLink "IssueRows" (217 : Nat) "IssueRows$Issue" "claims" "I") ∈ WA := WA_t (List.mem_append_left _ (List.mem_of_getElem? (i := 193) rfl)) rfl
theorem kF_I_22 : (Cond.fieldLink "IssueRows$Issue" (22 : Nat) "IssueRows$Issue" "claimedOn" "I") ∈ WA := WA_t (List.mem_append_left _ (List.mem_of_getElem? (i := 194) rfl)) rfl
theorem kF_U_29 : (Cond.fieldLink "IssueRows$Rule" (29 : Nat) "IssueRows$Issue" "claimedOn" "I") ∈ WA := WA_t (List.mem_append_left _ (List.mem_of_getElem? (i := 195) rfl)) rfl
theorem kF_I_25 : (Cond.fieldLink "IssueRows$Issue" (25 : Nat) "IssueRows$Issue" "copies" "I") ∈ WA := WA_t (List.mem_append_left _ (List.mem_of_getElem? (i := 196) rfl)) rfl
theorem kF_I_28 : (Cond.fieldLink "IssueRows$Issue" (28 : Nat) "IssueRows$Issue" "came" "I") ∈ WA := WA_t (List.mem_append_left _ (List.mem_of_getElem? (i := 197) rfl)) rfl
theorem kF_I_31 : (Cond.fieldLink "IssueRows$Issue" (31 : Nat) "IssueRows$Issue" "volume" "I") ∈ WA := WA_t (List.mem_append_left _ (List.mem_of_getElem? (i := 198) rfl)) rfl
theorem kF_X_226 : (Cond.fieldLink "IssueRows" (226 : Nat) "IssueRows$Issue" "volume" "I") ∈ WA := WA_t (List.mem_append_left _ (List.mem_of_getElem? (i := 199) rfl)) rfl
theorem kF_I_34 : (Cond.fieldLink "IssueRows$Issue" (34 : Nat) "IssueRows$Issue" "replacedBy" "I") ∈ WA := WA_t (List.mem_append_left _ (List.mem_of_getElem? (i := 200) rfl)) rfl
theorem kF_X_173 : (Cond.fieldLink "IssueRows" (173 : Nat) "IssueRows$Issue" "replacedBy" "I") ∈ WA := WA_t (List.mem_append_left _ (List.mem_of_getElem? (i := 201) rfl)) rfl
theorem kF_I_37 : (Cond.fieldLink "IssueRows$Issue" (37 : Nat) "IssueRows$Issue" "cents" "I") ∈ WA := WA_t (List.mem_append_left _ (List.mem_of_getElem? (i := 202) rfl)) rfl
theorem kF_X_205 : (Cond.fieldLink "IssueRows" (205 : Nat) "IssueRows$Issue" "cents" "I") ∈ WA := WA_t (List.mem_append_left _ (List.mem_of_getElem? (i := 203) rfl)) rfl
theorem kY_I_number : (Cond.laysFinal "IssueRows$Issue" "IssueRows$Issue" "number" "I") ∈ WA := WA_t (List.mem_append_left _ (List.mem_of_getElem? (i := 204) rfl)) rfl
theorem kY_I_pattern : (Cond.laysFinal "IssueRows$Issue" "IssueRows$Issue" "pattern" "I") ∈ WA := WA_t (List.mem_append_left _ (List.mem_of_getElem? (i := 206) rfl)) rfl
theorem kY_I_ordinal : (Cond.laysFinal "IssueRows$Issue" "IssueRows$Issue" "ordinal" "I") ∈ WA := WA_t (List.mem_append_left _ (List.mem_of_getElem? (i := 208) rfl)) rfl
theorem kY_I_expected : (Cond.laysFinal "IssueRows$Issue" "IssueRows$Issue" "expected" "I") ∈ WA := WA_t (List.mem_append_left _ (List.mem_of_getElem? (i := 210) rfl)) rfl
theorem kY_I_replacement : (Cond.laysFinal "IssueRows$Issue" "IssueRows$Issue" "replacement" "Z") ∈ WA := WA_t (List.mem_append_left _ (List.mem_of_getElem? (i := 212) rfl)) rfl
theorem kY_I_routing : (Cond.laysFinal "IssueRows$Issue" "IssueRows$Issue" "routing" "LIssueRows$Routing;") ∈ WA := WA_t (List.mem_append_left _ (List.mem_of_getElem? (i := 214) rfl)) rfl
theorem kY_I_state : (Cond.lays "IssueRows$Issue" "IssueRows$Issue" "state" "I") ∈ WA := WA_t (List.mem_append_left _ (List.mem_of_getElem? (i := 216) rfl)) rfl
theorem kY_I_claims : (Cond.lays "IssueRows$Issue" "IssueRows$Issue" "claims" "I") ∈ WA := WA_t (List.mem_append_left _ (List.mem_of_getElem? (i := 218) rfl)) rfl
theorem kY_I_claimedOn : (Cond.lays "IssueRows$Issue" "IssueRows$Issue" "claimedOn" "I") ∈ WA := WA_t (List.mem_append_left _ (List.mem_of_getElem? (i := 220) rfl)) rfl
theorem kY_I_copies : (Cond.lays "IssueRows$Issue" "IssueRows$Issue" "copies" "I") ∈ WA := WA_t (List.mem_append_left _ (List.mem_of_getElem? (i := 222) rfl)) rfl
theorem kY_I_came : (Cond.lays "IssueRows$Issue" "IssueRows$Issue" "came" "I") ∈ WA := WA_t (List.mem_append_left _ (List.mem_of_getElem? (i := 224) rfl)) rfl
theorem kY_I_volume : (Cond.lays "IssueRows$Issue" "IssueRows$Issue" "volume" "I") ∈ WA := WA_t (List.mem_append_left _ (List.mem_of_getElem? (i := 226) rfl)) rfl
theorem kY_I_replacedBy : (Cond.lays "IssueRows$Issue" "IssueRows$Issue" "replacedBy" "I") ∈ WA := WA_t (List.mem_append_left _ (List.mem_of_getElem? (i := 228) rfl)) rfl
theorem kY_I_cents : (Cond.lays "IssueRows$Issue" "IssueRows$Issue" "cents" "I") ∈ WA := WA_t (List.mem_append_left _ (List.mem_of_getElem? (i := 230) rfl)) rfl
theorem kM_X_82 : (Cond.methodLink "IssueRows" (82 : Nat) ({ cls := "IssueRows", name := "keep", desc := "(LIssueRows$Issue;)V" } : MethodName)) ∈ WA := WA_t (List.mem_append_left _ (List.mem_of_getElem? (i := 233) rfl)) rfl
theorem kI_X_keep : (Cond.instanceMethod ({ cls := "IssueRows", name := "keep", desc := "(LIssueRows$Issue;)V" } : MethodName)) ∈ WA := WA_t (List.mem_append_left _ (List.mem_of_getElem? (i := 235) rfl)) rfl
theorem kC_X_keep : (Cond.code ({ cls := "IssueRows", name := "keep", desc := "(LIssueRows$Issue;)V" } : MethodName) prog_1_method_24_code (3 : Nat) (Option.none : Option FieldType)) ∈ WA := WA_t (List.mem_append_left _ (List.mem_of_getElem? (i := 236) rfl)) rfl
theorem kM_L_35 : (Cond.methodLink "IssueRowsLaw" (35 : Nat) ({ cls := "IssueRows", name := "checkIn", desc := "(III)I" } : MethodName)) ∈ WA := WA_t (List.mem_append_left _ (List.mem_of_getElem? (i := 237) rfl)) rfl
theorem kI_X_checkIn : (Cond.instanceMethod ({ cls := "IssueRows", name := "checkIn", desc := "(III)I" } : MethodName)) ∈ WA := WA_t (List.mem_append_left _ (List.mem_of_getElem? (i := 238) rfl)) rfl
theorem kV_X_checkIn : (Cond.selects "IssueRows" ({ cls := "IssueRows", name := "checkIn", desc := "(III)I" } : MethodName) ({ cls := "IssueRows", name := "checkIn", desc := "(III)I" } : MethodName)) ∈ WA := WA_t (List.mem_append_left _ (List.mem_of_getElem? (i := 239) rfl)) rfl
theorem kC_X_checkIn : (Cond.code ({ cls := "IssueRows", name := "checkIn", desc := "(III)I" } : MethodName) prog_1_method_4_code (6 : Nat) (Option.some FieldType.int)) ∈ WA := WA_t (List.mem_append_right _ (List.mem_append_left _ (List.mem_of_getElem? (i := 0) rfl))) rfl
theorem kM_X_89 : (Cond.methodLink "IssueRows" (89 : Nat) ({ cls := "IssueRows", name := "find", desc := "(I)LIssueRows$Issue;" } : MethodName)) ∈ WA := WA_t (List.mem_append_right _ (List.mem_append_left _ (List.mem_of_getElem? (i := 1) rfl))) rfl
theorem kI_X_find : (Cond.instanceMethod ({ cls := "IssueRows", name := "find", desc := "(I)LIssueRows$Issue;" } : MethodName)) ∈ WA := WA_t (List.mem_append_right _ (List.mem_append_left _ (List.mem_of_getElem? (i := 3) rfl))) rfl
theorem kC_X_find : (Cond.code ({ cls := "IssueRows", name := "find", desc := "(I)LIssueRows$Issue;" } : MethodName) prog_1_method_22_code (2 : Nat) (Option.some (FieldType.object "IssueRows$Issue"))) ∈ WA := WA_t (List.mem_append_right _ (List.mem_append_left _ (List.mem_of_getElem? (i := 4) rfl))) rfl
theorem kM_X_93 : (Cond.methodLink "IssueRows" (93 : Nat) ({ cls := "IssueRows$Issue", name := "isAwaited", desc := "()Z" } : MethodName)) ∈ WA := WA_t (List.mem_append_right _ (List.mem_append_left _ (List.mem_of_getElem? (i := 5) rfl))) rfl
theorem kI_I_isAwaited : (Cond.instanceMethod ({ cls := "IssueRows$Issue", name := "isAwaited", desc := "()Z" } : MethodName)) ∈ WA := WA_t (List.mem_append_right _ (List.mem_append_left _ (List.mem_of_getElem? (i := 6) rfl))) rfl
theorem kV_I_isAwaited : (Cond.selects "IssueRows$Issue" ({ cls := "IssueRows$Issue", name := "isAwaited", desc := "()Z" } : MethodName) ({ cls := "IssueRows$Issue", name := "isAwaited", desc := "()Z" } : MethodName)) ∈ WA := WA_t (List.mem_append_right _ (List.mem_append_left _ (List.mem_of_getElem? (i := 7) rfl))) rfl
theorem kC_I_isAwaited : (Cond.code ({ cls := "IssueRows$Issue", name := "isAwaited", desc := "()Z" } : MethodName) prog_2_method_2_code (1 : Nat) (Option.some FieldType.boolean)) ∈ WA := WA_t (List.mem_append_right _ (List.mem_append_left _ (List.mem_of_getElem? (i := 8) rfl))) rfl
theorem kM_X_100 : (Cond.methodLink "IssueRows" (100 : Nat) ({ cls := "IssueRows$Pairs", name := "add", desc := "(II)V" } : MethodName)) ∈ WA := WA_t (List.mem_append_right _ (List.mem_append_left _ (List.mem_of_getElem? (i := 9) rfl))) rfl
theorem kI_P_add : (Cond.instanceMethod ({ cls := "IssueRows$Pairs", name := "add", desc := "(II)V" } : MethodName)) ∈ WA := WA_t (List.mem_append_right _ (List.mem_append_left _ (List.mem_of_getElem? (i := 10) rfl))) rfl
theorem kV_P_add : (Cond.selects "IssueRows$Pairs" ({ cls := "IssueRows$Pairs", name := "add", desc := "(II)V" } : MethodName) ({ cls := "IssueRows$Pairs", name := "add", desc := "(II)V" } : MethodName)) ∈ WA := WA_t (List.mem_append_right _ (List.mem_append_left _ (List.mem_of_getElem? (i := 11) rfl))) rfl
theorem kC_P_add : (Cond.code ({ cls := "IssueRows$Pairs", name := "add", desc := "(II)V" } : MethodName) prog_3_method_3_code (3 : Nat) (Option.none : Option FieldType)) ∈ WA := WA_t (List.mem_append_right _ (List.mem_append_left _ (List.mem_of_getElem? (i := 12) rfl))) rfl
theorem kM_X_107 : (Cond.methodLink "IssueRows" (107 : Nat) ({ cls := "IssueRows$Issue", name := "arrive", desc := "(II)V" } : MethodName)) ∈ WA := WA_t (List.mem_append_right _ (List.mem_append_left _ (List.mem_of_getElem? (i := 13) rfl))) rfl
theorem kI_I_arrive : (Cond.instanceMethod ({ cls := "IssueRows$Issue", name := "arrive", desc := "(II)V" } : MethodName)) ∈ WA := WA_t (List.mem_append_right _ (List.mem_append_left _ (List.mem_of_getElem? (i := 14) rfl))) rfl
theorem kV_I_arrive : (Cond.selects "IssueRows$Issue" ({ cls := "IssueRows$Issue", name := "arrive", desc := "(II)V" } : MethodName) ({ cls := "IssueRows$Issue", name := "arrive", desc := "(II)V" } : MethodName)) ∈ WA := WA_t (List.mem_append_right _ (List.mem_append_left _ (List.mem_of_getElem? (i := 15) rfl))) rfl
theorem kC_I_arrive : (Cond.code ({ cls := "IssueRows$Issue", name := "arrive", desc := "(II)V" } : MethodName) prog_2_method_5_code (3 : Nat) (Option.none : Option FieldType)) ∈ WA := WA_t (List.mem_append_right _ (List.mem_append_left _ (List.mem_of_getElem? (i := 16) rfl))) rfl
theorem kM_L_39 : (Cond.methodLink "IssueRowsLaw" (39 : Nat) ({ cls := "IssueRows", name := "claim", desc := "(I)I" } : MethodName)) ∈ WA := WA_t (List.mem_append_right _ (List.mem_append_left _ (List.mem_of_getElem? (i := 17) rfl))) rfl
theorem kI_X_claim : (Cond.instanceMethod ({ cls := "IssueRows", name := "claim", desc := "(I)I" } : MethodName)) ∈ WA := WA_t (List.mem_append_right _ (List.mem_append_left _ (List.mem_of_getElem? (i := 18) rfl))) rfl
theorem kV_X_claim : (Cond.selects "IssueRows" ({ cls := "IssueRows", name := "claim", desc := "(I)I" } : MethodName) ({ cls := "IssueRows", name := "claim", desc := "(I)I" } : MethodName)) ∈ WA := WA_t (List.mem_append_right _ (List.mem_append_left _ (List.mem_of_getElem? (i := 19) rfl))) rfl
theorem kC_X_claim : (Cond.code ({ cls := "IssueRows", name := "claim", desc := "(I)I" } : MethodName) prog_1_method_5_code (3 : Nat) (Option.some FieldType.int)) ∈ WA := WA_t (List.mem_append_right _ (List.mem_append_left _ (List.mem_of_getElem? (i := 20) rfl))) rfl
theorem kM_X_110 : (Cond.methodLink "IssueRows" (110 : Nat) ({ cls := "IssueRows$Pairs", name := "clear", desc := "()V" } : MethodName)) ∈ WA := WA_t (List.mem_append_right _ (List.mem_append_left _ (List.mem_of_getElem? (i := 21) rfl))) rfl
theorem kI_P_clear : (Cond.instanceMethod ({ cls := "IssueRows$Pairs", name := "clear", desc := "()V" } : MethodName)) ∈ WA := WA_t (List.mem_append_right _ (List.mem_append_left _ (List.mem_of_getElem? (i := 22) rfl))) rfl
theorem kV_P_clear : (Cond.selects "IssueRows$Pairs" ({ cls := "IssueRows$Pairs", name := "clear", desc := "()V" } : MethodName) ({ cls := "IssueRows$Pairs", name := "clear", desc := "()V" } : MethodName)) ∈ WA := WA_t (List.mem_append_right _ (List.mem_append_left _ (List.mem_of_getElem? (i := 23) rfl))) rfl
theorem kC_P_clear : (Cond.code ({ cls := "IssueRows$Pairs", name := "clear", desc := "()V" } : MethodName) prog_3_method_2_code (1 : Nat) (Option.none : Option FieldType)) ∈ WA := WA_t (List.mem_append_right _ (List.mem_append_left _ (List.mem_of_getElem? (i := 24) rfl))) rfl
theorem kM_X_113 : (Cond.methodLink "IssueRows" (113 : Nat) ({ cls := "IssueRows", name := "claimIfDue", desc := "(LIssueRows$Issue;I)V" } : MethodName)) ∈ WA := WA_t (List.mem_append_right _ (List.mem_append_left _ (List.mem_of_getElem? (i := 25) rfl))) rfl
theorem kI_X_claimIfDue : (Cond.instanceMethod ({ cls := "IssueRows", name := "claimIfDue", desc := "(LIssueRows$Issue;I)V" } : MethodName)) ∈ WA := WA_t (List.mem_append_right _ (List.mem_append_left _ (List.mem_of_getElem? (i := 27) rfl))) rfl
theorem kC_X_claimIfDue : (Cond.code ({ cls := "IssueRows", name := "claimIfDue", desc := "(LIssueRows$Issue;I)V" } : MethodName) prog_1_method_25_code (4 : Nat) (Option.none : Option FieldType)) ∈ WA := WA_t (List.mem_append_right _ (List.mem_append_left _ (List.mem_of_getElem? (i := 28) rfl))) rfl
theorem kM_X_213 : (Cond.methodLink "IssueRows" (213 : Nat) ({ cls := "IssueRows$Rule", name := "isDue", desc := "(LIssueRows$Issue;I)Z" } : MethodName)) ∈ WA := WA_t (List.mem_append_right _ (List.mem_append_left _ (List.mem_of_getElem? (i := 29) rfl))) rfl
theorem kI_U_isDue : (Cond.instanceMethod ({ cls := "IssueRows$Rule", name := "isDue", desc := "(LIssueRows$Issue;I)Z" } : MethodName)) ∈ WA := WA_t (List.mem_append_right _ (List.mem_append_left _ (List.mem_of_getElem? (i := 30) rfl))) rfl
theorem kV_U_isDue : (Cond.selects "IssueRows$Rule" ({ cls := "IssueRows$Rule", name := "isDue", desc := "(LIssueRows$Issue;I)Z" } : MethodName) ({ cls := "IssueRows$Rule", name := "isDue", desc := "(LIssueRows$Issue;I)Z" } : MethodName)) ∈ WA := WA_t (List.mem_append_right _ (List.mem_append_left _ (List.mem_of_getElem? (i := 31) rfl))) rfl
theorem kC_U_isDue : (Cond.code ({ cls := "IssueRows$Rule", name := "isDue", desc := "(LIssueRows$Issue;I)Z" } : MethodName) prog_5_method_2_code (3 : Nat) (Option.some FieldType.boolean)) ∈ WA := WA_t (List.mem_append_right _ (List.mem_append_left _ (List.mem_of_getElem? (i := 32) rfl))) rfl
theorem kM_X_220 : (Cond.methodLink "IssueRows" (220 : Nat) ({ cls := "IssueRows$Issue", name := "claimOn", desc := "(I)V" } : MethodName)) ∈ WA := WA_t (List.mem_append_right _ (List.mem_append_left _ (List.mem_of_getElem? (i := 33) rfl))) rfl
theorem kI_I_claimOn : (Cond.instanceMethod ({ cls := "IssueRows$Issue", name := "claimOn", desc := "(I)V" } : MethodName)) ∈ WA := WA_t (List.mem_append_right _ (List.mem_append_left _ (List.mem_of_getElem? (i := 34) rfl))) rfl
theorem kV_I_claimOn : (Cond.selects "IssueRows$Issue" ({ cls := "IssueRows$Issue", name := "claimOn", desc := "(I)V" } : MethodName) ({ cls := "IssueRows$Issue", name := "claimOn", desc := "(I)V" } : MethodName)) ∈ WA := WA_t (List.mem_append_right _ (List.mem_append_left _ (List.mem_of_getElem? (i := 35) rfl))) rfl
theorem kC_I_claimOn : (Cond.code ({ cls := "IssueRows$Issue", name := "claimOn", desc := "(I)V" } : MethodName) prog_2_method_6_code (2 : Nat) (Option.none : Option FieldType)) ∈ WA := WA_t (List.mem_append_right _ (List.mem_append_left _ (List.mem_of_getElem? (i := 36) rfl))) rfl
theorem kM_L_54 : (Cond.methodLink "IssueRowsLaw" (54 : Nat) ({ cls := "IssueRows", name := "list", desc := "(III)I" } : MethodName)) ∈ WA := WA_t (List.mem_append_right _ (List.mem_append_left _ (List.mem_of_getElem? (i := 37) rfl))) rfl
theorem kI_X_list : (Cond.instanceMethod ({ cls := "IssueRows", name := "list", desc := "(III)I" } : MethodName)) ∈ WA := WA_t (List.mem_append_right _ (List.mem_append_left _ (List.mem_of_getElem? (i := 38) rfl))) rfl
theorem kV_X_list : (Cond.selects "IssueRows" ({ cls := "IssueRows", name := "list", desc := "(III)I" } : MethodName) ({ cls := "IssueRows", name := "list", desc := "(III)I" } : MethodName)) ∈ WA := WA_t (List.mem_append_right _ (List.mem_append_left _ (List.mem_of_getElem? (i := 39) rfl))) rfl
theorem kC_X_list : (Cond.code ({ cls := "IssueRows", name := "list", desc := "(III)I" } : MethodName) prog_1_method_7_code (5 : Nat) (Option.some FieldType.int)) ∈ WA := WA_t (List.mem_append_right _ (List.mem_append_left _ (List.mem_of_getElem? (i := 40) rfl))) rfl
theorem kM_X_138 : (Cond.methodLink "IssueRows" (138 : Nat) ({ cls := "IssueRows$Routing", name := "isStarted", desc := "()Z" } : MethodName)) ∈ WA := WA_t (List.mem_append_right _ (List.mem_append_left _ (List.mem_of_getElem? (i := 41) rfl))) rfl
theorem kI_G_isStarted : (Cond.instanceMethod ({ cls := "IssueRows$Routing", name := "isStarted", desc := "()Z" } : MethodName)) ∈ WA := WA_t (List.mem_append_right _ (List.mem_append_left _ (List.mem_of_getElem? (i := 42) rfl))) rfl
theorem kV_G_isStarted : (Cond.selects "IssueRows$Routing" ({ cls := "IssueRows$Routing", name := "isStarted", desc := "()Z" } : MethodName) ({ cls := "IssueRows$Routing", name := "isStarted", desc := "()Z" } : MethodName)) ∈ WA := WA_t (List.mem_append_right _ (List.mem_append_left _ (List.mem_of_getElem? (i := 43) rfl))) rfl
theorem kC_G_isStarted : (Cond.code ({ cls := "IssueRows$Routing", name := "isStarted", desc := "()Z" } : MethodName) prog_4_method_3_code (1 : Nat) (Option.some FieldType.boolean)) ∈ WA := WA_t (List.mem_append_right _ (List.mem_append_left _ (List.mem_of_getElem? (i := 44) rfl))) rfl
theorem kM_X_143 : (Cond.methodLink "IssueRows" (143 : Nat) ({ cls := "IssueRows$Routing", name := "isFull", desc := "()Z" } : MethodName)) ∈ WA := WA_t (List.mem_append_right _ (List.mem_append_left _ (List.mem_of_getElem? (i := 45) rfl))) rfl
theorem kI_G_isFull : (Cond.instanceMethod ({ cls := "IssueRows$Routing", name := "isFull", desc := "()Z" } : MethodName)) ∈ WA := WA_t (List.mem_append_right _ (List.mem_append_left _ (List.mem_of_getElem? (i := 46) rfl))) rfl
theorem kV_G_isFull : (Cond.selects "IssueRows$Routing" ({ cls := "IssueRows$Routing", name := "isFull", desc := "()Z" } : MethodName) ({ cls := "IssueRows$Routing", name := "isFull", desc := "()Z" } : MethodName)) ∈ WA := WA_t (List.mem_append_right _ (List.mem_append_left _ (List.mem_of_getElem? (i := 47) rfl))) rfl
theorem kC_G_isFull : (Cond.code ({ cls := "IssueRows$Routing", name := "isFull", desc := "()Z" } : MethodName) prog_4_method_2_code (1 : Nat) (Option.some FieldType.boolean)) ∈ WA := WA_t (List.mem_append_right _ (List.mem_append_left _ (List.mem_of_getElem? (i := 48) rfl))) rfl
theorem kM_X_146 : (Cond.methodLink "IssueRows" (146 : Nat) ({ cls := "IssueRows$Routing", name := "add", desc := "(II)V" } : MethodName)) ∈ WA := WA_t (List.mem_append_right _ (List.mem_append_left _ (List.mem_of_getElem? (i := 49) rfl))) rfl
theorem kI_G_add : (Cond.instanceMethod ({ cls := "IssueRows$Routing", name := "add", desc := "(II)V" } : MethodName)) ∈ WA := WA_t (List.mem_append_right _ (List.mem_append_left _ (List.mem_of_getElem? (i := 50) rfl))) rfl
theorem kV_G_add : (Cond.selects "IssueRows$Routing" ({ cls := "IssueRows$Routing", name := "add", desc := "(II)V" } : MethodName) ({ cls := "IssueRows$Routing", name := "add", desc := "(II)V" } : MethodName)) ∈ WA := WA_t (List.mem_append_right _ (List.mem_append_left _ (List.mem_of_getElem? (i := 51) rfl))) rfl
theorem kC_G_add : (Cond.code ({ cls := "IssueRows$Routing", name := "add", desc := "(II)V" } : MethodName) prog_4_method_7_code (3 : Nat) (Option.none : Option FieldType)) ∈ WA := WA_t (List.mem_append_right _ (List.mem_append_left _ (List.mem_of_getElem? (i := 52) rfl))) rfl
theorem kM_G_32 : (Cond.methodLink "IssueRows$Routing" (32 : Nat) ({ cls := "IssueRows$Routing", name := "isFull", desc := "()Z" } : MethodName)) ∈ WA := WA_t (List.mem_append_right _ (List.mem_append_left _ (List.mem_of_getElem? (i := 53) rfl))) rfl
theorem kM_L_58 : (Cond.methodLink "IssueRowsLaw" (58 : Nat) ({ cls := "IssueRows", name := "route", desc := "(II)I" } : MethodName)) ∈ WA := WA_t (List.mem_append_right _ (List.mem_append_left _ (List.mem_of_getElem? (i := 54) rfl))) rfl
theorem kI_X_route : (Cond.instanceMethod ({ cls := "IssueRows", name := "route", desc := "(II)I" } : MethodName)) ∈ WA := WA_t (List.mem_append_right _ (List.mem_append_left _ (List.mem_of_getElem? (i := 55) rfl))) rfl
theorem kV_X_route : (Cond.selects "IssueRows" ({ cls := "IssueRows", name := "route", desc := "(II)I" } : MethodName) ({ cls := "IssueRows", name := "route", desc := "(II)I" } : MethodName)) ∈ WA := WA_t (List.mem_append_right _ (List.mem_append_left _ (List.mem_of_getElem? (i := 56) rfl))) rfl
theorem kC_X_route : (Cond.code ({ cls := "IssueRows", name := "route", desc := "(II)I" } : MethodName) prog_1_method_8_code (4 : Nat) (Option.some FieldType.int)) ∈ WA := WA_t (List.mem_append_right _ (List.mem_append_left _ (List.mem_of_getElem? (i := 57) rfl))) rfl
theorem kM_X_148 : (Cond.methodLink "IssueRows" (148 : Nat) ({ cls := "IssueRows$Routing", name := "passOn", desc := "(I)V" } : MethodName)) ∈ WA := WA_t (List.mem_append_right _ (List.mem_append_left _ (List.mem_of_getElem? (i := 58) rfl))) rfl
theorem kI_G_passOn : (Cond.instanceMethod ({ cls := "IssueRows$Routing", name := "passOn", desc := "(I)V" } : MethodName)) ∈ WA := WA_t (List.mem_append_right _ (List.mem_append_left _ (List.mem_of_getElem? (i := 59) rfl))) rfl
theorem kV_G_passOn : (Cond.selects "IssueRows$Routing" ({ cls := "IssueRows$Routing", name := "passOn", desc := "(I)V" } : MethodName) ({ cls := "IssueRows$Routing", name := "passOn", desc := "(I)V" } : MethodName)) ∈ WA := WA_t (List.mem_append_right _ (List.mem_append_left _ (List.mem_of_getElem? (i := 60) rfl))) rfl
theorem kC_G_passOn : (Cond.code ({ cls := "IssueRows$Routing", name := "passOn", desc := "(I)V" } : MethodName) prog_4_method_8_code (2 : Nat) (Option.none : Option FieldType)) ∈ WA := WA_t (List.mem_append_right _ (List.mem_append_left _ (List.mem_of_getElem? (i := 61) rfl))) rfl
theorem kM_X_151 : (Cond.methodLink "IssueRows" (151 : Nat) ({ cls := "IssueRows$Routing", name := "holder", desc := "()I" } : MethodName)) ∈ WA := WA_t (List.mem_append_right _ (List.mem_append_left _ (List.mem_of_getElem? (i := 62) rfl))) rfl
theorem kI_G_holder : (Cond.instanceMethod ({ cls := "IssueRows$Routing", name := "holder", desc := "()I" } : MethodName)) ∈ WA := WA_t (List.mem_append_right _ (List.mem_append_left _ (List.mem_of_getElem? (i := 63) rfl))) rfl
theorem kV_G_holder : (Cond.selects "IssueRows$Routing" ({ cls := "IssueRows$Routing", name := "holder", desc := "()I" } : MethodName) ({ cls := "IssueRows$Routing", name := "holder", desc := "()I" } : MethodName)) ∈ WA := WA_t (List.mem_append_right _ (List.mem_append_left _ (List.mem_of_getElem? (i := 64) rfl))) rfl
theorem kC_G_holder : (Cond.code ({ cls := "IssueRows$Routing", name := "holder", desc := "()I" } : MethodName) prog_4_method_6_code (1 : Nat) (Option.some FieldType.int)) ∈ WA := WA_t (List.mem_append_right _ (List.mem_append_left _ (List.mem_of_getElem? (i := 65) rfl))) rfl
theorem kM_G_28 : (Cond.methodLink "IssueRows$Routing" (28 : Nat) ({ cls := "IssueRows$Routing", name := "isOut", desc := "()Z" } : MethodName)) ∈ WA := WA_t (List.mem_append_right _ (List.mem_append_left _ (List.mem_of_getElem? (i := 66) rfl))) rfl
theorem kI_G_isOut : (Cond.instanceMethod ({ cls := "IssueRows$Routing", name := "isOut", desc := "()Z" } : MethodName)) ∈ WA := WA_t (List.mem_append_right _ (List.mem_append_left _ (List.mem_of_getElem? (i := 67) rfl))) rfl
theorem kV_G_isOut : (Cond.selects "IssueRows$Routing" ({ cls := "IssueRows$Routing", name := "isOut", desc := "()Z" } : MethodName) ({ cls := "IssueRows$Routing", name := "isOut", desc := "()Z" } : MethodName)) ∈ WA := WA_t (List.mem_append_right _ (List.mem_append_left _ (List.mem_of_getElem? (i := 68) rfl))) rfl
theorem kC_G_isOut : (Cond.code ({ cls := "IssueRows$Routing", name := "isOut", desc := "()Z" } : MethodName) prog_4_method_4_code (1 : Nat) (Option.some FieldType.boolean)) ∈ WA := WA_t (List.mem_append_right _ (List.mem_append_left _ (List.mem_of_getElem? (i := 69) rfl))) rfl
theorem kM_L_62 : (Cond.methodLink "IssueRowsLaw" (62 : Nat) ({ cls := "IssueRows", name := "returned", desc := "(II)I" } : MethodName)) ∈ WA := WA_t (List.mem_append_right _ (List.mem_append_left _ (List.mem_of_getElem? (i := 70) rfl))) rfl
theorem kI_X_returned : (Cond.instanceMethod ({ cls := "IssueRows", name := "returned", desc := "(II)I" } : MethodName)) ∈ WA := WA_t (List.mem_append_right _ (List.mem_append_left _ (List.mem_of_getElem? (i := 71) rfl))) rfl
theorem kV_X_returned : (Cond.selects "IssueRows" ({ cls := "IssueRows", name := "returned", desc := "(II)I" } : MethodName) ({ cls := "IssueRows", name := "returned", desc := "(II)I" } : MethodName)) ∈ WA := WA_t (List.mem_append_right _ (List.mem_append_left _ (List.mem_of_getElem? (i := 72) rfl))) rfl
theorem kC_X_returned : (Cond.code ({ cls := "IssueRows", name := "returned", desc := "(II)I" } : MethodName) prog_1_method_9_code (5 : Nat) (Option.some FieldType.int)) ∈ WA := WA_t (List.mem_append_right _ (List.mem_append_left _ (List.mem_of_getElem? (i := 73) rfl))) rfl
theorem kM_X_155 : (Cond.methodLink "IssueRows" (155 : Nat) ({ cls := "IssueRows$Routing", name := "isOut", desc := "()Z" } : MethodName)) ∈ WA := WA_t (List.mem_append_right _ (List.mem_append_left _ (List.mem_of_getElem? (i := 74) rfl))) rfl
theorem kM_X_161 : (Cond.methodLink "IssueRows" (161 : Nat) ({ cls := "IssueRows$Routing", name := "isLate", desc := "(I)Z" } : MethodName)) ∈ WA := WA_t (List.mem_append_right _ (List.mem_append_left _ (List.mem_of_getElem? (i := 75) rfl))) rfl
theorem kI_G_isLate : (Cond.instanceMethod ({ cls := "IssueRows$Routing", name := "isLate", desc := "(I)Z" } : MethodName)) ∈ WA := WA_t (List.mem_append_right _ (List.mem_append_left _ (List.mem_of_getElem? (i := 76) rfl))) rfl
theorem kV_G_isLate : (Cond.selects "IssueRows$Routing" ({ cls := "IssueRows$Routing", name := "isLate", desc := "(I)Z" } : MethodName) ({ cls := "IssueRows$Routing", name := "isLate", desc := "(I)Z" } : MethodName)) ∈ WA := WA_t (List.mem_append_right _ (List.mem_append_left _ (List.mem_of_getElem? (i := 77) rfl))) rfl
theorem kC_G_isLate : (Cond.code ({ cls := "IssueRows$Routing", name := "isLate", desc := "(I)Z" } : MethodName) prog_4_method_5_code (2 : Nat) (Option.some FieldType.boolean)) ∈ WA := WA_t (List.mem_append_right _ (List.mem_append_left _ (List.mem_of_getElem? (i := 78) rfl))) rfl
theorem kM_L_66 : (Cond.methodLink "IssueRowsLaw" (66 : Nat) ({ cls := "IssueRows", name := "replace", desc := "(II)I" } : MethodName)) ∈ WA := WA_t (List.mem_append_right _ (List.mem_append_left _ (List.mem_of_getElem? (i := 79) rfl))) rfl
theorem kI_X_replace : (Cond.instanceMethod ({ cls := "IssueRows", name := "replace", desc := "(II)I" } : MethodName)) ∈ WA := WA_t (List.mem_append_right _ (List.mem_append_left _ (List.mem_of_getElem? (i := 80) rfl))) rfl
theorem kV_X_replace : (Cond.selects "IssueRows" ({ cls := "IssueRows", name := "replace", desc := "(II)I" } : MethodName) ({ cls := "IssueRows", name := "replace", desc := "(II)I" } : MethodName)) ∈ WA := WA_t (List.mem_append_right _ (List.mem_append_left _ (List.mem_of_getElem? (i := 81) rfl))) rfl
theorem kC_X_replace : (Cond.code ({ cls := "IssueRows", name := "replace", desc := "(II)I" } : MethodName) prog_1_method_10_code (5 : Nat) (Option.some FieldType.int)) ∈ WA := WA_t (List.mem_append_right _ (List.mem_append_left _ (List.mem_of_getElem? (i := 82) rfl))) rfl
theorem kM_X_164 : (Cond.methodLink "IssueRows" (164 : Nat) ({ cls := "IssueRows$Issue", name := "isReplaceable", desc := "()Z" } : MethodName)) ∈ WA := WA_t (List.mem_append_right _ (List.mem_append_left _ (List.mem_of_getElem? (i := 83) rfl))) rfl
theorem kI_I_isReplaceable : (Cond.instanceMethod ({ cls := "IssueRows$Issue", name := "isReplaceable", desc := "()Z" } : MethodName)) ∈ WA := WA_t (List.mem_append_right _ (List.mem_append_left _ (List.mem_of_getElem? (i := 84) rfl))) rfl
theorem kV_I_isReplaceable : (Cond.selects "IssueRows$Issue" ({ cls := "IssueRows$Issue", name := "isReplaceable", desc := "()Z" } : MethodName) ({ cls := "IssueRows$Issue", name := "isReplaceable", desc := "()Z" } : MethodName)) ∈ WA := WA_t (List.mem_append_right _ (List.mem_append_left _ (List.mem_of_getElem? (i := 85) rfl))) rfl
theorem kC_I_isReplaceable : (Cond.code ({ cls := "IssueRows$Issue", name := "isReplaceable", desc := "()Z" } : MethodName) prog_2_method_4_code (1 : Nat) (Option.some FieldType.boolean)) ∈ WA := WA_t (List.mem_append_right _ (List.mem_append_left _ (List.mem_of_getElem? (i := 86) rfl))) rfl
theorem kM_I_59 : (Cond.methodLink "IssueRows$Issue" (59 : Nat) ({ cls := "IssueRows$Routing", name := "isOut", desc := "()Z" } : MethodName)) ∈ WA := WA_t (List.mem_append_right _ (List.mem_append_left _ (List.mem_of_getElem? (i := 87) rfl))) rfl
theorem kM_L_70 : (Cond.methodLink "IssueRowsLaw" (70 : Nat) ({ cls := "IssueRows", name := "bind", desc := "(II)I" } : MethodName)) ∈ WA := WA_t (List.mem_append_right _ (List.mem_append_left _ (List.mem_of_getElem? (i := 88) rfl))) rfl
theorem kI_X_bind : (Cond.instanceMethod ({ cls := "IssueRows", name := "bind", desc := "(II)I" } : MethodName)) ∈ WA := WA_t (List.mem_append_right _ (List.mem_append_left _ (List.mem_of_getElem? (i := 89) rfl))) rfl
theorem kV_X_bind : (Cond.selects "IssueRows" ({ cls := "IssueRows", name := "bind", desc := "(II)I" } : MethodName) ({ cls := "IssueRows", name := "bind", desc := "(II)I" } : MethodName)) ∈ WA := WA_t (List.mem_append_right _ (List.mem_append_left _ (List.mem_of_getElem? (i := 90) rfl))) rfl
theorem kC_X_bind : (Cond.code ({ cls := "IssueRows", name := "bind", desc := "(II)I" } : MethodName) prog_1_method_11_code (3 : Nat) (Option.some FieldType.int)) ∈ WA := WA_t (List.mem_append_right _ (List.mem_append_left _ (List.mem_of_getElem? (i := 91) rfl))) rfl
theorem kM_X_176 : (Cond.methodLink "IssueRows" (176 : Nat) ({ cls := "IssueRows", name := "isBindable", desc := "(II)Z" } : MethodName)) ∈ WA := WA_t (List.mem_append_right _ (List.mem_append_left _ (List.mem_of_getElem? (i := 92) rfl))) rfl
theorem kI_X_isBindable : (Cond.instanceMethod ({ cls := "IssueRows", name := "isBindable", desc := "(II)Z" } : MethodName)) ∈ WA := WA_t (List.mem_append_right _ (List.mem_append_left _ (List.mem_of_getElem? (i := 94) rfl))) rfl
theorem kC_X_isBindable : (Cond.code ({ cls := "IssueRows", name := "isBindable", desc := "(II)Z" } : MethodName) prog_1_method_26_code (6 : Nat) (Option.some FieldType.boolean)) ∈ WA := WA_t (List.mem_append_right _ (List.mem_append_left _ (List.mem_of_getElem? (i := 95) rfl))) rfl
theorem kM_X_179 : (Cond.methodLink "IssueRows" (179 : Nat) ({ cls := "IssueRows$Volumes", name := "isFull", desc := "()Z" } : MethodName)) ∈ WA := WA_t (List.mem_append_right _ (List.mem_append_left _ (List.mem_of_getElem? (i := 96) rfl))) rfl
theorem kI_V_isFull : (Cond.instanceMethod ({ cls := "IssueRows$Volumes", name := "isFull", desc := "()Z" } : MethodName)) ∈ WA := WA_t (List.mem_append_right _ (List.mem_append_left _ (List.mem_of_getElem? (i := 97) rfl))) rfl
theorem kV_V_isFull : (Cond.selects "IssueRows$Volumes" ({ cls := "IssueRows$Volumes", name := "isFull", desc := "()Z" } : MethodName) ({ cls := "IssueRows$Volumes", name := "isFull", desc := "()Z" } : MethodName)) ∈ WA := WA_t (List.mem_append_right _ (List.mem_append_left _ (List.mem_of_getElem? (i := 98) rfl))) rfl
theorem kC_V_isFull : (Cond.code ({ cls := "IssueRows$Volumes", name := "isFull", desc := "()Z" } : MethodName) prog_7_method_2_code (1 : Nat) (Option.some FieldType.boolean)) ∈ WA := WA_t (List.mem_append_right _ (List.mem_append_left _ (List.mem_of_getElem? (i := 99) rfl))) rfl
theorem kM_X_180 : (Cond.methodLink "IssueRows" (180 : Nat) ({ cls := "IssueRows", name := "bindNext", desc := "(II)I" } : MethodName)) ∈ WA := WA_t (List.mem_append_right _ (List.mem_append_left _ (List.mem_of_getElem? (i := 100) rfl))) rfl
theorem kI_X_bindNext : (Cond.instanceMethod ({ cls := "IssueRows", name := "bindNext", desc := "(II)I" } : MethodName)) ∈ WA := WA_t (List.mem_append_right _ (List.mem_append_left _ (List.mem_of_getElem? (i := 102) rfl))) rfl
theorem kC_X_bindNext : (Cond.code ({ cls := "IssueRows", name := "bindNext", desc := "(II)I" } : MethodName) prog_1_method_27_code (7 : Nat) (Option.some FieldType.int)) ∈ WA := WA_t (List.mem_append_right _ (List.mem_append_left _ (List.mem_of_getElem? (i := 103) rfl))) rfl
theorem kM_X_223 : (Cond.methodLink "IssueRows" (223 : Nat) ({ cls := "IssueRows$Volumes", name := "open", desc := "()I" } : MethodName)) ∈ WA := WA_t (List.mem_append_right _ (List.mem_append_left _ (List.mem_of_getElem? (i := 104) rfl))) rfl
theorem kI_V_open : (Cond.instanceMethod ({ cls := "IssueRows$Volumes", name := "open", desc := "()I" } : MethodName)) ∈ WA := WA_t (List.mem_append_right _ (List.mem_append_left _ (List.mem_of_getElem? (i := 105) rfl))) rfl
theorem kV_V_open : (Cond.selects "IssueRows$Volumes" ({ cls := "IssueRows$Volumes", name := "open", desc := "()I" } : MethodName) ({ cls := "IssueRows$Volumes", name := "open", desc := "()I" } : MethodName)) ∈ WA := WA_t (List.mem_append_right _ (List.mem_append_left _ (List.mem_of_getElem? (i := 106) rfl))) rfl
theorem kC_V_open : (Cond.code ({ cls := "IssueRows$Volumes", name := "open", desc := "()I" } : MethodName) prog_7_method_3_code (1 : Nat) (Option.some FieldType.int)) ∈ WA := WA_t (List.mem_append_right _ (List.mem_append_left _ (List.mem_of_getElem? (i := 107) rfl))) rfl
theorem kM_V_22 : (Cond.methodLink "IssueRows$Volumes" (22 : Nat) ({ cls := "IssueRows$Volumes", name := "isFull", desc := "()Z" } : MethodName)) ∈ WA := WA_t (List.mem_append_right _ (List.mem_append_left _ (List.mem_of_getElem? (i := 108) rfl))) rfl
theorem kM_X_229 : (Cond.methodLink "IssueRows" (229 : Nat) ({ cls := "IssueRows$Volumes", name := "add", desc := "(I)V" } : MethodName)) ∈ WA := WA_t (List.mem_append_right _ (List.mem_append_left _ (List.mem_of_getElem? (i := 109) rfl))) rfl
theorem kI_V_add : (Cond.instanceMethod ({ cls := "IssueRows$Volumes", name := "add", desc := "(I)V" } : MethodName)) ∈ WA := WA_t (List.mem_append_right _ (List.mem_append_left _ (List.mem_of_getElem? (i := 110) rfl))) rfl
theorem kV_V_add : (Cond.selects "IssueRows$Volumes" ({ cls := "IssueRows$Volumes", name := "add", desc := "(I)V" } : MethodName) ({ cls := "IssueRows$Volumes", name := "add", desc := "(I)V" } : MethodName)) ∈ WA := WA_t (List.mem_append_right _ (List.mem_append_left _ (List.mem_of_getElem? (i := 111) rfl))) rfl
theorem kC_V_add : (Cond.code ({ cls := "IssueRows$Volumes", name := "add", desc := "(I)V" } : MethodName) prog_7_method_4_code (2 : Nat) (Option.none : Option FieldType)) ∈ WA := WA_t (List.mem_append_right _ (List.mem_append_left _ (List.mem_of_getElem? (i := 112) rfl))) rfl
theorem kM_L_77 : (Cond.methodLink "IssueRowsLaw" (77 : Nat) ({ cls := "IssueRows", name := "statement", desc := "(I)I" } : MethodName)) ∈ WA := WA_t (List.mem_append_right _ (List.mem_append_left _ (List.mem_of_getElem? (i := 114) rfl))) rfl
theorem kI_X_statement : (Cond.instanceMethod ({ cls := "IssueRows", name := "statement", desc := "(I)I" } : MethodName)) ∈ WA := WA_t (List.mem_append_right _ (List.mem_append_left _ (List.mem_of_getElem? (i := 115) rfl))) rfl
theorem kV_X_statement : (Cond.selects "IssueRows" ({ cls := "IssueRows", name := "statement", desc := "(I)I" } : MethodName) ({ cls := "IssueRows", name := "statement", desc := "(I)I" } : MethodName)) ∈ WA := WA_t (List.mem_append_right _ (List.mem_append_left _ (List.mem_of_getElem? (i := 116) rfl))) rfl
theorem kC_X_statement : (Cond.code ({ cls := "IssueRows", name := "statement", desc := "(I)I" } : MethodName) prog_1_method_13_code (5 : Nat) (Option.some FieldType.int)) ∈ WA := WA_t (List.mem_append_right _ (List.mem_append_left _ (List.mem_of_getElem? (i := 117) rfl))) rfl
theorem kM_X_189 : (Cond.methodLink "IssueRows" (189 : Nat) ({ cls := "IssueRows$Statement", name := "clear", desc := "()V" } : MethodName)) ∈ WA := WA_t (List.mem_append_right _ (List.mem_append_left _ (List.mem_of_getElem? (i := 118) rfl))) rfl
theorem kI_S_clear : (Cond.instanceMethod ({ cls := "IssueRows$Statement", name := "clear", desc := "()V" } : MethodName)) ∈ WA := WA_t (List.mem_append_right _ (List.mem_append_left _ (List.mem_of_getElem? (i := 119) rfl))) rfl
theorem kV_S_clear : (Cond.selects "IssueRows$Statement" ({ cls := "IssueRows$Statement", name := "clear", desc := "()V" } : MethodName) ({ cls := "IssueRows$Statement", name := "clear", desc := "()V" } : MethodName)) ∈ WA := WA_t (List.mem_append_right _ (List.mem_append_left _ (List.mem_of_getElem? (i := 120) rfl))) rfl
theorem kC_S_clear : (Cond.code ({ cls := "IssueRows$Statement", name := "clear", desc := "()V" } : MethodName) prog_6_method_2_code (1 : Nat) (Option.none : Option FieldType)) ∈ WA := WA_t (List.mem_append_right _ (List.mem_append_left _ (List.mem_of_getElem? (i := 121) rfl))) rfl
theorem kM_X_190 : (Cond.methodLink "IssueRows" (190 : Nat) ({ cls := "IssueRows$Issue", name := "isThere", desc := "()Z" } : MethodName)) ∈ WA := WA_t (List.mem_append_right _ (List.mem_append_left _ (List.mem_of_getElem? (i := 122) rfl))) rfl
theorem kI_I_isThere : (Cond.instanceMethod ({ cls := "IssueRows$Issue", name := "isThere", desc := "()Z" } : MethodName)) ∈ WA := WA_t (List.mem_append_right _ (List.mem_append_left _ (List.mem_of_getElem? (i := 123) rfl))) rfl
theorem kV_I_isThere : (Cond.selects "IssueRows$Issue" ({ cls := "IssueRows$Issue", name := "isThere", desc := "()Z" } : MethodName) ({ cls := "IssueRows$Issue", name := "isThere", desc := "()Z" } : MethodName)) ∈ WA := WA_t (List.mem_append_right _ (List.mem_append_left _ (List.mem_of_getElem? (i := 124) rfl))) rfl
theorem kC_I_isThere : (Cond.code ({ cls := "IssueRows$Issue", name := "isThere", desc := "()Z" } : MethodName) prog_2_method_3_code (1 : Nat) (Option.some FieldType.boolean)) ∈ WA := WA_t (List.mem_append_right _ (List.mem_append_left _ (List.mem_of_getElem? (i := 125) rfl))) rfl
theorem kM_X_193 : (Cond.methodLink "IssueRows" (193 : Nat) ({ cls := "IssueRows$Statement", name := "add", desc := "(IZ)V" } : MethodName)) ∈ WA := WA_t (List.mem_append_right _ (List.mem_append_left _ (List.mem_of_getElem? (i := 126) rfl))) rfl
theorem kI_S_add : (Cond.instanceMethod ({ cls := "IssueRows$Statement", name := "add", desc := "(IZ)V" } : MethodName)) ∈ WA := WA_t (List.mem_append_right _ (List.mem_append_left _ (List.mem_of_getElem? (i := 127) rfl))) rfl
theorem kV_S_add : (Cond.selects "IssueRows$Statement" ({ cls := "IssueRows$Statement", name := "add", desc := "(IZ)V" } : MethodName) ({ cls := "IssueRows$Statement", name := "add", desc := "(IZ)V" } : MethodName)) ∈ WA := WA_t (List.mem_append_right _ (List.mem_append_left _ (List.mem_of_getElem? (i := 128) rfl))) rfl
theorem kC_S_add : (Cond.code ({ cls := "IssueRows$Statement", name := "add", desc := "(IZ)V" } : MethodName) prog_6_method_3_code (3 : Nat) (Option.none : Option FieldType)) ∈ WA := WA_t (List.mem_append_right _ (List.mem_append_left _ (List.mem_of_getElem? (i := 129) rfl))) rfl
theorem kM_L_84 : (Cond.methodLink "IssueRowsLaw" (84 : Nat) ({ cls := "IssueRows", name := "about", desc := "(II)I" } : MethodName)) ∈ WA := WA_t (List.mem_append_right _ (List.mem_append_left _ (List.mem_of_getElem? (i := 130) rfl))) rfl
theorem kI_X_about : (Cond.instanceMethod ({ cls := "IssueRows", name := "about", desc := "(II)I" } : MethodName)) ∈ WA := WA_t (List.mem_append_right _ (List.mem_append_left _ (List.mem_of_getElem? (i := 131) rfl))) rfl
theorem kV_X_about : (Cond.selects "IssueRows" ({ cls := "IssueRows", name := "about", desc := "(II)I" } : MethodName) ({ cls := "IssueRows", name := "about", desc := "(II)I" } : MethodName)) ∈ WA := WA_t (List.mem_append_right _ (List.mem_append_left _ (List.mem_of_getElem? (i := 132) rfl))) rfl
theorem kC_X_about : (Cond.code ({ cls := "IssueRows", name := "about", desc := "(II)I" } : MethodName) prog_1_method_15_code (4 : Nat) (Option.some FieldType.int)) ∈ WA := WA_t (List.mem_append_right _ (List.mem_append_left _ (List.mem_of_getElem? (i := 133) rfl))) rfl
theorem kM_X_201 : (Cond.methodLink "IssueRows" (201 : Nat) ({ cls := "IssueRows$Issue", name := "part", desc := "(I)I" } : MethodName)) ∈ WA := WA_t (List.mem_append_right _ (List.mem_append_left _ (List.mem_of_getElem? (i := 134) rfl))) rfl
theorem kI_I_part : (Cond.instanceMethod ({ cls := "IssueRows$Issue", name := "part", desc := "(I)I" } : MethodName)) ∈ WA := WA_t (List.mem_append_right _ (List.mem_append_left _ (List.mem_of_getElem? (i := 135) rfl))) rfl
theorem kV_I_part : (Cond.selects "IssueRows$Issue" ({ cls := "IssueRows$Issue", name := "part", desc := "(I)I" } : MethodName) ({ cls := "IssueRows$Issue", name := "part", desc := "(I)I" } : MethodName)) ∈ WA := WA_t (List.mem_append_right _ (List.mem_append_left _ (List.mem_of_getElem? (i := 136) rfl))) rfl
theorem kC_I_part : (Cond.code ({ cls := "IssueRows$Issue", name := "part", desc := "(I)I" } : MethodName) prog_2_method_8_code (2 : Nat) (Option.some FieldType.int)) ∈ WA := WA_t (List.mem_append_right _ (List.mem_append_left _ (List.mem_of_getElem? (i := 137) rfl))) rfl
theorem kM_I_63 : (Cond.methodLink "IssueRows$Issue" (63 : Nat) ({ cls := "IssueRows$Routing", name := "holder", desc := "()I" } : MethodName)) ∈ WA := WA_t (List.mem_append_right _ (List.mem_append_left _ (List.mem_of_getElem? (i := 138) rfl))) rfl
theorem kM_L_88 : (Cond.methodLink "IssueRowsLaw" (88 : Nat) ({ cls := "IssueRows", name := "cost", desc := "(II)I" } : MethodName)) ∈ WA := WA_t (List.mem_append_right _ (List.mem_append_left _ (List.mem_of_getElem? (i := 139) rfl))) rfl
theorem kI_X_cost : (Cond.instanceMethod ({ cls := "IssueRows", name := "cost", desc := "(II)I" } : MethodName)) ∈ WA := WA_t (List.mem_append_right _ (List.mem_append_left _ (List.mem_of_getElem? (i := 140) rfl))) rfl
theorem kV_X_cost : (Cond.selects "IssueRows" ({ cls := "IssueRows", name := "cost", desc := "(II)I" } : MethodName) ({ cls := "IssueRows", name := "cost", desc := "(II)I" } : MethodName)) ∈ WA := WA_t (List.mem_append_right _ (List.mem_append_left _ (List.mem_of_getElem? (i := 141) rfl))) rfl
theorem kC_X_cost : (Cond.code ({ cls := "IssueRows", name := "cost", desc := "(II)I" } : MethodName) prog_1_method_16_code (4 : Nat) (Option.some FieldType.int)) ∈ WA := WA_t (List.mem_append_right _ (List.mem_append_left _ (List.mem_of_getElem? (i := 142) rfl))) rfl
theorem kK_X_204 : (Cond.constant "IssueRows" (204 : Nat) (10000000 : Int32)) ∈ WA := WA_t (List.mem_append_right _ (List.mem_append_left _ (List.mem_of_getElem? (i := 143) rfl))) rfl
theorem kK_X_208 : (Cond.constant "IssueRows" (208 : Nat) (1000000000 : Int32)) ∈ WA := WA_t (List.mem_append_right _ (List.mem_append_left _ (List.mem_of_getElem? (i := 144) rfl))) rfl
theorem kM_L_92 : (Cond.methodLink "IssueRowsLaw" (92 : Nat) ({ cls := "IssueRows", name := "told", desc := "(II)I" } : MethodName)) ∈ WA := WA_t (List.mem_append_right _ (List.mem_append_left _ (List.mem_of_getElem? (i := 145) rfl))) rfl
theorem kI_X_told : (Cond.instanceMethod ({ cls := "IssueRows", name := "told", desc := "(II)I" } : MethodName)) ∈ WA := WA_t (List.mem_append_right _ (List.mem_append_left _ (List.mem_of_getElem? (i := 146) rfl))) rfl
theorem kV_X_told : (Cond.selects "IssueRows" ({ cls := "IssueRows", name := "told", desc := "(II)I" } : MethodName) ({ cls := "IssueRows", name := "told", desc := "(II)I" } : MethodName)) ∈ WA := WA_t (List.mem_append_right _ (List.mem_append_left _ (List.mem_of_getElem? (i := 147) rfl))) rfl
theorem kC_X_told : (Cond.code ({ cls := "IssueRows", name := "told", desc := "(II)I" } : MethodName) prog_1_method_17_code (3 : Nat) (Option.some FieldType.int)) ∈ WA := WA_t (List.mem_append_right _ (List.mem_append_left _ (List.mem_of_getElem? (i := 148) rfl))) rfl
theorem kM_X_120 : (Cond.methodLink "IssueRows" (120 : Nat) ({ cls := "IssueRows$Pairs", name := "has", desc := "(II)Z" } : MethodName)) ∈ WA := WA_t (List.mem_append_right _ (List.mem_append_left _ (List.mem_of_getElem? (i := 149) rfl))) rfl
theorem kI_P_has : (Cond.instanceMethod ({ cls := "IssueRows$Pairs", name := "has", desc := "(II)Z" } : MethodName)) ∈ WA := WA_t (List.mem_append_right _ (List.mem_append_left _ (List.mem_of_getElem? (i := 150) rfl))) rfl
theorem kV_P_has : (Cond.selects "IssueRows$Pairs" ({ cls := "IssueRows$Pairs", name := "has", desc := "(II)Z" } : MethodName) ({ cls := "IssueRows$Pairs", name := "has", desc := "(II)Z" } : MethodName)) ∈ WA := WA_t (List.mem_append_right _ (List.mem_append_left _ (List.mem_of_getElem? (i := 151) rfl))) rfl
theorem kC_P_has : (Cond.code ({ cls := "IssueRows$Pairs", name := "has", desc := "(II)Z" } : MethodName) prog_3_method_4_code (3 : Nat) (Option.some FieldType.boolean)) ∈ WA := WA_t (List.mem_append_right _ (List.mem_append_left _ (List.mem_of_getElem? (i := 152) rfl))) rfl
theorem kM_X_130 : (Cond.methodLink "IssueRows" (130 : Nat) ({ cls := "IssueRows$Pairs", name := "part", desc := "(II)I" } : MethodName)) ∈ WA := WA_t (List.mem_append_right _ (List.mem_append_left _ (List.mem_of_getElem? (i := 154) rfl))) rfl
theorem kI_P_part : (Cond.instanceMethod ({ cls := "IssueRows$Pairs", name := "part", desc := "(II)I" } : MethodName)) ∈ WA := WA_t (List.mem_append_right _ (List.mem_append_left _ (List.mem_of_getElem? (i := 155) rfl))) rfl
theorem kV_P_part : (Cond.selects "IssueRows$Pairs" ({ cls := "IssueRows$Pairs", name := "part", desc := "(II)I" } : MethodName) ({ cls := "IssueRows$Pairs", name := "part", desc := "(II)I" } : MethodName)) ∈ WA := WA_t (List.mem_append_right _ (List.mem_append_left _ (List.mem_of_getElem? (i := 156) rfl))) rfl
theorem kC_P_part : (Cond.code ({ cls := "IssueRows$Pairs", name := "part", desc := "(II)I" } : MethodName) prog_3_method_5_code (3 : Nat) (Option.some FieldType.int)) ∈ WA := WA_t (List.mem_append_right _ (List.mem_append_left _ (List.mem_of_getElem? (i := 157) rfl))) rfl
theorem kM_P_32 : (Cond.methodLink "IssueRows$Pairs" (32 : Nat) ({ cls := "IssueRows$Pairs", name := "has", desc := "(II)Z" } : MethodName)) ∈ WA := WA_t (List.mem_append_right _ (List.mem_append_left _ (List.mem_of_getElem? (i := 158) rfl))) rfl
theorem kM_L_96 : (Cond.methodLink "IssueRowsLaw" (96 : Nat) ({ cls := "IssueRows", name := "lateness", desc := "(I)I" } : MethodName)) ∈ WA := WA_t (List.mem_append_right _ (List.mem_append_left _ (List.mem_of_getElem? (i := 159) rfl))) rfl
theorem kI_X_lateness : (Cond.instanceMethod ({ cls := "IssueRows", name := "lateness", desc := "(I)I" } : MethodName)) ∈ WA := WA_t (List.mem_append_right _ (List.mem_append_left _ (List.mem_of_getElem? (i := 160) rfl))) rfl
theorem kV_X_lateness : (Cond.selects "IssueRows" ({ cls := "IssueRows", name := "lateness", desc := "(I)I" } : MethodName) ({ cls := "IssueRows", name := "lateness", desc := "(I)I" } : MethodName)) ∈ WA := WA_t (List.mem_append_right _ (List.mem_append_left _ (List.mem_of_getElem? (i := 161) rfl))) rfl
theorem kC_X_lateness : (Cond.code ({ cls := "IssueRows", name := "lateness", desc := "(I)I" } : MethodName) prog_1_method_18_code (4 : Nat) (Option.some FieldType.int)) ∈ WA := WA_t (List.mem_append_right _ (List.mem_append_left _ (List.mem_of_getElem? (i := 162) rfl))) rfl
theorem kM_X_209 : (Cond.methodLink "IssueRows" (209 : Nat) ({ cls := "IssueRows$Issue", name := "daysLate", desc := "()I" } : MethodName)) ∈ WA := WA_t (List.mem_append_right _ (List.mem_append_left _ (List.mem_of_getElem? (i := 163) rfl))) rfl
theorem kI_I_daysLate : (Cond.instanceMethod ({ cls := "IssueRows$Issue", name := "daysLate", desc := "()I" } : MethodName)) ∈ WA := WA_t (List.mem_append_right _ (List.mem_append_left _ (List.mem_of_getElem? (i := 164) rfl))) rfl
theorem kV_I_daysLate : (Cond.selects "IssueRows$Issue" ({ cls := "IssueRows$Issue", name := "daysLate", desc := "()I" } : MethodName) ({ cls := "IssueRows$Issue", name := "daysLate", desc := "()I" } : MethodName)) ∈ WA := WA_t (List.mem_append_right _ (List.mem_append_left _ (List.mem_of_getElem? (i := 165) rfl))) rfl
theorem kC_I_daysLate : (Cond.code ({ cls := "IssueRows$Issue", name := "daysLate", desc := "()I" } : MethodName) prog_2_method_7_code (2 : Nat) (Option.some FieldType.int)) ∈ WA := WA_t (List.mem_append_right _ (List.mem_append_left _ (List.mem_of_getElem? (i := 166) rfl))) rfl
theorem kM_L_44 : (Cond.methodLink "IssueRowsLaw" (44 : Nat) ({ cls := "IssueRowsLaw", name := "claimed", desc := "(LIssueRows;II[J)I" } : MethodName)) ∈ WA := WA_t (List.mem_append_right _ (List.mem_append_left _ (List.mem_of_getElem? (i := 167) rfl))) rfl
theorem kS_L_claimed : (Cond.static ({ cls := "IssueRowsLaw", name := "claimed", desc := "(LIssueRows;II[J)I" } : MethodName)) ∈ WA := WA_t (List.mem_append_right _ (List.mem_append_left _ (List.mem_of_getElem? (i := 168) rfl))) rfl
theorem kL_L_13 : (Cond.classLink "IssueRowsLaw" (13 : Nat) "java/lang/IndexOutOfBoundsException") ∈ WA := WA_t (List.mem_append_right _ (List.mem_append_left _ (List.mem_of_getElem? (i := 170) rfl))) rfl
theorem kM_L_7 : (Cond.methodLink "IssueRowsLaw" (7 : Nat) ({ cls := "IssueRows", name := "claimed", desc := "(II)I" } : MethodName)) ∈ WA := WA_t (List.mem_append_right _ (List.mem_append_left _ (List.mem_of_getElem? (i := 171) rfl))) rfl
theorem kI_X_claimed : (Cond.instanceMethod ({ cls := "IssueRows", name := "claimed", desc := "(II)I" } : MethodName)) ∈ WA := WA_t (List.mem_append_right _ (List.mem_append_left _ (List.mem_of_getElem? (i := 172) rfl))) rfl
theorem kV_X_claimed : (Cond.selects "IssueRows" ({ cls := "IssueRows", name := "claimed", desc := "(II)I" } : MethodName) ({ cls := "IssueRows", name := "claimed", desc := "(II)I" } : MethodName)) ∈ WA := WA_t (List.mem_append_right _ (List.mem_append_left _ (List.mem_of_getElem? (i := 173) rfl))) rfl
theorem kC_X_claimed : (Cond.code ({ cls := "IssueRows", name := "claimed", desc := "(II)I" } : MethodName) prog_1_method_6_code (3 : Nat) (Option.some FieldType.int)) ∈ WA := WA_t (List.mem_append_right _ (List.mem_append_left _ (List.mem_of_getElem? (i := 174) rfl))) rfl
theorem kL_X_123 : (Cond.classLink "IssueRows" (123 : Nat) "java/lang/IndexOutOfBoundsException") ∈ WA := WA_t (List.mem_append_right _ (List.mem_append_left _ (List.mem_of_getElem? (i := 175) rfl))) rfl
theorem kA_A : (Cond.instantiable "java/lang/IndexOutOfBoundsException" (6 : Nat)) ∈ WA := WA_t (List.mem_append_right _ (List.mem_append_left _ (List.mem_of_getElem? (i := 176) rfl))) rfl
theorem kVA_T_fillInStackTrace_i : (Cond.selects "java/lang/IndexOutOfBoundsException" ({ cls := "java/lang/Throwable", name := "fillInStackTrace", desc := "(I)Ljava/lang/Throwable;" } : MethodName) ({ cls := "java/lang/Throwable", name := "fillInStackTrace", desc := "(I)Ljava/lang/Throwable;" } : MethodName)) ∈ WA := WA_t (List.mem_append_right _ (List.mem_append_left _ (List.mem_of_getElem? (i := 184) rfl))) rfl
theorem kVA_T_fillInStackTrace : (Cond.selects "java/lang/IndexOutOfBoundsException" ({ cls := "java/lang/Throwable", name := "fillInStackTrace", desc := "()Ljava/lang/Throwable;" } : MethodName) ({ cls := "java/lang/Throwable", name := "fillInStackTrace", desc := "()Ljava/lang/Throwable;" } : MethodName)) ∈ WA := WA_t (List.mem_append_right _ (List.mem_append_left _ (List.mem_of_getElem? (i := 185) rfl))) rfl
theorem kY_A_cause : (Cond.lays "java/lang/IndexOutOfBoundsException" "java/lang/Throwable" "cause" "Ljava/lang/Throwable;") ∈ WA := WA_t (List.mem_append_right _ (List.mem_append_left _ (List.mem_of_getElem? (i := 186) rfl))) rfl
theorem kY_T_cause : (Cond.lays "java/lang/Throwable" "java/lang/Throwable" "cause" "Ljava/lang/Throwable;") ∈ WA := WA_t (List.mem_append_right _ (List.mem_append_left _ (List.mem_of_getElem? (i := 187) rfl))) rfl
theorem kY_A_stackTrace : (Cond.lays "java/lang/IndexOutOfBoundsException" "java/lang/Throwable" "stackTrace" "[Ljava/lang/StackTraceElement;") ∈ WA := WA_t (List.mem_append_right _ (List.mem_append_left _ (List.mem_of_getElem? (i := 188) rfl))) rfl
theorem kY_T_stackTrace : (Cond.lays "java/lang/Throwable" "java/lang/Throwable" "stackTrace" "[Ljava/lang/StackTraceElement;") ∈ WA := WA_t (List.mem_append_right _ (List.mem_append_left _ (List.mem_of_getElem? (i := 189) rfl))) rfl
theorem kY_A_suppressedExceptions : (Cond.lays "java/lang/IndexOutOfBoundsException" "java/lang/Throwable" "suppressedExceptions" "Ljava/util/List;") ∈ WA := WA_t (List.mem_append_right _ (List.mem_append_left _ (List.mem_of_getElem? (i := 190) rfl))) rfl
theorem kY_T_suppressedExceptions : (Cond.lays "java/lang/Throwable" "java/lang/Throwable" "suppressedExceptions" "Ljava/util/List;") ∈ WA := WA_t (List.mem_append_right _ (List.mem_append_left _ (List.mem_of_getElem? (i := 191) rfl))) rfl
theorem kY_A_detailMessage : (Cond.lays "java/lang/IndexOutOfBoundsException" "java/lang/Throwable" "detailMessage" "Ljava/lang/String;") ∈ WA := WA_t (List.mem_append_right _ (List.mem_append_left _ (List.mem_of_getElem? (i := 192) rfl))) rfl
theorem kY_T_detailMessage : (Cond.lays "java/lang/Throwable" "java/lang/Throwable" "detailMessage" "Ljava/lang/String;") ∈ WA := WA_t (List.mem_append_right _ (List.mem_append_left _ (List.mem_of_getElem? (i := 193) rfl))) rfl
theorem kY_A_backtrace : (Cond.lays "java/lang/IndexOutOfBoundsException" "java/lang/Throwable" "backtrace" "Ljava/lang/Object;") ∈ WA := WA_t (List.mem_append_right _ (List.mem_append_left _ (List.mem_of_getElem? (i := 194) rfl))) rfl
theorem kY_T_backtrace : (Cond.lays "java/lang/Throwable" "java/lang/Throwable" "backtrace" "Ljava/lang/Object;") ∈ WA := WA_t (List.mem_append_right _ (List.mem_append_left _ (List.mem_of_getElem? (i := 195) rfl))) rfl
theorem kF_T_198 : (Cond.fieldLink "java/lang/Throwable" (198 : Nat) "java/lang/Throwable" "backtrace" "Ljava/lang/Object;") ∈ WA := WA_t (List.mem_append_right _ (List.mem_append_left _ (List.mem_of_getElem? (i := 196) rfl))) rfl
theorem kI_T_init : (Cond.instanceMethod ({ cls := "java/lang/Throwable", name := "<init>", desc := "()V" } : MethodName)) ∈ WA := WA_t (List.mem_append_right _ (List.mem_append_left _ (List.mem_of_getElem? (i := 198) rfl))) rfl
theorem kC_T_init : (Cond.code ({ cls := "java/lang/Throwable", name := "<init>", desc := "()V" } : MethodName) prog_15_method_1_code (1 : Nat) (Option.none : Option FieldType)) ∈ WA := WA_t (List.mem_append_right _ (List.mem_append_left _ (List.mem_of_getElem? (i := 199) rfl))) rfl
theorem kM_T_1 : (Cond.methodLink "java/lang/Throwable" (1 : Nat) ({ cls := "java/lang/Object", name := "<init>", desc := "()V" } : MethodName)) ∈ WA := WA_t (List.mem_append_right _ (List.mem_append_left _ (List.mem_of_getElem? (i := 200) rfl))) rfl
theorem kF_T_13 : (Cond.fieldLink "java/lang/Throwable" (13 : Nat) "java/lang/Throwable" "UNASSIGNED_STACK" "[Ljava/lang/StackTraceElement;") ∈ WA := WA_t (List.mem_append_right _ (List.mem_append_left _ (List.mem_of_getElem? (i := 201) rfl))) rfl
theorem kF_T_20 : (Cond.fieldLink "java/lang/Throwable" (20 : Nat) "java/lang/Throwable" "SUPPRESSED_SENTINEL" "Ljava/util/List;") ∈ WA := WA_t (List.mem_append_right _ (List.mem_append_left _ (List.mem_of_getElem? (i := 203) rfl))) rfl
theorem kM_T_27 : (Cond.methodLink "java/lang/Throwable" (27 : Nat) ({ cls := "java/lang/Throwable", name := "fillInStackTrace", desc := "()Ljava/lang/Throwable;" } : MethodName)) ∈ WA := WA_t (List.mem_append_right _ (List.mem_append_left _ (List.mem_of_getElem? (i := 205) rfl))) rfl
theorem kI_T_fillInStackTrace : (Cond.instanceMethod ({ cls := "java/lang/Throwable", name := "fillInStackTrace", desc := "()Ljava/lang/Throwable;" } : MethodName)) ∈ WA := WA_t (List.mem_append_right _ (List.mem_append_left _ (List.mem_of_getElem? (i := 206) rfl))) rfl
theorem kM_T_202 : (Cond.methodLink "java/lang/Throwable" (202 : Nat) ({ cls := "java/lang/Throwable", name := "fillInStackTrace", desc := "(I)Ljava/lang/Throwable;" } : MethodName)) ∈ WA := WA_t (List.mem_append_right _ (List.mem_append_left _ (List.mem_of_getElem? (i := 209) rfl))) rfl
theorem kI_T_fillInStackTrace_i : (Cond.instanceMethod ({ cls := "java/lang/Throwable", name := "fillInStackTrace", desc := "(I)Ljava/lang/Throwable;" } : MethodName)) ∈ WA := WA_t (List.mem_append_right _ (List.mem_append_left _ (List.mem_of_getElem? (i := 211) rfl))) rfl
theorem kA_T : (Cond.instantiable "java/lang/Throwable" (6 : Nat)) ∈ WA := WA_t (List.mem_append_right _ (List.mem_append_left _ (List.mem_of_getElem? (i := 212) rfl))) rfl
theorem kM_X_127 : (Cond.methodLink "IssueRows" (127 : Nat) ({ cls := "java/lang/IndexOutOfBoundsException", name := "<init>", desc := "(Ljava/lang/String;)V" } : MethodName)) ∈ WA := WA_t (List.mem_append_right _ (List.mem_append_left _ (List.mem_of_getElem? (i := 215) rfl))) rfl
theorem kI_A_init : (Cond.instanceMethod ({ cls := "java/lang/IndexOutOfBoundsException", name := "<init>", desc := "(Ljava/lang/String;)V" } : MethodName)) ∈ WA := WA_t (List.mem_append_right _ (List.mem_append_left _ (List.mem_of_getElem? (i := 216) rfl))) rfl
theorem kC_A_init : (Cond.code ({ cls := "java/lang/IndexOutOfBoundsException", name := "<init>", desc := "(Ljava/lang/String;)V" } : MethodName) prog_11_method_2_code (2 : Nat) (Option.none : Option FieldType)) ∈ WA := WA_t (List.mem_append_right _ (List.mem_append_left _ (List.mem_of_getElem? (i := 217) rfl))) rfl
theorem kM_A_7 : (Cond.methodLink "java/lang/IndexOutOfBoundsException" (7 : Nat) ({ cls := "java/lang/RuntimeException", name := "<init>", desc := "(Ljava/lang/String;)V" } : MethodName)) ∈ WA := WA_t (List.mem_append_right _ (List.mem_append_left _ (List.mem_of_getElem? (i := 218) rfl))) rfl
theorem kI_B_init : (Cond.instanceMethod ({ cls := "java/lang/RuntimeException", name := "<init>", desc := "(Ljava/lang/String;)V" } : MethodName)) ∈ WA := WA_t (List.mem_append_right _ (List.mem_append_left _ (List.mem_of_getElem? (i := 219) rfl))) rfl
theorem kC_B_init : (Cond.code ({ cls := "java/lang/RuntimeException", name := "<init>", desc := "(Ljava/lang/String;)V" } : MethodName) prog_13_method_2_code (2 : Nat) (Option.none : Option FieldType)) ∈ WA := WA_t (List.mem_append_right _ (List.mem_append_left _ (List.mem_of_getElem? (i := 220) rfl))) rfl
theorem kM_B_7 : (Cond.methodLink "java/lang/RuntimeException" (7 : Nat) ({ cls := "java/lang/Exception", name := "<init>", desc := "(Ljava/lang/String;)V" } : MethodName)) ∈ WA := WA_t (List.mem_append_right _ (List.mem_append_left _ (List.mem_of_getElem? (i := 221) rfl))) rfl
theorem kI_E_init : (Cond.instanceMethod ({ cls := "java/lang/Exception", name := "<init>", desc := "(Ljava/lang/String;)V" } : MethodName)) ∈ WA := WA_t (List.mem_append_right _ (List.mem_append_left _ (List.mem_of_getElem? (i := 222) rfl))) rfl
theorem kC_E_init : (Cond.code ({ cls := "java/lang/Exception", name := "<init>", desc := "(Ljava/lang/String;)V" } : MethodName) prog_10_method_2_code (2 : Nat) (Option.none : Option FieldType)) ∈ WA := WA_t (List.mem_append_right _ (List.mem_append_left _ (List.mem_of_getElem? (i := 223) rfl))) rfl
theorem kM_E_7 : (Cond.methodLink "java/lang/Exception" (7 : Nat) ({ cls := "java/lang/Throwable", name := "<init>", desc := "(Ljava/lang/String;)V" } : MethodName)) ∈ WA := WA_t (List.mem_append_right _ (List.mem_append_left _ (List.mem_of_getElem? (i := 224) rfl))) rfl
theorem kI_T_init2 : (Cond.instanceMethod ({ cls := "java/lang/Throwable", name := "<init>", desc := "(Ljava/lang/String;)V" } : MethodName)) ∈ WA := WA_t (List.mem_append_right _ (List.mem_append_left _ (List.mem_of_getElem? (i := 225) rfl))) rfl
theorem kC_T_init2 : (Cond.code ({ cls := "java/lang/Throwable", name := "<init>", desc := "(Ljava/lang/String;)V" } : MethodName) prog_15_method_2_code (2 : Nat) (Option.none : Option FieldType)) ∈ WA := WA_t (List.mem_append_right _ (List.mem_append_left _ (List.mem_of_getElem? (i := 226) rfl))) rfl
theorem kF_T_31 : (Cond.fieldLink "java/lang/Throwable" (31 : Nat) "java/lang/Throwable" "detailMessage" "Ljava/lang/String;") ∈ WA := WA_t (List.mem_append_right _ (List.mem_append_left _ (List.mem_of_getElem? (i := 228) rfl))) rfl
theorem kF_T_7 : (Cond.fieldLink "java/lang/Throwable" (7 : Nat) "java/lang/Throwable" "cause" "Ljava/lang/Throwable;") ∈ WA := WA_t (List.mem_append_right _ (List.mem_append_left _ (List.mem_of_getElem? (i := 229) rfl))) rfl
theorem kF_T_17 : (Cond.fieldLink "java/lang/Throwable" (17 : Nat) "java/lang/Throwable" "stackTrace" "[Ljava/lang/StackTraceElement;") ∈ WA := WA_t (List.mem_append_right _ (List.mem_append_left _ (List.mem_of_getElem? (i := 230) rfl))) rfl
theorem kF_T_24 : (Cond.fieldLink "java/lang/Throwable" (24 : Nat) "java/lang/Throwable" "suppressedExceptions" "Ljava/util/List;") ∈ WA := WA_t (List.mem_append_right _ (List.mem_append_left _ (List.mem_of_getElem? (i := 231) rfl))) rfl
theorem kY_A_depth : (Cond.lays "java/lang/IndexOutOfBoundsException" "java/lang/Throwable" "depth" "I") ∈ WA := WA_t (List.mem_append_right _ (List.mem_append_left _ (List.mem_of_getElem? (i := 236) rfl))) rfl
theorem kR_byte : (Cond.arrayClass FieldType.byte) ∈ WA := WA_t (List.mem_append_right _ (List.mem_append_right _ (List.mem_append_left _ (List.mem_of_getElem? (i := 0) rfl)))) rfl
theorem kM_L_74 : (Cond.methodLink "IssueRowsLaw" (74 : Nat) ({ cls := "IssueRowsLaw", name := "volume", desc := "(LIssueRows;II[J)I" } : MethodName)) ∈ WA := WA_t (List.mem_append_right _ (List.mem_append_right _ (List.mem_append_left _ (List.mem_of_getElem? (i := 1) rfl)))) rfl
theorem kS_L_volume : (Cond.static ({ cls := "IssueRowsLaw", name := "volume", desc := "(LIssueRows;II[J)I" } : MethodName)) ∈ WA := WA_t (List.mem_append_right _ (List.mem_append_right _ (List.mem_append_left _ (List.mem_of_getElem? (i := 2) rfl)))) rfl
theorem kM_L_15 : (Cond.methodLink "IssueRowsLaw" (15 : Nat) ({ cls := "IssueRows", name := "volume", desc := "(II)I" } : MethodName)) ∈ WA := WA_t (List.mem_append_right _ (List.mem_append_right _ (List.mem_append_left _ (List.mem_of_getElem? (i := 4) rfl)))) rfl
theorem kI_X_volume : (Cond.instanceMethod ({ cls := "IssueRows", name := "volume", desc := "(II)I" } : MethodName)) ∈ WA := WA_t (List.mem_append_right _ (List.mem_append_right _ (List.mem_append_left _ (List.mem_of_getElem? (i := 5) rfl)))) rfl
theorem kV_X_volume : (Cond.selects "IssueRows" ({ cls := "IssueRows", name := "volume", desc := "(II)I" } : MethodName) ({ cls := "IssueRows", name := "volume", desc := "(II)I" } : MethodName)) ∈ WA := WA_t (List.mem_append_right _ (List.mem_append_right _ (List.mem_append_left _ (List.mem_of_getElem? (i := 6) rfl)))) rfl
theorem kC_X_volume : (Cond.code ({ cls := "IssueRows", name := "volume", desc := "(II)I" } : MethodName) prog_1_method_12_code (3 : Nat) (Option.some FieldType.int)) ∈ WA := WA_t (List.mem_append_right _ (List.mem_append_right _ (List.mem_append_left _ (List.mem_of_getElem? (i := 7) rfl)))) rfl
theorem kM_X_183 : (Cond.methodLink "IssueRows" (183 : Nat) ({ cls := "IssueRows$Volumes", name := "has", desc := "(II)Z" } : MethodName)) ∈ WA := WA_t (List.mem_append_right _ (List.mem_append_right _ (List.mem_append_left _ (List.mem_of_getElem? (i := 8) rfl)))) rfl
theorem kI_V_has : (Cond.instanceMethod ({ cls := "IssueRows$Volumes", name := "has", desc := "(II)Z" } : MethodName)) ∈ WA := WA_t (List.mem_append_right _ (List.mem_append_right _ (List.mem_append_left _ (List.mem_of_getElem? (i := 9) rfl)))) rfl
theorem kV_V_has : (Cond.selects "IssueRows$Volumes" ({ cls := "IssueRows$Volumes", name := "has", desc := "(II)Z" } : MethodName) ({ cls := "IssueRows$Volumes", name := "has", desc := "(II)Z" } : MethodName)) ∈ WA := WA_t (List.mem_append_right _ (List.mem_append_right _ (List.mem_append_left _ (List.mem_of_getElem? (i := 10) rfl)))) rfl
theorem kC_V_has : (Cond.code ({ cls := "IssueRows$Volumes", name := "has", desc := "(II)Z" } : MethodName) prog_7_method_5_code (3 : Nat) (Option.some FieldType.boolean)) ∈ WA := WA_t (List.mem_append_right _ (List.mem_append_right _ (List.mem_append_left _ (List.mem_of_getElem? (i := 11) rfl)))) rfl
theorem kM_X_186 : (Cond.methodLink "IssueRows" (186 : Nat) ({ cls := "IssueRows$Volumes", name := "member", desc := "(II)I" } : MethodName)) ∈ WA := WA_t (List.mem_append_right _ (List.mem_append_right _ (List.mem_append_left _ (List.mem_of_getElem? (i := 13) rfl)))) rfl
theorem kI_V_member : (Cond.instanceMethod ({ cls := "IssueRows$Volumes", name := "member", desc := "(II)I" } : MethodName)) ∈ WA := WA_t (List.mem_append_right _ (List.mem_append_right _ (List.mem_append_left _ (List.mem_of_getElem? (i := 14) rfl)))) rfl
theorem kV_V_member : (Cond.selects "IssueRows$Volumes" ({ cls := "IssueRows$Volumes", name := "member", desc := "(II)I" } : MethodName) ({ cls := "IssueRows$Volumes", name := "member", desc := "(II)I" } : MethodName)) ∈ WA := WA_t (List.mem_append_right _ (List.mem_append_right _ (List.mem_append_left _ (List.mem_of_getElem? (i := 15) rfl)))) rfl
theorem kC_V_member : (Cond.code ({ cls := "IssueRows$Volumes", name := "member", desc := "(II)I" } : MethodName) prog_7_method_6_code (3 : Nat) (Option.some FieldType.int)) ∈ WA := WA_t (List.mem_append_right _ (List.mem_append_right _ (List.mem_append_left _ (List.mem_of_getElem? (i := 16) rfl)))) rfl
theorem kM_V_30 : (Cond.methodLink "IssueRows$Volumes" (30 : Nat) ({ cls := "IssueRows$Volumes", name := "has", desc := "(II)Z" } : MethodName)) ∈ WA := WA_t (List.mem_append_right _ (List.mem_append_right _ (List.mem_append_left _ (List.mem_of_getElem? (i := 17) rfl)))) rfl
theorem kM_L_81 : (Cond.methodLink "IssueRowsLaw" (81 : Nat) ({ cls := "IssueRowsLaw", name := "row", desc := "(LIssueRows;II[J)I" } : MethodName)) ∈ WA := WA_t (List.mem_append_right _ (List.mem_append_right _ (List.mem_append_left _ (List.mem_of_getElem? (i := 18) rfl)))) rfl
theorem kS_L_row : (Cond.static ({ cls := "IssueRowsLaw", name := "row", desc := "(LIssueRows;II[J)I" } : MethodName)) ∈ WA := WA_t (List.mem_append_right _ (List.mem_append_right _ (List.mem_append_left _ (List.mem_of_getElem? (i := 19) rfl)))) rfl
theorem kM_L_18 : (Cond.methodLink "IssueRowsLaw" (18 : Nat) ({ cls := "IssueRows", name := "row", desc := "(II)I" } : MethodName)) ∈ WA := WA_t (List.mem_append_right _ (List.mem_append_right _ (List.mem_append_left _ (List.mem_of_getElem? (i := 21) rfl)))) rfl
theorem kI_X_row : (Cond.instanceMethod ({ cls := "IssueRows", name := "row", desc := "(II)I" } : MethodName)) ∈ WA := WA_t (List.mem_append_right _ (List.mem_append_right _ (List.mem_append_left _ (List.mem_of_getElem? (i := 22) rfl)))) rfl
theorem kV_X_row : (Cond.selects "IssueRows" ({ cls := "IssueRows", name := "row", desc := "(II)I" } : MethodName) ({ cls := "IssueRows", name := "row", desc := "(II)I" } : MethodName)) ∈ WA := WA_t (List.mem_append_right _ (List.mem_append_right _ (List.mem_append_left _ (List.mem_of_getElem? (i := 23) rfl)))) rfl
theorem kC_X_row : (Cond.code ({ cls := "IssueRows", name := "row", desc := "(II)I" } : MethodName) prog_1_method_14_code (3 : Nat) (Option.some FieldType.int)) ∈ WA := WA_t (List.mem_append_right _ (List.mem_append_right _ (List.mem_append_left _ (List.mem_of_getElem? (i := 24) rfl)))) rfl
theorem kM_X_197 : (Cond.methodLink "IssueRows" (197 : Nat) ({ cls := "IssueRows$Statement", name := "has", desc := "(II)Z" } : MethodName)) ∈ WA := WA_t (List.mem_append_right _ (List.mem_append_right _ (List.mem_append_left _ (List.mem_of_getElem? (i := 25) rfl)))) rfl
theorem kI_S_has : (Cond.instanceMethod ({ cls := "IssueRows$Statement", name := "has", desc := "(II)Z" } : MethodName)) ∈ WA := WA_t (List.mem_append_right _ (List.mem_append_right _ (List.mem_append_left _ (List.mem_of_getElem? (i := 26) rfl)))) rfl
theorem kV_S_has : (Cond.selects "IssueRows$Statement" ({ cls := "IssueRows$Statement", name := "has", desc := "(II)Z" } : MethodName) ({ cls := "IssueRows$Statement", name := "has", desc := "(II)Z" } : MethodName)) ∈ WA := WA_t (List.mem_append_right _ (List.mem_append_right _ (List.mem_append_left _ (List.mem_of_getElem? (i := 27) rfl)))) rfl
theorem kC_S_has : (Cond.code ({ cls := "IssueRows$Statement", name := "has", desc := "(II)Z" } : MethodName) prog_6_method_4_code (3 : Nat) (Option.some FieldType.boolean)) ∈ WA := WA_t (List.mem_append_right _ (List.mem_append_right _ (List.mem_append_left _ (List.mem_of_getElem? (i := 28) rfl)))) rfl
theorem kM_X_200 : (Cond.methodLink "IssueRows" (200 : Nat) ({ cls := "IssueRows$Statement", name := "part", desc := "(II)I" } : MethodName)) ∈ WA := WA_t (List.mem_append_right _ (List.mem_append_right _ (List.mem_append_left _ (List.mem_of_getElem? (i := 31) rfl)))) rfl
theorem kI_S_part : (Cond.instanceMethod ({ cls := "IssueRows$Statement", name := "part", desc := "(II)I" } : MethodName)) ∈ WA := WA_t (List.mem_append_right _ (List.mem_append_right _ (List.mem_append_left _ (List.mem_of_getElem? (i := 32) rfl)))) rfl
theorem kV_S_part : (Cond.selects "IssueRows$Statement" ({ cls := "IssueRows$Statement", name := "part", desc := "(II)I" } : MethodName) ({ cls := "IssueRows$Statement", name := "part", desc := "(II)I" } : MethodName)) ∈ WA := WA_t (List.mem_append_right _ (List.mem_append_right _ (List.mem_append_left _ (List.mem_of_getElem? (i := 33) rfl)))) rfl
theorem kC_S_part : (Cond.code ({ cls := "IssueRows$Statement", name := "part", desc := "(II)I" } : MethodName) prog_6_method_5_code (3 : Nat) (Option.some FieldType.int)) ∈ WA := WA_t (List.mem_append_right _ (List.mem_append_right _ (List.mem_append_left _ (List.mem_of_getElem? (i := 34) rfl)))) rfl
theorem kM_S_29 : (Cond.methodLink "IssueRows$Statement" (29 : Nat) ({ cls := "IssueRows$Statement", name := "has", desc := "(II)Z" } : MethodName)) ∈ WA := WA_t (List.mem_append_right _ (List.mem_append_right _ (List.mem_append_left _ (List.mem_of_getElem? (i := 35) rfl)))) rfl
theorem kL_L_22 : (Cond.classLink "IssueRowsLaw" (22 : Nat) "IssueRowsModel") ∈ WA := WA_t (List.mem_append_right _ (List.mem_append_right _ (List.mem_append_left _ (List.mem_of_getElem? (i := 36) rfl)))) rfl
theorem kA_M : (Cond.instantiable "IssueRowsModel" (33 : Nat)) ∈ WA := WA_t (List.mem_append_right _ (List.mem_append_right _ (List.mem_append_left _ (List.mem_of_getElem? (i := 37) rfl)))) rfl
theorem kM_L_24 : (Cond.methodLink "IssueRowsLaw" (24 : Nat) ({ cls := "IssueRowsModel", name := "<init>", desc := "()V" } : MethodName)) ∈ WA := WA_t (List.mem_append_right _ (List.mem_append_right _ (List.mem_append_left _ (List.mem_of_getElem? (i := 38) rfl)))) rfl
theorem kI_M_init : (Cond.instanceMethod ({ cls := "IssueRowsModel", name := "<init>", desc := "()V" } : MethodName)) ∈ WA := WA_t (List.mem_append_right _ (List.mem_append_right _ (List.mem_append_left _ (List.mem_of_getElem? (i := 39) rfl)))) rfl
theorem kC_M_init : (Cond.code ({ cls := "IssueRowsModel", name := "<init>", desc := "()V" } : MethodName) prog_9_method_1_code (2 : Nat) (Option.none : Option FieldType)) ∈ WA := WA_t (List.mem_append_right _ (List.mem_append_right _ (List.mem_append_left _ (List.mem_of_getElem? (i := 40) rfl)))) rfl
theorem kM_M_1 : (Cond.methodLink "IssueRowsModel" (1 : Nat) ({ cls := "java/lang/Object", name := "<init>", desc := "()V" } : MethodName)) ∈ WA := WA_t (List.mem_append_right _ (List.mem_append_right _ (List.mem_append_left _ (List.mem_of_getElem? (i := 41) rfl)))) rfl
theorem kF_M_92 : (Cond.fieldLink "IssueRowsModel" (92 : Nat) "IssueRowsModel" "thrown" "I") ∈ WA := WA_t (List.mem_append_right _ (List.mem_append_right _ (List.mem_append_left _ (List.mem_of_getElem? (i := 42) rfl)))) rfl
theorem kF_M_7 : (Cond.fieldLink "IssueRowsModel" (7 : Nat) "IssueRowsModel" "first" "[I") ∈ WA := WA_t (List.mem_append_right _ (List.mem_append_right _ (List.mem_append_left _ (List.mem_of_getElem? (i := 43) rfl)))) rfl
theorem kF_M_13 : (Cond.fieldLink "IssueRowsModel" (13 : Nat) "IssueRowsModel" "again" "[I") ∈ WA := WA_t (List.mem_append_right _ (List.mem_append_right _ (List.mem_append_left _ (List.mem_of_getElem? (i := 44) rfl)))) rfl
theorem kF_M_16 : (Cond.fieldLink "IssueRowsModel" (16 : Nat) "IssueRowsModel" "most" "[I") ∈ WA := WA_t (List.mem_append_right _ (List.mem_append_right _ (List.mem_append_left _ (List.mem_of_getElem? (i := 45) rfl)))) rfl
theorem kF_M_101 : (Cond.fieldLink "IssueRowsModel" (101 : Nat) "IssueRowsModel" "issues" "I") ∈ WA := WA_t (List.mem_append_right _ (List.mem_append_right _ (List.mem_append_left _ (List.mem_of_getElem? (i := 46) rfl)))) rfl
theorem kF_M_19 : (Cond.fieldLink "IssueRowsModel" (19 : Nat) "IssueRowsModel" "pattern" "[I") ∈ WA := WA_t (List.mem_append_right _ (List.mem_append_right _ (List.mem_append_left _ (List.mem_of_getElem? (i := 47) rfl)))) rfl
theorem kF_M_22 : (Cond.fieldLink "IssueRowsModel" (22 : Nat) "IssueRowsModel" "ordinal" "[I") ∈ WA := WA_t (List.mem_append_right _ (List.mem_append_right _ (List.mem_append_left _ (List.mem_of_getElem? (i := 48) rfl)))) rfl
theorem kF_M_25 : (Cond.fieldLink "IssueRowsModel" (25 : Nat) "IssueRowsModel" "state" "[I") ∈ WA := WA_t (List.mem_append_right _ (List.mem_append_right _ (List.mem_append_left _ (List.mem_of_getElem? (i := 49) rfl)))) rfl
theorem kF_M_28 : (Cond.fieldLink "IssueRowsModel" (28 : Nat) "IssueRowsModel" "expected" "[I") ∈ WA := WA_t (List.mem_append_right _ (List.mem_append_right _ (List.mem_append_left _ (List.mem_of_getElem? (i := 50) rfl)))) rfl
theorem kF_M_31 : (Cond.fieldLink "IssueRowsModel" (31 : Nat) "IssueRowsModel" "claims" "[I") ∈ WA := WA_t (List.mem_append_right _ (List.mem_append_right _ (List.mem_append_left _ (List.mem_of_getElem? (i := 51) rfl)))) rfl
theorem kF_M_34 : (Cond.fieldLink "IssueRowsModel" (34 : Nat) "IssueRowsModel" "claimDay" "[I") ∈ WA := WA_t (List.mem_append_right _ (List.mem_append_right _ (List.mem_append_left _ (List.mem_of_getElem? (i := 52) rfl)))) rfl
theorem kF_M_37 : (Cond.fieldLink "IssueRowsModel" (37 : Nat) "IssueRowsModel" "copies" "[I") ∈ WA := WA_t (List.mem_append_right _ (List.mem_append_right _ (List.mem_append_left _ (List.mem_of_getElem? (i := 53) rfl)))) rfl
theorem kF_M_40 : (Cond.fieldLink "IssueRowsModel" (40 : Nat) "IssueRowsModel" "came" "[I") ∈ WA := WA_t (List.mem_append_right _ (List.mem_append_right _ (List.mem_append_left _ (List.mem_of_getElem? (i := 54) rfl)))) rfl
theorem kF_M_43 : (Cond.fieldLink "IssueRowsModel" (43 : Nat) "IssueRowsModel" "volumeOf" "[I") ∈ WA := WA_t (List.mem_append_right _ (List.mem_append_right _ (List.mem_append_left _ (List.mem_of_getElem? (i := 55) rfl)))) rfl
theorem kF_M_46 : (Cond.fieldLink "IssueRowsModel" (46 : Nat) "IssueRowsModel" "replacedBy" "[I") ∈ WA := WA_t (List.mem_append_right _ (List.mem_append_right _ (List.mem_append_left _ (List.mem_of_getElem? (i := 56) rfl)))) rfl
theorem kF_M_49 : (Cond.fieldLink "IssueRowsModel" (49 : Nat) "IssueRowsModel" "cents" "[I") ∈ WA := WA_t (List.mem_append_right _ (List.mem_append_right _ (List.mem_append_left _ (List.mem_of_getElem? (i := 57) rfl)))) rfl
theorem kF_M_52 : (Cond.fieldLink "IssueRowsModel" (52 : Nat) "IssueRowsModel" "replaces" "[Z") ∈ WA := WA_t (List.mem_append_right _ (List.mem_append_right _ (List.mem_append_left _ (List.mem_of_getElem? (i := 58) rfl)))) rfl
theorem kF_M_56 : (Cond.fieldLink "IssueRowsModel" (56 : Nat) "IssueRowsModel" "rowSize" "[I") ∈ WA := WA_t (List.mem_append_right _ (List.mem_append_right _ (List.mem_append_left _ (List.mem_of_getElem? (i := 59) rfl)))) rfl
theorem kF_M_59 : (Cond.fieldLink "IssueRowsModel" (59 : Nat) "IssueRowsModel" "person" "[I") ∈ WA := WA_t (List.mem_append_right _ (List.mem_append_right _ (List.mem_append_left _ (List.mem_of_getElem? (i := 60) rfl)))) rfl
theorem kF_M_62 : (Cond.fieldLink "IssueRowsModel" (62 : Nat) "IssueRowsModel" "personDays" "[I") ∈ WA := WA_t (List.mem_append_right _ (List.mem_append_right _ (List.mem_append_left _ (List.mem_of_getElem? (i := 61) rfl)))) rfl
theorem kF_M_65 : (Cond.fieldLink "IssueRowsModel" (65 : Nat) "IssueRowsModel" "holder" "[I") ∈ WA := WA_t (List.mem_append_right _ (List.mem_append_right _ (List.mem_append_left _ (List.mem_of_getElem? (i := 62) rfl)))) rfl
theorem kF_M_68 : (Cond.fieldLink "IssueRowsModel" (68 : Nat) "IssueRowsModel" "holderFrom" "[I") ∈ WA := WA_t (List.mem_append_right _ (List.mem_append_right _ (List.mem_append_left _ (List.mem_of_getElem? (i := 63) rfl)))) rfl
theorem kF_M_122 : (Cond.fieldLink "IssueRowsModel" (122 : Nat) "IssueRowsModel" "round" "I") ∈ WA := WA_t (List.mem_append_right _ (List.mem_append_right _ (List.mem_append_left _ (List.mem_of_getElem? (i := 64) rfl)))) rfl
theorem kF_M_71 : (Cond.fieldLink "IssueRowsModel" (71 : Nat) "IssueRowsModel" "roundIssue" "[I") ∈ WA := WA_t (List.mem_append_right _ (List.mem_append_right _ (List.mem_append_left _ (List.mem_of_getElem? (i := 65) rfl)))) rfl
theorem kF_M_74 : (Cond.fieldLink "IssueRowsModel" (74 : Nat) "IssueRowsModel" "roundClaims" "[I") ∈ WA := WA_t (List.mem_append_right _ (List.mem_append_right _ (List.mem_append_left _ (List.mem_of_getElem? (i := 66) rfl)))) rfl
theorem kF_M_135 : (Cond.fieldLink "IssueRowsModel" (135 : Nat) "IssueRowsModel" "volumes" "I") ∈ WA := WA_t (List.mem_append_right _ (List.mem_append_right _ (List.mem_append_left _ (List.mem_of_getElem? (i := 67) rfl)))) rfl
theorem kF_M_138 : (Cond.fieldLink "IssueRowsModel" (138 : Nat) "IssueRowsModel" "rows" "I") ∈ WA := WA_t (List.mem_append_right _ (List.mem_append_right _ (List.mem_append_left _ (List.mem_of_getElem? (i := 68) rfl)))) rfl
theorem kF_M_77 : (Cond.fieldLink "IssueRowsModel" (77 : Nat) "IssueRowsModel" "rowFirst" "[I") ∈ WA := WA_t (List.mem_append_right _ (List.mem_append_right _ (List.mem_append_left _ (List.mem_of_getElem? (i := 69) rfl)))) rfl
theorem kF_M_80 : (Cond.fieldLink "IssueRowsModel" (80 : Nat) "IssueRowsModel" "rowLast" "[I") ∈ WA := WA_t (List.mem_append_right _ (List.mem_append_right _ (List.mem_append_left _ (List.mem_of_getElem? (i := 70) rfl)))) rfl
theorem kF_M_83 : (Cond.fieldLink "IssueRowsModel" (83 : Nat) "IssueRowsModel" "rowMany" "[I") ∈ WA := WA_t (List.mem_append_right _ (List.mem_append_right _ (List.mem_append_left _ (List.mem_of_getElem? (i := 71) rfl)))) rfl
theorem kF_M_104 : (Cond.fieldLink "IssueRowsModel" (104 : Nat) "IssueRowsModel" "notes" "I") ∈ WA := WA_t (List.mem_append_right _ (List.mem_append_right _ (List.mem_append_left _ (List.mem_of_getElem? (i := 72) rfl)))) rfl
theorem kF_M_86 : (Cond.fieldLink "IssueRowsModel" (86 : Nat) "IssueRowsModel" "note" "[I") ∈ WA := WA_t (List.mem_append_right _ (List.mem_append_right _ (List.mem_append_left _ (List.mem_of_getElem? (i := 73) rfl)))) rfl
theorem kF_M_89 : (Cond.fieldLink "IssueRowsModel" (89 : Nat) "IssueRowsModel" "noteIssue" "[I") ∈ WA := WA_t (List.mem_append_right _ (List.mem_append_right _ (List.mem_append_left _ (List.mem_of_getElem? (i := 74) rfl)))) rfl
theorem kY_M_thrown : (Cond.lays "IssueRowsModel" "IssueRowsModel" "thrown" "I") ∈ WA := WA_t (List.mem_append_right _ (List.mem_append_right _ (List.mem_append_left _ (List.mem_of_getElem? (i := 75) rfl)))) rfl
theorem kY_M_first : (Cond.laysFinal "IssueRowsModel" "IssueRowsModel" "first" "[I") ∈ WA := WA_t (List.mem_append_right _ (List.mem_append_right _ (List.mem_append_left _ (List.mem_of_getElem? (i := 77) rfl)))) rfl
theorem kY_M_again : (Cond.laysFinal "IssueRowsModel" "IssueRowsModel" "again" "[I") ∈ WA := WA_t (List.mem_append_right _ (List.mem_append_right _ (List.mem_append_left _ (List.mem_of_getElem? (i := 79) rfl)))) rfl
theorem kY_M_most : (Cond.laysFinal "IssueRowsModel" "IssueRowsModel" "most" "[I") ∈ WA := WA_t (List.mem_append_right _ (List.mem_append_right _ (List.mem_append_left _ (List.mem_of_getElem? (i := 81) rfl)))) rfl
theorem kY_M_issues : (Cond.lays "IssueRowsModel" "IssueRowsModel" "issues" "I") ∈ WA := WA_t (List.mem_append_right _ (List.mem_append_right _ (List.mem_append_left _ (List.mem_of_getElem? (i := 83) rfl)))) rfl
theorem kY_M_pattern : (Cond.laysFinal "IssueRowsModel" "IssueRowsModel" "pattern" "[I") ∈ WA := WA_t (List.mem_append_right _ (List.mem_append_right _ (List.mem_append_left _ (List.mem_of_getElem? (i := 85) rfl)))) rfl
theorem kY_M_ordinal : (Cond.laysFinal "IssueRowsModel" "IssueRowsModel" "ordinal" "[I") ∈ WA := WA_t (List.mem_append_right _ (List.mem_append_right _ (List.mem_append_left _ (List.mem_of_getElem? (i := 87) rfl)))) rfl
theorem kY_M_state : (Cond.laysFinal "IssueRowsModel" "IssueRowsModel" "state" "[I") ∈ WA := WA_t (List.mem_append_right _ (List.mem_append_right _ (List.mem_append_left _ (List.mem_of_getElem? (i := 89) rfl)))) rfl
theorem kY_M_expected : (Cond.laysFinal "IssueRowsModel" "IssueRowsModel" "expected" "[I") ∈ WA := WA_t (List.mem_append_right _ (List.mem_append_right _ (List.mem_append_left _ (List.mem_of_getElem? (i := 91) rfl)))) rfl
theorem kY_M_claims : (Cond.laysFinal "IssueRowsModel" "IssueRowsModel" "claims" "[I") ∈ WA := WA_t (List.mem_append_right _ (List.mem_append_right _ (List.mem_append_left _ (List.mem_of_getElem? (i := 93) rfl)))) rfl
theorem kY_M_claimDay : (Cond.laysFinal "IssueRowsModel" "IssueRowsModel" "claimDay" "[I") ∈ WA := WA_t (List.mem_append_right _ (List.mem_append_right _ (List.mem_append_left _ (List.mem_of_getElem? (i := 95) rfl)))) rfl
theorem kY_M_copies : (Cond.laysFinal "IssueRowsModel" "IssueRowsModel" "copies" "[I") ∈ WA := WA_t (List.mem_append_right _ (List.mem_append_right _ (List.mem_append_left _ (List.mem_of_getElem? (i := 97) rfl)))) rfl
theorem kY_M_came : (Cond.laysFinal "IssueRowsModel" "IssueRowsModel" "came" "[I") ∈ WA := WA_t (List.mem_append_right _ (List.mem_append_right _ (List.mem_append_left _ (List.mem_of_getElem? (i := 99) rfl)))) rfl
theorem kY_M_volumeOf : (Cond.laysFinal "IssueRowsModel" "IssueRowsModel" "volumeOf" "[I") ∈ WA := WA_t (List.mem_append_right _ (List.mem_append_right _ (List.mem_append_left _ (List.mem_of_getElem? (i := 101) rfl)))) rfl
theorem kY_M_replacedBy : (Cond.laysFinal "IssueRowsModel" "IssueRowsModel" "replacedBy" "[I") ∈ WA := WA_t (List.mem_append_right _ (List.mem_append_right _ (List.mem_append_left _ (List.mem_of_getElem? (i := 103) rfl)))) rfl
theorem kY_M_cents : (Cond.laysFinal "IssueRowsModel" "IssueRowsModel" "cents" "[I") ∈ WA := WA_t (List.mem_append_right _ (List.mem_append_right _ (List.mem_append_left _ (List.mem_of_getElem? (i := 105) rfl)))) rfl
theorem kY_M_replaces : (Cond.laysFinal "IssueRowsModel" "IssueRowsModel" "replaces" "[Z") ∈ WA := WA_t (List.mem_append_right _ (List.mem_append_right _ (List.mem_append_left _ (List.mem_of_getElem? (i := 107) rfl)))) rfl
theorem kY_M_rowSize : (Cond.laysFinal "IssueRowsModel" "IssueRowsModel" "rowSize" "[I") ∈ WA := WA_t (List.mem_append_right _ (List.mem_append_right _ (List.mem_append_left _ (List.mem_of_getElem? (i := 109) rfl)))) rfl
theorem kY_M_person : (Cond.laysFinal "IssueRowsModel" "IssueRowsModel" "person" "[I") ∈ WA := WA_t (List.mem_append_right _ (List.mem_append_right _ (List.mem_append_left _ (List.mem_of_getElem? (i := 111) rfl)))) rfl
theorem kY_M_personDays : (Cond.laysFinal "IssueRowsModel" "IssueRowsModel" "personDays" "[I") ∈ WA := WA_t (List.mem_append_right _ (List.mem_append_right _ (List.mem_append_left _ (List.mem_of_getElem? (i := 113) rfl)))) rfl
theorem kY_M_holder : (Cond.laysFinal "IssueRowsModel" "IssueRowsModel" "holder" "[I") ∈ WA := WA_t (List.mem_append_right _ (List.mem_append_right _ (List.mem_append_left _ (List.mem_of_getElem? (i := 115) rfl)))) rfl
theorem kY_M_holderFrom : (Cond.laysFinal "IssueRowsModel" "IssueRowsModel" "holderFrom" "[I") ∈ WA := WA_t (List.mem_append_right _ (List.mem_append_right _ (List.mem_append_left _ (List.mem_of_getElem? (i := 117) rfl)))) rfl
theorem kY_M_round : (Cond.lays "IssueRowsModel" "IssueRowsModel" "round" "I") ∈ WA := WA_t (List.mem_append_right _ (List.mem_append_right _ (List.mem_append_left _ (List.mem_of_getElem? (i := 119) rfl)))) rfl
theorem kY_M_roundIssue : (Cond.laysFinal "IssueRowsModel" "IssueRowsModel" "roundIssue" "[I") ∈ WA := WA_t (List.mem_append_right _ (List.mem_append_right _ (List.mem_append_left _ (List.mem_of_getElem? (i := 121) rfl)))) rfl
theorem kY_M_roundClaims : (Cond.laysFinal "IssueRowsModel" "IssueRowsModel" "roundClaims" "[I") ∈ WA := WA_t (List.mem_append_right _ (List.mem_append_right _ (List.mem_append_left _ (List.mem_of_getElem? (i := 123) rfl)))) rfl
theorem kY_M_volumes : (Cond.lays "IssueRowsModel" "IssueRowsModel" "volumes" "I") ∈ WA := WA_t (List.mem_append_right _ (List.mem_append_right _ (List.mem_append_left _ (List.mem_of_getElem? (i := 125) rfl)))) rfl
theorem kY_M_rows : (Cond.lays "IssueRowsModel" "IssueRowsModel" "rows" "I") ∈ WA := WA_t (List.mem_append_right _ (List.mem_append_right _ (List.mem_append_left _ (List.mem_of_getElem? (i := 127) rfl)))) rfl
theorem kY_M_rowFirst : (Cond.laysFinal "IssueRowsModel" "IssueRowsModel" "rowFirst" "[I") ∈ WA := WA_t (List.mem_append_right _ (List.mem_append_right _ (List.mem_append_left _ (List.mem_of_getElem? (i := 129) rfl)))) rfl
theorem kY_M_rowLast : (Cond.laysFinal "IssueRowsModel" "IssueRowsModel" "rowLast" "[I") ∈ WA := WA_t (List.mem_append_right _ (List.mem_append_right _ (List.mem_append_left _ (List.mem_of_getElem? (i := 131) rfl)))) rfl
theorem kY_M_rowMany : (Cond.laysFinal "IssueRowsModel" "IssueRowsModel" "rowMany" "[I") ∈ WA := WA_t (List.mem_append_right _ (List.mem_append_right _ (List.mem_append_left _ (List.mem_of_getElem? (i := 133) rfl)))) rfl
theorem kY_M_notes : (Cond.lays "IssueRowsModel" "IssueRowsModel" "notes" "I") ∈ WA := WA_t (List.mem_append_right _ (List.mem_append_right _ (List.mem_append_left _ (List.mem_of_getElem? (i := 135) rfl)))) rfl
theorem kY_M_note : (Cond.laysFinal "IssueRowsModel" "IssueRowsModel" "note" "[I") ∈ WA := WA_t (List.mem_append_right _ (List.mem_append_right _ (List.mem_append_left _ (List.mem_of_getElem? (i := 137) rfl)))) rfl
theorem kY_M_noteIssue : (Cond.laysFinal "IssueRowsModel" "IssueRowsModel" "noteIssue" "[I") ∈ WA := WA_t (List.mem_append_right _ (List.mem_append_right _ (List.mem_append_left _ (List.mem_of_getElem? (i := 139) rfl)))) rfl
theorem kR_boolean : (Cond.arrayClass FieldType.boolean) ∈ WA := WA_t (List.mem_append_right _ (List.mem_append_right _ (List.mem_append_left _ (List.mem_of_getElem? (i := 142) rfl)))) rfl
theorem kM_L_50 : (Cond.methodLink "IssueRowsLaw" (50 : Nat) ({ cls := "IssueRowsModel", name := "thrown", desc := "()I" } : MethodName)) ∈ WA := WA_t (List.mem_append_right _ (List.mem_append_right _ (List.mem_append_left _ (List.mem_of_getElem? (i := 143) rfl)))) rfl
theorem kI_M_thrown : (Cond.instanceMethod ({ cls := "IssueRowsModel", name := "thrown", desc := "()I" } : MethodName)) ∈ WA := WA_t (List.mem_append_right _ (List.mem_append_right _ (List.mem_append_left _ (List.mem_of_getElem? (i := 144) rfl)))) rfl
theorem kV_M_thrown : (Cond.selects "IssueRowsModel" ({ cls := "IssueRowsModel", name := "thrown", desc := "()I" } : MethodName) ({ cls := "IssueRowsModel", name := "thrown", desc := "()I" } : MethodName)) ∈ WA := WA_t (List.mem_append_right _ (List.mem_append_right _ (List.mem_append_left _ (List.mem_of_getElem? (i := 145) rfl)))) rfl
theorem kC_M_thrown : (Cond.code ({ cls := "IssueRowsModel", name := "thrown", desc := "()I" } : MethodName) prog_9_method_2_code (1 : Nat) (Option.some FieldType.int)) ∈ WA := WA_t (List.mem_append_right _ (List.mem_append_right _ (List.mem_append_left _ (List.mem_of_getElem? (i := 146) rfl)))) rfl
theorem kM_L_29 : (Cond.methodLink "IssueRowsLaw" (29 : Nat) ({ cls := "IssueRowsModel", name := "rule", desc := "(IIII)I" } : MethodName)) ∈ WA := WA_t (List.mem_append_right _ (List.mem_append_right _ (List.mem_append_left _ (List.mem_of_getElem? (i := 147) rfl)))) rfl
theorem kI_M_rule : (Cond.instanceMethod ({ cls := "IssueRowsModel", name := "rule", desc := "(IIII)I" } : MethodName)) ∈ WA := WA_t (List.mem_append_right _ (List.mem_append_right _ (List.mem_append_left _ (List.mem_of_getElem? (i := 148) rfl)))) rfl
theorem kV_M_rule : (Cond.selects "IssueRowsModel" ({ cls := "IssueRowsModel", name := "rule", desc := "(IIII)I" } : MethodName) ({ cls := "IssueRowsModel", name := "rule", desc := "(IIII)I" } : MethodName)) ∈ WA := WA_t (List.mem_append_right _ (List.mem_append_right _ (List.mem_append_left _ (List.mem_of_getElem? (i := 149) rfl)))) rfl
theorem kC_M_rule : (Cond.code ({ cls := "IssueRowsModel", name := "rule", desc := "(IIII)I" } : MethodName) prog_9_method_7_code (5 : Nat) (Option.some FieldType.int)) ∈ WA := WA_t (List.mem_append_right _ (List.mem_append_right _ (List.mem_append_left _ (List.mem_of_getElem? (i := 150) rfl)))) rfl
theorem kM_M_97 : (Cond.methodLink "IssueRowsModel" (97 : Nat) ({ cls := "IssueRowsModel", name := "in", desc := "(III)Z" } : MethodName)) ∈ WA := WA_t (List.mem_append_right _ (List.mem_append_right _ (List.mem_append_left _ (List.mem_of_getElem? (i := 151) rfl)))) rfl
theorem kS_M_in : (Cond.static ({ cls := "IssueRowsModel", name := "in", desc := "(III)Z" } : MethodName)) ∈ WA := WA_t (List.mem_append_right _ (List.mem_append_right _ (List.mem_append_left _ (List.mem_of_getElem? (i := 152) rfl)))) rfl
theorem kC_M_in : (Cond.code ({ cls := "IssueRowsModel", name := "in", desc := "(III)Z" } : MethodName) prog_9_method_3_code (3 : Nat) (Option.some FieldType.boolean)) ∈ WA := WA_t (List.mem_append_right _ (List.mem_append_right _ (List.mem_append_left _ (List.mem_of_getElem? (i := 153) rfl)))) rfl
theorem kM_L_34 : (Cond.methodLink "IssueRowsLaw" (34 : Nat) ({ cls := "IssueRowsModel", name := "issue", desc := "(III)I" } : MethodName)) ∈ WA := WA_t (List.mem_append_right _ (List.mem_append_right _ (List.mem_append_left _ (List.mem_of_getElem? (i := 154) rfl)))) rfl
theorem kI_M_issue : (Cond.instanceMethod ({ cls := "IssueRowsModel", name := "issue", desc := "(III)I" } : MethodName)) ∈ WA := WA_t (List.mem_append_right _ (List.mem_append_right _ (List.mem_append_left _ (List.mem_of_getElem? (i := 155) rfl)))) rfl
theorem kV_M_issue : (Cond.selects "IssueRowsModel" ({ cls := "IssueRowsModel", name := "issue", desc := "(III)I" } : MethodName) ({ cls := "IssueRowsModel", name := "issue", desc := "(III)I" } : MethodName)) ∈ WA := WA_t (List.mem_append_right _ (List.mem_append_right _ (List.mem_append_left _ (List.mem_of_getElem? (i := 156) rfl)))) rfl
theorem kC_M_issue : (Cond.code ({ cls := "IssueRowsModel", name := "issue", desc := "(III)I" } : MethodName) prog_9_method_9_code (5 : Nat) (Option.some FieldType.int)) ∈ WA := WA_t (List.mem_append_right _ (List.mem_append_right _ (List.mem_append_left _ (List.mem_of_getElem? (i := 157) rfl)))) rfl
theorem kM_M_107 : (Cond.methodLink "IssueRowsModel" (107 : Nat) ({ cls := "IssueRowsModel", name := "isDay", desc := "(I)Z" } : MethodName)) ∈ WA := WA_t (List.mem_append_right _ (List.mem_append_right _ (List.mem_append_left _ (List.mem_of_getElem? (i := 158) rfl)))) rfl
theorem kS_M_isDay : (Cond.static ({ cls := "IssueRowsModel", name := "isDay", desc := "(I)Z" } : MethodName)) ∈ WA := WA_t (List.mem_append_right _ (List.mem_append_right _ (List.mem_append_left _ (List.mem_of_getElem? (i := 159) rfl)))) rfl
theorem kC_M_isDay : (Cond.code ({ cls := "IssueRowsModel", name := "isDay", desc := "(I)Z" } : MethodName) prog_9_method_4_code (1 : Nat) (Option.some FieldType.boolean)) ∈ WA := WA_t (List.mem_append_right _ (List.mem_append_right _ (List.mem_append_left _ (List.mem_of_getElem? (i := 160) rfl)))) rfl
theorem kK_M_96 : (Cond.constant "IssueRowsModel" (96 : Nat) (1000000 : Int32)) ∈ WA := WA_t (List.mem_append_right _ (List.mem_append_right _ (List.mem_append_left _ (List.mem_of_getElem? (i := 161) rfl)))) rfl
theorem kM_M_111 : (Cond.methodLink "IssueRowsModel" (111 : Nat) ({ cls := "IssueRowsModel", name := "lay", desc := "(III)I" } : MethodName)) ∈ WA := WA_t (List.mem_append_right _ (List.mem_append_right _ (List.mem_append_left _ (List.mem_of_getElem? (i := 162) rfl)))) rfl
theorem kI_M_lay : (Cond.instanceMethod ({ cls := "IssueRowsModel", name := "lay", desc := "(III)I" } : MethodName)) ∈ WA := WA_t (List.mem_append_right _ (List.mem_append_right _ (List.mem_append_left _ (List.mem_of_getElem? (i := 164) rfl)))) rfl
theorem kC_M_lay : (Cond.code ({ cls := "IssueRowsModel", name := "lay", desc := "(III)I" } : MethodName) prog_9_method_8_code (5 : Nat) (Option.some FieldType.int)) ∈ WA := WA_t (List.mem_append_right _ (List.mem_append_right _ (List.mem_append_left _ (List.mem_of_getElem? (i := 165) rfl)))) rfl
theorem kM_L_38 : (Cond.methodLink "IssueRowsLaw" (38 : Nat) ({ cls := "IssueRowsModel", name := "checkIn", desc := "(III)I" } : MethodName)) ∈ WA := WA_t (List.mem_append_right _ (List.mem_append_right _ (List.mem_append_left _ (List.mem_of_getElem? (i := 166) rfl)))) rfl
theorem kI_M_checkIn : (Cond.instanceMethod ({ cls := "IssueRowsModel", name := "checkIn", desc := "(III)I" } : MethodName)) ∈ WA := WA_t (List.mem_append_right _ (List.mem_append_right _ (List.mem_append_left _ (List.mem_of_getElem? (i := 167) rfl)))) rfl
theorem kV_M_checkIn : (Cond.selects "IssueRowsModel" ({ cls := "IssueRowsModel", name := "checkIn", desc := "(III)I" } : MethodName) ({ cls := "IssueRowsModel", name := "checkIn", desc := "(III)I" } : MethodName)) ∈ WA := WA_t (List.mem_append_right _ (List.mem_append_right _ (List.mem_append_left _ (List.mem_of_getElem? (i := 168) rfl)))) rfl
theorem kC_M_checkIn : (Cond.code ({ cls := "IssueRowsModel", name := "checkIn", desc := "(III)I" } : MethodName) prog_9_method_10_code (5 : Nat) (Option.some FieldType.int)) ∈ WA := WA_t (List.mem_append_right _ (List.mem_append_right _ (List.mem_append_left _ (List.mem_of_getElem? (i := 169) rfl)))) rfl
theorem kM_M_115 : (Cond.methodLink "IssueRowsModel" (115 : Nat) ({ cls := "IssueRowsModel", name := "isIssue", desc := "(I)Z" } : MethodName)) ∈ WA := WA_t (List.mem_append_right _ (List.mem_append_right _ (List.mem_append_left _ (List.mem_of_getElem? (i := 170) rfl)))) rfl
theorem kI_M_isIssue : (Cond.instanceMethod ({ cls := "IssueRowsModel", name := "isIssue", desc := "(I)Z" } : MethodName)) ∈ WA := WA_t (List.mem_append_right _ (List.mem_append_right _ (List.mem_append_left _ (List.mem_of_getElem? (i := 172) rfl)))) rfl
theorem kC_M_isIssue : (Cond.code ({ cls := "IssueRowsModel", name := "isIssue", desc := "(I)Z" } : MethodName) prog_9_method_5_code (2 : Nat) (Option.some FieldType.boolean)) ∈ WA := WA_t (List.mem_append_right _ (List.mem_append_right _ (List.mem_append_left _ (List.mem_of_getElem? (i := 173) rfl)))) rfl
theorem kM_M_118 : (Cond.methodLink "IssueRowsModel" (118 : Nat) ({ cls := "IssueRowsModel", name := "tell", desc := "(II)V" } : MethodName)) ∈ WA := WA_t (List.mem_append_right _ (List.mem_append_right _ (List.mem_append_left _ (List.mem_of_getElem? (i := 174) rfl)))) rfl
theorem kI_M_tell : (Cond.instanceMethod ({ cls := "IssueRowsModel", name := "tell", desc := "(II)V" } : MethodName)) ∈ WA := WA_t (List.mem_append_right _ (List.mem_append_right _ (List.mem_append_left _ (List.mem_of_getElem? (i := 176) rfl)))) rfl
theorem kC_M_tell : (Cond.code ({ cls := "IssueRowsModel", name := "tell", desc := "(II)V" } : MethodName) prog_9_method_6_code (3 : Nat) (Option.none : Option FieldType)) ∈ WA := WA_t (List.mem_append_right _ (List.mem_append_right _ (List.mem_append_left _ (List.mem_of_getElem? (i := 177) rfl)))) rfl
theorem kM_L_43 : (Cond.methodLink "IssueRowsLaw" (43 : Nat) ({ cls := "IssueRowsModel", name := "claim", desc := "(I)I" } : MethodName)) ∈ WA := WA_t (List.mem_append_right _ (List.mem_append_right _ (List.mem_append_left _ (List.mem_of_getElem? (i := 178) rfl)))) rfl
theorem kI_M_claim : (Cond.instanceMethod ({ cls := "IssueRowsModel", name := "claim", desc := "(I)I" } : MethodName)) ∈ WA := WA_t (List.mem_append_right _ (List.mem_append_right _ (List.mem_append_left _ (List.mem_of_getElem? (i := 179) rfl)))) rfl
theorem kV_M_claim : (Cond.selects "IssueRowsModel" ({ cls := "IssueRowsModel", name := "claim", desc := "(I)I" } : MethodName) ({ cls := "IssueRowsModel", name := "claim", desc := "(I)I" } : MethodName)) ∈ WA := WA_t (List.mem_append_right _ (List.mem_append_right _ (List.mem_append_left _ (List.mem_of_getElem? (i := 180) rfl)))) rfl
theorem kC_M_claim : (Cond.code ({ cls := "IssueRowsModel", name := "claim", desc := "(I)I" } : MethodName) prog_9_method_12_code (3 : Nat) (Option.some FieldType.int)) ∈ WA := WA_t (List.mem_append_right _ (List.mem_append_right _ (List.mem_append_left _ (List.mem_of_getElem? (i := 181) rfl)))) rfl
theorem kM_M_125 : (Cond.methodLink "IssueRowsModel" (125 : Nat) ({ cls := "IssueRowsModel", name := "askFor", desc := "(II)V" } : MethodName)) ∈ WA := WA_t (List.mem_append_right _ (List.mem_append_right _ (List.mem_append_left _ (List.mem_of_getElem? (i := 182) rfl)))) rfl
theorem kI_M_askFor : (Cond.instanceMethod ({ cls := "IssueRowsModel", name := "askFor", desc := "(II)V" } : MethodName)) ∈ WA := WA_t (List.mem_append_right _ (List.mem_append_right _ (List.mem_append_left _ (List.mem_of_getElem? (i := 184) rfl)))) rfl
theorem kC_M_askFor : (Cond.code ({ cls := "IssueRowsModel", name := "askFor", desc := "(II)V" } : MethodName) prog_9_method_11_code (5 : Nat) (Option.none : Option FieldType)) ∈ WA := WA_t (List.mem_append_right _ (List.mem_append_right _ (List.mem_append_left _ (List.mem_of_getElem? (i := 185) rfl)))) rfl
theorem kM_L_49 : (Cond.methodLink "IssueRowsLaw" (49 : Nat) ({ cls := "IssueRowsModel", name := "claimed", desc := "(II)I" } : MethodName)) ∈ WA := WA_t (List.mem_append_right _ (List.mem_append_right _ (List.mem_append_left _ (List.mem_of_getElem? (i := 186) rfl)))) rfl
theorem kI_M_claimed : (Cond.instanceMethod ({ cls := "IssueRowsModel", name := "claimed", desc := "(II)I" } : MethodName)) ∈ WA := WA_t (List.mem_append_right _ (List.mem_append_right _ (List.mem_append_left _ (List.mem_of_getElem? (i := 187) rfl)))) rfl
theorem kV_M_claimed : (Cond.selects "IssueRowsModel" ({ cls := "IssueRowsModel", name := "claimed", desc := "(II)I" } : MethodName) ({ cls := "IssueRowsModel", name := "claimed", desc := "(II)I" } : MethodName)) ∈ WA := WA_t (List.mem_append_right _ (List.mem_append_right _ (List.mem_append_left _ (List.mem_of_getElem? (i := 188) rfl)))) rfl
theorem kC_M_claimed : (Cond.code ({ cls := "IssueRowsModel", name := "claimed", desc := "(II)I" } : MethodName) prog_9_method_13_code (3 : Nat) (Option.some FieldType.int)) ∈ WA := WA_t (List.mem_append_right _ (List.mem_append_right _ (List.mem_append_left _ (List.mem_of_getElem? (i := 189) rfl)))) rfl
theorem kM_L_57 : (Cond.methodLink "IssueRowsLaw" (57 : Nat) ({ cls := "IssueRowsModel", name := "list", desc := "(III)I" } : MethodName)) ∈ WA := WA_t (List.mem_append_right _ (List.mem_append_right _ (List.mem_append_left _ (List.mem_of_getElem? (i := 190) rfl)))) rfl
theorem kI_M_list : (Cond.instanceMethod ({ cls := "IssueRowsModel", name := "list", desc := "(III)I" } : MethodName)) ∈ WA := WA_t (List.mem_append_right _ (List.mem_append_right _ (List.mem_append_left _ (List.mem_of_getElem? (i := 191) rfl)))) rfl
theorem kV_M_list : (Cond.selects "IssueRowsModel" ({ cls := "IssueRowsModel", name := "list", desc := "(III)I" } : MethodName) ({ cls := "IssueRowsModel", name := "list", desc := "(III)I" } : MethodName)) ∈ WA := WA_t (List.mem_append_right _ (List.mem_append_right _ (List.mem_append_left _ (List.mem_of_getElem? (i := 192) rfl)))) rfl
theorem kC_M_list : (Cond.code ({ cls := "IssueRowsModel", name := "list", desc := "(III)I" } : MethodName) prog_9_method_15_code (4 : Nat) (Option.some FieldType.int)) ∈ WA := WA_t (List.mem_append_right _ (List.mem_append_right _ (List.mem_append_left _ (List.mem_of_getElem? (i := 193) rfl)))) rfl
theorem kM_L_61 : (Cond.methodLink "IssueRowsLaw" (61 : Nat) ({ cls := "IssueRowsModel", name := "route", desc := "(II)I" } : MethodName)) ∈ WA := WA_t (List.mem_append_right _ (List.mem_append_right _ (List.mem_append_left _ (List.mem_of_getElem? (i := 194) rfl)))) rfl
theorem kI_M_route : (Cond.instanceMethod ({ cls := "IssueRowsModel", name := "route", desc := "(II)I" } : MethodName)) ∈ WA := WA_t (List.mem_append_right _ (List.mem_append_right _ (List.mem_append_left _ (List.mem_of_getElem? (i := 195) rfl)))) rfl
theorem kV_M_route : (Cond.selects "IssueRowsModel" ({ cls := "IssueRowsModel", name := "route", desc := "(II)I" } : MethodName) ({ cls := "IssueRowsModel", name := "route", desc := "(II)I" } : MethodName)) ∈ WA := WA_t (List.mem_append_right _ (List.mem_append_right _ (List.mem_append_left _ (List.mem_of_getElem? (i := 196) rfl)))) rfl
theorem kC_M_route : (Cond.code ({ cls := "IssueRowsModel", name := "route", desc := "(II)I" } : MethodName) prog_9_method_16_code (3 : Nat) (Option.some FieldType.int)) ∈ WA := WA_t (List.mem_append_right _ (List.mem_append_right _ (List.mem_append_left _ (List.mem_of_getElem? (i := 197) rfl)))) rfl
theorem kM_L_65 : (Cond.methodLink "IssueRowsLaw" (65 : Nat) ({ cls := "IssueRowsModel", name := "returned", desc := "(II)I" } : MethodName)) ∈ WA := WA_t (List.mem_append_right _ (List.mem_append_right _ (List.mem_append_left _ (List.mem_of_getElem? (i := 198) rfl)))) rfl
theorem kI_M_returned : (Cond.instanceMethod ({ cls := "IssueRowsModel", name := "returned", desc := "(II)I" } : MethodName)) ∈ WA := WA_t (List.mem_append_right _ (List.mem_append_right _ (List.mem_append_left _ (List.mem_of_getElem? (i := 199) rfl)))) rfl
theorem kV_M_returned : (Cond.selects "IssueRowsModel" ({ cls := "IssueRowsModel", name := "returned", desc := "(II)I" } : MethodName) ({ cls := "IssueRowsModel", name := "returned", desc := "(II)I" } : MethodName)) ∈ WA := WA_t (List.mem_append_right _ (List.mem_append_right _ (List.mem_append_left _ (List.mem_of_getElem? (i := 200) rfl)))) rfl
theorem kC_M_returned : (Cond.code ({ cls := "IssueRowsModel", name := "returned", desc := "(II)I" } : MethodName) prog_9_method_17_code (4 : Nat) (Option.some FieldType.int)) ∈ WA := WA_t (List.mem_append_right _ (List.mem_append_right _ (List.mem_append_left _ (List.mem_of_getElem? (i := 201) rfl)))) rfl
theorem kM_M_128 : (Cond.methodLink "IssueRowsModel" (128 : Nat) ({ cls := "IssueRowsModel", name := "isHeld", desc := "(I)Z" } : MethodName)) ∈ WA := WA_t (List.mem_append_right _ (List.mem_append_right _ (List.mem_append_left _ (List.mem_of_getElem? (i := 202) rfl)))) rfl
theorem kI_M_isHeld : (Cond.instanceMethod ({ cls := "IssueRowsModel", name := "isHeld", desc := "(I)Z" } : MethodName)) ∈ WA := WA_t (List.mem_append_right _ (List.mem_append_right _ (List.mem_append_left _ (List.mem_of_getElem? (i := 204) rfl)))) rfl
theorem kC_M_isHeld : (Cond.code ({ cls := "IssueRowsModel", name := "isHeld", desc := "(I)Z" } : MethodName) prog_9_method_14_code (2 : Nat) (Option.some FieldType.boolean)) ∈ WA := WA_t (List.mem_append_right _ (List.mem_append_right _ (List.mem_append_left _ (List.mem_of_getElem? (i := 205) rfl)))) rfl
theorem kM_L_69 : (Cond.methodLink "IssueRowsLaw" (69 : Nat) ({ cls := "IssueRowsModel", name := "replace", desc := "(II)I" } : MethodName)) ∈ WA := WA_t (List.mem_append_right _ (List.mem_append_right _ (List.mem_append_left _ (List.mem_of_getElem? (i := 206) rfl)))) rfl
theorem kI_M_replace : (Cond.instanceMethod ({ cls := "IssueRowsModel", name := "replace", desc := "(II)I" } : MethodName)) ∈ WA := WA_t (List.mem_append_right _ (List.mem_append_right _ (List.mem_append_left _ (List.mem_of_getElem? (i := 207) rfl)))) rfl
theorem kV_M_replace : (Cond.selects "IssueRowsModel" ({ cls := "IssueRowsModel", name := "replace", desc := "(II)I" } : MethodName) ({ cls := "IssueRowsModel", name := "replace", desc := "(II)I" } : MethodName)) ∈ WA := WA_t (List.mem_append_right _ (List.mem_append_right _ (List.mem_append_left _ (List.mem_of_getElem? (i := 208) rfl)))) rfl
theorem kC_M_replace : (Cond.code ({ cls := "IssueRowsModel", name := "replace", desc := "(II)I" } : MethodName) prog_9_method_18_code (4 : Nat) (Option.some FieldType.int)) ∈ WA := WA_t (List.mem_append_right _ (List.mem_append_right _ (List.mem_append_left _ (List.mem_of_getElem? (i := 209) rfl)))) rfl
theorem kM_L_73 : (Cond.methodLink "IssueRowsLaw" (73 : Nat) ({ cls := "IssueRowsModel", name := "bind", desc := "(II)I" } : MethodName)) ∈ WA := WA_t (List.mem_append_right _ (List.mem_append_right _ (List.mem_append_left _ (List.mem_of_getElem? (i := 210) rfl)))) rfl
theorem kI_M_bind : (Cond.instanceMethod ({ cls := "IssueRowsModel", name := "bind", desc := "(II)I" } : MethodName)) ∈ WA := WA_t (List.mem_append_right _ (List.mem_append_right _ (List.mem_append_left _ (List.mem_of_getElem? (i := 211) rfl)))) rfl
theorem kV_M_bind : (Cond.selects "IssueRowsModel" ({ cls := "IssueRowsModel", name := "bind", desc := "(II)I" } : MethodName) ({ cls := "IssueRowsModel", name := "bind", desc := "(II)I" } : MethodName)) ∈ WA := WA_t (List.mem_append_right _ (List.mem_append_right _ (List.mem_append_left _ (List.mem_of_getElem? (i := 212) rfl)))) rfl
theorem kC_M_bind : (Cond.code ({ cls := "IssueRowsModel", name := "bind", desc := "(II)I" } : MethodName) prog_9_method_20_code (6 : Nat) (Option.some FieldType.int)) ∈ WA := WA_t (List.mem_append_right _ (List.mem_append_right _ (List.mem_append_left _ (List.mem_of_getElem? (i := 213) rfl)))) rfl
theorem kM_M_131 : (Cond.methodLink "IssueRowsModel" (131 : Nat) ({ cls := "IssueRowsModel", name := "nextHere", desc := "(II)I" } : MethodName)) ∈ WA := WA_t (List.mem_append_right _ (List.mem_append_right _ (List.mem_append_left _ (List.mem_of_getElem? (i := 214) rfl)))) rfl
theorem kI_M_nextHere : (Cond.instanceMethod ({ cls := "IssueRowsModel", name := "nextHere", desc := "(II)I" } : MethodName)) ∈ WA := WA_t (List.mem_append_right _ (List.mem_append_right _ (List.mem_append_left _ (List.mem_of_getElem? (i := 216) rfl)))) rfl
theorem kC_M_nextHere : (Cond.code ({ cls := "IssueRowsModel", name := "nextHere", desc := "(II)I" } : MethodName) prog_9_method_19_code (5 : Nat) (Option.some FieldType.int)) ∈ WA := WA_t (List.mem_append_right _ (List.mem_append_right _ (List.mem_append_left _ (List.mem_of_getElem? (i := 217) rfl)))) rfl
theorem kM_L_76 : (Cond.methodLink "IssueRowsLaw" (76 : Nat) ({ cls := "IssueRowsModel", name := "volume", desc := "(II)I" } : MethodName)) ∈ WA := WA_t (List.mem_append_right _ (List.mem_append_right _ (List.mem_append_left _ (List.mem_of_getElem? (i := 218) rfl)))) rfl
theorem kI_M_volume : (Cond.instanceMethod ({ cls := "IssueRowsModel", name := "volume", desc := "(II)I" } : MethodName)) ∈ WA := WA_t (List.mem_append_right _ (List.mem_append_right _ (List.mem_append_left _ (List.mem_of_getElem? (i := 219) rfl)))) rfl
theorem kV_M_volume : (Cond.selects "IssueRowsModel" ({ cls := "IssueRowsModel", name := "volume", desc := "(II)I" } : MethodName) ({ cls := "IssueRowsModel", name := "volume", desc := "(II)I" } : MethodName)) ∈ WA := WA_t (List.mem_append_right _ (List.mem_append_right _ (List.mem_append_left _ (List.mem_of_getElem? (i := 220) rfl)))) rfl
theorem kC_M_volume : (Cond.code ({ cls := "IssueRowsModel", name := "volume", desc := "(II)I" } : MethodName) prog_9_method_21_code (8 : Nat) (Option.some FieldType.int)) ∈ WA := WA_t (List.mem_append_right _ (List.mem_append_right _ (List.mem_append_left _ (List.mem_of_getElem? (i := 221) rfl)))) rfl
theorem kM_L_80 : (Cond.methodLink "IssueRowsLaw" (80 : Nat) ({ cls := "IssueRowsModel", name := "statement", desc := "(I)I" } : MethodName)) ∈ WA := WA_t (List.mem_append_right _ (List.mem_append_right _ (List.mem_append_left _ (List.mem_of_getElem? (i := 222) rfl)))) rfl
theorem kI_M_statement : (Cond.instanceMethod ({ cls := "IssueRowsModel", name := "statement", desc := "(I)I" } : MethodName)) ∈ WA := WA_t (List.mem_append_right _ (List.mem_append_right _ (List.mem_append_left _ (List.mem_of_getElem? (i := 223) rfl)))) rfl
theorem kV_M_statement : (Cond.selects "IssueRowsModel" ({ cls := "IssueRowsModel", name := "statement", desc := "(I)I" } : MethodName) ({ cls := "IssueRowsModel", name := "statement", desc := "(I)I" } : MethodName)) ∈ WA := WA_t (List.mem_append_right _ (List.mem_append_right _ (List.mem_append_left _ (List.mem_of_getElem? (i := 224) rfl)))) rfl
theorem kC_M_statement : (Cond.code ({ cls := "IssueRowsModel", name := "statement", desc := "(I)I" } : MethodName) prog_9_method_24_code (4 : Nat) (Option.some FieldType.int)) ∈ WA := WA_t (List.mem_append_right _ (List.mem_append_right _ (List.mem_append_left _ (List.mem_of_getElem? (i := 225) rfl)))) rfl
theorem kM_M_141 : (Cond.methodLink "IssueRowsModel" (141 : Nat) ({ cls := "IssueRowsModel", name := "next", desc := "(II)I" } : MethodName)) ∈ WA := WA_t (List.mem_append_right _ (List.mem_append_right _ (List.mem_append_left _ (List.mem_of_getElem? (i := 226) rfl)))) rfl
theorem kI_M_next : (Cond.instanceMethod ({ cls := "IssueRowsModel", name := "next", desc := "(II)I" } : MethodName)) ∈ WA := WA_t (List.mem_append_right _ (List.mem_append_right _ (List.mem_append_left _ (List.mem_of_getElem? (i := 228) rfl)))) rfl
theorem kC_M_next : (Cond.code ({ cls := "IssueRowsModel", name := "next", desc := "(II)I" } : MethodName) prog_9_method_23_code (5 : Nat) (Option.some FieldType.int)) ∈ WA := WA_t (List.mem_append_right _ (List.mem_append_right _ (List.mem_append_left _ (List.mem_of_getElem? (i := 229) rfl)))) rfl
theorem kM_M_144 : (Cond.methodLink "IssueRowsModel" (144 : Nat) ({ cls := "IssueRowsModel", name := "stands", desc := "(I)Z" } : MethodName)) ∈ WA := WA_t (List.mem_append_right _ (List.mem_append_right _ (List.mem_append_left _ (List.mem_of_getElem? (i := 230) rfl)))) rfl
theorem kI_M_stands : (Cond.instanceMethod ({ cls := "IssueRowsModel", name := "stands", desc := "(I)Z" } : MethodName)) ∈ WA := WA_t (List.mem_append_right _ (List.mem_append_right _ (List.mem_append_left _ (List.mem_of_getElem? (i := 232) rfl)))) rfl
theorem kC_M_stands : (Cond.code ({ cls := "IssueRowsModel", name := "stands", desc := "(I)Z" } : MethodName) prog_9_method_22_code (2 : Nat) (Option.some FieldType.boolean)) ∈ WA := WA_t (List.mem_append_right _ (List.mem_append_right _ (List.mem_append_left _ (List.mem_of_getElem? (i := 233) rfl)))) rfl
theorem kM_L_83 : (Cond.methodLink "IssueRowsLaw" (83 : Nat) ({ cls := "IssueRowsModel", name := "row", desc := "(II)I" } : MethodName)) ∈ WA := WA_t (List.mem_append_right _ (List.mem_append_right _ (List.mem_append_left _ (List.mem_of_getElem? (i := 234) rfl)))) rfl
theorem kI_M_row : (Cond.instanceMethod ({ cls := "IssueRowsModel", name := "row", desc := "(II)I" } : MethodName)) ∈ WA := WA_t (List.mem_append_right _ (List.mem_append_right _ (List.mem_append_left _ (List.mem_of_getElem? (i := 235) rfl)))) rfl
theorem kV_M_row : (Cond.selects "IssueRowsModel" ({ cls := "IssueRowsModel", name := "row", desc := "(II)I" } : MethodName) ({ cls := "IssueRowsModel", name := "row", desc := "(II)I" } : MethodName)) ∈ WA := WA_t (List.mem_append_right _ (List.mem_append_right _ (List.mem_append_left _ (List.mem_of_getElem? (i := 236) rfl)))) rfl
theorem kC_M_row : (Cond.code ({ cls := "IssueRowsModel", name := "row", desc := "(II)I" } : MethodName) prog_9_method_25_code (3 : Nat) (Option.some FieldType.int)) ∈ WA := WA_t (List.mem_append_right _ (List.mem_append_right _ (List.mem_append_left _ (List.mem_of_getElem? (i := 237) rfl)))) rfl
theorem kM_L_87 : (Cond.methodLink "IssueRowsLaw" (87 : Nat) ({ cls := "IssueRowsModel", name := "about", desc := "(II)I" } : MethodName)) ∈ WA := WA_t (List.mem_append_right _ (List.mem_append_right _ (List.mem_append_left _ (List.mem_of_getElem? (i := 238) rfl)))) rfl
theorem kI_M_about : (Cond.instanceMethod ({ cls := "IssueRowsModel", name := "about", desc := "(II)I" } : MethodName)) ∈ WA := WA_t (List.mem_append_right _ (List.mem_append_right _ (List.mem_append_left _ (List.mem_of_getElem? (i := 239) rfl)))) rfl
theorem kV_M_about : (Cond.selects "IssueRowsModel" ({ cls := "IssueRowsModel", name := "about", desc := "(II)I" } : MethodName) ({ cls := "IssueRowsModel", name := "about", desc := "(II)I" } : MethodName)) ∈ WA := WA_t (List.mem_append_right _ (List.mem_append_right _ (List.mem_append_right _ (List.mem_of_getElem? (i := 0) rfl)))) rfl
theorem kC_M_about : (Cond.code ({ cls := "IssueRowsModel", name := "about", desc := "(II)I" } : MethodName) prog_9_method_26_code (3 : Nat) (Option.some FieldType.int)) ∈ WA := WA_t (List.mem_append_right _ (List.mem_append_right _ (List.mem_append_right _ (List.mem_of_getElem? (i := 1) rfl)))) rfl
theorem kM_L_91 : (Cond.methodLink "IssueRowsLaw" (91 : Nat) ({ cls := "IssueRowsModel", name := "cost", desc := "(II)I" } : MethodName)) ∈ WA := WA_t (List.mem_append_right _ (List.mem_append_right _ (List.mem_append_right _ (List.mem_of_getElem? (i := 2) rfl)))) rfl
theorem kI_M_cost : (Cond.instanceMethod ({ cls := "IssueRowsModel", name := "cost", desc := "(II)I" } : MethodName)) ∈ WA := WA_t (List.mem_append_right _ (List.mem_append_right _ (List.mem_append_right _ (List.mem_of_getElem? (i := 3) rfl)))) rfl
theorem kV_M_cost : (Cond.selects "IssueRowsModel" ({ cls := "IssueRowsModel", name := "cost", desc := "(II)I" } : MethodName) ({ cls := "IssueRowsModel", name := "cost", desc := "(II)I" } : MethodName)) ∈ WA := WA_t (List.mem_append_right _ (List.mem_append_right _ (List.mem_append_right _ (List.mem_of_getElem? (i := 4) rfl)))) rfl
theorem kC_M_cost : (Cond.code ({ cls := "IssueRowsModel", name := "cost", desc := "(II)I" } : MethodName) prog_9_method_27_code (3 : Nat) (Option.some FieldType.int)) ∈ WA := WA_t (List.mem_append_right _ (List.mem_append_right _ (List.mem_append_right _ (List.mem_of_getElem? (i := 5) rfl)))) rfl
theorem kK_M_147 : (Cond.constant "IssueRowsModel" (147 : Nat) (10000000 : Int32)) ∈ WA := WA_t (List.mem_append_right _ (List.mem_append_right _ (List.mem_append_right _ (List.mem_of_getElem? (i := 6) rfl)))) rfl
theorem kK_M_148 : (Cond.constant "IssueRowsModel" (148 : Nat) (1000000000 : Int32)) ∈ WA := WA_t (List.mem_append_right _ (List.mem_append_right _ (List.mem_append_right _ (List.mem_of_getElem? (i := 7) rfl)))) rfl
theorem kM_L_95 : (Cond.methodLink "IssueRowsLaw" (95 : Nat) ({ cls := "IssueRowsModel", name := "told", desc := "(II)I" } : MethodName)) ∈ WA := WA_t (List.mem_append_right _ (List.mem_append_right _ (List.mem_append_right _ (List.mem_of_getElem? (i := 8) rfl)))) rfl
theorem kI_M_told : (Cond.instanceMethod ({ cls := "IssueRowsModel", name := "told", desc := "(II)I" } : MethodName)) ∈ WA := WA_t (List.mem_append_right _ (List.mem_append_right _ (List.mem_append_right _ (List.mem_of_getElem? (i := 9) rfl)))) rfl
theorem kV_M_told : (Cond.selects "IssueRowsModel" ({ cls := "IssueRowsModel", name := "told", desc := "(II)I" } : MethodName) ({ cls := "IssueRowsModel", name := "told", desc := "(II)I" } : MethodName)) ∈ WA := WA_t (List.mem_append_right _ (List.mem_append_right _ (List.mem_append_right _ (List.mem_of_getElem? (i := 10) rfl)))) rfl
theorem kC_M_told : (Cond.code ({ cls := "IssueRowsModel", name := "told", desc := "(II)I" } : MethodName) prog_9_method_28_code (3 : Nat) (Option.some FieldType.int)) ∈ WA := WA_t (List.mem_append_right _ (List.mem_append_right _ (List.mem_append_right _ (List.mem_of_getElem? (i := 11) rfl)))) rfl
theorem kM_L_99 : (Cond.methodLink "IssueRowsLaw" (99 : Nat) ({ cls := "IssueRowsModel", name := "lateness", desc := "(I)I" } : MethodName)) ∈ WA := WA_t (List.mem_append_right _ (List.mem_append_right _ (List.mem_append_right _ (List.mem_of_getElem? (i := 12) rfl)))) rfl
theorem kI_M_lateness : (Cond.instanceMethod ({ cls := "IssueRowsModel", name := "lateness", desc := "(I)I" } : MethodName)) ∈ WA := WA_t (List.mem_append_right _ (List.mem_append_right _ (List.mem_append_right _ (List.mem_of_getElem? (i := 13) rfl)))) rfl
theorem kV_M_lateness : (Cond.selects "IssueRowsModel" ({ cls := "IssueRowsModel", name := "lateness", desc := "(I)I" } : MethodName) ({ cls := "IssueRowsModel", name := "lateness", desc := "(I)I" } : MethodName)) ∈ WA := WA_t (List.mem_append_right _ (List.mem_append_right _ (List.mem_append_right _ (List.mem_of_getElem? (i := 14) rfl)))) rfl
theorem kC_M_lateness : (Cond.code ({ cls := "IssueRowsModel", name := "lateness", desc := "(I)I" } : MethodName) prog_9_method_29_code (4 : Nat) (Option.some FieldType.int)) ∈ WA := WA_t (List.mem_append_right _ (List.mem_append_right _ (List.mem_append_right _ (List.mem_of_getElem? (i := 15) rfl)))) rfl
theorem kR_long : (Cond.arrayClass FieldType.long) ∈ WA := WA_t (List.mem_append_right _ (List.mem_append_right _ (List.mem_append_right _ (List.mem_of_getElem? (i := 16) rfl)))) rfl
abbrev nestQ : List (String × Nat × MethodName × String) := [("IssueRows", 42, y_V_init, "IssueRows"), ("IssueRows", 49, y_S_init, "IssueRows"), ("IssueRows", 54, y_U_init, "IssueRows"), ("IssueRows$Issue", 11, y_G_init, "IssueRows"), ("IssueRows$Volumes", 26, y_X_within, "IssueRows"), ("IssueRows$Pairs", 28, y_X_within, "IssueRows"), ("IssueRows$Statement", 25, y_X_within, "IssueRows")]
def NN (U : State) : Prop := (∀ q ∈ nestQ, va_Nw (.methodLinkNest q.1 q.2.1 q.2.2.1 q.2.2.2) U) ∧ va_AO "IssueRows$Rule" U ∧ va_AO "IssueRows$Issue" U
theorem NN.warm {s U : State} (hW : s.WarmedH U.vm) (h : NN s) : NN U := ⟨fun q hq => va_Nw.warmM hW (h.1 q hq), h.2.1.moved hW.alike, h.2.2.moved hW.alike⟩
theorem NN.same {u U : State} (hv : u.vm = U.vm) (h : NN u) : NN U := ⟨fun q hq => va_Nw.same rfl hv (h.1 q hq), h.2.1.moved (by rw [hv]; exact Vm.Alike.refl _), h.2.2.moved (by rw [hv]; exact Vm.Alike.refl _)⟩
theorem kN_X_42 {U : State} (h : NN U) : va_Nw (.methodLinkNest "IssueRows" 42 y_V_init "IssueRows") U := h.1 (_, _, _, _) (List.mem_of_getElem? (i := 0) rfl)
theorem kN_X_49 {U : State} (h : NN U) : va_Nw (.methodLinkNest "IssueRows" 49 y_S_init "IssueRows") U := h.1 (_, _, _, _) (List.mem_of_getElem? (i := 1) rfl)
theorem kN_X_54 {U : State} (h : NN U) : va_Nw (.methodLinkNest "IssueRows" 54 y_U_init "IssueRows") U := h.1 (_, _, _, _) (List.mem_of_getElem? (i := 2) rfl)
theorem kN_I_11 {U : State} (h : NN U) : va_Nw (.methodLinkNest "IssueRows$Issue" 11 y_G_init "IssueRows") U := h.1 (_, _, _, _) (List.mem_of_getElem? (i := 3) rfl)
theorem kN_V_26 {U : State} (h : NN U) : va_Nw (.methodLinkNest "IssueRows$Volumes" 26 y_X_within "IssueRows") U := h.1 (_, _, _, _) (List.mem_of_getElem? (i := 4) rfl)
theorem kN_P_28 {U : State} (h : NN U) : va_Nw (.methodLinkNest "IssueRows$Pairs" 28 y_X_within "IssueRows") U := h.1 (_, _, _, _) (List.mem_of_getElem? (i := 5) rfl)
theorem kN_S_25 {U : State} (h : NN U) : va_Nw (.methodLinkNest "IssueRows$Statement" 25 y_X_within "IssueRows") U := h.1 (_, _, _, _) (List.mem_of_getElem? (i := 6) rfl)
theorem NN_of {A : Array Value} {s : State} (h : ∀ w ∈ lw_tbl, w.before A s = true) : NN s := by
  have g : ∀ q ∈ nestQ, Cond.methodLinkNest q.1 q.2.1 q.2.2.1 q.2.2.2 ∈ tables_1 := by
    intro q hq
    simp only [nestQ, List.mem_cons, List.not_mem_nil, or_false] at hq
    rcases hq with rfl | rfl | rfl | rfl | rfl | rfl | rfl
    · exact (List.mem_append_left _ (List.mem_of_getElem? (i := 49) rfl))
    · exact (List.mem_append_left _ (List.mem_of_getElem? (i := 65) rfl))
    · exact (List.mem_append_left _ (List.mem_of_getElem? (i := 84) rfl))
    · exact (List.mem_append_left _ (List.mem_of_getElem? (i := 155) rfl))
    · exact (List.mem_append_right _ (List.mem_append_left _ (List.mem_of_getElem? (i := 113) rfl)))
    · exact (List.mem_append_right _ (List.mem_append_left _ (List.mem_of_getElem? (i := 153) rfl)))
    · exact (List.mem_append_right _ (List.mem_append_right _ (List.mem_append_left _ (List.mem_of_getElem? (i := 29) rfl))))
  exact ⟨fun q hq => va_Nw.of rfl (h _ (List.mem_append_right _ (g q hq))), va_AO.of (h _ (List.mem_append_right _ (List.mem_append_left _ (List.mem_of_getElem? (i := 23) rfl)))), va_AO.of (h _ (List.mem_append_right _ (List.mem_append_left _ (List.mem_of_getElem? (i := 25) rfl))))⟩
theorem kV_X_hasOrdinal : (Cond.selects "IssueRows" y_X_hasOrdinal y_X_hasOrdinal) ∈ WA := WA_p (List.mem_of_getElem? (i := 0) rfl) rfl
theorem kV_X_keep : (Cond.selects "IssueRows" y_X_keep y_X_keep) ∈ WA := WA_p (List.mem_of_getElem? (i := 1) rfl) rfl
theorem kV_X_find : (Cond.selects "IssueRows" y_X_find y_X_find) ∈ WA := WA_p (List.mem_of_getElem? (i := 2) rfl) rfl
theorem kV_X_claimIfDue : (Cond.selects "IssueRows" y_X_claimIfDue y_X_claimIfDue) ∈ WA := WA_p (List.mem_of_getElem? (i := 3) rfl) rfl
theorem kV_X_isBindable : (Cond.selects "IssueRows" y_X_isBindable y_X_isBindable) ∈ WA := WA_p (List.mem_of_getElem? (i := 4) rfl) rfl
theorem kV_X_bindNext : (Cond.selects "IssueRows" y_X_bindNext y_X_bindNext) ∈ WA := WA_p (List.mem_of_getElem? (i := 5) rfl) rfl
theorem kV_M_lay : (Cond.selects "IssueRowsModel" y_M_lay y_M_lay) ∈ WA := WA_p (List.mem_of_getElem? (i := 7) rfl) rfl
theorem kV_M_isIssue : (Cond.selects "IssueRowsModel" y_M_isIssue y_M_isIssue) ∈ WA := WA_p (List.mem_of_getElem? (i := 8) rfl) rfl
theorem kV_M_tell : (Cond.selects "IssueRowsModel" y_M_tell y_M_tell) ∈ WA := WA_p (List.mem_of_getElem? (i := 9) rfl) rfl
theorem kV_M_askFor : (Cond.selects "IssueRowsModel" y_M_askFor y_M_askFor) ∈ WA := WA_p (List.mem_of_getElem? (i := 10) rfl) rfl
theorem kV_M_isHeld : (Cond.selects "IssueRowsModel" y_M_isHeld y_M_isHeld) ∈ WA := WA_p (List.mem_of_getElem? (i := 11) rfl) rfl
theorem kV_M_nextHere : (Cond.selects "IssueRowsModel" y_M_nextHere y_M_nextHere) ∈ WA := WA_p (List.mem_of_getElem? (i := 12) rfl) rfl
theorem kV_M_next : (Cond.selects "IssueRowsModel" y_M_next y_M_next) ∈ WA := WA_p (List.mem_of_getElem? (i := 13) rfl) rfl
theorem kV_M_stands : (Cond.selects "IssueRowsModel" y_M_stands y_M_stands) ∈ WA := WA_p (List.mem_of_getElem? (i := 14) rfl) rfl
theorem i_X : ∀ w ∈ u_ws R_X F_X 8, w ∈ WA := by
  intro w h
  obtain ⟨j, hj, rfl⟩ := List.mem_map.mp h
  have hj := List.mem_range.mp hj
  match j, hj with
  | 0, _ => exact kY_X_rules
  | 1, _ => exact kY_X_issues
  | 2, _ => exact kY_X_byOrdinal
  | 3, _ => exact kY_X_issueCount
  | 4, _ => exact kY_X_round
  | 5, _ => exact kY_X_notes
  | 6, _ => exact kY_X_volumes
  | 7, _ => exact kY_X_latest
theorem i_U : ∀ w ∈ u_ws R_U F_U 3, w ∈ WA := by
  intro w h
  obtain ⟨j, hj, rfl⟩ := List.mem_map.mp h
  have hj := List.mem_range.mp hj
  match j, hj with
  | 0, _ => exact kY_U_first
  | 1, _ => exact kY_U_again
  | 2, _ => exact kY_U_most
theorem i_I : ∀ w ∈ u_ws R_I F_I 14, w ∈ WA := by
  intro w h
  obtain ⟨j, hj, rfl⟩ := List.mem_map.mp h
  have hj := List.mem_range.mp hj
  match j, hj with
  | 0, _ => exact kY_I_number
  | 1, _ => exact kY_I_pattern
  | 2, _ => exact kY_I_ordinal
  | 3, _ => exact kY_I_expected
  | 4, _ => exact kY_I_replacement
  | 5, _ => exact kY_I_routing
  | 6, _ => exact kY_I_state
  | 7, _ => exact kY_I_claims
  | 8, _ => exact kY_I_claimedOn
  | 9, _ => exact kY_I_copies
  | 10, _ => exact kY_I_came
  | 11, _ => exact kY_I_volume
  | 12, _ => exact kY_I_replacedBy
  | 13, _ => exact kY_I_cents
theorem i_G : ∀ w ∈ u_ws R_G F_G 5, w ∈ WA := by
  intro w h
  obtain ⟨j, hj, rfl⟩ := List.mem_map.mp h
  have hj := List.mem_range.mp hj
  match j, hj with
  | 0, _ => exact kY_G_persons
  | 1, _ => exact kY_G_days
  | 2, _ => exact kY_G_size
  | 3, _ => exact kY_G_place
  | 4, _ => exact kY_G_since
theorem i_P : ∀ w ∈ u_ws R_P F_P 3, w ∈ WA := by
  intro w h
  obtain ⟨j, hj, rfl⟩ := List.mem_map.mp h
  have hj := List.mem_range.mp hj
  match j, hj with
  | 0, _ => exact kY_P_firsts
  | 1, _ => exact kY_P_seconds
  | 2, _ => exact kY_P_size
theorem i_V : ∀ w ∈ u_ws R_V F_V 3, w ∈ WA := by
  intro w h
  obtain ⟨j, hj, rfl⟩ := List.mem_map.mp h
  have hj := List.mem_range.mp hj
  match j, hj with
  | 0, _ => exact kY_V_members
  | 1, _ => exact kY_V_ends
  | 2, _ => exact kY_V_count
theorem i_S : ∀ w ∈ u_ws R_S F_S 4, w ∈ WA := by
  intro w h
  obtain ⟨j, hj, rfl⟩ := List.mem_map.mp h
  have hj := List.mem_range.mp hj
  match j, hj with
  | 0, _ => exact kY_S_firsts
  | 1, _ => exact kY_S_lasts
  | 2, _ => exact kY_S_counts
  | 3, _ => exact kY_S_size
theorem i_M : ∀ w ∈ u_ws R_M F_M 33, w ∈ WA := by
  intro w h
  obtain ⟨j, hj, rfl⟩ := List.mem_map.mp h
  have hj := List.mem_range.mp hj
  match j, hj with
  | 0, _ => exact kY_M_thrown
  | 1, _ => exact kY_M_first
  | 2, _ => exact kY_M_again
  | 3, _ => exact kY_M_most
  | 4, _ => exact kY_M_issues
  | 5, _ => exact kY_M_pattern
  | 6, _ => exact kY_M_ordinal
  | 7, _ => exact kY_M_state
  | 8, _ => exact kY_M_expected
  | 9, _ => exact kY_M_claims
  | 10, _ => exact kY_M_claimDay
  | 11, _ => exact kY_M_copies
  | 12, _ => exact kY_M_came
  | 13, _ => exact kY_M_volumeOf
  | 14, _ => exact kY_M_replacedBy
  | 15, _ => exact kY_M_cents
  | 16, _ => exact kY_M_replaces
  | 17, _ => exact kY_M_rowSize
  | 18, _ => exact kY_M_person
  | 19, _ => exact kY_M_personDays
  | 20, _ => exact kY_M_holder
  | 21, _ => exact kY_M_holderFrom
  | 22, _ => exact kY_M_round
  | 23, _ => exact kY_M_roundIssue
  | 24, _ => exact kY_M_roundClaims
  | 25, _ => exact kY_M_volumes
  | 26, _ => exact kY_M_rows
  | 27, _ => exact kY_M_rowFirst
  | 28, _ => exact kY_M_rowLast
  | 29, _ => exact kY_M_rowMany
  | 30, _ => exact kY_M_notes
  | 31, _ => exact kY_M_note
  | 32, _ => exact kY_M_noteIssue
  | j + 33, h => exact absurd h (by omega)
