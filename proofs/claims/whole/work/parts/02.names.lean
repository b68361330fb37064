/-! names of the classes, their fields, methods, codes; the tables' words -/
def R_PC : String := "PathChecker"
def T_PC : u_T := fun k => match k with
  | 0 => ("PathChecker", "text", "[C", true)
  | 1 => ("PathChecker", "typed", "I", false)
  | 2 => ("PathChecker", "reader", "LPathChecker$Reader;", true)
  | 3 => ("PathChecker", "row", "LPathChecker$Path;", true)
  | 4 => ("PathChecker", "search", "LPathChecker$Search;", true)
  | 5 => ("PathChecker", "nearness", "LPathChecker$Nearness;", true)
  | 6 => ("PathChecker", "knots", "LPathChecker$Knots;", true)
  | 7 => ("PathChecker", "graph", "LPathChecker$Graph;", true)
  | 8 => ("PathChecker", "form", "LPathChecker$NormalForm;", true)
  | 9 => ("PathChecker", "structure", "LPathChecker$Structure;", true)
  | _ => ("PathChecker", "upToDate", "Z", false)
def ty_PC : Nat → FieldType := fun k => match k with
  | 0 => .array .char
  | 1 => .int
  | 2 => .object "PathChecker$Reader"
  | 3 => .object "PathChecker$Path"
  | 4 => .object "PathChecker$Search"
  | 5 => .object "PathChecker$Nearness"
  | 6 => .object "PathChecker$Knots"
  | 7 => .object "PathChecker$Graph"
  | 8 => .object "PathChecker$NormalForm"
  | 9 => .object "PathChecker$Structure"
  | _ => .boolean
theorem nm_PC : ∀ a, a < 11 → ∀ b, b < 11 → a ≠ b → (T_PC a).2.1 ≠ (T_PC b).2.1 := by decide +kernel
theorem tyk_PC : ∀ k, k < 11 → parseFieldDescriptor (T_PC k).2.2.1 = some (ty_PC k) := by decide +kernel
def R_GR : String := "PathChecker$Graph"
def T_GR : u_T := fun k => match k with
  | 0 => ("PathChecker$Graph", "form", "LPathChecker$NormalForm;", true)
  | 1 => ("PathChecker$Graph", "structure", "LPathChecker$Structure;", true)
  | 2 => ("PathChecker$Graph", "guesses", "I", false)
  | 3 => ("PathChecker$Graph", "here", "[I", true)
  | 4 => ("PathChecker$Graph", "before", "[I", true)
  | 5 => ("PathChecker$Graph", "guessBefore", "[I", true)
  | 6 => ("PathChecker$Graph", "holding", "[I", true)
  | _ => ("PathChecker$Graph", "prompt", "[I", true)
def ty_GR : Nat → FieldType := fun k => match k with
  | 0 => .object "PathChecker$NormalForm"
  | 1 => .object "PathChecker$Structure"
  | 2 => .int
  | 3 => .array .int
  | 4 => .array .int
  | 5 => .array .int
  | 6 => .array .int
  | _ => .array .int
theorem nm_GR : ∀ a, a < 8 → ∀ b, b < 8 → a ≠ b → (T_GR a).2.1 ≠ (T_GR b).2.1 := by decide +kernel
theorem tyk_GR : ∀ k, k < 8 → parseFieldDescriptor (T_GR k).2.2.1 = some (ty_GR k) := by decide +kernel
def R_KN : String := "PathChecker$Knots"
def T_KN : u_T := fun k => match k with
  | 0 => ("PathChecker$Knots", "graph", "LPathChecker$Graph;", true)
  | 1 => ("PathChecker$Knots", "guesses", "[I", true)
  | 2 => ("PathChecker$Knots", "numbers", "[I", true)
  | 3 => ("PathChecker$Knots", "numbered", "I", false)
  | 4 => ("PathChecker$Knots", "lows", "[I", true)
  | 5 => ("PathChecker$Knots", "tried", "[I", true)
  | 6 => ("PathChecker$Knots", "walk", "[I", true)
  | 7 => ("PathChecker$Knots", "walkCount", "I", false)
  | 8 => ("PathChecker$Knots", "held", "[I", true)
  | 9 => ("PathChecker$Knots", "heldCount", "I", false)
  | 10 => ("PathChecker$Knots", "isHeld", "[Z", true)
  | _ => ("PathChecker$Knots", "members", "[I", true)
def ty_KN : Nat → FieldType := fun k => match k with
  | 0 => .object "PathChecker$Graph"
  | 1 => .array .int
  | 2 => .array .int
  | 3 => .int
  | 4 => .array .int
  | 5 => .array .int
  | 6 => .array .int
  | 7 => .int
  | 8 => .array .int
  | 9 => .int
  | 10 => .array .boolean
  | _ => .array .int
theorem nm_KN : ∀ a, a < 12 → ∀ b, b < 12 → a ≠ b → (T_KN a).2.1 ≠ (T_KN b).2.1 := by decide +kernel
theorem tyk_KN : ∀ k, k < 12 → parseFieldDescriptor (T_KN k).2.2.1 = some (ty_KN k) := by decide +kernel
def R_NE : String := "PathChecker$Nearness"
def T_NE : u_T := fun k => match k with
  | 0 => ("PathChecker$Nearness", "knots", "LPathChecker$Knots;", true)
  | 1 => ("PathChecker$Nearness", "graph", "LPathChecker$Graph;", true)
  | 2 => ("PathChecker$Nearness", "near", "[I", true)
  | _ => ("PathChecker$Nearness", "reaching", "[I", true)
def ty_NE : Nat → FieldType := fun k => match k with
  | 0 => .object "PathChecker$Knots"
  | 1 => .object "PathChecker$Graph"
  | 2 => .array .int
  | _ => .array .int
theorem nm_NE : ∀ a, a < 4 → ∀ b, b < 4 → a ≠ b → (T_NE a).2.1 ≠ (T_NE b).2.1 := by decide +kernel
theorem tyk_NE : ∀ k, k < 4 → parseFieldDescriptor (T_NE k).2.2.1 = some (ty_NE k) := by decide +kernel
def R_NF : String := "PathChecker$NormalForm"
def T_NF : u_T := fun k => match k with
  | 0 => ("PathChecker$NormalForm", "signs", "[C", true)
  | 1 => ("PathChecker$NormalForm", "size", "I", false)
  | 2 => ("PathChecker$NormalForm", "seconds", "[I", true)
  | 3 => ("PathChecker$NormalForm", "ends", "[I", true)
  | 4 => ("PathChecker$NormalForm", "timed", "I", false)
  | 5 => ("PathChecker$NormalForm", "timedParts", "[I", true)
  | 6 => ("PathChecker$NormalForm", "timedNumbers", "[I", true)
  | 7 => ("PathChecker$NormalForm", "todo", "[I", true)
  | 8 => ("PathChecker$NormalForm", "todoNegated", "[Z", true)
  | _ => ("PathChecker$NormalForm", "todoCount", "I", false)
def ty_NF : Nat → FieldType := fun k => match k with
  | 0 => .array .char
  | 1 => .int
  | 2 => .array .int
  | 3 => .array .int
  | 4 => .int
  | 5 => .array .int
  | 6 => .array .int
  | 7 => .array .int
  | 8 => .array .boolean
  | _ => .int
theorem nm_NF : ∀ a, a < 10 → ∀ b, b < 10 → a ≠ b → (T_NF a).2.1 ≠ (T_NF b).2.1 := by decide +kernel
theorem tyk_NF : ∀ k, k < 10 → parseFieldDescriptor (T_NF k).2.2.1 = some (ty_NF k) := by decide +kernel
def R_PA : String := "PathChecker$Path"
def T_PA : u_T := fun k => match k with
  | 0 => ("PathChecker$Path", "states", "[I", true)
  | 1 => ("PathChecker$Path", "count", "I", false)
  | _ => ("PathChecker$Path", "holds", "[I", true)
def ty_PA : Nat → FieldType := fun k => match k with
  | 0 => .array .int
  | 1 => .int
  | _ => .array .int
theorem nm_PA : ∀ a, a < 3 → ∀ b, b < 3 → a ≠ b → (T_PA a).2.1 ≠ (T_PA b).2.1 := by decide +kernel
theorem tyk_PA : ∀ k, k < 3 → parseFieldDescriptor (T_PA k).2.2.1 = some (ty_PA k) := by decide +kernel
def R_RE : String := "PathChecker$Reader"
def T_RE : u_T := fun k => match k with
  | 0 => ("PathChecker$Reader", "signs", "[C", true)
  | 1 => ("PathChecker$Reader", "firsts", "[I", true)
  | 2 => ("PathChecker$Reader", "seconds", "[I", true)
  | 3 => ("PathChecker$Reader", "parts", "I", false)
  | 4 => ("PathChecker$Reader", "timed", "I", false)
  | 5 => ("PathChecker$Reader", "waiting", "[C", true)
  | 6 => ("PathChecker$Reader", "waitingCount", "I", false)
  | 7 => ("PathChecker$Reader", "ready", "[I", true)
  | 8 => ("PathChecker$Reader", "readyCount", "I", false)
  | 9 => ("PathChecker$Reader", "depth", "I", false)
  | _ => ("PathChecker$Reader", "wantsUnit", "Z", false)
def ty_RE : Nat → FieldType := fun k => match k with
  | 0 => .array .char
  | 1 => .array .int
  | 2 => .array .int
  | 3 => .int
  | 4 => .int
  | 5 => .array .char
  | 6 => .int
  | 7 => .array .int
  | 8 => .int
  | 9 => .int
  | _ => .boolean
theorem nm_RE : ∀ a, a < 11 → ∀ b, b < 11 → a ≠ b → (T_RE a).2.1 ≠ (T_RE b).2.1 := by decide +kernel
theorem tyk_RE : ∀ k, k < 11 → parseFieldDescriptor (T_RE k).2.2.1 = some (ty_RE k) := by decide +kernel
def R_SE : String := "PathChecker$Search"
def T_SE : u_T := fun k => match k with
  | 0 => ("PathChecker$Search", "nearness", "LPathChecker$Nearness;", true)
  | 1 => ("PathChecker$Search", "graph", "LPathChecker$Graph;", true)
  | 2 => ("PathChecker$Search", "lasso", "LPathChecker$Path;", true)
  | 3 => ("PathChecker$Search", "open", "[I", true)
  | 4 => ("PathChecker$Search", "start", "I", false)
  | _ => ("PathChecker$Search", "loop", "I", false)
def ty_SE : Nat → FieldType := fun k => match k with
  | 0 => .object "PathChecker$Nearness"
  | 1 => .object "PathChecker$Graph"
  | 2 => .object "PathChecker$Path"
  | 3 => .array .int
  | 4 => .int
  | _ => .int
theorem nm_SE : ∀ a, a < 6 → ∀ b, b < 6 → a ≠ b → (T_SE a).2.1 ≠ (T_SE b).2.1 := by decide +kernel
theorem tyk_SE : ∀ k, k < 6 → parseFieldDescriptor (T_SE k).2.2.1 = some (ty_SE k) := by decide +kernel
def R_ST : String := "PathChecker$Structure"
def T_ST : u_T := fun k => match k with
  | 0 => ("PathChecker$Structure", "marks", "[I", true)
  | _ => ("PathChecker$Structure", "links", "[I", true)
def ty_ST : Nat → FieldType := fun k => match k with
  | 0 => .array .int
  | _ => .array .int
theorem nm_ST : ∀ a, a < 2 → ∀ b, b < 2 → a ≠ b → (T_ST a).2.1 ≠ (T_ST b).2.1 := by decide +kernel
theorem tyk_ST : ∀ k, k < 2 → parseFieldDescriptor (T_ST k).2.2.1 = some (ty_ST k) := by decide +kernel
def R_MO : String := "PathCheckerModel"
def T_MO : u_T := fun k => match k with
  | 0 => ("PathCheckerModel", "thrown", "I", false)
  | 1 => ("PathCheckerModel", "length", "I", false)
  | 2 => ("PathCheckerModel", "text", "[I", false)
  | 3 => ("PathCheckerModel", "loaded", "Z", false)
  | 4 => ("PathCheckerModel", "nodes", "I", false)
  | 5 => ("PathCheckerModel", "kind", "[I", false)
  | 6 => ("PathCheckerModel", "left", "[I", false)
  | 7 => ("PathCheckerModel", "right", "[I", false)
  | 8 => ("PathCheckerModel", "bitOf", "[I", false)
  | 9 => ("PathCheckerModel", "timed", "I", false)
  | 10 => ("PathCheckerModel", "made", "I", false)
  | 11 => ("PathCheckerModel", "newKind", "[I", false)
  | 12 => ("PathCheckerModel", "newLeft", "[I", false)
  | 13 => ("PathCheckerModel", "newRight", "[I", false)
  | 14 => ("PathCheckerModel", "operands", "I", false)
  | 15 => ("PathCheckerModel", "operand", "[I", false)
  | 16 => ("PathCheckerModel", "waiting", "I", false)
  | 17 => ("PathCheckerModel", "operator", "[I", false)
  | 18 => ("PathCheckerModel", "deepest", "I", false)
  | 19 => ("PathCheckerModel", "normals", "I", false)
  | 20 => ("PathCheckerModel", "normalForm", "[I", false)
  | 21 => ("PathCheckerModel", "marks", "[I", false)
  | 22 => ("PathCheckerModel", "links", "[Z", false)
  | 23 => ("PathCheckerModel", "rows", "I", false)
  | 24 => ("PathCheckerModel", "row", "[I", false)
  | 25 => ("PathCheckerModel", "known", "Z", false)
  | 26 => ("PathCheckerModel", "before", "[I", false)
  | 27 => ("PathCheckerModel", "top", "[Z", false)
  | 28 => ("PathCheckerModel", "value", "[Z", false)
  | 29 => ("PathCheckerModel", "fair", "[J", false)
  | 30 => ("PathCheckerModel", "good", "[J", false)
  | 31 => ("PathCheckerModel", "reach", "[J", false)
  | 32 => ("PathCheckerModel", "back", "[J", false)
  | 33 => ("PathCheckerModel", "goal", "[J", false)
  | 34 => ("PathCheckerModel", "size", "I", false)
  | 35 => ("PathCheckerModel", "turn", "I", false)
  | 36 => ("PathCheckerModel", "lasso", "[I", false)
  | 37 => ("PathCheckerModel", "at", "[Z", false)
  | 38 => ("PathCheckerModel", "foundSize", "[I", false)
  | 39 => ("PathCheckerModel", "foundTurn", "[I", false)
  | _ => ("PathCheckerModel", "found", "[I", false)
def ty_MO : Nat → FieldType := fun k => match k with
  | 0 => .int
  | 1 => .int
  | 2 => .array .int
  | 3 => .boolean
  | 4 => .int
  | 5 => .array .int
  | 6 => .array .int
  | 7 => .array .int
  | 8 => .array .int
  | 9 => .int
  | 10 => .int
  | 11 => .array .int
  | 12 => .array .int
  | 13 => .array .int
  | 14 => .int
  | 15 => .array .int
  | 16 => .int
  | 17 => .array .int
  | 18 => .int
  | 19 => .int
  | 20 => .array .int
  | 21 => .array .int
  | 22 => .array .boolean
  | 23 => .int
  | 24 => .array .int
  | 25 => .boolean
  | 26 => .array .int
  | 27 => .array .boolean
  | 28 => .array .boolean
  | 29 => .array .long
  | 30 => .array .long
  | 31 => .array .long
  | 32 => .array .long
  | 33 => .array .long
  | 34 => .int
  | 35 => .int
  | 36 => .array .int
  | 37 => .array .boolean
  | 38 => .array .int
  | 39 => .array .int
  | _ => .array .int
theorem nm_MO : ∀ a, a < 41 → ∀ b, b < 41 → a ≠ b → (T_MO a).2.1 ≠ (T_MO b).2.1 := by decide +kernel
theorem tyk_MO : ∀ k, k < 41 → parseFieldDescriptor (T_MO k).2.2.1 = some (ty_MO k) := by decide +kernel
abbrev vwCl : List vw_C := [(R_PC, T_PC, 11), (R_GR, T_GR, 8), (R_KN, T_KN, 12), (R_NE, T_NE, 4), (R_NF, T_NF, 10), (R_PA, T_PA, 3), (R_RE, T_RE, 11), (R_SE, T_SE, 6), (R_ST, T_ST, 2), (R_MO, T_MO, 41)]
def yPC_init : MethodName := ⟨"PathChecker", "<init>", "()V"⟩
abbrev cPC_init : ByteArray := prog_1_method_1_code
def yPC_type : MethodName := ⟨"PathChecker", "type", "(J)Z"⟩
abbrev cPC_type : ByteArray := prog_1_method_2_code
def yPC_wipe : MethodName := ⟨"PathChecker", "wipe", "()V"⟩
abbrev cPC_wipe : ByteArray := prog_1_method_3_code
def yPC_length : MethodName := ⟨"PathChecker", "length", "()I"⟩
abbrev cPC_length : ByteArray := prog_1_method_4_code
def yPC_formula : MethodName := ⟨"PathChecker", "formula", "()I"⟩
abbrev cPC_formula : ByteArray := prog_1_method_5_code
def yPC_normal : MethodName := ⟨"PathChecker", "normal", "(I)I"⟩
abbrev cPC_normal : ByteArray := prog_1_method_6_code
def yPC_mark : MethodName := ⟨"PathChecker", "mark", "(II)Z"⟩
abbrev cPC_mark : ByteArray := prog_1_method_7_code
def yPC_link : MethodName := ⟨"PathChecker", "link", "(IIZ)Z"⟩
abbrev cPC_link : ByteArray := prog_1_method_8_code
def yPC_state : MethodName := ⟨"PathChecker", "state", "(II)I"⟩
abbrev cPC_state : ByteArray := prog_1_method_9_code
def yPC_endless : MethodName := ⟨"PathChecker", "endless", "(I)Z"⟩
abbrev cPC_endless : ByteArray := prog_1_method_10_code
def yPC_keeps : MethodName := ⟨"PathChecker", "keeps", "(I)Z"⟩
abbrev cPC_keeps : ByteArray := prog_1_method_11_code
def yPC_breaking : MethodName := ⟨"PathChecker", "breaking", "()I"⟩
abbrev cPC_breaking : ByteArray := prog_1_method_12_code
def yPC_keeping : MethodName := ⟨"PathChecker", "keeping", "()I"⟩
abbrev cPC_keeping : ByteArray := prog_1_method_13_code
def yPC_witness : MethodName := ⟨"PathChecker", "witness", "(II)I"⟩
abbrev cPC_witness : ByteArray := prog_1_method_14_code
def yPC_go : MethodName := ⟨"PathChecker", "go", "(I)I"⟩
abbrev cPC_go : ByteArray := prog_1_method_15_code
def yPC_clear : MethodName := ⟨"PathChecker", "clear", "()V"⟩
abbrev cPC_clear : ByteArray := prog_1_method_16_code
def yPC_judge : MethodName := ⟨"PathChecker", "judge", "(II)Z"⟩
abbrev cPC_judge : ByteArray := prog_1_method_17_code
def yPC_isState : MethodName := ⟨"PathChecker", "isState", "(I)Z"⟩
abbrev cPC_isState : ByteArray := prog_1_method_18_code
def yPC_bringUpToDate : MethodName := ⟨"PathChecker", "bringUpToDate", "()V"⟩
abbrev cPC_bringUpToDate : ByteArray := prog_1_method_19_code
def yGR_init : MethodName := ⟨"PathChecker$Graph", "<init>", "()V"⟩
abbrev cGR_init : ByteArray := prog_2_method_1_code
def yGR_build : MethodName := ⟨"PathChecker$Graph", "build", "()V"⟩
abbrev cGR_build : ByteArray := prog_2_method_2_code
def yGR_weighHere : MethodName := ⟨"PathChecker$Graph", "weighHere", "(I)V"⟩
abbrev cGR_weighHere : ByteArray := prog_2_method_3_code
def yGR_promptGuesses : MethodName := ⟨"PathChecker$Graph", "promptGuesses", "(II)I"⟩
abbrev cGR_promptGuesses : ByteArray := prog_2_method_4_code
def yGR_weighBefore : MethodName := ⟨"PathChecker$Graph", "weighBefore", "(I)V"⟩
abbrev cGR_weighBefore : ByteArray := prog_2_method_5_code
def yGR_timedBefore : MethodName := ⟨"PathChecker$Graph", "timedBefore", "(II)I"⟩
abbrev cGR_timedBefore : ByteArray := prog_2_method_6_code
def yGR_untimed : MethodName := ⟨"PathChecker$Graph", "untimed", "([III)I"⟩
abbrev cGR_untimed : ByteArray := prog_2_method_7_code
def yGR_writeGuesses : MethodName := ⟨"PathChecker$Graph", "writeGuesses", "(II)V"⟩
abbrev cGR_writeGuesses : ByteArray := prog_2_method_8_code
def yGR_guessBefore : MethodName := ⟨"PathChecker$Graph", "guessBefore", "(III)I"⟩
abbrev cGR_guessBefore : ByteArray := prog_2_method_9_code
def yGR_guessesBefore : MethodName := ⟨"PathChecker$Graph", "guessesBefore", "(III)I"⟩
abbrev cGR_guessesBefore : ByteArray := prog_2_method_10_code
def yGR_guessesAfter : MethodName := ⟨"PathChecker$Graph", "guessesAfter", "(IIII)I"⟩
abbrev cGR_guessesAfter : ByteArray := prog_2_method_11_code
def yKN_init : MethodName := ⟨"PathChecker$Knots", "<init>", "()V"⟩
abbrev cKN_init : ByteArray := prog_3_method_1_code
def yKN_find : MethodName := ⟨"PathChecker$Knots", "find", "()V"⟩
abbrev cKN_find : ByteArray := prog_3_method_2_code
def yKN_startAnew : MethodName := ⟨"PathChecker$Knots", "startAnew", "()V"⟩
abbrev cKN_startAnew : ByteArray := prog_3_method_3_code
def yKN_walkFrom : MethodName := ⟨"PathChecker$Knots", "walkFrom", "(I)V"⟩
abbrev cKN_walkFrom : ByteArray := prog_3_method_4_code
def yKN_enter : MethodName := ⟨"PathChecker$Knots", "enter", "(I)V"⟩
abbrev cKN_enter : ByteArray := prog_3_method_5_code
def yKN_tryStep : MethodName := ⟨"PathChecker$Knots", "tryStep", "(II)V"⟩
abbrev cKN_tryStep : ByteArray := prog_3_method_6_code
def yKN_release : MethodName := ⟨"PathChecker$Knots", "release", "(I)V"⟩
abbrev cKN_release : ByteArray := prog_3_method_7_code
def yKN_goesToItself : MethodName := ⟨"PathChecker$Knots", "goesToItself", "(I)Z"⟩
abbrev cKN_goesToItself : ByteArray := prog_3_method_8_code
def yKN_isPrompt : MethodName := ⟨"PathChecker$Knots", "isPrompt", "()Z"⟩
abbrev cKN_isPrompt : ByteArray := prog_3_method_9_code
def yNE_init : MethodName := ⟨"PathChecker$Nearness", "<init>", "()V"⟩
abbrev cNE_init : ByteArray := prog_4_method_1_code
def yNE_measure : MethodName := ⟨"PathChecker$Nearness", "measure", "()V"⟩
abbrev cNE_measure : ByteArray := prog_4_method_2_code
def yNE_growReaching : MethodName := ⟨"PathChecker$Nearness", "growReaching", "()Z"⟩
abbrev cNE_growReaching : ByteArray := prog_4_method_3_code
def yNE_oneStepMore : MethodName := ⟨"PathChecker$Nearness", "oneStepMore", "([III)I"⟩
abbrev cNE_oneStepMore : ByteArray := prog_4_method_4_code
def yNE_within : MethodName := ⟨"PathChecker$Nearness", "within", "(II)I"⟩
abbrev cNE_within : ByteArray := prog_4_method_5_code
def yNE_statesWithPath : MethodName := ⟨"PathChecker$Nearness", "statesWithPath", "(Z)I"⟩
abbrev cNE_statesWithPath : ByteArray := prog_4_method_6_code
def yNF_init : MethodName := ⟨"PathChecker$NormalForm", "<init>", "()V"⟩
abbrev cNF_init : ByteArray := prog_5_method_1_code
def yNF_isMissing : MethodName := ⟨"PathChecker$NormalForm", "isMissing", "()Z"⟩
abbrev cNF_isMissing : ByteArray := prog_5_method_2_code
def yNF_take : MethodName := ⟨"PathChecker$NormalForm", "take", "(LPathChecker$Reader;)V"⟩
abbrev cNF_take : ByteArray := prog_5_method_3_code
def yNF_write : MethodName := ⟨"PathChecker$NormalForm", "write", "(LPathChecker$Reader;)V"⟩
abbrev cNF_write : ByteArray := prog_5_method_4_code
def yNF_keepForLater : MethodName := ⟨"PathChecker$NormalForm", "keepForLater", "(IZ)V"⟩
abbrev cNF_keepForLater : ByteArray := prog_5_method_5_code
def yNF_writeSigns : MethodName := ⟨"PathChecker$NormalForm", "writeSigns", "(CZ)V"⟩
abbrev cNF_writeSigns : ByteArray := prog_5_method_6_code
def yNF_add : MethodName := ⟨"PathChecker$NormalForm", "add", "(C)V"⟩
abbrev cNF_add : ByteArray := prog_5_method_7_code
def yNF_opposite : MethodName := ⟨"PathChecker$NormalForm", "opposite", "(C)C"⟩
abbrev cNF_opposite : ByteArray := prog_5_method_8_code
def yNF_connect : MethodName := ⟨"PathChecker$NormalForm", "connect", "()V"⟩
abbrev cNF_connect : ByteArray := prog_5_method_9_code
def yNF_isBinary : MethodName := ⟨"PathChecker$NormalForm", "isBinary", "(C)Z"⟩
abbrev cNF_isBinary : ByteArray := prog_5_method_10_code
def yNF_leafHolds : MethodName := ⟨"PathChecker$NormalForm", "leafHolds", "(CI)Z"⟩
abbrev cNF_leafHolds : ByteArray := prog_5_method_11_code
def yPA_init : MethodName := ⟨"PathChecker$Path", "<init>", "(I)V"⟩
abbrev cPA_init : ByteArray := prog_6_method_1_code
def yPA_hasPlace : MethodName := ⟨"PathChecker$Path", "hasPlace", "(I)Z"⟩
abbrev cPA_hasPlace : ByteArray := prog_6_method_2_code
def yPA_isLinked : MethodName := ⟨"PathChecker$Path", "isLinked", "(LPathChecker$Structure;I)Z"⟩
abbrev cPA_isLinked : ByteArray := prog_6_method_3_code
def yPA_placesOf : MethodName := ⟨"PathChecker$Path", "placesOf", "(LPathChecker$NormalForm;LPathChecker$Structure;I)I"⟩
abbrev cPA_placesOf : ByteArray := prog_6_method_4_code
def yPA_placesOfUntil : MethodName := ⟨"PathChecker$Path", "placesOfUntil", "(III)I"⟩
abbrev cPA_placesOfUntil : ByteArray := prog_6_method_5_code
def yPA_placesOfRelease : MethodName := ⟨"PathChecker$Path", "placesOfRelease", "(III)I"⟩
abbrev cPA_placesOfRelease : ByteArray := prog_6_method_6_code
def yPA_placesBefore : MethodName := ⟨"PathChecker$Path", "placesBefore", "(II)I"⟩
abbrev cPA_placesBefore : ByteArray := prog_6_method_7_code
def yPA_placesOfLeaf : MethodName := ⟨"PathChecker$Path", "placesOfLeaf", "(CLPathChecker$Structure;)I"⟩
abbrev cPA_placesOfLeaf : ByteArray := prog_6_method_8_code
def yRE_init : MethodName := ⟨"PathChecker$Reader", "<init>", "()V"⟩
abbrev cRE_init : ByteArray := prog_7_method_1_code
def yRE_reads : MethodName := ⟨"PathChecker$Reader", "reads", "([CI)Z"⟩
abbrev cRE_reads : ByteArray := prog_7_method_2_code
def yRE_startAnew : MethodName := ⟨"PathChecker$Reader", "startAnew", "()V"⟩
abbrev cRE_startAnew : ByteArray := prog_7_method_3_code
def yRE_takeInUnit : MethodName := ⟨"PathChecker$Reader", "takeInUnit", "(C)Z"⟩
abbrev cRE_takeInUnit : ByteArray := prog_7_method_4_code
def yRE_takeBehindUnit : MethodName := ⟨"PathChecker$Reader", "takeBehindUnit", "(C)Z"⟩
abbrev cRE_takeBehindUnit : ByteArray := prog_7_method_5_code
def yRE_await : MethodName := ⟨"PathChecker$Reader", "await", "(C)V"⟩
abbrev cRE_await : ByteArray := prog_7_method_6_code
def yRE_joinDownTo : MethodName := ⟨"PathChecker$Reader", "joinDownTo", "(I)V"⟩
abbrev cRE_joinDownTo : ByteArray := prog_7_method_7_code
def yRE_join : MethodName := ⟨"PathChecker$Reader", "join", "(C)V"⟩
abbrev cRE_join : ByteArray := prog_7_method_8_code
def yRE_newPart : MethodName := ⟨"PathChecker$Reader", "newPart", "(CII)I"⟩
abbrev cRE_newPart : ByteArray := prog_7_method_9_code
def yRE_isLeaf : MethodName := ⟨"PathChecker$Reader", "isLeaf", "(C)Z"⟩
abbrev cRE_isLeaf : ByteArray := prog_7_method_10_code
def yRE_isTimed : MethodName := ⟨"PathChecker$Reader", "isTimed", "(C)Z"⟩
abbrev cRE_isTimed : ByteArray := prog_7_method_11_code
def yRE_groupsToTheRight : MethodName := ⟨"PathChecker$Reader", "groupsToTheRight", "(C)Z"⟩
abbrev cRE_groupsToTheRight : ByteArray := prog_7_method_12_code
def yRE_rank : MethodName := ⟨"PathChecker$Reader", "rank", "(C)I"⟩
abbrev cRE_rank : ByteArray := prog_7_method_13_code
def ySE_init : MethodName := ⟨"PathChecker$Search", "<init>", "()V"⟩
abbrev cSE_init : ByteArray := prog_8_method_1_code
def ySE_forget : MethodName := ⟨"PathChecker$Search", "forget", "()V"⟩
abbrev cSE_forget : ByteArray := prog_8_method_2_code
def ySE_lookFrom : MethodName := ⟨"PathChecker$Search", "lookFrom", "(I)V"⟩
abbrev cSE_lookFrom : ByteArray := prog_8_method_3_code
def ySE_extend : MethodName := ⟨"PathChecker$Search", "extend", "(I)V"⟩
abbrev cSE_extend : ByteArray := prog_8_method_4_code
def ySE_closeLoop : MethodName := ⟨"PathChecker$Search", "closeLoop", "(I)V"⟩
abbrev cSE_closeLoop : ByteArray := prog_8_method_5_code
def ySE_mayGoOnAt : MethodName := ⟨"PathChecker$Search", "mayGoOnAt", "(II)Z"⟩
abbrev cSE_mayGoOnAt : ByteArray := prog_8_method_6_code
def yST_init : MethodName := ⟨"PathChecker$Structure", "<init>", "()V"⟩
abbrev cST_init : ByteArray := prog_9_method_1_code
def yST_joins : MethodName := ⟨"PathChecker$Structure", "joins", "(II)Z"⟩
abbrev cST_joins : ByteArray := prog_9_method_2_code
def yST_statesWithPath : MethodName := ⟨"PathChecker$Structure", "statesWithPath", "()I"⟩
abbrev cST_statesWithPath : ByteArray := prog_9_method_3_code
def yMO_init : MethodName := ⟨"PathCheckerModel", "<init>", "()V"⟩
abbrev cMO_init : ByteArray := prog_11_method_1_code
def yMO_thrown : MethodName := ⟨"PathCheckerModel", "thrown", "()I"⟩
abbrev cMO_thrown : ByteArray := prog_11_method_2_code
def yMO_type : MethodName := ⟨"PathCheckerModel", "type", "(J)Z"⟩
abbrev cMO_type : ByteArray := prog_11_method_3_code
def yMO_wipe : MethodName := ⟨"PathCheckerModel", "wipe", "()V"⟩
abbrev cMO_wipe : ByteArray := prog_11_method_4_code
def yMO_length : MethodName := ⟨"PathCheckerModel", "length", "()I"⟩
abbrev cMO_length : ByteArray := prog_11_method_5_code
def yMO_isAtom : MethodName := ⟨"PathCheckerModel", "isAtom", "(I)Z"⟩
abbrev cMO_isAtom : ByteArray := prog_11_method_6_code
def yMO_isPrefix : MethodName := ⟨"PathCheckerModel", "isPrefix", "(I)Z"⟩
abbrev cMO_isPrefix : ByteArray := prog_11_method_7_code
def yMO_isTimed : MethodName := ⟨"PathCheckerModel", "isTimed", "(I)Z"⟩
abbrev cMO_isTimed : ByteArray := prog_11_method_8_code
def yMO_strength : MethodName := ⟨"PathCheckerModel", "strength", "(I)I"⟩
abbrev cMO_strength : ByteArray := prog_11_method_9_code
def yMO_node : MethodName := ⟨"PathCheckerModel", "node", "(III)V"⟩
abbrev cMO_node : ByteArray := prog_11_method_10_code
def yMO_reduce : MethodName := ⟨"PathCheckerModel", "reduce", "()V"⟩
abbrev cMO_reduce : ByteArray := prog_11_method_11_code
def yMO_reduceFrom : MethodName := ⟨"PathCheckerModel", "reduceFrom", "(I)V"⟩
abbrev cMO_reduceFrom : ByteArray := prog_11_method_12_code
def yMO_reads : MethodName := ⟨"PathCheckerModel", "reads", "()Z"⟩
abbrev cMO_reads : ByteArray := prog_11_method_13_code
def yMO_countTimed : MethodName := ⟨"PathCheckerModel", "countTimed", "()I"⟩
abbrev cMO_countTimed : ByteArray := prog_11_method_14_code
def yMO_formula : MethodName := ⟨"PathCheckerModel", "formula", "()I"⟩
abbrev cMO_formula : ByteArray := prog_11_method_15_code
def yMO_emit : MethodName := ⟨"PathCheckerModel", "emit", "(I)V"⟩
abbrev cMO_emit : ByteArray := prog_11_method_16_code
def yMO_hold : MethodName := ⟨"PathCheckerModel", "hold", "(IZ)V"⟩
abbrev cMO_hold : ByteArray := prog_11_method_17_code
def yMO_write : MethodName := ⟨"PathCheckerModel", "write", "()V"⟩
abbrev cMO_write : ByteArray := prog_11_method_18_code
def yMO_normal : MethodName := ⟨"PathCheckerModel", "normal", "(I)I"⟩
abbrev cMO_normal : ByteArray := prog_11_method_19_code
def yMO_isState : MethodName := ⟨"PathCheckerModel", "isState", "(I)Z"⟩
abbrev cMO_isState : ByteArray := prog_11_method_20_code
def yMO_forget : MethodName := ⟨"PathCheckerModel", "forget", "()V"⟩
abbrev cMO_forget : ByteArray := prog_11_method_21_code
def yMO_mark : MethodName := ⟨"PathCheckerModel", "mark", "(II)Z"⟩
abbrev cMO_mark : ByteArray := prog_11_method_22_code
def yMO_link : MethodName := ⟨"PathCheckerModel", "link", "(IIZ)Z"⟩
abbrev cMO_link : ByteArray := prog_11_method_23_code
def yMO_state : MethodName := ⟨"PathCheckerModel", "state", "(II)I"⟩
abbrev cMO_state : ByteArray := prog_11_method_24_code
def yMO_endless : MethodName := ⟨"PathCheckerModel", "endless", "(I)Z"⟩
abbrev cMO_endless : ByteArray := prog_11_method_25_code
def yMO_plain : MethodName := ⟨"PathCheckerModel", "plain", "(II)Z"⟩
abbrev cMO_plain : ByteArray := prog_11_method_26_code
def yMO_evaluate : MethodName := ⟨"PathCheckerModel", "evaluate", "(II)V"⟩
abbrev cMO_evaluate : ByteArray := prog_11_method_27_code
def yMO_decider : MethodName := ⟨"PathCheckerModel", "decider", "(I)I"⟩
abbrev cMO_decider : ByteArray := prog_11_method_28_code
def yMO_bitsBefore : MethodName := ⟨"PathCheckerModel", "bitsBefore", "(III)I"⟩
abbrev cMO_bitsBefore : ByteArray := prog_11_method_29_code
def yMO_tables : MethodName := ⟨"PathCheckerModel", "tables", "()V"⟩
abbrev cMO_tables : ByteArray := prog_11_method_30_code
def yMO_step : MethodName := ⟨"PathCheckerModel", "step", "()V"⟩
abbrev cMO_step : ByteArray := prog_11_method_31_code
def yMO_cut : MethodName := ⟨"PathCheckerModel", "cut", "(I)Z"⟩
abbrev cMO_cut : ByteArray := prog_11_method_32_code
def yMO_study : MethodName := ⟨"PathCheckerModel", "study", "()V"⟩
abbrev cMO_study : ByteArray := prog_11_method_33_code
def yMO_someone : MethodName := ⟨"PathCheckerModel", "someone", "(Z)I"⟩
abbrev cMO_someone : ByteArray := prog_11_method_34_code
def yMO_keeps : MethodName := ⟨"PathCheckerModel", "keeps", "(I)Z"⟩
abbrev cMO_keeps : ByteArray := prog_11_method_35_code
def yMO_breaking : MethodName := ⟨"PathCheckerModel", "breaking", "()I"⟩
abbrev cMO_breaking : ByteArray := prog_11_method_36_code
def yMO_keeping : MethodName := ⟨"PathCheckerModel", "keeping", "()I"⟩
abbrev cMO_keeping : ByteArray := prog_11_method_37_code
def yMO_holds : MethodName := ⟨"PathCheckerModel", "holds", "(I)Z"⟩
abbrev cMO_holds : ByteArray := prog_11_method_38_code
def yMO_advance : MethodName := ⟨"PathCheckerModel", "advance", "()Z"⟩
abbrev cMO_advance : ByteArray := prog_11_method_39_code
def yMO_linked : MethodName := ⟨"PathCheckerModel", "linked", "()Z"⟩
abbrev cMO_linked : ByteArray := prog_11_method_40_code
def yMO_search : MethodName := ⟨"PathCheckerModel", "search", "(I)V"⟩
abbrev cMO_search : ByteArray := prog_11_method_41_code
def yMO_witness : MethodName := ⟨"PathCheckerModel", "witness", "(II)I"⟩
abbrev cMO_witness : ByteArray := prog_11_method_42_code
def yMO_go : MethodName := ⟨"PathCheckerModel", "go", "(I)I"⟩
abbrev cMO_go : ByteArray := prog_11_method_43_code
def yMO_clear : MethodName := ⟨"PathCheckerModel", "clear", "()V"⟩
abbrev cMO_clear : ByteArray := prog_11_method_44_code
def yMO_judge : MethodName := ⟨"PathCheckerModel", "judge", "(II)Z"⟩
abbrev cMO_judge : ByteArray := prog_11_method_45_code
def yLAW_formula : MethodName := ⟨"PathCheckerLaw", "formula", "(LPathChecker;[J)I"⟩
abbrev cLAW_formula : ByteArray := method_3_code
def yLAW_normal : MethodName := ⟨"PathCheckerLaw", "normal", "(LPathChecker;I[J)I"⟩
abbrev cLAW_normal : ByteArray := method_4_code
def yLAW_keeps : MethodName := ⟨"PathCheckerLaw", "keeps", "(LPathChecker;I[J)I"⟩
abbrev cLAW_keeps : ByteArray := method_5_code
def yLAW_breaking : MethodName := ⟨"PathCheckerLaw", "breaking", "(LPathChecker;[J)I"⟩
abbrev cLAW_breaking : ByteArray := method_6_code
def yLAW_keeping : MethodName := ⟨"PathCheckerLaw", "keeping", "(LPathChecker;[J)I"⟩
abbrev cLAW_keeping : ByteArray := method_7_code
def yLAW_witness : MethodName := ⟨"PathCheckerLaw", "witness", "(LPathChecker;II[J)I"⟩
abbrev cLAW_witness : ByteArray := method_8_code
def yLAW_judge : MethodName := ⟨"PathCheckerLaw", "judge", "(LPathChecker;II[J)I"⟩
abbrev cLAW_judge : ByteArray := method_9_code
abbrev cLAW_law : ByteArray := code
def zwd : List Cond := lw_tbl.filter goodWord
theorem zgood (w : Cond) (h : w ∈ zwd) : (w.onTables && w.keeps) = true ∨ ∃ ty, w = .arrayClass ty := good_of_word (List.mem_filter.mp h).2
theorem zwd_in (w : Cond) (h : w ∈ zwd) : w ∈ lw_tbl := (List.mem_filter.mp h).1
theorem qw_of {w : Cond} (i : Nat) (h : lw_tbl[i]? = some w) (hg : goodWord w = true) : w ∈ zwd := List.mem_filter.mpr ⟨List.mem_of_getElem? h, hg⟩
theorem qw_0 : (Jvm.Cond.initialized "PathCheckerLaw") ∈ zwd := qw_of 58 (by decide +kernel) (by decide +kernel)
theorem qw_1 : (Jvm.Cond.initialized "PathChecker") ∈ zwd := qw_of 59 (by decide +kernel) (by decide +kernel)
theorem qw_2 : (Jvm.Cond.initialized "PathChecker$Reader") ∈ zwd := qw_of 60 (by decide +kernel) (by decide +kernel)
theorem qw_3 : (Jvm.Cond.initialized "PathChecker$Path") ∈ zwd := qw_of 61 (by decide +kernel) (by decide +kernel)
theorem qw_4 : (Jvm.Cond.initialized "PathChecker$Search") ∈ zwd := qw_of 62 (by decide +kernel) (by decide +kernel)
theorem qw_5 : (Jvm.Cond.initialized "PathChecker$Nearness") ∈ zwd := qw_of 63 (by decide +kernel) (by decide +kernel)
theorem qw_6 : (Jvm.Cond.initialized "PathChecker$Knots") ∈ zwd := qw_of 64 (by decide +kernel) (by decide +kernel)
theorem qw_7 : (Jvm.Cond.initialized "PathChecker$Graph") ∈ zwd := qw_of 65 (by decide +kernel) (by decide +kernel)
theorem qw_8 : (Jvm.Cond.initialized "PathChecker$NormalForm") ∈ zwd := qw_of 66 (by decide +kernel) (by decide +kernel)
theorem qw_9 : (Jvm.Cond.initialized "PathChecker$Structure") ∈ zwd := qw_of 67 (by decide +kernel) (by decide +kernel)
theorem qw_10 : (Jvm.Cond.initialized "PathCheckerModel") ∈ zwd := qw_of 68 (by decide +kernel) (by decide +kernel)
theorem qw_11 : (Jvm.Cond.initialized "java/lang/Math") ∈ zwd := qw_of 69 (by decide +kernel) (by decide +kernel)
theorem qw_23 : (Jvm.Cond.code ({ cls := "PathChecker", name := "<init>", desc := "()V" } : Jvm.MethodName) prog_1_method_1_code (1 : Nat) (Option.none : Option Jvm.ClassFile.FieldType)) ∈ zwd := qw_of 81 (by decide +kernel) (by decide +kernel)
theorem qw_31 : (Jvm.Cond.code ({ cls := "PathChecker$Reader", name := "<init>", desc := "()V" } : Jvm.MethodName) prog_7_method_1_code (1 : Nat) (Option.none : Option Jvm.ClassFile.FieldType)) ∈ zwd := qw_of 89 (by decide +kernel) (by decide +kernel)
theorem qw_33 : (Jvm.Cond.fieldLink "PathChecker$Reader" (9 : Nat) "PathChecker$Reader" "signs" "[C") ∈ zwd := qw_of 91 (by decide +kernel) (by decide +kernel)
theorem qw_35 : (Jvm.Cond.fieldLink "PathChecker$Reader" (15 : Nat) "PathChecker$Reader" "firsts" "[I") ∈ zwd := qw_of 93 (by decide +kernel) (by decide +kernel)
theorem qw_37 : (Jvm.Cond.fieldLink "PathChecker$Reader" (19 : Nat) "PathChecker$Reader" "seconds" "[I") ∈ zwd := qw_of 95 (by decide +kernel) (by decide +kernel)
theorem qw_39 : (Jvm.Cond.fieldLink "PathChecker$Reader" (56 : Nat) "PathChecker$Reader" "parts" "I") ∈ zwd := qw_of 97 (by decide +kernel) (by decide +kernel)
theorem qw_41 : (Jvm.Cond.fieldLink "PathChecker$Reader" (45 : Nat) "PathChecker$Reader" "timed" "I") ∈ zwd := qw_of 99 (by decide +kernel) (by decide +kernel)
theorem qw_43 : (Jvm.Cond.fieldLink "PathChecker$Reader" (22 : Nat) "PathChecker$Reader" "waiting" "[C") ∈ zwd := qw_of 101 (by decide +kernel) (by decide +kernel)
theorem qw_44 : (Jvm.Cond.fieldLink "PathChecker$Reader" (59 : Nat) "PathChecker$Reader" "waitingCount" "I") ∈ zwd := qw_of 102 (by decide +kernel) (by decide +kernel)
theorem qw_45 : (Jvm.Cond.fieldLink "PathChecker$Reader" (25 : Nat) "PathChecker$Reader" "ready" "[I") ∈ zwd := qw_of 103 (by decide +kernel) (by decide +kernel)
theorem qw_46 : (Jvm.Cond.fieldLink "PathChecker$Reader" (62 : Nat) "PathChecker$Reader" "readyCount" "I") ∈ zwd := qw_of 104 (by decide +kernel) (by decide +kernel)
theorem qw_47 : (Jvm.Cond.fieldLink "PathChecker$Reader" (49 : Nat) "PathChecker$Reader" "depth" "I") ∈ zwd := qw_of 105 (by decide +kernel) (by decide +kernel)
theorem qw_48 : (Jvm.Cond.fieldLink "PathChecker$Reader" (31 : Nat) "PathChecker$Reader" "wantsUnit" "Z") ∈ zwd := qw_of 106 (by decide +kernel) (by decide +kernel)
theorem qw_49 : (Jvm.Cond.laysFinal "PathChecker$Reader" "PathChecker$Reader" "signs" "[C") ∈ zwd := qw_of 107 (by decide +kernel) (by decide +kernel)
theorem qw_51 : (Jvm.Cond.laysFinal "PathChecker$Reader" "PathChecker$Reader" "firsts" "[I") ∈ zwd := qw_of 109 (by decide +kernel) (by decide +kernel)
theorem qw_53 : (Jvm.Cond.laysFinal "PathChecker$Reader" "PathChecker$Reader" "seconds" "[I") ∈ zwd := qw_of 111 (by decide +kernel) (by decide +kernel)
theorem qw_55 : (Jvm.Cond.lays "PathChecker$Reader" "PathChecker$Reader" "parts" "I") ∈ zwd := qw_of 113 (by decide +kernel) (by decide +kernel)
theorem qw_57 : (Jvm.Cond.lays "PathChecker$Reader" "PathChecker$Reader" "timed" "I") ∈ zwd := qw_of 115 (by decide +kernel) (by decide +kernel)
theorem qw_59 : (Jvm.Cond.laysFinal "PathChecker$Reader" "PathChecker$Reader" "waiting" "[C") ∈ zwd := qw_of 117 (by decide +kernel) (by decide +kernel)
theorem qw_61 : (Jvm.Cond.lays "PathChecker$Reader" "PathChecker$Reader" "waitingCount" "I") ∈ zwd := qw_of 119 (by decide +kernel) (by decide +kernel)
theorem qw_63 : (Jvm.Cond.laysFinal "PathChecker$Reader" "PathChecker$Reader" "ready" "[I") ∈ zwd := qw_of 121 (by decide +kernel) (by decide +kernel)
theorem qw_65 : (Jvm.Cond.lays "PathChecker$Reader" "PathChecker$Reader" "readyCount" "I") ∈ zwd := qw_of 123 (by decide +kernel) (by decide +kernel)
theorem qw_67 : (Jvm.Cond.lays "PathChecker$Reader" "PathChecker$Reader" "depth" "I") ∈ zwd := qw_of 125 (by decide +kernel) (by decide +kernel)
theorem qw_69 : (Jvm.Cond.lays "PathChecker$Reader" "PathChecker$Reader" "wantsUnit" "Z") ∈ zwd := qw_of 127 (by decide +kernel) (by decide +kernel)
theorem qw_78 : (Jvm.Cond.code ({ cls := "PathChecker$Path", name := "<init>", desc := "(I)V" } : Jvm.MethodName) prog_6_method_1_code (2 : Nat) (Option.none : Option Jvm.ClassFile.FieldType)) ∈ zwd := qw_of 136 (by decide +kernel) (by decide +kernel)
theorem qw_80 : (Jvm.Cond.fieldLink "PathChecker$Path" (15 : Nat) "PathChecker$Path" "states" "[I") ∈ zwd := qw_of 138 (by decide +kernel) (by decide +kernel)
theorem qw_83 : (Jvm.Cond.fieldLink "PathChecker$Path" (18 : Nat) "PathChecker$Path" "count" "I") ∈ zwd := qw_of 141 (by decide +kernel) (by decide +kernel)
theorem qw_86 : (Jvm.Cond.fieldLink "PathChecker$Path" (9 : Nat) "PathChecker$Path" "holds" "[I") ∈ zwd := qw_of 144 (by decide +kernel) (by decide +kernel)
theorem qw_87 : (Jvm.Cond.laysFinal "PathChecker$Path" "PathChecker$Path" "states" "[I") ∈ zwd := qw_of 145 (by decide +kernel) (by decide +kernel)
theorem qw_89 : (Jvm.Cond.lays "PathChecker$Path" "PathChecker$Path" "count" "I") ∈ zwd := qw_of 147 (by decide +kernel) (by decide +kernel)
theorem qw_91 : (Jvm.Cond.laysFinal "PathChecker$Path" "PathChecker$Path" "holds" "[I") ∈ zwd := qw_of 149 (by decide +kernel) (by decide +kernel)
theorem qw_98 : (Jvm.Cond.code ({ cls := "PathChecker$Search", name := "<init>", desc := "()V" } : Jvm.MethodName) prog_8_method_1_code (1 : Nat) (Option.none : Option Jvm.ClassFile.FieldType)) ∈ zwd := qw_of 156 (by decide +kernel) (by decide +kernel)
theorem qw_104 : (Jvm.Cond.code ({ cls := "PathChecker$Nearness", name := "<init>", desc := "()V" } : Jvm.MethodName) prog_4_method_1_code (1 : Nat) (Option.none : Option Jvm.ClassFile.FieldType)) ∈ zwd := qw_of 162 (by decide +kernel) (by decide +kernel)
theorem qw_110 : (Jvm.Cond.code ({ cls := "PathChecker$Knots", name := "<init>", desc := "()V" } : Jvm.MethodName) prog_3_method_1_code (1 : Nat) (Option.none : Option Jvm.ClassFile.FieldType)) ∈ zwd := qw_of 168 (by decide +kernel) (by decide +kernel)
theorem qw_116 : (Jvm.Cond.code ({ cls := "PathChecker$Graph", name := "<init>", desc := "()V" } : Jvm.MethodName) prog_2_method_1_code (1 : Nat) (Option.none : Option Jvm.ClassFile.FieldType)) ∈ zwd := qw_of 174 (by decide +kernel) (by decide +kernel)
theorem qw_122 : (Jvm.Cond.code ({ cls := "PathChecker$NormalForm", name := "<init>", desc := "()V" } : Jvm.MethodName) prog_5_method_1_code (1 : Nat) (Option.none : Option Jvm.ClassFile.FieldType)) ∈ zwd := qw_of 180 (by decide +kernel) (by decide +kernel)
theorem qw_124 : (Jvm.Cond.fieldLink "PathChecker$NormalForm" (9 : Nat) "PathChecker$NormalForm" "signs" "[C") ∈ zwd := qw_of 182 (by decide +kernel) (by decide +kernel)
theorem qw_128 : (Jvm.Cond.fieldLink "PathChecker$NormalForm" (35 : Nat) "PathChecker$NormalForm" "size" "I") ∈ zwd := qw_of 186 (by decide +kernel) (by decide +kernel)
theorem qw_132 : (Jvm.Cond.fieldLink "PathChecker$NormalForm" (15 : Nat) "PathChecker$NormalForm" "seconds" "[I") ∈ zwd := qw_of 190 (by decide +kernel) (by decide +kernel)
theorem qw_135 : (Jvm.Cond.fieldLink "PathChecker$NormalForm" (19 : Nat) "PathChecker$NormalForm" "ends" "[I") ∈ zwd := qw_of 193 (by decide +kernel) (by decide +kernel)
theorem qw_138 : (Jvm.Cond.fieldLink "PathChecker$NormalForm" (75 : Nat) "PathChecker$NormalForm" "timed" "I") ∈ zwd := qw_of 196 (by decide +kernel) (by decide +kernel)
theorem qw_140 : (Jvm.Cond.fieldLink "PathChecker$NormalForm" (22 : Nat) "PathChecker$NormalForm" "timedParts" "[I") ∈ zwd := qw_of 198 (by decide +kernel) (by decide +kernel)
theorem qw_142 : (Jvm.Cond.fieldLink "PathChecker$NormalForm" (25 : Nat) "PathChecker$NormalForm" "timedNumbers" "[I") ∈ zwd := qw_of 200 (by decide +kernel) (by decide +kernel)
theorem qw_144 : (Jvm.Cond.fieldLink "PathChecker$NormalForm" (28 : Nat) "PathChecker$NormalForm" "todo" "[I") ∈ zwd := qw_of 202 (by decide +kernel) (by decide +kernel)
theorem qw_145 : (Jvm.Cond.fieldLink "PathChecker$NormalForm" (31 : Nat) "PathChecker$NormalForm" "todoNegated" "[Z") ∈ zwd := qw_of 203 (by decide +kernel) (by decide +kernel)
theorem qw_146 : (Jvm.Cond.fieldLink "PathChecker$NormalForm" (46 : Nat) "PathChecker$NormalForm" "todoCount" "I") ∈ zwd := qw_of 204 (by decide +kernel) (by decide +kernel)
theorem qw_147 : (Jvm.Cond.laysFinal "PathChecker$NormalForm" "PathChecker$NormalForm" "signs" "[C") ∈ zwd := qw_of 205 (by decide +kernel) (by decide +kernel)
theorem qw_149 : (Jvm.Cond.lays "PathChecker$NormalForm" "PathChecker$NormalForm" "size" "I") ∈ zwd := qw_of 207 (by decide +kernel) (by decide +kernel)
theorem qw_151 : (Jvm.Cond.laysFinal "PathChecker$NormalForm" "PathChecker$NormalForm" "seconds" "[I") ∈ zwd := qw_of 209 (by decide +kernel) (by decide +kernel)
theorem qw_153 : (Jvm.Cond.laysFinal "PathChecker$NormalForm" "PathChecker$NormalForm" "ends" "[I") ∈ zwd := qw_of 211 (by decide +kernel) (by decide +kernel)
theorem qw_155 : (Jvm.Cond.lays "PathChecker$NormalForm" "PathChecker$NormalForm" "timed" "I") ∈ zwd := qw_of 213 (by decide +kernel) (by decide +kernel)
theorem qw_157 : (Jvm.Cond.laysFinal "PathChecker$NormalForm" "PathChecker$NormalForm" "timedParts" "[I") ∈ zwd := qw_of 215 (by decide +kernel) (by decide +kernel)
theorem qw_159 : (Jvm.Cond.laysFinal "PathChecker$NormalForm" "PathChecker$NormalForm" "timedNumbers" "[I") ∈ zwd := qw_of 217 (by decide +kernel) (by decide +kernel)
theorem qw_161 : (Jvm.Cond.laysFinal "PathChecker$NormalForm" "PathChecker$NormalForm" "todo" "[I") ∈ zwd := qw_of 219 (by decide +kernel) (by decide +kernel)
theorem qw_163 : (Jvm.Cond.laysFinal "PathChecker$NormalForm" "PathChecker$NormalForm" "todoNegated" "[Z") ∈ zwd := qw_of 221 (by decide +kernel) (by decide +kernel)
theorem qw_165 : (Jvm.Cond.lays "PathChecker$NormalForm" "PathChecker$NormalForm" "todoCount" "I") ∈ zwd := qw_of 223 (by decide +kernel) (by decide +kernel)
theorem qw_173 : (Jvm.Cond.code ({ cls := "PathChecker$Structure", name := "<init>", desc := "()V" } : Jvm.MethodName) prog_9_method_1_code (1 : Nat) (Option.none : Option Jvm.ClassFile.FieldType)) ∈ zwd := qw_of 231 (by decide +kernel) (by decide +kernel)
theorem qw_175 : (Jvm.Cond.fieldLink "PathChecker$Structure" (9 : Nat) "PathChecker$Structure" "marks" "[I") ∈ zwd := qw_of 233 (by decide +kernel) (by decide +kernel)
theorem qw_179 : (Jvm.Cond.fieldLink "PathChecker$Structure" (15 : Nat) "PathChecker$Structure" "links" "[I") ∈ zwd := qw_of 237 (by decide +kernel) (by decide +kernel)
theorem qw_181 : (Jvm.Cond.laysFinal "PathChecker$Structure" "PathChecker$Structure" "marks" "[I") ∈ zwd := qw_of 239 (by decide +kernel) (by decide +kernel)
theorem qw_183 : (Jvm.Cond.laysFinal "PathChecker$Structure" "PathChecker$Structure" "links" "[I") ∈ zwd := qw_of 241 (by decide +kernel) (by decide +kernel)
theorem qw_186 : (Jvm.Cond.fieldLink "PathChecker$Graph" (12 : Nat) "PathChecker$Graph" "form" "LPathChecker$NormalForm;") ∈ zwd := qw_of 244 (by decide +kernel) (by decide +kernel)
theorem qw_190 : (Jvm.Cond.fieldLink "PathChecker$Graph" (21 : Nat) "PathChecker$Graph" "structure" "LPathChecker$Structure;") ∈ zwd := qw_of 248 (by decide +kernel) (by decide +kernel)
theorem qw_195 : (Jvm.Cond.fieldLink "PathChecker$Graph" (45 : Nat) "PathChecker$Graph" "guesses" "I") ∈ zwd := qw_of 253 (by decide +kernel) (by decide +kernel)
theorem qw_197 : (Jvm.Cond.fieldLink "PathChecker$Graph" (25 : Nat) "PathChecker$Graph" "here" "[I") ∈ zwd := qw_of 255 (by decide +kernel) (by decide +kernel)
theorem qw_198 : (Jvm.Cond.fieldLink "PathChecker$Graph" (29 : Nat) "PathChecker$Graph" "before" "[I") ∈ zwd := qw_of 256 (by decide +kernel) (by decide +kernel)
theorem qw_199 : (Jvm.Cond.fieldLink "PathChecker$Graph" (32 : Nat) "PathChecker$Graph" "guessBefore" "[I") ∈ zwd := qw_of 257 (by decide +kernel) (by decide +kernel)
theorem qw_200 : (Jvm.Cond.fieldLink "PathChecker$Graph" (35 : Nat) "PathChecker$Graph" "holding" "[I") ∈ zwd := qw_of 258 (by decide +kernel) (by decide +kernel)
theorem qw_203 : (Jvm.Cond.fieldLink "PathChecker$Graph" (38 : Nat) "PathChecker$Graph" "prompt" "[I") ∈ zwd := qw_of 261 (by decide +kernel) (by decide +kernel)
theorem qw_205 : (Jvm.Cond.laysFinal "PathChecker$Graph" "PathChecker$Graph" "form" "LPathChecker$NormalForm;") ∈ zwd := qw_of 263 (by decide +kernel) (by decide +kernel)
theorem qw_207 : (Jvm.Cond.laysFinal "PathChecker$Graph" "PathChecker$Graph" "structure" "LPathChecker$Structure;") ∈ zwd := qw_of 265 (by decide +kernel) (by decide +kernel)
theorem qw_209 : (Jvm.Cond.lays "PathChecker$Graph" "PathChecker$Graph" "guesses" "I") ∈ zwd := qw_of 267 (by decide +kernel) (by decide +kernel)
theorem qw_211 : (Jvm.Cond.laysFinal "PathChecker$Graph" "PathChecker$Graph" "here" "[I") ∈ zwd := qw_of 269 (by decide +kernel) (by decide +kernel)
theorem qw_213 : (Jvm.Cond.laysFinal "PathChecker$Graph" "PathChecker$Graph" "before" "[I") ∈ zwd := qw_of 271 (by decide +kernel) (by decide +kernel)
theorem qw_215 : (Jvm.Cond.laysFinal "PathChecker$Graph" "PathChecker$Graph" "guessBefore" "[I") ∈ zwd := qw_of 273 (by decide +kernel) (by decide +kernel)
theorem qw_217 : (Jvm.Cond.laysFinal "PathChecker$Graph" "PathChecker$Graph" "holding" "[I") ∈ zwd := qw_of 275 (by decide +kernel) (by decide +kernel)
theorem qw_219 : (Jvm.Cond.laysFinal "PathChecker$Graph" "PathChecker$Graph" "prompt" "[I") ∈ zwd := qw_of 277 (by decide +kernel) (by decide +kernel)
theorem qw_222 : (Jvm.Cond.fieldLink "PathChecker$Knots" (12 : Nat) "PathChecker$Knots" "graph" "LPathChecker$Graph;") ∈ zwd := qw_of 280 (by decide +kernel) (by decide +kernel)
theorem qw_225 : (Jvm.Cond.fieldLink "PathChecker$Knots" (18 : Nat) "PathChecker$Knots" "guesses" "[I") ∈ zwd := qw_of 283 (by decide +kernel) (by decide +kernel)
theorem qw_227 : (Jvm.Cond.fieldLink "PathChecker$Knots" (22 : Nat) "PathChecker$Knots" "numbers" "[I") ∈ zwd := qw_of 285 (by decide +kernel) (by decide +kernel)
theorem qw_228 : (Jvm.Cond.fieldLink "PathChecker$Knots" (54 : Nat) "PathChecker$Knots" "numbered" "I") ∈ zwd := qw_of 286 (by decide +kernel) (by decide +kernel)
theorem qw_229 : (Jvm.Cond.fieldLink "PathChecker$Knots" (25 : Nat) "PathChecker$Knots" "lows" "[I") ∈ zwd := qw_of 287 (by decide +kernel) (by decide +kernel)
theorem qw_230 : (Jvm.Cond.fieldLink "PathChecker$Knots" (28 : Nat) "PathChecker$Knots" "tried" "[I") ∈ zwd := qw_of 288 (by decide +kernel) (by decide +kernel)
theorem qw_231 : (Jvm.Cond.fieldLink "PathChecker$Knots" (31 : Nat) "PathChecker$Knots" "walk" "[I") ∈ zwd := qw_of 289 (by decide +kernel) (by decide +kernel)
theorem qw_232 : (Jvm.Cond.fieldLink "PathChecker$Knots" (57 : Nat) "PathChecker$Knots" "walkCount" "I") ∈ zwd := qw_of 290 (by decide +kernel) (by decide +kernel)
theorem qw_233 : (Jvm.Cond.fieldLink "PathChecker$Knots" (34 : Nat) "PathChecker$Knots" "held" "[I") ∈ zwd := qw_of 291 (by decide +kernel) (by decide +kernel)
theorem qw_234 : (Jvm.Cond.fieldLink "PathChecker$Knots" (60 : Nat) "PathChecker$Knots" "heldCount" "I") ∈ zwd := qw_of 292 (by decide +kernel) (by decide +kernel)
theorem qw_235 : (Jvm.Cond.fieldLink "PathChecker$Knots" (37 : Nat) "PathChecker$Knots" "isHeld" "[Z") ∈ zwd := qw_of 293 (by decide +kernel) (by decide +kernel)
theorem qw_236 : (Jvm.Cond.fieldLink "PathChecker$Knots" (41 : Nat) "PathChecker$Knots" "members" "[I") ∈ zwd := qw_of 294 (by decide +kernel) (by decide +kernel)
theorem qw_237 : (Jvm.Cond.laysFinal "PathChecker$Knots" "PathChecker$Knots" "graph" "LPathChecker$Graph;") ∈ zwd := qw_of 295 (by decide +kernel) (by decide +kernel)
theorem qw_239 : (Jvm.Cond.laysFinal "PathChecker$Knots" "PathChecker$Knots" "guesses" "[I") ∈ zwd := qw_of 297 (by decide +kernel) (by decide +kernel)
theorem qw_241 : (Jvm.Cond.laysFinal "PathChecker$Knots" "PathChecker$Knots" "numbers" "[I") ∈ zwd := qw_of 299 (by decide +kernel) (by decide +kernel)
theorem qw_243 : (Jvm.Cond.lays "PathChecker$Knots" "PathChecker$Knots" "numbered" "I") ∈ zwd := qw_of 301 (by decide +kernel) (by decide +kernel)
theorem qw_245 : (Jvm.Cond.laysFinal "PathChecker$Knots" "PathChecker$Knots" "lows" "[I") ∈ zwd := qw_of 303 (by decide +kernel) (by decide +kernel)
theorem qw_247 : (Jvm.Cond.laysFinal "PathChecker$Knots" "PathChecker$Knots" "tried" "[I") ∈ zwd := qw_of 305 (by decide +kernel) (by decide +kernel)
theorem qw_249 : (Jvm.Cond.laysFinal "PathChecker$Knots" "PathChecker$Knots" "walk" "[I") ∈ zwd := qw_of 307 (by decide +kernel) (by decide +kernel)
theorem qw_251 : (Jvm.Cond.lays "PathChecker$Knots" "PathChecker$Knots" "walkCount" "I") ∈ zwd := qw_of 309 (by decide +kernel) (by decide +kernel)
theorem qw_253 : (Jvm.Cond.laysFinal "PathChecker$Knots" "PathChecker$Knots" "held" "[I") ∈ zwd := qw_of 311 (by decide +kernel) (by decide +kernel)
theorem qw_255 : (Jvm.Cond.lays "PathChecker$Knots" "PathChecker$Knots" "heldCount" "I") ∈ zwd := qw_of 313 (by decide +kernel) (by decide +kernel)
theorem qw_257 : (Jvm.Cond.laysFinal "PathChecker$Knots" "PathChecker$Knots" "isHeld" "[Z") ∈ zwd := qw_of 315 (by decide +kernel) (by decide +kernel)
theorem qw_259 : (Jvm.Cond.laysFinal "PathChecker$Knots" "PathChecker$Knots" "members" "[I") ∈ zwd := qw_of 317 (by decide +kernel) (by decide +kernel)
theorem qw_262 : (Jvm.Cond.fieldLink "PathChecker$Nearness" (12 : Nat) "PathChecker$Nearness" "knots" "LPathChecker$Knots;") ∈ zwd := qw_of 320 (by decide +kernel) (by decide +kernel)
theorem qw_265 : (Jvm.Cond.fieldLink "PathChecker$Nearness" (22 : Nat) "PathChecker$Nearness" "graph" "LPathChecker$Graph;") ∈ zwd := qw_of 323 (by decide +kernel) (by decide +kernel)
theorem qw_266 : (Jvm.Cond.fieldLink "PathChecker$Nearness" (23 : Nat) "PathChecker$Nearness" "near" "[I") ∈ zwd := qw_of 324 (by decide +kernel) (by decide +kernel)
theorem qw_267 : (Jvm.Cond.fieldLink "PathChecker$Nearness" (27 : Nat) "PathChecker$Nearness" "reaching" "[I") ∈ zwd := qw_of 325 (by decide +kernel) (by decide +kernel)
theorem qw_268 : (Jvm.Cond.laysFinal "PathChecker$Nearness" "PathChecker$Nearness" "knots" "LPathChecker$Knots;") ∈ zwd := qw_of 326 (by decide +kernel) (by decide +kernel)
theorem qw_270 : (Jvm.Cond.laysFinal "PathChecker$Nearness" "PathChecker$Nearness" "graph" "LPathChecker$Graph;") ∈ zwd := qw_of 328 (by decide +kernel) (by decide +kernel)
theorem qw_272 : (Jvm.Cond.laysFinal "PathChecker$Nearness" "PathChecker$Nearness" "near" "[I") ∈ zwd := qw_of 330 (by decide +kernel) (by decide +kernel)
theorem qw_274 : (Jvm.Cond.laysFinal "PathChecker$Nearness" "PathChecker$Nearness" "reaching" "[I") ∈ zwd := qw_of 332 (by decide +kernel) (by decide +kernel)
theorem qw_279 : (Jvm.Cond.fieldLink "PathChecker$Search" (12 : Nat) "PathChecker$Search" "nearness" "LPathChecker$Nearness;") ∈ zwd := qw_of 337 (by decide +kernel) (by decide +kernel)
theorem qw_281 : (Jvm.Cond.fieldLink "PathChecker$Search" (22 : Nat) "PathChecker$Search" "graph" "LPathChecker$Graph;") ∈ zwd := qw_of 339 (by decide +kernel) (by decide +kernel)
theorem qw_282 : (Jvm.Cond.fieldLink "PathChecker$Search" (28 : Nat) "PathChecker$Search" "lasso" "LPathChecker$Path;") ∈ zwd := qw_of 340 (by decide +kernel) (by decide +kernel)
theorem qw_284 : (Jvm.Cond.fieldLink "PathChecker$Search" (32 : Nat) "PathChecker$Search" "open" "[I") ∈ zwd := qw_of 342 (by decide +kernel) (by decide +kernel)
theorem qw_285 : (Jvm.Cond.fieldLink "PathChecker$Search" (36 : Nat) "PathChecker$Search" "start" "I") ∈ zwd := qw_of 343 (by decide +kernel) (by decide +kernel)
theorem qw_286 : (Jvm.Cond.fieldLink "PathChecker$Search" (40 : Nat) "PathChecker$Search" "loop" "I") ∈ zwd := qw_of 344 (by decide +kernel) (by decide +kernel)
theorem qw_288 : (Jvm.Cond.laysFinal "PathChecker$Search" "PathChecker$Search" "nearness" "LPathChecker$Nearness;") ∈ zwd := qw_of 346 (by decide +kernel) (by decide +kernel)
theorem qw_290 : (Jvm.Cond.laysFinal "PathChecker$Search" "PathChecker$Search" "graph" "LPathChecker$Graph;") ∈ zwd := qw_of 348 (by decide +kernel) (by decide +kernel)
theorem qw_292 : (Jvm.Cond.laysFinal "PathChecker$Search" "PathChecker$Search" "lasso" "LPathChecker$Path;") ∈ zwd := qw_of 350 (by decide +kernel) (by decide +kernel)
theorem qw_294 : (Jvm.Cond.laysFinal "PathChecker$Search" "PathChecker$Search" "open" "[I") ∈ zwd := qw_of 352 (by decide +kernel) (by decide +kernel)
theorem qw_296 : (Jvm.Cond.lays "PathChecker$Search" "PathChecker$Search" "start" "I") ∈ zwd := qw_of 354 (by decide +kernel) (by decide +kernel)
theorem qw_298 : (Jvm.Cond.lays "PathChecker$Search" "PathChecker$Search" "loop" "I") ∈ zwd := qw_of 356 (by decide +kernel) (by decide +kernel)
theorem qw_301 : (Jvm.Cond.fieldLink "PathChecker" (9 : Nat) "PathChecker" "text" "[C") ∈ zwd := qw_of 359 (by decide +kernel) (by decide +kernel)
theorem qw_302 : (Jvm.Cond.fieldLink "PathChecker" (67 : Nat) "PathChecker" "typed" "I") ∈ zwd := qw_of 360 (by decide +kernel) (by decide +kernel)
theorem qw_303 : (Jvm.Cond.fieldLink "PathChecker" (16 : Nat) "PathChecker" "reader" "LPathChecker$Reader;") ∈ zwd := qw_of 361 (by decide +kernel) (by decide +kernel)
theorem qw_304 : (Jvm.Cond.fieldLink "PathChecker" (25 : Nat) "PathChecker" "row" "LPathChecker$Path;") ∈ zwd := qw_of 362 (by decide +kernel) (by decide +kernel)
theorem qw_305 : (Jvm.Cond.fieldLink "PathChecker" (32 : Nat) "PathChecker" "search" "LPathChecker$Search;") ∈ zwd := qw_of 363 (by decide +kernel) (by decide +kernel)
theorem qw_306 : (Jvm.Cond.fieldLink "PathChecker" (40 : Nat) "PathChecker" "nearness" "LPathChecker$Nearness;") ∈ zwd := qw_of 364 (by decide +kernel) (by decide +kernel)
theorem qw_307 : (Jvm.Cond.fieldLink "PathChecker" (47 : Nat) "PathChecker" "knots" "LPathChecker$Knots;") ∈ zwd := qw_of 365 (by decide +kernel) (by decide +kernel)
theorem qw_308 : (Jvm.Cond.fieldLink "PathChecker" (54 : Nat) "PathChecker" "graph" "LPathChecker$Graph;") ∈ zwd := qw_of 366 (by decide +kernel) (by decide +kernel)
theorem qw_309 : (Jvm.Cond.fieldLink "PathChecker" (61 : Nat) "PathChecker" "form" "LPathChecker$NormalForm;") ∈ zwd := qw_of 367 (by decide +kernel) (by decide +kernel)
theorem qw_310 : (Jvm.Cond.fieldLink "PathChecker" (66 : Nat) "PathChecker" "structure" "LPathChecker$Structure;") ∈ zwd := qw_of 368 (by decide +kernel) (by decide +kernel)
theorem qw_311 : (Jvm.Cond.fieldLink "PathChecker" (90 : Nat) "PathChecker" "upToDate" "Z") ∈ zwd := qw_of 369 (by decide +kernel) (by decide +kernel)
theorem qw_312 : (Jvm.Cond.laysFinal "PathChecker" "PathChecker" "text" "[C") ∈ zwd := qw_of 370 (by decide +kernel) (by decide +kernel)
theorem qw_314 : (Jvm.Cond.lays "PathChecker" "PathChecker" "typed" "I") ∈ zwd := qw_of 372 (by decide +kernel) (by decide +kernel)
theorem qw_316 : (Jvm.Cond.laysFinal "PathChecker" "PathChecker" "reader" "LPathChecker$Reader;") ∈ zwd := qw_of 374 (by decide +kernel) (by decide +kernel)
theorem qw_318 : (Jvm.Cond.laysFinal "PathChecker" "PathChecker" "row" "LPathChecker$Path;") ∈ zwd := qw_of 376 (by decide +kernel) (by decide +kernel)
theorem qw_320 : (Jvm.Cond.laysFinal "PathChecker" "PathChecker" "search" "LPathChecker$Search;") ∈ zwd := qw_of 378 (by decide +kernel) (by decide +kernel)
theorem qw_322 : (Jvm.Cond.laysFinal "PathChecker" "PathChecker" "nearness" "LPathChecker$Nearness;") ∈ zwd := qw_of 380 (by decide +kernel) (by decide +kernel)
theorem qw_324 : (Jvm.Cond.laysFinal "PathChecker" "PathChecker" "knots" "LPathChecker$Knots;") ∈ zwd := qw_of 382 (by decide +kernel) (by decide +kernel)
theorem qw_326 : (Jvm.Cond.laysFinal "PathChecker" "PathChecker" "graph" "LPathChecker$Graph;") ∈ zwd := qw_of 384 (by decide +kernel) (by decide +kernel)
theorem qw_328 : (Jvm.Cond.laysFinal "PathChecker" "PathChecker" "form" "LPathChecker$NormalForm;") ∈ zwd := qw_of 386 (by decide +kernel) (by decide +kernel)
theorem qw_330 : (Jvm.Cond.laysFinal "PathChecker" "PathChecker" "structure" "LPathChecker$Structure;") ∈ zwd := qw_of 388 (by decide +kernel) (by decide +kernel)
theorem qw_332 : (Jvm.Cond.lays "PathChecker" "PathChecker" "upToDate" "Z") ∈ zwd := qw_of 390 (by decide +kernel) (by decide +kernel)
theorem qw_335 : (Jvm.Cond.methodLink "PathCheckerLaw" (49 : Nat) ({ cls := "PathChecker", name := "type", desc := "(J)Z" } : Jvm.MethodName)) ∈ zwd := qw_of 393 (by decide +kernel) (by decide +kernel)
theorem qw_336 : (Jvm.Cond.instanceMethod ({ cls := "PathChecker", name := "type", desc := "(J)Z" } : Jvm.MethodName)) ∈ zwd := qw_of 394 (by decide +kernel) (by decide +kernel)
theorem qw_337 : (Jvm.Cond.selects "PathChecker" ({ cls := "PathChecker", name := "type", desc := "(J)Z" } : Jvm.MethodName) ({ cls := "PathChecker", name := "type", desc := "(J)Z" } : Jvm.MethodName)) ∈ zwd := qw_of 395 (by decide +kernel) (by decide +kernel)
theorem qw_338 : (Jvm.Cond.code ({ cls := "PathChecker", name := "type", desc := "(J)Z" } : Jvm.MethodName) prog_1_method_2_code (6 : Nat) (Option.some Jvm.ClassFile.FieldType.boolean)) ∈ zwd := qw_of 396 (by decide +kernel) (by decide +kernel)
theorem qw_339 : (Jvm.Cond.methodLink "PathCheckerLaw" (54 : Nat) ({ cls := "PathChecker", name := "wipe", desc := "()V" } : Jvm.MethodName)) ∈ zwd := qw_of 397 (by decide +kernel) (by decide +kernel)
theorem qw_340 : (Jvm.Cond.instanceMethod ({ cls := "PathChecker", name := "wipe", desc := "()V" } : Jvm.MethodName)) ∈ zwd := qw_of 398 (by decide +kernel) (by decide +kernel)
theorem qw_341 : (Jvm.Cond.selects "PathChecker" ({ cls := "PathChecker", name := "wipe", desc := "()V" } : Jvm.MethodName) ({ cls := "PathChecker", name := "wipe", desc := "()V" } : Jvm.MethodName)) ∈ zwd := qw_of 399 (by decide +kernel) (by decide +kernel)
theorem qw_342 : (Jvm.Cond.code ({ cls := "PathChecker", name := "wipe", desc := "()V" } : Jvm.MethodName) prog_1_method_3_code (1 : Nat) (Option.none : Option Jvm.ClassFile.FieldType)) ∈ zwd := qw_of 400 (by decide +kernel) (by decide +kernel)
theorem qw_343 : (Jvm.Cond.methodLink "PathCheckerLaw" (58 : Nat) ({ cls := "PathChecker", name := "length", desc := "()I" } : Jvm.MethodName)) ∈ zwd := qw_of 401 (by decide +kernel) (by decide +kernel)
theorem qw_344 : (Jvm.Cond.instanceMethod ({ cls := "PathChecker", name := "length", desc := "()I" } : Jvm.MethodName)) ∈ zwd := qw_of 402 (by decide +kernel) (by decide +kernel)
theorem qw_345 : (Jvm.Cond.selects "PathChecker" ({ cls := "PathChecker", name := "length", desc := "()I" } : Jvm.MethodName) ({ cls := "PathChecker", name := "length", desc := "()I" } : Jvm.MethodName)) ∈ zwd := qw_of 403 (by decide +kernel) (by decide +kernel)
theorem qw_346 : (Jvm.Cond.code ({ cls := "PathChecker", name := "length", desc := "()I" } : Jvm.MethodName) prog_1_method_4_code (1 : Nat) (Option.some Jvm.ClassFile.FieldType.int)) ∈ zwd := qw_of 404 (by decide +kernel) (by decide +kernel)
theorem qw_347 : (Jvm.Cond.methodLink "PathCheckerLaw" (75 : Nat) ({ cls := "PathChecker", name := "mark", desc := "(II)Z" } : Jvm.MethodName)) ∈ zwd := qw_of 405 (by decide +kernel) (by decide +kernel)
theorem qw_348 : (Jvm.Cond.instanceMethod ({ cls := "PathChecker", name := "mark", desc := "(II)Z" } : Jvm.MethodName)) ∈ zwd := qw_of 406 (by decide +kernel) (by decide +kernel)
theorem qw_349 : (Jvm.Cond.selects "PathChecker" ({ cls := "PathChecker", name := "mark", desc := "(II)Z" } : Jvm.MethodName) ({ cls := "PathChecker", name := "mark", desc := "(II)Z" } : Jvm.MethodName)) ∈ zwd := qw_of 407 (by decide +kernel) (by decide +kernel)
theorem qw_350 : (Jvm.Cond.code ({ cls := "PathChecker", name := "mark", desc := "(II)Z" } : Jvm.MethodName) prog_1_method_7_code (3 : Nat) (Option.some Jvm.ClassFile.FieldType.boolean)) ∈ zwd := qw_of 408 (by decide +kernel) (by decide +kernel)
theorem qw_351 : (Jvm.Cond.methodLink "PathChecker" (108 : Nat) ({ cls := "PathChecker", name := "isState", desc := "(I)Z" } : Jvm.MethodName)) ∈ zwd := qw_of 409 (by decide +kernel) (by decide +kernel)
theorem qw_352 : (Jvm.Cond.static ({ cls := "PathChecker", name := "isState", desc := "(I)Z" } : Jvm.MethodName)) ∈ zwd := qw_of 410 (by decide +kernel) (by decide +kernel)
theorem qw_353 : (Jvm.Cond.code ({ cls := "PathChecker", name := "isState", desc := "(I)Z" } : Jvm.MethodName) prog_1_method_18_code (1 : Nat) (Option.some Jvm.ClassFile.FieldType.boolean)) ∈ zwd := qw_of 411 (by decide +kernel) (by decide +kernel)
theorem qw_354 : (Jvm.Cond.methodLink "PathCheckerLaw" (79 : Nat) ({ cls := "PathChecker", name := "link", desc := "(IIZ)Z" } : Jvm.MethodName)) ∈ zwd := qw_of 412 (by decide +kernel) (by decide +kernel)
theorem qw_355 : (Jvm.Cond.instanceMethod ({ cls := "PathChecker", name := "link", desc := "(IIZ)Z" } : Jvm.MethodName)) ∈ zwd := qw_of 413 (by decide +kernel) (by decide +kernel)
theorem qw_356 : (Jvm.Cond.selects "PathChecker" ({ cls := "PathChecker", name := "link", desc := "(IIZ)Z" } : Jvm.MethodName) ({ cls := "PathChecker", name := "link", desc := "(IIZ)Z" } : Jvm.MethodName)) ∈ zwd := qw_of 414 (by decide +kernel) (by decide +kernel)
theorem qw_357 : (Jvm.Cond.code ({ cls := "PathChecker", name := "link", desc := "(IIZ)Z" } : Jvm.MethodName) prog_1_method_8_code (4 : Nat) (Option.some Jvm.ClassFile.FieldType.boolean)) ∈ zwd := qw_of 415 (by decide +kernel) (by decide +kernel)
theorem qw_358 : (Jvm.Cond.methodLink "PathChecker" (118 : Nat) ({ cls := "PathChecker$Structure", name := "joins", desc := "(II)Z" } : Jvm.MethodName)) ∈ zwd := qw_of 416 (by decide +kernel) (by decide +kernel)
theorem qw_359 : (Jvm.Cond.instanceMethod ({ cls := "PathChecker$Structure", name := "joins", desc := "(II)Z" } : Jvm.MethodName)) ∈ zwd := qw_of 417 (by decide +kernel) (by decide +kernel)
theorem qw_360 : (Jvm.Cond.selects "PathChecker$Structure" ({ cls := "PathChecker$Structure", name := "joins", desc := "(II)Z" } : Jvm.MethodName) ({ cls := "PathChecker$Structure", name := "joins", desc := "(II)Z" } : Jvm.MethodName)) ∈ zwd := qw_of 418 (by decide +kernel) (by decide +kernel)
theorem qw_361 : (Jvm.Cond.code ({ cls := "PathChecker$Structure", name := "joins", desc := "(II)Z" } : Jvm.MethodName) prog_9_method_2_code (3 : Nat) (Option.some Jvm.ClassFile.FieldType.boolean)) ∈ zwd := qw_of 419 (by decide +kernel) (by decide +kernel)
theorem qw_362 : (Jvm.Cond.methodLink "PathCheckerLaw" (84 : Nat) ({ cls := "PathChecker", name := "state", desc := "(II)I" } : Jvm.MethodName)) ∈ zwd := qw_of 420 (by decide +kernel) (by decide +kernel)
theorem qw_363 : (Jvm.Cond.instanceMethod ({ cls := "PathChecker", name := "state", desc := "(II)I" } : Jvm.MethodName)) ∈ zwd := qw_of 421 (by decide +kernel) (by decide +kernel)
theorem qw_364 : (Jvm.Cond.selects "PathChecker" ({ cls := "PathChecker", name := "state", desc := "(II)I" } : Jvm.MethodName) ({ cls := "PathChecker", name := "state", desc := "(II)I" } : Jvm.MethodName)) ∈ zwd := qw_of 422 (by decide +kernel) (by decide +kernel)
theorem qw_365 : (Jvm.Cond.code ({ cls := "PathChecker", name := "state", desc := "(II)I" } : Jvm.MethodName) prog_1_method_9_code (3 : Nat) (Option.some Jvm.ClassFile.FieldType.int)) ∈ zwd := qw_of 423 (by decide +kernel) (by decide +kernel)
theorem qw_366 : (Jvm.Cond.methodLink "PathCheckerLaw" (88 : Nat) ({ cls := "PathChecker", name := "endless", desc := "(I)Z" } : Jvm.MethodName)) ∈ zwd := qw_of 424 (by decide +kernel) (by decide +kernel)
theorem qw_367 : (Jvm.Cond.instanceMethod ({ cls := "PathChecker", name := "endless", desc := "(I)Z" } : Jvm.MethodName)) ∈ zwd := qw_of 425 (by decide +kernel) (by decide +kernel)
theorem qw_368 : (Jvm.Cond.selects "PathChecker" ({ cls := "PathChecker", name := "endless", desc := "(I)Z" } : Jvm.MethodName) ({ cls := "PathChecker", name := "endless", desc := "(I)Z" } : Jvm.MethodName)) ∈ zwd := qw_of 426 (by decide +kernel) (by decide +kernel)
theorem qw_369 : (Jvm.Cond.code ({ cls := "PathChecker", name := "endless", desc := "(I)Z" } : Jvm.MethodName) prog_1_method_10_code (2 : Nat) (Option.some Jvm.ClassFile.FieldType.boolean)) ∈ zwd := qw_of 427 (by decide +kernel) (by decide +kernel)
theorem qw_370 : (Jvm.Cond.methodLink "PathChecker" (125 : Nat) ({ cls := "PathChecker$Structure", name := "statesWithPath", desc := "()I" } : Jvm.MethodName)) ∈ zwd := qw_of 428 (by decide +kernel) (by decide +kernel)
theorem qw_371 : (Jvm.Cond.instanceMethod ({ cls := "PathChecker$Structure", name := "statesWithPath", desc := "()I" } : Jvm.MethodName)) ∈ zwd := qw_of 429 (by decide +kernel) (by decide +kernel)
theorem qw_372 : (Jvm.Cond.selects "PathChecker$Structure" ({ cls := "PathChecker$Structure", name := "statesWithPath", desc := "()I" } : Jvm.MethodName) ({ cls := "PathChecker$Structure", name := "statesWithPath", desc := "()I" } : Jvm.MethodName)) ∈ zwd := qw_of 430 (by decide +kernel) (by decide +kernel)
theorem qw_373 : (Jvm.Cond.code ({ cls := "PathChecker$Structure", name := "statesWithPath", desc := "()I" } : Jvm.MethodName) prog_9_method_3_code (4 : Nat) (Option.some Jvm.ClassFile.FieldType.int)) ∈ zwd := qw_of 431 (by decide +kernel) (by decide +kernel)
theorem qw_374 : (Jvm.Cond.methodLink "PathCheckerLaw" (105 : Nat) ({ cls := "PathChecker", name := "go", desc := "(I)I" } : Jvm.MethodName)) ∈ zwd := qw_of 432 (by decide +kernel) (by decide +kernel)
theorem qw_375 : (Jvm.Cond.instanceMethod ({ cls := "PathChecker", name := "go", desc := "(I)I" } : Jvm.MethodName)) ∈ zwd := qw_of 433 (by decide +kernel) (by decide +kernel)
theorem qw_376 : (Jvm.Cond.selects "PathChecker" ({ cls := "PathChecker", name := "go", desc := "(I)I" } : Jvm.MethodName) ({ cls := "PathChecker", name := "go", desc := "(I)I" } : Jvm.MethodName)) ∈ zwd := qw_of 434 (by decide +kernel) (by decide +kernel)
theorem qw_377 : (Jvm.Cond.code ({ cls := "PathChecker", name := "go", desc := "(I)I" } : Jvm.MethodName) prog_1_method_15_code (2 : Nat) (Option.some Jvm.ClassFile.FieldType.int)) ∈ zwd := qw_of 435 (by decide +kernel) (by decide +kernel)
theorem qw_378 : (Jvm.Cond.methodLink "PathCheckerLaw" (109 : Nat) ({ cls := "PathChecker", name := "clear", desc := "()V" } : Jvm.MethodName)) ∈ zwd := qw_of 436 (by decide +kernel) (by decide +kernel)
theorem qw_379 : (Jvm.Cond.instanceMethod ({ cls := "PathChecker", name := "clear", desc := "()V" } : Jvm.MethodName)) ∈ zwd := qw_of 437 (by decide +kernel) (by decide +kernel)
theorem qw_380 : (Jvm.Cond.selects "PathChecker" ({ cls := "PathChecker", name := "clear", desc := "()V" } : Jvm.MethodName) ({ cls := "PathChecker", name := "clear", desc := "()V" } : Jvm.MethodName)) ∈ zwd := qw_of 438 (by decide +kernel) (by decide +kernel)
theorem qw_381 : (Jvm.Cond.code ({ cls := "PathChecker", name := "clear", desc := "()V" } : Jvm.MethodName) prog_1_method_16_code (1 : Nat) (Option.none : Option Jvm.ClassFile.FieldType)) ∈ zwd := qw_of 439 (by decide +kernel) (by decide +kernel)
theorem qw_382 : (Jvm.Cond.methodLink "PathCheckerLaw" (62 : Nat) ({ cls := "PathCheckerLaw", name := "formula", desc := "(LPathChecker;[J)I" } : Jvm.MethodName)) ∈ zwd := qw_of 440 (by decide +kernel) (by decide +kernel)
theorem qw_383 : (Jvm.Cond.static ({ cls := "PathCheckerLaw", name := "formula", desc := "(LPathChecker;[J)I" } : Jvm.MethodName)) ∈ zwd := qw_of 441 (by decide +kernel) (by decide +kernel)
theorem qw_387 : (Jvm.Cond.methodLink "PathCheckerLaw" (7 : Nat) ({ cls := "PathChecker", name := "formula", desc := "()I" } : Jvm.MethodName)) ∈ zwd := qw_of 445 (by decide +kernel) (by decide +kernel)
theorem qw_388 : (Jvm.Cond.instanceMethod ({ cls := "PathChecker", name := "formula", desc := "()I" } : Jvm.MethodName)) ∈ zwd := qw_of 446 (by decide +kernel) (by decide +kernel)
theorem qw_389 : (Jvm.Cond.selects "PathChecker" ({ cls := "PathChecker", name := "formula", desc := "()I" } : Jvm.MethodName) ({ cls := "PathChecker", name := "formula", desc := "()I" } : Jvm.MethodName)) ∈ zwd := qw_of 447 (by decide +kernel) (by decide +kernel)
theorem qw_390 : (Jvm.Cond.code ({ cls := "PathChecker", name := "formula", desc := "()I" } : Jvm.MethodName) prog_1_method_5_code (1 : Nat) (Option.some Jvm.ClassFile.FieldType.int)) ∈ zwd := qw_of 448 (by decide +kernel) (by decide +kernel)
theorem qw_391 : (Jvm.Cond.methodLink "PathChecker" (71 : Nat) ({ cls := "PathChecker$Reader", name := "reads", desc := "([CI)Z" } : Jvm.MethodName)) ∈ zwd := qw_of 449 (by decide +kernel) (by decide +kernel)
theorem qw_392 : (Jvm.Cond.instanceMethod ({ cls := "PathChecker$Reader", name := "reads", desc := "([CI)Z" } : Jvm.MethodName)) ∈ zwd := qw_of 450 (by decide +kernel) (by decide +kernel)
theorem qw_393 : (Jvm.Cond.selects "PathChecker$Reader" ({ cls := "PathChecker$Reader", name := "reads", desc := "([CI)Z" } : Jvm.MethodName) ({ cls := "PathChecker$Reader", name := "reads", desc := "([CI)Z" } : Jvm.MethodName)) ∈ zwd := qw_of 451 (by decide +kernel) (by decide +kernel)
theorem qw_394 : (Jvm.Cond.code ({ cls := "PathChecker$Reader", name := "reads", desc := "([CI)Z" } : Jvm.MethodName) prog_7_method_2_code (5 : Nat) (Option.some Jvm.ClassFile.FieldType.boolean)) ∈ zwd := qw_of 452 (by decide +kernel) (by decide +kernel)
theorem qw_395 : (Jvm.Cond.methodLink "PathChecker$Reader" (28 : Nat) ({ cls := "PathChecker$Reader", name := "startAnew", desc := "()V" } : Jvm.MethodName)) ∈ zwd := qw_of 453 (by decide +kernel) (by decide +kernel)
theorem qw_397 : (Jvm.Cond.instanceMethod ({ cls := "PathChecker$Reader", name := "startAnew", desc := "()V" } : Jvm.MethodName)) ∈ zwd := qw_of 455 (by decide +kernel) (by decide +kernel)
theorem qw_398 : (Jvm.Cond.code ({ cls := "PathChecker$Reader", name := "startAnew", desc := "()V" } : Jvm.MethodName) prog_7_method_3_code (1 : Nat) (Option.none : Option Jvm.ClassFile.FieldType)) ∈ zwd := qw_of 456 (by decide +kernel) (by decide +kernel)
theorem qw_399 : (Jvm.Cond.methodLink "PathChecker$Reader" (35 : Nat) ({ cls := "PathChecker$Reader", name := "takeInUnit", desc := "(C)Z" } : Jvm.MethodName)) ∈ zwd := qw_of 457 (by decide +kernel) (by decide +kernel)
theorem qw_401 : (Jvm.Cond.instanceMethod ({ cls := "PathChecker$Reader", name := "takeInUnit", desc := "(C)Z" } : Jvm.MethodName)) ∈ zwd := qw_of 459 (by decide +kernel) (by decide +kernel)
theorem qw_402 : (Jvm.Cond.code ({ cls := "PathChecker$Reader", name := "takeInUnit", desc := "(C)Z" } : Jvm.MethodName) prog_7_method_4_code (2 : Nat) (Option.some Jvm.ClassFile.FieldType.boolean)) ∈ zwd := qw_of 460 (by decide +kernel) (by decide +kernel)
theorem qw_403 : (Jvm.Cond.methodLink "PathChecker$Reader" (65 : Nat) ({ cls := "PathChecker$Reader", name := "isLeaf", desc := "(C)Z" } : Jvm.MethodName)) ∈ zwd := qw_of 461 (by decide +kernel) (by decide +kernel)
theorem qw_404 : (Jvm.Cond.static ({ cls := "PathChecker$Reader", name := "isLeaf", desc := "(C)Z" } : Jvm.MethodName)) ∈ zwd := qw_of 462 (by decide +kernel) (by decide +kernel)
theorem qw_405 : (Jvm.Cond.code ({ cls := "PathChecker$Reader", name := "isLeaf", desc := "(C)Z" } : Jvm.MethodName) prog_7_method_10_code (1 : Nat) (Option.some Jvm.ClassFile.FieldType.boolean)) ∈ zwd := qw_of 463 (by decide +kernel) (by decide +kernel)
theorem qw_406 : (Jvm.Cond.methodLink "PathChecker$Reader" (68 : Nat) ({ cls := "PathChecker$Reader", name := "newPart", desc := "(CII)I" } : Jvm.MethodName)) ∈ zwd := qw_of 464 (by decide +kernel) (by decide +kernel)
theorem qw_408 : (Jvm.Cond.instanceMethod ({ cls := "PathChecker$Reader", name := "newPart", desc := "(CII)I" } : Jvm.MethodName)) ∈ zwd := qw_of 466 (by decide +kernel) (by decide +kernel)
theorem qw_409 : (Jvm.Cond.code ({ cls := "PathChecker$Reader", name := "newPart", desc := "(CII)I" } : Jvm.MethodName) prog_7_method_9_code (5 : Nat) (Option.some Jvm.ClassFile.FieldType.int)) ∈ zwd := qw_of 467 (by decide +kernel) (by decide +kernel)
theorem qw_410 : (Jvm.Cond.methodLink "PathChecker$Reader" (72 : Nat) ({ cls := "PathChecker$Reader", name := "rank", desc := "(C)I" } : Jvm.MethodName)) ∈ zwd := qw_of 468 (by decide +kernel) (by decide +kernel)
theorem qw_411 : (Jvm.Cond.static ({ cls := "PathChecker$Reader", name := "rank", desc := "(C)I" } : Jvm.MethodName)) ∈ zwd := qw_of 469 (by decide +kernel) (by decide +kernel)
theorem qw_412 : (Jvm.Cond.code ({ cls := "PathChecker$Reader", name := "rank", desc := "(C)I" } : Jvm.MethodName) prog_7_method_13_code (1 : Nat) (Option.some Jvm.ClassFile.FieldType.int)) ∈ zwd := qw_of 470 (by decide +kernel) (by decide +kernel)
theorem qw_413 : (Jvm.Cond.methodLink "PathChecker$Reader" (76 : Nat) ({ cls := "PathChecker$Reader", name := "await", desc := "(C)V" } : Jvm.MethodName)) ∈ zwd := qw_of 471 (by decide +kernel) (by decide +kernel)
theorem qw_415 : (Jvm.Cond.instanceMethod ({ cls := "PathChecker$Reader", name := "await", desc := "(C)V" } : Jvm.MethodName)) ∈ zwd := qw_of 473 (by decide +kernel) (by decide +kernel)
theorem qw_416 : (Jvm.Cond.code ({ cls := "PathChecker$Reader", name := "await", desc := "(C)V" } : Jvm.MethodName) prog_7_method_6_code (2 : Nat) (Option.none : Option Jvm.ClassFile.FieldType)) ∈ zwd := qw_of 474 (by decide +kernel) (by decide +kernel)
theorem qw_417 : (Jvm.Cond.methodLink "PathChecker$Reader" (39 : Nat) ({ cls := "PathChecker$Reader", name := "takeBehindUnit", desc := "(C)Z" } : Jvm.MethodName)) ∈ zwd := qw_of 475 (by decide +kernel) (by decide +kernel)
theorem qw_419 : (Jvm.Cond.instanceMethod ({ cls := "PathChecker$Reader", name := "takeBehindUnit", desc := "(C)Z" } : Jvm.MethodName)) ∈ zwd := qw_of 477 (by decide +kernel) (by decide +kernel)
theorem qw_420 : (Jvm.Cond.code ({ cls := "PathChecker$Reader", name := "takeBehindUnit", desc := "(C)Z" } : Jvm.MethodName) prog_7_method_5_code (3 : Nat) (Option.some Jvm.ClassFile.FieldType.boolean)) ∈ zwd := qw_of 478 (by decide +kernel) (by decide +kernel)
theorem qw_421 : (Jvm.Cond.methodLink "PathChecker$Reader" (52 : Nat) ({ cls := "PathChecker$Reader", name := "joinDownTo", desc := "(I)V" } : Jvm.MethodName)) ∈ zwd := qw_of 479 (by decide +kernel) (by decide +kernel)
theorem qw_423 : (Jvm.Cond.instanceMethod ({ cls := "PathChecker$Reader", name := "joinDownTo", desc := "(I)V" } : Jvm.MethodName)) ∈ zwd := qw_of 481 (by decide +kernel) (by decide +kernel)
theorem qw_424 : (Jvm.Cond.code ({ cls := "PathChecker$Reader", name := "joinDownTo", desc := "(I)V" } : Jvm.MethodName) prog_7_method_7_code (2 : Nat) (Option.none : Option Jvm.ClassFile.FieldType)) ∈ zwd := qw_of 482 (by decide +kernel) (by decide +kernel)
theorem qw_425 : (Jvm.Cond.methodLink "PathChecker$Reader" (89 : Nat) ({ cls := "PathChecker$Reader", name := "join", desc := "(C)V" } : Jvm.MethodName)) ∈ zwd := qw_of 483 (by decide +kernel) (by decide +kernel)
theorem qw_427 : (Jvm.Cond.instanceMethod ({ cls := "PathChecker$Reader", name := "join", desc := "(C)V" } : Jvm.MethodName)) ∈ zwd := qw_of 485 (by decide +kernel) (by decide +kernel)
theorem qw_428 : (Jvm.Cond.code ({ cls := "PathChecker$Reader", name := "join", desc := "(C)V" } : Jvm.MethodName) prog_7_method_8_code (3 : Nat) (Option.none : Option Jvm.ClassFile.FieldType)) ∈ zwd := qw_of 486 (by decide +kernel) (by decide +kernel)
theorem qw_429 : (Jvm.Cond.methodLink "PathChecker$Reader" (80 : Nat) ({ cls := "java/lang/Math", name := "max", desc := "(II)I" } : Jvm.MethodName)) ∈ zwd := qw_of 487 (by decide +kernel) (by decide +kernel)
theorem qw_430 : (Jvm.Cond.static ({ cls := "java/lang/Math", name := "max", desc := "(II)I" } : Jvm.MethodName)) ∈ zwd := qw_of 488 (by decide +kernel) (by decide +kernel)
theorem qw_431 : (Jvm.Cond.code ({ cls := "java/lang/Math", name := "max", desc := "(II)I" } : Jvm.MethodName) prog_16_method_65_code (2 : Nat) (Option.some Jvm.ClassFile.FieldType.int)) ∈ zwd := qw_of 489 (by decide +kernel) (by decide +kernel)
theorem qw_432 : (Jvm.Cond.methodLink "PathChecker$Reader" (86 : Nat) ({ cls := "PathChecker$Reader", name := "groupsToTheRight", desc := "(C)Z" } : Jvm.MethodName)) ∈ zwd := qw_of 490 (by decide +kernel) (by decide +kernel)
theorem qw_433 : (Jvm.Cond.static ({ cls := "PathChecker$Reader", name := "groupsToTheRight", desc := "(C)Z" } : Jvm.MethodName)) ∈ zwd := qw_of 491 (by decide +kernel) (by decide +kernel)
theorem qw_434 : (Jvm.Cond.code ({ cls := "PathChecker$Reader", name := "groupsToTheRight", desc := "(C)Z" } : Jvm.MethodName) prog_7_method_12_code (1 : Nat) (Option.some Jvm.ClassFile.FieldType.boolean)) ∈ zwd := qw_of 492 (by decide +kernel) (by decide +kernel)
theorem qw_435 : (Jvm.Cond.methodLink "PathChecker$Reader" (42 : Nat) ({ cls := "PathChecker$Reader", name := "isTimed", desc := "(C)Z" } : Jvm.MethodName)) ∈ zwd := qw_of 493 (by decide +kernel) (by decide +kernel)
theorem qw_436 : (Jvm.Cond.static ({ cls := "PathChecker$Reader", name := "isTimed", desc := "(C)Z" } : Jvm.MethodName)) ∈ zwd := qw_of 494 (by decide +kernel) (by decide +kernel)
theorem qw_437 : (Jvm.Cond.code ({ cls := "PathChecker$Reader", name := "isTimed", desc := "(C)Z" } : Jvm.MethodName) prog_7_method_11_code (1 : Nat) (Option.some Jvm.ClassFile.FieldType.boolean)) ∈ zwd := qw_of 495 (by decide +kernel) (by decide +kernel)
theorem qw_517 : (Jvm.Cond.methodLink "PathChecker" (84 : Nat) ({ cls := "PathChecker$NormalForm", name := "take", desc := "(LPathChecker$Reader;)V" } : Jvm.MethodName)) ∈ zwd := qw_of 575 (by decide +kernel) (by decide +kernel)
theorem qw_518 : (Jvm.Cond.instanceMethod ({ cls := "PathChecker$NormalForm", name := "take", desc := "(LPathChecker$Reader;)V" } : Jvm.MethodName)) ∈ zwd := qw_of 576 (by decide +kernel) (by decide +kernel)
theorem qw_519 : (Jvm.Cond.selects "PathChecker$NormalForm" ({ cls := "PathChecker$NormalForm", name := "take", desc := "(LPathChecker$Reader;)V" } : Jvm.MethodName) ({ cls := "PathChecker$NormalForm", name := "take", desc := "(LPathChecker$Reader;)V" } : Jvm.MethodName)) ∈ zwd := qw_of 577 (by decide +kernel) (by decide +kernel)
theorem qw_520 : (Jvm.Cond.code ({ cls := "PathChecker$NormalForm", name := "take", desc := "(LPathChecker$Reader;)V" } : Jvm.MethodName) prog_5_method_3_code (2 : Nat) (Option.none : Option Jvm.ClassFile.FieldType)) ∈ zwd := qw_of 578 (by decide +kernel) (by decide +kernel)
theorem qw_521 : (Jvm.Cond.methodLink "PathChecker$NormalForm" (39 : Nat) ({ cls := "PathChecker$NormalForm", name := "write", desc := "(LPathChecker$Reader;)V" } : Jvm.MethodName)) ∈ zwd := qw_of 579 (by decide +kernel) (by decide +kernel)
theorem qw_523 : (Jvm.Cond.instanceMethod ({ cls := "PathChecker$NormalForm", name := "write", desc := "(LPathChecker$Reader;)V" } : Jvm.MethodName)) ∈ zwd := qw_of 581 (by decide +kernel) (by decide +kernel)
theorem qw_524 : (Jvm.Cond.code ({ cls := "PathChecker$NormalForm", name := "write", desc := "(LPathChecker$Reader;)V" } : Jvm.MethodName) prog_5_method_4_code (7 : Nat) (Option.none : Option Jvm.ClassFile.FieldType)) ∈ zwd := qw_of 582 (by decide +kernel) (by decide +kernel)
theorem qw_525 : (Jvm.Cond.methodLink "PathChecker$NormalForm" (54 : Nat) ({ cls := "PathChecker$NormalForm", name := "keepForLater", desc := "(IZ)V" } : Jvm.MethodName)) ∈ zwd := qw_of 583 (by decide +kernel) (by decide +kernel)
theorem qw_527 : (Jvm.Cond.instanceMethod ({ cls := "PathChecker$NormalForm", name := "keepForLater", desc := "(IZ)V" } : Jvm.MethodName)) ∈ zwd := qw_of 585 (by decide +kernel) (by decide +kernel)
theorem qw_528 : (Jvm.Cond.code ({ cls := "PathChecker$NormalForm", name := "keepForLater", desc := "(IZ)V" } : Jvm.MethodName) prog_5_method_5_code (3 : Nat) (Option.none : Option Jvm.ClassFile.FieldType)) ∈ zwd := qw_of 586 (by decide +kernel) (by decide +kernel)
theorem qw_529 : (Jvm.Cond.methodLink "PathChecker$NormalForm" (59 : Nat) ({ cls := "PathChecker$NormalForm", name := "writeSigns", desc := "(CZ)V" } : Jvm.MethodName)) ∈ zwd := qw_of 587 (by decide +kernel) (by decide +kernel)
theorem qw_531 : (Jvm.Cond.instanceMethod ({ cls := "PathChecker$NormalForm", name := "writeSigns", desc := "(CZ)V" } : Jvm.MethodName)) ∈ zwd := qw_of 589 (by decide +kernel) (by decide +kernel)
theorem qw_532 : (Jvm.Cond.code ({ cls := "PathChecker$NormalForm", name := "writeSigns", desc := "(CZ)V" } : Jvm.MethodName) prog_5_method_6_code (3 : Nat) (Option.none : Option Jvm.ClassFile.FieldType)) ∈ zwd := qw_of 590 (by decide +kernel) (by decide +kernel)
theorem qw_533 : (Jvm.Cond.methodLink "PathChecker$NormalForm" (67 : Nat) ({ cls := "PathChecker$NormalForm", name := "add", desc := "(C)V" } : Jvm.MethodName)) ∈ zwd := qw_of 591 (by decide +kernel) (by decide +kernel)
theorem qw_535 : (Jvm.Cond.instanceMethod ({ cls := "PathChecker$NormalForm", name := "add", desc := "(C)V" } : Jvm.MethodName)) ∈ zwd := qw_of 593 (by decide +kernel) (by decide +kernel)
theorem qw_536 : (Jvm.Cond.code ({ cls := "PathChecker$NormalForm", name := "add", desc := "(C)V" } : Jvm.MethodName) prog_5_method_7_code (2 : Nat) (Option.none : Option Jvm.ClassFile.FieldType)) ∈ zwd := qw_of 594 (by decide +kernel) (by decide +kernel)
theorem qw_537 : (Jvm.Cond.methodLink "PathChecker$NormalForm" (71 : Nat) ({ cls := "PathChecker$NormalForm", name := "opposite", desc := "(C)C" } : Jvm.MethodName)) ∈ zwd := qw_of 595 (by decide +kernel) (by decide +kernel)
theorem qw_538 : (Jvm.Cond.static ({ cls := "PathChecker$NormalForm", name := "opposite", desc := "(C)C" } : Jvm.MethodName)) ∈ zwd := qw_of 596 (by decide +kernel) (by decide +kernel)
theorem qw_539 : (Jvm.Cond.code ({ cls := "PathChecker$NormalForm", name := "opposite", desc := "(C)C" } : Jvm.MethodName) prog_5_method_8_code (1 : Nat) (Option.some Jvm.ClassFile.FieldType.char)) ∈ zwd := qw_of 597 (by decide +kernel) (by decide +kernel)
theorem qw_540 : (Jvm.Cond.methodLink "PathChecker$NormalForm" (43 : Nat) ({ cls := "PathChecker$NormalForm", name := "connect", desc := "()V" } : Jvm.MethodName)) ∈ zwd := qw_of 598 (by decide +kernel) (by decide +kernel)
theorem qw_542 : (Jvm.Cond.instanceMethod ({ cls := "PathChecker$NormalForm", name := "connect", desc := "()V" } : Jvm.MethodName)) ∈ zwd := qw_of 600 (by decide +kernel) (by decide +kernel)
theorem qw_543 : (Jvm.Cond.code ({ cls := "PathChecker$NormalForm", name := "connect", desc := "()V" } : Jvm.MethodName) prog_5_method_9_code (2 : Nat) (Option.none : Option Jvm.ClassFile.FieldType)) ∈ zwd := qw_of 601 (by decide +kernel) (by decide +kernel)
theorem qw_544 : (Jvm.Cond.methodLink "PathChecker$NormalForm" (78 : Nat) ({ cls := "PathChecker$NormalForm", name := "isBinary", desc := "(C)Z" } : Jvm.MethodName)) ∈ zwd := qw_of 602 (by decide +kernel) (by decide +kernel)
theorem qw_545 : (Jvm.Cond.static ({ cls := "PathChecker$NormalForm", name := "isBinary", desc := "(C)Z" } : Jvm.MethodName)) ∈ zwd := qw_of 603 (by decide +kernel) (by decide +kernel)
theorem qw_546 : (Jvm.Cond.code ({ cls := "PathChecker$NormalForm", name := "isBinary", desc := "(C)Z" } : Jvm.MethodName) prog_5_method_10_code (1 : Nat) (Option.some Jvm.ClassFile.FieldType.boolean)) ∈ zwd := qw_of 604 (by decide +kernel) (by decide +kernel)
theorem qw_548 : (Jvm.Cond.methodLink "PathCheckerLaw" (71 : Nat) ({ cls := "PathCheckerLaw", name := "normal", desc := "(LPathChecker;I[J)I" } : Jvm.MethodName)) ∈ zwd := qw_of 606 (by decide +kernel) (by decide +kernel)
theorem qw_549 : (Jvm.Cond.static ({ cls := "PathCheckerLaw", name := "normal", desc := "(LPathChecker;I[J)I" } : Jvm.MethodName)) ∈ zwd := qw_of 607 (by decide +kernel) (by decide +kernel)
theorem qw_552 : (Jvm.Cond.methodLink "PathCheckerLaw" (17 : Nat) ({ cls := "PathChecker", name := "normal", desc := "(I)I" } : Jvm.MethodName)) ∈ zwd := qw_of 610 (by decide +kernel) (by decide +kernel)
theorem qw_553 : (Jvm.Cond.instanceMethod ({ cls := "PathChecker", name := "normal", desc := "(I)I" } : Jvm.MethodName)) ∈ zwd := qw_of 611 (by decide +kernel) (by decide +kernel)
theorem qw_554 : (Jvm.Cond.selects "PathChecker" ({ cls := "PathChecker", name := "normal", desc := "(I)I" } : Jvm.MethodName) ({ cls := "PathChecker", name := "normal", desc := "(I)I" } : Jvm.MethodName)) ∈ zwd := qw_of 612 (by decide +kernel) (by decide +kernel)
theorem qw_555 : (Jvm.Cond.code ({ cls := "PathChecker", name := "normal", desc := "(I)I" } : Jvm.MethodName) prog_1_method_6_code (2 : Nat) (Option.some Jvm.ClassFile.FieldType.int)) ∈ zwd := qw_of 613 (by decide +kernel) (by decide +kernel)
theorem qw_556 : (Jvm.Cond.methodLink "PathChecker" (95 : Nat) ({ cls := "PathChecker$NormalForm", name := "isMissing", desc := "()Z" } : Jvm.MethodName)) ∈ zwd := qw_of 614 (by decide +kernel) (by decide +kernel)
theorem qw_557 : (Jvm.Cond.instanceMethod ({ cls := "PathChecker$NormalForm", name := "isMissing", desc := "()Z" } : Jvm.MethodName)) ∈ zwd := qw_of 615 (by decide +kernel) (by decide +kernel)
theorem qw_558 : (Jvm.Cond.selects "PathChecker$NormalForm" ({ cls := "PathChecker$NormalForm", name := "isMissing", desc := "()Z" } : Jvm.MethodName) ({ cls := "PathChecker$NormalForm", name := "isMissing", desc := "()Z" } : Jvm.MethodName)) ∈ zwd := qw_of 616 (by decide +kernel) (by decide +kernel)
theorem qw_559 : (Jvm.Cond.code ({ cls := "PathChecker$NormalForm", name := "isMissing", desc := "()Z" } : Jvm.MethodName) prog_5_method_2_code (1 : Nat) (Option.some Jvm.ClassFile.FieldType.boolean)) ∈ zwd := qw_of 617 (by decide +kernel) (by decide +kernel)
theorem qw_575 : (Jvm.Cond.methodLink "PathCheckerLaw" (92 : Nat) ({ cls := "PathCheckerLaw", name := "keeps", desc := "(LPathChecker;I[J)I" } : Jvm.MethodName)) ∈ zwd := qw_of 633 (by decide +kernel) (by decide +kernel)
theorem qw_576 : (Jvm.Cond.static ({ cls := "PathCheckerLaw", name := "keeps", desc := "(LPathChecker;I[J)I" } : Jvm.MethodName)) ∈ zwd := qw_of 634 (by decide +kernel) (by decide +kernel)
theorem qw_579 : (Jvm.Cond.methodLink "PathCheckerLaw" (23 : Nat) ({ cls := "PathChecker", name := "keeps", desc := "(I)Z" } : Jvm.MethodName)) ∈ zwd := qw_of 637 (by decide +kernel) (by decide +kernel)
theorem qw_580 : (Jvm.Cond.instanceMethod ({ cls := "PathChecker", name := "keeps", desc := "(I)Z" } : Jvm.MethodName)) ∈ zwd := qw_of 638 (by decide +kernel) (by decide +kernel)
theorem qw_581 : (Jvm.Cond.selects "PathChecker" ({ cls := "PathChecker", name := "keeps", desc := "(I)Z" } : Jvm.MethodName) ({ cls := "PathChecker", name := "keeps", desc := "(I)Z" } : Jvm.MethodName)) ∈ zwd := qw_of 639 (by decide +kernel) (by decide +kernel)
theorem qw_582 : (Jvm.Cond.code ({ cls := "PathChecker", name := "keeps", desc := "(I)Z" } : Jvm.MethodName) prog_1_method_11_code (2 : Nat) (Option.some Jvm.ClassFile.FieldType.boolean)) ∈ zwd := qw_of 640 (by decide +kernel) (by decide +kernel)
theorem qw_598 : (Jvm.Cond.methodLink "PathChecker" (132 : Nat) ({ cls := "PathChecker", name := "bringUpToDate", desc := "()V" } : Jvm.MethodName)) ∈ zwd := qw_of 656 (by decide +kernel) (by decide +kernel)
theorem qw_600 : (Jvm.Cond.instanceMethod ({ cls := "PathChecker", name := "bringUpToDate", desc := "()V" } : Jvm.MethodName)) ∈ zwd := qw_of 658 (by decide +kernel) (by decide +kernel)
theorem qw_601 : (Jvm.Cond.code ({ cls := "PathChecker", name := "bringUpToDate", desc := "()V" } : Jvm.MethodName) prog_1_method_19_code (1 : Nat) (Option.none : Option Jvm.ClassFile.FieldType)) ∈ zwd := qw_of 659 (by decide +kernel) (by decide +kernel)
theorem qw_602 : (Jvm.Cond.methodLink "PathChecker" (164 : Nat) ({ cls := "PathChecker$Graph", name := "build", desc := "()V" } : Jvm.MethodName)) ∈ zwd := qw_of 660 (by decide +kernel) (by decide +kernel)
theorem qw_603 : (Jvm.Cond.instanceMethod ({ cls := "PathChecker$Graph", name := "build", desc := "()V" } : Jvm.MethodName)) ∈ zwd := qw_of 661 (by decide +kernel) (by decide +kernel)
theorem qw_604 : (Jvm.Cond.selects "PathChecker$Graph" ({ cls := "PathChecker$Graph", name := "build", desc := "()V" } : Jvm.MethodName) ({ cls := "PathChecker$Graph", name := "build", desc := "()V" } : Jvm.MethodName)) ∈ zwd := qw_of 662 (by decide +kernel) (by decide +kernel)
theorem qw_605 : (Jvm.Cond.code ({ cls := "PathChecker$Graph", name := "build", desc := "()V" } : Jvm.MethodName) prog_2_method_2_code (3 : Nat) (Option.none : Option Jvm.ClassFile.FieldType)) ∈ zwd := qw_of 663 (by decide +kernel) (by decide +kernel)
theorem qw_606 : (Jvm.Cond.methodLink "PathChecker$Graph" (48 : Nat) ({ cls := "PathChecker$Graph", name := "weighHere", desc := "(I)V" } : Jvm.MethodName)) ∈ zwd := qw_of 664 (by decide +kernel) (by decide +kernel)
theorem qw_608 : (Jvm.Cond.instanceMethod ({ cls := "PathChecker$Graph", name := "weighHere", desc := "(I)V" } : Jvm.MethodName)) ∈ zwd := qw_of 666 (by decide +kernel) (by decide +kernel)
theorem qw_609 : (Jvm.Cond.code ({ cls := "PathChecker$Graph", name := "weighHere", desc := "(I)V" } : Jvm.MethodName) prog_2_method_3_code (5 : Nat) (Option.none : Option Jvm.ClassFile.FieldType)) ∈ zwd := qw_of 667 (by decide +kernel) (by decide +kernel)
theorem qw_610 : (Jvm.Cond.methodLink "PathChecker$Graph" (72 : Nat) ({ cls := "PathChecker$Graph", name := "untimed", desc := "([III)I" } : Jvm.MethodName)) ∈ zwd := qw_of 668 (by decide +kernel) (by decide +kernel)
theorem qw_612 : (Jvm.Cond.instanceMethod ({ cls := "PathChecker$Graph", name := "untimed", desc := "([III)I" } : Jvm.MethodName)) ∈ zwd := qw_of 670 (by decide +kernel) (by decide +kernel)
theorem qw_613 : (Jvm.Cond.code ({ cls := "PathChecker$Graph", name := "untimed", desc := "([III)I" } : Jvm.MethodName) prog_2_method_7_code (4 : Nat) (Option.some Jvm.ClassFile.FieldType.int)) ∈ zwd := qw_of 671 (by decide +kernel) (by decide +kernel)
theorem qw_614 : (Jvm.Cond.methodLink "PathChecker$Graph" (96 : Nat) ({ cls := "PathChecker$NormalForm", name := "leafHolds", desc := "(CI)Z" } : Jvm.MethodName)) ∈ zwd := qw_of 672 (by decide +kernel) (by decide +kernel)
theorem qw_615 : (Jvm.Cond.static ({ cls := "PathChecker$NormalForm", name := "leafHolds", desc := "(CI)Z" } : Jvm.MethodName)) ∈ zwd := qw_of 673 (by decide +kernel) (by decide +kernel)
theorem qw_616 : (Jvm.Cond.code ({ cls := "PathChecker$NormalForm", name := "leafHolds", desc := "(CI)Z" } : Jvm.MethodName) prog_5_method_11_code (2 : Nat) (Option.some Jvm.ClassFile.FieldType.boolean)) ∈ zwd := qw_of 674 (by decide +kernel) (by decide +kernel)
theorem qw_619 : (Jvm.Cond.methodLink "PathChecker$Graph" (82 : Nat) ({ cls := "PathChecker$Graph", name := "promptGuesses", desc := "(II)I" } : Jvm.MethodName)) ∈ zwd := qw_of 677 (by decide +kernel) (by decide +kernel)
theorem qw_621 : (Jvm.Cond.instanceMethod ({ cls := "PathChecker$Graph", name := "promptGuesses", desc := "(II)I" } : Jvm.MethodName)) ∈ zwd := qw_of 679 (by decide +kernel) (by decide +kernel)
theorem qw_622 : (Jvm.Cond.code ({ cls := "PathChecker$Graph", name := "promptGuesses", desc := "(II)I" } : Jvm.MethodName) prog_2_method_4_code (3 : Nat) (Option.some Jvm.ClassFile.FieldType.int)) ∈ zwd := qw_of 680 (by decide +kernel) (by decide +kernel)
theorem qw_623 : (Jvm.Cond.methodLink "PathChecker$Graph" (52 : Nat) ({ cls := "PathChecker$Structure", name := "joins", desc := "(II)Z" } : Jvm.MethodName)) ∈ zwd := qw_of 681 (by decide +kernel) (by decide +kernel)
theorem qw_624 : (Jvm.Cond.methodLink "PathChecker$Graph" (56 : Nat) ({ cls := "PathChecker$Graph", name := "weighBefore", desc := "(I)V" } : Jvm.MethodName)) ∈ zwd := qw_of 682 (by decide +kernel) (by decide +kernel)
theorem qw_626 : (Jvm.Cond.instanceMethod ({ cls := "PathChecker$Graph", name := "weighBefore", desc := "(I)V" } : Jvm.MethodName)) ∈ zwd := qw_of 684 (by decide +kernel) (by decide +kernel)
theorem qw_627 : (Jvm.Cond.code ({ cls := "PathChecker$Graph", name := "weighBefore", desc := "(I)V" } : Jvm.MethodName) prog_2_method_5_code (5 : Nat) (Option.none : Option Jvm.ClassFile.FieldType)) ∈ zwd := qw_of 685 (by decide +kernel) (by decide +kernel)
theorem qw_628 : (Jvm.Cond.methodLink "PathChecker$Graph" (93 : Nat) ({ cls := "PathChecker$Graph", name := "timedBefore", desc := "(II)I" } : Jvm.MethodName)) ∈ zwd := qw_of 686 (by decide +kernel) (by decide +kernel)
theorem qw_630 : (Jvm.Cond.instanceMethod ({ cls := "PathChecker$Graph", name := "timedBefore", desc := "(II)I" } : Jvm.MethodName)) ∈ zwd := qw_of 688 (by decide +kernel) (by decide +kernel)
theorem qw_631 : (Jvm.Cond.code ({ cls := "PathChecker$Graph", name := "timedBefore", desc := "(II)I" } : Jvm.MethodName) prog_2_method_6_code (4 : Nat) (Option.some Jvm.ClassFile.FieldType.int)) ∈ zwd := qw_of 689 (by decide +kernel) (by decide +kernel)
theorem qw_632 : (Jvm.Cond.methodLink "PathChecker$Graph" (59 : Nat) ({ cls := "PathChecker$Graph", name := "writeGuesses", desc := "(II)V" } : Jvm.MethodName)) ∈ zwd := qw_of 690 (by decide +kernel) (by decide +kernel)
theorem qw_634 : (Jvm.Cond.instanceMethod ({ cls := "PathChecker$Graph", name := "writeGuesses", desc := "(II)V" } : Jvm.MethodName)) ∈ zwd := qw_of 692 (by decide +kernel) (by decide +kernel)
theorem qw_635 : (Jvm.Cond.code ({ cls := "PathChecker$Graph", name := "writeGuesses", desc := "(II)V" } : Jvm.MethodName) prog_2_method_8_code (6 : Nat) (Option.none : Option Jvm.ClassFile.FieldType)) ∈ zwd := qw_of 693 (by decide +kernel) (by decide +kernel)
theorem qw_636 : (Jvm.Cond.methodLink "PathChecker" (167 : Nat) ({ cls := "PathChecker$Knots", name := "find", desc := "()V" } : Jvm.MethodName)) ∈ zwd := qw_of 694 (by decide +kernel) (by decide +kernel)
theorem qw_637 : (Jvm.Cond.instanceMethod ({ cls := "PathChecker$Knots", name := "find", desc := "()V" } : Jvm.MethodName)) ∈ zwd := qw_of 695 (by decide +kernel) (by decide +kernel)
theorem qw_638 : (Jvm.Cond.selects "PathChecker$Knots" ({ cls := "PathChecker$Knots", name := "find", desc := "()V" } : Jvm.MethodName) ({ cls := "PathChecker$Knots", name := "find", desc := "()V" } : Jvm.MethodName)) ∈ zwd := qw_of 696 (by decide +kernel) (by decide +kernel)
theorem qw_639 : (Jvm.Cond.code ({ cls := "PathChecker$Knots", name := "find", desc := "()V" } : Jvm.MethodName) prog_3_method_2_code (4 : Nat) (Option.none : Option Jvm.ClassFile.FieldType)) ∈ zwd := qw_of 697 (by decide +kernel) (by decide +kernel)
theorem qw_640 : (Jvm.Cond.methodLink "PathChecker$Knots" (44 : Nat) ({ cls := "PathChecker$Knots", name := "startAnew", desc := "()V" } : Jvm.MethodName)) ∈ zwd := qw_of 698 (by decide +kernel) (by decide +kernel)
theorem qw_642 : (Jvm.Cond.instanceMethod ({ cls := "PathChecker$Knots", name := "startAnew", desc := "()V" } : Jvm.MethodName)) ∈ zwd := qw_of 700 (by decide +kernel) (by decide +kernel)
theorem qw_643 : (Jvm.Cond.code ({ cls := "PathChecker$Knots", name := "startAnew", desc := "()V" } : Jvm.MethodName) prog_3_method_3_code (2 : Nat) (Option.none : Option Jvm.ClassFile.FieldType)) ∈ zwd := qw_of 701 (by decide +kernel) (by decide +kernel)
theorem qw_644 : (Jvm.Cond.methodLink "PathChecker$Knots" (50 : Nat) ({ cls := "PathChecker$Knots", name := "walkFrom", desc := "(I)V" } : Jvm.MethodName)) ∈ zwd := qw_of 702 (by decide +kernel) (by decide +kernel)
theorem qw_646 : (Jvm.Cond.instanceMethod ({ cls := "PathChecker$Knots", name := "walkFrom", desc := "(I)V" } : Jvm.MethodName)) ∈ zwd := qw_of 704 (by decide +kernel) (by decide +kernel)
theorem qw_647 : (Jvm.Cond.code ({ cls := "PathChecker$Knots", name := "walkFrom", desc := "(I)V" } : Jvm.MethodName) prog_3_method_4_code (6 : Nat) (Option.none : Option Jvm.ClassFile.FieldType)) ∈ zwd := qw_of 705 (by decide +kernel) (by decide +kernel)
theorem qw_648 : (Jvm.Cond.methodLink "PathChecker$Knots" (63 : Nat) ({ cls := "PathChecker$Knots", name := "enter", desc := "(I)V" } : Jvm.MethodName)) ∈ zwd := qw_of 706 (by decide +kernel) (by decide +kernel)
theorem qw_650 : (Jvm.Cond.instanceMethod ({ cls := "PathChecker$Knots", name := "enter", desc := "(I)V" } : Jvm.MethodName)) ∈ zwd := qw_of 708 (by decide +kernel) (by decide +kernel)
theorem qw_651 : (Jvm.Cond.code ({ cls := "PathChecker$Knots", name := "enter", desc := "(I)V" } : Jvm.MethodName) prog_3_method_5_code (2 : Nat) (Option.none : Option Jvm.ClassFile.FieldType)) ∈ zwd := qw_of 709 (by decide +kernel) (by decide +kernel)
theorem qw_652 : (Jvm.Cond.methodLink "PathChecker$Knots" (66 : Nat) ({ cls := "PathChecker$Knots", name := "tryStep", desc := "(II)V" } : Jvm.MethodName)) ∈ zwd := qw_of 710 (by decide +kernel) (by decide +kernel)
theorem qw_654 : (Jvm.Cond.instanceMethod ({ cls := "PathChecker$Knots", name := "tryStep", desc := "(II)V" } : Jvm.MethodName)) ∈ zwd := qw_of 712 (by decide +kernel) (by decide +kernel)
theorem qw_655 : (Jvm.Cond.code ({ cls := "PathChecker$Knots", name := "tryStep", desc := "(II)V" } : Jvm.MethodName) prog_3_method_6_code (5 : Nat) (Option.none : Option Jvm.ClassFile.FieldType)) ∈ zwd := qw_of 713 (by decide +kernel) (by decide +kernel)
theorem qw_656 : (Jvm.Cond.methodLink "PathChecker$Knots" (83 : Nat) ({ cls := "PathChecker$Structure", name := "joins", desc := "(II)Z" } : Jvm.MethodName)) ∈ zwd := qw_of 714 (by decide +kernel) (by decide +kernel)
theorem qw_657 : (Jvm.Cond.methodLink "PathChecker$Knots" (89 : Nat) ({ cls := "PathChecker$Graph", name := "guessBefore", desc := "(III)I" } : Jvm.MethodName)) ∈ zwd := qw_of 715 (by decide +kernel) (by decide +kernel)
theorem qw_658 : (Jvm.Cond.instanceMethod ({ cls := "PathChecker$Graph", name := "guessBefore", desc := "(III)I" } : Jvm.MethodName)) ∈ zwd := qw_of 716 (by decide +kernel) (by decide +kernel)
theorem qw_659 : (Jvm.Cond.selects "PathChecker$Graph" ({ cls := "PathChecker$Graph", name := "guessBefore", desc := "(III)I" } : Jvm.MethodName) ({ cls := "PathChecker$Graph", name := "guessBefore", desc := "(III)I" } : Jvm.MethodName)) ∈ zwd := qw_of 717 (by decide +kernel) (by decide +kernel)
theorem qw_660 : (Jvm.Cond.code ({ cls := "PathChecker$Graph", name := "guessBefore", desc := "(III)I" } : Jvm.MethodName) prog_2_method_9_code (4 : Nat) (Option.some Jvm.ClassFile.FieldType.int)) ∈ zwd := qw_of 718 (by decide +kernel) (by decide +kernel)
theorem qw_661 : (Jvm.Cond.methodLink "PathChecker$Knots" (70 : Nat) ({ cls := "java/lang/Math", name := "min", desc := "(II)I" } : Jvm.MethodName)) ∈ zwd := qw_of 719 (by decide +kernel) (by decide +kernel)
theorem qw_662 : (Jvm.Cond.static ({ cls := "java/lang/Math", name := "min", desc := "(II)I" } : Jvm.MethodName)) ∈ zwd := qw_of 720 (by decide +kernel) (by decide +kernel)
theorem qw_663 : (Jvm.Cond.code ({ cls := "java/lang/Math", name := "min", desc := "(II)I" } : Jvm.MethodName) prog_16_method_69_code (2 : Nat) (Option.some Jvm.ClassFile.FieldType.int)) ∈ zwd := qw_of 721 (by decide +kernel) (by decide +kernel)
theorem qw_664 : (Jvm.Cond.methodLink "PathChecker$Knots" (76 : Nat) ({ cls := "PathChecker$Knots", name := "release", desc := "(I)V" } : Jvm.MethodName)) ∈ zwd := qw_of 722 (by decide +kernel) (by decide +kernel)
theorem qw_666 : (Jvm.Cond.instanceMethod ({ cls := "PathChecker$Knots", name := "release", desc := "(I)V" } : Jvm.MethodName)) ∈ zwd := qw_of 724 (by decide +kernel) (by decide +kernel)
theorem qw_667 : (Jvm.Cond.code ({ cls := "PathChecker$Knots", name := "release", desc := "(I)V" } : Jvm.MethodName) prog_3_method_7_code (5 : Nat) (Option.none : Option Jvm.ClassFile.FieldType)) ∈ zwd := qw_of 725 (by decide +kernel) (by decide +kernel)
theorem qw_668 : (Jvm.Cond.methodLink "PathChecker$Knots" (93 : Nat) ({ cls := "PathChecker$Knots", name := "goesToItself", desc := "(I)Z" } : Jvm.MethodName)) ∈ zwd := qw_of 726 (by decide +kernel) (by decide +kernel)
theorem qw_670 : (Jvm.Cond.instanceMethod ({ cls := "PathChecker$Knots", name := "goesToItself", desc := "(I)Z" } : Jvm.MethodName)) ∈ zwd := qw_of 728 (by decide +kernel) (by decide +kernel)
theorem qw_671 : (Jvm.Cond.code ({ cls := "PathChecker$Knots", name := "goesToItself", desc := "(I)Z" } : Jvm.MethodName) prog_3_method_8_code (4 : Nat) (Option.some Jvm.ClassFile.FieldType.boolean)) ∈ zwd := qw_of 729 (by decide +kernel) (by decide +kernel)
theorem qw_672 : (Jvm.Cond.methodLink "PathChecker$Knots" (97 : Nat) ({ cls := "PathChecker$Knots", name := "isPrompt", desc := "()Z" } : Jvm.MethodName)) ∈ zwd := qw_of 730 (by decide +kernel) (by decide +kernel)
theorem qw_674 : (Jvm.Cond.instanceMethod ({ cls := "PathChecker$Knots", name := "isPrompt", desc := "()Z" } : Jvm.MethodName)) ∈ zwd := qw_of 732 (by decide +kernel) (by decide +kernel)
theorem qw_675 : (Jvm.Cond.code ({ cls := "PathChecker$Knots", name := "isPrompt", desc := "()Z" } : Jvm.MethodName) prog_3_method_9_code (4 : Nat) (Option.some Jvm.ClassFile.FieldType.boolean)) ∈ zwd := qw_of 733 (by decide +kernel) (by decide +kernel)
theorem qw_676 : (Jvm.Cond.methodLink "PathChecker" (170 : Nat) ({ cls := "PathChecker$Nearness", name := "measure", desc := "()V" } : Jvm.MethodName)) ∈ zwd := qw_of 734 (by decide +kernel) (by decide +kernel)
theorem qw_677 : (Jvm.Cond.instanceMethod ({ cls := "PathChecker$Nearness", name := "measure", desc := "()V" } : Jvm.MethodName)) ∈ zwd := qw_of 735 (by decide +kernel) (by decide +kernel)
theorem qw_678 : (Jvm.Cond.selects "PathChecker$Nearness" ({ cls := "PathChecker$Nearness", name := "measure", desc := "()V" } : Jvm.MethodName) ({ cls := "PathChecker$Nearness", name := "measure", desc := "()V" } : Jvm.MethodName)) ∈ zwd := qw_of 736 (by decide +kernel) (by decide +kernel)
theorem qw_679 : (Jvm.Cond.code ({ cls := "PathChecker$Nearness", name := "measure", desc := "()V" } : Jvm.MethodName) prog_4_method_2_code (3 : Nat) (Option.none : Option Jvm.ClassFile.FieldType)) ∈ zwd := qw_of 737 (by decide +kernel) (by decide +kernel)
theorem qw_680 : (Jvm.Cond.methodLink "PathChecker$Nearness" (33 : Nat) ({ cls := "PathChecker$Nearness", name := "oneStepMore", desc := "([III)I" } : Jvm.MethodName)) ∈ zwd := qw_of 738 (by decide +kernel) (by decide +kernel)
theorem qw_682 : (Jvm.Cond.instanceMethod ({ cls := "PathChecker$Nearness", name := "oneStepMore", desc := "([III)I" } : Jvm.MethodName)) ∈ zwd := qw_of 740 (by decide +kernel) (by decide +kernel)
theorem qw_683 : (Jvm.Cond.code ({ cls := "PathChecker$Nearness", name := "oneStepMore", desc := "([III)I" } : Jvm.MethodName) prog_4_method_4_code (6 : Nat) (Option.some Jvm.ClassFile.FieldType.int)) ∈ zwd := qw_of 741 (by decide +kernel) (by decide +kernel)
theorem qw_684 : (Jvm.Cond.methodLink "PathChecker$Nearness" (47 : Nat) ({ cls := "PathChecker$Structure", name := "joins", desc := "(II)Z" } : Jvm.MethodName)) ∈ zwd := qw_of 742 (by decide +kernel) (by decide +kernel)
theorem qw_685 : (Jvm.Cond.methodLink "PathChecker$Nearness" (53 : Nat) ({ cls := "PathChecker$Graph", name := "guessesBefore", desc := "(III)I" } : Jvm.MethodName)) ∈ zwd := qw_of 743 (by decide +kernel) (by decide +kernel)
theorem qw_686 : (Jvm.Cond.instanceMethod ({ cls := "PathChecker$Graph", name := "guessesBefore", desc := "(III)I" } : Jvm.MethodName)) ∈ zwd := qw_of 744 (by decide +kernel) (by decide +kernel)
theorem qw_687 : (Jvm.Cond.selects "PathChecker$Graph" ({ cls := "PathChecker$Graph", name := "guessesBefore", desc := "(III)I" } : Jvm.MethodName) ({ cls := "PathChecker$Graph", name := "guessesBefore", desc := "(III)I" } : Jvm.MethodName)) ∈ zwd := qw_of 745 (by decide +kernel) (by decide +kernel)
theorem qw_688 : (Jvm.Cond.code ({ cls := "PathChecker$Graph", name := "guessesBefore", desc := "(III)I" } : Jvm.MethodName) prog_2_method_10_code (6 : Nat) (Option.some Jvm.ClassFile.FieldType.int)) ∈ zwd := qw_of 746 (by decide +kernel) (by decide +kernel)
theorem qw_689 : (Jvm.Cond.methodLink "PathChecker$Graph" (100 : Nat) ({ cls := "PathChecker$Graph", name := "guessBefore", desc := "(III)I" } : Jvm.MethodName)) ∈ zwd := qw_of 747 (by decide +kernel) (by decide +kernel)
theorem qw_690 : (Jvm.Cond.methodLink "PathChecker$Nearness" (37 : Nat) ({ cls := "PathChecker$Nearness", name := "growReaching", desc := "()Z" } : Jvm.MethodName)) ∈ zwd := qw_of 748 (by decide +kernel) (by decide +kernel)
theorem qw_692 : (Jvm.Cond.instanceMethod ({ cls := "PathChecker$Nearness", name := "growReaching", desc := "()Z" } : Jvm.MethodName)) ∈ zwd := qw_of 750 (by decide +kernel) (by decide +kernel)
theorem qw_693 : (Jvm.Cond.code ({ cls := "PathChecker$Nearness", name := "growReaching", desc := "()Z" } : Jvm.MethodName) prog_4_method_3_code (4 : Nat) (Option.some Jvm.ClassFile.FieldType.boolean)) ∈ zwd := qw_of 751 (by decide +kernel) (by decide +kernel)
theorem qw_694 : (Jvm.Cond.methodLink "PathChecker" (173 : Nat) ({ cls := "PathChecker$Search", name := "forget", desc := "()V" } : Jvm.MethodName)) ∈ zwd := qw_of 752 (by decide +kernel) (by decide +kernel)
theorem qw_695 : (Jvm.Cond.instanceMethod ({ cls := "PathChecker$Search", name := "forget", desc := "()V" } : Jvm.MethodName)) ∈ zwd := qw_of 753 (by decide +kernel) (by decide +kernel)
theorem qw_696 : (Jvm.Cond.selects "PathChecker$Search" ({ cls := "PathChecker$Search", name := "forget", desc := "()V" } : Jvm.MethodName) ({ cls := "PathChecker$Search", name := "forget", desc := "()V" } : Jvm.MethodName)) ∈ zwd := qw_of 754 (by decide +kernel) (by decide +kernel)
theorem qw_697 : (Jvm.Cond.code ({ cls := "PathChecker$Search", name := "forget", desc := "()V" } : Jvm.MethodName) prog_8_method_2_code (1 : Nat) (Option.none : Option Jvm.ClassFile.FieldType)) ∈ zwd := qw_of 755 (by decide +kernel) (by decide +kernel)
theorem qw_698 : (Jvm.Cond.methodLink "PathChecker" (135 : Nat) ({ cls := "PathChecker$Nearness", name := "statesWithPath", desc := "(Z)I" } : Jvm.MethodName)) ∈ zwd := qw_of 756 (by decide +kernel) (by decide +kernel)
theorem qw_699 : (Jvm.Cond.instanceMethod ({ cls := "PathChecker$Nearness", name := "statesWithPath", desc := "(Z)I" } : Jvm.MethodName)) ∈ zwd := qw_of 757 (by decide +kernel) (by decide +kernel)
theorem qw_700 : (Jvm.Cond.selects "PathChecker$Nearness" ({ cls := "PathChecker$Nearness", name := "statesWithPath", desc := "(Z)I" } : Jvm.MethodName) ({ cls := "PathChecker$Nearness", name := "statesWithPath", desc := "(Z)I" } : Jvm.MethodName)) ∈ zwd := qw_of 758 (by decide +kernel) (by decide +kernel)
theorem qw_701 : (Jvm.Cond.code ({ cls := "PathChecker$Nearness", name := "statesWithPath", desc := "(Z)I" } : Jvm.MethodName) prog_4_method_6_code (5 : Nat) (Option.some Jvm.ClassFile.FieldType.int)) ∈ zwd := qw_of 759 (by decide +kernel) (by decide +kernel)
theorem qw_702 : (Jvm.Cond.methodLink "PathCheckerLaw" (95 : Nat) ({ cls := "PathCheckerLaw", name := "breaking", desc := "(LPathChecker;[J)I" } : Jvm.MethodName)) ∈ zwd := qw_of 760 (by decide +kernel) (by decide +kernel)
theorem qw_703 : (Jvm.Cond.static ({ cls := "PathCheckerLaw", name := "breaking", desc := "(LPathChecker;[J)I" } : Jvm.MethodName)) ∈ zwd := qw_of 761 (by decide +kernel) (by decide +kernel)
theorem qw_705 : (Jvm.Cond.methodLink "PathCheckerLaw" (29 : Nat) ({ cls := "PathChecker", name := "breaking", desc := "()I" } : Jvm.MethodName)) ∈ zwd := qw_of 763 (by decide +kernel) (by decide +kernel)
theorem qw_706 : (Jvm.Cond.instanceMethod ({ cls := "PathChecker", name := "breaking", desc := "()I" } : Jvm.MethodName)) ∈ zwd := qw_of 764 (by decide +kernel) (by decide +kernel)
theorem qw_707 : (Jvm.Cond.selects "PathChecker" ({ cls := "PathChecker", name := "breaking", desc := "()I" } : Jvm.MethodName) ({ cls := "PathChecker", name := "breaking", desc := "()I" } : Jvm.MethodName)) ∈ zwd := qw_of 765 (by decide +kernel) (by decide +kernel)
theorem qw_708 : (Jvm.Cond.code ({ cls := "PathChecker", name := "breaking", desc := "()I" } : Jvm.MethodName) prog_1_method_12_code (1 : Nat) (Option.some Jvm.ClassFile.FieldType.int)) ∈ zwd := qw_of 766 (by decide +kernel) (by decide +kernel)
theorem qw_709 : (Jvm.Cond.methodLink "PathCheckerLaw" (98 : Nat) ({ cls := "PathCheckerLaw", name := "keeping", desc := "(LPathChecker;[J)I" } : Jvm.MethodName)) ∈ zwd := qw_of 767 (by decide +kernel) (by decide +kernel)
theorem qw_710 : (Jvm.Cond.static ({ cls := "PathCheckerLaw", name := "keeping", desc := "(LPathChecker;[J)I" } : Jvm.MethodName)) ∈ zwd := qw_of 768 (by decide +kernel) (by decide +kernel)
theorem qw_712 : (Jvm.Cond.methodLink "PathCheckerLaw" (32 : Nat) ({ cls := "PathChecker", name := "keeping", desc := "()I" } : Jvm.MethodName)) ∈ zwd := qw_of 770 (by decide +kernel) (by decide +kernel)
theorem qw_713 : (Jvm.Cond.instanceMethod ({ cls := "PathChecker", name := "keeping", desc := "()I" } : Jvm.MethodName)) ∈ zwd := qw_of 771 (by decide +kernel) (by decide +kernel)
theorem qw_714 : (Jvm.Cond.selects "PathChecker" ({ cls := "PathChecker", name := "keeping", desc := "()I" } : Jvm.MethodName) ({ cls := "PathChecker", name := "keeping", desc := "()I" } : Jvm.MethodName)) ∈ zwd := qw_of 772 (by decide +kernel) (by decide +kernel)
theorem qw_715 : (Jvm.Cond.code ({ cls := "PathChecker", name := "keeping", desc := "()I" } : Jvm.MethodName) prog_1_method_13_code (1 : Nat) (Option.some Jvm.ClassFile.FieldType.int)) ∈ zwd := qw_of 773 (by decide +kernel) (by decide +kernel)
theorem qw_716 : (Jvm.Cond.methodLink "PathCheckerLaw" (101 : Nat) ({ cls := "PathCheckerLaw", name := "witness", desc := "(LPathChecker;II[J)I" } : Jvm.MethodName)) ∈ zwd := qw_of 774 (by decide +kernel) (by decide +kernel)
theorem qw_717 : (Jvm.Cond.static ({ cls := "PathCheckerLaw", name := "witness", desc := "(LPathChecker;II[J)I" } : Jvm.MethodName)) ∈ zwd := qw_of 775 (by decide +kernel) (by decide +kernel)
theorem qw_719 : (Jvm.Cond.methodLink "PathCheckerLaw" (35 : Nat) ({ cls := "PathChecker", name := "witness", desc := "(II)I" } : Jvm.MethodName)) ∈ zwd := qw_of 777 (by decide +kernel) (by decide +kernel)
theorem qw_720 : (Jvm.Cond.instanceMethod ({ cls := "PathChecker", name := "witness", desc := "(II)I" } : Jvm.MethodName)) ∈ zwd := qw_of 778 (by decide +kernel) (by decide +kernel)
theorem qw_721 : (Jvm.Cond.selects "PathChecker" ({ cls := "PathChecker", name := "witness", desc := "(II)I" } : Jvm.MethodName) ({ cls := "PathChecker", name := "witness", desc := "(II)I" } : Jvm.MethodName)) ∈ zwd := qw_of 779 (by decide +kernel) (by decide +kernel)
theorem qw_722 : (Jvm.Cond.code ({ cls := "PathChecker", name := "witness", desc := "(II)I" } : Jvm.MethodName) prog_1_method_14_code (3 : Nat) (Option.some Jvm.ClassFile.FieldType.int)) ∈ zwd := qw_of 780 (by decide +kernel) (by decide +kernel)
theorem qw_723 : (Jvm.Cond.methodLink "PathChecker" (138 : Nat) ({ cls := "PathChecker$Search", name := "lookFrom", desc := "(I)V" } : Jvm.MethodName)) ∈ zwd := qw_of 781 (by decide +kernel) (by decide +kernel)
theorem qw_724 : (Jvm.Cond.instanceMethod ({ cls := "PathChecker$Search", name := "lookFrom", desc := "(I)V" } : Jvm.MethodName)) ∈ zwd := qw_of 782 (by decide +kernel) (by decide +kernel)
theorem qw_725 : (Jvm.Cond.selects "PathChecker$Search" ({ cls := "PathChecker$Search", name := "lookFrom", desc := "(I)V" } : Jvm.MethodName) ({ cls := "PathChecker$Search", name := "lookFrom", desc := "(I)V" } : Jvm.MethodName)) ∈ zwd := qw_of 783 (by decide +kernel) (by decide +kernel)
theorem qw_726 : (Jvm.Cond.code ({ cls := "PathChecker$Search", name := "lookFrom", desc := "(I)V" } : Jvm.MethodName) prog_8_method_3_code (3 : Nat) (Option.none : Option Jvm.ClassFile.FieldType)) ∈ zwd := qw_of 784 (by decide +kernel) (by decide +kernel)
theorem qw_727 : (Jvm.Cond.methodLink "PathChecker$Search" (49 : Nat) ({ cls := "PathChecker$Nearness", name := "within", desc := "(II)I" } : Jvm.MethodName)) ∈ zwd := qw_of 785 (by decide +kernel) (by decide +kernel)
theorem qw_728 : (Jvm.Cond.instanceMethod ({ cls := "PathChecker$Nearness", name := "within", desc := "(II)I" } : Jvm.MethodName)) ∈ zwd := qw_of 786 (by decide +kernel) (by decide +kernel)
theorem qw_729 : (Jvm.Cond.selects "PathChecker$Nearness" ({ cls := "PathChecker$Nearness", name := "within", desc := "(II)I" } : Jvm.MethodName) ({ cls := "PathChecker$Nearness", name := "within", desc := "(II)I" } : Jvm.MethodName)) ∈ zwd := qw_of 787 (by decide +kernel) (by decide +kernel)
theorem qw_730 : (Jvm.Cond.code ({ cls := "PathChecker$Nearness", name := "within", desc := "(II)I" } : Jvm.MethodName) prog_4_method_5_code (3 : Nat) (Option.some Jvm.ClassFile.FieldType.int)) ∈ zwd := qw_of 788 (by decide +kernel) (by decide +kernel)
theorem qw_731 : (Jvm.Cond.methodLink "PathChecker$Search" (58 : Nat) ({ cls := "PathChecker$Search", name := "extend", desc := "(I)V" } : Jvm.MethodName)) ∈ zwd := qw_of 789 (by decide +kernel) (by decide +kernel)
theorem qw_733 : (Jvm.Cond.instanceMethod ({ cls := "PathChecker$Search", name := "extend", desc := "(I)V" } : Jvm.MethodName)) ∈ zwd := qw_of 791 (by decide +kernel) (by decide +kernel)
theorem qw_734 : (Jvm.Cond.code ({ cls := "PathChecker$Search", name := "extend", desc := "(I)V" } : Jvm.MethodName) prog_8_method_4_code (6 : Nat) (Option.none : Option Jvm.ClassFile.FieldType)) ∈ zwd := qw_of 792 (by decide +kernel) (by decide +kernel)
theorem qw_735 : (Jvm.Cond.methodLink "PathChecker$Search" (61 : Nat) ({ cls := "PathChecker$Search", name := "closeLoop", desc := "(I)V" } : Jvm.MethodName)) ∈ zwd := qw_of 793 (by decide +kernel) (by decide +kernel)
theorem qw_737 : (Jvm.Cond.instanceMethod ({ cls := "PathChecker$Search", name := "closeLoop", desc := "(I)V" } : Jvm.MethodName)) ∈ zwd := qw_of 795 (by decide +kernel) (by decide +kernel)
theorem qw_738 : (Jvm.Cond.code ({ cls := "PathChecker$Search", name := "closeLoop", desc := "(I)V" } : Jvm.MethodName) prog_8_method_5_code (3 : Nat) (Option.none : Option Jvm.ClassFile.FieldType)) ∈ zwd := qw_of 796 (by decide +kernel) (by decide +kernel)
theorem qw_739 : (Jvm.Cond.methodLink "PathChecker$Search" (78 : Nat) ({ cls := "PathChecker$Search", name := "mayGoOnAt", desc := "(II)Z" } : Jvm.MethodName)) ∈ zwd := qw_of 797 (by decide +kernel) (by decide +kernel)
theorem qw_741 : (Jvm.Cond.instanceMethod ({ cls := "PathChecker$Search", name := "mayGoOnAt", desc := "(II)Z" } : Jvm.MethodName)) ∈ zwd := qw_of 799 (by decide +kernel) (by decide +kernel)
theorem qw_742 : (Jvm.Cond.code ({ cls := "PathChecker$Search", name := "mayGoOnAt", desc := "(II)Z" } : Jvm.MethodName) prog_8_method_6_code (5 : Nat) (Option.some Jvm.ClassFile.FieldType.boolean)) ∈ zwd := qw_of 800 (by decide +kernel) (by decide +kernel)
theorem qw_743 : (Jvm.Cond.methodLink "PathChecker$Search" (68 : Nat) ({ cls := "PathChecker$Structure", name := "joins", desc := "(II)Z" } : Jvm.MethodName)) ∈ zwd := qw_of 801 (by decide +kernel) (by decide +kernel)
theorem qw_744 : (Jvm.Cond.methodLink "PathChecker$Search" (74 : Nat) ({ cls := "PathChecker$Graph", name := "guessesAfter", desc := "(IIII)I" } : Jvm.MethodName)) ∈ zwd := qw_of 802 (by decide +kernel) (by decide +kernel)
theorem qw_745 : (Jvm.Cond.instanceMethod ({ cls := "PathChecker$Graph", name := "guessesAfter", desc := "(IIII)I" } : Jvm.MethodName)) ∈ zwd := qw_of 803 (by decide +kernel) (by decide +kernel)
theorem qw_746 : (Jvm.Cond.selects "PathChecker$Graph" ({ cls := "PathChecker$Graph", name := "guessesAfter", desc := "(IIII)I" } : Jvm.MethodName) ({ cls := "PathChecker$Graph", name := "guessesAfter", desc := "(IIII)I" } : Jvm.MethodName)) ∈ zwd := qw_of 804 (by decide +kernel) (by decide +kernel)
theorem qw_747 : (Jvm.Cond.code ({ cls := "PathChecker$Graph", name := "guessesAfter", desc := "(IIII)I" } : Jvm.MethodName) prog_2_method_11_code (8 : Nat) (Option.some Jvm.ClassFile.FieldType.int)) ∈ zwd := qw_of 805 (by decide +kernel) (by decide +kernel)
theorem qw_748 : (Jvm.Cond.methodLink "PathChecker$Search" (85 : Nat) ({ cls := "PathChecker$Path", name := "placesOf", desc := "(LPathChecker$NormalForm;LPathChecker$Structure;I)I" } : Jvm.MethodName)) ∈ zwd := qw_of 806 (by decide +kernel) (by decide +kernel)
theorem qw_749 : (Jvm.Cond.instanceMethod ({ cls := "PathChecker$Path", name := "placesOf", desc := "(LPathChecker$NormalForm;LPathChecker$Structure;I)I" } : Jvm.MethodName)) ∈ zwd := qw_of 807 (by decide +kernel) (by decide +kernel)
theorem qw_750 : (Jvm.Cond.selects "PathChecker$Path" ({ cls := "PathChecker$Path", name := "placesOf", desc := "(LPathChecker$NormalForm;LPathChecker$Structure;I)I" } : Jvm.MethodName) ({ cls := "PathChecker$Path", name := "placesOf", desc := "(LPathChecker$NormalForm;LPathChecker$Structure;I)I" } : Jvm.MethodName)) ∈ zwd := qw_of 808 (by decide +kernel) (by decide +kernel)
theorem qw_751 : (Jvm.Cond.code ({ cls := "PathChecker$Path", name := "placesOf", desc := "(LPathChecker$NormalForm;LPathChecker$Structure;I)I" } : Jvm.MethodName) prog_6_method_4_code (8 : Nat) (Option.some Jvm.ClassFile.FieldType.int)) ∈ zwd := qw_of 809 (by decide +kernel) (by decide +kernel)
theorem qw_752 : (Jvm.Cond.methodLink "PathChecker$Path" (40 : Nat) ({ cls := "PathChecker$Path", name := "placesBefore", desc := "(II)I" } : Jvm.MethodName)) ∈ zwd := qw_of 810 (by decide +kernel) (by decide +kernel)
theorem qw_754 : (Jvm.Cond.instanceMethod ({ cls := "PathChecker$Path", name := "placesBefore", desc := "(II)I" } : Jvm.MethodName)) ∈ zwd := qw_of 812 (by decide +kernel) (by decide +kernel)
theorem qw_755 : (Jvm.Cond.code ({ cls := "PathChecker$Path", name := "placesBefore", desc := "(II)I" } : Jvm.MethodName) prog_6_method_7_code (3 : Nat) (Option.some Jvm.ClassFile.FieldType.int)) ∈ zwd := qw_of 813 (by decide +kernel) (by decide +kernel)
theorem qw_756 : (Jvm.Cond.methodLink "PathChecker$Path" (44 : Nat) ({ cls := "PathChecker$Path", name := "placesOfUntil", desc := "(III)I" } : Jvm.MethodName)) ∈ zwd := qw_of 814 (by decide +kernel) (by decide +kernel)
theorem qw_758 : (Jvm.Cond.instanceMethod ({ cls := "PathChecker$Path", name := "placesOfUntil", desc := "(III)I" } : Jvm.MethodName)) ∈ zwd := qw_of 816 (by decide +kernel) (by decide +kernel)
theorem qw_759 : (Jvm.Cond.code ({ cls := "PathChecker$Path", name := "placesOfUntil", desc := "(III)I" } : Jvm.MethodName) prog_6_method_5_code (6 : Nat) (Option.some Jvm.ClassFile.FieldType.int)) ∈ zwd := qw_of 817 (by decide +kernel) (by decide +kernel)
theorem qw_760 : (Jvm.Cond.methodLink "PathChecker$Path" (48 : Nat) ({ cls := "PathChecker$Path", name := "placesOfRelease", desc := "(III)I" } : Jvm.MethodName)) ∈ zwd := qw_of 818 (by decide +kernel) (by decide +kernel)
theorem qw_762 : (Jvm.Cond.instanceMethod ({ cls := "PathChecker$Path", name := "placesOfRelease", desc := "(III)I" } : Jvm.MethodName)) ∈ zwd := qw_of 820 (by decide +kernel) (by decide +kernel)
theorem qw_763 : (Jvm.Cond.code ({ cls := "PathChecker$Path", name := "placesOfRelease", desc := "(III)I" } : Jvm.MethodName) prog_6_method_6_code (6 : Nat) (Option.some Jvm.ClassFile.FieldType.int)) ∈ zwd := qw_of 821 (by decide +kernel) (by decide +kernel)
theorem qw_764 : (Jvm.Cond.methodLink "PathChecker$Path" (51 : Nat) ({ cls := "PathChecker$Path", name := "placesOfLeaf", desc := "(CLPathChecker$Structure;)I" } : Jvm.MethodName)) ∈ zwd := qw_of 822 (by decide +kernel) (by decide +kernel)
theorem qw_766 : (Jvm.Cond.instanceMethod ({ cls := "PathChecker$Path", name := "placesOfLeaf", desc := "(CLPathChecker$Structure;)I" } : Jvm.MethodName)) ∈ zwd := qw_of 824 (by decide +kernel) (by decide +kernel)
theorem qw_767 : (Jvm.Cond.code ({ cls := "PathChecker$Path", name := "placesOfLeaf", desc := "(CLPathChecker$Structure;)I" } : Jvm.MethodName) prog_6_method_8_code (5 : Nat) (Option.some Jvm.ClassFile.FieldType.int)) ∈ zwd := qw_of 825 (by decide +kernel) (by decide +kernel)
theorem qw_768 : (Jvm.Cond.methodLink "PathChecker$Path" (58 : Nat) ({ cls := "PathChecker$NormalForm", name := "leafHolds", desc := "(CI)Z" } : Jvm.MethodName)) ∈ zwd := qw_of 826 (by decide +kernel) (by decide +kernel)
theorem qw_769 : (Jvm.Cond.methodLink "PathChecker" (150 : Nat) ({ cls := "PathChecker$Path", name := "hasPlace", desc := "(I)Z" } : Jvm.MethodName)) ∈ zwd := qw_of 827 (by decide +kernel) (by decide +kernel)
theorem qw_770 : (Jvm.Cond.instanceMethod ({ cls := "PathChecker$Path", name := "hasPlace", desc := "(I)Z" } : Jvm.MethodName)) ∈ zwd := qw_of 828 (by decide +kernel) (by decide +kernel)
theorem qw_771 : (Jvm.Cond.selects "PathChecker$Path" ({ cls := "PathChecker$Path", name := "hasPlace", desc := "(I)Z" } : Jvm.MethodName) ({ cls := "PathChecker$Path", name := "hasPlace", desc := "(I)Z" } : Jvm.MethodName)) ∈ zwd := qw_of 829 (by decide +kernel) (by decide +kernel)
theorem qw_772 : (Jvm.Cond.code ({ cls := "PathChecker$Path", name := "hasPlace", desc := "(I)Z" } : Jvm.MethodName) prog_6_method_2_code (2 : Nat) (Option.some Jvm.ClassFile.FieldType.boolean)) ∈ zwd := qw_of 830 (by decide +kernel) (by decide +kernel)
theorem qw_773 : (Jvm.Cond.methodLink "PathCheckerLaw" (113 : Nat) ({ cls := "PathCheckerLaw", name := "judge", desc := "(LPathChecker;II[J)I" } : Jvm.MethodName)) ∈ zwd := qw_of 831 (by decide +kernel) (by decide +kernel)
theorem qw_774 : (Jvm.Cond.static ({ cls := "PathCheckerLaw", name := "judge", desc := "(LPathChecker;II[J)I" } : Jvm.MethodName)) ∈ zwd := qw_of 832 (by decide +kernel) (by decide +kernel)
theorem qw_776 : (Jvm.Cond.methodLink "PathCheckerLaw" (39 : Nat) ({ cls := "PathChecker", name := "judge", desc := "(II)Z" } : Jvm.MethodName)) ∈ zwd := qw_of 834 (by decide +kernel) (by decide +kernel)
theorem qw_777 : (Jvm.Cond.instanceMethod ({ cls := "PathChecker", name := "judge", desc := "(II)Z" } : Jvm.MethodName)) ∈ zwd := qw_of 835 (by decide +kernel) (by decide +kernel)
theorem qw_778 : (Jvm.Cond.selects "PathChecker" ({ cls := "PathChecker", name := "judge", desc := "(II)Z" } : Jvm.MethodName) ({ cls := "PathChecker", name := "judge", desc := "(II)Z" } : Jvm.MethodName)) ∈ zwd := qw_of 836 (by decide +kernel) (by decide +kernel)
theorem qw_779 : (Jvm.Cond.code ({ cls := "PathChecker", name := "judge", desc := "(II)Z" } : Jvm.MethodName) prog_1_method_17_code (3 : Nat) (Option.some Jvm.ClassFile.FieldType.boolean)) ∈ zwd := qw_of 837 (by decide +kernel) (by decide +kernel)
theorem qw_780 : (Jvm.Cond.methodLink "PathChecker" (156 : Nat) ({ cls := "PathChecker$Path", name := "isLinked", desc := "(LPathChecker$Structure;I)Z" } : Jvm.MethodName)) ∈ zwd := qw_of 838 (by decide +kernel) (by decide +kernel)
theorem qw_781 : (Jvm.Cond.instanceMethod ({ cls := "PathChecker$Path", name := "isLinked", desc := "(LPathChecker$Structure;I)Z" } : Jvm.MethodName)) ∈ zwd := qw_of 839 (by decide +kernel) (by decide +kernel)
theorem qw_782 : (Jvm.Cond.selects "PathChecker$Path" ({ cls := "PathChecker$Path", name := "isLinked", desc := "(LPathChecker$Structure;I)Z" } : Jvm.MethodName) ({ cls := "PathChecker$Path", name := "isLinked", desc := "(LPathChecker$Structure;I)Z" } : Jvm.MethodName)) ∈ zwd := qw_of 840 (by decide +kernel) (by decide +kernel)
theorem qw_783 : (Jvm.Cond.code ({ cls := "PathChecker$Path", name := "isLinked", desc := "(LPathChecker$Structure;I)Z" } : Jvm.MethodName) prog_6_method_3_code (5 : Nat) (Option.some Jvm.ClassFile.FieldType.boolean)) ∈ zwd := qw_of 841 (by decide +kernel) (by decide +kernel)
theorem qw_784 : (Jvm.Cond.methodLink "PathChecker$Path" (22 : Nat) ({ cls := "PathChecker$Structure", name := "joins", desc := "(II)Z" } : Jvm.MethodName)) ∈ zwd := qw_of 842 (by decide +kernel) (by decide +kernel)
theorem qw_785 : (Jvm.Cond.methodLink "PathChecker" (160 : Nat) ({ cls := "PathChecker$Path", name := "placesOf", desc := "(LPathChecker$NormalForm;LPathChecker$Structure;I)I" } : Jvm.MethodName)) ∈ zwd := qw_of 843 (by decide +kernel) (by decide +kernel)
theorem qw_790 : (Jvm.Cond.code ({ cls := "PathCheckerModel", name := "<init>", desc := "()V" } : Jvm.MethodName) prog_11_method_1_code (1 : Nat) (Option.none : Option Jvm.ClassFile.FieldType)) ∈ zwd := qw_of 848 (by decide +kernel) (by decide +kernel)
theorem qw_792 : (Jvm.Cond.fieldLink "PathCheckerModel" (93 : Nat) "PathCheckerModel" "thrown" "I") ∈ zwd := qw_of 850 (by decide +kernel) (by decide +kernel)
theorem qw_793 : (Jvm.Cond.fieldLink "PathCheckerModel" (97 : Nat) "PathCheckerModel" "length" "I") ∈ zwd := qw_of 851 (by decide +kernel) (by decide +kernel)
theorem qw_794 : (Jvm.Cond.fieldLink "PathCheckerModel" (7 : Nat) "PathCheckerModel" "text" "[I") ∈ zwd := qw_of 852 (by decide +kernel) (by decide +kernel)
theorem qw_795 : (Jvm.Cond.fieldLink "PathCheckerModel" (151 : Nat) "PathCheckerModel" "loaded" "Z") ∈ zwd := qw_of 853 (by decide +kernel) (by decide +kernel)
theorem qw_796 : (Jvm.Cond.fieldLink "PathCheckerModel" (145 : Nat) "PathCheckerModel" "nodes" "I") ∈ zwd := qw_of 854 (by decide +kernel) (by decide +kernel)
theorem qw_797 : (Jvm.Cond.fieldLink "PathCheckerModel" (13 : Nat) "PathCheckerModel" "kind" "[I") ∈ zwd := qw_of 855 (by decide +kernel) (by decide +kernel)
theorem qw_798 : (Jvm.Cond.fieldLink "PathCheckerModel" (16 : Nat) "PathCheckerModel" "left" "[I") ∈ zwd := qw_of 856 (by decide +kernel) (by decide +kernel)
theorem qw_799 : (Jvm.Cond.fieldLink "PathCheckerModel" (19 : Nat) "PathCheckerModel" "right" "[I") ∈ zwd := qw_of 857 (by decide +kernel) (by decide +kernel)
theorem qw_800 : (Jvm.Cond.fieldLink "PathCheckerModel" (22 : Nat) "PathCheckerModel" "bitOf" "[I") ∈ zwd := qw_of 858 (by decide +kernel) (by decide +kernel)
theorem qw_801 : (Jvm.Cond.fieldLink "PathCheckerModel" (148 : Nat) "PathCheckerModel" "timed" "I") ∈ zwd := qw_of 859 (by decide +kernel) (by decide +kernel)
theorem qw_802 : (Jvm.Cond.fieldLink "PathCheckerModel" (104 : Nat) "PathCheckerModel" "made" "I") ∈ zwd := qw_of 860 (by decide +kernel) (by decide +kernel)
theorem qw_803 : (Jvm.Cond.fieldLink "PathCheckerModel" (25 : Nat) "PathCheckerModel" "newKind" "[I") ∈ zwd := qw_of 861 (by decide +kernel) (by decide +kernel)
theorem qw_804 : (Jvm.Cond.fieldLink "PathCheckerModel" (28 : Nat) "PathCheckerModel" "newLeft" "[I") ∈ zwd := qw_of 862 (by decide +kernel) (by decide +kernel)
theorem qw_805 : (Jvm.Cond.fieldLink "PathCheckerModel" (31 : Nat) "PathCheckerModel" "newRight" "[I") ∈ zwd := qw_of 863 (by decide +kernel) (by decide +kernel)
theorem qw_806 : (Jvm.Cond.fieldLink "PathCheckerModel" (107 : Nat) "PathCheckerModel" "operands" "I") ∈ zwd := qw_of 864 (by decide +kernel) (by decide +kernel)
theorem qw_807 : (Jvm.Cond.fieldLink "PathCheckerModel" (34 : Nat) "PathCheckerModel" "operand" "[I") ∈ zwd := qw_of 865 (by decide +kernel) (by decide +kernel)
theorem qw_808 : (Jvm.Cond.fieldLink "PathCheckerModel" (110 : Nat) "PathCheckerModel" "waiting" "I") ∈ zwd := qw_of 866 (by decide +kernel) (by decide +kernel)
theorem qw_809 : (Jvm.Cond.fieldLink "PathCheckerModel" (37 : Nat) "PathCheckerModel" "operator" "[I") ∈ zwd := qw_of 867 (by decide +kernel) (by decide +kernel)
theorem qw_810 : (Jvm.Cond.fieldLink "PathCheckerModel" (124 : Nat) "PathCheckerModel" "deepest" "I") ∈ zwd := qw_of 868 (by decide +kernel) (by decide +kernel)
theorem qw_811 : (Jvm.Cond.fieldLink "PathCheckerModel" (161 : Nat) "PathCheckerModel" "normals" "I") ∈ zwd := qw_of 869 (by decide +kernel) (by decide +kernel)
theorem qw_812 : (Jvm.Cond.fieldLink "PathCheckerModel" (40 : Nat) "PathCheckerModel" "normalForm" "[I") ∈ zwd := qw_of 870 (by decide +kernel) (by decide +kernel)
theorem qw_813 : (Jvm.Cond.fieldLink "PathCheckerModel" (43 : Nat) "PathCheckerModel" "marks" "[I") ∈ zwd := qw_of 871 (by decide +kernel) (by decide +kernel)
theorem qw_814 : (Jvm.Cond.fieldLink "PathCheckerModel" (46 : Nat) "PathCheckerModel" "links" "[Z") ∈ zwd := qw_of 872 (by decide +kernel) (by decide +kernel)
theorem qw_815 : (Jvm.Cond.fieldLink "PathCheckerModel" (226 : Nat) "PathCheckerModel" "rows" "I") ∈ zwd := qw_of 873 (by decide +kernel) (by decide +kernel)
theorem qw_816 : (Jvm.Cond.fieldLink "PathCheckerModel" (50 : Nat) "PathCheckerModel" "row" "[I") ∈ zwd := qw_of 874 (by decide +kernel) (by decide +kernel)
theorem qw_817 : (Jvm.Cond.fieldLink "PathCheckerModel" (171 : Nat) "PathCheckerModel" "known" "Z") ∈ zwd := qw_of 875 (by decide +kernel) (by decide +kernel)
theorem qw_818 : (Jvm.Cond.fieldLink "PathCheckerModel" (53 : Nat) "PathCheckerModel" "before" "[I") ∈ zwd := qw_of 876 (by decide +kernel) (by decide +kernel)
theorem qw_819 : (Jvm.Cond.fieldLink "PathCheckerModel" (56 : Nat) "PathCheckerModel" "top" "[Z") ∈ zwd := qw_of 877 (by decide +kernel) (by decide +kernel)
theorem qw_820 : (Jvm.Cond.fieldLink "PathCheckerModel" (59 : Nat) "PathCheckerModel" "value" "[Z") ∈ zwd := qw_of 878 (by decide +kernel) (by decide +kernel)
theorem qw_821 : (Jvm.Cond.fieldLink "PathCheckerModel" (62 : Nat) "PathCheckerModel" "fair" "[J") ∈ zwd := qw_of 879 (by decide +kernel) (by decide +kernel)
theorem qw_822 : (Jvm.Cond.fieldLink "PathCheckerModel" (66 : Nat) "PathCheckerModel" "good" "[J") ∈ zwd := qw_of 880 (by decide +kernel) (by decide +kernel)
theorem qw_823 : (Jvm.Cond.fieldLink "PathCheckerModel" (69 : Nat) "PathCheckerModel" "reach" "[J") ∈ zwd := qw_of 881 (by decide +kernel) (by decide +kernel)
theorem qw_824 : (Jvm.Cond.fieldLink "PathCheckerModel" (72 : Nat) "PathCheckerModel" "back" "[J") ∈ zwd := qw_of 882 (by decide +kernel) (by decide +kernel)
theorem qw_825 : (Jvm.Cond.fieldLink "PathCheckerModel" (75 : Nat) "PathCheckerModel" "goal" "[J") ∈ zwd := qw_of 883 (by decide +kernel) (by decide +kernel)
theorem qw_826 : (Jvm.Cond.fieldLink "PathCheckerModel" (208 : Nat) "PathCheckerModel" "size" "I") ∈ zwd := qw_of 884 (by decide +kernel) (by decide +kernel)
theorem qw_827 : (Jvm.Cond.fieldLink "PathCheckerModel" (211 : Nat) "PathCheckerModel" "turn" "I") ∈ zwd := qw_of 885 (by decide +kernel) (by decide +kernel)
theorem qw_828 : (Jvm.Cond.fieldLink "PathCheckerModel" (78 : Nat) "PathCheckerModel" "lasso" "[I") ∈ zwd := qw_of 886 (by decide +kernel) (by decide +kernel)
theorem qw_829 : (Jvm.Cond.fieldLink "PathCheckerModel" (81 : Nat) "PathCheckerModel" "at" "[Z") ∈ zwd := qw_of 887 (by decide +kernel) (by decide +kernel)
theorem qw_830 : (Jvm.Cond.fieldLink "PathCheckerModel" (84 : Nat) "PathCheckerModel" "foundSize" "[I") ∈ zwd := qw_of 888 (by decide +kernel) (by decide +kernel)
theorem qw_831 : (Jvm.Cond.fieldLink "PathCheckerModel" (87 : Nat) "PathCheckerModel" "foundTurn" "[I") ∈ zwd := qw_of 889 (by decide +kernel) (by decide +kernel)
theorem qw_832 : (Jvm.Cond.fieldLink "PathCheckerModel" (90 : Nat) "PathCheckerModel" "found" "[I") ∈ zwd := qw_of 890 (by decide +kernel) (by decide +kernel)
theorem qw_833 : (Jvm.Cond.lays "PathCheckerModel" "PathCheckerModel" "thrown" "I") ∈ zwd := qw_of 891 (by decide +kernel) (by decide +kernel)
theorem qw_835 : (Jvm.Cond.lays "PathCheckerModel" "PathCheckerModel" "length" "I") ∈ zwd := qw_of 893 (by decide +kernel) (by decide +kernel)
theorem qw_837 : (Jvm.Cond.lays "PathCheckerModel" "PathCheckerModel" "text" "[I") ∈ zwd := qw_of 895 (by decide +kernel) (by decide +kernel)
theorem qw_839 : (Jvm.Cond.lays "PathCheckerModel" "PathCheckerModel" "loaded" "Z") ∈ zwd := qw_of 897 (by decide +kernel) (by decide +kernel)
theorem qw_841 : (Jvm.Cond.lays "PathCheckerModel" "PathCheckerModel" "nodes" "I") ∈ zwd := qw_of 899 (by decide +kernel) (by decide +kernel)
theorem qw_843 : (Jvm.Cond.lays "PathCheckerModel" "PathCheckerModel" "kind" "[I") ∈ zwd := qw_of 901 (by decide +kernel) (by decide +kernel)
theorem qw_845 : (Jvm.Cond.lays "PathCheckerModel" "PathCheckerModel" "left" "[I") ∈ zwd := qw_of 903 (by decide +kernel) (by decide +kernel)
theorem qw_847 : (Jvm.Cond.lays "PathCheckerModel" "PathCheckerModel" "right" "[I") ∈ zwd := qw_of 905 (by decide +kernel) (by decide +kernel)
theorem qw_849 : (Jvm.Cond.lays "PathCheckerModel" "PathCheckerModel" "bitOf" "[I") ∈ zwd := qw_of 907 (by decide +kernel) (by decide +kernel)
theorem qw_851 : (Jvm.Cond.lays "PathCheckerModel" "PathCheckerModel" "timed" "I") ∈ zwd := qw_of 909 (by decide +kernel) (by decide +kernel)
theorem qw_853 : (Jvm.Cond.lays "PathCheckerModel" "PathCheckerModel" "made" "I") ∈ zwd := qw_of 911 (by decide +kernel) (by decide +kernel)
theorem qw_855 : (Jvm.Cond.lays "PathCheckerModel" "PathCheckerModel" "newKind" "[I") ∈ zwd := qw_of 913 (by decide +kernel) (by decide +kernel)
theorem qw_857 : (Jvm.Cond.lays "PathCheckerModel" "PathCheckerModel" "newLeft" "[I") ∈ zwd := qw_of 915 (by decide +kernel) (by decide +kernel)
theorem qw_859 : (Jvm.Cond.lays "PathCheckerModel" "PathCheckerModel" "newRight" "[I") ∈ zwd := qw_of 917 (by decide +kernel) (by decide +kernel)
theorem qw_861 : (Jvm.Cond.lays "PathCheckerModel" "PathCheckerModel" "operands" "I") ∈ zwd := qw_of 919 (by decide +kernel) (by decide +kernel)
theorem qw_863 : (Jvm.Cond.lays "PathCheckerModel" "PathCheckerModel" "operand" "[I") ∈ zwd := qw_of 921 (by decide +kernel) (by decide +kernel)
theorem qw_865 : (Jvm.Cond.lays "PathCheckerModel" "PathCheckerModel" "waiting" "I") ∈ zwd := qw_of 923 (by decide +kernel) (by decide +kernel)
theorem qw_867 : (Jvm.Cond.lays "PathCheckerModel" "PathCheckerModel" "operator" "[I") ∈ zwd := qw_of 925 (by decide +kernel) (by decide +kernel)
theorem qw_869 : (Jvm.Cond.lays "PathCheckerModel" "PathCheckerModel" "deepest" "I") ∈ zwd := qw_of 927 (by decide +kernel) (by decide +kernel)
theorem qw_871 : (Jvm.Cond.lays "PathCheckerModel" "PathCheckerModel" "normals" "I") ∈ zwd := qw_of 929 (by decide +kernel) (by decide +kernel)
theorem qw_873 : (Jvm.Cond.lays "PathCheckerModel" "PathCheckerModel" "normalForm" "[I") ∈ zwd := qw_of 931 (by decide +kernel) (by decide +kernel)
theorem qw_875 : (Jvm.Cond.lays "PathCheckerModel" "PathCheckerModel" "marks" "[I") ∈ zwd := qw_of 933 (by decide +kernel) (by decide +kernel)
theorem qw_877 : (Jvm.Cond.lays "PathCheckerModel" "PathCheckerModel" "links" "[Z") ∈ zwd := qw_of 935 (by decide +kernel) (by decide +kernel)
theorem qw_879 : (Jvm.Cond.lays "PathCheckerModel" "PathCheckerModel" "rows" "I") ∈ zwd := qw_of 937 (by decide +kernel) (by decide +kernel)
theorem qw_881 : (Jvm.Cond.lays "PathCheckerModel" "PathCheckerModel" "row" "[I") ∈ zwd := qw_of 939 (by decide +kernel) (by decide +kernel)
theorem qw_883 : (Jvm.Cond.lays "PathCheckerModel" "PathCheckerModel" "known" "Z") ∈ zwd := qw_of 941 (by decide +kernel) (by decide +kernel)
theorem qw_885 : (Jvm.Cond.lays "PathCheckerModel" "PathCheckerModel" "before" "[I") ∈ zwd := qw_of 943 (by decide +kernel) (by decide +kernel)
theorem qw_887 : (Jvm.Cond.lays "PathCheckerModel" "PathCheckerModel" "top" "[Z") ∈ zwd := qw_of 945 (by decide +kernel) (by decide +kernel)
theorem qw_889 : (Jvm.Cond.lays "PathCheckerModel" "PathCheckerModel" "value" "[Z") ∈ zwd := qw_of 947 (by decide +kernel) (by decide +kernel)
theorem qw_891 : (Jvm.Cond.lays "PathCheckerModel" "PathCheckerModel" "fair" "[J") ∈ zwd := qw_of 949 (by decide +kernel) (by decide +kernel)
theorem qw_893 : (Jvm.Cond.lays "PathCheckerModel" "PathCheckerModel" "good" "[J") ∈ zwd := qw_of 951 (by decide +kernel) (by decide +kernel)
theorem qw_895 : (Jvm.Cond.lays "PathCheckerModel" "PathCheckerModel" "reach" "[J") ∈ zwd := qw_of 953 (by decide +kernel) (by decide +kernel)
theorem qw_897 : (Jvm.Cond.lays "PathCheckerModel" "PathCheckerModel" "back" "[J") ∈ zwd := qw_of 955 (by decide +kernel) (by decide +kernel)
theorem qw_899 : (Jvm.Cond.lays "PathCheckerModel" "PathCheckerModel" "goal" "[J") ∈ zwd := qw_of 957 (by decide +kernel) (by decide +kernel)
theorem qw_901 : (Jvm.Cond.lays "PathCheckerModel" "PathCheckerModel" "size" "I") ∈ zwd := qw_of 959 (by decide +kernel) (by decide +kernel)
theorem qw_903 : (Jvm.Cond.lays "PathCheckerModel" "PathCheckerModel" "turn" "I") ∈ zwd := qw_of 961 (by decide +kernel) (by decide +kernel)
theorem qw_905 : (Jvm.Cond.lays "PathCheckerModel" "PathCheckerModel" "lasso" "[I") ∈ zwd := qw_of 963 (by decide +kernel) (by decide +kernel)
theorem qw_907 : (Jvm.Cond.lays "PathCheckerModel" "PathCheckerModel" "at" "[Z") ∈ zwd := qw_of 965 (by decide +kernel) (by decide +kernel)
theorem qw_909 : (Jvm.Cond.lays "PathCheckerModel" "PathCheckerModel" "foundSize" "[I") ∈ zwd := qw_of 967 (by decide +kernel) (by decide +kernel)
theorem qw_911 : (Jvm.Cond.lays "PathCheckerModel" "PathCheckerModel" "foundTurn" "[I") ∈ zwd := qw_of 969 (by decide +kernel) (by decide +kernel)
theorem qw_913 : (Jvm.Cond.lays "PathCheckerModel" "PathCheckerModel" "found" "[I") ∈ zwd := qw_of 971 (by decide +kernel) (by decide +kernel)
theorem qw_917 : (Jvm.Cond.methodLink "PathCheckerLaw" (68 : Nat) ({ cls := "PathCheckerModel", name := "thrown", desc := "()I" } : Jvm.MethodName)) ∈ zwd := qw_of 975 (by decide +kernel) (by decide +kernel)
theorem qw_918 : (Jvm.Cond.instanceMethod ({ cls := "PathCheckerModel", name := "thrown", desc := "()I" } : Jvm.MethodName)) ∈ zwd := qw_of 976 (by decide +kernel) (by decide +kernel)
theorem qw_919 : (Jvm.Cond.selects "PathCheckerModel" ({ cls := "PathCheckerModel", name := "thrown", desc := "()I" } : Jvm.MethodName) ({ cls := "PathCheckerModel", name := "thrown", desc := "()I" } : Jvm.MethodName)) ∈ zwd := qw_of 977 (by decide +kernel) (by decide +kernel)
theorem qw_920 : (Jvm.Cond.code ({ cls := "PathCheckerModel", name := "thrown", desc := "()I" } : Jvm.MethodName) prog_11_method_2_code (1 : Nat) (Option.some Jvm.ClassFile.FieldType.int)) ∈ zwd := qw_of 978 (by decide +kernel) (by decide +kernel)
theorem qw_921 : (Jvm.Cond.methodLink "PathCheckerLaw" (53 : Nat) ({ cls := "PathCheckerModel", name := "type", desc := "(J)Z" } : Jvm.MethodName)) ∈ zwd := qw_of 979 (by decide +kernel) (by decide +kernel)
theorem qw_922 : (Jvm.Cond.instanceMethod ({ cls := "PathCheckerModel", name := "type", desc := "(J)Z" } : Jvm.MethodName)) ∈ zwd := qw_of 980 (by decide +kernel) (by decide +kernel)
theorem qw_923 : (Jvm.Cond.selects "PathCheckerModel" ({ cls := "PathCheckerModel", name := "type", desc := "(J)Z" } : Jvm.MethodName) ({ cls := "PathCheckerModel", name := "type", desc := "(J)Z" } : Jvm.MethodName)) ∈ zwd := qw_of 981 (by decide +kernel) (by decide +kernel)
theorem qw_924 : (Jvm.Cond.code ({ cls := "PathCheckerModel", name := "type", desc := "(J)Z" } : Jvm.MethodName) prog_11_method_3_code (6 : Nat) (Option.some Jvm.ClassFile.FieldType.boolean)) ∈ zwd := qw_of 982 (by decide +kernel) (by decide +kernel)
theorem qw_925 : (Jvm.Cond.methodLink "PathCheckerLaw" (57 : Nat) ({ cls := "PathCheckerModel", name := "wipe", desc := "()V" } : Jvm.MethodName)) ∈ zwd := qw_of 983 (by decide +kernel) (by decide +kernel)
theorem qw_926 : (Jvm.Cond.instanceMethod ({ cls := "PathCheckerModel", name := "wipe", desc := "()V" } : Jvm.MethodName)) ∈ zwd := qw_of 984 (by decide +kernel) (by decide +kernel)
theorem qw_927 : (Jvm.Cond.selects "PathCheckerModel" ({ cls := "PathCheckerModel", name := "wipe", desc := "()V" } : Jvm.MethodName) ({ cls := "PathCheckerModel", name := "wipe", desc := "()V" } : Jvm.MethodName)) ∈ zwd := qw_of 985 (by decide +kernel) (by decide +kernel)
theorem qw_928 : (Jvm.Cond.code ({ cls := "PathCheckerModel", name := "wipe", desc := "()V" } : Jvm.MethodName) prog_11_method_4_code (1 : Nat) (Option.none : Option Jvm.ClassFile.FieldType)) ∈ zwd := qw_of 986 (by decide +kernel) (by decide +kernel)
theorem qw_929 : (Jvm.Cond.methodLink "PathCheckerLaw" (61 : Nat) ({ cls := "PathCheckerModel", name := "length", desc := "()I" } : Jvm.MethodName)) ∈ zwd := qw_of 987 (by decide +kernel) (by decide +kernel)
theorem qw_930 : (Jvm.Cond.instanceMethod ({ cls := "PathCheckerModel", name := "length", desc := "()I" } : Jvm.MethodName)) ∈ zwd := qw_of 988 (by decide +kernel) (by decide +kernel)
theorem qw_931 : (Jvm.Cond.selects "PathCheckerModel" ({ cls := "PathCheckerModel", name := "length", desc := "()I" } : Jvm.MethodName) ({ cls := "PathCheckerModel", name := "length", desc := "()I" } : Jvm.MethodName)) ∈ zwd := qw_of 989 (by decide +kernel) (by decide +kernel)
theorem qw_932 : (Jvm.Cond.code ({ cls := "PathCheckerModel", name := "length", desc := "()I" } : Jvm.MethodName) prog_11_method_5_code (1 : Nat) (Option.some Jvm.ClassFile.FieldType.int)) ∈ zwd := qw_of 990 (by decide +kernel) (by decide +kernel)
theorem qw_933 : (Jvm.Cond.methodLink "PathCheckerLaw" (67 : Nat) ({ cls := "PathCheckerModel", name := "formula", desc := "()I" } : Jvm.MethodName)) ∈ zwd := qw_of 991 (by decide +kernel) (by decide +kernel)
theorem qw_934 : (Jvm.Cond.instanceMethod ({ cls := "PathCheckerModel", name := "formula", desc := "()I" } : Jvm.MethodName)) ∈ zwd := qw_of 992 (by decide +kernel) (by decide +kernel)
theorem qw_935 : (Jvm.Cond.selects "PathCheckerModel" ({ cls := "PathCheckerModel", name := "formula", desc := "()I" } : Jvm.MethodName) ({ cls := "PathCheckerModel", name := "formula", desc := "()I" } : Jvm.MethodName)) ∈ zwd := qw_of 993 (by decide +kernel) (by decide +kernel)
theorem qw_936 : (Jvm.Cond.code ({ cls := "PathCheckerModel", name := "formula", desc := "()I" } : Jvm.MethodName) prog_11_method_15_code (2 : Nat) (Option.some Jvm.ClassFile.FieldType.int)) ∈ zwd := qw_of 994 (by decide +kernel) (by decide +kernel)
theorem qw_937 : (Jvm.Cond.methodLink "PathCheckerModel" (137 : Nat) ({ cls := "PathCheckerModel", name := "reads", desc := "()Z" } : Jvm.MethodName)) ∈ zwd := qw_of 995 (by decide +kernel) (by decide +kernel)
theorem qw_939 : (Jvm.Cond.instanceMethod ({ cls := "PathCheckerModel", name := "reads", desc := "()Z" } : Jvm.MethodName)) ∈ zwd := qw_of 997 (by decide +kernel) (by decide +kernel)
theorem qw_940 : (Jvm.Cond.code ({ cls := "PathCheckerModel", name := "reads", desc := "()Z" } : Jvm.MethodName) prog_11_method_13_code (6 : Nat) (Option.some Jvm.ClassFile.FieldType.boolean)) ∈ zwd := qw_of 998 (by decide +kernel) (by decide +kernel)
theorem qw_941 : (Jvm.Cond.methodLink "PathCheckerModel" (127 : Nat) ({ cls := "PathCheckerModel", name := "isAtom", desc := "(I)Z" } : Jvm.MethodName)) ∈ zwd := qw_of 999 (by decide +kernel) (by decide +kernel)
theorem qw_942 : (Jvm.Cond.static ({ cls := "PathCheckerModel", name := "isAtom", desc := "(I)Z" } : Jvm.MethodName)) ∈ zwd := qw_of 1000 (by decide +kernel) (by decide +kernel)
theorem qw_943 : (Jvm.Cond.code ({ cls := "PathCheckerModel", name := "isAtom", desc := "(I)Z" } : Jvm.MethodName) prog_11_method_6_code (1 : Nat) (Option.some Jvm.ClassFile.FieldType.boolean)) ∈ zwd := qw_of 1001 (by decide +kernel) (by decide +kernel)
theorem qw_944 : (Jvm.Cond.methodLink "PathCheckerModel" (113 : Nat) ({ cls := "PathCheckerModel", name := "node", desc := "(III)V" } : Jvm.MethodName)) ∈ zwd := qw_of 1002 (by decide +kernel) (by decide +kernel)
theorem qw_946 : (Jvm.Cond.instanceMethod ({ cls := "PathCheckerModel", name := "node", desc := "(III)V" } : Jvm.MethodName)) ∈ zwd := qw_of 1004 (by decide +kernel) (by decide +kernel)
theorem qw_947 : (Jvm.Cond.code ({ cls := "PathCheckerModel", name := "node", desc := "(III)V" } : Jvm.MethodName) prog_11_method_10_code (4 : Nat) (Option.none : Option Jvm.ClassFile.FieldType)) ∈ zwd := qw_of 1005 (by decide +kernel) (by decide +kernel)
theorem qw_948 : (Jvm.Cond.methodLink "PathCheckerModel" (100 : Nat) ({ cls := "PathCheckerModel", name := "isPrefix", desc := "(I)Z" } : Jvm.MethodName)) ∈ zwd := qw_of 1006 (by decide +kernel) (by decide +kernel)
theorem qw_949 : (Jvm.Cond.static ({ cls := "PathCheckerModel", name := "isPrefix", desc := "(I)Z" } : Jvm.MethodName)) ∈ zwd := qw_of 1007 (by decide +kernel) (by decide +kernel)
theorem qw_950 : (Jvm.Cond.code ({ cls := "PathCheckerModel", name := "isPrefix", desc := "(I)Z" } : Jvm.MethodName) prog_11_method_7_code (1 : Nat) (Option.some Jvm.ClassFile.FieldType.boolean)) ∈ zwd := qw_of 1008 (by decide +kernel) (by decide +kernel)
theorem qw_951 : (Jvm.Cond.methodLink "PathCheckerModel" (130 : Nat) ({ cls := "PathCheckerModel", name := "reduceFrom", desc := "(I)V" } : Jvm.MethodName)) ∈ zwd := qw_of 1009 (by decide +kernel) (by decide +kernel)
theorem qw_953 : (Jvm.Cond.instanceMethod ({ cls := "PathCheckerModel", name := "reduceFrom", desc := "(I)V" } : Jvm.MethodName)) ∈ zwd := qw_of 1011 (by decide +kernel) (by decide +kernel)
theorem qw_954 : (Jvm.Cond.code ({ cls := "PathCheckerModel", name := "reduceFrom", desc := "(I)V" } : Jvm.MethodName) prog_11_method_12_code (2 : Nat) (Option.none : Option Jvm.ClassFile.FieldType)) ∈ zwd := qw_of 1012 (by decide +kernel) (by decide +kernel)
theorem qw_955 : (Jvm.Cond.methodLink "PathCheckerModel" (117 : Nat) ({ cls := "PathCheckerModel", name := "strength", desc := "(I)I" } : Jvm.MethodName)) ∈ zwd := qw_of 1013 (by decide +kernel) (by decide +kernel)
theorem qw_956 : (Jvm.Cond.static ({ cls := "PathCheckerModel", name := "strength", desc := "(I)I" } : Jvm.MethodName)) ∈ zwd := qw_of 1014 (by decide +kernel) (by decide +kernel)
theorem qw_957 : (Jvm.Cond.code ({ cls := "PathCheckerModel", name := "strength", desc := "(I)I" } : Jvm.MethodName) prog_11_method_9_code (1 : Nat) (Option.some Jvm.ClassFile.FieldType.int)) ∈ zwd := qw_of 1015 (by decide +kernel) (by decide +kernel)
theorem qw_958 : (Jvm.Cond.methodLink "PathCheckerModel" (121 : Nat) ({ cls := "PathCheckerModel", name := "reduce", desc := "()V" } : Jvm.MethodName)) ∈ zwd := qw_of 1016 (by decide +kernel) (by decide +kernel)
theorem qw_960 : (Jvm.Cond.instanceMethod ({ cls := "PathCheckerModel", name := "reduce", desc := "()V" } : Jvm.MethodName)) ∈ zwd := qw_of 1018 (by decide +kernel) (by decide +kernel)
theorem qw_961 : (Jvm.Cond.code ({ cls := "PathCheckerModel", name := "reduce", desc := "()V" } : Jvm.MethodName) prog_11_method_11_code (2 : Nat) (Option.none : Option Jvm.ClassFile.FieldType)) ∈ zwd := qw_of 1019 (by decide +kernel) (by decide +kernel)
theorem qw_962 : (Jvm.Cond.methodLink "PathCheckerModel" (141 : Nat) ({ cls := "PathCheckerModel", name := "countTimed", desc := "()I" } : Jvm.MethodName)) ∈ zwd := qw_of 1020 (by decide +kernel) (by decide +kernel)
theorem qw_964 : (Jvm.Cond.instanceMethod ({ cls := "PathCheckerModel", name := "countTimed", desc := "()I" } : Jvm.MethodName)) ∈ zwd := qw_of 1022 (by decide +kernel) (by decide +kernel)
theorem qw_965 : (Jvm.Cond.code ({ cls := "PathCheckerModel", name := "countTimed", desc := "()I" } : Jvm.MethodName) prog_11_method_14_code (3 : Nat) (Option.some Jvm.ClassFile.FieldType.int)) ∈ zwd := qw_of 1023 (by decide +kernel) (by decide +kernel)
theorem qw_966 : (Jvm.Cond.methodLink "PathCheckerModel" (134 : Nat) ({ cls := "PathCheckerModel", name := "isTimed", desc := "(I)Z" } : Jvm.MethodName)) ∈ zwd := qw_of 1024 (by decide +kernel) (by decide +kernel)
theorem qw_967 : (Jvm.Cond.static ({ cls := "PathCheckerModel", name := "isTimed", desc := "(I)Z" } : Jvm.MethodName)) ∈ zwd := qw_of 1025 (by decide +kernel) (by decide +kernel)
theorem qw_968 : (Jvm.Cond.code ({ cls := "PathCheckerModel", name := "isTimed", desc := "(I)Z" } : Jvm.MethodName) prog_11_method_8_code (1 : Nat) (Option.some Jvm.ClassFile.FieldType.boolean)) ∈ zwd := qw_of 1026 (by decide +kernel) (by decide +kernel)
theorem qw_969 : (Jvm.Cond.methodLink "PathCheckerModel" (155 : Nat) ({ cls := "PathCheckerModel", name := "forget", desc := "()V" } : Jvm.MethodName)) ∈ zwd := qw_of 1027 (by decide +kernel) (by decide +kernel)
theorem qw_971 : (Jvm.Cond.instanceMethod ({ cls := "PathCheckerModel", name := "forget", desc := "()V" } : Jvm.MethodName)) ∈ zwd := qw_of 1029 (by decide +kernel) (by decide +kernel)
theorem qw_972 : (Jvm.Cond.code ({ cls := "PathCheckerModel", name := "forget", desc := "()V" } : Jvm.MethodName) prog_11_method_21_code (2 : Nat) (Option.none : Option Jvm.ClassFile.FieldType)) ∈ zwd := qw_of 1030 (by decide +kernel) (by decide +kernel)
theorem qw_973 : (Jvm.Cond.methodLink "PathCheckerModel" (158 : Nat) ({ cls := "PathCheckerModel", name := "write", desc := "()V" } : Jvm.MethodName)) ∈ zwd := qw_of 1031 (by decide +kernel) (by decide +kernel)
theorem qw_975 : (Jvm.Cond.instanceMethod ({ cls := "PathCheckerModel", name := "write", desc := "()V" } : Jvm.MethodName)) ∈ zwd := qw_of 1033 (by decide +kernel) (by decide +kernel)
theorem qw_976 : (Jvm.Cond.code ({ cls := "PathCheckerModel", name := "write", desc := "()V" } : Jvm.MethodName) prog_11_method_18_code (5 : Nat) (Option.none : Option Jvm.ClassFile.FieldType)) ∈ zwd := qw_of 1034 (by decide +kernel) (by decide +kernel)
theorem qw_977 : (Jvm.Cond.methodLink "PathCheckerModel" (164 : Nat) ({ cls := "PathCheckerModel", name := "hold", desc := "(IZ)V" } : Jvm.MethodName)) ∈ zwd := qw_of 1035 (by decide +kernel) (by decide +kernel)
theorem qw_979 : (Jvm.Cond.instanceMethod ({ cls := "PathCheckerModel", name := "hold", desc := "(IZ)V" } : Jvm.MethodName)) ∈ zwd := qw_of 1037 (by decide +kernel) (by decide +kernel)
theorem qw_980 : (Jvm.Cond.code ({ cls := "PathCheckerModel", name := "hold", desc := "(IZ)V" } : Jvm.MethodName) prog_11_method_17_code (3 : Nat) (Option.none : Option Jvm.ClassFile.FieldType)) ∈ zwd := qw_of 1038 (by decide +kernel) (by decide +kernel)
theorem qw_981 : (Jvm.Cond.methodLink "PathCheckerModel" (168 : Nat) ({ cls := "PathCheckerModel", name := "emit", desc := "(I)V" } : Jvm.MethodName)) ∈ zwd := qw_of 1039 (by decide +kernel) (by decide +kernel)
theorem qw_983 : (Jvm.Cond.instanceMethod ({ cls := "PathCheckerModel", name := "emit", desc := "(I)V" } : Jvm.MethodName)) ∈ zwd := qw_of 1041 (by decide +kernel) (by decide +kernel)
theorem qw_984 : (Jvm.Cond.code ({ cls := "PathCheckerModel", name := "emit", desc := "(I)V" } : Jvm.MethodName) prog_11_method_16_code (2 : Nat) (Option.none : Option Jvm.ClassFile.FieldType)) ∈ zwd := qw_of 1042 (by decide +kernel) (by decide +kernel)
theorem qw_985 : (Jvm.Cond.methodLink "PathCheckerLaw" (74 : Nat) ({ cls := "PathCheckerModel", name := "normal", desc := "(I)I" } : Jvm.MethodName)) ∈ zwd := qw_of 1043 (by decide +kernel) (by decide +kernel)
theorem qw_986 : (Jvm.Cond.instanceMethod ({ cls := "PathCheckerModel", name := "normal", desc := "(I)I" } : Jvm.MethodName)) ∈ zwd := qw_of 1044 (by decide +kernel) (by decide +kernel)
theorem qw_987 : (Jvm.Cond.selects "PathCheckerModel" ({ cls := "PathCheckerModel", name := "normal", desc := "(I)I" } : Jvm.MethodName) ({ cls := "PathCheckerModel", name := "normal", desc := "(I)I" } : Jvm.MethodName)) ∈ zwd := qw_of 1045 (by decide +kernel) (by decide +kernel)
theorem qw_988 : (Jvm.Cond.code ({ cls := "PathCheckerModel", name := "normal", desc := "(I)I" } : Jvm.MethodName) prog_11_method_19_code (2 : Nat) (Option.some Jvm.ClassFile.FieldType.int)) ∈ zwd := qw_of 1046 (by decide +kernel) (by decide +kernel)
theorem qw_989 : (Jvm.Cond.methodLink "PathCheckerLaw" (78 : Nat) ({ cls := "PathCheckerModel", name := "mark", desc := "(II)Z" } : Jvm.MethodName)) ∈ zwd := qw_of 1047 (by decide +kernel) (by decide +kernel)
theorem qw_990 : (Jvm.Cond.instanceMethod ({ cls := "PathCheckerModel", name := "mark", desc := "(II)Z" } : Jvm.MethodName)) ∈ zwd := qw_of 1048 (by decide +kernel) (by decide +kernel)
theorem qw_991 : (Jvm.Cond.selects "PathCheckerModel" ({ cls := "PathCheckerModel", name := "mark", desc := "(II)Z" } : Jvm.MethodName) ({ cls := "PathCheckerModel", name := "mark", desc := "(II)Z" } : Jvm.MethodName)) ∈ zwd := qw_of 1049 (by decide +kernel) (by decide +kernel)
theorem qw_992 : (Jvm.Cond.code ({ cls := "PathCheckerModel", name := "mark", desc := "(II)Z" } : Jvm.MethodName) prog_11_method_22_code (3 : Nat) (Option.some Jvm.ClassFile.FieldType.boolean)) ∈ zwd := qw_of 1050 (by decide +kernel) (by decide +kernel)
theorem qw_993 : (Jvm.Cond.methodLink "PathCheckerModel" (174 : Nat) ({ cls := "PathCheckerModel", name := "isState", desc := "(I)Z" } : Jvm.MethodName)) ∈ zwd := qw_of 1051 (by decide +kernel) (by decide +kernel)
theorem qw_994 : (Jvm.Cond.static ({ cls := "PathCheckerModel", name := "isState", desc := "(I)Z" } : Jvm.MethodName)) ∈ zwd := qw_of 1052 (by decide +kernel) (by decide +kernel)
theorem qw_995 : (Jvm.Cond.code ({ cls := "PathCheckerModel", name := "isState", desc := "(I)Z" } : Jvm.MethodName) prog_11_method_20_code (1 : Nat) (Option.some Jvm.ClassFile.FieldType.boolean)) ∈ zwd := qw_of 1053 (by decide +kernel) (by decide +kernel)
theorem qw_996 : (Jvm.Cond.methodLink "PathCheckerLaw" (83 : Nat) ({ cls := "PathCheckerModel", name := "link", desc := "(IIZ)Z" } : Jvm.MethodName)) ∈ zwd := qw_of 1054 (by decide +kernel) (by decide +kernel)
theorem qw_997 : (Jvm.Cond.instanceMethod ({ cls := "PathCheckerModel", name := "link", desc := "(IIZ)Z" } : Jvm.MethodName)) ∈ zwd := qw_of 1055 (by decide +kernel) (by decide +kernel)
theorem qw_998 : (Jvm.Cond.selects "PathCheckerModel" ({ cls := "PathCheckerModel", name := "link", desc := "(IIZ)Z" } : Jvm.MethodName) ({ cls := "PathCheckerModel", name := "link", desc := "(IIZ)Z" } : Jvm.MethodName)) ∈ zwd := qw_of 1056 (by decide +kernel) (by decide +kernel)
theorem qw_999 : (Jvm.Cond.code ({ cls := "PathCheckerModel", name := "link", desc := "(IIZ)Z" } : Jvm.MethodName) prog_11_method_23_code (4 : Nat) (Option.some Jvm.ClassFile.FieldType.boolean)) ∈ zwd := qw_of 1057 (by decide +kernel) (by decide +kernel)
theorem qw_1000 : (Jvm.Cond.methodLink "PathCheckerLaw" (87 : Nat) ({ cls := "PathCheckerModel", name := "state", desc := "(II)I" } : Jvm.MethodName)) ∈ zwd := qw_of 1058 (by decide +kernel) (by decide +kernel)
theorem qw_1001 : (Jvm.Cond.instanceMethod ({ cls := "PathCheckerModel", name := "state", desc := "(II)I" } : Jvm.MethodName)) ∈ zwd := qw_of 1059 (by decide +kernel) (by decide +kernel)
theorem qw_1002 : (Jvm.Cond.selects "PathCheckerModel" ({ cls := "PathCheckerModel", name := "state", desc := "(II)I" } : Jvm.MethodName) ({ cls := "PathCheckerModel", name := "state", desc := "(II)I" } : Jvm.MethodName)) ∈ zwd := qw_of 1060 (by decide +kernel) (by decide +kernel)
theorem qw_1003 : (Jvm.Cond.code ({ cls := "PathCheckerModel", name := "state", desc := "(II)I" } : Jvm.MethodName) prog_11_method_24_code (3 : Nat) (Option.some Jvm.ClassFile.FieldType.int)) ∈ zwd := qw_of 1061 (by decide +kernel) (by decide +kernel)
theorem qw_1004 : (Jvm.Cond.methodLink "PathCheckerLaw" (91 : Nat) ({ cls := "PathCheckerModel", name := "endless", desc := "(I)Z" } : Jvm.MethodName)) ∈ zwd := qw_of 1062 (by decide +kernel) (by decide +kernel)
theorem qw_1005 : (Jvm.Cond.instanceMethod ({ cls := "PathCheckerModel", name := "endless", desc := "(I)Z" } : Jvm.MethodName)) ∈ zwd := qw_of 1063 (by decide +kernel) (by decide +kernel)
theorem qw_1006 : (Jvm.Cond.selects "PathCheckerModel" ({ cls := "PathCheckerModel", name := "endless", desc := "(I)Z" } : Jvm.MethodName) ({ cls := "PathCheckerModel", name := "endless", desc := "(I)Z" } : Jvm.MethodName)) ∈ zwd := qw_of 1064 (by decide +kernel) (by decide +kernel)
theorem qw_1007 : (Jvm.Cond.code ({ cls := "PathCheckerModel", name := "endless", desc := "(I)Z" } : Jvm.MethodName) prog_11_method_25_code (7 : Nat) (Option.some Jvm.ClassFile.FieldType.boolean)) ∈ zwd := qw_of 1065 (by decide +kernel) (by decide +kernel)
theorem qw_1008 : (Jvm.Cond.methodLink "PathCheckerLaw" (94 : Nat) ({ cls := "PathCheckerModel", name := "keeps", desc := "(I)Z" } : Jvm.MethodName)) ∈ zwd := qw_of 1066 (by decide +kernel) (by decide +kernel)
theorem qw_1009 : (Jvm.Cond.instanceMethod ({ cls := "PathCheckerModel", name := "keeps", desc := "(I)Z" } : Jvm.MethodName)) ∈ zwd := qw_of 1067 (by decide +kernel) (by decide +kernel)
theorem qw_1010 : (Jvm.Cond.selects "PathCheckerModel" ({ cls := "PathCheckerModel", name := "keeps", desc := "(I)Z" } : Jvm.MethodName) ({ cls := "PathCheckerModel", name := "keeps", desc := "(I)Z" } : Jvm.MethodName)) ∈ zwd := qw_of 1068 (by decide +kernel) (by decide +kernel)
theorem qw_1011 : (Jvm.Cond.code ({ cls := "PathCheckerModel", name := "keeps", desc := "(I)Z" } : Jvm.MethodName) prog_11_method_35_code (2 : Nat) (Option.some Jvm.ClassFile.FieldType.boolean)) ∈ zwd := qw_of 1069 (by decide +kernel) (by decide +kernel)
theorem qw_1012 : (Jvm.Cond.methodLink "PathCheckerModel" (204 : Nat) ({ cls := "PathCheckerModel", name := "someone", desc := "(Z)I" } : Jvm.MethodName)) ∈ zwd := qw_of 1070 (by decide +kernel) (by decide +kernel)
theorem qw_1014 : (Jvm.Cond.instanceMethod ({ cls := "PathCheckerModel", name := "someone", desc := "(Z)I" } : Jvm.MethodName)) ∈ zwd := qw_of 1072 (by decide +kernel) (by decide +kernel)
theorem qw_1015 : (Jvm.Cond.code ({ cls := "PathCheckerModel", name := "someone", desc := "(Z)I" } : Jvm.MethodName) prog_11_method_34_code (7 : Nat) (Option.some Jvm.ClassFile.FieldType.int)) ∈ zwd := qw_of 1073 (by decide +kernel) (by decide +kernel)
theorem qw_1016 : (Jvm.Cond.methodLink "PathCheckerModel" (201 : Nat) ({ cls := "PathCheckerModel", name := "study", desc := "()V" } : Jvm.MethodName)) ∈ zwd := qw_of 1074 (by decide +kernel) (by decide +kernel)
theorem qw_1018 : (Jvm.Cond.instanceMethod ({ cls := "PathCheckerModel", name := "study", desc := "()V" } : Jvm.MethodName)) ∈ zwd := qw_of 1076 (by decide +kernel) (by decide +kernel)
theorem qw_1019 : (Jvm.Cond.code ({ cls := "PathCheckerModel", name := "study", desc := "()V" } : Jvm.MethodName) prog_11_method_33_code (6 : Nat) (Option.none : Option Jvm.ClassFile.FieldType)) ∈ zwd := qw_of 1077 (by decide +kernel) (by decide +kernel)
theorem qw_1020 : (Jvm.Cond.methodLink "PathCheckerModel" (195 : Nat) ({ cls := "PathCheckerModel", name := "tables", desc := "()V" } : Jvm.MethodName)) ∈ zwd := qw_of 1078 (by decide +kernel) (by decide +kernel)
theorem qw_1022 : (Jvm.Cond.instanceMethod ({ cls := "PathCheckerModel", name := "tables", desc := "()V" } : Jvm.MethodName)) ∈ zwd := qw_of 1080 (by decide +kernel) (by decide +kernel)
theorem qw_1023 : (Jvm.Cond.code ({ cls := "PathCheckerModel", name := "tables", desc := "()V" } : Jvm.MethodName) prog_11_method_30_code (10 : Nat) (Option.none : Option Jvm.ClassFile.FieldType)) ∈ zwd := qw_of 1081 (by decide +kernel) (by decide +kernel)
theorem qw_1024 : (Jvm.Cond.methodLink "PathCheckerModel" (184 : Nat) ({ cls := "PathCheckerModel", name := "evaluate", desc := "(II)V" } : Jvm.MethodName)) ∈ zwd := qw_of 1082 (by decide +kernel) (by decide +kernel)
theorem qw_1026 : (Jvm.Cond.instanceMethod ({ cls := "PathCheckerModel", name := "evaluate", desc := "(II)V" } : Jvm.MethodName)) ∈ zwd := qw_of 1084 (by decide +kernel) (by decide +kernel)
theorem qw_1027 : (Jvm.Cond.code ({ cls := "PathCheckerModel", name := "evaluate", desc := "(II)V" } : Jvm.MethodName) prog_11_method_27_code (4 : Nat) (Option.none : Option Jvm.ClassFile.FieldType)) ∈ zwd := qw_of 1085 (by decide +kernel) (by decide +kernel)
theorem qw_1028 : (Jvm.Cond.methodLink "PathCheckerModel" (177 : Nat) ({ cls := "PathCheckerModel", name := "plain", desc := "(II)Z" } : Jvm.MethodName)) ∈ zwd := qw_of 1086 (by decide +kernel) (by decide +kernel)
theorem qw_1030 : (Jvm.Cond.instanceMethod ({ cls := "PathCheckerModel", name := "plain", desc := "(II)Z" } : Jvm.MethodName)) ∈ zwd := qw_of 1088 (by decide +kernel) (by decide +kernel)
theorem qw_1031 : (Jvm.Cond.code ({ cls := "PathCheckerModel", name := "plain", desc := "(II)Z" } : Jvm.MethodName) prog_11_method_26_code (6 : Nat) (Option.some Jvm.ClassFile.FieldType.boolean)) ∈ zwd := qw_of 1089 (by decide +kernel) (by decide +kernel)
theorem qw_1032 : (Jvm.Cond.methodLink "PathCheckerModel" (181 : Nat) ({ cls := "PathCheckerModel", name := "decider", desc := "(I)I" } : Jvm.MethodName)) ∈ zwd := qw_of 1090 (by decide +kernel) (by decide +kernel)
theorem qw_1034 : (Jvm.Cond.instanceMethod ({ cls := "PathCheckerModel", name := "decider", desc := "(I)I" } : Jvm.MethodName)) ∈ zwd := qw_of 1092 (by decide +kernel) (by decide +kernel)
theorem qw_1035 : (Jvm.Cond.code ({ cls := "PathCheckerModel", name := "decider", desc := "(I)I" } : Jvm.MethodName) prog_11_method_28_code (2 : Nat) (Option.some Jvm.ClassFile.FieldType.int)) ∈ zwd := qw_of 1093 (by decide +kernel) (by decide +kernel)
theorem qw_1036 : (Jvm.Cond.methodLink "PathCheckerModel" (188 : Nat) ({ cls := "PathCheckerModel", name := "bitsBefore", desc := "(III)I" } : Jvm.MethodName)) ∈ zwd := qw_of 1094 (by decide +kernel) (by decide +kernel)
theorem qw_1038 : (Jvm.Cond.instanceMethod ({ cls := "PathCheckerModel", name := "bitsBefore", desc := "(III)I" } : Jvm.MethodName)) ∈ zwd := qw_of 1096 (by decide +kernel) (by decide +kernel)
theorem qw_1039 : (Jvm.Cond.code ({ cls := "PathCheckerModel", name := "bitsBefore", desc := "(III)I" } : Jvm.MethodName) prog_11_method_29_code (11 : Nat) (Option.some Jvm.ClassFile.FieldType.int)) ∈ zwd := qw_of 1097 (by decide +kernel) (by decide +kernel)
theorem qw_1040 : (Jvm.Cond.methodLink "PathCheckerModel" (198 : Nat) ({ cls := "PathCheckerModel", name := "cut", desc := "(I)Z" } : Jvm.MethodName)) ∈ zwd := qw_of 1098 (by decide +kernel) (by decide +kernel)
theorem qw_1042 : (Jvm.Cond.instanceMethod ({ cls := "PathCheckerModel", name := "cut", desc := "(I)Z" } : Jvm.MethodName)) ∈ zwd := qw_of 1100 (by decide +kernel) (by decide +kernel)
theorem qw_1043 : (Jvm.Cond.code ({ cls := "PathCheckerModel", name := "cut", desc := "(I)Z" } : Jvm.MethodName) prog_11_method_32_code (7 : Nat) (Option.some Jvm.ClassFile.FieldType.boolean)) ∈ zwd := qw_of 1101 (by decide +kernel) (by decide +kernel)
theorem qw_1044 : (Jvm.Cond.methodLink "PathCheckerModel" (192 : Nat) ({ cls := "PathCheckerModel", name := "step", desc := "()V" } : Jvm.MethodName)) ∈ zwd := qw_of 1102 (by decide +kernel) (by decide +kernel)
theorem qw_1046 : (Jvm.Cond.instanceMethod ({ cls := "PathCheckerModel", name := "step", desc := "()V" } : Jvm.MethodName)) ∈ zwd := qw_of 1104 (by decide +kernel) (by decide +kernel)
theorem qw_1047 : (Jvm.Cond.code ({ cls := "PathCheckerModel", name := "step", desc := "()V" } : Jvm.MethodName) prog_11_method_31_code (5 : Nat) (Option.none : Option Jvm.ClassFile.FieldType)) ∈ zwd := qw_of 1105 (by decide +kernel) (by decide +kernel)
theorem qw_1048 : (Jvm.Cond.methodLink "PathCheckerLaw" (97 : Nat) ({ cls := "PathCheckerModel", name := "breaking", desc := "()I" } : Jvm.MethodName)) ∈ zwd := qw_of 1106 (by decide +kernel) (by decide +kernel)
theorem qw_1049 : (Jvm.Cond.instanceMethod ({ cls := "PathCheckerModel", name := "breaking", desc := "()I" } : Jvm.MethodName)) ∈ zwd := qw_of 1107 (by decide +kernel) (by decide +kernel)
theorem qw_1050 : (Jvm.Cond.selects "PathCheckerModel" ({ cls := "PathCheckerModel", name := "breaking", desc := "()I" } : Jvm.MethodName) ({ cls := "PathCheckerModel", name := "breaking", desc := "()I" } : Jvm.MethodName)) ∈ zwd := qw_of 1108 (by decide +kernel) (by decide +kernel)
theorem qw_1051 : (Jvm.Cond.code ({ cls := "PathCheckerModel", name := "breaking", desc := "()I" } : Jvm.MethodName) prog_11_method_36_code (1 : Nat) (Option.some Jvm.ClassFile.FieldType.int)) ∈ zwd := qw_of 1109 (by decide +kernel) (by decide +kernel)
theorem qw_1052 : (Jvm.Cond.methodLink "PathCheckerLaw" (100 : Nat) ({ cls := "PathCheckerModel", name := "keeping", desc := "()I" } : Jvm.MethodName)) ∈ zwd := qw_of 1110 (by decide +kernel) (by decide +kernel)
theorem qw_1053 : (Jvm.Cond.instanceMethod ({ cls := "PathCheckerModel", name := "keeping", desc := "()I" } : Jvm.MethodName)) ∈ zwd := qw_of 1111 (by decide +kernel) (by decide +kernel)
theorem qw_1054 : (Jvm.Cond.selects "PathCheckerModel" ({ cls := "PathCheckerModel", name := "keeping", desc := "()I" } : Jvm.MethodName) ({ cls := "PathCheckerModel", name := "keeping", desc := "()I" } : Jvm.MethodName)) ∈ zwd := qw_of 1112 (by decide +kernel) (by decide +kernel)
theorem qw_1055 : (Jvm.Cond.code ({ cls := "PathCheckerModel", name := "keeping", desc := "()I" } : Jvm.MethodName) prog_11_method_37_code (1 : Nat) (Option.some Jvm.ClassFile.FieldType.int)) ∈ zwd := qw_of 1113 (by decide +kernel) (by decide +kernel)
theorem qw_1056 : (Jvm.Cond.methodLink "PathCheckerLaw" (104 : Nat) ({ cls := "PathCheckerModel", name := "witness", desc := "(II)I" } : Jvm.MethodName)) ∈ zwd := qw_of 1114 (by decide +kernel) (by decide +kernel)
theorem qw_1057 : (Jvm.Cond.instanceMethod ({ cls := "PathCheckerModel", name := "witness", desc := "(II)I" } : Jvm.MethodName)) ∈ zwd := qw_of 1115 (by decide +kernel) (by decide +kernel)
theorem qw_1058 : (Jvm.Cond.selects "PathCheckerModel" ({ cls := "PathCheckerModel", name := "witness", desc := "(II)I" } : Jvm.MethodName) ({ cls := "PathCheckerModel", name := "witness", desc := "(II)I" } : Jvm.MethodName)) ∈ zwd := qw_of 1116 (by decide +kernel) (by decide +kernel)
theorem qw_1059 : (Jvm.Cond.code ({ cls := "PathCheckerModel", name := "witness", desc := "(II)I" } : Jvm.MethodName) prog_11_method_42_code (3 : Nat) (Option.some Jvm.ClassFile.FieldType.int)) ∈ zwd := qw_of 1117 (by decide +kernel) (by decide +kernel)
theorem qw_1060 : (Jvm.Cond.methodLink "PathCheckerModel" (223 : Nat) ({ cls := "PathCheckerModel", name := "search", desc := "(I)V" } : Jvm.MethodName)) ∈ zwd := qw_of 1118 (by decide +kernel) (by decide +kernel)
theorem qw_1062 : (Jvm.Cond.instanceMethod ({ cls := "PathCheckerModel", name := "search", desc := "(I)V" } : Jvm.MethodName)) ∈ zwd := qw_of 1120 (by decide +kernel) (by decide +kernel)
theorem qw_1063 : (Jvm.Cond.code ({ cls := "PathCheckerModel", name := "search", desc := "(I)V" } : Jvm.MethodName) prog_11_method_41_code (5 : Nat) (Option.none : Option Jvm.ClassFile.FieldType)) ∈ zwd := qw_of 1121 (by decide +kernel) (by decide +kernel)
theorem qw_1064 : (Jvm.Cond.methodLink "PathCheckerModel" (214 : Nat) ({ cls := "PathCheckerModel", name := "linked", desc := "()Z" } : Jvm.MethodName)) ∈ zwd := qw_of 1122 (by decide +kernel) (by decide +kernel)
theorem qw_1066 : (Jvm.Cond.instanceMethod ({ cls := "PathCheckerModel", name := "linked", desc := "()Z" } : Jvm.MethodName)) ∈ zwd := qw_of 1124 (by decide +kernel) (by decide +kernel)
theorem qw_1067 : (Jvm.Cond.code ({ cls := "PathCheckerModel", name := "linked", desc := "()Z" } : Jvm.MethodName) prog_11_method_40_code (3 : Nat) (Option.some Jvm.ClassFile.FieldType.boolean)) ∈ zwd := qw_of 1125 (by decide +kernel) (by decide +kernel)
theorem qw_1068 : (Jvm.Cond.methodLink "PathCheckerModel" (217 : Nat) ({ cls := "PathCheckerModel", name := "holds", desc := "(I)Z" } : Jvm.MethodName)) ∈ zwd := qw_of 1126 (by decide +kernel) (by decide +kernel)
theorem qw_1070 : (Jvm.Cond.instanceMethod ({ cls := "PathCheckerModel", name := "holds", desc := "(I)Z" } : Jvm.MethodName)) ∈ zwd := qw_of 1128 (by decide +kernel) (by decide +kernel)
theorem qw_1071 : (Jvm.Cond.code ({ cls := "PathCheckerModel", name := "holds", desc := "(I)Z" } : Jvm.MethodName) prog_11_method_38_code (11 : Nat) (Option.some Jvm.ClassFile.FieldType.boolean)) ∈ zwd := qw_of 1129 (by decide +kernel) (by decide +kernel)
theorem qw_1072 : (Jvm.Cond.methodLink "PathCheckerModel" (220 : Nat) ({ cls := "PathCheckerModel", name := "advance", desc := "()Z" } : Jvm.MethodName)) ∈ zwd := qw_of 1130 (by decide +kernel) (by decide +kernel)
theorem qw_1074 : (Jvm.Cond.instanceMethod ({ cls := "PathCheckerModel", name := "advance", desc := "()Z" } : Jvm.MethodName)) ∈ zwd := qw_of 1132 (by decide +kernel) (by decide +kernel)
theorem qw_1075 : (Jvm.Cond.code ({ cls := "PathCheckerModel", name := "advance", desc := "()Z" } : Jvm.MethodName) prog_11_method_39_code (2 : Nat) (Option.some Jvm.ClassFile.FieldType.boolean)) ∈ zwd := qw_of 1133 (by decide +kernel) (by decide +kernel)
theorem qw_1076 : (Jvm.Cond.methodLink "PathCheckerLaw" (108 : Nat) ({ cls := "PathCheckerModel", name := "go", desc := "(I)I" } : Jvm.MethodName)) ∈ zwd := qw_of 1134 (by decide +kernel) (by decide +kernel)
theorem qw_1077 : (Jvm.Cond.instanceMethod ({ cls := "PathCheckerModel", name := "go", desc := "(I)I" } : Jvm.MethodName)) ∈ zwd := qw_of 1135 (by decide +kernel) (by decide +kernel)
theorem qw_1078 : (Jvm.Cond.selects "PathCheckerModel" ({ cls := "PathCheckerModel", name := "go", desc := "(I)I" } : Jvm.MethodName) ({ cls := "PathCheckerModel", name := "go", desc := "(I)I" } : Jvm.MethodName)) ∈ zwd := qw_of 1136 (by decide +kernel) (by decide +kernel)
theorem qw_1079 : (Jvm.Cond.code ({ cls := "PathCheckerModel", name := "go", desc := "(I)I" } : Jvm.MethodName) prog_11_method_43_code (2 : Nat) (Option.some Jvm.ClassFile.FieldType.int)) ∈ zwd := qw_of 1137 (by decide +kernel) (by decide +kernel)
theorem qw_1080 : (Jvm.Cond.methodLink "PathCheckerLaw" (112 : Nat) ({ cls := "PathCheckerModel", name := "clear", desc := "()V" } : Jvm.MethodName)) ∈ zwd := qw_of 1138 (by decide +kernel) (by decide +kernel)
theorem qw_1081 : (Jvm.Cond.instanceMethod ({ cls := "PathCheckerModel", name := "clear", desc := "()V" } : Jvm.MethodName)) ∈ zwd := qw_of 1139 (by decide +kernel) (by decide +kernel)
theorem qw_1082 : (Jvm.Cond.selects "PathCheckerModel" ({ cls := "PathCheckerModel", name := "clear", desc := "()V" } : Jvm.MethodName) ({ cls := "PathCheckerModel", name := "clear", desc := "()V" } : Jvm.MethodName)) ∈ zwd := qw_of 1140 (by decide +kernel) (by decide +kernel)
theorem qw_1083 : (Jvm.Cond.code ({ cls := "PathCheckerModel", name := "clear", desc := "()V" } : Jvm.MethodName) prog_11_method_44_code (1 : Nat) (Option.none : Option Jvm.ClassFile.FieldType)) ∈ zwd := qw_of 1141 (by decide +kernel) (by decide +kernel)
theorem qw_1084 : (Jvm.Cond.methodLink "PathCheckerLaw" (115 : Nat) ({ cls := "PathCheckerModel", name := "judge", desc := "(II)Z" } : Jvm.MethodName)) ∈ zwd := qw_of 1142 (by decide +kernel) (by decide +kernel)
theorem qw_1085 : (Jvm.Cond.instanceMethod ({ cls := "PathCheckerModel", name := "judge", desc := "(II)Z" } : Jvm.MethodName)) ∈ zwd := qw_of 1143 (by decide +kernel) (by decide +kernel)
theorem qw_1086 : (Jvm.Cond.selects "PathCheckerModel" ({ cls := "PathCheckerModel", name := "judge", desc := "(II)Z" } : Jvm.MethodName) ({ cls := "PathCheckerModel", name := "judge", desc := "(II)Z" } : Jvm.MethodName)) ∈ zwd := qw_of 1144 (by decide +kernel) (by decide +kernel)
theorem qw_1087 : (Jvm.Cond.code ({ cls := "PathCheckerModel", name := "judge", desc := "(II)Z" } : Jvm.MethodName) prog_11_method_45_code (4 : Nat) (Option.some Jvm.ClassFile.FieldType.boolean)) ∈ zwd := qw_of 1145 (by decide +kernel) (by decide +kernel)
theorem qw_1088 : (Jvm.Cond.constantLong "PathCheckerLaw" (47 : Nat) (4294967295 : Int64)) ∈ zwd := qw_of 1146 (by decide +kernel) (by decide +kernel)
theorem qs_0 : Cond.selects "PathChecker$Reader" (⟨"PathChecker$Reader", "startAnew", "()V"⟩ : MethodName) (⟨"PathChecker$Reader", "startAnew", "()V"⟩ : MethodName) ∈ zwd := qw_of 0 (by decide +kernel) (by decide +kernel)
theorem qs_1 : Cond.selects "PathChecker$Reader" (⟨"PathChecker$Reader", "takeInUnit", "(C)Z"⟩ : MethodName) (⟨"PathChecker$Reader", "takeInUnit", "(C)Z"⟩ : MethodName) ∈ zwd := qw_of 1 (by decide +kernel) (by decide +kernel)
theorem qs_2 : Cond.selects "PathChecker$Reader" (⟨"PathChecker$Reader", "newPart", "(CII)I"⟩ : MethodName) (⟨"PathChecker$Reader", "newPart", "(CII)I"⟩ : MethodName) ∈ zwd := qw_of 2 (by decide +kernel) (by decide +kernel)
theorem qs_3 : Cond.selects "PathChecker$Reader" (⟨"PathChecker$Reader", "await", "(C)V"⟩ : MethodName) (⟨"PathChecker$Reader", "await", "(C)V"⟩ : MethodName) ∈ zwd := qw_of 3 (by decide +kernel) (by decide +kernel)
theorem qs_4 : Cond.selects "PathChecker$Reader" (⟨"PathChecker$Reader", "takeBehindUnit", "(C)Z"⟩ : MethodName) (⟨"PathChecker$Reader", "takeBehindUnit", "(C)Z"⟩ : MethodName) ∈ zwd := qw_of 4 (by decide +kernel) (by decide +kernel)
theorem qs_5 : Cond.selects "PathChecker$Reader" (⟨"PathChecker$Reader", "joinDownTo", "(I)V"⟩ : MethodName) (⟨"PathChecker$Reader", "joinDownTo", "(I)V"⟩ : MethodName) ∈ zwd := qw_of 5 (by decide +kernel) (by decide +kernel)
theorem qs_6 : Cond.selects "PathChecker$Reader" (⟨"PathChecker$Reader", "join", "(C)V"⟩ : MethodName) (⟨"PathChecker$Reader", "join", "(C)V"⟩ : MethodName) ∈ zwd := qw_of 6 (by decide +kernel) (by decide +kernel)
theorem qs_8 : Cond.selects "PathChecker$NormalForm" (⟨"PathChecker$NormalForm", "write", "(LPathChecker$Reader;)V"⟩ : MethodName) (⟨"PathChecker$NormalForm", "write", "(LPathChecker$Reader;)V"⟩ : MethodName) ∈ zwd := qw_of 8 (by decide +kernel) (by decide +kernel)
theorem qs_9 : Cond.selects "PathChecker$NormalForm" (⟨"PathChecker$NormalForm", "keepForLater", "(IZ)V"⟩ : MethodName) (⟨"PathChecker$NormalForm", "keepForLater", "(IZ)V"⟩ : MethodName) ∈ zwd := qw_of 9 (by decide +kernel) (by decide +kernel)
theorem qs_10 : Cond.selects "PathChecker$NormalForm" (⟨"PathChecker$NormalForm", "writeSigns", "(CZ)V"⟩ : MethodName) (⟨"PathChecker$NormalForm", "writeSigns", "(CZ)V"⟩ : MethodName) ∈ zwd := qw_of 10 (by decide +kernel) (by decide +kernel)
theorem qs_11 : Cond.selects "PathChecker$NormalForm" (⟨"PathChecker$NormalForm", "add", "(C)V"⟩ : MethodName) (⟨"PathChecker$NormalForm", "add", "(C)V"⟩ : MethodName) ∈ zwd := qw_of 11 (by decide +kernel) (by decide +kernel)
theorem qs_12 : Cond.selects "PathChecker$NormalForm" (⟨"PathChecker$NormalForm", "connect", "()V"⟩ : MethodName) (⟨"PathChecker$NormalForm", "connect", "()V"⟩ : MethodName) ∈ zwd := qw_of 12 (by decide +kernel) (by decide +kernel)
theorem qs_13 : Cond.selects "PathChecker" (⟨"PathChecker", "bringUpToDate", "()V"⟩ : MethodName) (⟨"PathChecker", "bringUpToDate", "()V"⟩ : MethodName) ∈ zwd := qw_of 13 (by decide +kernel) (by decide +kernel)
theorem qs_14 : Cond.selects "PathChecker$Graph" (⟨"PathChecker$Graph", "weighHere", "(I)V"⟩ : MethodName) (⟨"PathChecker$Graph", "weighHere", "(I)V"⟩ : MethodName) ∈ zwd := qw_of 14 (by decide +kernel) (by decide +kernel)
theorem qs_15 : Cond.selects "PathChecker$Graph" (⟨"PathChecker$Graph", "untimed", "([III)I"⟩ : MethodName) (⟨"PathChecker$Graph", "untimed", "([III)I"⟩ : MethodName) ∈ zwd := qw_of 15 (by decide +kernel) (by decide +kernel)
theorem qs_16 : Cond.selects "PathChecker$Graph" (⟨"PathChecker$Graph", "promptGuesses", "(II)I"⟩ : MethodName) (⟨"PathChecker$Graph", "promptGuesses", "(II)I"⟩ : MethodName) ∈ zwd := qw_of 16 (by decide +kernel) (by decide +kernel)
theorem qs_17 : Cond.selects "PathChecker$Graph" (⟨"PathChecker$Graph", "weighBefore", "(I)V"⟩ : MethodName) (⟨"PathChecker$Graph", "weighBefore", "(I)V"⟩ : MethodName) ∈ zwd := qw_of 17 (by decide +kernel) (by decide +kernel)
theorem qs_18 : Cond.selects "PathChecker$Graph" (⟨"PathChecker$Graph", "timedBefore", "(II)I"⟩ : MethodName) (⟨"PathChecker$Graph", "timedBefore", "(II)I"⟩ : MethodName) ∈ zwd := qw_of 18 (by decide +kernel) (by decide +kernel)
theorem qs_19 : Cond.selects "PathChecker$Graph" (⟨"PathChecker$Graph", "writeGuesses", "(II)V"⟩ : MethodName) (⟨"PathChecker$Graph", "writeGuesses", "(II)V"⟩ : MethodName) ∈ zwd := qw_of 19 (by decide +kernel) (by decide +kernel)
theorem qs_20 : Cond.selects "PathChecker$Knots" (⟨"PathChecker$Knots", "startAnew", "()V"⟩ : MethodName) (⟨"PathChecker$Knots", "startAnew", "()V"⟩ : MethodName) ∈ zwd := qw_of 20 (by decide +kernel) (by decide +kernel)
theorem qs_21 : Cond.selects "PathChecker$Knots" (⟨"PathChecker$Knots", "walkFrom", "(I)V"⟩ : MethodName) (⟨"PathChecker$Knots", "walkFrom", "(I)V"⟩ : MethodName) ∈ zwd := qw_of 21 (by decide +kernel) (by decide +kernel)
theorem qs_22 : Cond.selects "PathChecker$Knots" (⟨"PathChecker$Knots", "enter", "(I)V"⟩ : MethodName) (⟨"PathChecker$Knots", "enter", "(I)V"⟩ : MethodName) ∈ zwd := qw_of 22 (by decide +kernel) (by decide +kernel)
theorem qs_23 : Cond.selects "PathChecker$Knots" (⟨"PathChecker$Knots", "tryStep", "(II)V"⟩ : MethodName) (⟨"PathChecker$Knots", "tryStep", "(II)V"⟩ : MethodName) ∈ zwd := qw_of 23 (by decide +kernel) (by decide +kernel)
theorem qs_24 : Cond.selects "PathChecker$Knots" (⟨"PathChecker$Knots", "release", "(I)V"⟩ : MethodName) (⟨"PathChecker$Knots", "release", "(I)V"⟩ : MethodName) ∈ zwd := qw_of 24 (by decide +kernel) (by decide +kernel)
theorem qs_25 : Cond.selects "PathChecker$Knots" (⟨"PathChecker$Knots", "goesToItself", "(I)Z"⟩ : MethodName) (⟨"PathChecker$Knots", "goesToItself", "(I)Z"⟩ : MethodName) ∈ zwd := qw_of 25 (by decide +kernel) (by decide +kernel)
theorem qs_26 : Cond.selects "PathChecker$Knots" (⟨"PathChecker$Knots", "isPrompt", "()Z"⟩ : MethodName) (⟨"PathChecker$Knots", "isPrompt", "()Z"⟩ : MethodName) ∈ zwd := qw_of 26 (by decide +kernel) (by decide +kernel)
theorem qs_27 : Cond.selects "PathChecker$Nearness" (⟨"PathChecker$Nearness", "oneStepMore", "([III)I"⟩ : MethodName) (⟨"PathChecker$Nearness", "oneStepMore", "([III)I"⟩ : MethodName) ∈ zwd := qw_of 27 (by decide +kernel) (by decide +kernel)
theorem qs_28 : Cond.selects "PathChecker$Nearness" (⟨"PathChecker$Nearness", "growReaching", "()Z"⟩ : MethodName) (⟨"PathChecker$Nearness", "growReaching", "()Z"⟩ : MethodName) ∈ zwd := qw_of 28 (by decide +kernel) (by decide +kernel)
theorem qs_29 : Cond.selects "PathChecker$Search" (⟨"PathChecker$Search", "extend", "(I)V"⟩ : MethodName) (⟨"PathChecker$Search", "extend", "(I)V"⟩ : MethodName) ∈ zwd := qw_of 29 (by decide +kernel) (by decide +kernel)
theorem qs_30 : Cond.selects "PathChecker$Search" (⟨"PathChecker$Search", "closeLoop", "(I)V"⟩ : MethodName) (⟨"PathChecker$Search", "closeLoop", "(I)V"⟩ : MethodName) ∈ zwd := qw_of 30 (by decide +kernel) (by decide +kernel)
theorem qs_31 : Cond.selects "PathChecker$Search" (⟨"PathChecker$Search", "mayGoOnAt", "(II)Z"⟩ : MethodName) (⟨"PathChecker$Search", "mayGoOnAt", "(II)Z"⟩ : MethodName) ∈ zwd := qw_of 31 (by decide +kernel) (by decide +kernel)
theorem qs_32 : Cond.selects "PathChecker$Path" (⟨"PathChecker$Path", "placesBefore", "(II)I"⟩ : MethodName) (⟨"PathChecker$Path", "placesBefore", "(II)I"⟩ : MethodName) ∈ zwd := qw_of 32 (by decide +kernel) (by decide +kernel)
theorem qs_33 : Cond.selects "PathChecker$Path" (⟨"PathChecker$Path", "placesOfUntil", "(III)I"⟩ : MethodName) (⟨"PathChecker$Path", "placesOfUntil", "(III)I"⟩ : MethodName) ∈ zwd := qw_of 33 (by decide +kernel) (by decide +kernel)
theorem qs_34 : Cond.selects "PathChecker$Path" (⟨"PathChecker$Path", "placesOfRelease", "(III)I"⟩ : MethodName) (⟨"PathChecker$Path", "placesOfRelease", "(III)I"⟩ : MethodName) ∈ zwd := qw_of 34 (by decide +kernel) (by decide +kernel)
theorem qs_35 : Cond.selects "PathChecker$Path" (⟨"PathChecker$Path", "placesOfLeaf", "(CLPathChecker$Structure;)I"⟩ : MethodName) (⟨"PathChecker$Path", "placesOfLeaf", "(CLPathChecker$Structure;)I"⟩ : MethodName) ∈ zwd := qw_of 35 (by decide +kernel) (by decide +kernel)
theorem qs_36 : Cond.selects "PathCheckerModel" (⟨"PathCheckerModel", "reads", "()Z"⟩ : MethodName) (⟨"PathCheckerModel", "reads", "()Z"⟩ : MethodName) ∈ zwd := qw_of 36 (by decide +kernel) (by decide +kernel)
theorem qs_37 : Cond.selects "PathCheckerModel" (⟨"PathCheckerModel", "node", "(III)V"⟩ : MethodName) (⟨"PathCheckerModel", "node", "(III)V"⟩ : MethodName) ∈ zwd := qw_of 37 (by decide +kernel) (by decide +kernel)
theorem qs_38 : Cond.selects "PathCheckerModel" (⟨"PathCheckerModel", "reduceFrom", "(I)V"⟩ : MethodName) (⟨"PathCheckerModel", "reduceFrom", "(I)V"⟩ : MethodName) ∈ zwd := qw_of 38 (by decide +kernel) (by decide +kernel)
theorem qs_39 : Cond.selects "PathCheckerModel" (⟨"PathCheckerModel", "reduce", "()V"⟩ : MethodName) (⟨"PathCheckerModel", "reduce", "()V"⟩ : MethodName) ∈ zwd := qw_of 39 (by decide +kernel) (by decide +kernel)
theorem qs_40 : Cond.selects "PathCheckerModel" (⟨"PathCheckerModel", "countTimed", "()I"⟩ : MethodName) (⟨"PathCheckerModel", "countTimed", "()I"⟩ : MethodName) ∈ zwd := qw_of 40 (by decide +kernel) (by decide +kernel)
theorem qs_41 : Cond.selects "PathCheckerModel" (⟨"PathCheckerModel", "forget", "()V"⟩ : MethodName) (⟨"PathCheckerModel", "forget", "()V"⟩ : MethodName) ∈ zwd := qw_of 41 (by decide +kernel) (by decide +kernel)
theorem qs_42 : Cond.selects "PathCheckerModel" (⟨"PathCheckerModel", "write", "()V"⟩ : MethodName) (⟨"PathCheckerModel", "write", "()V"⟩ : MethodName) ∈ zwd := qw_of 42 (by decide +kernel) (by decide +kernel)
theorem qs_43 : Cond.selects "PathCheckerModel" (⟨"PathCheckerModel", "hold", "(IZ)V"⟩ : MethodName) (⟨"PathCheckerModel", "hold", "(IZ)V"⟩ : MethodName) ∈ zwd := qw_of 43 (by decide +kernel) (by decide +kernel)
theorem qs_44 : Cond.selects "PathCheckerModel" (⟨"PathCheckerModel", "emit", "(I)V"⟩ : MethodName) (⟨"PathCheckerModel", "emit", "(I)V"⟩ : MethodName) ∈ zwd := qw_of 44 (by decide +kernel) (by decide +kernel)
theorem qs_45 : Cond.selects "PathCheckerModel" (⟨"PathCheckerModel", "someone", "(Z)I"⟩ : MethodName) (⟨"PathCheckerModel", "someone", "(Z)I"⟩ : MethodName) ∈ zwd := qw_of 45 (by decide +kernel) (by decide +kernel)
theorem qs_46 : Cond.selects "PathCheckerModel" (⟨"PathCheckerModel", "study", "()V"⟩ : MethodName) (⟨"PathCheckerModel", "study", "()V"⟩ : MethodName) ∈ zwd := qw_of 46 (by decide +kernel) (by decide +kernel)
theorem qs_47 : Cond.selects "PathCheckerModel" (⟨"PathCheckerModel", "tables", "()V"⟩ : MethodName) (⟨"PathCheckerModel", "tables", "()V"⟩ : MethodName) ∈ zwd := qw_of 47 (by decide +kernel) (by decide +kernel)
theorem qs_48 : Cond.selects "PathCheckerModel" (⟨"PathCheckerModel", "evaluate", "(II)V"⟩ : MethodName) (⟨"PathCheckerModel", "evaluate", "(II)V"⟩ : MethodName) ∈ zwd := qw_of 48 (by decide +kernel) (by decide +kernel)
theorem qs_49 : Cond.selects "PathCheckerModel" (⟨"PathCheckerModel", "plain", "(II)Z"⟩ : MethodName) (⟨"PathCheckerModel", "plain", "(II)Z"⟩ : MethodName) ∈ zwd := qw_of 49 (by decide +kernel) (by decide +kernel)
theorem qs_50 : Cond.selects "PathCheckerModel" (⟨"PathCheckerModel", "decider", "(I)I"⟩ : MethodName) (⟨"PathCheckerModel", "decider", "(I)I"⟩ : MethodName) ∈ zwd := qw_of 50 (by decide +kernel) (by decide +kernel)
theorem qs_51 : Cond.selects "PathCheckerModel" (⟨"PathCheckerModel", "bitsBefore", "(III)I"⟩ : MethodName) (⟨"PathCheckerModel", "bitsBefore", "(III)I"⟩ : MethodName) ∈ zwd := qw_of 51 (by decide +kernel) (by decide +kernel)
theorem qs_52 : Cond.selects "PathCheckerModel" (⟨"PathCheckerModel", "cut", "(I)Z"⟩ : MethodName) (⟨"PathCheckerModel", "cut", "(I)Z"⟩ : MethodName) ∈ zwd := qw_of 52 (by decide +kernel) (by decide +kernel)
theorem qs_53 : Cond.selects "PathCheckerModel" (⟨"PathCheckerModel", "step", "()V"⟩ : MethodName) (⟨"PathCheckerModel", "step", "()V"⟩ : MethodName) ∈ zwd := qw_of 53 (by decide +kernel) (by decide +kernel)
theorem qs_54 : Cond.selects "PathCheckerModel" (⟨"PathCheckerModel", "search", "(I)V"⟩ : MethodName) (⟨"PathCheckerModel", "search", "(I)V"⟩ : MethodName) ∈ zwd := qw_of 54 (by decide +kernel) (by decide +kernel)
theorem qs_55 : Cond.selects "PathCheckerModel" (⟨"PathCheckerModel", "linked", "()Z"⟩ : MethodName) (⟨"PathCheckerModel", "linked", "()Z"⟩ : MethodName) ∈ zwd := qw_of 55 (by decide +kernel) (by decide +kernel)
theorem qs_56 : Cond.selects "PathCheckerModel" (⟨"PathCheckerModel", "holds", "(I)Z"⟩ : MethodName) (⟨"PathCheckerModel", "holds", "(I)Z"⟩ : MethodName) ∈ zwd := qw_of 56 (by decide +kernel) (by decide +kernel)
theorem qs_57 : Cond.selects "PathCheckerModel" (⟨"PathCheckerModel", "advance", "()Z"⟩ : MethodName) (⟨"PathCheckerModel", "advance", "()Z"⟩ : MethodName) ∈ zwd := qw_of 57 (by decide +kernel) (by decide +kernel)
def zNst : List Cond := [(Jvm.Cond.methodLinkNest "PathChecker" (15 : Nat) ({ cls := "PathChecker$Reader", name := "<init>", desc := "()V" } : Jvm.MethodName) "PathChecker"),
  (Jvm.Cond.fieldLinkNest "PathChecker$NormalForm" (58 : Nat) "PathChecker$Reader" "signs" "[C" "PathChecker"),
  (Jvm.Cond.fieldLinkNest "PathChecker$NormalForm" (64 : Nat) "PathChecker$Reader" "firsts" "[I" "PathChecker"),
  (Jvm.Cond.fieldLinkNest "PathChecker$NormalForm" (63 : Nat) "PathChecker$Reader" "seconds" "[I" "PathChecker"),
  (Jvm.Cond.fieldLinkNest "PathChecker$NormalForm" (49 : Nat) "PathChecker$Reader" "parts" "I" "PathChecker"),
  (Jvm.Cond.fieldLinkNest "PathChecker" (78 : Nat) "PathChecker$Reader" "timed" "I" "PathChecker"),
  (Jvm.Cond.fieldLinkNest "PathChecker$Search" (46 : Nat) "PathChecker$Path" "states" "[I" "PathChecker"),
  (Jvm.Cond.fieldLinkNest "PathChecker" (153 : Nat) "PathChecker$Path" "states" "[I" "PathChecker"),
  (Jvm.Cond.fieldLinkNest "PathChecker$Search" (43 : Nat) "PathChecker$Path" "count" "I" "PathChecker"),
  (Jvm.Cond.fieldLinkNest "PathChecker" (147 : Nat) "PathChecker$Path" "count" "I" "PathChecker"),
  (Jvm.Cond.methodLinkNest "PathChecker" (31 : Nat) ({ cls := "PathChecker$Search", name := "<init>", desc := "()V" } : Jvm.MethodName) "PathChecker"),
  (Jvm.Cond.methodLinkNest "PathChecker$Search" (11 : Nat) ({ cls := "PathChecker$Nearness", name := "<init>", desc := "()V" } : Jvm.MethodName) "PathChecker"),
  (Jvm.Cond.methodLinkNest "PathChecker$Nearness" (11 : Nat) ({ cls := "PathChecker$Knots", name := "<init>", desc := "()V" } : Jvm.MethodName) "PathChecker"),
  (Jvm.Cond.methodLinkNest "PathChecker$Knots" (11 : Nat) ({ cls := "PathChecker$Graph", name := "<init>", desc := "()V" } : Jvm.MethodName) "PathChecker"),
  (Jvm.Cond.methodLinkNest "PathChecker$Graph" (11 : Nat) ({ cls := "PathChecker$NormalForm", name := "<init>", desc := "()V" } : Jvm.MethodName) "PathChecker"),
  (Jvm.Cond.fieldLinkNest "PathChecker$Graph" (86 : Nat) "PathChecker$NormalForm" "signs" "[C" "PathChecker"),
  (Jvm.Cond.fieldLinkNest "PathChecker$Path" (33 : Nat) "PathChecker$NormalForm" "signs" "[C" "PathChecker"),
  (Jvm.Cond.fieldLinkNest "PathChecker" (105 : Nat) "PathChecker$NormalForm" "signs" "[C" "PathChecker"),
  (Jvm.Cond.fieldLinkNest "PathChecker$Graph" (66 : Nat) "PathChecker$NormalForm" "size" "I" "PathChecker"),
  (Jvm.Cond.fieldLinkNest "PathChecker$Path" (28 : Nat) "PathChecker$NormalForm" "size" "I" "PathChecker"),
  (Jvm.Cond.fieldLinkNest "PathChecker" (102 : Nat) "PathChecker$NormalForm" "size" "I" "PathChecker"),
  (Jvm.Cond.fieldLinkNest "PathChecker$Path" (37 : Nat) "PathChecker$NormalForm" "seconds" "[I" "PathChecker"),
  (Jvm.Cond.fieldLinkNest "PathChecker$Graph" (90 : Nat) "PathChecker$NormalForm" "seconds" "[I" "PathChecker"),
  (Jvm.Cond.fieldLinkNest "PathChecker$Graph" (41 : Nat) "PathChecker$NormalForm" "timed" "I" "PathChecker"),
  (Jvm.Cond.fieldLinkNest "PathChecker" (94 : Nat) "PathChecker$NormalForm" "timed" "I" "PathChecker"),
  (Jvm.Cond.fieldLinkNest "PathChecker$Knots" (105 : Nat) "PathChecker$NormalForm" "timed" "I" "PathChecker"),
  (Jvm.Cond.fieldLinkNest "PathChecker$Graph" (79 : Nat) "PathChecker$NormalForm" "timedParts" "[I" "PathChecker"),
  (Jvm.Cond.fieldLinkNest "PathChecker$Graph" (69 : Nat) "PathChecker$NormalForm" "timedNumbers" "[I" "PathChecker"),
  (Jvm.Cond.methodLinkNest "PathChecker$Graph" (20 : Nat) ({ cls := "PathChecker$Structure", name := "<init>", desc := "()V" } : Jvm.MethodName) "PathChecker"),
  (Jvm.Cond.fieldLinkNest "PathChecker$Graph" (63 : Nat) "PathChecker$Structure" "marks" "[I" "PathChecker"),
  (Jvm.Cond.fieldLinkNest "PathChecker" (112 : Nat) "PathChecker$Structure" "marks" "[I" "PathChecker"),
  (Jvm.Cond.fieldLinkNest "PathChecker$Path" (55 : Nat) "PathChecker$Structure" "marks" "[I" "PathChecker"),
  (Jvm.Cond.fieldLinkNest "PathChecker" (122 : Nat) "PathChecker$Structure" "links" "[I" "PathChecker"),
  (Jvm.Cond.fieldLinkNest "PathChecker" (55 : Nat) "PathChecker$Graph" "form" "LPathChecker$NormalForm;" "PathChecker"),
  (Jvm.Cond.fieldLinkNest "PathChecker$Search" (81 : Nat) "PathChecker$Graph" "form" "LPathChecker$NormalForm;" "PathChecker"),
  (Jvm.Cond.fieldLinkNest "PathChecker$Knots" (101 : Nat) "PathChecker$Graph" "form" "LPathChecker$NormalForm;" "PathChecker"),
  (Jvm.Cond.fieldLinkNest "PathChecker" (62 : Nat) "PathChecker$Graph" "structure" "LPathChecker$Structure;" "PathChecker"),
  (Jvm.Cond.fieldLinkNest "PathChecker$Nearness" (41 : Nat) "PathChecker$Graph" "structure" "LPathChecker$Structure;" "PathChecker"),
  (Jvm.Cond.fieldLinkNest "PathChecker$Search" (64 : Nat) "PathChecker$Graph" "structure" "LPathChecker$Structure;" "PathChecker"),
  (Jvm.Cond.fieldLinkNest "PathChecker$Knots" (79 : Nat) "PathChecker$Graph" "structure" "LPathChecker$Structure;" "PathChecker"),
  (Jvm.Cond.fieldLinkNest "PathChecker$Knots" (47 : Nat) "PathChecker$Graph" "guesses" "I" "PathChecker"),
  (Jvm.Cond.fieldLinkNest "PathChecker$Search" (53 : Nat) "PathChecker$Graph" "holding" "[I" "PathChecker"),
  (Jvm.Cond.fieldLinkNest "PathChecker$Nearness" (57 : Nat) "PathChecker$Graph" "holding" "[I" "PathChecker"),
  (Jvm.Cond.fieldLinkNest "PathChecker$Knots" (110 : Nat) "PathChecker$Graph" "prompt" "[I" "PathChecker"),
  (Jvm.Cond.fieldLinkNest "PathChecker$Nearness" (18 : Nat) "PathChecker$Knots" "graph" "LPathChecker$Graph;" "PathChecker"),
  (Jvm.Cond.fieldLinkNest "PathChecker" (48 : Nat) "PathChecker$Knots" "graph" "LPathChecker$Graph;" "PathChecker"),
  (Jvm.Cond.fieldLinkNest "PathChecker$Nearness" (30 : Nat) "PathChecker$Knots" "guesses" "[I" "PathChecker"),
  (Jvm.Cond.fieldLinkNest "PathChecker" (41 : Nat) "PathChecker$Nearness" "knots" "LPathChecker$Knots;" "PathChecker"),
  (Jvm.Cond.fieldLinkNest "PathChecker$Search" (18 : Nat) "PathChecker$Nearness" "graph" "LPathChecker$Graph;" "PathChecker"),
  (Jvm.Cond.fieldLinkNest "PathChecker" (36 : Nat) "PathChecker$Search" "nearness" "LPathChecker$Nearness;" "PathChecker"),
  (Jvm.Cond.fieldLinkNest "PathChecker" (144 : Nat) "PathChecker$Search" "lasso" "LPathChecker$Path;" "PathChecker"),
  (Jvm.Cond.fieldLinkNest "PathChecker" (141 : Nat) "PathChecker$Search" "loop" "I" "PathChecker"),
  (Jvm.Cond.castable "java/lang/IllegalArgumentException" "java/lang/IllegalArgumentException"),
  (Jvm.Cond.declares ({ cls := "java/lang/RuntimeException", name := "<init>", desc := "()V" } : Jvm.MethodName)),
  (Jvm.Cond.declares ({ cls := "java/lang/RuntimeException", name := "<init>", desc := "(Ljava/lang/String;)V" } : Jvm.MethodName)),
  (Jvm.Cond.declares ({ cls := "java/lang/Exception", name := "<init>", desc := "()V" } : Jvm.MethodName)),
  (Jvm.Cond.declares ({ cls := "java/lang/Exception", name := "<init>", desc := "(Ljava/lang/String;)V" } : Jvm.MethodName)),
  (Jvm.Cond.declares ({ cls := "java/lang/Throwable", name := "<init>", desc := "()V" } : Jvm.MethodName)),
  (Jvm.Cond.declares ({ cls := "java/lang/Throwable", name := "<init>", desc := "(Ljava/lang/String;)V" } : Jvm.MethodName)),
  (Jvm.Cond.castable "java/lang/UnsupportedOperationException" "java/lang/UnsupportedOperationException"),
  (Jvm.Cond.methodLinkNest "PathChecker$NormalForm" (82 : Nat) ({ cls := "PathChecker$Reader", name := "isTimed", desc := "(C)Z" } : Jvm.MethodName) "PathChecker"),
  (Jvm.Cond.castable "java/lang/IllegalStateException" "java/lang/IllegalStateException"),
  (Jvm.Cond.castable "java/lang/IndexOutOfBoundsException" "java/lang/IndexOutOfBoundsException"),
  (Jvm.Cond.fieldLinkNest "PathChecker$Graph" (76 : Nat) "PathChecker" "GUESSES_WITH" "[I" "PathChecker")]
def zNk : Cond → Bool
  | .fieldLinkNest .. => true
  | .methodLinkNest .. => true
  | .declares .. => true
  | .castable .. => true
  | _ => false
theorem zNst_is : ∀ w ∈ zNst, zNk w = true := by decide +kernel
theorem zNst_in : ∀ w ∈ zNst, w ∈ lw_tbl := by
  have h : zNst.all (fun w => decide (w ∈ lw_tbl)) = true := by decide +kernel
  exact fun w hw => of_decide_eq_true (List.all_eq_true.mp h w hw)
theorem zn_34 : (Jvm.Cond.fieldLinkNest "PathChecker$NormalForm" (58 : Nat) "PathChecker$Reader" "signs" "[C" "PathChecker") ∈ zNst := List.mem_of_getElem? (i := 1) (by decide +kernel)
theorem zn_36 : (Jvm.Cond.fieldLinkNest "PathChecker$NormalForm" (64 : Nat) "PathChecker$Reader" "firsts" "[I" "PathChecker") ∈ zNst := List.mem_of_getElem? (i := 2) (by decide +kernel)
theorem zn_38 : (Jvm.Cond.fieldLinkNest "PathChecker$NormalForm" (63 : Nat) "PathChecker$Reader" "seconds" "[I" "PathChecker") ∈ zNst := List.mem_of_getElem? (i := 3) (by decide +kernel)
theorem zn_40 : (Jvm.Cond.fieldLinkNest "PathChecker$NormalForm" (49 : Nat) "PathChecker$Reader" "parts" "I" "PathChecker") ∈ zNst := List.mem_of_getElem? (i := 4) (by decide +kernel)
theorem zn_42 : (Jvm.Cond.fieldLinkNest "PathChecker" (78 : Nat) "PathChecker$Reader" "timed" "I" "PathChecker") ∈ zNst := List.mem_of_getElem? (i := 5) (by decide +kernel)
theorem zn_81 : (Jvm.Cond.fieldLinkNest "PathChecker$Search" (46 : Nat) "PathChecker$Path" "states" "[I" "PathChecker") ∈ zNst := List.mem_of_getElem? (i := 6) (by decide +kernel)
theorem zn_82 : (Jvm.Cond.fieldLinkNest "PathChecker" (153 : Nat) "PathChecker$Path" "states" "[I" "PathChecker") ∈ zNst := List.mem_of_getElem? (i := 7) (by decide +kernel)
theorem zn_84 : (Jvm.Cond.fieldLinkNest "PathChecker$Search" (43 : Nat) "PathChecker$Path" "count" "I" "PathChecker") ∈ zNst := List.mem_of_getElem? (i := 8) (by decide +kernel)
theorem zn_85 : (Jvm.Cond.fieldLinkNest "PathChecker" (147 : Nat) "PathChecker$Path" "count" "I" "PathChecker") ∈ zNst := List.mem_of_getElem? (i := 9) (by decide +kernel)
theorem zn_125 : (Jvm.Cond.fieldLinkNest "PathChecker$Graph" (86 : Nat) "PathChecker$NormalForm" "signs" "[C" "PathChecker") ∈ zNst := List.mem_of_getElem? (i := 15) (by decide +kernel)
theorem zn_126 : (Jvm.Cond.fieldLinkNest "PathChecker$Path" (33 : Nat) "PathChecker$NormalForm" "signs" "[C" "PathChecker") ∈ zNst := List.mem_of_getElem? (i := 16) (by decide +kernel)
theorem zn_127 : (Jvm.Cond.fieldLinkNest "PathChecker" (105 : Nat) "PathChecker$NormalForm" "signs" "[C" "PathChecker") ∈ zNst := List.mem_of_getElem? (i := 17) (by decide +kernel)
theorem zn_129 : (Jvm.Cond.fieldLinkNest "PathChecker$Graph" (66 : Nat) "PathChecker$NormalForm" "size" "I" "PathChecker") ∈ zNst := List.mem_of_getElem? (i := 18) (by decide +kernel)
theorem zn_130 : (Jvm.Cond.fieldLinkNest "PathChecker$Path" (28 : Nat) "PathChecker$NormalForm" "size" "I" "PathChecker") ∈ zNst := List.mem_of_getElem? (i := 19) (by decide +kernel)
theorem zn_131 : (Jvm.Cond.fieldLinkNest "PathChecker" (102 : Nat) "PathChecker$NormalForm" "size" "I" "PathChecker") ∈ zNst := List.mem_of_getElem? (i := 20) (by decide +kernel)
theorem zn_133 : (Jvm.Cond.fieldLinkNest "PathChecker$Path" (37 : Nat) "PathChecker$NormalForm" "seconds" "[I" "PathChecker") ∈ zNst := List.mem_of_getElem? (i := 21) (by decide +kernel)
theorem zn_134 : (Jvm.Cond.fieldLinkNest "PathChecker$Graph" (90 : Nat) "PathChecker$NormalForm" "seconds" "[I" "PathChecker") ∈ zNst := List.mem_of_getElem? (i := 22) (by decide +kernel)
theorem zn_136 : (Jvm.Cond.fieldLinkNest "PathChecker$Graph" (41 : Nat) "PathChecker$NormalForm" "timed" "I" "PathChecker") ∈ zNst := List.mem_of_getElem? (i := 23) (by decide +kernel)
theorem zn_137 : (Jvm.Cond.fieldLinkNest "PathChecker" (94 : Nat) "PathChecker$NormalForm" "timed" "I" "PathChecker") ∈ zNst := List.mem_of_getElem? (i := 24) (by decide +kernel)
theorem zn_139 : (Jvm.Cond.fieldLinkNest "PathChecker$Knots" (105 : Nat) "PathChecker$NormalForm" "timed" "I" "PathChecker") ∈ zNst := List.mem_of_getElem? (i := 25) (by decide +kernel)
theorem zn_141 : (Jvm.Cond.fieldLinkNest "PathChecker$Graph" (79 : Nat) "PathChecker$NormalForm" "timedParts" "[I" "PathChecker") ∈ zNst := List.mem_of_getElem? (i := 26) (by decide +kernel)
theorem zn_143 : (Jvm.Cond.fieldLinkNest "PathChecker$Graph" (69 : Nat) "PathChecker$NormalForm" "timedNumbers" "[I" "PathChecker") ∈ zNst := List.mem_of_getElem? (i := 27) (by decide +kernel)
theorem zn_176 : (Jvm.Cond.fieldLinkNest "PathChecker$Graph" (63 : Nat) "PathChecker$Structure" "marks" "[I" "PathChecker") ∈ zNst := List.mem_of_getElem? (i := 29) (by decide +kernel)
theorem zn_177 : (Jvm.Cond.fieldLinkNest "PathChecker" (112 : Nat) "PathChecker$Structure" "marks" "[I" "PathChecker") ∈ zNst := List.mem_of_getElem? (i := 30) (by decide +kernel)
theorem zn_178 : (Jvm.Cond.fieldLinkNest "PathChecker$Path" (55 : Nat) "PathChecker$Structure" "marks" "[I" "PathChecker") ∈ zNst := List.mem_of_getElem? (i := 31) (by decide +kernel)
theorem zn_180 : (Jvm.Cond.fieldLinkNest "PathChecker" (122 : Nat) "PathChecker$Structure" "links" "[I" "PathChecker") ∈ zNst := List.mem_of_getElem? (i := 32) (by decide +kernel)
theorem zn_187 : (Jvm.Cond.fieldLinkNest "PathChecker" (55 : Nat) "PathChecker$Graph" "form" "LPathChecker$NormalForm;" "PathChecker") ∈ zNst := List.mem_of_getElem? (i := 33) (by decide +kernel)
theorem zn_188 : (Jvm.Cond.fieldLinkNest "PathChecker$Search" (81 : Nat) "PathChecker$Graph" "form" "LPathChecker$NormalForm;" "PathChecker") ∈ zNst := List.mem_of_getElem? (i := 34) (by decide +kernel)
theorem zn_189 : (Jvm.Cond.fieldLinkNest "PathChecker$Knots" (101 : Nat) "PathChecker$Graph" "form" "LPathChecker$NormalForm;" "PathChecker") ∈ zNst := List.mem_of_getElem? (i := 35) (by decide +kernel)
theorem zn_191 : (Jvm.Cond.fieldLinkNest "PathChecker" (62 : Nat) "PathChecker$Graph" "structure" "LPathChecker$Structure;" "PathChecker") ∈ zNst := List.mem_of_getElem? (i := 36) (by decide +kernel)
theorem zn_192 : (Jvm.Cond.fieldLinkNest "PathChecker$Nearness" (41 : Nat) "PathChecker$Graph" "structure" "LPathChecker$Structure;" "PathChecker") ∈ zNst := List.mem_of_getElem? (i := 37) (by decide +kernel)
theorem zn_193 : (Jvm.Cond.fieldLinkNest "PathChecker$Search" (64 : Nat) "PathChecker$Graph" "structure" "LPathChecker$Structure;" "PathChecker") ∈ zNst := List.mem_of_getElem? (i := 38) (by decide +kernel)
theorem zn_194 : (Jvm.Cond.fieldLinkNest "PathChecker$Knots" (79 : Nat) "PathChecker$Graph" "structure" "LPathChecker$Structure;" "PathChecker") ∈ zNst := List.mem_of_getElem? (i := 39) (by decide +kernel)
theorem zn_196 : (Jvm.Cond.fieldLinkNest "PathChecker$Knots" (47 : Nat) "PathChecker$Graph" "guesses" "I" "PathChecker") ∈ zNst := List.mem_of_getElem? (i := 40) (by decide +kernel)
theorem zn_201 : (Jvm.Cond.fieldLinkNest "PathChecker$Search" (53 : Nat) "PathChecker$Graph" "holding" "[I" "PathChecker") ∈ zNst := List.mem_of_getElem? (i := 41) (by decide +kernel)
theorem zn_202 : (Jvm.Cond.fieldLinkNest "PathChecker$Nearness" (57 : Nat) "PathChecker$Graph" "holding" "[I" "PathChecker") ∈ zNst := List.mem_of_getElem? (i := 42) (by decide +kernel)
theorem zn_204 : (Jvm.Cond.fieldLinkNest "PathChecker$Knots" (110 : Nat) "PathChecker$Graph" "prompt" "[I" "PathChecker") ∈ zNst := List.mem_of_getElem? (i := 43) (by decide +kernel)
theorem zn_223 : (Jvm.Cond.fieldLinkNest "PathChecker$Nearness" (18 : Nat) "PathChecker$Knots" "graph" "LPathChecker$Graph;" "PathChecker") ∈ zNst := List.mem_of_getElem? (i := 44) (by decide +kernel)
theorem zn_224 : (Jvm.Cond.fieldLinkNest "PathChecker" (48 : Nat) "PathChecker$Knots" "graph" "LPathChecker$Graph;" "PathChecker") ∈ zNst := List.mem_of_getElem? (i := 45) (by decide +kernel)
theorem zn_226 : (Jvm.Cond.fieldLinkNest "PathChecker$Nearness" (30 : Nat) "PathChecker$Knots" "guesses" "[I" "PathChecker") ∈ zNst := List.mem_of_getElem? (i := 46) (by decide +kernel)
theorem zn_263 : (Jvm.Cond.fieldLinkNest "PathChecker" (41 : Nat) "PathChecker$Nearness" "knots" "LPathChecker$Knots;" "PathChecker") ∈ zNst := List.mem_of_getElem? (i := 47) (by decide +kernel)
theorem zn_264 : (Jvm.Cond.fieldLinkNest "PathChecker$Search" (18 : Nat) "PathChecker$Nearness" "graph" "LPathChecker$Graph;" "PathChecker") ∈ zNst := List.mem_of_getElem? (i := 48) (by decide +kernel)
theorem zn_280 : (Jvm.Cond.fieldLinkNest "PathChecker" (36 : Nat) "PathChecker$Search" "nearness" "LPathChecker$Nearness;" "PathChecker") ∈ zNst := List.mem_of_getElem? (i := 49) (by decide +kernel)
theorem zn_283 : (Jvm.Cond.fieldLinkNest "PathChecker" (144 : Nat) "PathChecker$Search" "lasso" "LPathChecker$Path;" "PathChecker") ∈ zNst := List.mem_of_getElem? (i := 50) (by decide +kernel)
theorem zn_287 : (Jvm.Cond.fieldLinkNest "PathChecker" (141 : Nat) "PathChecker$Search" "loop" "I" "PathChecker") ∈ zNst := List.mem_of_getElem? (i := 51) (by decide +kernel)
theorem zn_547 : (Jvm.Cond.methodLinkNest "PathChecker$NormalForm" (82 : Nat) ({ cls := "PathChecker$Reader", name := "isTimed", desc := "(C)Z" } : Jvm.MethodName) "PathChecker") ∈ zNst := List.mem_of_getElem? (i := 60) (by decide +kernel)
theorem zn_617 : (Jvm.Cond.fieldLinkNest "PathChecker$Graph" (76 : Nat) "PathChecker" "GUESSES_WITH" "[I" "PathChecker") ∈ zNst := List.mem_of_getElem? (i := 63) (by decide +kernel)
abbrev zH : Type := (Nat × Nat) ⊕ (Nat × List (Option Nat))
def zN : Nat := 74
def zshL : List zH := [
  .inr (0, [some 1, none, some 2, some 8, some 11, some 16, some 19, some 28, some 34, some 42, none]),
  .inl (1, 32),
  .inr (6, [some 3, some 4, some 5, none, none, some 6, none, some 7, none, none, none]),
  .inl (1, 32),
  .inl (0, 32),
  .inl (0, 32),
  .inl (1, 32),
  .inl (0, 32),
  .inr (5, [some 9, none, some 10]),
  .inl (0, 8),
  .inl (0, 37),
  .inr (7, [some 16, some 28, some 13, some 12, none, none]),
  .inl (0, 6),
  .inr (5, [some 14, none, some 15]),
  .inl (0, 6),
  .inl (0, 37),
  .inr (3, [some 19, some 28, some 17, some 18]),
  .inl (0, 36),
  .inl (0, 6),
  .inr (2, [some 28, some 20, some 21, none, some 22, some 23, some 24, none, some 25, none, some 26, some 27]),
  .inl (0, 6),
  .inl (0, 192),
  .inl (0, 192),
  .inl (0, 192),
  .inl (0, 192),
  .inl (0, 192),
  .inl (2, 192),
  .inl (0, 6),
  .inr (1, [some 34, some 42, none, some 29, some 30, some 31, some 32, some 33]),
  .inl (0, 37),
  .inl (0, 37),
  .inl (0, 1152),
  .inl (0, 6),
  .inl (0, 30),
  .inr (4, [some 35, none, some 36, some 37, none, some 38, some 39, some 40, some 41, none]),
  .inl (1, 37),
  .inl (0, 37),
  .inl (0, 37),
  .inl (0, 5),
  .inl (0, 37),
  .inl (0, 32),
  .inl (2, 32),
  .inr (8, [some 43, some 44]),
  .inl (0, 6),
  .inl (0, 6),
  .inr (9, [none, none, some 46, none, none, some 47, some 48, some 49, some 50, none, none, some 51, some 52, some 53, none, some 54, none, some 55, none, none, some 56, some 57, some 58, none, some 59, none, some 60, some 61, some 62, some 63, some 64, some 65, some 66, some 67, none, none, some 68, some 69, some 70, some 71, some 72]),
  .inl (0, 32),
  .inl (0, 40),
  .inl (0, 40),
  .inl (0, 40),
  .inl (0, 40),
  .inl (0, 40),
  .inl (0, 40),
  .inl (0, 40),
  .inl (0, 40),
  .inl (0, 40),
  .inl (0, 100),
  .inl (0, 6),
  .inl (2, 36),
  .inl (0, 8),
  .inl (0, 2304),
  .inl (2, 384),
  .inl (2, 40),
  .inl (3, 6),
  .inl (3, 6),
  .inl (3, 6),
  .inl (3, 6),
  .inl (3, 36),
  .inl (0, 8),
  .inl (2, 320),
  .inl (0, 6),
  .inl (0, 6),
  .inl (0, 36),
  .inl (3, 1)]
def zsh (o : Nat) : zH := zshL.getD o (.inl (0, 0))
-- 0 pc
-- 1 pc.text
-- 2 reader
-- 3 reader.signs
-- 4 reader.firsts
-- 5 reader.seconds
-- 6 reader.waiting
-- 7 reader.ready
-- 8 row
-- 9 row.states
-- 10 row.holds
-- 11 search
-- 12 search.open
-- 13 lasso
-- 14 lasso.states
-- 15 lasso.holds
-- 16 nearness
-- 17 nearness.near
-- 18 nearness.reaching
-- 19 knots
-- 20 knots.guesses
-- 21 knots.numbers
-- 22 knots.lows
-- 23 knots.tried
-- 24 knots.walk
-- 25 knots.held
-- 26 knots.isHeld
-- 27 knots.members
-- 28 graph
-- 29 graph.here
-- 30 graph.before
-- 31 graph.guessBefore
-- 32 graph.holding
-- 33 graph.prompt
-- 34 form
-- 35 form.signs
-- 36 form.seconds
-- 37 form.ends
-- 38 form.timedParts
-- 39 form.timedNumbers
-- 40 form.todo
-- 41 form.todoNegated
-- 42 structure
-- 43 structure.marks
-- 44 structure.links
-- 45 mo
-- 46 mo.text
-- 47 mo.kind
-- 48 mo.left
-- 49 mo.right
-- 50 mo.bitOf
-- 51 mo.newKind
-- 52 mo.newLeft
-- 53 mo.newRight
-- 54 mo.operand
-- 55 mo.operator
-- 56 mo.normalForm
-- 57 mo.marks
-- 58 mo.links
-- 59 mo.row
-- 60 mo.before
-- 61 mo.top
-- 62 mo.value
-- 63 mo.fair
-- 64 mo.good
-- 65 mo.reach
-- 66 mo.back
-- 67 mo.goal
-- 68 mo.lasso
-- 69 mo.at
-- 70 mo.foundSize
-- 71 mo.foundTurn
-- 72 mo.found
-- 73 out
def zgi : Nat → Int32 := fun j => match j with
  | 0 => -1431655766
  | 1 => -858993460
  | 2 => -252645136
  | 3 => -16711936
  | _ => -65536
def zgw (j : Nat) : Value := .int (zgi j)
