def T_Row : u_T := fun k => match k with
  | 0 => ("PatternMachine$Row", "signs", "[C", true)
  | _ => ("PatternMachine$Row", "length", "I", false)
def t_Row : Nat → FieldType := fun k => match k with
  | 0 => (.array .char)
  | _ => .int
theorem n_Row : ∀ a, a < 2 → ∀ b, b < 2 → a ≠ b → (T_Row a).2.1 ≠ (T_Row b).2.1 := by decide +kernel
theorem t_Row_ok : ∀ k, k < 2 → parseFieldDescriptor (T_Row k).2.2.1 = some (t_Row k) := by decide +kernel
def T_Node : u_T := fun k => match k with
  | 0 => ("PatternMachine$Node", "kind", "I", false)
  | 1 => ("PatternMachine$Node", "first", "LPatternMachine$Node;", false)
  | 2 => ("PatternMachine$Node", "last", "LPatternMachine$Node;", false)
  | 3 => ("PatternMachine$Node", "next", "LPatternMachine$Node;", false)
  | 4 => ("PatternMachine$Node", "number", "I", false)
  | 5 => ("PatternMachine$Node", "low", "I", false)
  | 6 => ("PatternMachine$Node", "high", "I", false)
  | 7 => ("PatternMachine$Node", "lazy", "Z", false)
  | 8 => ("PatternMachine$Node", "below", "J", false)
  | 9 => ("PatternMachine$Node", "above", "J", false)
  | _ => ("PatternMachine$Node", "size", "I", false)
def t_Node : Nat → FieldType := fun k => match k with
  | 0 => .int
  | 1 => (.object "PatternMachine$Node")
  | 2 => (.object "PatternMachine$Node")
  | 3 => (.object "PatternMachine$Node")
  | 4 => .int
  | 5 => .int
  | 6 => .int
  | 7 => .boolean
  | 8 => .long
  | 9 => .long
  | _ => .int
theorem n_Node : ∀ a, a < 11 → ∀ b, b < 11 → a ≠ b → (T_Node a).2.1 ≠ (T_Node b).2.1 := by decide +kernel
theorem t_Node_ok : ∀ k, k < 11 → parseFieldDescriptor (T_Node k).2.2.1 = some (t_Node k) := by decide +kernel
def T_Reader : u_T := fun k => match k with
  | 0 => ("PatternMachine$Reader", "line", "LPatternMachine$Row;", true)
  | 1 => ("PatternMachine$Reader", "nodes", "[LPatternMachine$Node;", true)
  | 2 => ("PatternMachine$Reader", "used", "I", false)
  | 3 => ("PatternMachine$Reader", "at", "I", false)
  | 4 => ("PatternMachine$Reader", "flags", "I", false)
  | 5 => ("PatternMachine$Reader", "groups", "I", false)
  | 6 => ("PatternMachine$Reader", "below", "J", false)
  | _ => ("PatternMachine$Reader", "above", "J", false)
def t_Reader : Nat → FieldType := fun k => match k with
  | 0 => (.object "PatternMachine$Row")
  | 1 => (.array (.object "PatternMachine$Node"))
  | 2 => .int
  | 3 => .int
  | 4 => .int
  | 5 => .int
  | 6 => .long
  | _ => .long
theorem n_Reader : ∀ a, a < 8 → ∀ b, b < 8 → a ≠ b → (T_Reader a).2.1 ≠ (T_Reader b).2.1 := by decide +kernel
theorem t_Reader_ok : ∀ k, k < 8 → parseFieldDescriptor (T_Reader k).2.2.1 = some (t_Reader k) := by decide +kernel
def T_Program : u_T := fun k => match k with
  | 0 => ("PatternMachine$Program", "kind", "[I", true)
  | 1 => ("PatternMachine$Program", "operand", "[I", true)
  | 2 => ("PatternMachine$Program", "stars", "[I", true)
  | 3 => ("PatternMachine$Program", "below", "[J", true)
  | 4 => ("PatternMachine$Program", "above", "[J", true)
  | 5 => ("PatternMachine$Program", "used", "I", false)
  | _ => ("PatternMachine$Program", "groups", "I", false)
def t_Program : Nat → FieldType := fun k => match k with
  | 0 => (.array .int)
  | 1 => (.array .int)
  | 2 => (.array .int)
  | 3 => (.array .long)
  | 4 => (.array .long)
  | 5 => .int
  | _ => .int
theorem n_Program : ∀ a, a < 7 → ∀ b, b < 7 → a ≠ b → (T_Program a).2.1 ≠ (T_Program b).2.1 := by decide +kernel
theorem t_Program_ok : ∀ k, k < 7 → parseFieldDescriptor (T_Program k).2.2.1 = some (t_Program k) := by decide +kernel
def T_Threads : u_T := fun k => match k with
  | 0 => ("PatternMachine$Threads", "steps", "[I", true)
  | 1 => ("PatternMachine$Threads", "caught", "[I", true)
  | 2 => ("PatternMachine$Threads", "seen", "[I", true)
  | _ => ("PatternMachine$Threads", "number", "I", false)
def t_Threads : Nat → FieldType := fun k => match k with
  | 0 => (.array .int)
  | 1 => (.array .int)
  | 2 => (.array .int)
  | _ => .int
theorem n_Threads : ∀ a, a < 4 → ∀ b, b < 4 → a ≠ b → (T_Threads a).2.1 ≠ (T_Threads b).2.1 := by decide +kernel
theorem t_Threads_ok : ∀ k, k < 4 → parseFieldDescriptor (T_Threads k).2.2.1 = some (t_Threads k) := by decide +kernel
def T_Machine : u_T := fun k => match k with
  | 0 => ("PatternMachine$Machine", "program", "LPatternMachine$Program;", true)
  | 1 => ("PatternMachine$Machine", "body", "LPatternMachine$Row;", true)
  | 2 => ("PatternMachine$Machine", "slots", "[I", true)
  | 3 => ("PatternMachine$Machine", "best", "[I", true)
  | 4 => ("PatternMachine$Machine", "waiting", "[I", true)
  | 5 => ("PatternMachine$Machine", "values", "[I", true)
  | 6 => ("PatternMachine$Machine", "waitingNumber", "I", false)
  | 7 => ("PatternMachine$Machine", "now", "LPatternMachine$Threads;", false)
  | _ => ("PatternMachine$Machine", "then", "LPatternMachine$Threads;", false)
def t_Machine : Nat → FieldType := fun k => match k with
  | 0 => (.object "PatternMachine$Program")
  | 1 => (.object "PatternMachine$Row")
  | 2 => (.array .int)
  | 3 => (.array .int)
  | 4 => (.array .int)
  | 5 => (.array .int)
  | 6 => .int
  | 7 => (.object "PatternMachine$Threads")
  | _ => (.object "PatternMachine$Threads")
theorem n_Machine : ∀ a, a < 9 → ∀ b, b < 9 → a ≠ b → (T_Machine a).2.1 ≠ (T_Machine b).2.1 := by decide +kernel
theorem t_Machine_ok : ∀ k, k < 9 → parseFieldDescriptor (T_Machine k).2.2.1 = some (t_Machine k) := by decide +kernel
def T_PM : u_T := fun k => match k with
  | 0 => ("PatternMachine", "line", "LPatternMachine$Row;", true)
  | 1 => ("PatternMachine", "body", "LPatternMachine$Row;", true)
  | 2 => ("PatternMachine", "spare", "LPatternMachine$Row;", true)
  | 3 => ("PatternMachine", "reader", "LPatternMachine$Reader;", true)
  | 4 => ("PatternMachine", "program", "LPatternMachine$Program;", true)
  | 5 => ("PatternMachine", "machine", "LPatternMachine$Machine;", true)
  | 6 => ("PatternMachine", "hasPattern", "Z", false)
  | _ => ("PatternMachine", "found", "Z", false)
def t_PM : Nat → FieldType := fun k => match k with
  | 0 => (.object "PatternMachine$Row")
  | 1 => (.object "PatternMachine$Row")
  | 2 => (.object "PatternMachine$Row")
  | 3 => (.object "PatternMachine$Reader")
  | 4 => (.object "PatternMachine$Program")
  | 5 => (.object "PatternMachine$Machine")
  | 6 => .boolean
  | _ => .boolean
theorem n_PM : ∀ a, a < 8 → ∀ b, b < 8 → a ≠ b → (T_PM a).2.1 ≠ (T_PM b).2.1 := by decide +kernel
theorem t_PM_ok : ∀ k, k < 8 → parseFieldDescriptor (T_PM k).2.2.1 = some (t_PM k) := by decide +kernel
def T_Model : u_T := fun k => match k with
  | 0 => ("PatternMachineModel", "thrown", "I", false)
  | 1 => ("PatternMachineModel", "line", "[C", true)
  | 2 => ("PatternMachineModel", "length", "I", false)
  | 3 => ("PatternMachineModel", "at", "I", false)
  | 4 => ("PatternMachineModel", "text", "[C", true)
  | 5 => ("PatternMachineModel", "end", "I", false)
  | 6 => ("PatternMachineModel", "op", "[I", true)
  | 7 => ("PatternMachineModel", "first", "[I", true)
  | 8 => ("PatternMachineModel", "second", "[I", true)
  | 9 => ("PatternMachineModel", "low", "[J", true)
  | 10 => ("PatternMachineModel", "high", "[J", true)
  | 11 => ("PatternMachineModel", "size", "I", false)
  | 12 => ("PatternMachineModel", "groups", "I", false)
  | 13 => ("PatternMachineModel", "flags", "I", false)
  | 14 => ("PatternMachineModel", "lays", "Z", false)
  | 15 => ("PatternMachineModel", "bad", "Z", false)
  | 16 => ("PatternMachineModel", "open", "I", false)
  | 17 => ("PatternMachineModel", "opened", "I", false)
  | 18 => ("PatternMachineModel", "newFlags", "I", false)
  | 19 => ("PatternMachineModel", "begins", "[I", true)
  | 20 => ("PatternMachineModel", "chain", "[I", true)
  | 21 => ("PatternMachineModel", "sizes", "[I", true)
  | 22 => ("PatternMachineModel", "number", "[I", true)
  | 23 => ("PatternMachineModel", "jumps", "[I", true)
  | 24 => ("PatternMachineModel", "atom", "I", false)
  | 25 => ("PatternMachineModel", "atomSize", "I", false)
  | 26 => ("PatternMachineModel", "setLow", "J", false)
  | 27 => ("PatternMachineModel", "setHigh", "J", false)
  | 28 => ("PatternMachineModel", "copyOp", "[I", true)
  | 29 => ("PatternMachineModel", "copyFirst", "[I", true)
  | 30 => ("PatternMachineModel", "copySecond", "[I", true)
  | 31 => ("PatternMachineModel", "copyLow", "[J", true)
  | 32 => ("PatternMachineModel", "copyHigh", "[J", true)
  | 33 => ("PatternMachineModel", "leads", "[J", true)
  | 34 => ("PatternMachineModel", "worked", "Z", false)
  | 35 => ("PatternMachineModel", "workedWhole", "Z", false)
  | 36 => ("PatternMachineModel", "been", "[I", true)
  | 37 => ("PatternMachineModel", "todo", "[I", true)
  | 38 => ("PatternMachineModel", "todoWith", "[I", true)
  | 39 => ("PatternMachineModel", "waiting", "I", false)
  | 40 => ("PatternMachineModel", "caught", "[I", true)
  | 41 => ("PatternMachineModel", "best", "[I", true)
  | 42 => ("PatternMachineModel", "known", "Z", false)
  | 43 => ("PatternMachineModel", "made", "[C", true)
  | _ => ("PatternMachineModel", "makes", "I", false)
def t_Model : Nat → FieldType := fun k => match k with
  | 0 => .int
  | 1 => (.array .char)
  | 2 => .int
  | 3 => .int
  | 4 => (.array .char)
  | 5 => .int
  | 6 => (.array .int)
  | 7 => (.array .int)
  | 8 => (.array .int)
  | 9 => (.array .long)
  | 10 => (.array .long)
  | 11 => .int
  | 12 => .int
  | 13 => .int
  | 14 => .boolean
  | 15 => .boolean
  | 16 => .int
  | 17 => .int
  | 18 => .int
  | 19 => (.array .int)
  | 20 => (.array .int)
  | 21 => (.array .int)
  | 22 => (.array .int)
  | 23 => (.array .int)
  | 24 => .int
  | 25 => .int
  | 26 => .long
  | 27 => .long
  | 28 => (.array .int)
  | 29 => (.array .int)
  | 30 => (.array .int)
  | 31 => (.array .long)
  | 32 => (.array .long)
  | 33 => (.array .long)
  | 34 => .boolean
  | 35 => .boolean
  | 36 => (.array .int)
  | 37 => (.array .int)
  | 38 => (.array .int)
  | 39 => .int
  | 40 => (.array .int)
  | 41 => (.array .int)
  | 42 => .boolean
  | 43 => (.array .char)
  | _ => .int
theorem n_Model : ∀ a, a < 45 → ∀ b, b < 45 → a ≠ b → (T_Model a).2.1 ≠ (T_Model b).2.1 := by decide +kernel
theorem t_Model_ok : ∀ k, k < 45 → parseFieldDescriptor (T_Model k).2.2.1 = some (t_Model k) := by decide +kernel
abbrev clP : List vw_C := [("PatternMachine$Row", T_Row, 2), ("PatternMachine$Node", T_Node, 11), ("PatternMachine$Reader", T_Reader, 8), ("PatternMachine$Program", T_Program, 7), ("PatternMachine$Threads", T_Threads, 4), ("PatternMachine$Machine", T_Machine, 9), ("PatternMachine", T_PM, 8), ("PatternMachineModel", T_Model, 45)]
abbrev y_Row_init : MethodName := ⟨"PatternMachine$Row", "<init>", "(I)V"⟩
abbrev y_Node_init : MethodName := ⟨"PatternMachine$Node", "<init>", "()V"⟩
abbrev y_Program_init : MethodName := ⟨"PatternMachine$Program", "<init>", "()V"⟩
abbrev y_Threads_init : MethodName := ⟨"PatternMachine$Threads", "<init>", "()V"⟩
abbrev y_Machine_init : MethodName := ⟨"PatternMachine$Machine", "<init>", "(LPatternMachine$Program;LPatternMachine$Row;)V"⟩
abbrev y_Reader_init : MethodName := ⟨"PatternMachine$Reader", "<init>", "(LPatternMachine$Row;)V"⟩
abbrev y_PM_init : MethodName := ⟨"PatternMachine", "<init>", "()V"⟩
abbrev y_Row_at : MethodName := ⟨"PatternMachine$Row", "at", "(I)I"⟩
abbrev y_Row_put : MethodName := ⟨"PatternMachine$Row", "put", "(C)Z"⟩
abbrev y_Row_putPart : MethodName := ⟨"PatternMachine$Row", "putPart", "(LPatternMachine$Row;II)V"⟩
abbrev y_Node_begin : MethodName := ⟨"PatternMachine$Node", "begin", "(I)V"⟩
abbrev y_Node_append : MethodName := ⟨"PatternMachine$Node", "append", "(LPatternMachine$Node;)V"⟩
abbrev y_Reader_fresh : MethodName := ⟨"PatternMachine$Reader", "fresh", "(I)LPatternMachine$Node;"⟩
abbrev y_Reader_skip : MethodName := ⟨"PatternMachine$Reader", "skip", "(C)Z"⟩
abbrev y_Reader_chainEnds : MethodName := ⟨"PatternMachine$Reader", "chainEnds", "()Z"⟩
abbrev y_Reader_readChain : MethodName := ⟨"PatternMachine$Reader", "readChain", "(I)LPatternMachine$Node;"⟩
abbrev y_Reader_readPattern : MethodName := ⟨"PatternMachine$Reader", "readPattern", "(I)LPatternMachine$Node;"⟩
abbrev y_Reader_read : MethodName := ⟨"PatternMachine$Reader", "read", "(I)LPatternMachine$Node;"⟩
abbrev y_Program_put : MethodName := ⟨"PatternMachine$Program", "put", "(III)V"⟩
abbrev y_Program_writeParts : MethodName := ⟨"PatternMachine$Program", "writeParts", "(LPatternMachine$Node;II)V"⟩
abbrev y_Program_writeNode : MethodName := ⟨"PatternMachine$Program", "writeNode", "(LPatternMachine$Node;II)V"⟩
abbrev y_Program_writeChains : MethodName := ⟨"PatternMachine$Program", "writeChains", "(LPatternMachine$Node;II)V"⟩
abbrev y_Program_write : MethodName := ⟨"PatternMachine$Program", "write", "(LPatternMachine$Node;I)V"⟩
abbrev y_PM_type : MethodName := ⟨"PatternMachine", "type", "(C)Z"⟩
abbrev y_PM_wipe : MethodName := ⟨"PatternMachine", "wipe", "()V"⟩
abbrev y_PM_compile : MethodName := ⟨"PatternMachine", "compile", "(I)I"⟩
abbrev y_PM_text : MethodName := ⟨"PatternMachine", "text", "()I"⟩
abbrev y_PM_clear : MethodName := ⟨"PatternMachine", "clear", "()V"⟩
abbrev y_PM_character : MethodName := ⟨"PatternMachine", "character", "(I)I"⟩
abbrev y_PM_look : MethodName := ⟨"PatternMachine", "look", "(I)I"⟩
abbrev y_Model_init : MethodName := ⟨"PatternMachineModel", "<init>", "()V"⟩
abbrev y_Model_thrown : MethodName := ⟨"PatternMachineModel", "thrown", "()I"⟩
abbrev y_Model_throwsNow : MethodName := ⟨"PatternMachineModel", "throwsNow", "(I)Z"⟩
abbrev y_Model_type : MethodName := ⟨"PatternMachineModel", "type", "(C)Z"⟩
abbrev y_Model_wipe : MethodName := ⟨"PatternMachineModel", "wipe", "()V"⟩
abbrev y_Model_changed : MethodName := ⟨"PatternMachineModel", "changed", "()V"⟩
abbrev y_Model_text : MethodName := ⟨"PatternMachineModel", "text", "()I"⟩
abbrev y_Model_clear : MethodName := ⟨"PatternMachineModel", "clear", "()V"⟩
abbrev y_Model_find : MethodName := ⟨"PatternMachineModel", "find", "(I)Z"⟩
abbrev y_Model_matches : MethodName := ⟨"PatternMachineModel", "matches", "()Z"⟩
abbrev y_Model_group : MethodName := ⟨"PatternMachineModel", "group", "(IZ)I"⟩
abbrev y_Model_count : MethodName := ⟨"PatternMachineModel", "count", "()I"⟩
abbrev y_Model_replace : MethodName := ⟨"PatternMachineModel", "replace", "()I"⟩
abbrev y_Model_piece : MethodName := ⟨"PatternMachineModel", "piece", "(II)I"⟩
abbrev y_Model_character : MethodName := ⟨"PatternMachineModel", "character", "(I)I"⟩
abbrev y_Model_look : MethodName := ⟨"PatternMachineModel", "look", "(I)I"⟩
abbrev y_Model_beginPattern : MethodName := ⟨"PatternMachineModel", "beginPattern", "(I)V"⟩
abbrev y_Model_reads : MethodName := ⟨"PatternMachineModel", "reads", "(ZI)Z"⟩
abbrev y_Model_endPattern : MethodName := ⟨"PatternMachineModel", "endPattern", "()V"⟩
abbrev y_Model_lay : MethodName := ⟨"PatternMachineModel", "lay", "(III)V"⟩
abbrev y_Model_compile : MethodName := ⟨"PatternMachineModel", "compile", "(I)I"⟩
abbrev y_PM_needPattern : MethodName := ⟨"PatternMachine", "needPattern", "()V"⟩
abbrev y_PM_group : MethodName := ⟨"PatternMachine", "group", "(IZ)I"⟩
abbrev y_PM_find : MethodName := ⟨"PatternMachine", "find", "(I)Z"⟩
abbrev y_PM_matches : MethodName := ⟨"PatternMachine", "matches", "()Z"⟩
abbrev y_PM_count : MethodName := ⟨"PatternMachine", "count", "()I"⟩
abbrev y_PM_replace : MethodName := ⟨"PatternMachine", "replace", "()I"⟩
abbrev y_PM_piece : MethodName := ⟨"PatternMachine", "piece", "(II)I"⟩
abbrev y_Law_find : MethodName := ⟨"PatternMachineLaw", "find", "(LPatternMachine;I[J)I"⟩
abbrev y_Law_matches : MethodName := ⟨"PatternMachineLaw", "matches", "(LPatternMachine;[J)I"⟩
abbrev y_Law_group : MethodName := ⟨"PatternMachineLaw", "group", "(LPatternMachine;IZ[J)I"⟩
abbrev y_Law_count : MethodName := ⟨"PatternMachineLaw", "count", "(LPatternMachine;[J)I"⟩
abbrev y_Law_replace : MethodName := ⟨"PatternMachineLaw", "replace", "(LPatternMachine;[J)I"⟩
abbrev y_Law_piece : MethodName := ⟨"PatternMachineLaw", "piece", "(LPatternMachine;II[J)I"⟩
abbrev y_Law_compile : MethodName := ⟨"PatternMachineLaw", "compile", "(LPatternMachine;I[J)I"⟩
def wD_0 : List Cond := [.methodLink "PatternMachine$Row" 3 objectInit, .instanceMethod objectInit, .code objectInit ⟨#[0xb1]⟩ 1 none, .arrayClass .char, .fieldLink "PatternMachine$Row" 9 "PatternMachine$Row" "signs" "[C", .methodLink "PatternMachine$Node" 1 objectInit, .methodLink "PatternMachine$Program" 3 objectInit, .arrayClass .int, .fieldLink "PatternMachine$Program" 9 "PatternMachine$Program" "kind" "[I", .fieldLink "PatternMachine$Program" 15 "PatternMachine$Program" "operand" "[I", .fieldLink "PatternMachine$Program" 18 "PatternMachine$Program" "stars" "[I", .arrayClass .long, .fieldLink "PatternMachine$Program" 21 "PatternMachine$Program" "below" "[J", .fieldLink "PatternMachine$Program" 25 "PatternMachine$Program" "above" "[J", .methodLink "PatternMachine$Threads" 3 objectInit, .fieldLink "PatternMachine$Threads" 9 "PatternMachine$Threads" "steps" "[I", .fieldLink "PatternMachine$Threads" 15 "PatternMachine$Threads" "caught" "[I", .fieldLink "PatternMachine$Threads" 18 "PatternMachine$Threads" "seen" "[I", .methodLink "PatternMachine$Machine" 3 objectInit, .fieldLink "PatternMachine$Machine" 9 "PatternMachine$Machine" "program" "LPatternMachine$Program;", .fieldLink "PatternMachine$Machine" 15 "PatternMachine$Machine" "body" "LPatternMachine$Row;", .fieldLink "PatternMachine$Machine" 19 "PatternMachine$Machine" "slots" "[I", .fieldLink "PatternMachine$Machine" 23 "PatternMachine$Machine" "best" "[I", .fieldLink "PatternMachine$Machine" 26 "PatternMachine$Machine" "waiting" "[I", .fieldLink "PatternMachine$Machine" 29 "PatternMachine$Machine" "values" "[I", .classLink "PatternMachine$Machine" 32 "PatternMachine$Threads", .instantiable "PatternMachine$Threads" 4, .initialized "PatternMachine$Threads", .code y_Threads_init prog_7_method_1_code 1 none, .methodLink "PatternMachine$Machine" 34 y_Threads_init, .instanceMethod y_Threads_init, .fieldLink "PatternMachine$Machine" 35 "PatternMachine$Machine" "now" "LPatternMachine$Threads;", .fieldLink "PatternMachine$Machine" 39 "PatternMachine$Machine" "then" "LPatternMachine$Threads;", .methodLink "PatternMachine$Reader" 3 objectInit, .fieldLink "PatternMachine$Reader" 9 "PatternMachine$Reader" "line" "LPatternMachine$Row;", .classLink "PatternMachine$Reader" 15 "PatternMachine$Node", .fieldLink "PatternMachine$Reader" 17 "PatternMachine$Reader" "nodes" "[LPatternMachine$Node;", .instantiable "PatternMachine$Node" 11, .initialized "PatternMachine$Node", .code y_Node_init prog_3_method_1_code 1 none]
def wD_1 : List Cond := [.instanceMethod y_Node_init, .methodLink "PatternMachine" 3 objectInit, .classLink "PatternMachine" 9 "PatternMachine$Row", .instantiable "PatternMachine$Row" 2, .initialized "PatternMachine$Row", .code y_Row_init prog_6_method_1_code 2 none, .methodLink "PatternMachine" 11 y_Row_init, .instanceMethod y_Row_init, .fieldLink "PatternMachine" 14 "PatternMachine" "line" "LPatternMachine$Row;", .fieldLink "PatternMachine" 18 "PatternMachine" "body" "LPatternMachine$Row;", .fieldLink "PatternMachine" 21 "PatternMachine" "spare" "LPatternMachine$Row;", .classLink "PatternMachine" 24 "PatternMachine$Reader", .instantiable "PatternMachine$Reader" 8, .initialized "PatternMachine$Reader", .code y_Reader_init prog_5_method_1_code 3 none, .methodLink "PatternMachine" 26 y_Reader_init, .instanceMethod y_Reader_init, .fieldLink "PatternMachine" 29 "PatternMachine" "reader" "LPatternMachine$Reader;", .classLink "PatternMachine" 33 "PatternMachine$Program", .instantiable "PatternMachine$Program" 7, .initialized "PatternMachine$Program", .code y_Program_init prog_4_method_1_code 1 none, .methodLink "PatternMachine" 35 y_Program_init, .instanceMethod y_Program_init, .fieldLink "PatternMachine" 36 "PatternMachine" "program" "LPatternMachine$Program;", .classLink "PatternMachine" 40 "PatternMachine$Machine", .instantiable "PatternMachine$Machine" 9, .initialized "PatternMachine$Machine", .code y_Machine_init prog_2_method_1_code 3 none, .methodLink "PatternMachine" 42 y_Machine_init, .instanceMethod y_Machine_init, .fieldLink "PatternMachine" 45 "PatternMachine" "machine" "LPatternMachine$Machine;", .fieldLink "PatternMachine$Row" 15 "PatternMachine$Row" "length" "I", .methodLink "PatternMachine$Row" 19 Lib.Math.min.name, .static Lib.Math.min.name, .initialized "java/lang/Math", .code Lib.Math.min.name Lib.Math.min.code 2 (some .int), .methodLink "PatternMachine$Row" 25 Lib.Math.max.name, .static Lib.Math.max.name, .code Lib.Math.max.name Lib.Math.max.code 2 (some .int)]
def wD_2 : List Cond := [.fieldLink "PatternMachine$Node" 7 "PatternMachine$Node" "kind" "I", .fieldLink "PatternMachine$Node" 13 "PatternMachine$Node" "first" "LPatternMachine$Node;", .fieldLink "PatternMachine$Node" 17 "PatternMachine$Node" "last" "LPatternMachine$Node;", .fieldLink "PatternMachine$Node" 20 "PatternMachine$Node" "next" "LPatternMachine$Node;", .fieldLink "PatternMachine$Node" 23 "PatternMachine$Node" "size" "I", .fieldLink "PatternMachine$Reader" 22 "PatternMachine$Reader" "used" "I", .code y_Node_begin prog_3_method_2_code 2 none, .methodLink "PatternMachine$Reader" 44 y_Node_begin, .instanceMethod y_Node_begin, .selects "PatternMachine$Node" y_Node_begin y_Node_begin, .fieldLink "PatternMachine$Reader" 26 "PatternMachine$Reader" "at" "I", .code y_Row_at prog_6_method_2_code 2 (some .int), .methodLink "PatternMachine$Reader" 48 y_Row_at, .instanceMethod y_Row_at, .selects "PatternMachine$Row" y_Row_at y_Row_at, .code y_Reader_fresh prog_5_method_3_code 3 (some (.object "PatternMachine$Node")), .methodLink "PatternMachine$Reader" 51 y_Reader_fresh, .instanceMethod y_Reader_fresh, .selects "PatternMachine$Reader" y_Reader_fresh y_Reader_fresh, .code y_Reader_chainEnds prog_5_method_7_code 2 (some .boolean), .methodLink "PatternMachine$Reader" 68 y_Reader_chainEnds, .instanceMethod y_Reader_chainEnds, .selects "PatternMachine$Reader" y_Reader_chainEnds y_Reader_chainEnds, .code y_Reader_readChain prog_5_method_6_code 5 (some (.object "PatternMachine$Node")), .methodLink "PatternMachine$Reader" 54 y_Reader_readChain, .instanceMethod y_Reader_readChain, .selects "PatternMachine$Reader" y_Reader_readChain y_Reader_readChain, .code y_Node_append prog_3_method_3_code 2 none, .methodLink "PatternMachine$Reader" 57 y_Node_append, .instanceMethod y_Node_append, .selects "PatternMachine$Node" y_Node_append y_Node_append, .code y_Reader_skip prog_5_method_4_code 2 (some .boolean), .methodLink "PatternMachine$Reader" 61 y_Reader_skip, .instanceMethod y_Reader_skip, .selects "PatternMachine$Reader" y_Reader_skip y_Reader_skip, .fieldLink "PatternMachine$Reader" 29 "PatternMachine$Reader" "groups" "I", .fieldLink "PatternMachine$Reader" 32 "PatternMachine$Reader" "flags" "I", .code y_Reader_readPattern prog_5_method_5_code 5 (some (.object "PatternMachine$Node")), .methodLink "PatternMachine$Reader" 35 y_Reader_readPattern, .instanceMethod y_Reader_readPattern]
def wD_3 : List Cond := [.selects "PatternMachine$Reader" y_Reader_readPattern y_Reader_readPattern, .fieldLink "PatternMachine$Reader" 39 "PatternMachine$Row" "length" "I", .fieldLink "PatternMachine$Program" 28 "PatternMachine$Program" "used" "I", .fieldLink "PatternMachine$Program" 57 "PatternMachine$Node" "first" "LPatternMachine$Node;", .fieldLink "PatternMachine$Program" 43 "PatternMachine$Node" "kind" "I", .code y_Program_writeParts prog_4_method_6_code 5 none, .methodLink "PatternMachine$Program" 64 y_Program_writeParts, .instanceMethod y_Program_writeParts, .selects "PatternMachine$Program" y_Program_writeParts y_Program_writeParts, .fieldLink "PatternMachine$Program" 75 "PatternMachine$Node" "size" "I", .fieldLink "PatternMachine$Program" 72 "PatternMachine$Node" "next" "LPatternMachine$Node;", .code y_Program_writeNode prog_4_method_4_code 4 none, .methodLink "PatternMachine$Program" 35 y_Program_writeNode, .instanceMethod y_Program_writeNode, .selects "PatternMachine$Program" y_Program_writeNode y_Program_writeNode, .code y_Program_writeChains prog_4_method_7_code 6 none, .methodLink "PatternMachine$Program" 54 y_Program_writeChains, .instanceMethod y_Program_writeChains, .selects "PatternMachine$Program" y_Program_writeChains y_Program_writeChains, .fieldLink "PatternMachine$Program" 32 "PatternMachine$Program" "groups" "I", .code y_Program_put prog_4_method_3_code 4 none, .methodLink "PatternMachine$Program" 39 y_Program_put, .instanceMethod y_Program_put, .selects "PatternMachine$Program" y_Program_put y_Program_put, .code y_Row_put prog_6_method_3_code 2 (some .boolean), .methodLink "PatternMachine" 49 y_Row_put, .instanceMethod y_Row_put, .selects "PatternMachine$Row" y_Row_put y_Row_put, .fieldLink "PatternMachine" 53 "PatternMachine$Row" "length" "I", .code y_Reader_read prog_5_method_2_code 3 (some (.object "PatternMachine$Node")), .methodLink "PatternMachine" 57 y_Reader_read, .instanceMethod y_Reader_read, .selects "PatternMachine$Reader" y_Reader_read y_Reader_read, .fieldLink "PatternMachine" 68 "PatternMachine$Node" "size" "I", .fieldLink "PatternMachine" 78 "PatternMachine$Reader" "groups" "I", .code y_Program_write prog_4_method_2_code 3 none, .methodLink "PatternMachine" 81 y_Program_write, .instanceMethod y_Program_write, .selects "PatternMachine$Program" y_Program_write y_Program_write, .fieldLink "PatternMachine" 85 "PatternMachine" "hasPattern" "Z"]
def wD_4 : List Cond := [.fieldLink "PatternMachine" 89 "PatternMachine" "found" "Z", .code y_Row_putPart prog_6_method_4_code 6 none, .methodLink "PatternMachine" 92 y_Row_putPart, .instanceMethod y_Row_putPart, .selects "PatternMachine$Row" y_Row_putPart y_Row_putPart, .methodLink "PatternMachine" 143 y_Row_at, .fieldLink "PatternMachine" 113 "PatternMachine$Program" "groups" "I", .methodLink "PatternMachineModel" 1 objectInit, .fieldLink "PatternMachineModel" 7 "PatternMachineModel" "line" "[C", .fieldLink "PatternMachineModel" 13 "PatternMachineModel" "text" "[C", .fieldLink "PatternMachineModel" 16 "PatternMachineModel" "op" "[I", .fieldLink "PatternMachineModel" 20 "PatternMachineModel" "first" "[I", .fieldLink "PatternMachineModel" 23 "PatternMachineModel" "second" "[I", .fieldLink "PatternMachineModel" 26 "PatternMachineModel" "low" "[J", .fieldLink "PatternMachineModel" 30 "PatternMachineModel" "high" "[J", .fieldLink "PatternMachineModel" 33 "PatternMachineModel" "begins" "[I", .fieldLink "PatternMachineModel" 36 "PatternMachineModel" "chain" "[I", .fieldLink "PatternMachineModel" 39 "PatternMachineModel" "sizes" "[I", .fieldLink "PatternMachineModel" 42 "PatternMachineModel" "number" "[I", .fieldLink "PatternMachineModel" 45 "PatternMachineModel" "jumps" "[I", .fieldLink "PatternMachineModel" 48 "PatternMachineModel" "copyOp" "[I", .fieldLink "PatternMachineModel" 51 "PatternMachineModel" "copyFirst" "[I", .fieldLink "PatternMachineModel" 54 "PatternMachineModel" "copySecond" "[I", .fieldLink "PatternMachineModel" 57 "PatternMachineModel" "copyLow" "[J", .fieldLink "PatternMachineModel" 60 "PatternMachineModel" "copyHigh" "[J", .fieldLink "PatternMachineModel" 63 "PatternMachineModel" "leads" "[J", .fieldLink "PatternMachineModel" 66 "PatternMachineModel" "been" "[I", .fieldLink "PatternMachineModel" 69 "PatternMachineModel" "todo" "[I", .fieldLink "PatternMachineModel" 72 "PatternMachineModel" "todoWith" "[I", .fieldLink "PatternMachineModel" 75 "PatternMachineModel" "caught" "[I", .fieldLink "PatternMachineModel" 78 "PatternMachineModel" "best" "[I", .fieldLink "PatternMachineModel" 81 "PatternMachineModel" "made" "[C", .fieldLink "PatternMachineModel" 84 "PatternMachineModel" "thrown" "I", .fieldLink "PatternMachineModel" 88 "PatternMachineModel" "length" "I", .fieldLink "PatternMachineModel" 265 "PatternMachineModel" "worked" "Z", .fieldLink "PatternMachineModel" 262 "PatternMachineModel" "workedWhole" "Z", .fieldLink "PatternMachineModel" 272 "PatternMachineModel" "known" "Z", .code y_Model_changed prog_9_method_45_code 1 none, .methodLink "PatternMachineModel" 285 y_Model_changed, .instanceMethod y_Model_changed]
def wD_5 : List Cond := [.selects "PatternMachineModel" y_Model_changed y_Model_changed, .initialized "PatternMachineModel", .fieldLink "PatternMachineModel" 232 "PatternMachineModel" "end" "I", .fieldLink "PatternMachineModel" 129 "PatternMachineModel" "size" "I", .code y_Model_throwsNow prog_9_method_3_code 2 (some .boolean), .methodLink "PatternMachineModel" 279 y_Model_throwsNow, .instanceMethod y_Model_throwsNow, .selects "PatternMachineModel" y_Model_throwsNow y_Model_throwsNow, .fieldLink "PatternMachineModel" 282 "PatternMachineModel" "groups" "I", .fieldLink "PatternMachineModel" 132 "PatternMachineModel" "open" "I", .fieldLink "PatternMachineModel" 125 "PatternMachineModel" "lays" "Z", .fieldLink "PatternMachineModel" 110 "PatternMachineModel" "newFlags" "I", .fieldLink "PatternMachineModel" 118 "PatternMachineModel" "at" "I", .fieldLink "PatternMachineModel" 153 "PatternMachineModel" "bad" "Z", .fieldLink "PatternMachineModel" 156 "PatternMachineModel" "opened" "I", .fieldLink "PatternMachineModel" 139 "PatternMachineModel" "atom" "I", .code y_Model_beginPattern prog_9_method_17_code 2 none, .methodLink "PatternMachineModel" 159 y_Model_beginPattern, .instanceMethod y_Model_beginPattern, .selects "PatternMachineModel" y_Model_beginPattern y_Model_beginPattern, .fieldLink "PatternMachineModel" 91 "PatternMachineModel" "setLow" "J", .fieldLink "PatternMachineModel" 95 "PatternMachineModel" "setHigh" "J", .code y_Model_reads prog_9_method_35_code 3 (some .boolean), .methodLink "PatternMachineModel" 275 y_Model_reads, .instanceMethod y_Model_reads, .selects "PatternMachineModel" y_Model_reads y_Model_reads, .code y_Model_endPattern prog_9_method_21_code 4 none, .methodLink "PatternMachineModel" 162 y_Model_endPattern, .instanceMethod y_Model_endPattern, .selects "PatternMachineModel" y_Model_endPattern y_Model_endPattern, .code y_Model_lay prog_9_method_16_code 4 none, .methodLink "PatternMachineModel" 135 y_Model_lay, .instanceMethod y_Model_lay, .selects "PatternMachineModel" y_Model_lay y_Model_lay, .fieldLink "PatternMachineModel" 235 "PatternMachineModel" "flags" "I", .classLink "PatternMachine" 108 "java/lang/IllegalStateException", .instantiable "java/lang/IllegalStateException" 6, .initialized "java/lang/IllegalStateException", .methodLink "PatternMachine" 96 y_PM_needPattern, .instanceMethod y_PM_needPattern]
def wD_6 : List Cond := [.selects "PatternMachine" y_PM_needPattern y_PM_needPattern, .initialized "PatternMachine", .code y_PM_needPattern prog_1_method_15_code 1 none, .methodLink "PatternMachineLaw" 17 y_PM_find, .instanceMethod y_PM_find, .selects "PatternMachine" y_PM_find y_PM_find, .code y_PM_find prog_1_method_7_code 2 (some .boolean), .classLink "PatternMachineLaw" 21 "java/lang/IllegalStateException", .methodLink "PatternMachineLaw" 25 y_PM_matches, .instanceMethod y_PM_matches, .selects "PatternMachine" y_PM_matches y_PM_matches, .code y_PM_matches prog_1_method_8_code 1 (some .boolean), .methodLink "PatternMachineLaw" 29 y_PM_group, .instanceMethod y_PM_group, .selects "PatternMachine" y_PM_group y_PM_group, .code y_PM_group prog_1_method_9_code 3 (some .int), .methodLink "PatternMachineLaw" 33 y_PM_count, .instanceMethod y_PM_count, .selects "PatternMachine" y_PM_count y_PM_count, .code y_PM_count prog_1_method_10_code 4 (some .int), .methodLink "PatternMachineLaw" 37 y_PM_replace, .instanceMethod y_PM_replace, .selects "PatternMachine" y_PM_replace y_PM_replace, .code y_PM_replace prog_1_method_11_code 5 (some .int), .methodLink "PatternMachineLaw" 40 y_PM_piece, .instanceMethod y_PM_piece, .selects "PatternMachine" y_PM_piece y_PM_piece, .code y_PM_piece prog_1_method_12_code 7 (some .int), .code y_PM_compile prog_1_method_4_code 3 (some .int), .methodLink "PatternMachineLaw" 7 y_PM_compile, .instanceMethod y_PM_compile, .selects "PatternMachine" y_PM_compile y_PM_compile]
def wF : List Cond := u_ws "PatternMachine$Row" T_Row 2 ++ (u_ws "PatternMachine$Node" T_Node 11 ++ (u_ws "PatternMachine$Reader" T_Reader 8 ++ (u_ws "PatternMachine$Program" T_Program 7 ++ (u_ws "PatternMachine$Threads" T_Threads 4 ++ (u_ws "PatternMachine$Machine" T_Machine 9 ++ (u_ws "PatternMachine" T_PM 8 ++ (u_ws "PatternMachineModel" T_Model 45)))))))
abbrev tx_atoms : List Cond := Bundle.ownAtoms "PatternMachine" 112 "java/lang/IllegalStateException" ["java/lang/RuntimeException", "java/lang/Exception"]
def wT : List Cond := tx_atoms.filter goodWord
def wC : List Cond := wF ++ (wD_0 ++ (wD_1 ++ (wD_2 ++ (wD_3 ++ (wD_4 ++ (wD_5 ++ (wD_6 ++ (wT))))))))
theorem in_T : ∀ w ∈ wT, w ∈ wC := fun w h => List.mem_append_right _ (List.mem_append_right _ (List.mem_append_right _ (List.mem_append_right _ (List.mem_append_right _ (List.mem_append_right _ (List.mem_append_right _ (List.mem_append_right _ (h))))))))
theorem in_Row : ∀ w ∈ u_ws "PatternMachine$Row" T_Row 2, w ∈ wC := fun w h => List.mem_append_left _ (List.mem_append_left _ h)
theorem in_Node : ∀ w ∈ u_ws "PatternMachine$Node" T_Node 11, w ∈ wC := fun w h => List.mem_append_left _ (List.mem_append_right _ (List.mem_append_left _ h))
theorem in_Reader : ∀ w ∈ u_ws "PatternMachine$Reader" T_Reader 8, w ∈ wC := fun w h => List.mem_append_left _ (List.mem_append_right _ (List.mem_append_right _ (List.mem_append_left _ h)))
theorem in_Program : ∀ w ∈ u_ws "PatternMachine$Program" T_Program 7, w ∈ wC := fun w h => List.mem_append_left _ (List.mem_append_right _ (List.mem_append_right _ (List.mem_append_right _ (List.mem_append_left _ h))))
theorem in_Threads : ∀ w ∈ u_ws "PatternMachine$Threads" T_Threads 4, w ∈ wC := fun w h => List.mem_append_left _ (List.mem_append_right _ (List.mem_append_right _ (List.mem_append_right _ (List.mem_append_right _ (List.mem_append_left _ h)))))
theorem in_Machine : ∀ w ∈ u_ws "PatternMachine$Machine" T_Machine 9, w ∈ wC := fun w h => List.mem_append_left _ (List.mem_append_right _ (List.mem_append_right _ (List.mem_append_right _ (List.mem_append_right _ (List.mem_append_right _ (List.mem_append_left _ h))))))
theorem in_PM : ∀ w ∈ u_ws "PatternMachine" T_PM 8, w ∈ wC := fun w h => List.mem_append_left _ (List.mem_append_right _ (List.mem_append_right _ (List.mem_append_right _ (List.mem_append_right _ (List.mem_append_right _ (List.mem_append_right _ (List.mem_append_left _ h)))))))
theorem in_Model : ∀ w ∈ u_ws "PatternMachineModel" T_Model 45, w ∈ wC := fun w h => List.mem_append_left _ (List.mem_append_right _ (List.mem_append_right _ (List.mem_append_right _ (List.mem_append_right _ (List.mem_append_right _ (List.mem_append_right _ (List.mem_append_right _ (h))))))))
theorem mw_0 : (.methodLink "PatternMachine$Row" 3 objectInit : Cond) ∈ wC := List.mem_append_right _ (List.mem_append_left _ (List.mem_of_getElem? (i := 0) rfl))
theorem mw_1 : (.instanceMethod objectInit : Cond) ∈ wC := List.mem_append_right _ (List.mem_append_left _ (List.mem_of_getElem? (i := 1) rfl))
theorem mw_2 : (.code objectInit ⟨#[0xb1]⟩ 1 none : Cond) ∈ wC := List.mem_append_right _ (List.mem_append_left _ (List.mem_of_getElem? (i := 2) rfl))
theorem mw_3 : (.arrayClass .char : Cond) ∈ wC := List.mem_append_right _ (List.mem_append_left _ (List.mem_of_getElem? (i := 3) rfl))
theorem mw_4 : (.fieldLink "PatternMachine$Row" 9 "PatternMachine$Row" "signs" "[C" : Cond) ∈ wC := List.mem_append_right _ (List.mem_append_left _ (List.mem_of_getElem? (i := 4) rfl))
theorem mw_5 : (.methodLink "PatternMachine$Node" 1 objectInit : Cond) ∈ wC := List.mem_append_right _ (List.mem_append_left _ (List.mem_of_getElem? (i := 5) rfl))
theorem mw_6 : (.methodLink "PatternMachine$Program" 3 objectInit : Cond) ∈ wC := List.mem_append_right _ (List.mem_append_left _ (List.mem_of_getElem? (i := 6) rfl))
theorem mw_7 : (.arrayClass .int : Cond) ∈ wC := List.mem_append_right _ (List.mem_append_left _ (List.mem_of_getElem? (i := 7) rfl))
theorem mw_8 : (.fieldLink "PatternMachine$Program" 9 "PatternMachine$Program" "kind" "[I" : Cond) ∈ wC := List.mem_append_right _ (List.mem_append_left _ (List.mem_of_getElem? (i := 8) rfl))
theorem mw_9 : (.fieldLink "PatternMachine$Program" 15 "PatternMachine$Program" "operand" "[I" : Cond) ∈ wC := List.mem_append_right _ (List.mem_append_left _ (List.mem_of_getElem? (i := 9) rfl))
theorem mw_10 : (.fieldLink "PatternMachine$Program" 18 "PatternMachine$Program" "stars" "[I" : Cond) ∈ wC := List.mem_append_right _ (List.mem_append_left _ (List.mem_of_getElem? (i := 10) rfl))
theorem mw_11 : (.arrayClass .long : Cond) ∈ wC := List.mem_append_right _ (List.mem_append_left _ (List.mem_of_getElem? (i := 11) rfl))
theorem mw_12 : (.fieldLink "PatternMachine$Program" 21 "PatternMachine$Program" "below" "[J" : Cond) ∈ wC := List.mem_append_right _ (List.mem_append_left _ (List.mem_of_getElem? (i := 12) rfl))
theorem mw_13 : (.fieldLink "PatternMachine$Program" 25 "PatternMachine$Program" "above" "[J" : Cond) ∈ wC := List.mem_append_right _ (List.mem_append_left _ (List.mem_of_getElem? (i := 13) rfl))
theorem mw_14 : (.methodLink "PatternMachine$Threads" 3 objectInit : Cond) ∈ wC := List.mem_append_right _ (List.mem_append_left _ (List.mem_of_getElem? (i := 14) rfl))
theorem mw_15 : (.fieldLink "PatternMachine$Threads" 9 "PatternMachine$Threads" "steps" "[I" : Cond) ∈ wC := List.mem_append_right _ (List.mem_append_left _ (List.mem_of_getElem? (i := 15) rfl))
theorem mw_16 : (.fieldLink "PatternMachine$Threads" 15 "PatternMachine$Threads" "caught" "[I" : Cond) ∈ wC := List.mem_append_right _ (List.mem_append_left _ (List.mem_of_getElem? (i := 16) rfl))
theorem mw_17 : (.fieldLink "PatternMachine$Threads" 18 "PatternMachine$Threads" "seen" "[I" : Cond) ∈ wC := List.mem_append_right _ (List.mem_append_left _ (List.mem_of_getElem? (i := 17) rfl))
theorem mw_18 : (.methodLink "PatternMachine$Machine" 3 objectInit : Cond) ∈ wC := List.mem_append_right _ (List.mem_append_left _ (List.mem_of_getElem? (i := 18) rfl))
theorem mw_19 : (.fieldLink "PatternMachine$Machine" 9 "PatternMachine$Machine" "program" "LPatternMachine$Program;" : Cond) ∈ wC := List.mem_append_right _ (List.mem_append_left _ (List.mem_of_getElem? (i := 19) rfl))
theorem mw_20 : (.fieldLink "PatternMachine$Machine" 15 "PatternMachine$Machine" "body" "LPatternMachine$Row;" : Cond) ∈ wC := List.mem_append_right _ (List.mem_append_left _ (List.mem_of_getElem? (i := 20) rfl))
theorem mw_21 : (.fieldLink "PatternMachine$Machine" 19 "PatternMachine$Machine" "slots" "[I" : Cond) ∈ wC := List.mem_append_right _ (List.mem_append_left _ (List.mem_of_getElem? (i := 21) rfl))
theorem mw_22 : (.fieldLink "PatternMachine$Machine" 23 "PatternMachine$Machine" "best" "[I" : Cond) ∈ wC := List.mem_append_right _ (List.mem_append_left _ (List.mem_of_getElem? (i := 22) rfl))
theorem mw_23 : (.fieldLink "PatternMachine$Machine" 26 "PatternMachine$Machine" "waiting" "[I" : Cond) ∈ wC := List.mem_append_right _ (List.mem_append_left _ (List.mem_of_getElem? (i := 23) rfl))
theorem mw_24 : (.fieldLink "PatternMachine$Machine" 29 "PatternMachine$Machine" "values" "[I" : Cond) ∈ wC := List.mem_append_right _ (List.mem_append_left _ (List.mem_of_getElem? (i := 24) rfl))
theorem mw_25 : (.classLink "PatternMachine$Machine" 32 "PatternMachine$Threads" : Cond) ∈ wC := List.mem_append_right _ (List.mem_append_left _ (List.mem_of_getElem? (i := 25) rfl))
theorem mw_26 : (.instantiable "PatternMachine$Threads" 4 : Cond) ∈ wC := List.mem_append_right _ (List.mem_append_left _ (List.mem_of_getElem? (i := 26) rfl))
theorem mw_27 : (.initialized "PatternMachine$Threads" : Cond) ∈ wC := List.mem_append_right _ (List.mem_append_left _ (List.mem_of_getElem? (i := 27) rfl))
theorem mw_28 : (.code y_Threads_init prog_7_method_1_code 1 none : Cond) ∈ wC := List.mem_append_right _ (List.mem_append_left _ (List.mem_of_getElem? (i := 28) rfl))
theorem mw_29 : (.methodLink "PatternMachine$Machine" 34 y_Threads_init : Cond) ∈ wC := List.mem_append_right _ (List.mem_append_left _ (List.mem_of_getElem? (i := 29) rfl))
theorem mw_30 : (.instanceMethod y_Threads_init : Cond) ∈ wC := List.mem_append_right _ (List.mem_append_left _ (List.mem_of_getElem? (i := 30) rfl))
theorem mw_31 : (.fieldLink "PatternMachine$Machine" 35 "PatternMachine$Machine" "now" "LPatternMachine$Threads;" : Cond) ∈ wC := List.mem_append_right _ (List.mem_append_left _ (List.mem_of_getElem? (i := 31) rfl))
theorem mw_32 : (.fieldLink "PatternMachine$Machine" 39 "PatternMachine$Machine" "then" "LPatternMachine$Threads;" : Cond) ∈ wC := List.mem_append_right _ (List.mem_append_left _ (List.mem_of_getElem? (i := 32) rfl))
theorem mw_33 : (.methodLink "PatternMachine$Reader" 3 objectInit : Cond) ∈ wC := List.mem_append_right _ (List.mem_append_left _ (List.mem_of_getElem? (i := 33) rfl))
theorem mw_34 : (.fieldLink "PatternMachine$Reader" 9 "PatternMachine$Reader" "line" "LPatternMachine$Row;" : Cond) ∈ wC := List.mem_append_right _ (List.mem_append_left _ (List.mem_of_getElem? (i := 34) rfl))
theorem mw_35 : (.classLink "PatternMachine$Reader" 15 "PatternMachine$Node" : Cond) ∈ wC := List.mem_append_right _ (List.mem_append_left _ (List.mem_of_getElem? (i := 35) rfl))
theorem mw_36 : (.fieldLink "PatternMachine$Reader" 17 "PatternMachine$Reader" "nodes" "[LPatternMachine$Node;" : Cond) ∈ wC := List.mem_append_right _ (List.mem_append_left _ (List.mem_of_getElem? (i := 36) rfl))
theorem mw_37 : (.instantiable "PatternMachine$Node" 11 : Cond) ∈ wC := List.mem_append_right _ (List.mem_append_left _ (List.mem_of_getElem? (i := 37) rfl))
theorem mw_38 : (.initialized "PatternMachine$Node" : Cond) ∈ wC := List.mem_append_right _ (List.mem_append_left _ (List.mem_of_getElem? (i := 38) rfl))
theorem mw_39 : (.code y_Node_init prog_3_method_1_code 1 none : Cond) ∈ wC := List.mem_append_right _ (List.mem_append_left _ (List.mem_of_getElem? (i := 39) rfl))
theorem mw_40 : (.instanceMethod y_Node_init : Cond) ∈ wC := List.mem_append_right _ (List.mem_append_right _ (List.mem_append_left _ (List.mem_of_getElem? (i := 0) rfl)))
theorem mw_41 : (.methodLink "PatternMachine" 3 objectInit : Cond) ∈ wC := List.mem_append_right _ (List.mem_append_right _ (List.mem_append_left _ (List.mem_of_getElem? (i := 1) rfl)))
theorem mw_42 : (.classLink "PatternMachine" 9 "PatternMachine$Row" : Cond) ∈ wC := List.mem_append_right _ (List.mem_append_right _ (List.mem_append_left _ (List.mem_of_getElem? (i := 2) rfl)))
theorem mw_43 : (.instantiable "PatternMachine$Row" 2 : Cond) ∈ wC := List.mem_append_right _ (List.mem_append_right _ (List.mem_append_left _ (List.mem_of_getElem? (i := 3) rfl)))
theorem mw_44 : (.initialized "PatternMachine$Row" : Cond) ∈ wC := List.mem_append_right _ (List.mem_append_right _ (List.mem_append_left _ (List.mem_of_getElem? (i := 4) rfl)))
theorem mw_45 : (.code y_Row_init prog_6_method_1_code 2 none : Cond) ∈ wC := List.mem_append_right _ (List.mem_append_right _ (List.mem_append_left _ (List.mem_of_getElem? (i := 5) rfl)))
theorem mw_46 : (.methodLink "PatternMachine" 11 y_Row_init : Cond) ∈ wC := List.mem_append_right _ (List.mem_append_right _ (List.mem_append_left _ (List.mem_of_getElem? (i := 6) rfl)))
theorem mw_47 : (.instanceMethod y_Row_init : Cond) ∈ wC := List.mem_append_right _ (List.mem_append_right _ (List.mem_append_left _ (List.mem_of_getElem? (i := 7) rfl)))
theorem mw_48 : (.fieldLink "PatternMachine" 14 "PatternMachine" "line" "LPatternMachine$Row;" : Cond) ∈ wC := List.mem_append_right _ (List.mem_append_right _ (List.mem_append_left _ (List.mem_of_getElem? (i := 8) rfl)))
theorem mw_49 : (.fieldLink "PatternMachine" 18 "PatternMachine" "body" "LPatternMachine$Row;" : Cond) ∈ wC := List.mem_append_right _ (List.mem_append_right _ (List.mem_append_left _ (List.mem_of_getElem? (i := 9) rfl)))
theorem mw_50 : (.fieldLink "PatternMachine" 21 "PatternMachine" "spare" "LPatternMachine$Row;" : Cond) ∈ wC := List.mem_append_right _ (List.mem_append_right _ (List.mem_append_left _ (List.mem_of_getElem? (i := 10) rfl)))
theorem mw_51 : (.classLink "PatternMachine" 24 "PatternMachine$Reader" : Cond) ∈ wC := List.mem_append_right _ (List.mem_append_right _ (List.mem_append_left _ (List.mem_of_getElem? (i := 11) rfl)))
theorem mw_52 : (.instantiable "PatternMachine$Reader" 8 : Cond) ∈ wC := List.mem_append_right _ (List.mem_append_right _ (List.mem_append_left _ (List.mem_of_getElem? (i := 12) rfl)))
theorem mw_53 : (.initialized "PatternMachine$Reader" : Cond) ∈ wC := List.mem_append_right _ (List.mem_append_right _ (List.mem_append_left _ (List.mem_of_getElem? (i := 13) rfl)))
theorem mw_54 : (.code y_Reader_init prog_5_method_1_code 3 none : Cond) ∈ wC := List.mem_append_right _ (List.mem_append_right _ (List.mem_append_left _ (List.mem_of_getElem? (i := 14) rfl)))
theorem mw_55 : (.methodLink "PatternMachine" 26 y_Reader_init : Cond) ∈ wC := List.mem_append_right _ (List.mem_append_right _ (List.mem_append_left _ (List.mem_of_getElem? (i := 15) rfl)))
theorem mw_56 : (.instanceMethod y_Reader_init : Cond) ∈ wC := List.mem_append_right _ (List.mem_append_right _ (List.mem_append_left _ (List.mem_of_getElem? (i := 16) rfl)))
theorem mw_57 : (.fieldLink "PatternMachine" 29 "PatternMachine" "reader" "LPatternMachine$Reader;" : Cond) ∈ wC := List.mem_append_right _ (List.mem_append_right _ (List.mem_append_left _ (List.mem_of_getElem? (i := 17) rfl)))
theorem mw_58 : (.classLink "PatternMachine" 33 "PatternMachine$Program" : Cond) ∈ wC := List.mem_append_right _ (List.mem_append_right _ (List.mem_append_left _ (List.mem_of_getElem? (i := 18) rfl)))
theorem mw_59 : (.instantiable "PatternMachine$Program" 7 : Cond) ∈ wC := List.mem_append_right _ (List.mem_append_right _ (List.mem_append_left _ (List.mem_of_getElem? (i := 19) rfl)))
theorem mw_60 : (.initialized "PatternMachine$Program" : Cond) ∈ wC := List.mem_append_right _ (List.mem_append_right _ (List.mem_append_left _ (List.mem_of_getElem? (i := 20) rfl)))
theorem mw_61 : (.code y_Program_init prog_4_method_1_code 1 none : Cond) ∈ wC := List.mem_append_right _ (List.mem_append_right _ (List.mem_append_left _ (List.mem_of_getElem? (i := 21) rfl)))
theorem mw_62 : (.methodLink "PatternMachine" 35 y_Program_init : Cond) ∈ wC := List.mem_append_right _ (List.mem_append_right _ (List.mem_append_left _ (List.mem_of_getElem? (i := 22) rfl)))
theorem mw_63 : (.instanceMethod y_Program_init : Cond) ∈ wC := List.mem_append_right _ (List.mem_append_right _ (List.mem_append_left _ (List.mem_of_getElem? (i := 23) rfl)))
theorem mw_64 : (.fieldLink "PatternMachine" 36 "PatternMachine" "program" "LPatternMachine$Program;" : Cond) ∈ wC := List.mem_append_right _ (List.mem_append_right _ (List.mem_append_left _ (List.mem_of_getElem? (i := 24) rfl)))
theorem mw_65 : (.classLink "PatternMachine" 40 "PatternMachine$Machine" : Cond) ∈ wC := List.mem_append_right _ (List.mem_append_right _ (List.mem_append_left _ (List.mem_of_getElem? (i := 25) rfl)))
theorem mw_66 : (.instantiable "PatternMachine$Machine" 9 : Cond) ∈ wC := List.mem_append_right _ (List.mem_append_right _ (List.mem_append_left _ (List.mem_of_getElem? (i := 26) rfl)))
theorem mw_67 : (.initialized "PatternMachine$Machine" : Cond) ∈ wC := List.mem_append_right _ (List.mem_append_right _ (List.mem_append_left _ (List.mem_of_getElem? (i := 27) rfl)))
theorem mw_68 : (.code y_Machine_init prog_2_method_1_code 3 none : Cond) ∈ wC := List.mem_append_right _ (List.mem_append_right _ (List.mem_append_left _ (List.mem_of_getElem? (i := 28) rfl)))
theorem mw_69 : (.methodLink "PatternMachine" 42 y_Machine_init : Cond) ∈ wC := List.mem_append_right _ (List.mem_append_right _ (List.mem_append_left _ (List.mem_of_getElem? (i := 29) rfl)))
theorem mw_70 : (.instanceMethod y_Machine_init : Cond) ∈ wC := List.mem_append_right _ (List.mem_append_right _ (List.mem_append_left _ (List.mem_of_getElem? (i := 30) rfl)))
theorem mw_71 : (.fieldLink "PatternMachine" 45 "PatternMachine" "machine" "LPatternMachine$Machine;" : Cond) ∈ wC := List.mem_append_right _ (List.mem_append_right _ (List.mem_append_left _ (List.mem_of_getElem? (i := 31) rfl)))
theorem mw_72 : (.fieldLink "PatternMachine$Row" 15 "PatternMachine$Row" "length" "I" : Cond) ∈ wC := List.mem_append_right _ (List.mem_append_right _ (List.mem_append_left _ (List.mem_of_getElem? (i := 32) rfl)))
theorem mw_73 : (.methodLink "PatternMachine$Row" 19 Lib.Math.min.name : Cond) ∈ wC := List.mem_append_right _ (List.mem_append_right _ (List.mem_append_left _ (List.mem_of_getElem? (i := 33) rfl)))
theorem mw_74 : (.static Lib.Math.min.name : Cond) ∈ wC := List.mem_append_right _ (List.mem_append_right _ (List.mem_append_left _ (List.mem_of_getElem? (i := 34) rfl)))
theorem mw_75 : (.initialized "java/lang/Math" : Cond) ∈ wC := List.mem_append_right _ (List.mem_append_right _ (List.mem_append_left _ (List.mem_of_getElem? (i := 35) rfl)))
theorem mw_76 : (.code Lib.Math.min.name Lib.Math.min.code 2 (some .int) : Cond) ∈ wC := List.mem_append_right _ (List.mem_append_right _ (List.mem_append_left _ (List.mem_of_getElem? (i := 36) rfl)))
theorem mw_77 : (.methodLink "PatternMachine$Row" 25 Lib.Math.max.name : Cond) ∈ wC := List.mem_append_right _ (List.mem_append_right _ (List.mem_append_left _ (List.mem_of_getElem? (i := 37) rfl)))
theorem mw_78 : (.static Lib.Math.max.name : Cond) ∈ wC := List.mem_append_right _ (List.mem_append_right _ (List.mem_append_left _ (List.mem_of_getElem? (i := 38) rfl)))
theorem mw_79 : (.code Lib.Math.max.name Lib.Math.max.code 2 (some .int) : Cond) ∈ wC := List.mem_append_right _ (List.mem_append_right _ (List.mem_append_left _ (List.mem_of_getElem? (i := 39) rfl)))
theorem mw_80 : (.fieldLink "PatternMachine$Node" 7 "PatternMachine$Node" "kind" "I" : Cond) ∈ wC := List.mem_append_right _ (List.mem_append_right _ (List.mem_append_right _ (List.mem_append_left _ (List.mem_of_getElem? (i := 0) rfl))))
theorem mw_81 : (.fieldLink "PatternMachine$Node" 13 "PatternMachine$Node" "first" "LPatternMachine$Node;" : Cond) ∈ wC := List.mem_append_right _ (List.mem_append_right _ (List.mem_append_right _ (List.mem_append_left _ (List.mem_of_getElem? (i := 1) rfl))))
theorem mw_82 : (.fieldLink "PatternMachine$Node" 17 "PatternMachine$Node" "last" "LPatternMachine$Node;" : Cond) ∈ wC := List.mem_append_right _ (List.mem_append_right _ (List.mem_append_right _ (List.mem_append_left _ (List.mem_of_getElem? (i := 2) rfl))))
theorem mw_83 : (.fieldLink "PatternMachine$Node" 20 "PatternMachine$Node" "next" "LPatternMachine$Node;" : Cond) ∈ wC := List.mem_append_right _ (List.mem_append_right _ (List.mem_append_right _ (List.mem_append_left _ (List.mem_of_getElem? (i := 3) rfl))))
theorem mw_84 : (.fieldLink "PatternMachine$Node" 23 "PatternMachine$Node" "size" "I" : Cond) ∈ wC := List.mem_append_right _ (List.mem_append_right _ (List.mem_append_right _ (List.mem_append_left _ (List.mem_of_getElem? (i := 4) rfl))))
theorem mw_85 : (.fieldLink "PatternMachine$Reader" 22 "PatternMachine$Reader" "used" "I" : Cond) ∈ wC := List.mem_append_right _ (List.mem_append_right _ (List.mem_append_right _ (List.mem_append_left _ (List.mem_of_getElem? (i := 5) rfl))))
theorem mw_86 : (.code y_Node_begin prog_3_method_2_code 2 none : Cond) ∈ wC := List.mem_append_right _ (List.mem_append_right _ (List.mem_append_right _ (List.mem_append_left _ (List.mem_of_getElem? (i := 6) rfl))))
theorem mw_87 : (.methodLink "PatternMachine$Reader" 44 y_Node_begin : Cond) ∈ wC := List.mem_append_right _ (List.mem_append_right _ (List.mem_append_right _ (List.mem_append_left _ (List.mem_of_getElem? (i := 7) rfl))))
theorem mw_88 : (.instanceMethod y_Node_begin : Cond) ∈ wC := List.mem_append_right _ (List.mem_append_right _ (List.mem_append_right _ (List.mem_append_left _ (List.mem_of_getElem? (i := 8) rfl))))
theorem mw_89 : (.selects "PatternMachine$Node" y_Node_begin y_Node_begin : Cond) ∈ wC := List.mem_append_right _ (List.mem_append_right _ (List.mem_append_right _ (List.mem_append_left _ (List.mem_of_getElem? (i := 9) rfl))))
theorem mw_90 : (.fieldLink "PatternMachine$Reader" 26 "PatternMachine$Reader" "at" "I" : Cond) ∈ wC := List.mem_append_right _ (List.mem_append_right _ (List.mem_append_right _ (List.mem_append_left _ (List.mem_of_getElem? (i := 10) rfl))))
theorem mw_91 : (.code y_Row_at prog_6_method_2_code 2 (some .int) : Cond) ∈ wC := List.mem_append_right _ (List.mem_append_right _ (List.mem_append_right _ (List.mem_append_left _ (List.mem_of_getElem? (i := 11) rfl))))
theorem mw_92 : (.methodLink "PatternMachine$Reader" 48 y_Row_at : Cond) ∈ wC := List.mem_append_right _ (List.mem_append_right _ (List.mem_append_right _ (List.mem_append_left _ (List.mem_of_getElem? (i := 12) rfl))))
theorem mw_93 : (.instanceMethod y_Row_at : Cond) ∈ wC := List.mem_append_right _ (List.mem_append_right _ (List.mem_append_right _ (List.mem_append_left _ (List.mem_of_getElem? (i := 13) rfl))))
theorem mw_94 : (.selects "PatternMachine$Row" y_Row_at y_Row_at : Cond) ∈ wC := List.mem_append_right _ (List.mem_append_right _ (List.mem_append_right _ (List.mem_append_left _ (List.mem_of_getElem? (i := 14) rfl))))
theorem mw_95 : (.code y_Reader_fresh prog_5_method_3_code 3 (some (.object "PatternMachine$Node")) : Cond) ∈ wC := List.mem_append_right _ (List.mem_append_right _ (List.mem_append_right _ (List.mem_append_left _ (List.mem_of_getElem? (i := 15) rfl))))
theorem mw_96 : (.methodLink "PatternMachine$Reader" 51 y_Reader_fresh : Cond) ∈ wC := List.mem_append_right _ (List.mem_append_right _ (List.mem_append_right _ (List.mem_append_left _ (List.mem_of_getElem? (i := 16) rfl))))
theorem mw_97 : (.instanceMethod y_Reader_fresh : Cond) ∈ wC := List.mem_append_right _ (List.mem_append_right _ (List.mem_append_right _ (List.mem_append_left _ (List.mem_of_getElem? (i := 17) rfl))))
theorem mw_98 : (.selects "PatternMachine$Reader" y_Reader_fresh y_Reader_fresh : Cond) ∈ wC := List.mem_append_right _ (List.mem_append_right _ (List.mem_append_right _ (List.mem_append_left _ (List.mem_of_getElem? (i := 18) rfl))))
theorem mw_99 : (.code y_Reader_chainEnds prog_5_method_7_code 2 (some .boolean) : Cond) ∈ wC := List.mem_append_right _ (List.mem_append_right _ (List.mem_append_right _ (List.mem_append_left _ (List.mem_of_getElem? (i := 19) rfl))))
theorem mw_100 : (.methodLink "PatternMachine$Reader" 68 y_Reader_chainEnds : Cond) ∈ wC := List.mem_append_right _ (List.mem_append_right _ (List.mem_append_right _ (List.mem_append_left _ (List.mem_of_getElem? (i := 20) rfl))))
theorem mw_101 : (.instanceMethod y_Reader_chainEnds : Cond) ∈ wC := List.mem_append_right _ (List.mem_append_right _ (List.mem_append_right _ (List.mem_append_left _ (List.mem_of_getElem? (i := 21) rfl))))
theorem mw_102 : (.selects "PatternMachine$Reader" y_Reader_chainEnds y_Reader_chainEnds : Cond) ∈ wC := List.mem_append_right _ (List.mem_append_right _ (List.mem_append_right _ (List.mem_append_left _ (List.mem_of_getElem? (i := 22) rfl))))
theorem mw_103 : (.code y_Reader_readChain prog_5_method_6_code 5 (some (.object "PatternMachine$Node")) : Cond) ∈ wC := List.mem_append_right _ (List.mem_append_right _ (List.mem_append_right _ (List.mem_append_left _ (List.mem_of_getElem? (i := 23) rfl))))
theorem mw_104 : (.methodLink "PatternMachine$Reader" 54 y_Reader_readChain : Cond) ∈ wC := List.mem_append_right _ (List.mem_append_right _ (List.mem_append_right _ (List.mem_append_left _ (List.mem_of_getElem? (i := 24) rfl))))
theorem mw_105 : (.instanceMethod y_Reader_readChain : Cond) ∈ wC := List.mem_append_right _ (List.mem_append_right _ (List.mem_append_right _ (List.mem_append_left _ (List.mem_of_getElem? (i := 25) rfl))))
theorem mw_106 : (.selects "PatternMachine$Reader" y_Reader_readChain y_Reader_readChain : Cond) ∈ wC := List.mem_append_right _ (List.mem_append_right _ (List.mem_append_right _ (List.mem_append_left _ (List.mem_of_getElem? (i := 26) rfl))))
theorem mw_107 : (.code y_Node_append prog_3_method_3_code 2 none : Cond) ∈ wC := List.mem_append_right _ (List.mem_append_right _ (List.mem_append_right _ (List.mem_append_left _ (List.mem_of_getElem? (i := 27) rfl))))
theorem mw_108 : (.methodLink "PatternMachine$Reader" 57 y_Node_append : Cond) ∈ wC := List.mem_append_right _ (List.mem_append_right _ (List.mem_append_right _ (List.mem_append_left _ (List.mem_of_getElem? (i := 28) rfl))))
theorem mw_109 : (.instanceMethod y_Node_append : Cond) ∈ wC := List.mem_append_right _ (List.mem_append_right _ (List.mem_append_right _ (List.mem_append_left _ (List.mem_of_getElem? (i := 29) rfl))))
theorem mw_110 : (.selects "PatternMachine$Node" y_Node_append y_Node_append : Cond) ∈ wC := List.mem_append_right _ (List.mem_append_right _ (List.mem_append_right _ (List.mem_append_left _ (List.mem_of_getElem? (i := 30) rfl))))
theorem mw_111 : (.code y_Reader_skip prog_5_method_4_code 2 (some .boolean) : Cond) ∈ wC := List.mem_append_right _ (List.mem_append_right _ (List.mem_append_right _ (List.mem_append_left _ (List.mem_of_getElem? (i := 31) rfl))))
theorem mw_112 : (.methodLink "PatternMachine$Reader" 61 y_Reader_skip : Cond) ∈ wC := List.mem_append_right _ (List.mem_append_right _ (List.mem_append_right _ (List.mem_append_left _ (List.mem_of_getElem? (i := 32) rfl))))
theorem mw_113 : (.instanceMethod y_Reader_skip : Cond) ∈ wC := List.mem_append_right _ (List.mem_append_right _ (List.mem_append_right _ (List.mem_append_left _ (List.mem_of_getElem? (i := 33) rfl))))
theorem mw_114 : (.selects "PatternMachine$Reader" y_Reader_skip y_Reader_skip : Cond) ∈ wC := List.mem_append_right _ (List.mem_append_right _ (List.mem_append_right _ (List.mem_append_left _ (List.mem_of_getElem? (i := 34) rfl))))
theorem mw_115 : (.fieldLink "PatternMachine$Reader" 29 "PatternMachine$Reader" "groups" "I" : Cond) ∈ wC := List.mem_append_right _ (List.mem_append_right _ (List.mem_append_right _ (List.mem_append_left _ (List.mem_of_getElem? (i := 35) rfl))))
theorem mw_116 : (.fieldLink "PatternMachine$Reader" 32 "PatternMachine$Reader" "flags" "I" : Cond) ∈ wC := List.mem_append_right _ (List.mem_append_right _ (List.mem_append_right _ (List.mem_append_left _ (List.mem_of_getElem? (i := 36) rfl))))
theorem mw_117 : (.code y_Reader_readPattern prog_5_method_5_code 5 (some (.object "PatternMachine$Node")) : Cond) ∈ wC := List.mem_append_right _ (List.mem_append_right _ (List.mem_append_right _ (List.mem_append_left _ (List.mem_of_getElem? (i := 37) rfl))))
theorem mw_118 : (.methodLink "PatternMachine$Reader" 35 y_Reader_readPattern : Cond) ∈ wC := List.mem_append_right _ (List.mem_append_right _ (List.mem_append_right _ (List.mem_append_left _ (List.mem_of_getElem? (i := 38) rfl))))
theorem mw_119 : (.instanceMethod y_Reader_readPattern : Cond) ∈ wC := List.mem_append_right _ (List.mem_append_right _ (List.mem_append_right _ (List.mem_append_left _ (List.mem_of_getElem? (i := 39) rfl))))
theorem mw_120 : (.selects "PatternMachine$Reader" y_Reader_readPattern y_Reader_readPattern : Cond) ∈ wC := List.mem_append_right _ (List.mem_append_right _ (List.mem_append_right _ (List.mem_append_right _ (List.mem_append_left _ (List.mem_of_getElem? (i := 0) rfl)))))
theorem mw_121 : (.fieldLink "PatternMachine$Reader" 39 "PatternMachine$Row" "length" "I" : Cond) ∈ wC := List.mem_append_right _ (List.mem_append_right _ (List.mem_append_right _ (List.mem_append_right _ (List.mem_append_left _ (List.mem_of_getElem? (i := 1) rfl)))))
theorem mw_122 : (.fieldLink "PatternMachine$Program" 28 "PatternMachine$Program" "used" "I" : Cond) ∈ wC := List.mem_append_right _ (List.mem_append_right _ (List.mem_append_right _ (List.mem_append_right _ (List.mem_append_left _ (List.mem_of_getElem? (i := 2) rfl)))))
theorem mw_123 : (.fieldLink "PatternMachine$Program" 57 "PatternMachine$Node" "first" "LPatternMachine$Node;" : Cond) ∈ wC := List.mem_append_right _ (List.mem_append_right _ (List.mem_append_right _ (List.mem_append_right _ (List.mem_append_left _ (List.mem_of_getElem? (i := 3) rfl)))))
theorem mw_124 : (.fieldLink "PatternMachine$Program" 43 "PatternMachine$Node" "kind" "I" : Cond) ∈ wC := List.mem_append_right _ (List.mem_append_right _ (List.mem_append_right _ (List.mem_append_right _ (List.mem_append_left _ (List.mem_of_getElem? (i := 4) rfl)))))
theorem mw_125 : (.code y_Program_writeParts prog_4_method_6_code 5 none : Cond) ∈ wC := List.mem_append_right _ (List.mem_append_right _ (List.mem_append_right _ (List.mem_append_right _ (List.mem_append_left _ (List.mem_of_getElem? (i := 5) rfl)))))
theorem mw_126 : (.methodLink "PatternMachine$Program" 64 y_Program_writeParts : Cond) ∈ wC := List.mem_append_right _ (List.mem_append_right _ (List.mem_append_right _ (List.mem_append_right _ (List.mem_append_left _ (List.mem_of_getElem? (i := 6) rfl)))))
theorem mw_127 : (.instanceMethod y_Program_writeParts : Cond) ∈ wC := List.mem_append_right _ (List.mem_append_right _ (List.mem_append_right _ (List.mem_append_right _ (List.mem_append_left _ (List.mem_of_getElem? (i := 7) rfl)))))
theorem mw_128 : (.selects "PatternMachine$Program" y_Program_writeParts y_Program_writeParts : Cond) ∈ wC := List.mem_append_right _ (List.mem_append_right _ (List.mem_append_right _ (List.mem_append_right _ (List.mem_append_left _ (List.mem_of_getElem? (i := 8) rfl)))))
theorem mw_129 : (.fieldLink "PatternMachine$Program" 75 "PatternMachine$Node" "size" "I" : Cond) ∈ wC := List.mem_append_right _ (List.mem_append_right _ (List.mem_append_right _ (List.mem_append_right _ (List.mem_append_left _ (List.mem_of_getElem? (i := 9) rfl)))))
theorem mw_130 : (.fieldLink "PatternMachine$Program" 72 "PatternMachine$Node" "next" "LPatternMachine$Node;" : Cond) ∈ wC := List.mem_append_right _ (List.mem_append_right _ (List.mem_append_right _ (List.mem_append_right _ (List.mem_append_left _ (List.mem_of_getElem? (i := 10) rfl)))))
theorem mw_131 : (.code y_Program_writeNode prog_4_method_4_code 4 none : Cond) ∈ wC := List.mem_append_right _ (List.mem_append_right _ (List.mem_append_right _ (List.mem_append_right _ (List.mem_append_left _ (List.mem_of_getElem? (i := 11) rfl)))))
theorem mw_132 : (.methodLink "PatternMachine$Program" 35 y_Program_writeNode : Cond) ∈ wC := List.mem_append_right _ (List.mem_append_right _ (List.mem_append_right _ (List.mem_append_right _ (List.mem_append_left _ (List.mem_of_getElem? (i := 12) rfl)))))
theorem mw_133 : (.instanceMethod y_Program_writeNode : Cond) ∈ wC := List.mem_append_right _ (List.mem_append_right _ (List.mem_append_right _ (List.mem_append_right _ (List.mem_append_left _ (List.mem_of_getElem? (i := 13) rfl)))))
theorem mw_134 : (.selects "PatternMachine$Program" y_Program_writeNode y_Program_writeNode : Cond) ∈ wC := List.mem_append_right _ (List.mem_append_right _ (List.mem_append_right _ (List.mem_append_right _ (List.mem_append_left _ (List.mem_of_getElem? (i := 14) rfl)))))
theorem mw_135 : (.code y_Program_writeChains prog_4_method_7_code 6 none : Cond) ∈ wC := List.mem_append_right _ (List.mem_append_right _ (List.mem_append_right _ (List.mem_append_right _ (List.mem_append_left _ (List.mem_of_getElem? (i := 15) rfl)))))
theorem mw_136 : (.methodLink "PatternMachine$Program" 54 y_Program_writeChains : Cond) ∈ wC := List.mem_append_right _ (List.mem_append_right _ (List.mem_append_right _ (List.mem_append_right _ (List.mem_append_left _ (List.mem_of_getElem? (i := 16) rfl)))))
theorem mw_137 : (.instanceMethod y_Program_writeChains : Cond) ∈ wC := List.mem_append_right _ (List.mem_append_right _ (List.mem_append_right _ (List.mem_append_right _ (List.mem_append_left _ (List.mem_of_getElem? (i := 17) rfl)))))
theorem mw_138 : (.selects "PatternMachine$Program" y_Program_writeChains y_Program_writeChains : Cond) ∈ wC := List.mem_append_right _ (List.mem_append_right _ (List.mem_append_right _ (List.mem_append_right _ (List.mem_append_left _ (List.mem_of_getElem? (i := 18) rfl)))))
theorem mw_139 : (.fieldLink "PatternMachine$Program" 32 "PatternMachine$Program" "groups" "I" : Cond) ∈ wC := List.mem_append_right _ (List.mem_append_right _ (List.mem_append_right _ (List.mem_append_right _ (List.mem_append_left _ (List.mem_of_getElem? (i := 19) rfl)))))
theorem mw_140 : (.code y_Program_put prog_4_method_3_code 4 none : Cond) ∈ wC := List.mem_append_right _ (List.mem_append_right _ (List.mem_append_right _ (List.mem_append_right _ (List.mem_append_left _ (List.mem_of_getElem? (i := 20) rfl)))))
theorem mw_141 : (.methodLink "PatternMachine$Program" 39 y_Program_put : Cond) ∈ wC := List.mem_append_right _ (List.mem_append_right _ (List.mem_append_right _ (List.mem_append_right _ (List.mem_append_left _ (List.mem_of_getElem? (i := 21) rfl)))))
theorem mw_142 : (.instanceMethod y_Program_put : Cond) ∈ wC := List.mem_append_right _ (List.mem_append_right _ (List.mem_append_right _ (List.mem_append_right _ (List.mem_append_left _ (List.mem_of_getElem? (i := 22) rfl)))))
theorem mw_143 : (.selects "PatternMachine$Program" y_Program_put y_Program_put : Cond) ∈ wC := List.mem_append_right _ (List.mem_append_right _ (List.mem_append_right _ (List.mem_append_right _ (List.mem_append_left _ (List.mem_of_getElem? (i := 23) rfl)))))
theorem mw_144 : (.code y_Row_put prog_6_method_3_code 2 (some .boolean) : Cond) ∈ wC := List.mem_append_right _ (List.mem_append_right _ (List.mem_append_right _ (List.mem_append_right _ (List.mem_append_left _ (List.mem_of_getElem? (i := 24) rfl)))))
theorem mw_145 : (.methodLink "PatternMachine" 49 y_Row_put : Cond) ∈ wC := List.mem_append_right _ (List.mem_append_right _ (List.mem_append_right _ (List.mem_append_right _ (List.mem_append_left _ (List.mem_of_getElem? (i := 25) rfl)))))
theorem mw_146 : (.instanceMethod y_Row_put : Cond) ∈ wC := List.mem_append_right _ (List.mem_append_right _ (List.mem_append_right _ (List.mem_append_right _ (List.mem_append_left _ (List.mem_of_getElem? (i := 26) rfl)))))
theorem mw_147 : (.selects "PatternMachine$Row" y_Row_put y_Row_put : Cond) ∈ wC := List.mem_append_right _ (List.mem_append_right _ (List.mem_append_right _ (List.mem_append_right _ (List.mem_append_left _ (List.mem_of_getElem? (i := 27) rfl)))))
theorem mw_148 : (.fieldLink "PatternMachine" 53 "PatternMachine$Row" "length" "I" : Cond) ∈ wC := List.mem_append_right _ (List.mem_append_right _ (List.mem_append_right _ (List.mem_append_right _ (List.mem_append_left _ (List.mem_of_getElem? (i := 28) rfl)))))
theorem mw_149 : (.code y_Reader_read prog_5_method_2_code 3 (some (.object "PatternMachine$Node")) : Cond) ∈ wC := List.mem_append_right _ (List.mem_append_right _ (List.mem_append_right _ (List.mem_append_right _ (List.mem_append_left _ (List.mem_of_getElem? (i := 29) rfl)))))
theorem mw_150 : (.methodLink "PatternMachine" 57 y_Reader_read : Cond) ∈ wC := List.mem_append_right _ (List.mem_append_right _ (List.mem_append_right _ (List.mem_append_right _ (List.mem_append_left _ (List.mem_of_getElem? (i := 30) rfl)))))
theorem mw_151 : (.instanceMethod y_Reader_read : Cond) ∈ wC := List.mem_append_right _ (List.mem_append_right _ (List.mem_append_right _ (List.mem_append_right _ (List.mem_append_left _ (List.mem_of_getElem? (i := 31) rfl)))))
theorem mw_152 : (.selects "PatternMachine$Reader" y_Reader_read y_Reader_read : Cond) ∈ wC := List.mem_append_right _ (List.mem_append_right _ (List.mem_append_right _ (List.mem_append_right _ (List.mem_append_left _ (List.mem_of_getElem? (i := 32) rfl)))))
theorem mw_153 : (.fieldLink "PatternMachine" 68 "PatternMachine$Node" "size" "I" : Cond) ∈ wC := List.mem_append_right _ (List.mem_append_right _ (List.mem_append_right _ (List.mem_append_right _ (List.mem_append_left _ (List.mem_of_getElem? (i := 33) rfl)))))
theorem mw_154 : (.fieldLink "PatternMachine" 78 "PatternMachine$Reader" "groups" "I" : Cond) ∈ wC := List.mem_append_right _ (List.mem_append_right _ (List.mem_append_right _ (List.mem_append_right _ (List.mem_append_left _ (List.mem_of_getElem? (i := 34) rfl)))))
theorem mw_155 : (.code y_Program_write prog_4_method_2_code 3 none : Cond) ∈ wC := List.mem_append_right _ (List.mem_append_right _ (List.mem_append_right _ (List.mem_append_right _ (List.mem_append_left _ (List.mem_of_getElem? (i := 35) rfl)))))
theorem mw_156 : (.methodLink "PatternMachine" 81 y_Program_write : Cond) ∈ wC := List.mem_append_right _ (List.mem_append_right _ (List.mem_append_right _ (List.mem_append_right _ (List.mem_append_left _ (List.mem_of_getElem? (i := 36) rfl)))))
theorem mw_157 : (.instanceMethod y_Program_write : Cond) ∈ wC := List.mem_append_right _ (List.mem_append_right _ (List.mem_append_right _ (List.mem_append_right _ (List.mem_append_left _ (List.mem_of_getElem? (i := 37) rfl)))))
theorem mw_158 : (.selects "PatternMachine$Program" y_Program_write y_Program_write : Cond) ∈ wC := List.mem_append_right _ (List.mem_append_right _ (List.mem_append_right _ (List.mem_append_right _ (List.mem_append_left _ (List.mem_of_getElem? (i := 38) rfl)))))
theorem mw_159 : (.fieldLink "PatternMachine" 85 "PatternMachine" "hasPattern" "Z" : Cond) ∈ wC := List.mem_append_right _ (List.mem_append_right _ (List.mem_append_right _ (List.mem_append_right _ (List.mem_append_left _ (List.mem_of_getElem? (i := 39) rfl)))))
theorem mw_160 : (.fieldLink "PatternMachine" 89 "PatternMachine" "found" "Z" : Cond) ∈ wC := List.mem_append_right _ (List.mem_append_right _ (List.mem_append_right _ (List.mem_append_right _ (List.mem_append_right _ (List.mem_append_left _ (List.mem_of_getElem? (i := 0) rfl))))))
theorem mw_161 : (.code y_Row_putPart prog_6_method_4_code 6 none : Cond) ∈ wC := List.mem_append_right _ (List.mem_append_right _ (List.mem_append_right _ (List.mem_append_right _ (List.mem_append_right _ (List.mem_append_left _ (List.mem_of_getElem? (i := 1) rfl))))))
theorem mw_162 : (.methodLink "PatternMachine" 92 y_Row_putPart : Cond) ∈ wC := List.mem_append_right _ (List.mem_append_right _ (List.mem_append_right _ (List.mem_append_right _ (List.mem_append_right _ (List.mem_append_left _ (List.mem_of_getElem? (i := 2) rfl))))))
theorem mw_163 : (.instanceMethod y_Row_putPart : Cond) ∈ wC := List.mem_append_right _ (List.mem_append_right _ (List.mem_append_right _ (List.mem_append_right _ (List.mem_append_right _ (List.mem_append_left _ (List.mem_of_getElem? (i := 3) rfl))))))
theorem mw_164 : (.selects "PatternMachine$Row" y_Row_putPart y_Row_putPart : Cond) ∈ wC := List.mem_append_right _ (List.mem_append_right _ (List.mem_append_right _ (List.mem_append_right _ (List.mem_append_right _ (List.mem_append_left _ (List.mem_of_getElem? (i := 4) rfl))))))
theorem mw_165 : (.methodLink "PatternMachine" 143 y_Row_at : Cond) ∈ wC := List.mem_append_right _ (List.mem_append_right _ (List.mem_append_right _ (List.mem_append_right _ (List.mem_append_right _ (List.mem_append_left _ (List.mem_of_getElem? (i := 5) rfl))))))
theorem mw_166 : (.fieldLink "PatternMachine" 113 "PatternMachine$Program" "groups" "I" : Cond) ∈ wC := List.mem_append_right _ (List.mem_append_right _ (List.mem_append_right _ (List.mem_append_right _ (List.mem_append_right _ (List.mem_append_left _ (List.mem_of_getElem? (i := 6) rfl))))))
theorem mw_167 : (.methodLink "PatternMachineModel" 1 objectInit : Cond) ∈ wC := List.mem_append_right _ (List.mem_append_right _ (List.mem_append_right _ (List.mem_append_right _ (List.mem_append_right _ (List.mem_append_left _ (List.mem_of_getElem? (i := 7) rfl))))))
theorem mw_168 : (.fieldLink "PatternMachineModel" 7 "PatternMachineModel" "line" "[C" : Cond) ∈ wC := List.mem_append_right _ (List.mem_append_right _ (List.mem_append_right _ (List.mem_append_right _ (List.mem_append_right _ (List.mem_append_left _ (List.mem_of_getElem? (i := 8) rfl))))))
theorem mw_169 : (.fieldLink "PatternMachineModel" 13 "PatternMachineModel" "text" "[C" : Cond) ∈ wC := List.mem_append_right _ (List.mem_append_right _ (List.mem_append_right _ (List.mem_append_right _ (List.mem_append_right _ (List.mem_append_left _ (List.mem_of_getElem? (i := 9) rfl))))))
theorem mw_170 : (.fieldLink "PatternMachineModel" 16 "PatternMachineModel" "op" "[I" : Cond) ∈ wC := List.mem_append_right _ (List.mem_append_right _ (List.mem_append_right _ (List.mem_append_right _ (List.mem_append_right _ (List.mem_append_left _ (List.mem_of_getElem? (i := 10) rfl))))))
theorem mw_171 : (.fieldLink "PatternMachineModel" 20 "PatternMachineModel" "first" "[I" : Cond) ∈ wC := List.mem_append_right _ (List.mem_append_right _ (List.mem_append_right _ (List.mem_append_right _ (List.mem_append_right _ (List.mem_append_left _ (List.mem_of_getElem? (i := 11) rfl))))))
theorem mw_172 : (.fieldLink "PatternMachineModel" 23 "PatternMachineModel" "second" "[I" : Cond) ∈ wC := List.mem_append_right _ (List.mem_append_right _ (List.mem_append_right _ (List.mem_append_right _ (List.mem_append_right _ (List.mem_append_left _ (List.mem_of_getElem? (i := 12) rfl))))))
theorem mw_173 : (.fieldLink "PatternMachineModel" 26 "PatternMachineModel" "low" "[J" : Cond) ∈ wC := List.mem_append_right _ (List.mem_append_right _ (List.mem_append_right _ (List.mem_append_right _ (List.mem_append_right _ (List.mem_append_left _ (List.mem_of_getElem? (i := 13) rfl))))))
theorem mw_174 : (.fieldLink "PatternMachineModel" 30 "PatternMachineModel" "high" "[J" : Cond) ∈ wC := List.mem_append_right _ (List.mem_append_right _ (List.mem_append_right _ (List.mem_append_right _ (List.mem_append_right _ (List.mem_append_left _ (List.mem_of_getElem? (i := 14) rfl))))))
theorem mw_175 : (.fieldLink "PatternMachineModel" 33 "PatternMachineModel" "begins" "[I" : Cond) ∈ wC := List.mem_append_right _ (List.mem_append_right _ (List.mem_append_right _ (List.mem_append_right _ (List.mem_append_right _ (List.mem_append_left _ (List.mem_of_getElem? (i := 15) rfl))))))
theorem mw_176 : (.fieldLink "PatternMachineModel" 36 "PatternMachineModel" "chain" "[I" : Cond) ∈ wC := List.mem_append_right _ (List.mem_append_right _ (List.mem_append_right _ (List.mem_append_right _ (List.mem_append_right _ (List.mem_append_left _ (List.mem_of_getElem? (i := 16) rfl))))))
theorem mw_177 : (.fieldLink "PatternMachineModel" 39 "PatternMachineModel" "sizes" "[I" : Cond) ∈ wC := List.mem_append_right _ (List.mem_append_right _ (List.mem_append_right _ (List.mem_append_right _ (List.mem_append_right _ (List.mem_append_left _ (List.mem_of_getElem? (i := 17) rfl))))))
theorem mw_178 : (.fieldLink "PatternMachineModel" 42 "PatternMachineModel" "number" "[I" : Cond) ∈ wC := List.mem_append_right _ (List.mem_append_right _ (List.mem_append_right _ (List.mem_append_right _ (List.mem_append_right _ (List.mem_append_left _ (List.mem_of_getElem? (i := 18) rfl))))))
theorem mw_179 : (.fieldLink "PatternMachineModel" 45 "PatternMachineModel" "jumps" "[I" : Cond) ∈ wC := List.mem_append_right _ (List.mem_append_right _ (List.mem_append_right _ (List.mem_append_right _ (List.mem_append_right _ (List.mem_append_left _ (List.mem_of_getElem? (i := 19) rfl))))))
theorem mw_180 : (.fieldLink "PatternMachineModel" 48 "PatternMachineModel" "copyOp" "[I" : Cond) ∈ wC := List.mem_append_right _ (List.mem_append_right _ (List.mem_append_right _ (List.mem_append_right _ (List.mem_append_right _ (List.mem_append_left _ (List.mem_of_getElem? (i := 20) rfl))))))
theorem mw_181 : (.fieldLink "PatternMachineModel" 51 "PatternMachineModel" "copyFirst" "[I" : Cond) ∈ wC := List.mem_append_right _ (List.mem_append_right _ (List.mem_append_right _ (List.mem_append_right _ (List.mem_append_right _ (List.mem_append_left _ (List.mem_of_getElem? (i := 21) rfl))))))
theorem mw_182 : (.fieldLink "PatternMachineModel" 54 "PatternMachineModel" "copySecond" "[I" : Cond) ∈ wC := List.mem_append_right _ (List.mem_append_right _ (List.mem_append_right _ (List.mem_append_right _ (List.mem_append_right _ (List.mem_append_left _ (List.mem_of_getElem? (i := 22) rfl))))))
theorem mw_183 : (.fieldLink "PatternMachineModel" 57 "PatternMachineModel" "copyLow" "[J" : Cond) ∈ wC := List.mem_append_right _ (List.mem_append_right _ (List.mem_append_right _ (List.mem_append_right _ (List.mem_append_right _ (List.mem_append_left _ (List.mem_of_getElem? (i := 23) rfl))))))
theorem mw_184 : (.fieldLink "PatternMachineModel" 60 "PatternMachineModel" "copyHigh" "[J" : Cond) ∈ wC := List.mem_append_right _ (List.mem_append_right _ (List.mem_append_right _ (List.mem_append_right _ (List.mem_append_right _ (List.mem_append_left _ (List.mem_of_getElem? (i := 24) rfl))))))
theorem mw_185 : (.fieldLink "PatternMachineModel" 63 "PatternMachineModel" "leads" "[J" : Cond) ∈ wC := List.mem_append_right _ (List.mem_append_right _ (List.mem_append_right _ (List.mem_append_right _ (List.mem_append_right _ (List.mem_append_left _ (List.mem_of_getElem? (i := 25) rfl))))))
theorem mw_186 : (.fieldLink "PatternMachineModel" 66 "PatternMachineModel" "been" "[I" : Cond) ∈ wC := List.mem_append_right _ (List.mem_append_right _ (List.mem_append_right _ (List.mem_append_right _ (List.mem_append_right _ (List.mem_append_left _ (List.mem_of_getElem? (i := 26) rfl))))))
theorem mw_187 : (.fieldLink "PatternMachineModel" 69 "PatternMachineModel" "todo" "[I" : Cond) ∈ wC := List.mem_append_right _ (List.mem_append_right _ (List.mem_append_right _ (List.mem_append_right _ (List.mem_append_right _ (List.mem_append_left _ (List.mem_of_getElem? (i := 27) rfl))))))
theorem mw_188 : (.fieldLink "PatternMachineModel" 72 "PatternMachineModel" "todoWith" "[I" : Cond) ∈ wC := List.mem_append_right _ (List.mem_append_right _ (List.mem_append_right _ (List.mem_append_right _ (List.mem_append_right _ (List.mem_append_left _ (List.mem_of_getElem? (i := 28) rfl))))))
theorem mw_189 : (.fieldLink "PatternMachineModel" 75 "PatternMachineModel" "caught" "[I" : Cond) ∈ wC := List.mem_append_right _ (List.mem_append_right _ (List.mem_append_right _ (List.mem_append_right _ (List.mem_append_right _ (List.mem_append_left _ (List.mem_of_getElem? (i := 29) rfl))))))
theorem mw_190 : (.fieldLink "PatternMachineModel" 78 "PatternMachineModel" "best" "[I" : Cond) ∈ wC := List.mem_append_right _ (List.mem_append_right _ (List.mem_append_right _ (List.mem_append_right _ (List.mem_append_right _ (List.mem_append_left _ (List.mem_of_getElem? (i := 30) rfl))))))
theorem mw_191 : (.fieldLink "PatternMachineModel" 81 "PatternMachineModel" "made" "[C" : Cond) ∈ wC := List.mem_append_right _ (List.mem_append_right _ (List.mem_append_right _ (List.mem_append_right _ (List.mem_append_right _ (List.mem_append_left _ (List.mem_of_getElem? (i := 31) rfl))))))
theorem mw_192 : (.fieldLink "PatternMachineModel" 84 "PatternMachineModel" "thrown" "I" : Cond) ∈ wC := List.mem_append_right _ (List.mem_append_right _ (List.mem_append_right _ (List.mem_append_right _ (List.mem_append_right _ (List.mem_append_left _ (List.mem_of_getElem? (i := 32) rfl))))))
theorem mw_193 : (.fieldLink "PatternMachineModel" 88 "PatternMachineModel" "length" "I" : Cond) ∈ wC := List.mem_append_right _ (List.mem_append_right _ (List.mem_append_right _ (List.mem_append_right _ (List.mem_append_right _ (List.mem_append_left _ (List.mem_of_getElem? (i := 33) rfl))))))
theorem mw_194 : (.fieldLink "PatternMachineModel" 265 "PatternMachineModel" "worked" "Z" : Cond) ∈ wC := List.mem_append_right _ (List.mem_append_right _ (List.mem_append_right _ (List.mem_append_right _ (List.mem_append_right _ (List.mem_append_left _ (List.mem_of_getElem? (i := 34) rfl))))))
theorem mw_195 : (.fieldLink "PatternMachineModel" 262 "PatternMachineModel" "workedWhole" "Z" : Cond) ∈ wC := List.mem_append_right _ (List.mem_append_right _ (List.mem_append_right _ (List.mem_append_right _ (List.mem_append_right _ (List.mem_append_left _ (List.mem_of_getElem? (i := 35) rfl))))))
theorem mw_196 : (.fieldLink "PatternMachineModel" 272 "PatternMachineModel" "known" "Z" : Cond) ∈ wC := List.mem_append_right _ (List.mem_append_right _ (List.mem_append_right _ (List.mem_append_right _ (List.mem_append_right _ (List.mem_append_left _ (List.mem_of_getElem? (i := 36) rfl))))))
theorem mw_197 : (.code y_Model_changed prog_9_method_45_code 1 none : Cond) ∈ wC := List.mem_append_right _ (List.mem_append_right _ (List.mem_append_right _ (List.mem_append_right _ (List.mem_append_right _ (List.mem_append_left _ (List.mem_of_getElem? (i := 37) rfl))))))
theorem mw_198 : (.methodLink "PatternMachineModel" 285 y_Model_changed : Cond) ∈ wC := List.mem_append_right _ (List.mem_append_right _ (List.mem_append_right _ (List.mem_append_right _ (List.mem_append_right _ (List.mem_append_left _ (List.mem_of_getElem? (i := 38) rfl))))))
theorem mw_199 : (.instanceMethod y_Model_changed : Cond) ∈ wC := List.mem_append_right _ (List.mem_append_right _ (List.mem_append_right _ (List.mem_append_right _ (List.mem_append_right _ (List.mem_append_left _ (List.mem_of_getElem? (i := 39) rfl))))))
theorem mw_200 : (.selects "PatternMachineModel" y_Model_changed y_Model_changed : Cond) ∈ wC := List.mem_append_right _ (List.mem_append_right _ (List.mem_append_right _ (List.mem_append_right _ (List.mem_append_right _ (List.mem_append_right _ (List.mem_append_left _ (List.mem_of_getElem? (i := 0) rfl)))))))
theorem mw_201 : (.initialized "PatternMachineModel" : Cond) ∈ wC := List.mem_append_right _ (List.mem_append_right _ (List.mem_append_right _ (List.mem_append_right _ (List.mem_append_right _ (List.mem_append_right _ (List.mem_append_left _ (List.mem_of_getElem? (i := 1) rfl)))))))
theorem mw_202 : (.fieldLink "PatternMachineModel" 232 "PatternMachineModel" "end" "I" : Cond) ∈ wC := List.mem_append_right _ (List.mem_append_right _ (List.mem_append_right _ (List.mem_append_right _ (List.mem_append_right _ (List.mem_append_right _ (List.mem_append_left _ (List.mem_of_getElem? (i := 2) rfl)))))))
theorem mw_203 : (.fieldLink "PatternMachineModel" 129 "PatternMachineModel" "size" "I" : Cond) ∈ wC := List.mem_append_right _ (List.mem_append_right _ (List.mem_append_right _ (List.mem_append_right _ (List.mem_append_right _ (List.mem_append_right _ (List.mem_append_left _ (List.mem_of_getElem? (i := 3) rfl)))))))
theorem mw_204 : (.code y_Model_throwsNow prog_9_method_3_code 2 (some .boolean) : Cond) ∈ wC := List.mem_append_right _ (List.mem_append_right _ (List.mem_append_right _ (List.mem_append_right _ (List.mem_append_right _ (List.mem_append_right _ (List.mem_append_left _ (List.mem_of_getElem? (i := 4) rfl)))))))
theorem mw_205 : (.methodLink "PatternMachineModel" 279 y_Model_throwsNow : Cond) ∈ wC := List.mem_append_right _ (List.mem_append_right _ (List.mem_append_right _ (List.mem_append_right _ (List.mem_append_right _ (List.mem_append_right _ (List.mem_append_left _ (List.mem_of_getElem? (i := 5) rfl)))))))
theorem mw_206 : (.instanceMethod y_Model_throwsNow : Cond) ∈ wC := List.mem_append_right _ (List.mem_append_right _ (List.mem_append_right _ (List.mem_append_right _ (List.mem_append_right _ (List.mem_append_right _ (List.mem_append_left _ (List.mem_of_getElem? (i := 6) rfl)))))))
theorem mw_207 : (.selects "PatternMachineModel" y_Model_throwsNow y_Model_throwsNow : Cond) ∈ wC := List.mem_append_right _ (List.mem_append_right _ (List.mem_append_right _ (List.mem_append_right _ (List.mem_append_right _ (List.mem_append_right _ (List.mem_append_left _ (List.mem_of_getElem? (i := 7) rfl)))))))
theorem mw_208 : (.fieldLink "PatternMachineModel" 282 "PatternMachineModel" "groups" "I" : Cond) ∈ wC := List.mem_append_right _ (List.mem_append_right _ (List.mem_append_right _ (List.mem_append_right _ (List.mem_append_right _ (List.mem_append_right _ (List.mem_append_left _ (List.mem_of_getElem? (i := 8) rfl)))))))
theorem mw_209 : (.fieldLink "PatternMachineModel" 132 "PatternMachineModel" "open" "I" : Cond) ∈ wC := List.mem_append_right _ (List.mem_append_right _ (List.mem_append_right _ (List.mem_append_right _ (List.mem_append_right _ (List.mem_append_right _ (List.mem_append_left _ (List.mem_of_getElem? (i := 9) rfl)))))))
theorem mw_210 : (.fieldLink "PatternMachineModel" 125 "PatternMachineModel" "lays" "Z" : Cond) ∈ wC := List.mem_append_right _ (List.mem_append_right _ (List.mem_append_right _ (List.mem_append_right _ (List.mem_append_right _ (List.mem_append_right _ (List.mem_append_left _ (List.mem_of_getElem? (i := 10) rfl)))))))
theorem mw_211 : (.fieldLink "PatternMachineModel" 110 "PatternMachineModel" "newFlags" "I" : Cond) ∈ wC := List.mem_append_right _ (List.mem_append_right _ (List.mem_append_right _ (List.mem_append_right _ (List.mem_append_right _ (List.mem_append_right _ (List.mem_append_left _ (List.mem_of_getElem? (i := 11) rfl)))))))
theorem mw_212 : (.fieldLink "PatternMachineModel" 118 "PatternMachineModel" "at" "I" : Cond) ∈ wC := List.mem_append_right _ (List.mem_append_right _ (List.mem_append_right _ (List.mem_append_right _ (List.mem_append_right _ (List.mem_append_right _ (List.mem_append_left _ (List.mem_of_getElem? (i := 12) rfl)))))))
theorem mw_213 : (.fieldLink "PatternMachineModel" 153 "PatternMachineModel" "bad" "Z" : Cond) ∈ wC := List.mem_append_right _ (List.mem_append_right _ (List.mem_append_right _ (List.mem_append_right _ (List.mem_append_right _ (List.mem_append_right _ (List.mem_append_left _ (List.mem_of_getElem? (i := 13) rfl)))))))
theorem mw_214 : (.fieldLink "PatternMachineModel" 156 "PatternMachineModel" "opened" "I" : Cond) ∈ wC := List.mem_append_right _ (List.mem_append_right _ (List.mem_append_right _ (List.mem_append_right _ (List.mem_append_right _ (List.mem_append_right _ (List.mem_append_left _ (List.mem_of_getElem? (i := 14) rfl)))))))
theorem mw_215 : (.fieldLink "PatternMachineModel" 139 "PatternMachineModel" "atom" "I" : Cond) ∈ wC := List.mem_append_right _ (List.mem_append_right _ (List.mem_append_right _ (List.mem_append_right _ (List.mem_append_right _ (List.mem_append_right _ (List.mem_append_left _ (List.mem_of_getElem? (i := 15) rfl)))))))
theorem mw_216 : (.code y_Model_beginPattern prog_9_method_17_code 2 none : Cond) ∈ wC := List.mem_append_right _ (List.mem_append_right _ (List.mem_append_right _ (List.mem_append_right _ (List.mem_append_right _ (List.mem_append_right _ (List.mem_append_left _ (List.mem_of_getElem? (i := 16) rfl)))))))
theorem mw_217 : (.methodLink "PatternMachineModel" 159 y_Model_beginPattern : Cond) ∈ wC := List.mem_append_right _ (List.mem_append_right _ (List.mem_append_right _ (List.mem_append_right _ (List.mem_append_right _ (List.mem_append_right _ (List.mem_append_left _ (List.mem_of_getElem? (i := 17) rfl)))))))
theorem mw_218 : (.instanceMethod y_Model_beginPattern : Cond) ∈ wC := List.mem_append_right _ (List.mem_append_right _ (List.mem_append_right _ (List.mem_append_right _ (List.mem_append_right _ (List.mem_append_right _ (List.mem_append_left _ (List.mem_of_getElem? (i := 18) rfl)))))))
theorem mw_219 : (.selects "PatternMachineModel" y_Model_beginPattern y_Model_beginPattern : Cond) ∈ wC := List.mem_append_right _ (List.mem_append_right _ (List.mem_append_right _ (List.mem_append_right _ (List.mem_append_right _ (List.mem_append_right _ (List.mem_append_left _ (List.mem_of_getElem? (i := 19) rfl)))))))
theorem mw_220 : (.fieldLink "PatternMachineModel" 91 "PatternMachineModel" "setLow" "J" : Cond) ∈ wC := List.mem_append_right _ (List.mem_append_right _ (List.mem_append_right _ (List.mem_append_right _ (List.mem_append_right _ (List.mem_append_right _ (List.mem_append_left _ (List.mem_of_getElem? (i := 20) rfl)))))))
theorem mw_221 : (.fieldLink "PatternMachineModel" 95 "PatternMachineModel" "setHigh" "J" : Cond) ∈ wC := List.mem_append_right _ (List.mem_append_right _ (List.mem_append_right _ (List.mem_append_right _ (List.mem_append_right _ (List.mem_append_right _ (List.mem_append_left _ (List.mem_of_getElem? (i := 21) rfl)))))))
theorem mw_222 : (.code y_Model_reads prog_9_method_35_code 3 (some .boolean) : Cond) ∈ wC := List.mem_append_right _ (List.mem_append_right _ (List.mem_append_right _ (List.mem_append_right _ (List.mem_append_right _ (List.mem_append_right _ (List.mem_append_left _ (List.mem_of_getElem? (i := 22) rfl)))))))
theorem mw_223 : (.methodLink "PatternMachineModel" 275 y_Model_reads : Cond) ∈ wC := List.mem_append_right _ (List.mem_append_right _ (List.mem_append_right _ (List.mem_append_right _ (List.mem_append_right _ (List.mem_append_right _ (List.mem_append_left _ (List.mem_of_getElem? (i := 23) rfl)))))))
theorem mw_224 : (.instanceMethod y_Model_reads : Cond) ∈ wC := List.mem_append_right _ (List.mem_append_right _ (List.mem_append_right _ (List.mem_append_right _ (List.mem_append_right _ (List.mem_append_right _ (List.mem_append_left _ (List.mem_of_getElem? (i := 24) rfl)))))))
theorem mw_225 : (.selects "PatternMachineModel" y_Model_reads y_Model_reads : Cond) ∈ wC := List.mem_append_right _ (List.mem_append_right _ (List.mem_append_right _ (List.mem_append_right _ (List.mem_append_right _ (List.mem_append_right _ (List.mem_append_left _ (List.mem_of_getElem? (i := 25) rfl)))))))
theorem mw_226 : (.code y_Model_endPattern prog_9_method_21_code 4 none : Cond) ∈ wC := List.mem_append_right _ (List.mem_append_right _ (List.mem_append_right _ (List.mem_append_right _ (List.mem_append_right _ (List.mem_append_right _ (List.mem_append_left _ (List.mem_of_getElem? (i := 26) rfl)))))))
theorem mw_227 : (.methodLink "PatternMachineModel" 162 y_Model_endPattern : Cond) ∈ wC := List.mem_append_right _ (List.mem_append_right _ (List.mem_append_right _ (List.mem_append_right _ (List.mem_append_right _ (List.mem_append_right _ (List.mem_append_left _ (List.mem_of_getElem? (i := 27) rfl)))))))
theorem mw_228 : (.instanceMethod y_Model_endPattern : Cond) ∈ wC := List.mem_append_right _ (List.mem_append_right _ (List.mem_append_right _ (List.mem_append_right _ (List.mem_append_right _ (List.mem_append_right _ (List.mem_append_left _ (List.mem_of_getElem? (i := 28) rfl)))))))
theorem mw_229 : (.selects "PatternMachineModel" y_Model_endPattern y_Model_endPattern : Cond) ∈ wC := List.mem_append_right _ (List.mem_append_right _ (List.mem_append_right _ (List.mem_append_right _ (List.mem_append_right _ (List.mem_append_right _ (List.mem_append_left _ (List.mem_of_getElem? (i := 29) rfl)))))))
theorem mw_230 : (.code y_Model_lay prog_9_method_16_code 4 none : Cond) ∈ wC := List.mem_append_right _ (List.mem_append_right _ (List.mem_append_right _ (List.mem_append_right _ (List.mem_append_right _ (List.mem_append_right _ (List.mem_append_left _ (List.mem_of_getElem? (i := 30) rfl)))))))
theorem mw_231 : (.methodLink "PatternMachineModel" 135 y_Model_lay : Cond) ∈ wC := List.mem_append_right _ (List.mem_append_right _ (List.mem_append_right _ (List.mem_append_right _ (List.mem_append_right _ (List.mem_append_right _ (List.mem_append_left _ (List.mem_of_getElem? (i := 31) rfl)))))))
theorem mw_232 : (.instanceMethod y_Model_lay : Cond) ∈ wC := List.mem_append_right _ (List.mem_append_right _ (List.mem_append_right _ (List.mem_append_right _ (List.mem_append_right _ (List.mem_append_right _ (List.mem_append_left _ (List.mem_of_getElem? (i := 32) rfl)))))))
theorem mw_233 : (.selects "PatternMachineModel" y_Model_lay y_Model_lay : Cond) ∈ wC := List.mem_append_right _ (List.mem_append_right _ (List.mem_append_right _ (List.mem_append_right _ (List.mem_append_right _ (List.mem_append_right _ (List.mem_append_left _ (List.mem_of_getElem? (i := 33) rfl)))))))
theorem mw_234 : (.fieldLink "PatternMachineModel" 235 "PatternMachineModel" "flags" "I" : Cond) ∈ wC := List.mem_append_right _ (List.mem_append_right _ (List.mem_append_right _ (List.mem_append_right _ (List.mem_append_right _ (List.mem_append_right _ (List.mem_append_left _ (List.mem_of_getElem? (i := 34) rfl)))))))
theorem mw_235 : (.classLink "PatternMachine" 108 "java/lang/IllegalStateException" : Cond) ∈ wC := List.mem_append_right _ (List.mem_append_right _ (List.mem_append_right _ (List.mem_append_right _ (List.mem_append_right _ (List.mem_append_right _ (List.mem_append_left _ (List.mem_of_getElem? (i := 35) rfl)))))))
theorem mw_236 : (.instantiable "java/lang/IllegalStateException" 6 : Cond) ∈ wC := List.mem_append_right _ (List.mem_append_right _ (List.mem_append_right _ (List.mem_append_right _ (List.mem_append_right _ (List.mem_append_right _ (List.mem_append_left _ (List.mem_of_getElem? (i := 36) rfl)))))))
theorem mw_237 : (.initialized "java/lang/IllegalStateException" : Cond) ∈ wC := List.mem_append_right _ (List.mem_append_right _ (List.mem_append_right _ (List.mem_append_right _ (List.mem_append_right _ (List.mem_append_right _ (List.mem_append_left _ (List.mem_of_getElem? (i := 37) rfl)))))))
theorem mw_238 : (.methodLink "PatternMachine" 96 y_PM_needPattern : Cond) ∈ wC := List.mem_append_right _ (List.mem_append_right _ (List.mem_append_right _ (List.mem_append_right _ (List.mem_append_right _ (List.mem_append_right _ (List.mem_append_left _ (List.mem_of_getElem? (i := 38) rfl)))))))
theorem mw_239 : (.instanceMethod y_PM_needPattern : Cond) ∈ wC := List.mem_append_right _ (List.mem_append_right _ (List.mem_append_right _ (List.mem_append_right _ (List.mem_append_right _ (List.mem_append_right _ (List.mem_append_left _ (List.mem_of_getElem? (i := 39) rfl)))))))
theorem mw_240 : (.selects "PatternMachine" y_PM_needPattern y_PM_needPattern : Cond) ∈ wC := List.mem_append_right _ (List.mem_append_right _ (List.mem_append_right _ (List.mem_append_right _ (List.mem_append_right _ (List.mem_append_right _ (List.mem_append_right _ (List.mem_append_left _ (List.mem_of_getElem? (i := 0) rfl))))))))
theorem mw_241 : (.initialized "PatternMachine" : Cond) ∈ wC := List.mem_append_right _ (List.mem_append_right _ (List.mem_append_right _ (List.mem_append_right _ (List.mem_append_right _ (List.mem_append_right _ (List.mem_append_right _ (List.mem_append_left _ (List.mem_of_getElem? (i := 1) rfl))))))))
theorem mw_242 : (.code y_PM_needPattern prog_1_method_15_code 1 none : Cond) ∈ wC := List.mem_append_right _ (List.mem_append_right _ (List.mem_append_right _ (List.mem_append_right _ (List.mem_append_right _ (List.mem_append_right _ (List.mem_append_right _ (List.mem_append_left _ (List.mem_of_getElem? (i := 2) rfl))))))))
theorem mw_243 : (.methodLink "PatternMachineLaw" 17 y_PM_find : Cond) ∈ wC := List.mem_append_right _ (List.mem_append_right _ (List.mem_append_right _ (List.mem_append_right _ (List.mem_append_right _ (List.mem_append_right _ (List.mem_append_right _ (List.mem_append_left _ (List.mem_of_getElem? (i := 3) rfl))))))))
theorem mw_244 : (.instanceMethod y_PM_find : Cond) ∈ wC := List.mem_append_right _ (List.mem_append_right _ (List.mem_append_right _ (List.mem_append_right _ (List.mem_append_right _ (List.mem_append_right _ (List.mem_append_right _ (List.mem_append_left _ (List.mem_of_getElem? (i := 4) rfl))))))))
theorem mw_245 : (.selects "PatternMachine" y_PM_find y_PM_find : Cond) ∈ wC := List.mem_append_right _ (List.mem_append_right _ (List.mem_append_right _ (List.mem_append_right _ (List.mem_append_right _ (List.mem_append_right _ (List.mem_append_right _ (List.mem_append_left _ (List.mem_of_getElem? (i := 5) rfl))))))))
theorem mw_246 : (.code y_PM_find prog_1_method_7_code 2 (some .boolean) : Cond) ∈ wC := List.mem_append_right _ (List.mem_append_right _ (List.mem_append_right _ (List.mem_append_right _ (List.mem_append_right _ (List.mem_append_right _ (List.mem_append_right _ (List.mem_append_left _ (List.mem_of_getElem? (i := 6) rfl))))))))
theorem mw_247 : (.classLink "PatternMachineLaw" 21 "java/lang/IllegalStateException" : Cond) ∈ wC := List.mem_append_right _ (List.mem_append_right _ (List.mem_append_right _ (List.mem_append_right _ (List.mem_append_right _ (List.mem_append_right _ (List.mem_append_right _ (List.mem_append_left _ (List.mem_of_getElem? (i := 7) rfl))))))))
theorem mw_248 : (.methodLink "PatternMachineLaw" 25 y_PM_matches : Cond) ∈ wC := List.mem_append_right _ (List.mem_append_right _ (List.mem_append_right _ (List.mem_append_right _ (List.mem_append_right _ (List.mem_append_right _ (List.mem_append_right _ (List.mem_append_left _ (List.mem_of_getElem? (i := 8) rfl))))))))
theorem mw_249 : (.instanceMethod y_PM_matches : Cond) ∈ wC := List.mem_append_right _ (List.mem_append_right _ (List.mem_append_right _ (List.mem_append_right _ (List.mem_append_right _ (List.mem_append_right _ (List.mem_append_right _ (List.mem_append_left _ (List.mem_of_getElem? (i := 9) rfl))))))))
theorem mw_250 : (.selects "PatternMachine" y_PM_matches y_PM_matches : Cond) ∈ wC := List.mem_append_right _ (List.mem_append_right _ (List.mem_append_right _ (List.mem_append_right _ (List.mem_append_right _ (List.mem_append_right _ (List.mem_append_right _ (List.mem_append_left _ (List.mem_of_getElem? (i := 10) rfl))))))))
theorem mw_251 : (.code y_PM_matches prog_1_method_8_code 1 (some .boolean) : Cond) ∈ wC := List.mem_append_right _ (List.mem_append_right _ (List.mem_append_right _ (List.mem_append_right _ (List.mem_append_right _ (List.mem_append_right _ (List.mem_append_right _ (List.mem_append_left _ (List.mem_of_getElem? (i := 11) rfl))))))))
theorem mw_252 : (.methodLink "PatternMachineLaw" 29 y_PM_group : Cond) ∈ wC := List.mem_append_right _ (List.mem_append_right _ (List.mem_append_right _ (List.mem_append_right _ (List.mem_append_right _ (List.mem_append_right _ (List.mem_append_right _ (List.mem_append_left _ (List.mem_of_getElem? (i := 12) rfl))))))))
theorem mw_253 : (.instanceMethod y_PM_group : Cond) ∈ wC := List.mem_append_right _ (List.mem_append_right _ (List.mem_append_right _ (List.mem_append_right _ (List.mem_append_right _ (List.mem_append_right _ (List.mem_append_right _ (List.mem_append_left _ (List.mem_of_getElem? (i := 13) rfl))))))))
theorem mw_254 : (.selects "PatternMachine" y_PM_group y_PM_group : Cond) ∈ wC := List.mem_append_right _ (List.mem_append_right _ (List.mem_append_right _ (List.mem_append_right _ (List.mem_append_right _ (List.mem_append_right _ (List.mem_append_right _ (List.mem_append_left _ (List.mem_of_getElem? (i := 14) rfl))))))))
theorem mw_255 : (.code y_PM_group prog_1_method_9_code 3 (some .int) : Cond) ∈ wC := List.mem_append_right _ (List.mem_append_right _ (List.mem_append_right _ (List.mem_append_right _ (List.mem_append_right _ (List.mem_append_right _ (List.mem_append_right _ (List.mem_append_left _ (List.mem_of_getElem? (i := 15) rfl))))))))
theorem mw_256 : (.methodLink "PatternMachineLaw" 33 y_PM_count : Cond) ∈ wC := List.mem_append_right _ (List.mem_append_right _ (List.mem_append_right _ (List.mem_append_right _ (List.mem_append_right _ (List.mem_append_right _ (List.mem_append_right _ (List.mem_append_left _ (List.mem_of_getElem? (i := 16) rfl))))))))
theorem mw_257 : (.instanceMethod y_PM_count : Cond) ∈ wC := List.mem_append_right _ (List.mem_append_right _ (List.mem_append_right _ (List.mem_append_right _ (List.mem_append_right _ (List.mem_append_right _ (List.mem_append_right _ (List.mem_append_left _ (List.mem_of_getElem? (i := 17) rfl))))))))
theorem mw_258 : (.selects "PatternMachine" y_PM_count y_PM_count : Cond) ∈ wC := List.mem_append_right _ (List.mem_append_right _ (List.mem_append_right _ (List.mem_append_right _ (List.mem_append_right _ (List.mem_append_right _ (List.mem_append_right _ (List.mem_append_left _ (List.mem_of_getElem? (i := 18) rfl))))))))
theorem mw_259 : (.code y_PM_count prog_1_method_10_code 4 (some .int) : Cond) ∈ wC := List.mem_append_right _ (List.mem_append_right _ (List.mem_append_right _ (List.mem_append_right _ (List.mem_append_right _ (List.mem_append_right _ (List.mem_append_right _ (List.mem_append_left _ (List.mem_of_getElem? (i := 19) rfl))))))))
theorem mw_260 : (.methodLink "PatternMachineLaw" 37 y_PM_replace : Cond) ∈ wC := List.mem_append_right _ (List.mem_append_right _ (List.mem_append_right _ (List.mem_append_right _ (List.mem_append_right _ (List.mem_append_right _ (List.mem_append_right _ (List.mem_append_left _ (List.mem_of_getElem? (i := 20) rfl))))))))
theorem mw_261 : (.instanceMethod y_PM_replace : Cond) ∈ wC := List.mem_append_right _ (List.mem_append_right _ (List.mem_append_right _ (List.mem_append_right _ (List.mem_append_right _ (List.mem_append_right _ (List.mem_append_right _ (List.mem_append_left _ (List.mem_of_getElem? (i := 21) rfl))))))))
theorem mw_262 : (.selects "PatternMachine" y_PM_replace y_PM_replace : Cond) ∈ wC := List.mem_append_right _ (List.mem_append_right _ (List.mem_append_right _ (List.mem_append_right _ (List.mem_append_right _ (List.mem_append_right _ (List.mem_append_right _ (List.mem_append_left _ (List.mem_of_getElem? (i := 22) rfl))))))))
theorem mw_263 : (.code y_PM_replace prog_1_method_11_code 5 (some .int) : Cond) ∈ wC := List.mem_append_right _ (List.mem_append_right _ (List.mem_append_right _ (List.mem_append_right _ (List.mem_append_right _ (List.mem_append_right _ (List.mem_append_right _ (List.mem_append_left _ (List.mem_of_getElem? (i := 23) rfl))))))))
theorem mw_264 : (.methodLink "PatternMachineLaw" 40 y_PM_piece : Cond) ∈ wC := List.mem_append_right _ (List.mem_append_right _ (List.mem_append_right _ (List.mem_append_right _ (List.mem_append_right _ (List.mem_append_right _ (List.mem_append_right _ (List.mem_append_left _ (List.mem_of_getElem? (i := 24) rfl))))))))
theorem mw_265 : (.instanceMethod y_PM_piece : Cond) ∈ wC := List.mem_append_right _ (List.mem_append_right _ (List.mem_append_right _ (List.mem_append_right _ (List.mem_append_right _ (List.mem_append_right _ (List.mem_append_right _ (List.mem_append_left _ (List.mem_of_getElem? (i := 25) rfl))))))))
theorem mw_266 : (.selects "PatternMachine" y_PM_piece y_PM_piece : Cond) ∈ wC := List.mem_append_right _ (List.mem_append_right _ (List.mem_append_right _ (List.mem_append_right _ (List.mem_append_right _ (List.mem_append_right _ (List.mem_append_right _ (List.mem_append_left _ (List.mem_of_getElem? (i := 26) rfl))))))))
theorem mw_267 : (.code y_PM_piece prog_1_method_12_code 7 (some .int) : Cond) ∈ wC := List.mem_append_right _ (List.mem_append_right _ (List.mem_append_right _ (List.mem_append_right _ (List.mem_append_right _ (List.mem_append_right _ (List.mem_append_right _ (List.mem_append_left _ (List.mem_of_getElem? (i := 27) rfl))))))))
theorem mw_268 : (.code y_PM_compile prog_1_method_4_code 3 (some .int) : Cond) ∈ wC := List.mem_append_right _ (List.mem_append_right _ (List.mem_append_right _ (List.mem_append_right _ (List.mem_append_right _ (List.mem_append_right _ (List.mem_append_right _ (List.mem_append_left _ (List.mem_of_getElem? (i := 28) rfl))))))))
theorem mw_269 : (.methodLink "PatternMachineLaw" 7 y_PM_compile : Cond) ∈ wC := List.mem_append_right _ (List.mem_append_right _ (List.mem_append_right _ (List.mem_append_right _ (List.mem_append_right _ (List.mem_append_right _ (List.mem_append_right _ (List.mem_append_left _ (List.mem_of_getElem? (i := 29) rfl))))))))
theorem mw_270 : (.instanceMethod y_PM_compile : Cond) ∈ wC := List.mem_append_right _ (List.mem_append_right _ (List.mem_append_right _ (List.mem_append_right _ (List.mem_append_right _ (List.mem_append_right _ (List.mem_append_right _ (List.mem_append_left _ (List.mem_of_getElem? (i := 30) rfl))))))))
theorem mw_271 : (.selects "PatternMachine" y_PM_compile y_PM_compile : Cond) ∈ wC := List.mem_append_right _ (List.mem_append_right _ (List.mem_append_right _ (List.mem_append_right _ (List.mem_append_right _ (List.mem_append_right _ (List.mem_append_right _ (List.mem_append_left _ (List.mem_of_getElem? (i := 31) rfl))))))))
theorem wD_0_in : ∀ w ∈ wD_0, w ∈ lw_tbl := by decide +kernel
theorem wD_1_in : ∀ w ∈ wD_1, w ∈ lw_tbl := by decide +kernel
theorem wD_2_in : ∀ w ∈ wD_2, w ∈ lw_tbl := by decide +kernel
theorem wD_3_in : ∀ w ∈ wD_3, w ∈ lw_tbl := by decide +kernel
theorem wD_4_in : ∀ w ∈ wD_4, w ∈ lw_tbl := by decide +kernel
theorem wD_5_in : ∀ w ∈ wD_5, w ∈ lw_tbl := by decide +kernel
theorem wD_6_in : ∀ w ∈ wD_6, w ∈ lw_tbl := by decide +kernel
theorem wF_in : ∀ w ∈ wF, w ∈ lw_tbl := by decide +kernel
theorem wT_in : ∀ w ∈ wT, w ∈ lw_tbl := by decide +kernel
theorem wC_in : ∀ w ∈ wC, w ∈ lw_tbl := List.forall_mem_append.mpr ⟨wF_in, (List.forall_mem_append.mpr ⟨wD_0_in, (List.forall_mem_append.mpr ⟨wD_1_in, (List.forall_mem_append.mpr ⟨wD_2_in, (List.forall_mem_append.mpr ⟨wD_3_in, (List.forall_mem_append.mpr ⟨wD_4_in, (List.forall_mem_append.mpr ⟨wD_5_in, (List.forall_mem_append.mpr ⟨wD_6_in, wT_in⟩)⟩)⟩)⟩)⟩)⟩)⟩)⟩
theorem nilP {D : va_G} {cl : List vw_C} {H : Heap} : va_P D cl [] H := fun _ _ h => by simp at h
theorem nilD {A : Nat → Prop} : va_D A [] := ⟨fun _ _ _ _ h => by simp at h, fun _ _ h => by simp at h⟩
theorem wC_ok : wC.all goodWord = true := by decide +kernel
theorem gS {ws : List Cond} (h : ∀ w ∈ ws, w ∈ wC) : GoodIn wC ws := fun w hw => ⟨h w hw, good_of_word (List.all_eq_true.mp wC_ok w (h w hw))⟩
theorem gC {y : MethodName} {b : ByteArray} {n : Nat} {r : Option FieldType} (h5 : Cond.code y b n r ∈ wC) : GoodIn wC (Cond.code y b n r :: wC) := gS (fun w hw => (List.mem_cons.mp hw).elim (fun e => e ▸ h5) id)
theorem gCW {y : MethodName} {b : ByteArray} {n : Nat} {r : Option FieldType} {hh : List (Nat × Nat × Nat × Nat)} (h5 : Cond.codeWith y b n r hh ∈ wC) : GoodIn wC (Cond.codeWith y b n r hh :: wC) := gS (fun w hw => (List.mem_cons.mp hw).elim (fun e => e ▸ h5) id)
theorem gV {own C : String} {i : Nat} {y : MethodName} {b : ByteArray} {n : Nat} {r : Option FieldType} (h1 : Cond.methodLink own i y ∈ wC) (h2 : Cond.instanceMethod y ∈ wC) (h3 : Cond.selects C y y ∈ wC) (h4 : Cond.initialized C ∈ wC) (h5 : Cond.code y b n r ∈ wC) : GoodIn wC (wsV own i C y (Cond.code y b n r :: wC)) := gS (fun w hw => by
  rcases List.mem_append.mp hw with h | h
  · simp only [List.mem_cons, List.not_mem_nil, or_false] at h
    rcases h with rfl | rfl | rfl | rfl <;> assumption
  · exact (List.mem_cons.mp h).elim (fun e => e ▸ h5) id)
