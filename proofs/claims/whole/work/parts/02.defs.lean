/-! ===== BEGIN printed: names, fields, word lists, decode rows ===== -/
def RX0 : String := "Sequencepoint$Function"
def TX0 : u_T := fun k => match k with
  | 0 => ("Sequencepoint$Function", "index", "I", false)
  | 1 => ("Sequencepoint$Function", "result", "I", true)
  | 2 => ("Sequencepoint$Function", "first", "LSequencepoint$Variable;", true)
  | _ => ("Sequencepoint$Function", "second", "LSequencepoint$Variable;", true)
def RX1 : String := "Sequencepoint$Machine"
def TX1 : u_T := fun k => match k with
  | 0 => ("Sequencepoint$Machine", "memory", "LSequencepoint$Memory;", true)
  | 1 => ("Sequencepoint$Machine", "rows", "[I", true)
  | 2 => ("Sequencepoint$Machine", "bodies", "[LSequencepoint$Statement;", false)
  | 3 => ("Sequencepoint$Machine", "outcome", "LSequencepoint$Outcome;", false)
  | 4 => ("Sequencepoint$Machine", "order", "I", false)
  | 5 => ("Sequencepoint$Machine", "depth", "I", false)
  | 6 => ("Sequencepoint$Machine", "isReturning", "Z", false)
  | _ => ("Sequencepoint$Machine", "returned", "J", false)
def tyX1 : Nat → FieldType := fun k => match k with
  | 0 => .object "Sequencepoint$Memory"
  | 1 => .array .int
  | 2 => .array (.object "Sequencepoint$Statement")
  | 3 => .object "Sequencepoint$Outcome"
  | 4 => .int
  | 5 => .int
  | 6 => .boolean
  | _ => .long
abbrev wsX10 : List Cond := u_ws RX1 TX1 8
theorem nmX1 : ∀ a, a < 8 → ∀ b, b < 8 → a ≠ b → (TX1 a).2.1 ≠ (TX1 b).2.1 := by decide +kernel
theorem tyX1_ok : ∀ k, k < 8 → parseFieldDescriptor (TX1 k).2.2.1 = some (tyX1 k) := by decide +kernel
abbrev cX1_init : ByteArray := prog_3_method_1_code
def yX1_init : MethodName := ⟨RX1, "<init>", "()V"⟩
def RX2 : String := "Sequencepoint$Memory"
def TX2 : u_T := fun k => match k with
  | 0 => ("Sequencepoint$Memory", "firstCell", "[I", true)
  | 1 => ("Sequencepoint$Memory", "lastCell", "[I", true)
  | 2 => ("Sequencepoint$Memory", "isAlive", "[Z", true)
  | 3 => ("Sequencepoint$Memory", "owner", "[I", true)
  | 4 => ("Sequencepoint$Memory", "values", "[J", true)
  | 5 => ("Sequencepoint$Memory", "isDetermined", "[Z", true)
  | 6 => ("Sequencepoint$Memory", "loggedCell", "[I", true)
  | 7 => ("Sequencepoint$Memory", "loggedWrite", "[Z", true)
  | 8 => ("Sequencepoint$Memory", "lifeCount", "I", false)
  | 9 => ("Sequencepoint$Memory", "cellCount", "I", false)
  | _ => ("Sequencepoint$Memory", "logCount", "I", false)
def tyX2 : Nat → FieldType := fun k => match k with
  | 0 => .array .int
  | 1 => .array .int
  | 2 => .array .boolean
  | 3 => .array .int
  | 4 => .array .long
  | 5 => .array .boolean
  | 6 => .array .int
  | 7 => .array .boolean
  | 8 => .int
  | 9 => .int
  | _ => .int
abbrev wsX20 : List Cond := u_ws RX2 TX2 11
theorem nmX2 : ∀ a, a < 11 → ∀ b, b < 11 → a ≠ b → (TX2 a).2.1 ≠ (TX2 b).2.1 := by decide +kernel
theorem tyX2_ok : ∀ k, k < 11 → parseFieldDescriptor (TX2 k).2.2.1 = some (tyX2 k) := by decide +kernel
abbrev cX2_init : ByteArray := prog_4_method_1_code
def yX2_init : MethodName := ⟨RX2, "<init>", "()V"⟩
def RX3 : String := "Sequencepoint$Node"
def TX3 : u_T := fun k => match k with
  | 0 => ("Sequencepoint$Node", "index", "I", false)
  | 1 => ("Sequencepoint$Node", "shape", "I", false)
  | 2 => ("Sequencepoint$Node", "kind", "C", false)
  | 3 => ("Sequencepoint$Node", "type", "I", false)
  | 4 => ("Sequencepoint$Node", "value", "J", false)
  | 5 => ("Sequencepoint$Node", "variable", "LSequencepoint$Variable;", false)
  | 6 => ("Sequencepoint$Node", "function", "LSequencepoint$Function;", false)
  | 7 => ("Sequencepoint$Node", "first", "LSequencepoint$Node;", false)
  | 8 => ("Sequencepoint$Node", "second", "LSequencepoint$Node;", false)
  | 9 => ("Sequencepoint$Node", "third", "LSequencepoint$Node;", false)
  | 10 => ("Sequencepoint$Node", "depth", "I", false)
  | 11 => ("Sequencepoint$Node", "size", "I", false)
  | 12 => ("Sequencepoint$Node", "hasCall", "Z", false)
  | _ => ("Sequencepoint$Node", "isPart", "Z", false)
def tyX3 : Nat → FieldType := fun k => match k with
  | 0 => .int
  | 1 => .int
  | 2 => .char
  | 3 => .int
  | 4 => .long
  | 5 => .object "Sequencepoint$Variable"
  | 6 => .object "Sequencepoint$Function"
  | 7 => .object "Sequencepoint$Node"
  | 8 => .object "Sequencepoint$Node"
  | 9 => .object "Sequencepoint$Node"
  | 10 => .int
  | 11 => .int
  | 12 => .boolean
  | _ => .boolean
abbrev wsX30 : List Cond := u_ws RX3 TX3 14
theorem nmX3 : ∀ a, a < 14 → ∀ b, b < 14 → a ≠ b → (TX3 a).2.1 ≠ (TX3 b).2.1 := by decide +kernel
theorem tyX3_ok : ∀ k, k < 14 → parseFieldDescriptor (TX3 k).2.2.1 = some (tyX3 k) := by decide +kernel
abbrev cX3_init : ByteArray := prog_5_method_1_code
def yX3_init : MethodName := ⟨RX3, "<init>", "(ICI)V"⟩
def RX5 : String := "Sequencepoint$Optimiser"
def TX5 : u_T := fun k => match k with
  | 0 => ("Sequencepoint$Optimiser", "bodies", "[LSequencepoint$Statement;", true)
  | 1 => ("Sequencepoint$Optimiser", "stepCount", "I", false)
  | 2 => ("Sequencepoint$Optimiser", "size", "I", false)
  | 3 => ("Sequencepoint$Optimiser", "nodes", "[LSequencepoint$Node;", true)
  | 4 => ("Sequencepoint$Optimiser", "statements", "[LSequencepoint$Statement;", true)
  | 5 => ("Sequencepoint$Optimiser", "became", "[LSequencepoint$Node;", true)
  | 6 => ("Sequencepoint$Optimiser", "statementBecame", "[LSequencepoint$Statement;", true)
  | 7 => ("Sequencepoint$Optimiser", "isUsed", "[Z", true)
  | _ => ("Sequencepoint$Optimiser", "isStatementUsed", "[Z", true)
def tyX5 : Nat → FieldType := fun k => match k with
  | 0 => .array (.object "Sequencepoint$Statement")
  | 1 => .int
  | 2 => .int
  | 3 => .array (.object "Sequencepoint$Node")
  | 4 => .array (.object "Sequencepoint$Statement")
  | 5 => .array (.object "Sequencepoint$Node")
  | 6 => .array (.object "Sequencepoint$Statement")
  | 7 => .array .boolean
  | _ => .array .boolean
abbrev wsX50 : List Cond := u_ws RX5 TX5 9
theorem nmX5 : ∀ a, a < 9 → ∀ b, b < 9 → a ≠ b → (TX5 a).2.1 ≠ (TX5 b).2.1 := by decide +kernel
theorem tyX5_ok : ∀ k, k < 9 → parseFieldDescriptor (TX5 k).2.2.1 = some (tyX5 k) := by decide +kernel
abbrev cX5_init : ByteArray := prog_7_method_1_code
def yX5_init : MethodName := ⟨RX5, "<init>", "()V"⟩
def RX6 : String := "Sequencepoint$Outcome"
def TX6 : u_T := fun k => match k with
  | 0 => ("Sequencepoint$Outcome", "ending", "C", false)
  | 1 => ("Sequencepoint$Outcome", "kind", "C", false)
  | 2 => ("Sequencepoint$Outcome", "node", "I", false)
  | 3 => ("Sequencepoint$Outcome", "stepCount", "I", false)
  | 4 => ("Sequencepoint$Outcome", "choiceCount", "I", false)
  | 5 => ("Sequencepoint$Outcome", "length", "I", false)
  | _ => ("Sequencepoint$Outcome", "text", "[C", true)
def tyX6 : Nat → FieldType := fun k => match k with
  | 0 => .char
  | 1 => .char
  | 2 => .int
  | 3 => .int
  | 4 => .int
  | 5 => .int
  | _ => .array .char
abbrev wsX60 : List Cond := u_ws RX6 TX6 7
theorem nmX6 : ∀ a, a < 7 → ∀ b, b < 7 → a ≠ b → (TX6 a).2.1 ≠ (TX6 b).2.1 := by decide +kernel
theorem tyX6_ok : ∀ k, k < 7 → parseFieldDescriptor (TX6 k).2.2.1 = some (tyX6 k) := by decide +kernel
abbrev cX6_init : ByteArray := prog_8_method_1_code
def yX6_init : MethodName := ⟨RX6, "<init>", "()V"⟩
def RX7 : String := "Sequencepoint$Program"
def TX7 : u_T := fun k => match k with
  | 0 => ("Sequencepoint$Program", "variables", "[LSequencepoint$Variable;", true)
  | 1 => ("Sequencepoint$Program", "functions", "[LSequencepoint$Function;", true)
  | 2 => ("Sequencepoint$Program", "bodies", "[LSequencepoint$Statement;", true)
  | 3 => ("Sequencepoint$Program", "nodes", "[LSequencepoint$Node;", true)
  | 4 => ("Sequencepoint$Program", "statements", "[LSequencepoint$Statement;", true)
  | 5 => ("Sequencepoint$Program", "variableCount", "I", false)
  | 6 => ("Sequencepoint$Program", "functionCount", "I", false)
  | 7 => ("Sequencepoint$Program", "nodeCount", "I", false)
  | _ => ("Sequencepoint$Program", "statementCount", "I", false)
def tyX7 : Nat → FieldType := fun k => match k with
  | 0 => .array (.object "Sequencepoint$Variable")
  | 1 => .array (.object "Sequencepoint$Function")
  | 2 => .array (.object "Sequencepoint$Statement")
  | 3 => .array (.object "Sequencepoint$Node")
  | 4 => .array (.object "Sequencepoint$Statement")
  | 5 => .int
  | 6 => .int
  | 7 => .int
  | _ => .int
abbrev wsX70 : List Cond := u_ws RX7 TX7 9
theorem nmX7 : ∀ a, a < 9 → ∀ b, b < 9 → a ≠ b → (TX7 a).2.1 ≠ (TX7 b).2.1 := by decide +kernel
theorem tyX7_ok : ∀ k, k < 9 → parseFieldDescriptor (TX7 k).2.2.1 = some (tyX7 k) := by decide +kernel
abbrev cX7_init : ByteArray := prog_9_method_1_code
def yX7_init : MethodName := ⟨RX7, "<init>", "()V"⟩
def RX8 : String := "Sequencepoint$Statement"
def TX8 : u_T := fun k => match k with
  | 0 => ("Sequencepoint$Statement", "index", "I", false)
  | 1 => ("Sequencepoint$Statement", "kind", "C", false)
  | 2 => ("Sequencepoint$Statement", "node", "LSequencepoint$Node;", false)
  | 3 => ("Sequencepoint$Statement", "variable", "LSequencepoint$Variable;", false)
  | 4 => ("Sequencepoint$Statement", "first", "LSequencepoint$Statement;", false)
  | 5 => ("Sequencepoint$Statement", "second", "LSequencepoint$Statement;", false)
  | 6 => ("Sequencepoint$Statement", "depth", "I", false)
  | 7 => ("Sequencepoint$Statement", "size", "I", false)
  | _ => ("Sequencepoint$Statement", "isPart", "Z", false)
def tyX8 : Nat → FieldType := fun k => match k with
  | 0 => .int
  | 1 => .char
  | 2 => .object "Sequencepoint$Node"
  | 3 => .object "Sequencepoint$Variable"
  | 4 => .object "Sequencepoint$Statement"
  | 5 => .object "Sequencepoint$Statement"
  | 6 => .int
  | 7 => .int
  | _ => .boolean
abbrev wsX80 : List Cond := u_ws RX8 TX8 9
theorem nmX8 : ∀ a, a < 9 → ∀ b, b < 9 → a ≠ b → (TX8 a).2.1 ≠ (TX8 b).2.1 := by decide +kernel
theorem tyX8_ok : ∀ k, k < 9 → parseFieldDescriptor (TX8 k).2.2.1 = some (tyX8 k) := by decide +kernel
abbrev cX8_init : ByteArray := prog_10_method_1_code
def yX8_init : MethodName := ⟨RX8, "<init>", "(CLSequencepoint$Node;LSequencepoint$Variable;)V"⟩
def RX10 : String := "Sequencepoint$Variable"
def TX10 : u_T := fun k => match k with
  | 0 => ("Sequencepoint$Variable", "index", "I", false)
  | 1 => ("Sequencepoint$Variable", "type", "I", true)
  | 2 => ("Sequencepoint$Variable", "length", "I", true)
  | _ => ("Sequencepoint$Variable", "isGlobal", "Z", true)
def RX11 : String := "Sequencepoint"
def TX11 : u_T := fun k => match k with
  | 0 => ("Sequencepoint", "program", "LSequencepoint$Program;", true)
  | 1 => ("Sequencepoint", "optimiser", "LSequencepoint$Optimiser;", true)
  | 2 => ("Sequencepoint", "machine", "LSequencepoint$Machine;", true)
  | 3 => ("Sequencepoint", "last", "LSequencepoint$Outcome;", true)
  | 4 => ("Sequencepoint", "tried", "LSequencepoint$Outcome;", true)
  | 5 => ("Sequencepoint", "outcomes", "[LSequencepoint$Outcome;", true)
  | _ => ("Sequencepoint", "stepsOfAll", "J", false)
def tyX11 : Nat → FieldType := fun k => match k with
  | 0 => .object "Sequencepoint$Program"
  | 1 => .object "Sequencepoint$Optimiser"
  | 2 => .object "Sequencepoint$Machine"
  | 3 => .object "Sequencepoint$Outcome"
  | 4 => .object "Sequencepoint$Outcome"
  | 5 => .array (.object "Sequencepoint$Outcome")
  | _ => .long
abbrev wsX110 : List Cond := u_ws RX11 TX11 7
theorem nmX11 : ∀ a, a < 7 → ∀ b, b < 7 → a ≠ b → (TX11 a).2.1 ≠ (TX11 b).2.1 := by decide +kernel
theorem tyX11_ok : ∀ k, k < 7 → parseFieldDescriptor (TX11 k).2.2.1 = some (tyX11 k) := by decide +kernel
abbrev cX11_init : ByteArray := prog_1_method_1_code
def yX11_init : MethodName := ⟨RX11, "<init>", "()V"⟩
abbrev cX11_unary : ByteArray := prog_1_method_8_code
def yX11_unary : MethodName := ⟨RX11, "unary", "(CI)I"⟩
def RX12 : String := "SequencepointModel$End"
def TX12 : u_T := fun k => match k with
  | 0 => ("java/lang/Throwable", "cause", "Ljava/lang/Throwable;", false)
  | 1 => ("java/lang/Throwable", "stackTrace", "[Ljava/lang/StackTraceElement;", false)
  | 2 => ("java/lang/Throwable", "suppressedExceptions", "Ljava/util/List;", false)
  | 3 => ("java/lang/Throwable", "detailMessage", "Ljava/lang/String;", false)
  | 4 => ("java/lang/Throwable", "backtrace", "Ljava/lang/Object;", false)
  | 5 => ("java/lang/Throwable", "depth", "I", false)
  | 6 => ("SequencepointModel$End", "how", "C", true)
  | 7 => ("SequencepointModel$End", "kind", "C", true)
  | _ => ("SequencepointModel$End", "at", "LSequencepointModel$Node;", true)
def RX13 : String := "SequencepointModel$Frame"
def TX13 : u_T := fun k => match k with
  | 0 => ("SequencepointModel$Frame", "life", "[I", true)
  | 1 => ("SequencepointModel$Frame", "born", "Ljava/util/ArrayList;", true)
  | 2 => ("SequencepointModel$Frame", "function", "I", true)
  | _ => ("SequencepointModel$Frame", "returned", "J", false)
def RX14 : String := "SequencepointModel$Node"
def TX14 : u_T := fun k => match k with
  | 0 => ("SequencepointModel$Node", "number", "I", true)
  | 1 => ("SequencepointModel$Node", "kind", "C", true)
  | 2 => ("SequencepointModel$Node", "type", "I", true)
  | 3 => ("SequencepointModel$Node", "part", "[LSequencepointModel$Node;", true)
  | 4 => ("SequencepointModel$Node", "value", "J", false)
  | 5 => ("SequencepointModel$Node", "about", "I", false)
  | 6 => ("SequencepointModel$Node", "isPart", "Z", false)
  | _ => ("SequencepointModel$Node", "depth", "I", false)
def RX15 : String := "SequencepointModel$Run"
def TX15 : u_T := fun k => match k with
  | 0 => ("SequencepointModel$Run", "bodies", "[LSequencepointModel$Statement;", true)
  | 1 => ("SequencepointModel$Run", "order", "I", true)
  | 2 => ("SequencepointModel$Run", "things", "Ljava/util/ArrayList;", true)
  | 3 => ("SequencepointModel$Run", "global", "[I", true)
  | 4 => ("SequencepointModel$Run", "frame", "LSequencepointModel$Frame;", false)
  | 5 => ("SequencepointModel$Run", "depth", "I", false)
  | 6 => ("SequencepointModel$Run", "steps", "I", false)
  | 7 => ("SequencepointModel$Run", "choices", "I", false)
  | 8 => ("SequencepointModel$Run", "logged", "I", false)
  | 9 => ("SequencepointModel$Run", "printed", "I", false)
  | 10 => ("SequencepointModel$Run", "log", "[I", false)
  | 11 => ("SequencepointModel$Run", "text", "[C", true)
  | 12 => ("SequencepointModel$Run", "how", "C", false)
  | 13 => ("SequencepointModel$Run", "kind", "C", false)
  | 14 => ("SequencepointModel$Run", "at", "LSequencepointModel$Node;", false)
  | _ => ("SequencepointModel$Run", "this$0", "LSequencepointModel;", true)
def RX16 : String := "SequencepointModel$Statement"
def TX16 : u_T := fun k => match k with
  | 0 => ("SequencepointModel$Statement", "kind", "C", true)
  | 1 => ("SequencepointModel$Statement", "node", "LSequencepointModel$Node;", true)
  | 2 => ("SequencepointModel$Statement", "one", "LSequencepointModel$Statement;", true)
  | 3 => ("SequencepointModel$Statement", "other", "LSequencepointModel$Statement;", true)
  | 4 => ("SequencepointModel$Statement", "about", "I", false)
  | 5 => ("SequencepointModel$Statement", "isPart", "Z", false)
  | _ => ("SequencepointModel$Statement", "depth", "I", false)
def RX17 : String := "SequencepointModel$Thing"
def TX17 : u_T := fun k => match k with
  | 0 => ("SequencepointModel$Thing", "value", "[J", true)
  | 1 => ("SequencepointModel$Thing", "isSet", "[Z", true)
  | _ => ("SequencepointModel$Thing", "lives", "Z", false)
def RX18 : String := "SequencepointModel"
def TX18 : u_T := fun k => match k with
  | 0 => ("SequencepointModel", "type", "[I", true)
  | 1 => ("SequencepointModel", "length", "[I", true)
  | 2 => ("SequencepointModel", "isGlobal", "[Z", true)
  | 3 => ("SequencepointModel", "variables", "I", false)
  | 4 => ("SequencepointModel", "functions", "I", false)
  | 5 => ("SequencepointModel", "nodes", "I", false)
  | 6 => ("SequencepointModel", "statements", "I", false)
  | 7 => ("SequencepointModel", "result", "[I", true)
  | 8 => ("SequencepointModel", "first", "[I", true)
  | 9 => ("SequencepointModel", "second", "[I", true)
  | 10 => ("SequencepointModel", "body", "[LSequencepointModel$Statement;", true)
  | 11 => ("SequencepointModel", "node", "[LSequencepointModel$Node;", true)
  | 12 => ("SequencepointModel", "statement", "[LSequencepointModel$Statement;", true)
  | 13 => ("SequencepointModel", "last", "LSequencepointModel$Run;", false)
  | 14 => ("SequencepointModel", "allSteps", "J", false)
  | 15 => ("SequencepointModel", "thrown", "I", false)
  | 16 => ("SequencepointModel", "fault", "C", false)
  | _ => ("SequencepointModel", "made", "I", false)
def tyX18 : Nat → FieldType := fun k => match k with
  | 0 => .array .int
  | 1 => .array .int
  | 2 => .array .boolean
  | 3 => .int
  | 4 => .int
  | 5 => .int
  | 6 => .int
  | 7 => .array .int
  | 8 => .array .int
  | 9 => .array .int
  | 10 => .array (.object "SequencepointModel$Statement")
  | 11 => .array (.object "SequencepointModel$Node")
  | 12 => .array (.object "SequencepointModel$Statement")
  | 13 => .object "SequencepointModel$Run"
  | 14 => .long
  | 15 => .int
  | 16 => .char
  | _ => .int
abbrev wsX180 : List Cond := u_ws RX18 TX18 18
theorem nmX18 : ∀ a, a < 18 → ∀ b, b < 18 → a ≠ b → (TX18 a).2.1 ≠ (TX18 b).2.1 := by decide +kernel
theorem tyX18_ok : ∀ k, k < 18 → parseFieldDescriptor (TX18 k).2.2.1 = some (tyX18 k) := by decide +kernel
abbrev cX18_init : ByteArray := prog_14_method_1_code
def yX18_init : MethodName := ⟨RX18, "<init>", "()V"⟩
abbrev cX18_isOneOf : ByteArray := prog_14_method_23_code
def yX18_isOneOf : MethodName := ⟨RX18, "isOneOf", "(Ljava/lang/CharSequence;C)Z"⟩
abbrev cX18_unary : ByteArray := prog_14_method_24_code
def yX18_unary : MethodName := ⟨RX18, "unary", "(CI)I"⟩
def RJ6 : String := "java/lang/Integer"
def TJ6 : u_T := fun k => match k with
  | _ => ("java/lang/Integer", "value", "I", true)
def RJ0 : String := "java/lang/String"
abbrev cJ0_length_8abf5 : ByteArray := prog_39_method_54_code
def yJ0_length_8abf5 : MethodName := ⟨RJ0, "length", "()I"⟩
abbrev cJ0_indexOf_0f7a4 : ByteArray := prog_39_method_79_code
def yJ0_indexOf_0f7a4 : MethodName := ⟨RJ0, "indexOf", "(I)I"⟩
abbrev cJ0_indexOf_7cf53 : ByteArray := prog_39_method_80_code
def yJ0_indexOf_7cf53 : MethodName := ⟨RJ0, "indexOf", "(II)I"⟩
abbrev cJ0_coder_7d493 : ByteArray := prog_39_method_152_code
def yJ0_coder_7d493 : MethodName := ⟨RJ0, "coder", "()B"⟩
abbrev cJ0_isLatin1_aae02 : ByteArray := prog_39_method_154_code
def yJ0_isLatin1_aae02 : MethodName := ⟨RJ0, "isLatin1", "()Z"⟩
def RJ4 : String := "java/lang/StringBuilder"
def TJ4 : u_T := fun k => match k with
  | 0 => ("java/lang/AbstractStringBuilder", "value", "[B", false)
  | 1 => ("java/lang/AbstractStringBuilder", "coder", "B", false)
  | 2 => ("java/lang/AbstractStringBuilder", "maybeLatin1", "Z", false)
  | _ => ("java/lang/AbstractStringBuilder", "count", "I", false)
def RJ1 : String := "java/lang/StringLatin1"
abbrev cJ1_canEncode_9a6ad : ByteArray := prog_41_method_4_code
def yJ1_canEncode_9a6ad : MethodName := ⟨RJ1, "canEncode", "(I)Z"⟩
abbrev cJ1_indexOf_4cfef : ByteArray := prog_41_method_22_code
def yJ1_indexOf_4cfef : MethodName := ⟨RJ1, "indexOf", "([BIII)I"⟩
abbrev cJ1_indexOfChar_4cfef : ByteArray := prog_41_method_23_code
def yJ1_indexOfChar_4cfef : MethodName := ⟨RJ1, "indexOfChar", "([BIII)I"⟩
def RJx35411 : String := "java/util/ArrayList$Itr"
def TJx35411 : u_T := fun k => match k with
  | 0 => ("java/util/ArrayList$Itr", "cursor", "I", false)
  | 1 => ("java/util/ArrayList$Itr", "lastRet", "I", false)
  | 2 => ("java/util/ArrayList$Itr", "expectedModCount", "I", false)
  | _ => ("java/util/ArrayList$Itr", "this$0", "Ljava/util/ArrayList;", true)
def RJx4a65c : String := "java/util/ArrayList"
def TJx4a65c : u_T := fun k => match k with
  | 0 => ("java/util/AbstractList", "modCount", "I", false)
  | 1 => ("java/util/ArrayList", "elementData", "[Ljava/lang/Object;", false)
  | _ => ("java/util/ArrayList", "size", "I", false)
def RL : String := "SequencepointLaw"
abbrev cL_unary : ByteArray := method_8_code
def yL_unary : MethodName := ⟨RL, "unary", "(LSequencepoint;CI[J)I"⟩
abbrev cL_law : ByteArray := code
def yL_law : MethodName := ⟨RL, "law", "([I)Z"⟩
abbrev vwCl : List vw_C := [(RJ4, TJ4, 4), (RJ6, TJ6, 1), (RJx35411, TJx35411, 4), (RJx4a65c, TJx4a65c, 3), (RX0, TX0, 4), (RX1, TX1, 8), (RX2, TX2, 11), (RX3, TX3, 14), (RX5, TX5, 9), (RX6, TX6, 7), (RX7, TX7, 9), (RX8, TX8, 9), (RX10, TX10, 4), (RX11, TX11, 7), (RX12, TX12, 9), (RX13, TX13, 4), (RX14, TX14, 8), (RX15, TX15, 16), (RX16, TX16, 7), (RX17, TX17, 3), (RX18, TX18, 18)]
