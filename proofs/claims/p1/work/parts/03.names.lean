def RX0 : String := "TinyMl$Machine"
def TX0 : u_T := fun k => match k with
  | 0 => ("TinyMl$Machine", "terms", "LTinyMl$Terms;", true)
  | 1 => ("TinyMl$Machine", "kinds", "[I", true)
  | 2 => ("TinyMl$Machine", "lefts", "[I", true)
  | 3 => ("TinyMl$Machine", "rights", "[I", true)
  | 4 => ("TinyMl$Machine", "names", "[I", true)
  | 5 => ("TinyMl$Machine", "bound", "[I", true)
  | 6 => ("TinyMl$Machine", "outers", "[I", true)
  | 7 => ("TinyMl$Machine", "waiting", "[I", true)
  | 8 => ("TinyMl$Machine", "values", "I", false)
  | 9 => ("TinyMl$Machine", "scopes", "I", false)
  | 10 => ("TinyMl$Machine", "fuel", "I", false)
  | 11 => ("TinyMl$Machine", "spent", "I", false)
  | 12 => ("TinyMl$Machine", "cells", "I", false)
  | 13 => ("TinyMl$Machine", "nested", "I", false)
  | 14 => ("TinyMl$Machine", "stop", "I", false)
  | _ => ("TinyMl$Machine", "nextScope", "I", false)
def tyX0 : Nat → FieldType := fun k => match k with
  | 0 => .object "TinyMl$Terms"
  | 1 => .array .int
  | 2 => .array .int
  | 3 => .array .int
  | 4 => .array .int
  | 5 => .array .int
  | 6 => .array .int
  | 7 => .array .int
  | 8 => .int
  | 9 => .int
  | 10 => .int
  | 11 => .int
  | 12 => .int
  | 13 => .int
  | 14 => .int
  | _ => .int
abbrev wsX00 : List Cond := u_ws RX0 TX0 16
theorem nmX0 : ∀ a, a < 16 → ∀ b, b < 16 → a ≠ b → (TX0 a).2.1 ≠ (TX0 b).2.1 := by decide +kernel
theorem tyX0_ok : ∀ k, k < 16 → parseFieldDescriptor (TX0 k).2.2.1 = some (tyX0 k) := by decide +kernel
def RX1 : String := "TinyMl$Reader"
def TX1 : u_T := fun k => match k with
  | 0 => ("TinyMl$Reader", "tokens", "[I", true)
  | 1 => ("TinyMl$Reader", "terms", "LTinyMl$Terms;", true)
  | 2 => ("TinyMl$Reader", "count", "I", false)
  | 3 => ("TinyMl$Reader", "place", "I", false)
  | 4 => ("TinyMl$Reader", "fault", "I", false)
  | _ => ("TinyMl$Reader", "root", "I", false)
def tyX1 : Nat → FieldType := fun k => match k with
  | 0 => .array .int
  | 1 => .object "TinyMl$Terms"
  | 2 => .int
  | 3 => .int
  | 4 => .int
  | _ => .int
abbrev wsX10 : List Cond := u_ws RX1 TX1 6
theorem nmX1 : ∀ a, a < 6 → ∀ b, b < 6 → a ≠ b → (TX1 a).2.1 ≠ (TX1 b).2.1 := by decide +kernel
theorem tyX1_ok : ∀ k, k < 6 → parseFieldDescriptor (TX1 k).2.2.1 = some (tyX1 k) := by decide +kernel
def RX2 : String := "TinyMl$Terms"
def TX2 : u_T := fun k => match k with
  | 0 => ("TinyMl$Terms", "kinds", "[I", true)
  | 1 => ("TinyMl$Terms", "firsts", "[I", true)
  | 2 => ("TinyMl$Terms", "seconds", "[I", true)
  | 3 => ("TinyMl$Terms", "heights", "[I", true)
  | 4 => ("TinyMl$Terms", "parts", "[I", true)
  | _ => ("TinyMl$Terms", "count", "I", false)
def tyX2 : Nat → FieldType := fun k => match k with
  | 0 => .array .int
  | 1 => .array .int
  | 2 => .array .int
  | 3 => .array .int
  | 4 => .array .int
  | _ => .int
abbrev wsX20 : List Cond := u_ws RX2 TX2 6
theorem nmX2 : ∀ a, a < 6 → ∀ b, b < 6 → a ≠ b → (TX2 a).2.1 ≠ (TX2 b).2.1 := by decide +kernel
theorem tyX2_ok : ∀ k, k < 6 → parseFieldDescriptor (TX2 k).2.2.1 = some (tyX2 k) := by decide +kernel
def RX3 : String := "TinyMl$Typer"
def TX3 : u_T := fun k => match k with
  | 0 => ("TinyMl$Typer", "terms", "LTinyMl$Terms;", true)
  | 1 => ("TinyMl$Typer", "types", "LTinyMl$Types;", true)
  | 2 => ("TinyMl$Typer", "names", "[I", true)
  | 3 => ("TinyMl$Typer", "bound", "[I", true)
  | 4 => ("TinyMl$Typer", "general", "[Z", true)
  | _ => ("TinyMl$Typer", "count", "I", false)
def tyX3 : Nat → FieldType := fun k => match k with
  | 0 => .object "TinyMl$Terms"
  | 1 => .object "TinyMl$Types"
  | 2 => .array .int
  | 3 => .array .int
  | 4 => .array .boolean
  | _ => .int
abbrev wsX30 : List Cond := u_ws RX3 TX3 6
theorem nmX3 : ∀ a, a < 6 → ∀ b, b < 6 → a ≠ b → (TX3 a).2.1 ≠ (TX3 b).2.1 := by decide +kernel
theorem tyX3_ok : ∀ k, k < 6 → parseFieldDescriptor (TX3 k).2.2.1 = some (tyX3 k) := by decide +kernel
def RX4 : String := "TinyMl$Types"
def TX4 : u_T := fun k => match k with
  | 0 => ("TinyMl$Types", "kinds", "[I", false)
  | 1 => ("TinyMl$Types", "lefts", "[I", false)
  | 2 => ("TinyMl$Types", "rights", "[I", false)
  | 3 => ("TinyMl$Types", "marks", "[I", false)
  | 4 => ("TinyMl$Types", "notes", "[I", false)
  | 5 => ("TinyMl$Types", "waiting", "[I", true)
  | 6 => ("TinyMl$Types", "partners", "[I", true)
  | 7 => ("TinyMl$Types", "scratch", "LTinyMl$Words;", true)
  | 8 => ("TinyMl$Types", "count", "I", false)
  | 9 => ("TinyMl$Types", "open", "I", false)
  | 10 => ("TinyMl$Types", "stamp", "I", false)
  | _ => ("TinyMl$Types", "fault", "I", false)
def tyX4 : Nat → FieldType := fun k => match k with
  | 0 => .array .int
  | 1 => .array .int
  | 2 => .array .int
  | 3 => .array .int
  | 4 => .array .int
  | 5 => .array .int
  | 6 => .array .int
  | 7 => .object "TinyMl$Words"
  | 8 => .int
  | 9 => .int
  | 10 => .int
  | _ => .int
abbrev wsX40 : List Cond := u_ws RX4 TX4 12
theorem nmX4 : ∀ a, a < 12 → ∀ b, b < 12 → a ≠ b → (TX4 a).2.1 ≠ (TX4 b).2.1 := by decide +kernel
theorem tyX4_ok : ∀ k, k < 12 → parseFieldDescriptor (TX4 k).2.2.1 = some (tyX4 k) := by decide +kernel
def RX5 : String := "TinyMl$Words"
def TX5 : u_T := fun k => match k with
  | 0 => ("TinyMl$Words", "row", "[I", true)
  | _ => ("TinyMl$Words", "count", "I", false)
def tyX5 : Nat → FieldType := fun k => match k with
  | 0 => .array .int
  | _ => .int
abbrev wsX50 : List Cond := u_ws RX5 TX5 2
theorem nmX5 : ∀ a, a < 2 → ∀ b, b < 2 → a ≠ b → (TX5 a).2.1 ≠ (TX5 b).2.1 := by decide +kernel
theorem tyX5_ok : ∀ k, k < 2 → parseFieldDescriptor (TX5 k).2.2.1 = some (tyX5 k) := by decide +kernel
def RX6 : String := "TinyMl"
def TX6 : u_T := fun k => match k with
  | 0 => ("TinyMl", "tokens", "[I", true)
  | 1 => ("TinyMl", "terms", "LTinyMl$Terms;", true)
  | 2 => ("TinyMl", "reader", "LTinyMl$Reader;", true)
  | 3 => ("TinyMl", "typer", "LTinyMl$Typer;", true)
  | 4 => ("TinyMl", "machine", "LTinyMl$Machine;", true)
  | 5 => ("TinyMl", "typeWords", "LTinyMl$Words;", true)
  | 6 => ("TinyMl", "outWords", "LTinyMl$Words;", true)
  | 7 => ("TinyMl", "tokenCount", "I", false)
  | 8 => ("TinyMl", "phaseNow", "I", false)
  | _ => ("TinyMl", "done", "Z", false)
def tyX6 : Nat → FieldType := fun k => match k with
  | 0 => .array .int
  | 1 => .object "TinyMl$Terms"
  | 2 => .object "TinyMl$Reader"
  | 3 => .object "TinyMl$Typer"
  | 4 => .object "TinyMl$Machine"
  | 5 => .object "TinyMl$Words"
  | 6 => .object "TinyMl$Words"
  | 7 => .int
  | 8 => .int
  | _ => .boolean
abbrev wsX60 : List Cond := u_ws RX6 TX6 10
theorem nmX6 : ∀ a, a < 10 → ∀ b, b < 10 → a ≠ b → (TX6 a).2.1 ≠ (TX6 b).2.1 := by decide +kernel
theorem tyX6_ok : ∀ k, k < 10 → parseFieldDescriptor (TX6 k).2.2.1 = some (tyX6 k) := by decide +kernel
def RX7 : String := "TinyMlModel"
def TX7 : u_T := fun k => match k with
  | 0 => ("TinyMlModel", "thrown", "I", false)
  | 1 => ("TinyMlModel", "phase", "I", false)
  | 2 => ("TinyMlModel", "tokens", "[I", true)
  | 3 => ("TinyMlModel", "count", "I", false)
  | 4 => ("TinyMlModel", "kind", "[I", true)
  | 5 => ("TinyMlModel", "first", "[I", true)
  | 6 => ("TinyMlModel", "second", "[I", true)
  | 7 => ("TinyMlModel", "third", "[I", true)
  | 8 => ("TinyMlModel", "what", "[I", true)
  | 9 => ("TinyMlModel", "other", "[I", true)
  | 10 => ("TinyMlModel", "height", "[I", true)
  | 11 => ("TinyMlModel", "free", "[I", true)
  | 12 => ("TinyMlModel", "terms", "I", false)
  | 13 => ("TinyMlModel", "root", "I", false)
  | 14 => ("TinyMlModel", "order", "[I", true)
  | 15 => ("TinyMlModel", "with", "[I", true)
  | 16 => ("TinyMlModel", "along", "[I", true)
  | 17 => ("TinyMlModel", "deep", "[I", true)
  | 18 => ("TinyMlModel", "orders", "I", false)
  | 19 => ("TinyMlModel", "made", "[I", true)
  | 20 => ("TinyMlModel", "mades", "I", false)
  | 21 => ("TinyMlModel", "at", "I", false)
  | 22 => ("TinyMlModel", "wrong", "I", false)
  | 23 => ("TinyMlModel", "type", "[I", true)
  | 24 => ("TinyMlModel", "left", "[I", true)
  | 25 => ("TinyMlModel", "right", "[I", true)
  | 26 => ("TinyMlModel", "general", "[Z", true)
  | 27 => ("TinyMlModel", "types", "I", false)
  | 28 => ("TinyMlModel", "boundName", "[I", true)
  | 29 => ("TinyMlModel", "boundType", "[I", true)
  | 30 => ("TinyMlModel", "boundGeneral", "[Z", true)
  | 31 => ("TinyMlModel", "bounds", "I", false)
  | 32 => ("TinyMlModel", "pending", "[I", true)
  | 33 => ("TinyMlModel", "copies", "[I", true)
  | 34 => ("TinyMlModel", "copied", "[I", true)
  | 35 => ("TinyMlModel", "typed", "I", false)
  | 36 => ("TinyMlModel", "tag", "[I", true)
  | 37 => ("TinyMlModel", "number", "[I", true)
  | 38 => ("TinyMlModel", "next", "[I", true)
  | 39 => ("TinyMlModel", "named", "[I", true)
  | 40 => ("TinyMlModel", "names", "I", false)
  | 41 => ("TinyMlModel", "cellTag", "[I", true)
  | 42 => ("TinyMlModel", "cellNumber", "[I", true)
  | 43 => ("TinyMlModel", "cells", "I", false)
  | 44 => ("TinyMlModel", "valueTag", "[I", true)
  | 45 => ("TinyMlModel", "valueNumber", "[I", true)
  | 46 => ("TinyMlModel", "values", "I", false)
  | 47 => ("TinyMlModel", "state", "I", false)
  | 48 => ("TinyMlModel", "fuel", "I", false)
  | 49 => ("TinyMlModel", "used", "I", false)
  | 50 => ("TinyMlModel", "deepest", "I", false)
  | 51 => ("TinyMlModel", "typeWords", "[I", true)
  | 52 => ("TinyMlModel", "typeSize", "I", false)
  | 53 => ("TinyMlModel", "outWords", "[I", true)
  | _ => ("TinyMlModel", "outSize", "I", false)
def tyX7 : Nat → FieldType := fun k => match k with
  | 0 => .int
  | 1 => .int
  | 2 => .array .int
  | 3 => .int
  | 4 => .array .int
  | 5 => .array .int
  | 6 => .array .int
  | 7 => .array .int
  | 8 => .array .int
  | 9 => .array .int
  | 10 => .array .int
  | 11 => .array .int
  | 12 => .int
  | 13 => .int
  | 14 => .array .int
  | 15 => .array .int
  | 16 => .array .int
  | 17 => .array .int
  | 18 => .int
  | 19 => .array .int
  | 20 => .int
  | 21 => .int
  | 22 => .int
  | 23 => .array .int
  | 24 => .array .int
  | 25 => .array .int
  | 26 => .array .boolean
  | 27 => .int
  | 28 => .array .int
  | 29 => .array .int
  | 30 => .array .boolean
  | 31 => .int
  | 32 => .array .int
  | 33 => .array .int
  | 34 => .array .int
  | 35 => .int
  | 36 => .array .int
  | 37 => .array .int
  | 38 => .array .int
  | 39 => .array .int
  | 40 => .int
  | 41 => .array .int
  | 42 => .array .int
  | 43 => .int
  | 44 => .array .int
  | 45 => .array .int
  | 46 => .int
  | 47 => .int
  | 48 => .int
  | 49 => .int
  | 50 => .int
  | 51 => .array .int
  | 52 => .int
  | 53 => .array .int
  | _ => .int
abbrev wsX70 : List Cond := u_ws RX7 TX7 55
theorem nmX7 : ∀ a, a < 55 → ∀ b, b < 55 → a ≠ b → (TX7 a).2.1 ≠ (TX7 b).2.1 := by decide +kernel
theorem tyX7_ok : ∀ k, k < 55 → parseFieldDescriptor (TX7 k).2.2.1 = some (tyX7 k) := by decide +kernel
def RL : String := "TinyMlLaw"
abbrev cX0_init : ByteArray := prog_2_method_1_code
def yX0_init : MethodName := ⟨RX0, "<init>", "(LTinyMl$Terms;)V"⟩
abbrev cX0_clear : ByteArray := prog_2_method_2_code
def yX0_clear : MethodName := ⟨RX0, "clear", "()V"⟩
abbrev cX0_fuelUsed : ByteArray := prog_2_method_3_code
def yX0_fuelUsed : MethodName := ⟨RX0, "fuelUsed", "()I"⟩
abbrev cX0_cellsUsed : ByteArray := prog_2_method_4_code
def yX0_cellsUsed : MethodName := ⟨RX0, "cellsUsed", "()I"⟩
abbrev cX0_mostNested : ByteArray := prog_2_method_5_code
def yX0_mostNested : MethodName := ⟨RX0, "mostNested", "()I"⟩
abbrev cX1_init : ByteArray := prog_3_method_1_code
def yX1_init : MethodName := ⟨RX1, "<init>", "([ILTinyMl$Terms;)V"⟩
abbrev cX1_readAll : ByteArray := prog_3_method_2_code
def yX1_readAll : MethodName := ⟨RX1, "readAll", "(I)I"⟩
abbrev cX1_term : ByteArray := prog_3_method_4_code
def yX1_term : MethodName := ⟨RX1, "term", "(I)I"⟩
abbrev cX1_list : ByteArray := prog_3_method_10_code
def yX1_list : MethodName := ⟨RX1, "list", "(I)I"⟩
abbrev cX1_test : ByteArray := prog_3_method_11_code
def yX1_test : MethodName := ⟨RX1, "test", "(I)I"⟩
abbrev cX1_sum : ByteArray := prog_3_method_12_code
def yX1_sum : MethodName := ⟨RX1, "sum", "(I)I"⟩
abbrev cX1_product : ByteArray := prog_3_method_13_code
def yX1_product : MethodName := ⟨RX1, "product", "(I)I"⟩
abbrev cX1_call : ByteArray := prog_3_method_14_code
def yX1_call : MethodName := ⟨RX1, "call", "(I)I"⟩
abbrev cX1_beginsAtom : ByteArray := prog_3_method_15_code
def yX1_beginsAtom : MethodName := ⟨RX1, "beginsAtom", "(I)Z"⟩
abbrev cX1_atom : ByteArray := prog_3_method_16_code
def yX1_atom : MethodName := ⟨RX1, "atom", "(I)I"⟩
abbrev cX1_look : ByteArray := prog_3_method_20_code
def yX1_look : MethodName := ⟨RX1, "look", "()I"⟩
abbrev cX1_stopped : ByteArray := prog_3_method_21_code
def yX1_stopped : MethodName := ⟨RX1, "stopped", "(I)Z"⟩
abbrev cX1_refuse : ByteArray := prog_3_method_22_code
def yX1_refuse : MethodName := ⟨RX1, "refuse", "()V"⟩
abbrev cX1_fail : ByteArray := prog_3_method_23_code
def yX1_fail : MethodName := ⟨RX1, "fail", "(I)V"⟩
abbrev cX2_init : ByteArray := prog_4_method_1_code
def yX2_init : MethodName := ⟨RX2, "<init>", "()V"⟩
abbrev cX2_clear : ByteArray := prog_4_method_2_code
def yX2_clear : MethodName := ⟨RX2, "clear", "()V"⟩
abbrev cX2_height : ByteArray := prog_4_method_10_code
def yX2_height : MethodName := ⟨RX2, "height", "(I)I"⟩
abbrev cX2_has : ByteArray := prog_4_method_11_code
def yX2_has : MethodName := ⟨RX2, "has", "(I)Z"⟩
abbrev cX3_init : ByteArray := prog_5_method_1_code
def yX3_init : MethodName := ⟨RX3, "<init>", "(LTinyMl$Terms;)V"⟩
abbrev cX4_init : ByteArray := prog_6_method_1_code
def yX4_init : MethodName := ⟨RX4, "<init>", "()V"⟩
abbrev cX5_init : ByteArray := prog_7_method_1_code
def yX5_init : MethodName := ⟨RX5, "<init>", "(I)V"⟩
abbrev cX6_init : ByteArray := prog_1_method_1_code
def yX6_init : MethodName := ⟨RX6, "<init>", "()V"⟩
abbrev cX6_token : ByteArray := prog_1_method_2_code
def yX6_token : MethodName := ⟨RX6, "token", "(I)Z"⟩
abbrev cX6_parse : ByteArray := prog_1_method_3_code
def yX6_parse : MethodName := ⟨RX6, "parse", "()I"⟩
abbrev cX6_infer : ByteArray := prog_1_method_4_code
def yX6_infer : MethodName := ⟨RX6, "infer", "()I"⟩
abbrev cX6_run : ByteArray := prog_1_method_5_code
def yX6_run : MethodName := ⟨RX6, "run", "(I)I"⟩
abbrev cX6_reset : ByteArray := prog_1_method_6_code
def yX6_reset : MethodName := ⟨RX6, "reset", "()V"⟩
abbrev cX6_phase : ByteArray := prog_1_method_7_code
def yX6_phase : MethodName := ⟨RX6, "phase", "()I"⟩
abbrev cX6_typeSize : ByteArray := prog_1_method_8_code
def yX6_typeSize : MethodName := ⟨RX6, "typeSize", "()I"⟩
abbrev cX6_typeAt : ByteArray := prog_1_method_9_code
def yX6_typeAt : MethodName := ⟨RX6, "typeAt", "(I)I"⟩
abbrev cX6_outSize : ByteArray := prog_1_method_10_code
def yX6_outSize : MethodName := ⟨RX6, "outSize", "()I"⟩
abbrev cX6_outAt : ByteArray := prog_1_method_11_code
def yX6_outAt : MethodName := ⟨RX6, "outAt", "(I)I"⟩
abbrev cX6_used : ByteArray := prog_1_method_12_code
def yX6_used : MethodName := ⟨RX6, "used", "(I)I"⟩
abbrev cX6_isToken : ByteArray := prog_1_method_13_code
def yX6_isToken : MethodName := ⟨RX6, "isToken", "(I)Z"⟩
abbrev cX6_isName : ByteArray := prog_1_method_14_code
def yX6_isName : MethodName := ⟨RX6, "isName", "(I)Z"⟩
abbrev cX6_put : ByteArray := prog_1_method_16_code
def yX6_put : MethodName := ⟨RX6, "put", "([III)V"⟩
abbrev cX7_init : ByteArray := prog_9_method_1_code
def yX7_init : MethodName := ⟨RX7, "<init>", "()V"⟩
abbrev cX7_thrown : ByteArray := prog_9_method_2_code
def yX7_thrown : MethodName := ⟨RX7, "thrown", "()I"⟩
abbrev cX7_fails : ByteArray := prog_9_method_3_code
def yX7_fails : MethodName := ⟨RX7, "fails", "(Z)Z"⟩
abbrev cX7_put : ByteArray := prog_9_method_4_code
def yX7_put : MethodName := ⟨RX7, "put", "(IIII)V"⟩
abbrev cX7_isToken : ByteArray := prog_9_method_7_code
def yX7_isToken : MethodName := ⟨RX7, "isToken", "(I)Z"⟩
abbrev cX7_token : ByteArray := prog_9_method_8_code
def yX7_token : MethodName := ⟨RX7, "token", "(I)Z"⟩
abbrev cX7_look : ByteArray := prog_9_method_9_code
def yX7_look : MethodName := ⟨RX7, "look", "()I"⟩
abbrev cX7_isName : ByteArray := prog_9_method_10_code
def yX7_isName : MethodName := ⟨RX7, "isName", "(I)Z"⟩
abbrev cX7_beginsAtom : ByteArray := prog_9_method_11_code
def yX7_beginsAtom : MethodName := ⟨RX7, "beginsAtom", "(I)Z"⟩
abbrev cX7_refuse : ByteArray := prog_9_method_16_code
def yX7_refuse : MethodName := ⟨RX7, "refuse", "()Z"⟩
abbrev cX7_atom : ByteArray := prog_9_method_18_code
def yX7_atom : MethodName := ⟨RX7, "atom", "(I)Z"⟩
abbrev cX7_read : ByteArray := prog_9_method_22_code
def yX7_read : MethodName := ⟨RX7, "read", "()Z"⟩
abbrev cX7_parse : ByteArray := prog_9_method_23_code
def yX7_parse : MethodName := ⟨RX7, "parse", "()I"⟩
abbrev cX7_infer : ByteArray := prog_9_method_43_code
def yX7_infer : MethodName := ⟨RX7, "infer", "()I"⟩
abbrev cX7_forget : ByteArray := prog_9_method_44_code
def yX7_forget : MethodName := ⟨RX7, "forget", "()V"⟩
abbrev cX7_run : ByteArray := prog_9_method_55_code
def yX7_run : MethodName := ⟨RX7, "run", "(I)I"⟩
abbrev cX7_reset : ByteArray := prog_9_method_56_code
def yX7_reset : MethodName := ⟨RX7, "reset", "()V"⟩
abbrev cX7_phase : ByteArray := prog_9_method_57_code
def yX7_phase : MethodName := ⟨RX7, "phase", "()I"⟩
abbrev cX7_typeSize : ByteArray := prog_9_method_58_code
def yX7_typeSize : MethodName := ⟨RX7, "typeSize", "()I"⟩
abbrev cX7_typeAt : ByteArray := prog_9_method_59_code
def yX7_typeAt : MethodName := ⟨RX7, "typeAt", "(I)I"⟩
abbrev cX7_outSize : ByteArray := prog_9_method_60_code
def yX7_outSize : MethodName := ⟨RX7, "outSize", "()I"⟩
abbrev cX7_outAt : ByteArray := prog_9_method_61_code
def yX7_outAt : MethodName := ⟨RX7, "outAt", "(I)I"⟩
abbrev cX7_used : ByteArray := prog_9_method_62_code
def yX7_used : MethodName := ⟨RX7, "used", "(I)I"⟩
abbrev cL_token : ByteArray := method_3_code
def yL_token : MethodName := ⟨RL, "token", "(LTinyMl;I[J)I"⟩
abbrev cL_parse : ByteArray := method_4_code
def yL_parse : MethodName := ⟨RL, "parse", "(LTinyMl;[J)I"⟩
abbrev cL_infer : ByteArray := method_5_code
def yL_infer : MethodName := ⟨RL, "infer", "(LTinyMl;[J)I"⟩
abbrev cL_run : ByteArray := method_6_code
def yL_run : MethodName := ⟨RL, "run", "(LTinyMl;I[J)I"⟩
abbrev cL_typeAt : ByteArray := method_7_code
def yL_typeAt : MethodName := ⟨RL, "typeAt", "(LTinyMl;I[J)I"⟩
abbrev cL_outAt : ByteArray := method_8_code
def yL_outAt : MethodName := ⟨RL, "outAt", "(LTinyMl;I[J)I"⟩
abbrev vwCl : List vw_C := [(RX0, TX0, 16), (RX1, TX1, 6), (RX2, TX2, 6), (RX3, TX3, 6), (RX4, TX4, 12), (RX5, TX5, 2), (RX6, TX6, 10), (RX7, TX7, 55)]
theorem dfX0 : ∀ j, j < 16 → defaultValue (tyX0 j) = vp_V [.null, .null, .null, .null, .null, .null, .null, .null, .int 0, .int 0, .int 0, .int 0, .int 0, .int 0, .int 0, .int 0] j := fun j hj => match j, hj with
  | 0, _ => rfl
  | 1, _ => rfl
  | 2, _ => rfl
  | 3, _ => rfl
  | 4, _ => rfl
  | 5, _ => rfl
  | 6, _ => rfl
  | 7, _ => rfl
  | 8, _ => rfl
  | 9, _ => rfl
  | 10, _ => rfl
  | 11, _ => rfl
  | 12, _ => rfl
  | 13, _ => rfl
  | 14, _ => rfl
  | 15, _ => rfl
  | n + 16, h => absurd h (by omega)
theorem dfX1 : ∀ j, j < 6 → defaultValue (tyX1 j) = vp_V [.null, .null, .int 0, .int 0, .int 0, .int 0] j := fun j hj => match j, hj with
  | 0, _ => rfl
  | 1, _ => rfl
  | 2, _ => rfl
  | 3, _ => rfl
  | 4, _ => rfl
  | 5, _ => rfl
  | n + 6, h => absurd h (by omega)
theorem dfX2 : ∀ j, j < 6 → defaultValue (tyX2 j) = vp_V [.null, .null, .null, .null, .null, .int 0] j := fun j hj => match j, hj with
  | 0, _ => rfl
  | 1, _ => rfl
  | 2, _ => rfl
  | 3, _ => rfl
  | 4, _ => rfl
  | 5, _ => rfl
  | n + 6, h => absurd h (by omega)
theorem dfX3 : ∀ j, j < 6 → defaultValue (tyX3 j) = vp_V [.null, .null, .null, .null, .null, .int 0] j := fun j hj => match j, hj with
  | 0, _ => rfl
  | 1, _ => rfl
  | 2, _ => rfl
  | 3, _ => rfl
  | 4, _ => rfl
  | 5, _ => rfl
  | n + 6, h => absurd h (by omega)
theorem dfX4 : ∀ j, j < 12 → defaultValue (tyX4 j) = vp_V [.null, .null, .null, .null, .null, .null, .null, .null, .int 0, .int 0, .int 0, .int 0] j := fun j hj => match j, hj with
  | 0, _ => rfl
  | 1, _ => rfl
  | 2, _ => rfl
  | 3, _ => rfl
  | 4, _ => rfl
  | 5, _ => rfl
  | 6, _ => rfl
  | 7, _ => rfl
  | 8, _ => rfl
  | 9, _ => rfl
  | 10, _ => rfl
  | 11, _ => rfl
  | n + 12, h => absurd h (by omega)
theorem dfX5 : ∀ j, j < 2 → defaultValue (tyX5 j) = vp_V [.null, .int 0] j := fun j hj => match j, hj with
  | 0, _ => rfl
  | 1, _ => rfl
  | n + 2, h => absurd h (by omega)
theorem dfX6 : ∀ j, j < 10 → defaultValue (tyX6 j) = vp_V [.null, .null, .null, .null, .null, .null, .null, .int 0, .int 0, .int 0] j := fun j hj => match j, hj with
  | 0, _ => rfl
  | 1, _ => rfl
  | 2, _ => rfl
  | 3, _ => rfl
  | 4, _ => rfl
  | 5, _ => rfl
  | 6, _ => rfl
  | 7, _ => rfl
  | 8, _ => rfl
  | 9, _ => rfl
  | n + 10, h => absurd h (by omega)
theorem dfX7 : ∀ j, j < 55 → defaultValue (tyX7 j) = vp_V [.int 0, .int 0, .null, .int 0, .null, .null, .null, .null, .null, .null, .null, .null, .int 0, .int 0, .null, .null, .null, .null, .int 0, .null, .int 0, .int 0, .int 0, .null, .null, .null, .null, .int 0, .null, .null, .null, .int 0, .null, .null, .null, .int 0, .null, .null, .null, .null, .int 0, .null, .null, .int 0, .null, .null, .int 0, .int 0, .int 0, .int 0, .int 0, .null, .int 0, .null, .int 0] j := fun j hj => match j, hj with
  | 0, _ => rfl
  | 1, _ => rfl
  | 2, _ => rfl
  | 3, _ => rfl
  | 4, _ => rfl
  | 5, _ => rfl
  | 6, _ => rfl
  | 7, _ => rfl
  | 8, _ => rfl
  | 9, _ => rfl
  | 10, _ => rfl
  | 11, _ => rfl
  | 12, _ => rfl
  | 13, _ => rfl
  | 14, _ => rfl
  | 15, _ => rfl
  | 16, _ => rfl
  | 17, _ => rfl
  | 18, _ => rfl
  | 19, _ => rfl
  | 20, _ => rfl
  | 21, _ => rfl
  | 22, _ => rfl
  | 23, _ => rfl
  | 24, _ => rfl
  | 25, _ => rfl
  | 26, _ => rfl
  | 27, _ => rfl
  | 28, _ => rfl
  | 29, _ => rfl
  | 30, _ => rfl
  | 31, _ => rfl
  | 32, _ => rfl
  | 33, _ => rfl
  | 34, _ => rfl
  | 35, _ => rfl
  | 36, _ => rfl
  | 37, _ => rfl
  | 38, _ => rfl
  | 39, _ => rfl
  | 40, _ => rfl
  | 41, _ => rfl
  | 42, _ => rfl
  | 43, _ => rfl
  | 44, _ => rfl
  | 45, _ => rfl
  | 46, _ => rfl
  | 47, _ => rfl
  | 48, _ => rfl
  | 49, _ => rfl
  | 50, _ => rfl
  | 51, _ => rfl
  | 52, _ => rfl
  | 53, _ => rfl
  | 54, _ => rfl
  | n + 55, h => absurd h (by omega)
def BG_0 : List Cond := [Cond.methodLink RX5 1 objectInit, Cond.instanceMethod objectInit, Cond.code objectInit ⟨#[0xb1]⟩ 1 none, Cond.arrayClass .int, Cond.fieldLink RX5 7 "TinyMl$Words" "row" "[I", Cond.methodLink RX2 3 objectInit, Cond.fieldLink RX2 11 "TinyMl$Terms" "kinds" "[I", Cond.fieldLink RX2 15 "TinyMl$Terms" "firsts" "[I", Cond.fieldLink RX2 18 "TinyMl$Terms" "seconds" "[I", Cond.fieldLink RX2 21 "TinyMl$Terms" "heights" "[I", Cond.fieldLink RX2 24 "TinyMl$Terms" "parts" "[I", Cond.methodLink RX1 3 objectInit, Cond.fieldLink RX1 9 "TinyMl$Reader" "root" "I", Cond.fieldLink RX1 15 "TinyMl$Reader" "tokens" "[I", Cond.fieldLink RX1 19 "TinyMl$Reader" "terms" "LTinyMl$Terms;", Cond.methodLink RX4 3 objectInit, Cond.fieldLink RX4 11 "TinyMl$Types" "kinds" "[I", Cond.fieldLink RX4 15 "TinyMl$Types" "lefts" "[I", Cond.fieldLink RX4 18 "TinyMl$Types" "rights" "[I", Cond.fieldLink RX4 21 "TinyMl$Types" "marks" "[I", Cond.fieldLink RX4 24 "TinyMl$Types" "notes" "[I", Cond.fieldLink RX4 27 "TinyMl$Types" "waiting" "[I", Cond.fieldLink RX4 30 "TinyMl$Types" "partners" "[I", Cond.classLink RX4 33 RX5, Cond.instantiable RX5 2, Cond.initialized RX5, Cond.code yX5_init cX5_init 2 none, Cond.methodLink RX4 35 yX5_init, Cond.instanceMethod yX5_init, Cond.fieldLink RX4 38 "TinyMl$Types" "scratch" "LTinyMl$Words;"]
def BG_1 : List Cond := [Cond.methodLink RX3 3 objectInit, Cond.classLink RX3 9 RX4, Cond.instantiable RX4 12, Cond.initialized RX4, Cond.code yX4_init cX4_init 1 none, Cond.methodLink RX3 11 yX4_init, Cond.instanceMethod yX4_init, Cond.fieldLink RX3 12 "TinyMl$Typer" "types" "LTinyMl$Types;", Cond.fieldLink RX3 18 "TinyMl$Typer" "names" "[I", Cond.fieldLink RX3 22 "TinyMl$Typer" "bound" "[I", Cond.arrayClass .boolean, Cond.fieldLink RX3 25 "TinyMl$Typer" "general" "[Z", Cond.fieldLink RX3 29 "TinyMl$Typer" "terms" "LTinyMl$Terms;", Cond.methodLink RX0 5 objectInit, Cond.fieldLink RX0 11 "TinyMl$Machine" "kinds" "[I", Cond.fieldLink RX0 15 "TinyMl$Machine" "lefts" "[I", Cond.fieldLink RX0 18 "TinyMl$Machine" "rights" "[I", Cond.fieldLink RX0 21 "TinyMl$Machine" "names" "[I", Cond.fieldLink RX0 24 "TinyMl$Machine" "bound" "[I", Cond.fieldLink RX0 27 "TinyMl$Machine" "outers" "[I", Cond.fieldLink RX0 30 "TinyMl$Machine" "waiting" "[I", Cond.fieldLink RX0 33 "TinyMl$Machine" "terms" "LTinyMl$Terms;", Cond.methodLink RX6 3 objectInit, Cond.fieldLink RX6 9 "TinyMl" "tokens" "[I", Cond.classLink RX6 13 RX2, Cond.instantiable RX2 6, Cond.initialized RX2, Cond.code yX2_init cX2_init 1 none, Cond.methodLink RX6 15 yX2_init, Cond.instanceMethod yX2_init]
def BG_2 : List Cond := [Cond.fieldLink RX6 16 "TinyMl" "terms" "LTinyMl$Terms;", Cond.classLink RX6 20 RX1, Cond.instantiable RX1 6, Cond.initialized RX1, Cond.code yX1_init cX1_init 3 none, Cond.methodLink RX6 22 yX1_init, Cond.instanceMethod yX1_init, Cond.fieldLink RX6 25 "TinyMl" "reader" "LTinyMl$Reader;", Cond.classLink RX6 29 RX3, Cond.instantiable RX3 6, Cond.initialized RX3, Cond.code yX3_init cX3_init 2 none, Cond.methodLink RX6 31 yX3_init, Cond.instanceMethod yX3_init, Cond.fieldLink RX6 34 "TinyMl" "typer" "LTinyMl$Typer;", Cond.classLink RX6 38 RX0, Cond.instantiable RX0 16, Cond.initialized RX0, Cond.code yX0_init cX0_init 2 none, Cond.methodLink RX6 40 yX0_init, Cond.instanceMethod yX0_init, Cond.fieldLink RX6 41 "TinyMl" "machine" "LTinyMl$Machine;", Cond.classLink RX6 45 RX5, Cond.methodLink RX6 47 yX5_init, Cond.fieldLink RX6 50 "TinyMl" "typeWords" "LTinyMl$Words;", Cond.fieldLink RX6 54 "TinyMl" "outWords" "LTinyMl$Words;", Cond.fieldLink RX6 57 "TinyMl" "phaseNow" "I", Cond.methodLink RX6 68 yX6_isToken, Cond.static yX6_isToken, Cond.initialized RX6]
def BG_3 : List Cond := [Cond.code yX6_isToken cX6_isToken 1 (some .boolean), Cond.fieldLink RX6 72 "TinyMl" "tokenCount" "I", Cond.methodLink RX6 75 yX6_put, Cond.static yX6_put, Cond.code yX6_put cX6_put 3 none, Cond.fieldLink RX2 27 "TinyMl$Terms" "count" "I", Cond.methodLink RX2 49 yX2_has, Cond.instanceMethod yX2_has, Cond.selects RX2 yX2_has yX2_has, Cond.code yX2_has cX2_has 2 (some .boolean), Cond.fieldLink RX1 34 "TinyMl$Reader" "fault" "I", Cond.fieldLink RX1 31 "TinyMl$Reader" "place" "I", Cond.fieldLink RX1 28 "TinyMl$Reader" "count" "I", Cond.methodLink RX1 47 yX1_fail, Cond.instanceMethod yX1_fail, Cond.selects RX1 yX1_fail yX1_fail, Cond.code yX1_fail cX1_fail 2 none, Cond.code yX6_isName cX6_isName 1 (some .boolean), Cond.static yX6_isName, Cond.methodLink RX1 51 yX1_stopped, Cond.instanceMethod yX1_stopped, Cond.selects RX1 yX1_stopped yX1_stopped, Cond.code yX1_stopped cX1_stopped 2 (some .boolean), Cond.methodLink RX1 55 yX1_look, Cond.instanceMethod yX1_look, Cond.selects RX1 yX1_look yX1_look, Cond.code yX1_look cX1_look 1 (some .int), Cond.methodLink RX1 106 yX1_beginsAtom, Cond.static yX1_beginsAtom, Cond.code yX1_beginsAtom cX1_beginsAtom 1 (some .boolean)]
def BG_4 : List Cond := [Cond.methodLink RX1 41 yX1_refuse, Cond.instanceMethod yX1_refuse, Cond.selects RX1 yX1_refuse yX1_refuse, Cond.code yX1_refuse cX1_refuse 1 none, Cond.methodLink RX1 103 yX1_atom, Cond.instanceMethod yX1_atom, Cond.selects RX1 yX1_atom yX1_atom, Cond.code yX1_atom cX1_atom 4 (some .int), Cond.methodLink RX1 100 yX1_call, Cond.instanceMethod yX1_call, Cond.selects RX1 yX1_call yX1_call, Cond.code yX1_call cX1_call 5 (some .int), Cond.methodLink RX1 97 yX1_product, Cond.instanceMethod yX1_product, Cond.selects RX1 yX1_product yX1_product, Cond.code yX1_product cX1_product 5 (some .int), Cond.methodLink RX1 94 yX1_sum, Cond.instanceMethod yX1_sum, Cond.selects RX1 yX1_sum yX1_sum, Cond.code yX1_sum cX1_sum 6 (some .int), Cond.methodLink RX1 91 yX1_test, Cond.instanceMethod yX1_test, Cond.selects RX1 yX1_test yX1_test, Cond.code yX1_test cX1_test 5 (some .int), Cond.methodLink RX1 74 yX1_list, Cond.instanceMethod yX1_list, Cond.selects RX1 yX1_list yX1_list, Cond.code yX1_list cX1_list 4 (some .int), Cond.methodLink RX1 23 yX2_clear, Cond.instanceMethod yX2_clear]
def BG_5 : List Cond := [Cond.selects RX2 yX2_clear yX2_clear, Cond.code yX2_clear cX2_clear 1 none, Cond.methodLink RX1 37 yX1_term, Cond.instanceMethod yX1_term, Cond.selects RX1 yX1_term yX1_term, Cond.code yX1_term cX1_term 2 (some .int), Cond.methodLink RX1 44 yX2_height, Cond.instanceMethod yX2_height, Cond.selects RX2 yX2_height yX2_height, Cond.code yX2_height cX2_height 2 (some .int), Cond.methodLink RX6 81 yX1_readAll, Cond.instanceMethod yX1_readAll, Cond.selects RX1 yX1_readAll yX1_readAll, Cond.code yX1_readAll cX1_readAll 2 (some .int), Cond.fieldLink RX0 37 "TinyMl$Machine" "spent" "I", Cond.fieldLink RX0 41 "TinyMl$Machine" "cells" "I", Cond.fieldLink RX0 44 "TinyMl$Machine" "nested" "I", Cond.methodLink RX6 119 yX0_clear, Cond.instanceMethod yX0_clear, Cond.selects RX0 yX0_clear yX0_clear, Cond.code yX0_clear cX0_clear 1 none, Cond.fieldLink RX6 115 "TinyMl" "done" "Z", Cond.methodLink RX6 136 yX0_fuelUsed, Cond.instanceMethod yX0_fuelUsed, Cond.selects RX0 yX0_fuelUsed yX0_fuelUsed, Cond.code yX0_fuelUsed cX0_fuelUsed 1 (some .int), Cond.methodLink RX6 139 yX0_cellsUsed, Cond.instanceMethod yX0_cellsUsed, Cond.selects RX0 yX0_cellsUsed yX0_cellsUsed, Cond.code yX0_cellsUsed cX0_cellsUsed 1 (some .int)]
def BG_6 : List Cond := [Cond.methodLink RX6 142 yX0_mostNested, Cond.instanceMethod yX0_mostNested, Cond.selects RX0 yX0_mostNested yX0_mostNested, Cond.code yX0_mostNested cX0_mostNested 1 (some .int), Cond.methodLink RX7 1 objectInit, Cond.fieldLink RX7 7 "TinyMlModel" "tokens" "[I", Cond.fieldLink RX7 13 "TinyMlModel" "kind" "[I", Cond.fieldLink RX7 16 "TinyMlModel" "first" "[I", Cond.fieldLink RX7 19 "TinyMlModel" "second" "[I", Cond.fieldLink RX7 22 "TinyMlModel" "third" "[I", Cond.fieldLink RX7 25 "TinyMlModel" "what" "[I", Cond.fieldLink RX7 28 "TinyMlModel" "other" "[I", Cond.fieldLink RX7 31 "TinyMlModel" "height" "[I", Cond.fieldLink RX7 34 "TinyMlModel" "free" "[I", Cond.fieldLink RX7 37 "TinyMlModel" "order" "[I", Cond.fieldLink RX7 40 "TinyMlModel" "with" "[I", Cond.fieldLink RX7 43 "TinyMlModel" "along" "[I", Cond.fieldLink RX7 46 "TinyMlModel" "deep" "[I", Cond.fieldLink RX7 49 "TinyMlModel" "made" "[I", Cond.fieldLink RX7 52 "TinyMlModel" "type" "[I", Cond.fieldLink RX7 55 "TinyMlModel" "left" "[I", Cond.fieldLink RX7 58 "TinyMlModel" "right" "[I", Cond.fieldLink RX7 61 "TinyMlModel" "general" "[Z", Cond.fieldLink RX7 65 "TinyMlModel" "boundName" "[I", Cond.fieldLink RX7 68 "TinyMlModel" "boundType" "[I", Cond.fieldLink RX7 71 "TinyMlModel" "boundGeneral" "[Z", Cond.fieldLink RX7 74 "TinyMlModel" "pending" "[I", Cond.fieldLink RX7 77 "TinyMlModel" "copies" "[I", Cond.fieldLink RX7 80 "TinyMlModel" "copied" "[I", Cond.fieldLink RX7 83 "TinyMlModel" "tag" "[I"]
def BG_7 : List Cond := [Cond.fieldLink RX7 86 "TinyMlModel" "number" "[I", Cond.fieldLink RX7 89 "TinyMlModel" "next" "[I", Cond.fieldLink RX7 92 "TinyMlModel" "named" "[I", Cond.fieldLink RX7 95 "TinyMlModel" "cellTag" "[I", Cond.fieldLink RX7 98 "TinyMlModel" "cellNumber" "[I", Cond.fieldLink RX7 101 "TinyMlModel" "valueTag" "[I", Cond.fieldLink RX7 104 "TinyMlModel" "valueNumber" "[I", Cond.fieldLink RX7 107 "TinyMlModel" "typeWords" "[I", Cond.fieldLink RX7 110 "TinyMlModel" "outWords" "[I", Cond.fieldLink RX7 113 "TinyMlModel" "outSize" "I", Cond.fieldLink RX7 117 "TinyMlModel" "thrown" "I", Cond.fieldLink RX7 126 "TinyMlModel" "phase" "I", Cond.methodLink RX7 129 yX7_fails, Cond.instanceMethod yX7_fails, Cond.selects RX7 yX7_fails yX7_fails, Cond.initialized RX7, Cond.code yX7_fails cX7_fails 2 (some .boolean), Cond.methodLink RX7 133 yX7_isToken, Cond.static yX7_isToken, Cond.code yX7_isToken cX7_isToken 1 (some .boolean), Cond.fieldLink RX7 137 "TinyMlModel" "count" "I", Cond.fieldLink RX7 286 "TinyMlModel" "used" "I", Cond.fieldLink RX7 289 "TinyMlModel" "cells" "I", Cond.fieldLink RX7 292 "TinyMlModel" "deepest" "I", Cond.methodLink RX7 283 yX7_forget, Cond.instanceMethod yX7_forget, Cond.selects RX7 yX7_forget yX7_forget, Cond.code yX7_forget cX7_forget 1 none, Cond.fieldLink RX7 120 "TinyMlModel" "orders" "I", Cond.fieldLink RX7 140 "TinyMlModel" "at" "I"]
def BG_8 : List Cond := [Cond.methodLink RX7 143 yX7_isName, Cond.static yX7_isName, Cond.code yX7_isName cX7_isName 1 (some .boolean), Cond.fieldLink RX7 160 "TinyMlModel" "wrong" "I", Cond.methodLink RX7 167 yX7_look, Cond.instanceMethod yX7_look, Cond.selects RX7 yX7_look yX7_look, Cond.code yX7_look cX7_look 1 (some .int), Cond.methodLink RX7 171 yX7_beginsAtom, Cond.static yX7_beginsAtom, Cond.code yX7_beginsAtom cX7_beginsAtom 1 (some .boolean), Cond.methodLink RX7 174 yX7_refuse, Cond.instanceMethod yX7_refuse, Cond.selects RX7 yX7_refuse yX7_refuse, Cond.code yX7_refuse cX7_refuse 1 (some .boolean), Cond.methodLink RX7 163 yX7_put, Cond.instanceMethod yX7_put, Cond.selects RX7 yX7_put yX7_put, Cond.code yX7_put cX7_put 5 none, Cond.methodLink RX7 193 yX7_atom, Cond.instanceMethod yX7_atom, Cond.selects RX7 yX7_atom yX7_atom, Cond.code yX7_atom cX7_atom 3 (some .boolean), Cond.fieldLink RX7 146 "TinyMlModel" "terms" "I", Cond.fieldLink RX7 123 "TinyMlModel" "mades" "I", Cond.methodLink RX7 205 yX7_read, Cond.instanceMethod yX7_read, Cond.selects RX7 yX7_read yX7_read, Cond.code yX7_read cX7_read 5 (some .boolean), Cond.classLink RX6 61 "java/lang/IllegalStateException"]
def BG_9 : List Cond := [Cond.initialized "java/lang/IllegalStateException", Cond.classLink RX6 126 "java/util/NoSuchElementException", Cond.initialized "java/util/NoSuchElementException", Cond.methodLink RL 19 yX6_infer, Cond.instanceMethod yX6_infer, Cond.selects RX6 yX6_infer yX6_infer, Cond.code yX6_infer cX6_infer 3 (some .int), Cond.classLink RL 13 "java/lang/IllegalStateException", Cond.methodLink RL 22 yX6_run, Cond.instanceMethod yX6_run, Cond.selects RX6 yX6_run yX6_run, Cond.code yX6_run cX6_run 3 (some .int), Cond.methodLink RL 26 yX6_typeAt, Cond.instanceMethod yX6_typeAt, Cond.selects RX6 yX6_typeAt yX6_typeAt, Cond.code yX6_typeAt cX6_typeAt 2 (some .int), Cond.classLink RL 29 "java/util/NoSuchElementException", Cond.methodLink RL 31 yX6_outAt, Cond.instanceMethod yX6_outAt, Cond.selects RX6 yX6_outAt yX6_outAt, Cond.code yX6_outAt cX6_outAt 2 (some .int), Cond.methodLink RL 7 yX6_token, Cond.instanceMethod yX6_token, Cond.selects RX6 yX6_token yX6_token, Cond.code yX6_token cX6_token 2 (some .boolean), Cond.methodLink RL 15 yX6_parse, Cond.instanceMethod yX6_parse, Cond.selects RX6 yX6_parse yX6_parse, Cond.code yX6_parse cX6_parse 2 (some .int), Cond.methodLink RL 34 yX6_init]
def BG_10 : List Cond := [Cond.instanceMethod yX6_init, Cond.code yX6_init cX6_init 1 none, Cond.methodLink RL 37 yX7_init, Cond.instanceMethod yX7_init, Cond.code yX7_init cX7_init 1 none, Cond.methodLink RL 38 yL_token, Cond.static yL_token, Cond.codeWith yL_token cL_token 4 (some .int) [(0, 16, 19, 13)], Cond.methodLink RL 43 yX7_token, Cond.instanceMethod yX7_token, Cond.selects RX7 yX7_token yX7_token, Cond.code yX7_token cX7_token 2 (some .boolean), Cond.methodLink RL 44 yX7_thrown, Cond.instanceMethod yX7_thrown, Cond.selects RX7 yX7_thrown yX7_thrown, Cond.code yX7_thrown cX7_thrown 1 (some .int), Cond.methodLink RL 47 yL_parse, Cond.static yL_parse, Cond.codeWith yL_parse cL_parse 3 (some .int) [(0, 8, 11, 13)], Cond.methodLink RL 50 yX7_parse, Cond.instanceMethod yX7_parse, Cond.selects RX7 yX7_parse yX7_parse, Cond.code yX7_parse cX7_parse 1 (some .int), Cond.methodLink RL 51 yL_infer, Cond.static yL_infer, Cond.codeWith yL_infer cL_infer 3 (some .int) [(0, 8, 11, 13)], Cond.methodLink RL 53 yX7_infer, Cond.instanceMethod yX7_infer, Cond.selects RX7 yX7_infer yX7_infer, Cond.code yX7_infer cX7_infer 2 (some .int)]
def BG_11 : List Cond := [Cond.methodLink RL 54 yL_run, Cond.static yL_run, Cond.codeWith yL_run cL_run 4 (some .int) [(0, 9, 12, 13)], Cond.methodLink RL 56 yX7_run, Cond.instanceMethod yX7_run, Cond.selects RX7 yX7_run yX7_run, Cond.code yX7_run cX7_run 2 (some .int), Cond.methodLink RL 57 yX6_reset, Cond.instanceMethod yX6_reset, Cond.selects RX6 yX6_reset yX6_reset, Cond.code yX6_reset cX6_reset 1 none, Cond.methodLink RL 60 yX7_reset, Cond.instanceMethod yX7_reset, Cond.selects RX7 yX7_reset yX7_reset, Cond.code yX7_reset cX7_reset 1 none, Cond.methodLink RL 61 yX6_phase, Cond.instanceMethod yX6_phase, Cond.selects RX6 yX6_phase yX6_phase, Cond.code yX6_phase cX6_phase 1 (some .int), Cond.methodLink RL 64 yX7_phase, Cond.instanceMethod yX7_phase, Cond.selects RX7 yX7_phase yX7_phase, Cond.code yX7_phase cX7_phase 1 (some .int), Cond.methodLink RL 65 yX6_typeSize, Cond.instanceMethod yX6_typeSize, Cond.selects RX6 yX6_typeSize yX6_typeSize, Cond.code yX6_typeSize cX6_typeSize 1 (some .int), Cond.methodLink RL 68 yX7_typeSize, Cond.instanceMethod yX7_typeSize, Cond.selects RX7 yX7_typeSize yX7_typeSize]
def BG_12 : List Cond := [Cond.code yX7_typeSize cX7_typeSize 1 (some .int), Cond.methodLink RL 69 yL_typeAt, Cond.static yL_typeAt, Cond.codeWith yL_typeAt cL_typeAt 4 (some .int) [(0, 9, 12, 29)], Cond.methodLink RL 71 yX7_typeAt, Cond.instanceMethod yX7_typeAt, Cond.selects RX7 yX7_typeAt yX7_typeAt, Cond.code yX7_typeAt cX7_typeAt 2 (some .int), Cond.methodLink RL 72 yX6_outSize, Cond.instanceMethod yX6_outSize, Cond.selects RX6 yX6_outSize yX6_outSize, Cond.code yX6_outSize cX6_outSize 1 (some .int), Cond.methodLink RL 75 yX7_outSize, Cond.instanceMethod yX7_outSize, Cond.selects RX7 yX7_outSize yX7_outSize, Cond.code yX7_outSize cX7_outSize 1 (some .int), Cond.methodLink RL 76 yL_outAt, Cond.static yL_outAt, Cond.codeWith yL_outAt cL_outAt 4 (some .int) [(0, 9, 12, 29)], Cond.methodLink RL 78 yX7_outAt, Cond.instanceMethod yX7_outAt, Cond.selects RX7 yX7_outAt yX7_outAt, Cond.code yX7_outAt cX7_outAt 2 (some .int), Cond.methodLink RL 79 yX6_used, Cond.instanceMethod yX6_used, Cond.selects RX6 yX6_used yX6_used, Cond.code yX6_used cX6_used 2 (some .int), Cond.methodLink RL 82 yX7_used, Cond.instanceMethod yX7_used, Cond.selects RX7 yX7_used yX7_used]
def BG_13 : List Cond := [Cond.code yX7_used cX7_used 2 (some .int), Cond.classLink RL 8 RX6, Cond.classLink RL 35 RX7, Cond.instantiable RX6 10, Cond.instantiable RX7 55, Cond.initialized RL, Cond.arrayClass .long]
def BG : List Cond := BG_0 ++ (BG_1 ++ (BG_2 ++ (BG_3 ++ (BG_4 ++ (BG_5 ++ (BG_6 ++ (BG_7 ++ (BG_8 ++ (BG_9 ++ (BG_10 ++ (BG_11 ++ (BG_12 ++ (BG_13 ++ (wsX00 ++ (wsX10 ++ (wsX20 ++ (wsX30 ++ (wsX40 ++ (wsX50 ++ (wsX60 ++ (wsX70 ++ ((vx_atS RX6 65 "java/lang/IllegalStateException" ["java/lang/RuntimeException", "java/lang/Exception"]).filter goodWord ++ ((tn_at RX6 130).filter goodWord)))))))))))))))))))))))
theorem BGi_0 : ∀ w ∈ BG_0, w ∈ BG := fun _ h => List.mem_append_left _ h
theorem BGi_1 : ∀ w ∈ BG_1, w ∈ BG := fun _ h => List.mem_append_right _ (List.mem_append_left _ h)
theorem BGi_2 : ∀ w ∈ BG_2, w ∈ BG := fun _ h => List.mem_append_right _ (List.mem_append_right _ (List.mem_append_left _ h))
theorem BGi_3 : ∀ w ∈ BG_3, w ∈ BG := fun _ h => List.mem_append_right _ (List.mem_append_right _ (List.mem_append_right _ (List.mem_append_left _ h)))
theorem BGi_4 : ∀ w ∈ BG_4, w ∈ BG := fun _ h => List.mem_append_right _ (List.mem_append_right _ (List.mem_append_right _ (List.mem_append_right _ (List.mem_append_left _ h))))
theorem BGi_5 : ∀ w ∈ BG_5, w ∈ BG := fun _ h => List.mem_append_right _ (List.mem_append_right _ (List.mem_append_right _ (List.mem_append_right _ (List.mem_append_right _ (List.mem_append_left _ h)))))
theorem BGi_6 : ∀ w ∈ BG_6, w ∈ BG := fun _ h => List.mem_append_right _ (List.mem_append_right _ (List.mem_append_right _ (List.mem_append_right _ (List.mem_append_right _ (List.mem_append_right _ (List.mem_append_left _ h))))))
theorem BGi_7 : ∀ w ∈ BG_7, w ∈ BG := fun _ h => List.mem_append_right _ (List.mem_append_right _ (List.mem_append_right _ (List.mem_append_right _ (List.mem_append_right _ (List.mem_append_right _ (List.mem_append_right _ (List.mem_append_left _ h)))))))
theorem BGi_8 : ∀ w ∈ BG_8, w ∈ BG := fun _ h => List.mem_append_right _ (List.mem_append_right _ (List.mem_append_right _ (List.mem_append_right _ (List.mem_append_right _ (List.mem_append_right _ (List.mem_append_right _ (List.mem_append_right _ (List.mem_append_left _ h))))))))
theorem BGi_9 : ∀ w ∈ BG_9, w ∈ BG := fun _ h => List.mem_append_right _ (List.mem_append_right _ (List.mem_append_right _ (List.mem_append_right _ (List.mem_append_right _ (List.mem_append_right _ (List.mem_append_right _ (List.mem_append_right _ (List.mem_append_right _ (List.mem_append_left _ h)))))))))
theorem BGi_10 : ∀ w ∈ BG_10, w ∈ BG := fun _ h => List.mem_append_right _ (List.mem_append_right _ (List.mem_append_right _ (List.mem_append_right _ (List.mem_append_right _ (List.mem_append_right _ (List.mem_append_right _ (List.mem_append_right _ (List.mem_append_right _ (List.mem_append_right _ (List.mem_append_left _ h))))))))))
theorem BGi_11 : ∀ w ∈ BG_11, w ∈ BG := fun _ h => List.mem_append_right _ (List.mem_append_right _ (List.mem_append_right _ (List.mem_append_right _ (List.mem_append_right _ (List.mem_append_right _ (List.mem_append_right _ (List.mem_append_right _ (List.mem_append_right _ (List.mem_append_right _ (List.mem_append_right _ (List.mem_append_left _ h)))))))))))
theorem BGi_12 : ∀ w ∈ BG_12, w ∈ BG := fun _ h => List.mem_append_right _ (List.mem_append_right _ (List.mem_append_right _ (List.mem_append_right _ (List.mem_append_right _ (List.mem_append_right _ (List.mem_append_right _ (List.mem_append_right _ (List.mem_append_right _ (List.mem_append_right _ (List.mem_append_right _ (List.mem_append_right _ (List.mem_append_left _ h))))))))))))
theorem BGi_13 : ∀ w ∈ BG_13, w ∈ BG := fun _ h => List.mem_append_right _ (List.mem_append_right _ (List.mem_append_right _ (List.mem_append_right _ (List.mem_append_right _ (List.mem_append_right _ (List.mem_append_right _ (List.mem_append_right _ (List.mem_append_right _ (List.mem_append_right _ (List.mem_append_right _ (List.mem_append_right _ (List.mem_append_right _ (List.mem_append_left _ h)))))))))))))
theorem inB0 : ∀ w ∈ wsX00, w ∈ BG := fun _ h => List.mem_append_right _ (List.mem_append_right _ (List.mem_append_right _ (List.mem_append_right _ (List.mem_append_right _ (List.mem_append_right _ (List.mem_append_right _ (List.mem_append_right _ (List.mem_append_right _ (List.mem_append_right _ (List.mem_append_right _ (List.mem_append_right _ (List.mem_append_right _ (List.mem_append_right _ (List.mem_append_left _ h))))))))))))))
theorem inB1 : ∀ w ∈ wsX10, w ∈ BG := fun _ h => List.mem_append_right _ (List.mem_append_right _ (List.mem_append_right _ (List.mem_append_right _ (List.mem_append_right _ (List.mem_append_right _ (List.mem_append_right _ (List.mem_append_right _ (List.mem_append_right _ (List.mem_append_right _ (List.mem_append_right _ (List.mem_append_right _ (List.mem_append_right _ (List.mem_append_right _ (List.mem_append_right _ (List.mem_append_left _ h)))))))))))))))
theorem inB2 : ∀ w ∈ wsX20, w ∈ BG := fun _ h => List.mem_append_right _ (List.mem_append_right _ (List.mem_append_right _ (List.mem_append_right _ (List.mem_append_right _ (List.mem_append_right _ (List.mem_append_right _ (List.mem_append_right _ (List.mem_append_right _ (List.mem_append_right _ (List.mem_append_right _ (List.mem_append_right _ (List.mem_append_right _ (List.mem_append_right _ (List.mem_append_right _ (List.mem_append_right _ (List.mem_append_left _ h))))))))))))))))
theorem inB3 : ∀ w ∈ wsX30, w ∈ BG := fun _ h => List.mem_append_right _ (List.mem_append_right _ (List.mem_append_right _ (List.mem_append_right _ (List.mem_append_right _ (List.mem_append_right _ (List.mem_append_right _ (List.mem_append_right _ (List.mem_append_right _ (List.mem_append_right _ (List.mem_append_right _ (List.mem_append_right _ (List.mem_append_right _ (List.mem_append_right _ (List.mem_append_right _ (List.mem_append_right _ (List.mem_append_right _ (List.mem_append_left _ h)))))))))))))))))
theorem inB4 : ∀ w ∈ wsX40, w ∈ BG := fun _ h => List.mem_append_right _ (List.mem_append_right _ (List.mem_append_right _ (List.mem_append_right _ (List.mem_append_right _ (List.mem_append_right _ (List.mem_append_right _ (List.mem_append_right _ (List.mem_append_right _ (List.mem_append_right _ (List.mem_append_right _ (List.mem_append_right _ (List.mem_append_right _ (List.mem_append_right _ (List.mem_append_right _ (List.mem_append_right _ (List.mem_append_right _ (List.mem_append_right _ (List.mem_append_left _ h))))))))))))))))))
theorem inB5 : ∀ w ∈ wsX50, w ∈ BG := fun _ h => List.mem_append_right _ (List.mem_append_right _ (List.mem_append_right _ (List.mem_append_right _ (List.mem_append_right _ (List.mem_append_right _ (List.mem_append_right _ (List.mem_append_right _ (List.mem_append_right _ (List.mem_append_right _ (List.mem_append_right _ (List.mem_append_right _ (List.mem_append_right _ (List.mem_append_right _ (List.mem_append_right _ (List.mem_append_right _ (List.mem_append_right _ (List.mem_append_right _ (List.mem_append_right _ (List.mem_append_left _ h)))))))))))))))))))
theorem inB6 : ∀ w ∈ wsX60, w ∈ BG := fun _ h => List.mem_append_right _ (List.mem_append_right _ (List.mem_append_right _ (List.mem_append_right _ (List.mem_append_right _ (List.mem_append_right _ (List.mem_append_right _ (List.mem_append_right _ (List.mem_append_right _ (List.mem_append_right _ (List.mem_append_right _ (List.mem_append_right _ (List.mem_append_right _ (List.mem_append_right _ (List.mem_append_right _ (List.mem_append_right _ (List.mem_append_right _ (List.mem_append_right _ (List.mem_append_right _ (List.mem_append_right _ (List.mem_append_left _ h))))))))))))))))))))
theorem inB7 : ∀ w ∈ wsX70, w ∈ BG := fun _ h => List.mem_append_right _ (List.mem_append_right _ (List.mem_append_right _ (List.mem_append_right _ (List.mem_append_right _ (List.mem_append_right _ (List.mem_append_right _ (List.mem_append_right _ (List.mem_append_right _ (List.mem_append_right _ (List.mem_append_right _ (List.mem_append_right _ (List.mem_append_right _ (List.mem_append_right _ (List.mem_append_right _ (List.mem_append_right _ (List.mem_append_right _ (List.mem_append_right _ (List.mem_append_right _ (List.mem_append_right _ (List.mem_append_right _ (List.mem_append_left _ h)))))))))))))))))))))
theorem inBx0 : ∀ w ∈ (vx_atS RX6 65 "java/lang/IllegalStateException" ["java/lang/RuntimeException", "java/lang/Exception"]).filter goodWord, w ∈ BG := fun _ h => List.mem_append_right _ (List.mem_append_right _ (List.mem_append_right _ (List.mem_append_right _ (List.mem_append_right _ (List.mem_append_right _ (List.mem_append_right _ (List.mem_append_right _ (List.mem_append_right _ (List.mem_append_right _ (List.mem_append_right _ (List.mem_append_right _ (List.mem_append_right _ (List.mem_append_right _ (List.mem_append_right _ (List.mem_append_right _ (List.mem_append_right _ (List.mem_append_right _ (List.mem_append_right _ (List.mem_append_right _ (List.mem_append_right _ (List.mem_append_right _ (List.mem_append_left _ h))))))))))))))))))))))
theorem inBx1 : ∀ w ∈ (tn_at RX6 130).filter goodWord, w ∈ BG := fun _ h => List.mem_append_right _ (List.mem_append_right _ (List.mem_append_right _ (List.mem_append_right _ (List.mem_append_right _ (List.mem_append_right _ (List.mem_append_right _ (List.mem_append_right _ (List.mem_append_right _ (List.mem_append_right _ (List.mem_append_right _ (List.mem_append_right _ (List.mem_append_right _ (List.mem_append_right _ (List.mem_append_right _ (List.mem_append_right _ (List.mem_append_right _ (List.mem_append_right _ (List.mem_append_right _ (List.mem_append_right _ (List.mem_append_right _ (List.mem_append_right _ (List.mem_append_right _ (h)))))))))))))))))))))))
set_option maxRecDepth 20000 in
theorem BGg_0 : GoodIn lw_tbl BG_0 := goodIn_p _ [134, 202] (by decide +kernel) (by decide +kernel)
set_option maxRecDepth 20000 in
theorem BGg_1 : GoodIn lw_tbl BG_1 := goodIn_p _ [196, 139] (by decide +kernel) (by decide +kernel)
set_option maxRecDepth 20000 in
theorem BGg_2 : GoodIn lw_tbl BG_2 := goodIn_p _ [165, 190, 272] (by decide +kernel) (by decide +kernel)
set_option maxRecDepth 20000 in
theorem BGg_3 : GoodIn lw_tbl BG_3 := goodIn_p _ [477, 480, 543, 508, 526, 504, 512, 599] (by decide +kernel) (by decide +kernel)
set_option maxRecDepth 20000 in
theorem BGg_4 : GoodIn lw_tbl BG_4 := goodIn_p _ [530, 596, 592, 588, 584, 580, 576] (by decide +kernel) (by decide +kernel)
set_option maxRecDepth 20000 in
theorem BGg_5 : GoodIn lw_tbl BG_5 := goodIn_p _ [496, 500, 539, 492, 363, 391, 395] (by decide +kernel) (by decide +kernel)
set_option maxRecDepth 20000 in
theorem BGg_6 : GoodIn lw_tbl BG_6 := goodIn_p _ [399] (by decide +kernel) (by decide +kernel)
set_option maxRecDepth 20000 in
theorem BGg_7 : GoodIn lw_tbl BG_7 := goodIn_p _ [1179, 1182, 1334] (by decide +kernel) (by decide +kernel)
set_option maxRecDepth 20000 in
theorem BGg_8 : GoodIn lw_tbl BG_8 := goodIn_p _ [1212, 1198, 1209, 1216, 1190, 1206, 1194] (by decide +kernel) (by decide +kernel)
set_option maxRecDepth 20000 in
theorem BGg_9 : GoodIn lw_tbl BG_9 := goodIn_p _ [615, 873, 961, 994, 407, 487] (by decide +kernel) (by decide +kernel)
set_option maxRecDepth 20000 in
theorem BGg_10 : GoodIn lw_tbl BG_10 := goodIn_p _ [131, 1000, 1175, 1171, 1186, 1255] (by decide +kernel) (by decide +kernel)
set_option maxRecDepth 20000 in
theorem BGg_11 : GoodIn lw_tbl BG_11 := goodIn_p _ [1338, 359, 1382, 367, 1386, 371] (by decide +kernel) (by decide +kernel)
set_option maxRecDepth 20000 in
theorem BGg_12 : GoodIn lw_tbl BG_12 := goodIn_p _ [1390, 1394, 383, 1398, 1402, 387] (by decide +kernel) (by decide +kernel)
set_option maxRecDepth 20000 in
theorem BGg_13 : GoodIn lw_tbl BG_13 := goodIn_p _ [1406] (by decide +kernel) (by decide +kernel)
set_option maxRecDepth 20000 in
theorem BGg_14 : GoodIn lw_tbl wsX00 := goodIn_p _ [] (by decide +kernel) (by decide +kernel)
set_option maxRecDepth 20000 in
theorem BGg_15 : GoodIn lw_tbl wsX10 := goodIn_p _ [] (by decide +kernel) (by decide +kernel)
set_option maxRecDepth 20000 in
theorem BGg_16 : GoodIn lw_tbl wsX20 := goodIn_p _ [] (by decide +kernel) (by decide +kernel)
set_option maxRecDepth 20000 in
theorem BGg_17 : GoodIn lw_tbl wsX30 := goodIn_p _ [] (by decide +kernel) (by decide +kernel)
set_option maxRecDepth 20000 in
theorem BGg_18 : GoodIn lw_tbl wsX40 := goodIn_p _ [] (by decide +kernel) (by decide +kernel)
set_option maxRecDepth 20000 in
theorem BGg_19 : GoodIn lw_tbl wsX50 := goodIn_p _ [] (by decide +kernel) (by decide +kernel)
set_option maxRecDepth 20000 in
theorem BGg_20 : GoodIn lw_tbl wsX60 := goodIn_p _ [] (by decide +kernel) (by decide +kernel)
set_option maxRecDepth 20000 in
theorem BGg_21 : GoodIn lw_tbl wsX70 := goodIn_p _ [] (by decide +kernel) (by decide +kernel)
set_option maxRecDepth 20000 in
theorem BGg_22 : GoodIn lw_tbl ((vx_atS RX6 65 "java/lang/IllegalStateException" ["java/lang/RuntimeException", "java/lang/Exception"]).filter goodWord) := goodIn_sub (by decide +kernel) (by decide +kernel)
set_option maxRecDepth 20000 in
theorem BGg_23 : GoodIn lw_tbl ((tn_at RX6 130).filter goodWord) := goodIn_sub (by decide +kernel) (by decide +kernel)
theorem BG_good : GoodIn lw_tbl BG := goodIn_app BGg_0 (goodIn_app BGg_1 (goodIn_app BGg_2 (goodIn_app BGg_3 (goodIn_app BGg_4 (goodIn_app BGg_5 (goodIn_app BGg_6 (goodIn_app BGg_7 (goodIn_app BGg_8 (goodIn_app BGg_9 (goodIn_app BGg_10 (goodIn_app BGg_11 (goodIn_app BGg_12 (goodIn_app BGg_13 (goodIn_app BGg_14 (goodIn_app BGg_15 (goodIn_app BGg_16 (goodIn_app BGg_17 (goodIn_app BGg_18 (goodIn_app BGg_19 (goodIn_app BGg_20 (goodIn_app BGg_21 (goodIn_app BGg_22 (BGg_23)))))))))))))))))))))))
theorem bg0 : Cond.methodLink RX5 1 objectInit ∈ BG := BGi_0 _ (List.mem_of_getElem? (i := 0) rfl)
theorem bg1 : Cond.instanceMethod objectInit ∈ BG := BGi_0 _ (List.mem_of_getElem? (i := 1) rfl)
theorem bg2 : Cond.code objectInit ⟨#[0xb1]⟩ 1 none ∈ BG := BGi_0 _ (List.mem_of_getElem? (i := 2) rfl)
theorem bg3 : Cond.arrayClass .int ∈ BG := BGi_0 _ (List.mem_of_getElem? (i := 3) rfl)
theorem bg4 : Cond.fieldLink RX5 7 "TinyMl$Words" "row" "[I" ∈ BG := BGi_0 _ (List.mem_of_getElem? (i := 4) rfl)
theorem bg5 : Cond.methodLink RX2 3 objectInit ∈ BG := BGi_0 _ (List.mem_of_getElem? (i := 5) rfl)
theorem bg6 : Cond.fieldLink RX2 11 "TinyMl$Terms" "kinds" "[I" ∈ BG := BGi_0 _ (List.mem_of_getElem? (i := 6) rfl)
theorem bg7 : Cond.fieldLink RX2 15 "TinyMl$Terms" "firsts" "[I" ∈ BG := BGi_0 _ (List.mem_of_getElem? (i := 7) rfl)
theorem bg8 : Cond.fieldLink RX2 18 "TinyMl$Terms" "seconds" "[I" ∈ BG := BGi_0 _ (List.mem_of_getElem? (i := 8) rfl)
theorem bg9 : Cond.fieldLink RX2 21 "TinyMl$Terms" "heights" "[I" ∈ BG := BGi_0 _ (List.mem_of_getElem? (i := 9) rfl)
theorem bg10 : Cond.fieldLink RX2 24 "TinyMl$Terms" "parts" "[I" ∈ BG := BGi_0 _ (List.mem_of_getElem? (i := 10) rfl)
theorem bg11 : Cond.methodLink RX1 3 objectInit ∈ BG := BGi_0 _ (List.mem_of_getElem? (i := 11) rfl)
theorem bg12 : Cond.fieldLink RX1 9 "TinyMl$Reader" "root" "I" ∈ BG := BGi_0 _ (List.mem_of_getElem? (i := 12) rfl)
theorem bg13 : Cond.fieldLink RX1 15 "TinyMl$Reader" "tokens" "[I" ∈ BG := BGi_0 _ (List.mem_of_getElem? (i := 13) rfl)
theorem bg14 : Cond.fieldLink RX1 19 "TinyMl$Reader" "terms" "LTinyMl$Terms;" ∈ BG := BGi_0 _ (List.mem_of_getElem? (i := 14) rfl)
theorem bg15 : Cond.methodLink RX4 3 objectInit ∈ BG := BGi_0 _ (List.mem_of_getElem? (i := 15) rfl)
theorem bg16 : Cond.fieldLink RX4 11 "TinyMl$Types" "kinds" "[I" ∈ BG := BGi_0 _ (List.mem_of_getElem? (i := 16) rfl)
theorem bg17 : Cond.fieldLink RX4 15 "TinyMl$Types" "lefts" "[I" ∈ BG := BGi_0 _ (List.mem_of_getElem? (i := 17) rfl)
theorem bg18 : Cond.fieldLink RX4 18 "TinyMl$Types" "rights" "[I" ∈ BG := BGi_0 _ (List.mem_of_getElem? (i := 18) rfl)
theorem bg19 : Cond.fieldLink RX4 21 "TinyMl$Types" "marks" "[I" ∈ BG := BGi_0 _ (List.mem_of_getElem? (i := 19) rfl)
theorem bg20 : Cond.fieldLink RX4 24 "TinyMl$Types" "notes" "[I" ∈ BG := BGi_0 _ (List.mem_of_getElem? (i := 20) rfl)
theorem bg21 : Cond.fieldLink RX4 27 "TinyMl$Types" "waiting" "[I" ∈ BG := BGi_0 _ (List.mem_of_getElem? (i := 21) rfl)
theorem bg22 : Cond.fieldLink RX4 30 "TinyMl$Types" "partners" "[I" ∈ BG := BGi_0 _ (List.mem_of_getElem? (i := 22) rfl)
theorem bg23 : Cond.classLink RX4 33 RX5 ∈ BG := BGi_0 _ (List.mem_of_getElem? (i := 23) rfl)
theorem bg24 : Cond.instantiable RX5 2 ∈ BG := BGi_0 _ (List.mem_of_getElem? (i := 24) rfl)
theorem bg25 : Cond.initialized RX5 ∈ BG := BGi_0 _ (List.mem_of_getElem? (i := 25) rfl)
theorem bg26 : Cond.code yX5_init cX5_init 2 none ∈ BG := BGi_0 _ (List.mem_of_getElem? (i := 26) rfl)
theorem bg27 : Cond.methodLink RX4 35 yX5_init ∈ BG := BGi_0 _ (List.mem_of_getElem? (i := 27) rfl)
theorem bg28 : Cond.instanceMethod yX5_init ∈ BG := BGi_0 _ (List.mem_of_getElem? (i := 28) rfl)
theorem bg29 : Cond.fieldLink RX4 38 "TinyMl$Types" "scratch" "LTinyMl$Words;" ∈ BG := BGi_0 _ (List.mem_of_getElem? (i := 29) rfl)
theorem bg30 : Cond.methodLink RX3 3 objectInit ∈ BG := BGi_1 _ (List.mem_of_getElem? (i := 0) rfl)
theorem bg31 : Cond.classLink RX3 9 RX4 ∈ BG := BGi_1 _ (List.mem_of_getElem? (i := 1) rfl)
theorem bg32 : Cond.instantiable RX4 12 ∈ BG := BGi_1 _ (List.mem_of_getElem? (i := 2) rfl)
theorem bg33 : Cond.initialized RX4 ∈ BG := BGi_1 _ (List.mem_of_getElem? (i := 3) rfl)
theorem bg34 : Cond.code yX4_init cX4_init 1 none ∈ BG := BGi_1 _ (List.mem_of_getElem? (i := 4) rfl)
theorem bg35 : Cond.methodLink RX3 11 yX4_init ∈ BG := BGi_1 _ (List.mem_of_getElem? (i := 5) rfl)
theorem bg36 : Cond.instanceMethod yX4_init ∈ BG := BGi_1 _ (List.mem_of_getElem? (i := 6) rfl)
theorem bg37 : Cond.fieldLink RX3 12 "TinyMl$Typer" "types" "LTinyMl$Types;" ∈ BG := BGi_1 _ (List.mem_of_getElem? (i := 7) rfl)
theorem bg38 : Cond.fieldLink RX3 18 "TinyMl$Typer" "names" "[I" ∈ BG := BGi_1 _ (List.mem_of_getElem? (i := 8) rfl)
theorem bg39 : Cond.fieldLink RX3 22 "TinyMl$Typer" "bound" "[I" ∈ BG := BGi_1 _ (List.mem_of_getElem? (i := 9) rfl)
theorem bg40 : Cond.arrayClass .boolean ∈ BG := BGi_1 _ (List.mem_of_getElem? (i := 10) rfl)
theorem bg41 : Cond.fieldLink RX3 25 "TinyMl$Typer" "general" "[Z" ∈ BG := BGi_1 _ (List.mem_of_getElem? (i := 11) rfl)
theorem bg42 : Cond.fieldLink RX3 29 "TinyMl$Typer" "terms" "LTinyMl$Terms;" ∈ BG := BGi_1 _ (List.mem_of_getElem? (i := 12) rfl)
theorem bg43 : Cond.methodLink RX0 5 objectInit ∈ BG := BGi_1 _ (List.mem_of_getElem? (i := 13) rfl)
theorem bg44 : Cond.fieldLink RX0 11 "TinyMl$Machine" "kinds" "[I" ∈ BG := BGi_1 _ (List.mem_of_getElem? (i := 14) rfl)
theorem bg45 : Cond.fieldLink RX0 15 "TinyMl$Machine" "lefts" "[I" ∈ BG := BGi_1 _ (List.mem_of_getElem? (i := 15) rfl)
theorem bg46 : Cond.fieldLink RX0 18 "TinyMl$Machine" "rights" "[I" ∈ BG := BGi_1 _ (List.mem_of_getElem? (i := 16) rfl)
theorem bg47 : Cond.fieldLink RX0 21 "TinyMl$Machine" "names" "[I" ∈ BG := BGi_1 _ (List.mem_of_getElem? (i := 17) rfl)
theorem bg48 : Cond.fieldLink RX0 24 "TinyMl$Machine" "bound" "[I" ∈ BG := BGi_1 _ (List.mem_of_getElem? (i := 18) rfl)
theorem bg49 : Cond.fieldLink RX0 27 "TinyMl$Machine" "outers" "[I" ∈ BG := BGi_1 _ (List.mem_of_getElem? (i := 19) rfl)
theorem bg50 : Cond.fieldLink RX0 30 "TinyMl$Machine" "waiting" "[I" ∈ BG := BGi_1 _ (List.mem_of_getElem? (i := 20) rfl)
theorem bg51 : Cond.fieldLink RX0 33 "TinyMl$Machine" "terms" "LTinyMl$Terms;" ∈ BG := BGi_1 _ (List.mem_of_getElem? (i := 21) rfl)
theorem bg52 : Cond.methodLink RX6 3 objectInit ∈ BG := BGi_1 _ (List.mem_of_getElem? (i := 22) rfl)
theorem bg53 : Cond.fieldLink RX6 9 "TinyMl" "tokens" "[I" ∈ BG := BGi_1 _ (List.mem_of_getElem? (i := 23) rfl)
theorem bg54 : Cond.classLink RX6 13 RX2 ∈ BG := BGi_1 _ (List.mem_of_getElem? (i := 24) rfl)
theorem bg55 : Cond.instantiable RX2 6 ∈ BG := BGi_1 _ (List.mem_of_getElem? (i := 25) rfl)
theorem bg56 : Cond.initialized RX2 ∈ BG := BGi_1 _ (List.mem_of_getElem? (i := 26) rfl)
theorem bg57 : Cond.code yX2_init cX2_init 1 none ∈ BG := BGi_1 _ (List.mem_of_getElem? (i := 27) rfl)
theorem bg58 : Cond.methodLink RX6 15 yX2_init ∈ BG := BGi_1 _ (List.mem_of_getElem? (i := 28) rfl)
theorem bg59 : Cond.instanceMethod yX2_init ∈ BG := BGi_1 _ (List.mem_of_getElem? (i := 29) rfl)
theorem bg60 : Cond.fieldLink RX6 16 "TinyMl" "terms" "LTinyMl$Terms;" ∈ BG := BGi_2 _ (List.mem_of_getElem? (i := 0) rfl)
theorem bg61 : Cond.classLink RX6 20 RX1 ∈ BG := BGi_2 _ (List.mem_of_getElem? (i := 1) rfl)
theorem bg62 : Cond.instantiable RX1 6 ∈ BG := BGi_2 _ (List.mem_of_getElem? (i := 2) rfl)
theorem bg63 : Cond.initialized RX1 ∈ BG := BGi_2 _ (List.mem_of_getElem? (i := 3) rfl)
theorem bg64 : Cond.code yX1_init cX1_init 3 none ∈ BG := BGi_2 _ (List.mem_of_getElem? (i := 4) rfl)
theorem bg65 : Cond.methodLink RX6 22 yX1_init ∈ BG := BGi_2 _ (List.mem_of_getElem? (i := 5) rfl)
theorem bg66 : Cond.instanceMethod yX1_init ∈ BG := BGi_2 _ (List.mem_of_getElem? (i := 6) rfl)
theorem bg67 : Cond.fieldLink RX6 25 "TinyMl" "reader" "LTinyMl$Reader;" ∈ BG := BGi_2 _ (List.mem_of_getElem? (i := 7) rfl)
theorem bg68 : Cond.classLink RX6 29 RX3 ∈ BG := BGi_2 _ (List.mem_of_getElem? (i := 8) rfl)
theorem bg69 : Cond.instantiable RX3 6 ∈ BG := BGi_2 _ (List.mem_of_getElem? (i := 9) rfl)
theorem bg70 : Cond.initialized RX3 ∈ BG := BGi_2 _ (List.mem_of_getElem? (i := 10) rfl)
theorem bg71 : Cond.code yX3_init cX3_init 2 none ∈ BG := BGi_2 _ (List.mem_of_getElem? (i := 11) rfl)
theorem bg72 : Cond.methodLink RX6 31 yX3_init ∈ BG := BGi_2 _ (List.mem_of_getElem? (i := 12) rfl)
theorem bg73 : Cond.instanceMethod yX3_init ∈ BG := BGi_2 _ (List.mem_of_getElem? (i := 13) rfl)
theorem bg74 : Cond.fieldLink RX6 34 "TinyMl" "typer" "LTinyMl$Typer;" ∈ BG := BGi_2 _ (List.mem_of_getElem? (i := 14) rfl)
theorem bg75 : Cond.classLink RX6 38 RX0 ∈ BG := BGi_2 _ (List.mem_of_getElem? (i := 15) rfl)
theorem bg76 : Cond.instantiable RX0 16 ∈ BG := BGi_2 _ (List.mem_of_getElem? (i := 16) rfl)
theorem bg77 : Cond.initialized RX0 ∈ BG := BGi_2 _ (List.mem_of_getElem? (i := 17) rfl)
theorem bg78 : Cond.code yX0_init cX0_init 2 none ∈ BG := BGi_2 _ (List.mem_of_getElem? (i := 18) rfl)
theorem bg79 : Cond.methodLink RX6 40 yX0_init ∈ BG := BGi_2 _ (List.mem_of_getElem? (i := 19) rfl)
theorem bg80 : Cond.instanceMethod yX0_init ∈ BG := BGi_2 _ (List.mem_of_getElem? (i := 20) rfl)
theorem bg81 : Cond.fieldLink RX6 41 "TinyMl" "machine" "LTinyMl$Machine;" ∈ BG := BGi_2 _ (List.mem_of_getElem? (i := 21) rfl)
theorem bg82 : Cond.classLink RX6 45 RX5 ∈ BG := BGi_2 _ (List.mem_of_getElem? (i := 22) rfl)
theorem bg83 : Cond.methodLink RX6 47 yX5_init ∈ BG := BGi_2 _ (List.mem_of_getElem? (i := 23) rfl)
theorem bg84 : Cond.fieldLink RX6 50 "TinyMl" "typeWords" "LTinyMl$Words;" ∈ BG := BGi_2 _ (List.mem_of_getElem? (i := 24) rfl)
theorem bg85 : Cond.fieldLink RX6 54 "TinyMl" "outWords" "LTinyMl$Words;" ∈ BG := BGi_2 _ (List.mem_of_getElem? (i := 25) rfl)
theorem bg86 : Cond.fieldLink RX6 57 "TinyMl" "phaseNow" "I" ∈ BG := BGi_2 _ (List.mem_of_getElem? (i := 26) rfl)
theorem bg87 : Cond.methodLink RX6 68 yX6_isToken ∈ BG := BGi_2 _ (List.mem_of_getElem? (i := 27) rfl)
theorem bg88 : Cond.static yX6_isToken ∈ BG := BGi_2 _ (List.mem_of_getElem? (i := 28) rfl)
theorem bg89 : Cond.initialized RX6 ∈ BG := BGi_2 _ (List.mem_of_getElem? (i := 29) rfl)
theorem bg90 : Cond.code yX6_isToken cX6_isToken 1 (some .boolean) ∈ BG := BGi_3 _ (List.mem_of_getElem? (i := 0) rfl)
theorem bg91 : Cond.fieldLink RX6 72 "TinyMl" "tokenCount" "I" ∈ BG := BGi_3 _ (List.mem_of_getElem? (i := 1) rfl)
theorem bg92 : Cond.methodLink RX6 75 yX6_put ∈ BG := BGi_3 _ (List.mem_of_getElem? (i := 2) rfl)
theorem bg93 : Cond.static yX6_put ∈ BG := BGi_3 _ (List.mem_of_getElem? (i := 3) rfl)
theorem bg94 : Cond.code yX6_put cX6_put 3 none ∈ BG := BGi_3 _ (List.mem_of_getElem? (i := 4) rfl)
theorem bg95 : Cond.fieldLink RX2 27 "TinyMl$Terms" "count" "I" ∈ BG := BGi_3 _ (List.mem_of_getElem? (i := 5) rfl)
theorem bg96 : Cond.methodLink RX2 49 yX2_has ∈ BG := BGi_3 _ (List.mem_of_getElem? (i := 6) rfl)
theorem bg97 : Cond.instanceMethod yX2_has ∈ BG := BGi_3 _ (List.mem_of_getElem? (i := 7) rfl)
theorem bg98 : Cond.selects RX2 yX2_has yX2_has ∈ BG := BGi_3 _ (List.mem_of_getElem? (i := 8) rfl)
theorem bg99 : Cond.code yX2_has cX2_has 2 (some .boolean) ∈ BG := BGi_3 _ (List.mem_of_getElem? (i := 9) rfl)
theorem bg100 : Cond.fieldLink RX1 34 "TinyMl$Reader" "fault" "I" ∈ BG := BGi_3 _ (List.mem_of_getElem? (i := 10) rfl)
theorem bg101 : Cond.fieldLink RX1 31 "TinyMl$Reader" "place" "I" ∈ BG := BGi_3 _ (List.mem_of_getElem? (i := 11) rfl)
theorem bg102 : Cond.fieldLink RX1 28 "TinyMl$Reader" "count" "I" ∈ BG := BGi_3 _ (List.mem_of_getElem? (i := 12) rfl)
theorem bg103 : Cond.methodLink RX1 47 yX1_fail ∈ BG := BGi_3 _ (List.mem_of_getElem? (i := 13) rfl)
theorem bg104 : Cond.instanceMethod yX1_fail ∈ BG := BGi_3 _ (List.mem_of_getElem? (i := 14) rfl)
theorem bg105 : Cond.selects RX1 yX1_fail yX1_fail ∈ BG := BGi_3 _ (List.mem_of_getElem? (i := 15) rfl)
theorem bg106 : Cond.code yX1_fail cX1_fail 2 none ∈ BG := BGi_3 _ (List.mem_of_getElem? (i := 16) rfl)
theorem bg107 : Cond.code yX6_isName cX6_isName 1 (some .boolean) ∈ BG := BGi_3 _ (List.mem_of_getElem? (i := 17) rfl)
theorem bg108 : Cond.static yX6_isName ∈ BG := BGi_3 _ (List.mem_of_getElem? (i := 18) rfl)
theorem bg109 : Cond.methodLink RX1 51 yX1_stopped ∈ BG := BGi_3 _ (List.mem_of_getElem? (i := 19) rfl)
theorem bg110 : Cond.instanceMethod yX1_stopped ∈ BG := BGi_3 _ (List.mem_of_getElem? (i := 20) rfl)
theorem bg111 : Cond.selects RX1 yX1_stopped yX1_stopped ∈ BG := BGi_3 _ (List.mem_of_getElem? (i := 21) rfl)
theorem bg112 : Cond.code yX1_stopped cX1_stopped 2 (some .boolean) ∈ BG := BGi_3 _ (List.mem_of_getElem? (i := 22) rfl)
theorem bg113 : Cond.methodLink RX1 55 yX1_look ∈ BG := BGi_3 _ (List.mem_of_getElem? (i := 23) rfl)
theorem bg114 : Cond.instanceMethod yX1_look ∈ BG := BGi_3 _ (List.mem_of_getElem? (i := 24) rfl)
theorem bg115 : Cond.selects RX1 yX1_look yX1_look ∈ BG := BGi_3 _ (List.mem_of_getElem? (i := 25) rfl)
theorem bg116 : Cond.code yX1_look cX1_look 1 (some .int) ∈ BG := BGi_3 _ (List.mem_of_getElem? (i := 26) rfl)
theorem bg117 : Cond.methodLink RX1 106 yX1_beginsAtom ∈ BG := BGi_3 _ (List.mem_of_getElem? (i := 27) rfl)
theorem bg118 : Cond.static yX1_beginsAtom ∈ BG := BGi_3 _ (List.mem_of_getElem? (i := 28) rfl)
theorem bg119 : Cond.code yX1_beginsAtom cX1_beginsAtom 1 (some .boolean) ∈ BG := BGi_3 _ (List.mem_of_getElem? (i := 29) rfl)
theorem bg120 : Cond.methodLink RX1 41 yX1_refuse ∈ BG := BGi_4 _ (List.mem_of_getElem? (i := 0) rfl)
theorem bg121 : Cond.instanceMethod yX1_refuse ∈ BG := BGi_4 _ (List.mem_of_getElem? (i := 1) rfl)
theorem bg122 : Cond.selects RX1 yX1_refuse yX1_refuse ∈ BG := BGi_4 _ (List.mem_of_getElem? (i := 2) rfl)
theorem bg123 : Cond.code yX1_refuse cX1_refuse 1 none ∈ BG := BGi_4 _ (List.mem_of_getElem? (i := 3) rfl)
theorem bg124 : Cond.methodLink RX1 103 yX1_atom ∈ BG := BGi_4 _ (List.mem_of_getElem? (i := 4) rfl)
theorem bg125 : Cond.instanceMethod yX1_atom ∈ BG := BGi_4 _ (List.mem_of_getElem? (i := 5) rfl)
theorem bg126 : Cond.selects RX1 yX1_atom yX1_atom ∈ BG := BGi_4 _ (List.mem_of_getElem? (i := 6) rfl)
theorem bg127 : Cond.code yX1_atom cX1_atom 4 (some .int) ∈ BG := BGi_4 _ (List.mem_of_getElem? (i := 7) rfl)
theorem bg128 : Cond.methodLink RX1 100 yX1_call ∈ BG := BGi_4 _ (List.mem_of_getElem? (i := 8) rfl)
theorem bg129 : Cond.instanceMethod yX1_call ∈ BG := BGi_4 _ (List.mem_of_getElem? (i := 9) rfl)
theorem bg130 : Cond.selects RX1 yX1_call yX1_call ∈ BG := BGi_4 _ (List.mem_of_getElem? (i := 10) rfl)
theorem bg131 : Cond.code yX1_call cX1_call 5 (some .int) ∈ BG := BGi_4 _ (List.mem_of_getElem? (i := 11) rfl)
theorem bg132 : Cond.methodLink RX1 97 yX1_product ∈ BG := BGi_4 _ (List.mem_of_getElem? (i := 12) rfl)
theorem bg133 : Cond.instanceMethod yX1_product ∈ BG := BGi_4 _ (List.mem_of_getElem? (i := 13) rfl)
theorem bg134 : Cond.selects RX1 yX1_product yX1_product ∈ BG := BGi_4 _ (List.mem_of_getElem? (i := 14) rfl)
theorem bg135 : Cond.code yX1_product cX1_product 5 (some .int) ∈ BG := BGi_4 _ (List.mem_of_getElem? (i := 15) rfl)
theorem bg136 : Cond.methodLink RX1 94 yX1_sum ∈ BG := BGi_4 _ (List.mem_of_getElem? (i := 16) rfl)
theorem bg137 : Cond.instanceMethod yX1_sum ∈ BG := BGi_4 _ (List.mem_of_getElem? (i := 17) rfl)
theorem bg138 : Cond.selects RX1 yX1_sum yX1_sum ∈ BG := BGi_4 _ (List.mem_of_getElem? (i := 18) rfl)
theorem bg139 : Cond.code yX1_sum cX1_sum 6 (some .int) ∈ BG := BGi_4 _ (List.mem_of_getElem? (i := 19) rfl)
theorem bg140 : Cond.methodLink RX1 91 yX1_test ∈ BG := BGi_4 _ (List.mem_of_getElem? (i := 20) rfl)
theorem bg141 : Cond.instanceMethod yX1_test ∈ BG := BGi_4 _ (List.mem_of_getElem? (i := 21) rfl)
theorem bg142 : Cond.selects RX1 yX1_test yX1_test ∈ BG := BGi_4 _ (List.mem_of_getElem? (i := 22) rfl)
theorem bg143 : Cond.code yX1_test cX1_test 5 (some .int) ∈ BG := BGi_4 _ (List.mem_of_getElem? (i := 23) rfl)
theorem bg144 : Cond.methodLink RX1 74 yX1_list ∈ BG := BGi_4 _ (List.mem_of_getElem? (i := 24) rfl)
theorem bg145 : Cond.instanceMethod yX1_list ∈ BG := BGi_4 _ (List.mem_of_getElem? (i := 25) rfl)
theorem bg146 : Cond.selects RX1 yX1_list yX1_list ∈ BG := BGi_4 _ (List.mem_of_getElem? (i := 26) rfl)
theorem bg147 : Cond.code yX1_list cX1_list 4 (some .int) ∈ BG := BGi_4 _ (List.mem_of_getElem? (i := 27) rfl)
theorem bg148 : Cond.methodLink RX1 23 yX2_clear ∈ BG := BGi_4 _ (List.mem_of_getElem? (i := 28) rfl)
theorem bg149 : Cond.instanceMethod yX2_clear ∈ BG := BGi_4 _ (List.mem_of_getElem? (i := 29) rfl)
theorem bg150 : Cond.selects RX2 yX2_clear yX2_clear ∈ BG := BGi_5 _ (List.mem_of_getElem? (i := 0) rfl)
theorem bg151 : Cond.code yX2_clear cX2_clear 1 none ∈ BG := BGi_5 _ (List.mem_of_getElem? (i := 1) rfl)
theorem bg152 : Cond.methodLink RX1 37 yX1_term ∈ BG := BGi_5 _ (List.mem_of_getElem? (i := 2) rfl)
theorem bg153 : Cond.instanceMethod yX1_term ∈ BG := BGi_5 _ (List.mem_of_getElem? (i := 3) rfl)
theorem bg154 : Cond.selects RX1 yX1_term yX1_term ∈ BG := BGi_5 _ (List.mem_of_getElem? (i := 4) rfl)
theorem bg155 : Cond.code yX1_term cX1_term 2 (some .int) ∈ BG := BGi_5 _ (List.mem_of_getElem? (i := 5) rfl)
theorem bg156 : Cond.methodLink RX1 44 yX2_height ∈ BG := BGi_5 _ (List.mem_of_getElem? (i := 6) rfl)
theorem bg157 : Cond.instanceMethod yX2_height ∈ BG := BGi_5 _ (List.mem_of_getElem? (i := 7) rfl)
theorem bg158 : Cond.selects RX2 yX2_height yX2_height ∈ BG := BGi_5 _ (List.mem_of_getElem? (i := 8) rfl)
theorem bg159 : Cond.code yX2_height cX2_height 2 (some .int) ∈ BG := BGi_5 _ (List.mem_of_getElem? (i := 9) rfl)
theorem bg160 : Cond.methodLink RX6 81 yX1_readAll ∈ BG := BGi_5 _ (List.mem_of_getElem? (i := 10) rfl)
theorem bg161 : Cond.instanceMethod yX1_readAll ∈ BG := BGi_5 _ (List.mem_of_getElem? (i := 11) rfl)
theorem bg162 : Cond.selects RX1 yX1_readAll yX1_readAll ∈ BG := BGi_5 _ (List.mem_of_getElem? (i := 12) rfl)
theorem bg163 : Cond.code yX1_readAll cX1_readAll 2 (some .int) ∈ BG := BGi_5 _ (List.mem_of_getElem? (i := 13) rfl)
theorem bg164 : Cond.fieldLink RX0 37 "TinyMl$Machine" "spent" "I" ∈ BG := BGi_5 _ (List.mem_of_getElem? (i := 14) rfl)
theorem bg165 : Cond.fieldLink RX0 41 "TinyMl$Machine" "cells" "I" ∈ BG := BGi_5 _ (List.mem_of_getElem? (i := 15) rfl)
theorem bg166 : Cond.fieldLink RX0 44 "TinyMl$Machine" "nested" "I" ∈ BG := BGi_5 _ (List.mem_of_getElem? (i := 16) rfl)
theorem bg167 : Cond.methodLink RX6 119 yX0_clear ∈ BG := BGi_5 _ (List.mem_of_getElem? (i := 17) rfl)
theorem bg168 : Cond.instanceMethod yX0_clear ∈ BG := BGi_5 _ (List.mem_of_getElem? (i := 18) rfl)
theorem bg169 : Cond.selects RX0 yX0_clear yX0_clear ∈ BG := BGi_5 _ (List.mem_of_getElem? (i := 19) rfl)
theorem bg170 : Cond.code yX0_clear cX0_clear 1 none ∈ BG := BGi_5 _ (List.mem_of_getElem? (i := 20) rfl)
theorem bg171 : Cond.fieldLink RX6 115 "TinyMl" "done" "Z" ∈ BG := BGi_5 _ (List.mem_of_getElem? (i := 21) rfl)
theorem bg172 : Cond.methodLink RX6 136 yX0_fuelUsed ∈ BG := BGi_5 _ (List.mem_of_getElem? (i := 22) rfl)
theorem bg173 : Cond.instanceMethod yX0_fuelUsed ∈ BG := BGi_5 _ (List.mem_of_getElem? (i := 23) rfl)
theorem bg174 : Cond.selects RX0 yX0_fuelUsed yX0_fuelUsed ∈ BG := BGi_5 _ (List.mem_of_getElem? (i := 24) rfl)
theorem bg175 : Cond.code yX0_fuelUsed cX0_fuelUsed 1 (some .int) ∈ BG := BGi_5 _ (List.mem_of_getElem? (i := 25) rfl)
theorem bg176 : Cond.methodLink RX6 139 yX0_cellsUsed ∈ BG := BGi_5 _ (List.mem_of_getElem? (i := 26) rfl)
theorem bg177 : Cond.instanceMethod yX0_cellsUsed ∈ BG := BGi_5 _ (List.mem_of_getElem? (i := 27) rfl)
theorem bg178 : Cond.selects RX0 yX0_cellsUsed yX0_cellsUsed ∈ BG := BGi_5 _ (List.mem_of_getElem? (i := 28) rfl)
theorem bg179 : Cond.code yX0_cellsUsed cX0_cellsUsed 1 (some .int) ∈ BG := BGi_5 _ (List.mem_of_getElem? (i := 29) rfl)
theorem bg180 : Cond.methodLink RX6 142 yX0_mostNested ∈ BG := BGi_6 _ (List.mem_of_getElem? (i := 0) rfl)
theorem bg181 : Cond.instanceMethod yX0_mostNested ∈ BG := BGi_6 _ (List.mem_of_getElem? (i := 1) rfl)
theorem bg182 : Cond.selects RX0 yX0_mostNested yX0_mostNested ∈ BG := BGi_6 _ (List.mem_of_getElem? (i := 2) rfl)
theorem bg183 : Cond.code yX0_mostNested cX0_mostNested 1 (some .int) ∈ BG := BGi_6 _ (List.mem_of_getElem? (i := 3) rfl)
theorem bg184 : Cond.methodLink RX7 1 objectInit ∈ BG := BGi_6 _ (List.mem_of_getElem? (i := 4) rfl)
theorem bg185 : Cond.fieldLink RX7 7 "TinyMlModel" "tokens" "[I" ∈ BG := BGi_6 _ (List.mem_of_getElem? (i := 5) rfl)
theorem bg186 : Cond.fieldLink RX7 13 "TinyMlModel" "kind" "[I" ∈ BG := BGi_6 _ (List.mem_of_getElem? (i := 6) rfl)
theorem bg187 : Cond.fieldLink RX7 16 "TinyMlModel" "first" "[I" ∈ BG := BGi_6 _ (List.mem_of_getElem? (i := 7) rfl)
theorem bg188 : Cond.fieldLink RX7 19 "TinyMlModel" "second" "[I" ∈ BG := BGi_6 _ (List.mem_of_getElem? (i := 8) rfl)
theorem bg189 : Cond.fieldLink RX7 22 "TinyMlModel" "third" "[I" ∈ BG := BGi_6 _ (List.mem_of_getElem? (i := 9) rfl)
theorem bg190 : Cond.fieldLink RX7 25 "TinyMlModel" "what" "[I" ∈ BG := BGi_6 _ (List.mem_of_getElem? (i := 10) rfl)
theorem bg191 : Cond.fieldLink RX7 28 "TinyMlModel" "other" "[I" ∈ BG := BGi_6 _ (List.mem_of_getElem? (i := 11) rfl)
theorem bg192 : Cond.fieldLink RX7 31 "TinyMlModel" "height" "[I" ∈ BG := BGi_6 _ (List.mem_of_getElem? (i := 12) rfl)
theorem bg193 : Cond.fieldLink RX7 34 "TinyMlModel" "free" "[I" ∈ BG := BGi_6 _ (List.mem_of_getElem? (i := 13) rfl)
theorem bg194 : Cond.fieldLink RX7 37 "TinyMlModel" "order" "[I" ∈ BG := BGi_6 _ (List.mem_of_getElem? (i := 14) rfl)
theorem bg195 : Cond.fieldLink RX7 40 "TinyMlModel" "with" "[I" ∈ BG := BGi_6 _ (List.mem_of_getElem? (i := 15) rfl)
theorem bg196 : Cond.fieldLink RX7 43 "TinyMlModel" "along" "[I" ∈ BG := BGi_6 _ (List.mem_of_getElem? (i := 16) rfl)
theorem bg197 : Cond.fieldLink RX7 46 "TinyMlModel" "deep" "[I" ∈ BG := BGi_6 _ (List.mem_of_getElem? (i := 17) rfl)
theorem bg198 : Cond.fieldLink RX7 49 "TinyMlModel" "made" "[I" ∈ BG := BGi_6 _ (List.mem_of_getElem? (i := 18) rfl)
theorem bg199 : Cond.fieldLink RX7 52 "TinyMlModel" "type" "[I" ∈ BG := BGi_6 _ (List.mem_of_getElem? (i := 19) rfl)
theorem bg200 : Cond.fieldLink RX7 55 "TinyMlModel" "left" "[I" ∈ BG := BGi_6 _ (List.mem_of_getElem? (i := 20) rfl)
theorem bg201 : Cond.fieldLink RX7 58 "TinyMlModel" "right" "[I" ∈ BG := BGi_6 _ (List.mem_of_getElem? (i := 21) rfl)
theorem bg202 : Cond.fieldLink RX7 61 "TinyMlModel" "general" "[Z" ∈ BG := BGi_6 _ (List.mem_of_getElem? (i := 22) rfl)
theorem bg203 : Cond.fieldLink RX7 65 "TinyMlModel" "boundName" "[I" ∈ BG := BGi_6 _ (List.mem_of_getElem? (i := 23) rfl)
theorem bg204 : Cond.fieldLink RX7 68 "TinyMlModel" "boundType" "[I" ∈ BG := BGi_6 _ (List.mem_of_getElem? (i := 24) rfl)
theorem bg205 : Cond.fieldLink RX7 71 "TinyMlModel" "boundGeneral" "[Z" ∈ BG := BGi_6 _ (List.mem_of_getElem? (i := 25) rfl)
theorem bg206 : Cond.fieldLink RX7 74 "TinyMlModel" "pending" "[I" ∈ BG := BGi_6 _ (List.mem_of_getElem? (i := 26) rfl)
theorem bg207 : Cond.fieldLink RX7 77 "TinyMlModel" "copies" "[I" ∈ BG := BGi_6 _ (List.mem_of_getElem? (i := 27) rfl)
theorem bg208 : Cond.fieldLink RX7 80 "TinyMlModel" "copied" "[I" ∈ BG := BGi_6 _ (List.mem_of_getElem? (i := 28) rfl)
theorem bg209 : Cond.fieldLink RX7 83 "TinyMlModel" "tag" "[I" ∈ BG := BGi_6 _ (List.mem_of_getElem? (i := 29) rfl)
theorem bg210 : Cond.fieldLink RX7 86 "TinyMlModel" "number" "[I" ∈ BG := BGi_7 _ (List.mem_of_getElem? (i := 0) rfl)
theorem bg211 : Cond.fieldLink RX7 89 "TinyMlModel" "next" "[I" ∈ BG := BGi_7 _ (List.mem_of_getElem? (i := 1) rfl)
theorem bg212 : Cond.fieldLink RX7 92 "TinyMlModel" "named" "[I" ∈ BG := BGi_7 _ (List.mem_of_getElem? (i := 2) rfl)
theorem bg213 : Cond.fieldLink RX7 95 "TinyMlModel" "cellTag" "[I" ∈ BG := BGi_7 _ (List.mem_of_getElem? (i := 3) rfl)
theorem bg214 : Cond.fieldLink RX7 98 "TinyMlModel" "cellNumber" "[I" ∈ BG := BGi_7 _ (List.mem_of_getElem? (i := 4) rfl)
theorem bg215 : Cond.fieldLink RX7 101 "TinyMlModel" "valueTag" "[I" ∈ BG := BGi_7 _ (List.mem_of_getElem? (i := 5) rfl)
theorem bg216 : Cond.fieldLink RX7 104 "TinyMlModel" "valueNumber" "[I" ∈ BG := BGi_7 _ (List.mem_of_getElem? (i := 6) rfl)
theorem bg217 : Cond.fieldLink RX7 107 "TinyMlModel" "typeWords" "[I" ∈ BG := BGi_7 _ (List.mem_of_getElem? (i := 7) rfl)
theorem bg218 : Cond.fieldLink RX7 110 "TinyMlModel" "outWords" "[I" ∈ BG := BGi_7 _ (List.mem_of_getElem? (i := 8) rfl)
theorem bg219 : Cond.fieldLink RX7 113 "TinyMlModel" "outSize" "I" ∈ BG := BGi_7 _ (List.mem_of_getElem? (i := 9) rfl)
theorem bg220 : Cond.fieldLink RX7 117 "TinyMlModel" "thrown" "I" ∈ BG := BGi_7 _ (List.mem_of_getElem? (i := 10) rfl)
theorem bg221 : Cond.fieldLink RX7 126 "TinyMlModel" "phase" "I" ∈ BG := BGi_7 _ (List.mem_of_getElem? (i := 11) rfl)
theorem bg222 : Cond.methodLink RX7 129 yX7_fails ∈ BG := BGi_7 _ (List.mem_of_getElem? (i := 12) rfl)
theorem bg223 : Cond.instanceMethod yX7_fails ∈ BG := BGi_7 _ (List.mem_of_getElem? (i := 13) rfl)
theorem bg224 : Cond.selects RX7 yX7_fails yX7_fails ∈ BG := BGi_7 _ (List.mem_of_getElem? (i := 14) rfl)
theorem bg225 : Cond.initialized RX7 ∈ BG := BGi_7 _ (List.mem_of_getElem? (i := 15) rfl)
theorem bg226 : Cond.code yX7_fails cX7_fails 2 (some .boolean) ∈ BG := BGi_7 _ (List.mem_of_getElem? (i := 16) rfl)
theorem bg227 : Cond.methodLink RX7 133 yX7_isToken ∈ BG := BGi_7 _ (List.mem_of_getElem? (i := 17) rfl)
theorem bg228 : Cond.static yX7_isToken ∈ BG := BGi_7 _ (List.mem_of_getElem? (i := 18) rfl)
theorem bg229 : Cond.code yX7_isToken cX7_isToken 1 (some .boolean) ∈ BG := BGi_7 _ (List.mem_of_getElem? (i := 19) rfl)
theorem bg230 : Cond.fieldLink RX7 137 "TinyMlModel" "count" "I" ∈ BG := BGi_7 _ (List.mem_of_getElem? (i := 20) rfl)
theorem bg231 : Cond.fieldLink RX7 286 "TinyMlModel" "used" "I" ∈ BG := BGi_7 _ (List.mem_of_getElem? (i := 21) rfl)
theorem bg232 : Cond.fieldLink RX7 289 "TinyMlModel" "cells" "I" ∈ BG := BGi_7 _ (List.mem_of_getElem? (i := 22) rfl)
theorem bg233 : Cond.fieldLink RX7 292 "TinyMlModel" "deepest" "I" ∈ BG := BGi_7 _ (List.mem_of_getElem? (i := 23) rfl)
theorem bg234 : Cond.methodLink RX7 283 yX7_forget ∈ BG := BGi_7 _ (List.mem_of_getElem? (i := 24) rfl)
theorem bg235 : Cond.instanceMethod yX7_forget ∈ BG := BGi_7 _ (List.mem_of_getElem? (i := 25) rfl)
theorem bg236 : Cond.selects RX7 yX7_forget yX7_forget ∈ BG := BGi_7 _ (List.mem_of_getElem? (i := 26) rfl)
theorem bg237 : Cond.code yX7_forget cX7_forget 1 none ∈ BG := BGi_7 _ (List.mem_of_getElem? (i := 27) rfl)
theorem bg238 : Cond.fieldLink RX7 120 "TinyMlModel" "orders" "I" ∈ BG := BGi_7 _ (List.mem_of_getElem? (i := 28) rfl)
theorem bg239 : Cond.fieldLink RX7 140 "TinyMlModel" "at" "I" ∈ BG := BGi_7 _ (List.mem_of_getElem? (i := 29) rfl)
theorem bg240 : Cond.methodLink RX7 143 yX7_isName ∈ BG := BGi_8 _ (List.mem_of_getElem? (i := 0) rfl)
theorem bg241 : Cond.static yX7_isName ∈ BG := BGi_8 _ (List.mem_of_getElem? (i := 1) rfl)
theorem bg242 : Cond.code yX7_isName cX7_isName 1 (some .boolean) ∈ BG := BGi_8 _ (List.mem_of_getElem? (i := 2) rfl)
theorem bg243 : Cond.fieldLink RX7 160 "TinyMlModel" "wrong" "I" ∈ BG := BGi_8 _ (List.mem_of_getElem? (i := 3) rfl)
theorem bg244 : Cond.methodLink RX7 167 yX7_look ∈ BG := BGi_8 _ (List.mem_of_getElem? (i := 4) rfl)
theorem bg245 : Cond.instanceMethod yX7_look ∈ BG := BGi_8 _ (List.mem_of_getElem? (i := 5) rfl)
theorem bg246 : Cond.selects RX7 yX7_look yX7_look ∈ BG := BGi_8 _ (List.mem_of_getElem? (i := 6) rfl)
theorem bg247 : Cond.code yX7_look cX7_look 1 (some .int) ∈ BG := BGi_8 _ (List.mem_of_getElem? (i := 7) rfl)
theorem bg248 : Cond.methodLink RX7 171 yX7_beginsAtom ∈ BG := BGi_8 _ (List.mem_of_getElem? (i := 8) rfl)
theorem bg249 : Cond.static yX7_beginsAtom ∈ BG := BGi_8 _ (List.mem_of_getElem? (i := 9) rfl)
theorem bg250 : Cond.code yX7_beginsAtom cX7_beginsAtom 1 (some .boolean) ∈ BG := BGi_8 _ (List.mem_of_getElem? (i := 10) rfl)
theorem bg251 : Cond.methodLink RX7 174 yX7_refuse ∈ BG := BGi_8 _ (List.mem_of_getElem? (i := 11) rfl)
theorem bg252 : Cond.instanceMethod yX7_refuse ∈ BG := BGi_8 _ (List.mem_of_getElem? (i := 12) rfl)
theorem bg253 : Cond.selects RX7 yX7_refuse yX7_refuse ∈ BG := BGi_8 _ (List.mem_of_getElem? (i := 13) rfl)
theorem bg254 : Cond.code yX7_refuse cX7_refuse 1 (some .boolean) ∈ BG := BGi_8 _ (List.mem_of_getElem? (i := 14) rfl)
theorem bg255 : Cond.methodLink RX7 163 yX7_put ∈ BG := BGi_8 _ (List.mem_of_getElem? (i := 15) rfl)
theorem bg256 : Cond.instanceMethod yX7_put ∈ BG := BGi_8 _ (List.mem_of_getElem? (i := 16) rfl)
theorem bg257 : Cond.selects RX7 yX7_put yX7_put ∈ BG := BGi_8 _ (List.mem_of_getElem? (i := 17) rfl)
theorem bg258 : Cond.code yX7_put cX7_put 5 none ∈ BG := BGi_8 _ (List.mem_of_getElem? (i := 18) rfl)
theorem bg259 : Cond.methodLink RX7 193 yX7_atom ∈ BG := BGi_8 _ (List.mem_of_getElem? (i := 19) rfl)
theorem bg260 : Cond.instanceMethod yX7_atom ∈ BG := BGi_8 _ (List.mem_of_getElem? (i := 20) rfl)
theorem bg261 : Cond.selects RX7 yX7_atom yX7_atom ∈ BG := BGi_8 _ (List.mem_of_getElem? (i := 21) rfl)
theorem bg262 : Cond.code yX7_atom cX7_atom 3 (some .boolean) ∈ BG := BGi_8 _ (List.mem_of_getElem? (i := 22) rfl)
theorem bg263 : Cond.fieldLink RX7 146 "TinyMlModel" "terms" "I" ∈ BG := BGi_8 _ (List.mem_of_getElem? (i := 23) rfl)
theorem bg264 : Cond.fieldLink RX7 123 "TinyMlModel" "mades" "I" ∈ BG := BGi_8 _ (List.mem_of_getElem? (i := 24) rfl)
theorem bg265 : Cond.methodLink RX7 205 yX7_read ∈ BG := BGi_8 _ (List.mem_of_getElem? (i := 25) rfl)
theorem bg266 : Cond.instanceMethod yX7_read ∈ BG := BGi_8 _ (List.mem_of_getElem? (i := 26) rfl)
theorem bg267 : Cond.selects RX7 yX7_read yX7_read ∈ BG := BGi_8 _ (List.mem_of_getElem? (i := 27) rfl)
theorem bg268 : Cond.code yX7_read cX7_read 5 (some .boolean) ∈ BG := BGi_8 _ (List.mem_of_getElem? (i := 28) rfl)
theorem bg269 : Cond.classLink RX6 61 "java/lang/IllegalStateException" ∈ BG := BGi_8 _ (List.mem_of_getElem? (i := 29) rfl)
theorem bg270 : Cond.initialized "java/lang/IllegalStateException" ∈ BG := BGi_9 _ (List.mem_of_getElem? (i := 0) rfl)
theorem bg271 : Cond.classLink RX6 126 "java/util/NoSuchElementException" ∈ BG := BGi_9 _ (List.mem_of_getElem? (i := 1) rfl)
theorem bg272 : Cond.initialized "java/util/NoSuchElementException" ∈ BG := BGi_9 _ (List.mem_of_getElem? (i := 2) rfl)
theorem bg273 : Cond.methodLink RL 19 yX6_infer ∈ BG := BGi_9 _ (List.mem_of_getElem? (i := 3) rfl)
theorem bg274 : Cond.instanceMethod yX6_infer ∈ BG := BGi_9 _ (List.mem_of_getElem? (i := 4) rfl)
theorem bg275 : Cond.selects RX6 yX6_infer yX6_infer ∈ BG := BGi_9 _ (List.mem_of_getElem? (i := 5) rfl)
theorem bg276 : Cond.code yX6_infer cX6_infer 3 (some .int) ∈ BG := BGi_9 _ (List.mem_of_getElem? (i := 6) rfl)
theorem bg277 : Cond.classLink RL 13 "java/lang/IllegalStateException" ∈ BG := BGi_9 _ (List.mem_of_getElem? (i := 7) rfl)
theorem bg278 : Cond.methodLink RL 22 yX6_run ∈ BG := BGi_9 _ (List.mem_of_getElem? (i := 8) rfl)
theorem bg279 : Cond.instanceMethod yX6_run ∈ BG := BGi_9 _ (List.mem_of_getElem? (i := 9) rfl)
theorem bg280 : Cond.selects RX6 yX6_run yX6_run ∈ BG := BGi_9 _ (List.mem_of_getElem? (i := 10) rfl)
theorem bg281 : Cond.code yX6_run cX6_run 3 (some .int) ∈ BG := BGi_9 _ (List.mem_of_getElem? (i := 11) rfl)
theorem bg282 : Cond.methodLink RL 26 yX6_typeAt ∈ BG := BGi_9 _ (List.mem_of_getElem? (i := 12) rfl)
theorem bg283 : Cond.instanceMethod yX6_typeAt ∈ BG := BGi_9 _ (List.mem_of_getElem? (i := 13) rfl)
theorem bg284 : Cond.selects RX6 yX6_typeAt yX6_typeAt ∈ BG := BGi_9 _ (List.mem_of_getElem? (i := 14) rfl)
theorem bg285 : Cond.code yX6_typeAt cX6_typeAt 2 (some .int) ∈ BG := BGi_9 _ (List.mem_of_getElem? (i := 15) rfl)
theorem bg286 : Cond.classLink RL 29 "java/util/NoSuchElementException" ∈ BG := BGi_9 _ (List.mem_of_getElem? (i := 16) rfl)
theorem bg287 : Cond.methodLink RL 31 yX6_outAt ∈ BG := BGi_9 _ (List.mem_of_getElem? (i := 17) rfl)
theorem bg288 : Cond.instanceMethod yX6_outAt ∈ BG := BGi_9 _ (List.mem_of_getElem? (i := 18) rfl)
theorem bg289 : Cond.selects RX6 yX6_outAt yX6_outAt ∈ BG := BGi_9 _ (List.mem_of_getElem? (i := 19) rfl)
theorem bg290 : Cond.code yX6_outAt cX6_outAt 2 (some .int) ∈ BG := BGi_9 _ (List.mem_of_getElem? (i := 20) rfl)
theorem bg291 : Cond.methodLink RL 7 yX6_token ∈ BG := BGi_9 _ (List.mem_of_getElem? (i := 21) rfl)
theorem bg292 : Cond.instanceMethod yX6_token ∈ BG := BGi_9 _ (List.mem_of_getElem? (i := 22) rfl)
theorem bg293 : Cond.selects RX6 yX6_token yX6_token ∈ BG := BGi_9 _ (List.mem_of_getElem? (i := 23) rfl)
theorem bg294 : Cond.code yX6_token cX6_token 2 (some .boolean) ∈ BG := BGi_9 _ (List.mem_of_getElem? (i := 24) rfl)
theorem bg295 : Cond.methodLink RL 15 yX6_parse ∈ BG := BGi_9 _ (List.mem_of_getElem? (i := 25) rfl)
theorem bg296 : Cond.instanceMethod yX6_parse ∈ BG := BGi_9 _ (List.mem_of_getElem? (i := 26) rfl)
theorem bg297 : Cond.selects RX6 yX6_parse yX6_parse ∈ BG := BGi_9 _ (List.mem_of_getElem? (i := 27) rfl)
theorem bg298 : Cond.code yX6_parse cX6_parse 2 (some .int) ∈ BG := BGi_9 _ (List.mem_of_getElem? (i := 28) rfl)
theorem bg299 : Cond.methodLink RL 34 yX6_init ∈ BG := BGi_9 _ (List.mem_of_getElem? (i := 29) rfl)
theorem bg300 : Cond.instanceMethod yX6_init ∈ BG := BGi_10 _ (List.mem_of_getElem? (i := 0) rfl)
theorem bg301 : Cond.code yX6_init cX6_init 1 none ∈ BG := BGi_10 _ (List.mem_of_getElem? (i := 1) rfl)
theorem bg302 : Cond.methodLink RL 37 yX7_init ∈ BG := BGi_10 _ (List.mem_of_getElem? (i := 2) rfl)
theorem bg303 : Cond.instanceMethod yX7_init ∈ BG := BGi_10 _ (List.mem_of_getElem? (i := 3) rfl)
theorem bg304 : Cond.code yX7_init cX7_init 1 none ∈ BG := BGi_10 _ (List.mem_of_getElem? (i := 4) rfl)
theorem bg305 : Cond.methodLink RL 38 yL_token ∈ BG := BGi_10 _ (List.mem_of_getElem? (i := 5) rfl)
theorem bg306 : Cond.static yL_token ∈ BG := BGi_10 _ (List.mem_of_getElem? (i := 6) rfl)
theorem bg307 : Cond.codeWith yL_token cL_token 4 (some .int) [(0, 16, 19, 13)] ∈ BG := BGi_10 _ (List.mem_of_getElem? (i := 7) rfl)
theorem bg308 : Cond.methodLink RL 43 yX7_token ∈ BG := BGi_10 _ (List.mem_of_getElem? (i := 8) rfl)
theorem bg309 : Cond.instanceMethod yX7_token ∈ BG := BGi_10 _ (List.mem_of_getElem? (i := 9) rfl)
theorem bg310 : Cond.selects RX7 yX7_token yX7_token ∈ BG := BGi_10 _ (List.mem_of_getElem? (i := 10) rfl)
theorem bg311 : Cond.code yX7_token cX7_token 2 (some .boolean) ∈ BG := BGi_10 _ (List.mem_of_getElem? (i := 11) rfl)
theorem bg312 : Cond.methodLink RL 44 yX7_thrown ∈ BG := BGi_10 _ (List.mem_of_getElem? (i := 12) rfl)
theorem bg313 : Cond.instanceMethod yX7_thrown ∈ BG := BGi_10 _ (List.mem_of_getElem? (i := 13) rfl)
theorem bg314 : Cond.selects RX7 yX7_thrown yX7_thrown ∈ BG := BGi_10 _ (List.mem_of_getElem? (i := 14) rfl)
theorem bg315 : Cond.code yX7_thrown cX7_thrown 1 (some .int) ∈ BG := BGi_10 _ (List.mem_of_getElem? (i := 15) rfl)
theorem bg316 : Cond.methodLink RL 47 yL_parse ∈ BG := BGi_10 _ (List.mem_of_getElem? (i := 16) rfl)
theorem bg317 : Cond.static yL_parse ∈ BG := BGi_10 _ (List.mem_of_getElem? (i := 17) rfl)
theorem bg318 : Cond.codeWith yL_parse cL_parse 3 (some .int) [(0, 8, 11, 13)] ∈ BG := BGi_10 _ (List.mem_of_getElem? (i := 18) rfl)
theorem bg319 : Cond.methodLink RL 50 yX7_parse ∈ BG := BGi_10 _ (List.mem_of_getElem? (i := 19) rfl)
theorem bg320 : Cond.instanceMethod yX7_parse ∈ BG := BGi_10 _ (List.mem_of_getElem? (i := 20) rfl)
theorem bg321 : Cond.selects RX7 yX7_parse yX7_parse ∈ BG := BGi_10 _ (List.mem_of_getElem? (i := 21) rfl)
theorem bg322 : Cond.code yX7_parse cX7_parse 1 (some .int) ∈ BG := BGi_10 _ (List.mem_of_getElem? (i := 22) rfl)
theorem bg323 : Cond.methodLink RL 51 yL_infer ∈ BG := BGi_10 _ (List.mem_of_getElem? (i := 23) rfl)
theorem bg324 : Cond.static yL_infer ∈ BG := BGi_10 _ (List.mem_of_getElem? (i := 24) rfl)
theorem bg325 : Cond.codeWith yL_infer cL_infer 3 (some .int) [(0, 8, 11, 13)] ∈ BG := BGi_10 _ (List.mem_of_getElem? (i := 25) rfl)
theorem bg326 : Cond.methodLink RL 53 yX7_infer ∈ BG := BGi_10 _ (List.mem_of_getElem? (i := 26) rfl)
theorem bg327 : Cond.instanceMethod yX7_infer ∈ BG := BGi_10 _ (List.mem_of_getElem? (i := 27) rfl)
theorem bg328 : Cond.selects RX7 yX7_infer yX7_infer ∈ BG := BGi_10 _ (List.mem_of_getElem? (i := 28) rfl)
theorem bg329 : Cond.code yX7_infer cX7_infer 2 (some .int) ∈ BG := BGi_10 _ (List.mem_of_getElem? (i := 29) rfl)
theorem bg330 : Cond.methodLink RL 54 yL_run ∈ BG := BGi_11 _ (List.mem_of_getElem? (i := 0) rfl)
theorem bg331 : Cond.static yL_run ∈ BG := BGi_11 _ (List.mem_of_getElem? (i := 1) rfl)
theorem bg332 : Cond.codeWith yL_run cL_run 4 (some .int) [(0, 9, 12, 13)] ∈ BG := BGi_11 _ (List.mem_of_getElem? (i := 2) rfl)
theorem bg333 : Cond.methodLink RL 56 yX7_run ∈ BG := BGi_11 _ (List.mem_of_getElem? (i := 3) rfl)
theorem bg334 : Cond.instanceMethod yX7_run ∈ BG := BGi_11 _ (List.mem_of_getElem? (i := 4) rfl)
theorem bg335 : Cond.selects RX7 yX7_run yX7_run ∈ BG := BGi_11 _ (List.mem_of_getElem? (i := 5) rfl)
theorem bg336 : Cond.code yX7_run cX7_run 2 (some .int) ∈ BG := BGi_11 _ (List.mem_of_getElem? (i := 6) rfl)
theorem bg337 : Cond.methodLink RL 57 yX6_reset ∈ BG := BGi_11 _ (List.mem_of_getElem? (i := 7) rfl)
theorem bg338 : Cond.instanceMethod yX6_reset ∈ BG := BGi_11 _ (List.mem_of_getElem? (i := 8) rfl)
theorem bg339 : Cond.selects RX6 yX6_reset yX6_reset ∈ BG := BGi_11 _ (List.mem_of_getElem? (i := 9) rfl)
theorem bg340 : Cond.code yX6_reset cX6_reset 1 none ∈ BG := BGi_11 _ (List.mem_of_getElem? (i := 10) rfl)
theorem bg341 : Cond.methodLink RL 60 yX7_reset ∈ BG := BGi_11 _ (List.mem_of_getElem? (i := 11) rfl)
theorem bg342 : Cond.instanceMethod yX7_reset ∈ BG := BGi_11 _ (List.mem_of_getElem? (i := 12) rfl)
theorem bg343 : Cond.selects RX7 yX7_reset yX7_reset ∈ BG := BGi_11 _ (List.mem_of_getElem? (i := 13) rfl)
theorem bg344 : Cond.code yX7_reset cX7_reset 1 none ∈ BG := BGi_11 _ (List.mem_of_getElem? (i := 14) rfl)
theorem bg345 : Cond.methodLink RL 61 yX6_phase ∈ BG := BGi_11 _ (List.mem_of_getElem? (i := 15) rfl)
theorem bg346 : Cond.instanceMethod yX6_phase ∈ BG := BGi_11 _ (List.mem_of_getElem? (i := 16) rfl)
theorem bg347 : Cond.selects RX6 yX6_phase yX6_phase ∈ BG := BGi_11 _ (List.mem_of_getElem? (i := 17) rfl)
theorem bg348 : Cond.code yX6_phase cX6_phase 1 (some .int) ∈ BG := BGi_11 _ (List.mem_of_getElem? (i := 18) rfl)
theorem bg349 : Cond.methodLink RL 64 yX7_phase ∈ BG := BGi_11 _ (List.mem_of_getElem? (i := 19) rfl)
theorem bg350 : Cond.instanceMethod yX7_phase ∈ BG := BGi_11 _ (List.mem_of_getElem? (i := 20) rfl)
theorem bg351 : Cond.selects RX7 yX7_phase yX7_phase ∈ BG := BGi_11 _ (List.mem_of_getElem? (i := 21) rfl)
theorem bg352 : Cond.code yX7_phase cX7_phase 1 (some .int) ∈ BG := BGi_11 _ (List.mem_of_getElem? (i := 22) rfl)
theorem bg353 : Cond.methodLink RL 65 yX6_typeSize ∈ BG := BGi_11 _ (List.mem_of_getElem? (i := 23) rfl)
theorem bg354 : Cond.instanceMethod yX6_typeSize ∈ BG := BGi_11 _ (List.mem_of_getElem? (i := 24) rfl)
theorem bg355 : Cond.selects RX6 yX6_typeSize yX6_typeSize ∈ BG := BGi_11 _ (List.mem_of_getElem? (i := 25) rfl)
theorem bg356 : Cond.code yX6_typeSize cX6_typeSize 1 (some .int) ∈ BG := BGi_11 _ (List.mem_of_getElem? (i := 26) rfl)
theorem bg357 : Cond.methodLink RL 68 yX7_typeSize ∈ BG := BGi_11 _ (List.mem_of_getElem? (i := 27) rfl)
theorem bg358 : Cond.instanceMethod yX7_typeSize ∈ BG := BGi_11 _ (List.mem_of_getElem? (i := 28) rfl)
theorem bg359 : Cond.selects RX7 yX7_typeSize yX7_typeSize ∈ BG := BGi_11 _ (List.mem_of_getElem? (i := 29) rfl)
theorem bg360 : Cond.code yX7_typeSize cX7_typeSize 1 (some .int) ∈ BG := BGi_12 _ (List.mem_of_getElem? (i := 0) rfl)
theorem bg361 : Cond.methodLink RL 69 yL_typeAt ∈ BG := BGi_12 _ (List.mem_of_getElem? (i := 1) rfl)
theorem bg362 : Cond.static yL_typeAt ∈ BG := BGi_12 _ (List.mem_of_getElem? (i := 2) rfl)
theorem bg363 : Cond.codeWith yL_typeAt cL_typeAt 4 (some .int) [(0, 9, 12, 29)] ∈ BG := BGi_12 _ (List.mem_of_getElem? (i := 3) rfl)
theorem bg364 : Cond.methodLink RL 71 yX7_typeAt ∈ BG := BGi_12 _ (List.mem_of_getElem? (i := 4) rfl)
theorem bg365 : Cond.instanceMethod yX7_typeAt ∈ BG := BGi_12 _ (List.mem_of_getElem? (i := 5) rfl)
theorem bg366 : Cond.selects RX7 yX7_typeAt yX7_typeAt ∈ BG := BGi_12 _ (List.mem_of_getElem? (i := 6) rfl)
theorem bg367 : Cond.code yX7_typeAt cX7_typeAt 2 (some .int) ∈ BG := BGi_12 _ (List.mem_of_getElem? (i := 7) rfl)
theorem bg368 : Cond.methodLink RL 72 yX6_outSize ∈ BG := BGi_12 _ (List.mem_of_getElem? (i := 8) rfl)
theorem bg369 : Cond.instanceMethod yX6_outSize ∈ BG := BGi_12 _ (List.mem_of_getElem? (i := 9) rfl)
theorem bg370 : Cond.selects RX6 yX6_outSize yX6_outSize ∈ BG := BGi_12 _ (List.mem_of_getElem? (i := 10) rfl)
theorem bg371 : Cond.code yX6_outSize cX6_outSize 1 (some .int) ∈ BG := BGi_12 _ (List.mem_of_getElem? (i := 11) rfl)
theorem bg372 : Cond.methodLink RL 75 yX7_outSize ∈ BG := BGi_12 _ (List.mem_of_getElem? (i := 12) rfl)
theorem bg373 : Cond.instanceMethod yX7_outSize ∈ BG := BGi_12 _ (List.mem_of_getElem? (i := 13) rfl)
theorem bg374 : Cond.selects RX7 yX7_outSize yX7_outSize ∈ BG := BGi_12 _ (List.mem_of_getElem? (i := 14) rfl)
theorem bg375 : Cond.code yX7_outSize cX7_outSize 1 (some .int) ∈ BG := BGi_12 _ (List.mem_of_getElem? (i := 15) rfl)
theorem bg376 : Cond.methodLink RL 76 yL_outAt ∈ BG := BGi_12 _ (List.mem_of_getElem? (i := 16) rfl)
theorem bg377 : Cond.static yL_outAt ∈ BG := BGi_12 _ (List.mem_of_getElem? (i := 17) rfl)
theorem bg378 : Cond.codeWith yL_outAt cL_outAt 4 (some .int) [(0, 9, 12, 29)] ∈ BG := BGi_12 _ (List.mem_of_getElem? (i := 18) rfl)
theorem bg379 : Cond.methodLink RL 78 yX7_outAt ∈ BG := BGi_12 _ (List.mem_of_getElem? (i := 19) rfl)
theorem bg380 : Cond.instanceMethod yX7_outAt ∈ BG := BGi_12 _ (List.mem_of_getElem? (i := 20) rfl)
theorem bg381 : Cond.selects RX7 yX7_outAt yX7_outAt ∈ BG := BGi_12 _ (List.mem_of_getElem? (i := 21) rfl)
theorem bg382 : Cond.code yX7_outAt cX7_outAt 2 (some .int) ∈ BG := BGi_12 _ (List.mem_of_getElem? (i := 22) rfl)
theorem bg383 : Cond.methodLink RL 79 yX6_used ∈ BG := BGi_12 _ (List.mem_of_getElem? (i := 23) rfl)
theorem bg384 : Cond.instanceMethod yX6_used ∈ BG := BGi_12 _ (List.mem_of_getElem? (i := 24) rfl)
theorem bg385 : Cond.selects RX6 yX6_used yX6_used ∈ BG := BGi_12 _ (List.mem_of_getElem? (i := 25) rfl)
theorem bg386 : Cond.code yX6_used cX6_used 2 (some .int) ∈ BG := BGi_12 _ (List.mem_of_getElem? (i := 26) rfl)
theorem bg387 : Cond.methodLink RL 82 yX7_used ∈ BG := BGi_12 _ (List.mem_of_getElem? (i := 27) rfl)
theorem bg388 : Cond.instanceMethod yX7_used ∈ BG := BGi_12 _ (List.mem_of_getElem? (i := 28) rfl)
theorem bg389 : Cond.selects RX7 yX7_used yX7_used ∈ BG := BGi_12 _ (List.mem_of_getElem? (i := 29) rfl)
theorem bg390 : Cond.code yX7_used cX7_used 2 (some .int) ∈ BG := BGi_13 _ (List.mem_of_getElem? (i := 0) rfl)
theorem bg391 : Cond.classLink RL 8 RX6 ∈ BG := BGi_13 _ (List.mem_of_getElem? (i := 1) rfl)
theorem bg392 : Cond.classLink RL 35 RX7 ∈ BG := BGi_13 _ (List.mem_of_getElem? (i := 2) rfl)
theorem bg393 : Cond.instantiable RX6 10 ∈ BG := BGi_13 _ (List.mem_of_getElem? (i := 3) rfl)
theorem bg394 : Cond.instantiable RX7 55 ∈ BG := BGi_13 _ (List.mem_of_getElem? (i := 4) rfl)
theorem bg395 : Cond.initialized RL ∈ BG := BGi_13 _ (List.mem_of_getElem? (i := 5) rfl)
theorem bg396 : Cond.arrayClass .long ∈ BG := BGi_13 _ (List.mem_of_getElem? (i := 6) rfl)
theorem BG_tb : ∀ w ∈ BG, w ∈ lw_tbl := fun w h => (BG_good w h).1
theorem bgA {ws : List Cond} (h : ∀ w ∈ ws, w ∈ BG) : GoodIn BG ws := fun w hw => ⟨h w hw, (BG_good w (h w hw)).2⟩
theorem bgI {w : Cond} (h : w ∈ BG) : GoodIn BG (w :: BG) := bgA (fun v hv => by
  rcases List.mem_cons.mp hv with e | e
  · rw [e]; exact h
  · exact e)
theorem bgV {own C : String} {idx : Nat} {y : MethodName} {w : Cond} (h1 : Cond.methodLink own idx y ∈ BG) (h2 : Cond.instanceMethod y ∈ BG) (h3 : Cond.selects C y y ∈ BG) (h4 : Cond.initialized C ∈ BG) (h5 : w ∈ BG) : GoodIn BG (wsV own idx C y (w :: BG)) := bgA (fun v hv => by
  unfold wsV at hv
  rcases List.mem_append.mp hv with e | e
  · simp only [List.mem_cons, List.not_mem_nil, or_false] at e
    rcases e with rfl | rfl | rfl | rfl
    · exact h1
    · exact h2
    · exact h3
    · exact h4
  · exact (bgI h5 v e).1)
theorem bgS {own : String} {idx : Nat} {y : MethodName} {w : Cond} (h1 : Cond.methodLink own idx y ∈ BG) (h2 : Cond.static y ∈ BG) (h4 : Cond.initialized own ∈ BG) (h5 : w ∈ BG) : GoodIn BG (wsS own idx y (w :: BG)) := bgA (fun v hv => by
  unfold wsS at hv
  rcases List.mem_append.mp hv with e | e
  · simp only [List.mem_cons, List.not_mem_nil, or_false] at e
    rcases e with rfl | rfl | rfl
    · exact h1
    · exact h2
    · exact h4
  · exact (bgI h5 v e).1)
theorem bgW {own : String} {idx : Nat} {y : MethodName} {w : Cond} (h1 : Cond.methodLink own idx y ∈ BG) (h2 : Cond.static y ∈ BG) (h4 : Cond.initialized y.cls ∈ BG) (h5 : w ∈ BG) : GoodIn BG (va_wsS own idx y (w :: BG)) := bgA (fun v hv => by
  unfold va_wsS at hv
  rcases List.mem_append.mp hv with e | e
  · simp only [List.mem_cons, List.not_mem_nil, or_false] at e
    rcases e with rfl | rfl | rfl
    · exact h1
    · exact h2
    · exact h4
  · exact (bgI h5 v e).1)
/-- the cells of the class's own object and of the reference's -/
abbrev CO (rf : Nat → Nat) (tc ph dn : Int32) : List Value := [.ref (rf 0), .ref (rf 1), .ref (rf 2), .ref (rf 3), .ref (rf 4), .ref (rf 5), .ref (rf 6), .int tc, .int ph, .int dn]
def tk (t : Int32) : Prop := (0 ≤ t.toInt ∧ t.toInt < 30) ∨ 100 ≤ t.toInt
theorem i32_0 : (0 : Int32).toInt = 0 := by decide
theorem i32_29 : (29 : Int32).toInt = 29 := by decide
theorem i32_30 : (30 : Int32).toInt = 30 := by decide
theorem i32_100 : (100 : Int32).toInt = 100 := by decide
theorem i32_1 : (1 : Int32).toInt = 1 := by decide
theorem i32_2 : (2 : Int32).toInt = 2 := by decide
theorem i32_m1 : (-1 : Int32).toInt = -1 := by decide
abbrev NEST : Cond := .methodLinkNest RX1 109 yX6_isName RX6
abbrev MO (rf : Nat → Nat) (th cnt ords at_ wr : Int32) : List Value := [.int th, .int 0, .ref (rf 2), .int cnt, .ref (rf 4), .ref (rf 5), .ref (rf 6), .ref (rf 7), .ref (rf 8), .ref (rf 9), .ref (rf 10), .ref (rf 11), .int 0, .int 0, .ref (rf 14), .ref (rf 15), .ref (rf 16), .ref (rf 17), .int ords, .ref (rf 19), .int 0, .int at_, .int wr, .ref (rf 23), .ref (rf 24), .ref (rf 25), .ref (rf 26), .int 0, .ref (rf 28), .ref (rf 29), .ref (rf 30), .int 0, .ref (rf 32), .ref (rf 33), .ref (rf 34), .int 0, .ref (rf 36), .ref (rf 37), .ref (rf 38), .ref (rf 39), .int 0, .ref (rf 41), .ref (rf 42), .int 0, .ref (rf 44), .ref (rf 45), .int 0, .int 0, .int 0, .int 0, .int 0, .ref (rf 51), .int 0, .ref (rf 53), .int (-1)]
