theorem goodIn_r {big : List Cond} (ws : List Cond) (ps : List Nat) (hp : ws = ps.filterMap (fun i => big[i]?)) (h : ws.all goodWord = true) : GoodIn big ws := by
  intro w hw
  have h1 := List.all_eq_true.mp h w hw
  rw [hp] at hw
  obtain ⟨i, -, hi⟩ := List.mem_filterMap.mp hw
  have hm : w ∈ big := by first | exact List.mem_of_getElem? hi | exact List.getElem?_mem hi
  exact ⟨hm, good_of_word h1⟩
theorem goodIn_app {big a b : List Cond} (ha : GoodIn big a) (hb : GoodIn big b) : GoodIn big (a ++ b) := fun w h => (List.mem_append.mp h).elim (ha w) (hb w)
theorem goodIn_ca {big a b : List Cond} {c : Cond} (ha : GoodIn big (c :: a)) (hb : GoodIn big b) : GoodIn big (c :: (a ++ b)) := fun w h => (List.mem_cons.mp h).elim (fun e => ha w (List.mem_cons.mpr (Or.inl e))) (fun h => (List.mem_append.mp h).elim (fun h => ha w (List.mem_cons.mpr (Or.inr h))) (hb w))
theorem goodIn_sub {big ws : List Cond} (hm : ∀ w ∈ ws, w ∈ big) (h : ws.all goodWord = true) : GoodIn big ws := fun w hw => ⟨hm w hw, good_of_word (List.all_eq_true.mp h w hw)⟩
def RX0 : String := "CodePress$Builder"
def TX0 : u_T := fun k => match k with
  | 0 => ("CodePress$Builder", "code", "LCodePress$Code;", true)
  | 1 => ("CodePress$Builder", "nodes", "LCodePress$Nodes;", true)
  | 2 => ("CodePress$Builder", "store", "LCodePress$Store;", true)
  | 3 => ("CodePress$Builder", "parts", "I", false)
  | _ => ("CodePress$Builder", "full", "Z", false)
def tyX0 : Nat → FieldType := fun k => match k with
  | 0 => .object "CodePress$Code"
  | 1 => .object "CodePress$Nodes"
  | 2 => .object "CodePress$Store"
  | 3 => .int
  | _ => .boolean
abbrev wsX00 : List Cond := u_ws RX0 TX0 5
theorem nmX0 : ∀ a, a < 5 → ∀ b, b < 5 → a ≠ b → (TX0 a).2.1 ≠ (TX0 b).2.1 := by decide +kernel
theorem tyX0_ok : ∀ k, k < 5 → parseFieldDescriptor (TX0 k).2.2.1 = some (tyX0 k) := by decide +kernel
abbrev cX0_init : ByteArray := prog_2_method_1_code
def yX0_init : MethodName := ⟨RX0, "<init>", "(LCodePress$Code;LCodePress$Nodes;LCodePress$Store;)V"⟩
def RX1 : String := "CodePress$Code"
def TX1 : u_T := fun k => match k with
  | 0 => ("CodePress$Code", "op", "[I", true)
  | 1 => ("CodePress$Code", "a", "[I", true)
  | 2 => ("CodePress$Code", "b", "[I", true)
  | 3 => ("CodePress$Code", "id", "[I", true)
  | 4 => ("CodePress$Code", "at", "[I", true)
  | 5 => ("CodePress$Code", "begins", "[I", true)
  | 6 => ("CodePress$Code", "name", "[J", true)
  | 7 => ("CodePress$Code", "defs", "[I", true)
  | 8 => ("CodePress$Code", "defCount", "[I", true)
  | 9 => ("CodePress$Code", "used", "I", false)
  | 10 => ("CodePress$Code", "limit", "I", false)
  | _ => ("CodePress$Code", "known", "I", false)
def tyX1 : Nat → FieldType := fun k => match k with
  | 0 => .array .int
  | 1 => .array .int
  | 2 => .array .int
  | 3 => .array .int
  | 4 => .array .int
  | 5 => .array .int
  | 6 => .array .long
  | 7 => .array .int
  | 8 => .array .int
  | 9 => .int
  | 10 => .int
  | _ => .int
abbrev wsX10 : List Cond := u_ws RX1 TX1 12
theorem nmX1 : ∀ a, a < 12 → ∀ b, b < 12 → a ≠ b → (TX1 a).2.1 ≠ (TX1 b).2.1 := by decide +kernel
theorem tyX1_ok : ∀ k, k < 12 → parseFieldDescriptor (TX1 k).2.2.1 = some (tyX1 k) := by decide +kernel
abbrev cX1_init : ByteArray := prog_3_method_1_code
def yX1_init : MethodName := ⟨RX1, "<init>", "()V"⟩
abbrev cX1_startHalf : ByteArray := prog_3_method_2_code
def yX1_startHalf : MethodName := ⟨RX1, "startHalf", "(I)V"⟩
abbrev cX1_startDefs : ByteArray := prog_3_method_4_code
def yX1_startDefs : MethodName := ⟨RX1, "startDefs", "(I)V"⟩
abbrev cX1_emit : ByteArray := prog_3_method_8_code
def yX1_emit : MethodName := ⟨RX1, "emit", "(II)I"⟩
def RX2 : String := "CodePress$Lexer"
def TX2 : u_T := fun k => match k with
  | 0 => ("CodePress$Lexer", "text", "[B", true)
  | 1 => ("CodePress$Lexer", "words", "[J", true)
  | 2 => ("CodePress$Lexer", "kinds", "[I", true)
  | 3 => ("CodePress$Lexer", "places", "[I", true)
  | 4 => ("CodePress$Lexer", "numbers", "[I", true)
  | 5 => ("CodePress$Lexer", "names", "[J", true)
  | 6 => ("CodePress$Lexer", "size", "I", false)
  | 7 => ("CodePress$Lexer", "pos", "I", false)
  | 8 => ("CodePress$Lexer", "kind", "I", false)
  | 9 => ("CodePress$Lexer", "at", "I", false)
  | 10 => ("CodePress$Lexer", "number", "I", false)
  | _ => ("CodePress$Lexer", "name", "J", false)
def tyX2 : Nat → FieldType := fun k => match k with
  | 0 => .array .byte
  | 1 => .array .long
  | 2 => .array .int
  | 3 => .array .int
  | 4 => .array .int
  | 5 => .array .long
  | 6 => .int
  | 7 => .int
  | 8 => .int
  | 9 => .int
  | 10 => .int
  | _ => .long
abbrev wsX20 : List Cond := u_ws RX2 TX2 12
theorem nmX2 : ∀ a, a < 12 → ∀ b, b < 12 → a ≠ b → (TX2 a).2.1 ≠ (TX2 b).2.1 := by decide +kernel
theorem tyX2_ok : ∀ k, k < 12 → parseFieldDescriptor (TX2 k).2.2.1 = some (tyX2 k) := by decide +kernel
abbrev cX2_init : ByteArray := prog_4_method_1_code
def yX2_init : MethodName := ⟨RX2, "<init>", "([B)V"⟩
abbrev cX2_read : ByteArray := prog_4_method_2_code
def yX2_read : MethodName := ⟨RX2, "read", "(I)V"⟩
abbrev cX2_next : ByteArray := prog_4_method_3_code
def yX2_next : MethodName := ⟨RX2, "next", "()V"⟩
def RX3 : String := "CodePress$Machine"
def TX3 : u_T := fun k => match k with
  | 0 => ("CodePress$Machine", "code", "LCodePress$Code;", true)
  | 1 => ("CodePress$Machine", "store", "LCodePress$Store;", true)
  | 2 => ("CodePress$Machine", "builder", "LCodePress$Builder;", true)
  | 3 => ("CodePress$Machine", "backTo", "[I", true)
  | 4 => ("CodePress$Machine", "backChain", "[I", true)
  | 5 => ("CodePress$Machine", "begun", "I", false)
  | 6 => ("CodePress$Machine", "deepest", "I", false)
  | 7 => ("CodePress$Machine", "steps", "I", false)
  | 8 => ("CodePress$Machine", "allowed", "I", false)
  | 9 => ("CodePress$Machine", "erased", "Z", false)
  | 10 => ("CodePress$Machine", "going", "Z", false)
  | 11 => ("CodePress$Machine", "end", "I", false)
  | _ => ("CodePress$Machine", "pc", "I", false)
def tyX3 : Nat → FieldType := fun k => match k with
  | 0 => .object "CodePress$Code"
  | 1 => .object "CodePress$Store"
  | 2 => .object "CodePress$Builder"
  | 3 => .array .int
  | 4 => .array .int
  | 5 => .int
  | 6 => .int
  | 7 => .int
  | 8 => .int
  | 9 => .boolean
  | 10 => .boolean
  | 11 => .int
  | _ => .int
abbrev wsX30 : List Cond := u_ws RX3 TX3 13
theorem nmX3 : ∀ a, a < 13 → ∀ b, b < 13 → a ≠ b → (TX3 a).2.1 ≠ (TX3 b).2.1 := by decide +kernel
theorem tyX3_ok : ∀ k, k < 13 → parseFieldDescriptor (TX3 k).2.2.1 = some (tyX3 k) := by decide +kernel
abbrev cX3_init : ByteArray := prog_5_method_1_code
def yX3_init : MethodName := ⟨RX3, "<init>", "(LCodePress$Code;LCodePress$Store;LCodePress$Builder;)V"⟩
def RX4 : String := "CodePress$Nodes"
def TX4 : u_T := fun k => match k with
  | 0 => ("CodePress$Nodes", "kind", "[I", true)
  | 1 => ("CodePress$Nodes", "what", "[I", true)
  | 2 => ("CodePress$Nodes", "more", "[I", true)
  | 3 => ("CodePress$Nodes", "first", "[I", true)
  | 4 => ("CodePress$Nodes", "second", "[I", true)
  | 5 => ("CodePress$Nodes", "third", "[I", true)
  | 6 => ("CodePress$Nodes", "size", "[I", true)
  | 7 => ("CodePress$Nodes", "height", "[I", true)
  | 8 => ("CodePress$Nodes", "kept", "[I", true)
  | 9 => ("CodePress$Nodes", "number", "[I", true)
  | 10 => ("CodePress$Nodes", "used", "I", false)
  | 11 => ("CodePress$Nodes", "keptUsed", "I", false)
  | _ => ("CodePress$Nodes", "names", "I", false)
def tyX4 : Nat → FieldType := fun k => match k with
  | 0 => .array .int
  | 1 => .array .int
  | 2 => .array .int
  | 3 => .array .int
  | 4 => .array .int
  | 5 => .array .int
  | 6 => .array .int
  | 7 => .array .int
  | 8 => .array .int
  | 9 => .array .int
  | 10 => .int
  | 11 => .int
  | _ => .int
abbrev wsX40 : List Cond := u_ws RX4 TX4 13
theorem nmX4 : ∀ a, a < 13 → ∀ b, b < 13 → a ≠ b → (TX4 a).2.1 ≠ (TX4 b).2.1 := by decide +kernel
theorem tyX4_ok : ∀ k, k < 13 → parseFieldDescriptor (TX4 k).2.2.1 = some (tyX4 k) := by decide +kernel
abbrev cX4_init : ByteArray := prog_6_method_1_code
def yX4_init : MethodName := ⟨RX4, "<init>", "()V"⟩
def RX5 : String := "CodePress$Parser"
def TX5 : u_T := fun k => match k with
  | 0 => ("CodePress$Parser", "lexer", "LCodePress$Lexer;", true)
  | 1 => ("CodePress$Parser", "code", "LCodePress$Code;", true)
  | 2 => ("CodePress$Parser", "types", "LCodePress$Types;", true)
  | 3 => ("CodePress$Parser", "tokens", "I", false)
  | 4 => ("CodePress$Parser", "kind", "I", false)
  | 5 => ("CodePress$Parser", "at", "I", false)
  | 6 => ("CodePress$Parser", "open", "I", false)
  | 7 => ("CodePress$Parser", "fault", "I", false)
  | 8 => ("CodePress$Parser", "place", "I", false)
  | 9 => ("CodePress$Parser", "name", "J", false)
  | _ => ("CodePress$Parser", "nameAt", "I", false)
def tyX5 : Nat → FieldType := fun k => match k with
  | 0 => .object "CodePress$Lexer"
  | 1 => .object "CodePress$Code"
  | 2 => .object "CodePress$Types"
  | 3 => .int
  | 4 => .int
  | 5 => .int
  | 6 => .int
  | 7 => .int
  | 8 => .int
  | 9 => .long
  | _ => .int
abbrev wsX50 : List Cond := u_ws RX5 TX5 11
theorem nmX5 : ∀ a, a < 11 → ∀ b, b < 11 → a ≠ b → (TX5 a).2.1 ≠ (TX5 b).2.1 := by decide +kernel
theorem tyX5_ok : ∀ k, k < 11 → parseFieldDescriptor (TX5 k).2.2.1 = some (tyX5 k) := by decide +kernel
abbrev cX5_init : ByteArray := prog_7_method_1_code
def yX5_init : MethodName := ⟨RX5, "<init>", "(LCodePress$Lexer;LCodePress$Code;LCodePress$Types;)V"⟩
abbrev cX5_readProgram : ByteArray := prog_7_method_2_code
def yX5_readProgram : MethodName := ⟨RX5, "readProgram", "(I)V"⟩
abbrev cX5_readQuestion : ByteArray := prog_7_method_3_code
def yX5_readQuestion : MethodName := ⟨RX5, "readQuestion", "(I)V"⟩
abbrev cX5_start : ByteArray := prog_7_method_4_code
def yX5_start : MethodName := ⟨RX5, "start", "(I)V"⟩
abbrev cX5_fail : ByteArray := prog_7_method_5_code
def yX5_fail : MethodName := ⟨RX5, "fail", "(I)V"⟩
abbrev cX5_readE : ByteArray := prog_7_method_18_code
def yX5_readE : MethodName := ⟨RX5, "readE", "()V"⟩
abbrev cX5_readC : ByteArray := prog_7_method_25_code
def yX5_readC : MethodName := ⟨RX5, "readC", "()V"⟩
abbrev cX5_joinSign : ByteArray := prog_7_method_26_code
def yX5_joinSign : MethodName := ⟨RX5, "joinSign", "(III)V"⟩
abbrev cX5_readA : ByteArray := prog_7_method_27_code
def yX5_readA : MethodName := ⟨RX5, "readA", "()V"⟩
abbrev cX5_beginsU : ByteArray := prog_7_method_28_code
def yX5_beginsU : MethodName := ⟨RX5, "beginsU", "()Z"⟩
abbrev cX5_readU : ByteArray := prog_7_method_29_code
def yX5_readU : MethodName := ⟨RX5, "readU", "()V"⟩
def RX6 : String := "CodePress$Store"
def TX6 : u_T := fun k => match k with
  | 0 => ("CodePress$Store", "tag", "[I", false)
  | 1 => ("CodePress$Store", "val", "[I", false)
  | 2 => ("CodePress$Store", "top", "I", false)
  | 3 => ("CodePress$Store", "up", "[I", true)
  | 4 => ("CodePress$Store", "linkId", "[I", true)
  | 5 => ("CodePress$Store", "linkTag", "[I", true)
  | 6 => ("CodePress$Store", "linkVal", "[I", true)
  | 7 => ("CodePress$Store", "links", "I", false)
  | 8 => ("CodePress$Store", "chain", "I", false)
  | 9 => ("CodePress$Store", "cellA", "[I", true)
  | 10 => ("CodePress$Store", "cellB", "[I", true)
  | 11 => ("CodePress$Store", "cellC", "[I", true)
  | 12 => ("CodePress$Store", "cellD", "[I", true)
  | 13 => ("CodePress$Store", "cells", "I", false)
  | _ => ("CodePress$Store", "level", "I", false)
def tyX6 : Nat → FieldType := fun k => match k with
  | 0 => .array .int
  | 1 => .array .int
  | 2 => .int
  | 3 => .array .int
  | 4 => .array .int
  | 5 => .array .int
  | 6 => .array .int
  | 7 => .int
  | 8 => .int
  | 9 => .array .int
  | 10 => .array .int
  | 11 => .array .int
  | 12 => .array .int
  | 13 => .int
  | _ => .int
abbrev wsX60 : List Cond := u_ws RX6 TX6 15
theorem nmX6 : ∀ a, a < 15 → ∀ b, b < 15 → a ≠ b → (TX6 a).2.1 ≠ (TX6 b).2.1 := by decide +kernel
theorem tyX6_ok : ∀ k, k < 15 → parseFieldDescriptor (TX6 k).2.2.1 = some (tyX6 k) := by decide +kernel
abbrev cX6_init : ByteArray := prog_8_method_1_code
def yX6_init : MethodName := ⟨RX6, "<init>", "()V"⟩
def RX7 : String := "CodePress$Typer"
def TX7 : u_T := fun k => match k with
  | 0 => ("CodePress$Typer", "code", "LCodePress$Code;", true)
  | 1 => ("CodePress$Typer", "types", "LCodePress$Types;", true)
  | 2 => ("CodePress$Typer", "stack", "[I", true)
  | 3 => ("CodePress$Typer", "toldName", "[J", true)
  | 4 => ("CodePress$Typer", "toldType", "[I", true)
  | 5 => ("CodePress$Typer", "toldLevel", "[I", true)
  | 6 => ("CodePress$Typer", "toldId", "[I", true)
  | 7 => ("CodePress$Typer", "top", "I", false)
  | 8 => ("CodePress$Typer", "told", "I", false)
  | 9 => ("CodePress$Typer", "level", "I", false)
  | 10 => ("CodePress$Typer", "fault", "I", false)
  | _ => ("CodePress$Typer", "place", "I", false)
def tyX7 : Nat → FieldType := fun k => match k with
  | 0 => .object "CodePress$Code"
  | 1 => .object "CodePress$Types"
  | 2 => .array .int
  | 3 => .array .long
  | 4 => .array .int
  | 5 => .array .int
  | 6 => .array .int
  | 7 => .int
  | 8 => .int
  | 9 => .int
  | 10 => .int
  | _ => .int
abbrev wsX70 : List Cond := u_ws RX7 TX7 12
theorem nmX7 : ∀ a, a < 12 → ∀ b, b < 12 → a ≠ b → (TX7 a).2.1 ≠ (TX7 b).2.1 := by decide +kernel
theorem tyX7_ok : ∀ k, k < 12 → parseFieldDescriptor (TX7 k).2.2.1 = some (tyX7 k) := by decide +kernel
abbrev cX7_init : ByteArray := prog_9_method_1_code
def yX7_init : MethodName := ⟨RX7, "<init>", "(LCodePress$Code;LCodePress$Types;)V"⟩
abbrev cX7_check : ByteArray := prog_9_method_2_code
def yX7_check : MethodName := ⟨RX7, "check", "(II)V"⟩
def RX8 : String := "CodePress$Types"
def TX8 : u_T := fun k => match k with
  | 0 => ("CodePress$Types", "kind", "[I", true)
  | 1 => ("CodePress$Types", "left", "[I", true)
  | 2 => ("CodePress$Types", "right", "[I", true)
  | 3 => ("CodePress$Types", "parts", "[I", true)
  | 4 => ("CodePress$Types", "plain", "[Z", true)
  | 5 => ("CodePress$Types", "used", "I", false)
  | _ => ("CodePress$Types", "limit", "I", false)
def tyX8 : Nat → FieldType := fun k => match k with
  | 0 => .array .int
  | 1 => .array .int
  | 2 => .array .int
  | 3 => .array .int
  | 4 => .array .boolean
  | 5 => .int
  | _ => .int
abbrev wsX80 : List Cond := u_ws RX8 TX8 7
theorem nmX8 : ∀ a, a < 7 → ∀ b, b < 7 → a ≠ b → (TX8 a).2.1 ≠ (TX8 b).2.1 := by decide +kernel
theorem tyX8_ok : ∀ k, k < 7 → parseFieldDescriptor (TX8 k).2.2.1 = some (tyX8 k) := by decide +kernel
abbrev cX8_init : ByteArray := prog_10_method_1_code
def yX8_init : MethodName := ⟨RX8, "<init>", "()V"⟩
abbrev cX8_startHalf : ByteArray := prog_10_method_2_code
def yX8_startHalf : MethodName := ⟨RX8, "startHalf", "(I)V"⟩
def RX9 : String := "CodePress$Writer"
def TX9 : u_T := fun k => match k with
  | 0 => ("CodePress$Writer", "code", "LCodePress$Code;", true)
  | 1 => ("CodePress$Writer", "types", "LCodePress$Types;", true)
  | 2 => ("CodePress$Writer", "nodes", "LCodePress$Nodes;", true)
  | 3 => ("CodePress$Writer", "store", "LCodePress$Store;", true)
  | 4 => ("CodePress$Writer", "text", "[B", true)
  | 5 => ("CodePress$Writer", "size", "I", false)
  | 6 => ("CodePress$Writer", "over", "Z", false)
  | _ => ("CodePress$Writer", "told", "I", false)
def tyX9 : Nat → FieldType := fun k => match k with
  | 0 => .object "CodePress$Code"
  | 1 => .object "CodePress$Types"
  | 2 => .object "CodePress$Nodes"
  | 3 => .object "CodePress$Store"
  | 4 => .array .byte
  | 5 => .int
  | 6 => .boolean
  | _ => .int
abbrev wsX90 : List Cond := u_ws RX9 TX9 8
theorem nmX9 : ∀ a, a < 8 → ∀ b, b < 8 → a ≠ b → (TX9 a).2.1 ≠ (TX9 b).2.1 := by decide +kernel
theorem tyX9_ok : ∀ k, k < 8 → parseFieldDescriptor (TX9 k).2.2.1 = some (tyX9 k) := by decide +kernel
abbrev cX9_init : ByteArray := prog_11_method_1_code
def yX9_init : MethodName := ⟨RX9, "<init>", "(ILCodePress$Code;LCodePress$Types;LCodePress$Nodes;LCodePress$Store;)V"⟩
def RX10 : String := "CodePress"
def TX10 : u_T := fun k => match k with
  | 0 => ("CodePress", "tape", "[B", true)
  | 1 => ("CodePress", "types", "LCodePress$Types;", true)
  | 2 => ("CodePress", "code", "LCodePress$Code;", true)
  | 3 => ("CodePress", "nodes", "LCodePress$Nodes;", true)
  | 4 => ("CodePress", "store", "LCodePress$Store;", true)
  | 5 => ("CodePress", "parser", "LCodePress$Parser;", true)
  | 6 => ("CodePress", "typer", "LCodePress$Typer;", true)
  | 7 => ("CodePress", "builder", "LCodePress$Builder;", true)
  | 8 => ("CodePress", "machine", "LCodePress$Machine;", true)
  | 9 => ("CodePress", "shown", "LCodePress$Writer;", true)
  | 10 => ("CodePress", "valueText", "LCodePress$Writer;", true)
  | 11 => ("CodePress", "typeText", "LCodePress$Writer;", true)
  | 12 => ("CodePress", "tale", "[I", true)
  | 13 => ("CodePress", "tapeSize", "I", false)
  | 14 => ("CodePress", "faultKind", "I", false)
  | 15 => ("CodePress", "faultPlace", "I", false)
  | 16 => ("CodePress", "gaveValue", "I", false)
  | 17 => ("CodePress", "asked", "Z", false)
  | _ => ("CodePress", "hasValue", "Z", false)
def tyX10 : Nat → FieldType := fun k => match k with
  | 0 => .array .byte
  | 1 => .object "CodePress$Types"
  | 2 => .object "CodePress$Code"
  | 3 => .object "CodePress$Nodes"
  | 4 => .object "CodePress$Store"
  | 5 => .object "CodePress$Parser"
  | 6 => .object "CodePress$Typer"
  | 7 => .object "CodePress$Builder"
  | 8 => .object "CodePress$Machine"
  | 9 => .object "CodePress$Writer"
  | 10 => .object "CodePress$Writer"
  | 11 => .object "CodePress$Writer"
  | 12 => .array .int
  | 13 => .int
  | 14 => .int
  | 15 => .int
  | 16 => .int
  | 17 => .boolean
  | _ => .boolean
abbrev wsX100 : List Cond := u_ws RX10 TX10 19
theorem nmX10 : ∀ a, a < 19 → ∀ b, b < 19 → a ≠ b → (TX10 a).2.1 ≠ (TX10 b).2.1 := by decide +kernel
theorem tyX10_ok : ∀ k, k < 19 → parseFieldDescriptor (TX10 k).2.2.1 = some (tyX10 k) := by decide +kernel
abbrev cX10_init : ByteArray := prog_1_method_1_code
def yX10_init : MethodName := ⟨RX10, "<init>", "()V"⟩
abbrev cX10_feed : ByteArray := prog_1_method_2_code
def yX10_feed : MethodName := ⟨RX10, "feed", "(IIIII)I"⟩
abbrev cX10_load : ByteArray := prog_1_method_3_code
def yX10_load : MethodName := ⟨RX10, "load", "(I)I"⟩
abbrev cX10_ask : ByteArray := prog_1_method_4_code
def yX10_ask : MethodName := ⟨RX10, "ask", "(IIZ)I"⟩
abbrev cX10_fault : ByteArray := prog_1_method_5_code
def yX10_fault : MethodName := ⟨RX10, "fault", "(I)I"⟩
abbrev cX10_told : ByteArray := prog_1_method_6_code
def yX10_told : MethodName := ⟨RX10, "told", "(I)I"⟩
abbrev cX10_type : ByteArray := prog_1_method_7_code
def yX10_type : MethodName := ⟨RX10, "type", "(II)I"⟩
abbrev cX10_value : ByteArray := prog_1_method_8_code
def yX10_value : MethodName := ⟨RX10, "value", "()I"⟩
abbrev cX10_out : ByteArray := prog_1_method_9_code
def yX10_out : MethodName := ⟨RX10, "out", "(I)I"⟩
abbrev cX10_count : ByteArray := prog_1_method_10_code
def yX10_count : MethodName := ⟨RX10, "count", "(I)I"⟩
abbrev cX10_feedFour : ByteArray := prog_1_method_11_code
def yX10_feedFour : MethodName := ⟨RX10, "feedFour", "(I)V"⟩
abbrev cX10_startText : ByteArray := prog_1_method_12_code
def yX10_startText : MethodName := ⟨RX10, "startText", "()I"⟩
abbrev cX10_isSound : ByteArray := prog_1_method_13_code
def yX10_isSound : MethodName := ⟨RX10, "isSound", "(I)Z"⟩
def RX11 : String := "CodePressModel"
def TX11 : u_T := fun k => match k with
  | 0 => ("CodePressModel", "tape", "[I", true)
  | 1 => ("CodePressModel", "taped", "I", false)
  | 2 => ("CodePressModel", "words", "[J", true)
  | 3 => ("CodePressModel", "sort", "[I", true)
  | 4 => ("CodePressModel", "at", "[I", true)
  | 5 => ("CodePressModel", "value", "[I", true)
  | 6 => ("CodePressModel", "name", "[J", true)
  | 7 => ("CodePressModel", "tokens", "I", false)
  | 8 => ("CodePressModel", "bytes", "I", false)
  | 9 => ("CodePressModel", "tKind", "[I", true)
  | 10 => ("CodePressModel", "tA", "[I", true)
  | 11 => ("CodePressModel", "tB", "[I", true)
  | 12 => ("CodePressModel", "types", "I", false)
  | 13 => ("CodePressModel", "kind", "[I", true)
  | 14 => ("CodePressModel", "one", "[I", true)
  | 15 => ("CodePressModel", "two", "[I", true)
  | 16 => ("CodePressModel", "three", "[I", true)
  | 17 => ("CodePressModel", "own", "[I", true)
  | 18 => ("CodePressModel", "own2", "[I", true)
  | 19 => ("CodePressModel", "takes", "[I", true)
  | 20 => ("CodePressModel", "gives", "[I", true)
  | 21 => ("CodePressModel", "item", "[I", true)
  | 22 => ("CodePressModel", "spot", "[I", true)
  | 23 => ("CodePressModel", "first", "[I", true)
  | 24 => ("CodePressModel", "second", "[I", true)
  | 25 => ("CodePressModel", "letters", "[J", true)
  | 26 => ("CodePressModel", "letters2", "[J", true)
  | 27 => ("CodePressModel", "size", "[I", true)
  | 28 => ("CodePressModel", "height", "[I", true)
  | 29 => ("CodePressModel", "nodes", "I", false)
  | 30 => ("CodePressModel", "iName", "[I", true)
  | 31 => ("CodePressModel", "iLetters", "[J", true)
  | 32 => ("CodePressModel", "iSpot", "[I", true)
  | 33 => ("CodePressModel", "iNode", "[I", true)
  | 34 => ("CodePressModel", "iNext", "[I", true)
  | 35 => ("CodePressModel", "iType", "[I", true)
  | 36 => ("CodePressModel", "items", "I", false)
  | 37 => ("CodePressModel", "told0", "I", false)
  | 38 => ("CodePressModel", "t", "I", false)
  | 39 => ("CodePressModel", "open", "I", false)
  | 40 => ("CodePressModel", "fault", "I", false)
  | 41 => ("CodePressModel", "place", "I", false)
  | 42 => ("CodePressModel", "defsAhead", "I", false)
  | 43 => ("CodePressModel", "toldFault", "I", false)
  | 44 => ("CodePressModel", "toldPlace", "I", false)
  | 45 => ("CodePressModel", "from", "I", false)
  | 46 => ("CodePressModel", "half", "I", false)
  | 47 => ("CodePressModel", "defs", "I", false)
  | 48 => ("CodePressModel", "dName", "[J", true)
  | 49 => ("CodePressModel", "dSpot", "[I", true)
  | 50 => ("CodePressModel", "dMany", "[I", true)
  | 51 => ("CodePressModel", "dNode", "[I", true)
  | 52 => ("CodePressModel", "dType", "[I", true)
  | 53 => ("CodePressModel", "dGives", "[I", true)
  | 54 => ("CodePressModel", "pLetters", "[J", true)
  | 55 => ("CodePressModel", "pSpot", "[I", true)
  | 56 => ("CodePressModel", "pType", "[I", true)
  | 57 => ("CodePressModel", "pName", "[I", true)
  | 58 => ("CodePressModel", "draft", "I", false)
  | 59 => ("CodePressModel", "reading", "I", false)
  | 60 => ("CodePressModel", "sLetters", "[J", true)
  | 61 => ("CodePressModel", "sType", "[I", true)
  | 62 => ("CodePressModel", "sLevel", "[I", true)
  | 63 => ("CodePressModel", "sName", "[I", true)
  | 64 => ("CodePressModel", "scope", "I", false)
  | 65 => ("CodePressModel", "bottom", "I", false)
  | 66 => ("CodePressModel", "level", "I", false)
  | 67 => ("CodePressModel", "dFrom", "I", false)
  | 68 => ("CodePressModel", "dKnown", "I", false)
  | 69 => ("CodePressModel", "aKind", "[I", true)
  | 70 => ("CodePressModel", "aValue", "[I", true)
  | 71 => ("CodePressModel", "bKind", "[I", true)
  | 72 => ("CodePressModel", "bValue", "[I", true)
  | 73 => ("CodePressModel", "made", "I", false)
  | 74 => ("CodePressModel", "fNode", "[I", true)
  | 75 => ("CodePressModel", "fNames", "[I", true)
  | 76 => ("CodePressModel", "fDef", "[I", true)
  | 77 => ("CodePressModel", "fHas", "[I", true)
  | 78 => ("CodePressModel", "functions", "I", false)
  | 79 => ("CodePressModel", "nName", "[I", true)
  | 80 => ("CodePressModel", "nKind", "[I", true)
  | 81 => ("CodePressModel", "nValue", "[I", true)
  | 82 => ("CodePressModel", "nNext", "[I", true)
  | 83 => ("CodePressModel", "names", "I", false)
  | 84 => ("CodePressModel", "wNode", "[I", true)
  | 85 => ("CodePressModel", "wNames", "[I", true)
  | 86 => ("CodePressModel", "wLevel", "[I", true)
  | 87 => ("CodePressModel", "wStep", "[I", true)
  | 88 => ("CodePressModel", "wKind", "[I", true)
  | 89 => ("CodePressModel", "wValue", "[I", true)
  | 90 => ("CodePressModel", "waits", "I", false)
  | 91 => ("CodePressModel", "gotKind", "I", false)
  | 92 => ("CodePressModel", "gotValue", "I", false)
  | 93 => ("CodePressModel", "ended", "I", false)
  | 94 => ("CodePressModel", "steps", "I", false)
  | 95 => ("CodePressModel", "allowed", "I", false)
  | 96 => ("CodePressModel", "parts", "I", false)
  | 97 => ("CodePressModel", "begun", "I", false)
  | 98 => ("CodePressModel", "mostBegun", "I", false)
  | 99 => ("CodePressModel", "isErased", "Z", false)
  | 100 => ("CodePressModel", "out", "[I", true)
  | 101 => ("CodePressModel", "outs", "I", false)
  | 102 => ("CodePressModel", "pen", "[I", true)
  | 103 => ("CodePressModel", "penned", "I", false)
  | 104 => ("CodePressModel", "askedType", "[I", true)
  | 105 => ("CodePressModel", "askedTypes", "I", false)
  | 106 => ("CodePressModel", "askedValue", "[I", true)
  | 107 => ("CodePressModel", "askedValues", "I", false)
  | 108 => ("CodePressModel", "answer", "I", false)
  | 109 => ("CodePressModel", "valueKind", "I", false)
  | 110 => ("CodePressModel", "valueInt", "I", false)
  | 111 => ("CodePressModel", "valueSize", "I", false)
  | 112 => ("CodePressModel", "valueHeight", "I", false)
  | 113 => ("CodePressModel", "toldSteps", "I", false)
  | 114 => ("CodePressModel", "toldParts", "I", false)
  | 115 => ("CodePressModel", "toldBegun", "I", false)
  | 116 => ("CodePressModel", "gave", "I", false)
  | 117 => ("CodePressModel", "toldName", "[I", true)
  | 118 => ("CodePressModel", "toldNames", "I", false)
  | 119 => ("CodePressModel", "sees", "[I", true)
  | 120 => ("CodePressModel", "seesAs", "[I", true)
  | _ => ("CodePressModel", "seen", "I", false)
def tyX11 : Nat → FieldType := fun k => match k with
  | 0 => .array .int
  | 1 => .int
  | 2 => .array .long
  | 3 => .array .int
  | 4 => .array .int
  | 5 => .array .int
  | 6 => .array .long
  | 7 => .int
  | 8 => .int
  | 9 => .array .int
  | 10 => .array .int
  | 11 => .array .int
  | 12 => .int
  | 13 => .array .int
  | 14 => .array .int
  | 15 => .array .int
  | 16 => .array .int
  | 17 => .array .int
  | 18 => .array .int
  | 19 => .array .int
  | 20 => .array .int
  | 21 => .array .int
  | 22 => .array .int
  | 23 => .array .int
  | 24 => .array .int
  | 25 => .array .long
  | 26 => .array .long
  | 27 => .array .int
  | 28 => .array .int
  | 29 => .int
  | 30 => .array .int
  | 31 => .array .long
  | 32 => .array .int
  | 33 => .array .int
  | 34 => .array .int
  | 35 => .array .int
  | 36 => .int
  | 37 => .int
  | 38 => .int
  | 39 => .int
  | 40 => .int
  | 41 => .int
  | 42 => .int
  | 43 => .int
  | 44 => .int
  | 45 => .int
  | 46 => .int
  | 47 => .int
  | 48 => .array .long
  | 49 => .array .int
  | 50 => .array .int
  | 51 => .array .int
  | 52 => .array .int
  | 53 => .array .int
  | 54 => .array .long
  | 55 => .array .int
  | 56 => .array .int
  | 57 => .array .int
  | 58 => .int
  | 59 => .int
  | 60 => .array .long
  | 61 => .array .int
  | 62 => .array .int
  | 63 => .array .int
  | 64 => .int
  | 65 => .int
  | 66 => .int
  | 67 => .int
  | 68 => .int
  | 69 => .array .int
  | 70 => .array .int
  | 71 => .array .int
  | 72 => .array .int
  | 73 => .int
  | 74 => .array .int
  | 75 => .array .int
  | 76 => .array .int
  | 77 => .array .int
  | 78 => .int
  | 79 => .array .int
  | 80 => .array .int
  | 81 => .array .int
  | 82 => .array .int
  | 83 => .int
  | 84 => .array .int
  | 85 => .array .int
  | 86 => .array .int
  | 87 => .array .int
  | 88 => .array .int
  | 89 => .array .int
  | 90 => .int
  | 91 => .int
  | 92 => .int
  | 93 => .int
  | 94 => .int
  | 95 => .int
  | 96 => .int
  | 97 => .int
  | 98 => .int
  | 99 => .boolean
  | 100 => .array .int
  | 101 => .int
  | 102 => .array .int
  | 103 => .int
  | 104 => .array .int
  | 105 => .int
  | 106 => .array .int
  | 107 => .int
  | 108 => .int
  | 109 => .int
  | 110 => .int
  | 111 => .int
  | 112 => .int
  | 113 => .int
  | 114 => .int
  | 115 => .int
  | 116 => .int
  | 117 => .array .int
  | 118 => .int
  | 119 => .array .int
  | 120 => .array .int
  | _ => .int
abbrev wsX110 : List Cond := u_ws RX11 TX11 122
theorem nmX11 : ∀ a, a < 122 → ∀ b, b < 122 → a ≠ b → (TX11 a).2.1 ≠ (TX11 b).2.1 := by decide +kernel
theorem tyX11_ok : ∀ k, k < 122 → parseFieldDescriptor (TX11 k).2.2.1 = some (tyX11 k) := by decide +kernel
abbrev cX11_four : ByteArray := prog_13_method_1_code
def yX11_four : MethodName := ⟨RX11, "four", "(I)V"⟩
abbrev cX11_feed : ByteArray := prog_13_method_2_code
def yX11_feed : MethodName := ⟨RX11, "feed", "(IIIII)I"⟩
abbrev cX11_init : ByteArray := prog_13_method_3_code
def yX11_init : MethodName := ⟨RX11, "<init>", "()V"⟩
abbrev cX11_token : ByteArray := prog_13_method_7_code
def yX11_token : MethodName := ⟨RX11, "token", "(III)V"⟩
abbrev cX11_cut : ByteArray := prog_13_method_11_code
def yX11_cut : MethodName := ⟨RX11, "cut", "(I)V"⟩
abbrev cX11_good : ByteArray := prog_13_method_21_code
def yX11_good : MethodName := ⟨RX11, "good", "()Z"⟩
abbrev cX11_fails : ByteArray := prog_13_method_22_code
def yX11_fails : MethodName := ⟨RX11, "fails", "(II)V"⟩
abbrev cX11_failsHere : ByteArray := prog_13_method_23_code
def yX11_failsHere : MethodName := ⟨RX11, "failsHere", "(I)V"⟩
abbrev cX11_isSign : ByteArray := prog_13_method_24_code
def yX11_isSign : MethodName := ⟨RX11, "isSign", "(I)Z"⟩
abbrev cX11_isWord : ByteArray := prog_13_method_25_code
def yX11_isWord : MethodName := ⟨RX11, "isWord", "(I)Z"⟩
abbrev cX11_readE : ByteArray := prog_13_method_33_code
def yX11_readE : MethodName := ⟨RX11, "readE", "()I"⟩
abbrev cX11_readC : ByteArray := prog_13_method_41_code
def yX11_readC : MethodName := ⟨RX11, "readC", "()I"⟩
abbrev cX11_readS : ByteArray := prog_13_method_42_code
def yX11_readS : MethodName := ⟨RX11, "readS", "()I"⟩
abbrev cX11_readP : ByteArray := prog_13_method_43_code
def yX11_readP : MethodName := ⟨RX11, "readP", "()I"⟩
abbrev cX11_beginsU : ByteArray := prog_13_method_44_code
def yX11_beginsU : MethodName := ⟨RX11, "beginsU", "()Z"⟩
abbrev cX11_readA : ByteArray := prog_13_method_45_code
def yX11_readA : MethodName := ⟨RX11, "readA", "()I"⟩
abbrev cX11_readU : ByteArray := prog_13_method_46_code
def yX11_readU : MethodName := ⟨RX11, "readU", "()I"⟩
abbrev cX11_opensText : ByteArray := prog_13_method_49_code
def yX11_opensText : MethodName := ⟨RX11, "opensText", "(IIII)V"⟩
abbrev cX11_load : ByteArray := prog_13_method_50_code
def yX11_load : MethodName := ⟨RX11, "load", "(I)I"⟩
abbrev cX11_fault : ByteArray := prog_13_method_51_code
def yX11_fault : MethodName := ⟨RX11, "fault", "(I)I"⟩
abbrev cX11_typeOf : ByteArray := prog_13_method_54_code
def yX11_typeOf : MethodName := ⟨RX11, "typeOf", "(I)I"⟩
abbrev cX11_ask : ByteArray := prog_13_method_109_code
def yX11_ask : MethodName := ⟨RX11, "ask", "(IIZ)I"⟩
abbrev cX11_told : ByteArray := prog_13_method_111_code
def yX11_told : MethodName := ⟨RX11, "told", "(I)I"⟩
abbrev cX11_gives0 : ByteArray := prog_13_method_112_code
def yX11_gives0 : MethodName := ⟨RX11, "gives0", "([II)I"⟩
abbrev cX11_type : ByteArray := prog_13_method_113_code
def yX11_type : MethodName := ⟨RX11, "type", "(II)I"⟩
abbrev cX11_value : ByteArray := prog_13_method_114_code
def yX11_value : MethodName := ⟨RX11, "value", "()I"⟩
abbrev cX11_out : ByteArray := prog_13_method_115_code
def yX11_out : MethodName := ⟨RX11, "out", "(I)I"⟩
abbrev cX11_count : ByteArray := prog_13_method_116_code
def yX11_count : MethodName := ⟨RX11, "count", "(I)I"⟩
def RJ0 : String := "java/lang/String"
abbrev cJ0_length_8abf5 : ByteArray := prog_17_method_54_code
def yJ0_length_8abf5 : MethodName := ⟨RJ0, "length", "()I"⟩
abbrev cJ0_charAt_5068e : ByteArray := prog_17_method_56_code
def yJ0_charAt_5068e : MethodName := ⟨RJ0, "charAt", "(I)C"⟩
abbrev cJ0_coder_7d493 : ByteArray := prog_17_method_152_code
def yJ0_coder_7d493 : MethodName := ⟨RJ0, "coder", "()B"⟩
abbrev cJ0_isLatin1_aae02 : ByteArray := prog_17_method_154_code
def yJ0_isLatin1_aae02 : MethodName := ⟨RJ0, "isLatin1", "()Z"⟩
abbrev cJ0_checkIndex_df160 : ByteArray := prog_17_method_155_code
def yJ0_checkIndex_df160 : MethodName := ⟨RJ0, "checkIndex", "(II)V"⟩
def RJ1 : String := "java/lang/StringLatin1"
abbrev cJ1_charAt_3b067 : ByteArray := prog_18_method_2_code
def yJ1_charAt_3b067 : MethodName := ⟨RJ1, "charAt", "([BI)C"⟩
def RJ3 : String := "jdk/internal/util/Preconditions"
abbrev cJ3_checkIndex_8e157 : ByteArray := prog_22_method_11_code
def yJ3_checkIndex_8e157 : MethodName := ⟨RJ3, "checkIndex", "(IILjava/util/function/BiFunction;)I"⟩
def RL : String := "CodePressLaw"
abbrev cL_law : ByteArray := code
theorem dX0_init_0 : decode cX0_init 0 = .ok (.aload_n 0, 1) := by decide +kernel
theorem dX0_init_1 : decode cX0_init 1 = .ok (.invokespecial 3, 3) := by decide +kernel
theorem dX0_init_4 : decode cX0_init 4 = .ok (.aload_n 0, 1) := by decide +kernel
theorem dX0_init_5 : decode cX0_init 5 = .ok (.aload_n 1, 1) := by decide +kernel
theorem dX0_init_6 : decode cX0_init 6 = .ok (.putfield 9, 3) := by decide +kernel
theorem dX0_init_9 : decode cX0_init 9 = .ok (.aload_n 0, 1) := by decide +kernel
theorem dX0_init_10 : decode cX0_init 10 = .ok (.aload_n 2, 1) := by decide +kernel
theorem dX0_init_11 : decode cX0_init 11 = .ok (.putfield 15, 3) := by decide +kernel
theorem dX0_init_14 : decode cX0_init 14 = .ok (.aload_n 0, 1) := by decide +kernel
theorem dX0_init_15 : decode cX0_init 15 = .ok (.aload_n 3, 1) := by decide +kernel
theorem dX0_init_16 : decode cX0_init 16 = .ok (.putfield 19, 3) := by decide +kernel
theorem dX0_init_19 : decode cX0_init 19 = .ok (.return_, 1) := by decide +kernel
theorem dX1_init_0 : decode cX1_init 0 = .ok (.aload_n 0, 1) := by decide +kernel
theorem dX1_init_1 : decode cX1_init 1 = .ok (.invokespecial 5, 3) := by decide +kernel
theorem dX1_init_4 : decode cX1_init 4 = .ok (.aload_n 0, 1) := by decide +kernel
theorem dX1_init_5 : decode cX1_init 5 = .ok (.sipush 4610, 3) := by decide +kernel
theorem dX1_init_8 : decode cX1_init 8 = .ok (.newarray .int, 2) := by decide +kernel
theorem dX1_init_10 : decode cX1_init 10 = .ok (.putfield 11, 3) := by decide +kernel
theorem dX1_init_13 : decode cX1_init 13 = .ok (.aload_n 0, 1) := by decide +kernel
theorem dX1_init_14 : decode cX1_init 14 = .ok (.sipush 4610, 3) := by decide +kernel
theorem dX1_init_17 : decode cX1_init 17 = .ok (.newarray .int, 2) := by decide +kernel
theorem dX1_init_19 : decode cX1_init 19 = .ok (.putfield 15, 3) := by decide +kernel
theorem dX1_init_22 : decode cX1_init 22 = .ok (.aload_n 0, 1) := by decide +kernel
theorem dX1_init_23 : decode cX1_init 23 = .ok (.sipush 4610, 3) := by decide +kernel
theorem dX1_init_26 : decode cX1_init 26 = .ok (.newarray .int, 2) := by decide +kernel
theorem dX1_init_28 : decode cX1_init 28 = .ok (.putfield 18, 3) := by decide +kernel
theorem dX1_init_31 : decode cX1_init 31 = .ok (.aload_n 0, 1) := by decide +kernel
theorem dX1_init_32 : decode cX1_init 32 = .ok (.sipush 4610, 3) := by decide +kernel
theorem dX1_init_35 : decode cX1_init 35 = .ok (.newarray .int, 2) := by decide +kernel
theorem dX1_init_37 : decode cX1_init 37 = .ok (.putfield 21, 3) := by decide +kernel
theorem dX1_init_40 : decode cX1_init 40 = .ok (.aload_n 0, 1) := by decide +kernel
theorem dX1_init_41 : decode cX1_init 41 = .ok (.sipush 4610, 3) := by decide +kernel
theorem dX1_init_44 : decode cX1_init 44 = .ok (.newarray .int, 2) := by decide +kernel
theorem dX1_init_46 : decode cX1_init 46 = .ok (.putfield 24, 3) := by decide +kernel
theorem dX1_init_49 : decode cX1_init 49 = .ok (.aload_n 0, 1) := by decide +kernel
theorem dX1_init_50 : decode cX1_init 50 = .ok (.sipush 4610, 3) := by decide +kernel
theorem dX1_init_53 : decode cX1_init 53 = .ok (.newarray .int, 2) := by decide +kernel
theorem dX1_init_55 : decode cX1_init 55 = .ok (.putfield 27, 3) := by decide +kernel
theorem dX1_init_58 : decode cX1_init 58 = .ok (.aload_n 0, 1) := by decide +kernel
theorem dX1_init_59 : decode cX1_init 59 = .ok (.sipush 4610, 3) := by decide +kernel
theorem dX1_init_62 : decode cX1_init 62 = .ok (.newarray .long, 2) := by decide +kernel
theorem dX1_init_64 : decode cX1_init 64 = .ok (.putfield 30, 3) := by decide +kernel
theorem dX1_init_67 : decode cX1_init 67 = .ok (.aload_n 0, 1) := by decide +kernel
theorem dX1_init_68 : decode cX1_init 68 = .ok (.bipush 32, 2) := by decide +kernel
theorem dX1_init_70 : decode cX1_init 70 = .ok (.newarray .int, 2) := by decide +kernel
theorem dX1_init_72 : decode cX1_init 72 = .ok (.putfield 34, 3) := by decide +kernel
theorem dX1_init_75 : decode cX1_init 75 = .ok (.aload_n 0, 1) := by decide +kernel
theorem dX1_init_76 : decode cX1_init 76 = .ok (.iconst 2, 1) := by decide +kernel
theorem dX1_init_77 : decode cX1_init 77 = .ok (.newarray .int, 2) := by decide +kernel
theorem dX1_init_79 : decode cX1_init 79 = .ok (.putfield 37, 3) := by decide +kernel
theorem dX1_init_82 : decode cX1_init 82 = .ok (.aload_n 0, 1) := by decide +kernel
theorem dX1_init_83 : decode cX1_init 83 = .ok (.sipush 1700, 3) := by decide +kernel
theorem dX1_init_86 : decode cX1_init 86 = .ok (.putfield 40, 3) := by decide +kernel
theorem dX1_init_89 : decode cX1_init 89 = .ok (.return_, 1) := by decide +kernel
theorem dX1_startHalf_0 : decode cX1_startHalf 0 = .ok (.aload_n 0, 1) := by decide +kernel
theorem dX1_startHalf_1 : decode cX1_startHalf 1 = .ok (.iload_n 1, 1) := by decide +kernel
theorem dX1_startHalf_2 : decode cX1_startHalf 2 = .ok (.ifCond .ne 7, 3) := by decide +kernel
theorem dX1_startHalf_9 : decode cX1_startHalf 9 = .ok (.sipush 1700, 3) := by decide +kernel
theorem dX1_startHalf_12 : decode cX1_startHalf 12 = .ok (.putfield 44, 3) := by decide +kernel
theorem dX1_startHalf_15 : decode cX1_startHalf 15 = .ok (.aload_n 0, 1) := by decide +kernel
theorem dX1_startHalf_16 : decode cX1_startHalf 16 = .ok (.aload_n 0, 1) := by decide +kernel
theorem dX1_startHalf_17 : decode cX1_startHalf 17 = .ok (.getfield 44, 3) := by decide +kernel
theorem dX1_startHalf_20 : decode cX1_startHalf 20 = .ok (.sipush 1700, 3) := by decide +kernel
theorem dX1_startHalf_23 : decode cX1_startHalf 23 = .ok (.iadd, 1) := by decide +kernel
theorem dX1_startHalf_24 : decode cX1_startHalf 24 = .ok (.putfield 40, 3) := by decide +kernel
theorem dX1_startHalf_27 : decode cX1_startHalf 27 = .ok (.return_, 1) := by decide +kernel
theorem dX1_startDefs_0 : decode cX1_startDefs 0 = .ok (.aload_n 0, 1) := by decide +kernel
theorem dX1_startDefs_1 : decode cX1_startDefs 1 = .ok (.iload_n 1, 1) := by decide +kernel
theorem dX1_startDefs_2 : decode cX1_startDefs 2 = .ok (.ifCond .ne 7, 3) := by decide +kernel
theorem dX1_startDefs_9 : decode cX1_startDefs 9 = .ok (.iconst 1, 1) := by decide +kernel
theorem dX1_startDefs_10 : decode cX1_startDefs 10 = .ok (.putfield 47, 3) := by decide +kernel
theorem dX1_startDefs_13 : decode cX1_startDefs 13 = .ok (.aload_n 0, 1) := by decide +kernel
theorem dX1_startDefs_14 : decode cX1_startDefs 14 = .ok (.getfield 37, 3) := by decide +kernel
theorem dX1_startDefs_17 : decode cX1_startDefs 17 = .ok (.aload_n 0, 1) := by decide +kernel
theorem dX1_startDefs_18 : decode cX1_startDefs 18 = .ok (.getfield 47, 3) := by decide +kernel
theorem dX1_startDefs_21 : decode cX1_startDefs 21 = .ok (.iconst 0, 1) := by decide +kernel
theorem dX1_startDefs_22 : decode cX1_startDefs 22 = .ok (.iastore, 1) := by decide +kernel
theorem dX1_startDefs_23 : decode cX1_startDefs 23 = .ok (.return_, 1) := by decide +kernel
theorem dX1_emit_0 : decode cX1_emit 0 = .ok (.aload_n 0, 1) := by decide +kernel
theorem dX1_emit_1 : decode cX1_emit 1 = .ok (.getfield 44, 3) := by decide +kernel
theorem dX1_emit_4 : decode cX1_emit 4 = .ok (.istore_n 3, 1) := by decide +kernel
theorem dX1_emit_5 : decode cX1_emit 5 = .ok (.aload_n 0, 1) := by decide +kernel
theorem dX1_emit_6 : decode cX1_emit 6 = .ok (.getfield 44, 3) := by decide +kernel
theorem dX1_emit_9 : decode cX1_emit 9 = .ok (.aload_n 0, 1) := by decide +kernel
theorem dX1_emit_10 : decode cX1_emit 10 = .ok (.getfield 40, 3) := by decide +kernel
theorem dX1_emit_13 : decode cX1_emit 13 = .ok (.iconst 1, 1) := by decide +kernel
theorem dX1_emit_14 : decode cX1_emit 14 = .ok (.isub, 1) := by decide +kernel
theorem dX1_emit_15 : decode cX1_emit 15 = .ok (.if_icmp .ge 13, 3) := by decide +kernel
theorem dX1_emit_18 : decode cX1_emit 18 = .ok (.aload_n 0, 1) := by decide +kernel
theorem dX1_emit_19 : decode cX1_emit 19 = .ok (.dup, 1) := by decide +kernel
theorem dX1_emit_20 : decode cX1_emit 20 = .ok (.getfield 44, 3) := by decide +kernel
theorem dX1_emit_23 : decode cX1_emit 23 = .ok (.iconst 1, 1) := by decide +kernel
theorem dX1_emit_24 : decode cX1_emit 24 = .ok (.iadd, 1) := by decide +kernel
theorem dX1_emit_25 : decode cX1_emit 25 = .ok (.putfield 44, 3) := by decide +kernel
theorem dX1_emit_28 : decode cX1_emit 28 = .ok (.aload_n 0, 1) := by decide +kernel
theorem dX1_emit_29 : decode cX1_emit 29 = .ok (.getfield 11, 3) := by decide +kernel
theorem dX1_emit_32 : decode cX1_emit 32 = .ok (.iload_n 3, 1) := by decide +kernel
theorem dX1_emit_33 : decode cX1_emit 33 = .ok (.iload_n 1, 1) := by decide +kernel
theorem dX1_emit_34 : decode cX1_emit 34 = .ok (.iastore, 1) := by decide +kernel
theorem dX1_emit_35 : decode cX1_emit 35 = .ok (.aload_n 0, 1) := by decide +kernel
theorem dX1_emit_36 : decode cX1_emit 36 = .ok (.getfield 15, 3) := by decide +kernel
theorem dX1_emit_39 : decode cX1_emit 39 = .ok (.iload_n 3, 1) := by decide +kernel
theorem dX1_emit_40 : decode cX1_emit 40 = .ok (.iconst 0, 1) := by decide +kernel
theorem dX1_emit_41 : decode cX1_emit 41 = .ok (.iastore, 1) := by decide +kernel
theorem dX1_emit_42 : decode cX1_emit 42 = .ok (.aload_n 0, 1) := by decide +kernel
theorem dX1_emit_43 : decode cX1_emit 43 = .ok (.getfield 18, 3) := by decide +kernel
theorem dX1_emit_46 : decode cX1_emit 46 = .ok (.iload_n 3, 1) := by decide +kernel
theorem dX1_emit_47 : decode cX1_emit 47 = .ok (.iconst 0, 1) := by decide +kernel
theorem dX1_emit_48 : decode cX1_emit 48 = .ok (.iastore, 1) := by decide +kernel
theorem dX1_emit_49 : decode cX1_emit 49 = .ok (.aload_n 0, 1) := by decide +kernel
theorem dX1_emit_50 : decode cX1_emit 50 = .ok (.getfield 21, 3) := by decide +kernel
theorem dX1_emit_53 : decode cX1_emit 53 = .ok (.iload_n 3, 1) := by decide +kernel
theorem dX1_emit_54 : decode cX1_emit 54 = .ok (.iload_n 3, 1) := by decide +kernel
theorem dX1_emit_55 : decode cX1_emit 55 = .ok (.iastore, 1) := by decide +kernel
theorem dX1_emit_56 : decode cX1_emit 56 = .ok (.aload_n 0, 1) := by decide +kernel
theorem dX1_emit_57 : decode cX1_emit 57 = .ok (.getfield 24, 3) := by decide +kernel
theorem dX1_emit_60 : decode cX1_emit 60 = .ok (.iload_n 3, 1) := by decide +kernel
theorem dX1_emit_61 : decode cX1_emit 61 = .ok (.iload_n 2, 1) := by decide +kernel
theorem dX1_emit_62 : decode cX1_emit 62 = .ok (.iastore, 1) := by decide +kernel
theorem dX1_emit_63 : decode cX1_emit 63 = .ok (.aload_n 0, 1) := by decide +kernel
theorem dX1_emit_64 : decode cX1_emit 64 = .ok (.getfield 27, 3) := by decide +kernel
theorem dX1_emit_67 : decode cX1_emit 67 = .ok (.iload_n 3, 1) := by decide +kernel
theorem dX1_emit_68 : decode cX1_emit 68 = .ok (.iconst 0, 1) := by decide +kernel
theorem dX1_emit_69 : decode cX1_emit 69 = .ok (.iastore, 1) := by decide +kernel
theorem dX1_emit_70 : decode cX1_emit 70 = .ok (.aload_n 0, 1) := by decide +kernel
theorem dX1_emit_71 : decode cX1_emit 71 = .ok (.getfield 30, 3) := by decide +kernel
theorem dX1_emit_74 : decode cX1_emit 74 = .ok (.iload_n 3, 1) := by decide +kernel
theorem dX1_emit_75 : decode cX1_emit 75 = .ok (.lconst 0, 1) := by decide +kernel
theorem dX1_emit_76 : decode cX1_emit 76 = .ok (.lastore, 1) := by decide +kernel
theorem dX1_emit_77 : decode cX1_emit 77 = .ok (.iload_n 3, 1) := by decide +kernel
theorem dX1_emit_78 : decode cX1_emit 78 = .ok (.ireturn, 1) := by decide +kernel
theorem dX2_init_0 : decode cX2_init 0 = .ok (.aload_n 0, 1) := by decide +kernel
theorem dX2_init_1 : decode cX2_init 1 = .ok (.invokespecial 3, 3) := by decide +kernel
theorem dX2_init_4 : decode cX2_init 4 = .ok (.aload_n 0, 1) := by decide +kernel
theorem dX2_init_5 : decode cX2_init 5 = .ok (.bipush 19, 2) := by decide +kernel
theorem dX2_init_7 : decode cX2_init 7 = .ok (.newarray .long, 2) := by decide +kernel
theorem dX2_init_9 : decode cX2_init 9 = .ok (.putfield 11, 3) := by decide +kernel
theorem dX2_init_12 : decode cX2_init 12 = .ok (.aload_n 0, 1) := by decide +kernel
theorem dX2_init_13 : decode cX2_init 13 = .ok (.sipush 801, 3) := by decide +kernel
theorem dX2_init_16 : decode cX2_init 16 = .ok (.newarray .int, 2) := by decide +kernel
theorem dX2_init_18 : decode cX2_init 18 = .ok (.putfield 15, 3) := by decide +kernel
theorem dX2_init_21 : decode cX2_init 21 = .ok (.aload_n 0, 1) := by decide +kernel
theorem dX2_init_22 : decode cX2_init 22 = .ok (.sipush 801, 3) := by decide +kernel
theorem dX2_init_25 : decode cX2_init 25 = .ok (.newarray .int, 2) := by decide +kernel
theorem dX2_init_27 : decode cX2_init 27 = .ok (.putfield 19, 3) := by decide +kernel
theorem dX2_init_30 : decode cX2_init 30 = .ok (.aload_n 0, 1) := by decide +kernel
theorem dX2_init_31 : decode cX2_init 31 = .ok (.sipush 801, 3) := by decide +kernel
theorem dX2_init_34 : decode cX2_init 34 = .ok (.newarray .int, 2) := by decide +kernel
theorem dX2_init_36 : decode cX2_init 36 = .ok (.putfield 22, 3) := by decide +kernel
theorem dX2_init_39 : decode cX2_init 39 = .ok (.aload_n 0, 1) := by decide +kernel
theorem dX2_init_40 : decode cX2_init 40 = .ok (.sipush 801, 3) := by decide +kernel
theorem dX2_init_43 : decode cX2_init 43 = .ok (.newarray .long, 2) := by decide +kernel
theorem dX2_init_45 : decode cX2_init 45 = .ok (.putfield 25, 3) := by decide +kernel
theorem dX2_init_48 : decode cX2_init 48 = .ok (.aload_n 0, 1) := by decide +kernel
theorem dX2_init_49 : decode cX2_init 49 = .ok (.aload_n 1, 1) := by decide +kernel
theorem dX2_init_50 : decode cX2_init 50 = .ok (.putfield 28, 3) := by decide +kernel
theorem dX2_init_53 : decode cX2_init 53 = .ok (.lconst 0, 1) := by decide +kernel
theorem dX2_init_54 : decode cX2_init 54 = .ok (.lstore_n 2, 1) := by decide +kernel
theorem dX2_init_55 : decode cX2_init 55 = .ok (.iconst 0, 1) := by decide +kernel
theorem dX2_init_56 : decode cX2_init 56 = .ok (.istore 4, 2) := by decide +kernel
theorem dX2_init_58 : decode cX2_init 58 = .ok (.iconst 0, 1) := by decide +kernel
theorem dX2_init_59 : decode cX2_init 59 = .ok (.istore 5, 2) := by decide +kernel
theorem dX2_init_61 : decode cX2_init 61 = .ok (.iload 5, 2) := by decide +kernel
theorem dX2_init_63 : decode cX2_init 63 = .ok (.ldc 32, 2) := by decide +kernel
theorem dX2_init_65 : decode cX2_init 65 = .ok (.invokevirtual 34, 3) := by decide +kernel
theorem dX2_init_68 : decode cX2_init 68 = .ok (.if_icmp .ge 57, 3) := by decide +kernel
theorem dX2_init_71 : decode cX2_init 71 = .ok (.ldc 32, 2) := by decide +kernel
theorem dX2_init_73 : decode cX2_init 73 = .ok (.iload 5, 2) := by decide +kernel
theorem dX2_init_75 : decode cX2_init 75 = .ok (.invokevirtual 40, 3) := by decide +kernel
theorem dX2_init_78 : decode cX2_init 78 = .ok (.istore 6, 2) := by decide +kernel
theorem dX2_init_80 : decode cX2_init 80 = .ok (.iload 6, 2) := by decide +kernel
theorem dX2_init_82 : decode cX2_init 82 = .ok (.bipush 32, 2) := by decide +kernel
theorem dX2_init_84 : decode cX2_init 84 = .ok (.if_icmp .eq 15, 3) := by decide +kernel
theorem dX2_init_87 : decode cX2_init 87 = .ok (.lload_n 2, 1) := by decide +kernel
theorem dX2_init_88 : decode cX2_init 88 = .ok (.bipush 8, 2) := by decide +kernel
theorem dX2_init_90 : decode cX2_init 90 = .ok (.lshl, 1) := by decide +kernel
theorem dX2_init_91 : decode cX2_init 91 = .ok (.iload 6, 2) := by decide +kernel
theorem dX2_init_93 : decode cX2_init 93 = .ok (.i2l, 1) := by decide +kernel
theorem dX2_init_94 : decode cX2_init 94 = .ok (.lor, 1) := by decide +kernel
theorem dX2_init_95 : decode cX2_init 95 = .ok (.lstore_n 2, 1) := by decide +kernel
theorem dX2_init_96 : decode cX2_init 96 = .ok (.goto 23, 3) := by decide +kernel
theorem dX2_init_99 : decode cX2_init 99 = .ok (.iload 4, 2) := by decide +kernel
theorem dX2_init_101 : decode cX2_init 101 = .ok (.bipush 19, 2) := by decide +kernel
theorem dX2_init_103 : decode cX2_init 103 = .ok (.if_icmp .ge 16, 3) := by decide +kernel
theorem dX2_init_106 : decode cX2_init 106 = .ok (.aload_n 0, 1) := by decide +kernel
theorem dX2_init_107 : decode cX2_init 107 = .ok (.getfield 11, 3) := by decide +kernel
theorem dX2_init_110 : decode cX2_init 110 = .ok (.iload 4, 2) := by decide +kernel
theorem dX2_init_112 : decode cX2_init 112 = .ok (.lload_n 2, 1) := by decide +kernel
theorem dX2_init_113 : decode cX2_init 113 = .ok (.lastore, 1) := by decide +kernel
theorem dX2_init_114 : decode cX2_init 114 = .ok (.iinc 4 1, 3) := by decide +kernel
theorem dX2_init_117 : decode cX2_init 117 = .ok (.lconst 0, 1) := by decide +kernel
theorem dX2_init_118 : decode cX2_init 118 = .ok (.lstore_n 2, 1) := by decide +kernel
theorem dX2_init_119 : decode cX2_init 119 = .ok (.iinc 5 1, 3) := by decide +kernel
theorem dX2_init_122 : decode cX2_init 122 = .ok (.goto (-61), 3) := by decide +kernel
theorem dX2_init_125 : decode cX2_init 125 = .ok (.return_, 1) := by decide +kernel
theorem dX2_read_0 : decode cX2_read 0 = .ok (.aload_n 0, 1) := by decide +kernel
theorem dX2_read_1 : decode cX2_read 1 = .ok (.iload_n 1, 1) := by decide +kernel
theorem dX2_read_2 : decode cX2_read 2 = .ok (.aload_n 0, 1) := by decide +kernel
theorem dX2_read_3 : decode cX2_read 3 = .ok (.getfield 28, 3) := by decide +kernel
theorem dX2_read_6 : decode cX2_read 6 = .ok (.arraylength, 1) := by decide +kernel
theorem dX2_read_7 : decode cX2_read 7 = .ok (.invokestatic 44, 3) := by decide +kernel
theorem dX2_read_10 : decode cX2_read 10 = .ok (.putfield 50, 3) := by decide +kernel
theorem dX2_read_13 : decode cX2_read 13 = .ok (.aload_n 0, 1) := by decide +kernel
theorem dX2_read_14 : decode cX2_read 14 = .ok (.iconst 0, 1) := by decide +kernel
theorem dX2_read_15 : decode cX2_read 15 = .ok (.putfield 54, 3) := by decide +kernel
theorem dX2_read_18 : decode cX2_read 18 = .ok (.aload_n 0, 1) := by decide +kernel
theorem dX2_read_19 : decode cX2_read 19 = .ok (.sipush 261, 3) := by decide +kernel
theorem dX2_read_22 : decode cX2_read 22 = .ok (.putfield 57, 3) := by decide +kernel
theorem dX2_read_25 : decode cX2_read 25 = .ok (.iconst 0, 1) := by decide +kernel
theorem dX2_read_26 : decode cX2_read 26 = .ok (.istore_n 2, 1) := by decide +kernel
theorem dX2_read_27 : decode cX2_read 27 = .ok (.iload_n 2, 1) := by decide +kernel
theorem dX2_read_28 : decode cX2_read 28 = .ok (.sipush 800, 3) := by decide +kernel
theorem dX2_read_31 : decode cX2_read 31 = .ok (.if_icmp .gt 63, 3) := by decide +kernel
theorem dX2_read_34 : decode cX2_read 34 = .ok (.aload_n 0, 1) := by decide +kernel
theorem dX2_read_35 : decode cX2_read 35 = .ok (.getfield 57, 3) := by decide +kernel
theorem dX2_read_38 : decode cX2_read 38 = .ok (.sipush 260, 3) := by decide +kernel
theorem dX2_read_41 : decode cX2_read 41 = .ok (.if_icmp .eq 53, 3) := by decide +kernel
theorem dX2_read_44 : decode cX2_read 44 = .ok (.aload_n 0, 1) := by decide +kernel
theorem dX2_read_45 : decode cX2_read 45 = .ok (.invokevirtual 60, 3) := by decide +kernel
theorem dX2_read_48 : decode cX2_read 48 = .ok (.aload_n 0, 1) := by decide +kernel
theorem dX2_read_49 : decode cX2_read 49 = .ok (.getfield 15, 3) := by decide +kernel
theorem dX2_read_52 : decode cX2_read 52 = .ok (.iload_n 2, 1) := by decide +kernel
theorem dX2_read_53 : decode cX2_read 53 = .ok (.aload_n 0, 1) := by decide +kernel
theorem dX2_read_54 : decode cX2_read 54 = .ok (.getfield 57, 3) := by decide +kernel
theorem dX2_read_57 : decode cX2_read 57 = .ok (.iastore, 1) := by decide +kernel
theorem dX2_read_58 : decode cX2_read 58 = .ok (.aload_n 0, 1) := by decide +kernel
theorem dX2_read_59 : decode cX2_read 59 = .ok (.getfield 19, 3) := by decide +kernel
theorem dX2_read_62 : decode cX2_read 62 = .ok (.iload_n 2, 1) := by decide +kernel
theorem dX2_read_63 : decode cX2_read 63 = .ok (.aload_n 0, 1) := by decide +kernel
theorem dX2_read_64 : decode cX2_read 64 = .ok (.getfield 63, 3) := by decide +kernel
theorem dX2_read_67 : decode cX2_read 67 = .ok (.iastore, 1) := by decide +kernel
theorem dX2_read_68 : decode cX2_read 68 = .ok (.aload_n 0, 1) := by decide +kernel
theorem dX2_read_69 : decode cX2_read 69 = .ok (.getfield 22, 3) := by decide +kernel
theorem dX2_read_72 : decode cX2_read 72 = .ok (.iload_n 2, 1) := by decide +kernel
theorem dX2_read_73 : decode cX2_read 73 = .ok (.aload_n 0, 1) := by decide +kernel
theorem dX2_read_74 : decode cX2_read 74 = .ok (.getfield 66, 3) := by decide +kernel
theorem dX2_read_77 : decode cX2_read 77 = .ok (.iastore, 1) := by decide +kernel
theorem dX2_read_78 : decode cX2_read 78 = .ok (.aload_n 0, 1) := by decide +kernel
theorem dX2_read_79 : decode cX2_read 79 = .ok (.getfield 25, 3) := by decide +kernel
theorem dX2_read_82 : decode cX2_read 82 = .ok (.iload_n 2, 1) := by decide +kernel
theorem dX2_read_83 : decode cX2_read 83 = .ok (.aload_n 0, 1) := by decide +kernel
theorem dX2_read_84 : decode cX2_read 84 = .ok (.getfield 69, 3) := by decide +kernel
theorem dX2_read_87 : decode cX2_read 87 = .ok (.lastore, 1) := by decide +kernel
theorem dX2_read_88 : decode cX2_read 88 = .ok (.iinc 2 1, 3) := by decide +kernel
theorem dX2_read_91 : decode cX2_read 91 = .ok (.goto (-64), 3) := by decide +kernel
theorem dX2_read_94 : decode cX2_read 94 = .ok (.return_, 1) := by decide +kernel
theorem dX2_next_0 : decode cX2_next 0 = .ok (.aload_n 0, 1) := by decide +kernel
theorem dX2_next_1 : decode cX2_next 1 = .ok (.getfield 54, 3) := by decide +kernel
theorem dX2_next_4 : decode cX2_next 4 = .ok (.aload_n 0, 1) := by decide +kernel
theorem dX2_next_5 : decode cX2_next 5 = .ok (.getfield 50, 3) := by decide +kernel
theorem dX2_next_8 : decode cX2_next 8 = .ok (.if_icmp .ge 44, 3) := by decide +kernel
theorem dX2_next_52 : decode cX2_next 52 = .ok (.aload_n 0, 1) := by decide +kernel
theorem dX2_next_53 : decode cX2_next 53 = .ok (.aload_n 0, 1) := by decide +kernel
theorem dX2_next_54 : decode cX2_next 54 = .ok (.getfield 54, 3) := by decide +kernel
theorem dX2_next_57 : decode cX2_next 57 = .ok (.putfield 63, 3) := by decide +kernel
theorem dX2_next_60 : decode cX2_next 60 = .ok (.aload_n 0, 1) := by decide +kernel
theorem dX2_next_61 : decode cX2_next 61 = .ok (.getfield 54, 3) := by decide +kernel
theorem dX2_next_64 : decode cX2_next 64 = .ok (.aload_n 0, 1) := by decide +kernel
theorem dX2_next_65 : decode cX2_next 65 = .ok (.getfield 50, 3) := by decide +kernel
theorem dX2_next_68 : decode cX2_next 68 = .ok (.if_icmp .lt 13, 3) := by decide +kernel
theorem dX2_next_71 : decode cX2_next 71 = .ok (.aload_n 0, 1) := by decide +kernel
theorem dX2_next_72 : decode cX2_next 72 = .ok (.sipush 260, 3) := by decide +kernel
theorem dX2_next_75 : decode cX2_next 75 = .ok (.putfield 57, 3) := by decide +kernel
theorem dX2_next_78 : decode cX2_next 78 = .ok (.goto 51, 3) := by decide +kernel
theorem dX2_next_129 : decode cX2_next 129 = .ok (.return_, 1) := by decide +kernel
theorem dX3_init_0 : decode cX3_init 0 = .ok (.aload_n 0, 1) := by decide +kernel
theorem dX3_init_1 : decode cX3_init 1 = .ok (.invokespecial 3, 3) := by decide +kernel
theorem dX3_init_4 : decode cX3_init 4 = .ok (.aload_n 0, 1) := by decide +kernel
theorem dX3_init_5 : decode cX3_init 5 = .ok (.bipush 100, 2) := by decide +kernel
theorem dX3_init_7 : decode cX3_init 7 = .ok (.newarray .int, 2) := by decide +kernel
theorem dX3_init_9 : decode cX3_init 9 = .ok (.putfield 9, 3) := by decide +kernel
theorem dX3_init_12 : decode cX3_init 12 = .ok (.aload_n 0, 1) := by decide +kernel
theorem dX3_init_13 : decode cX3_init 13 = .ok (.bipush 100, 2) := by decide +kernel
theorem dX3_init_15 : decode cX3_init 15 = .ok (.newarray .int, 2) := by decide +kernel
theorem dX3_init_17 : decode cX3_init 17 = .ok (.putfield 15, 3) := by decide +kernel
theorem dX3_init_20 : decode cX3_init 20 = .ok (.aload_n 0, 1) := by decide +kernel
theorem dX3_init_21 : decode cX3_init 21 = .ok (.aload_n 1, 1) := by decide +kernel
theorem dX3_init_22 : decode cX3_init 22 = .ok (.putfield 18, 3) := by decide +kernel
theorem dX3_init_25 : decode cX3_init 25 = .ok (.aload_n 0, 1) := by decide +kernel
theorem dX3_init_26 : decode cX3_init 26 = .ok (.aload_n 2, 1) := by decide +kernel
theorem dX3_init_27 : decode cX3_init 27 = .ok (.putfield 22, 3) := by decide +kernel
theorem dX3_init_30 : decode cX3_init 30 = .ok (.aload_n 0, 1) := by decide +kernel
theorem dX3_init_31 : decode cX3_init 31 = .ok (.aload_n 3, 1) := by decide +kernel
theorem dX3_init_32 : decode cX3_init 32 = .ok (.putfield 26, 3) := by decide +kernel
theorem dX3_init_35 : decode cX3_init 35 = .ok (.return_, 1) := by decide +kernel
theorem dX4_init_0 : decode cX4_init 0 = .ok (.aload_n 0, 1) := by decide +kernel
theorem dX4_init_1 : decode cX4_init 1 = .ok (.invokespecial 3, 3) := by decide +kernel
theorem dX4_init_4 : decode cX4_init 4 = .ok (.aload_n 0, 1) := by decide +kernel
theorem dX4_init_5 : decode cX4_init 5 = .ok (.sipush 304, 3) := by decide +kernel
theorem dX4_init_8 : decode cX4_init 8 = .ok (.newarray .int, 2) := by decide +kernel
theorem dX4_init_10 : decode cX4_init 10 = .ok (.putfield 11, 3) := by decide +kernel
theorem dX4_init_13 : decode cX4_init 13 = .ok (.aload_n 0, 1) := by decide +kernel
theorem dX4_init_14 : decode cX4_init 14 = .ok (.sipush 304, 3) := by decide +kernel
theorem dX4_init_17 : decode cX4_init 17 = .ok (.newarray .int, 2) := by decide +kernel
theorem dX4_init_19 : decode cX4_init 19 = .ok (.putfield 15, 3) := by decide +kernel
theorem dX4_init_22 : decode cX4_init 22 = .ok (.aload_n 0, 1) := by decide +kernel
theorem dX4_init_23 : decode cX4_init 23 = .ok (.sipush 304, 3) := by decide +kernel
theorem dX4_init_26 : decode cX4_init 26 = .ok (.newarray .int, 2) := by decide +kernel
theorem dX4_init_28 : decode cX4_init 28 = .ok (.putfield 18, 3) := by decide +kernel
theorem dX4_init_31 : decode cX4_init 31 = .ok (.aload_n 0, 1) := by decide +kernel
theorem dX4_init_32 : decode cX4_init 32 = .ok (.sipush 304, 3) := by decide +kernel
theorem dX4_init_35 : decode cX4_init 35 = .ok (.newarray .int, 2) := by decide +kernel
theorem dX4_init_37 : decode cX4_init 37 = .ok (.putfield 21, 3) := by decide +kernel
theorem dX4_init_40 : decode cX4_init 40 = .ok (.aload_n 0, 1) := by decide +kernel
theorem dX4_init_41 : decode cX4_init 41 = .ok (.sipush 304, 3) := by decide +kernel
theorem dX4_init_44 : decode cX4_init 44 = .ok (.newarray .int, 2) := by decide +kernel
theorem dX4_init_46 : decode cX4_init 46 = .ok (.putfield 24, 3) := by decide +kernel
theorem dX4_init_49 : decode cX4_init 49 = .ok (.aload_n 0, 1) := by decide +kernel
theorem dX4_init_50 : decode cX4_init 50 = .ok (.sipush 304, 3) := by decide +kernel
theorem dX4_init_53 : decode cX4_init 53 = .ok (.newarray .int, 2) := by decide +kernel
theorem dX4_init_55 : decode cX4_init 55 = .ok (.putfield 27, 3) := by decide +kernel
theorem dX4_init_58 : decode cX4_init 58 = .ok (.aload_n 0, 1) := by decide +kernel
theorem dX4_init_59 : decode cX4_init 59 = .ok (.sipush 304, 3) := by decide +kernel
theorem dX4_init_62 : decode cX4_init 62 = .ok (.newarray .int, 2) := by decide +kernel
theorem dX4_init_64 : decode cX4_init 64 = .ok (.putfield 30, 3) := by decide +kernel
theorem dX4_init_67 : decode cX4_init 67 = .ok (.aload_n 0, 1) := by decide +kernel
theorem dX4_init_68 : decode cX4_init 68 = .ok (.sipush 304, 3) := by decide +kernel
theorem dX4_init_71 : decode cX4_init 71 = .ok (.newarray .int, 2) := by decide +kernel
theorem dX4_init_73 : decode cX4_init 73 = .ok (.putfield 33, 3) := by decide +kernel
theorem dX4_init_76 : decode cX4_init 76 = .ok (.aload_n 0, 1) := by decide +kernel
theorem dX4_init_77 : decode cX4_init 77 = .ok (.sipush 2712, 3) := by decide +kernel
theorem dX4_init_80 : decode cX4_init 80 = .ok (.newarray .int, 2) := by decide +kernel
theorem dX4_init_82 : decode cX4_init 82 = .ok (.putfield 36, 3) := by decide +kernel
theorem dX4_init_85 : decode cX4_init 85 = .ok (.aload_n 0, 1) := by decide +kernel
theorem dX4_init_86 : decode cX4_init 86 = .ok (.sipush 2408, 3) := by decide +kernel
theorem dX4_init_89 : decode cX4_init 89 = .ok (.newarray .int, 2) := by decide +kernel
theorem dX4_init_91 : decode cX4_init 91 = .ok (.putfield 39, 3) := by decide +kernel
theorem dX4_init_94 : decode cX4_init 94 = .ok (.return_, 1) := by decide +kernel
theorem dX5_init_0 : decode cX5_init 0 = .ok (.aload_n 0, 1) := by decide +kernel
theorem dX5_init_1 : decode cX5_init 1 = .ok (.invokespecial 3, 3) := by decide +kernel
theorem dX5_init_4 : decode cX5_init 4 = .ok (.aload_n 0, 1) := by decide +kernel
theorem dX5_init_5 : decode cX5_init 5 = .ok (.aload_n 1, 1) := by decide +kernel
theorem dX5_init_6 : decode cX5_init 6 = .ok (.putfield 9, 3) := by decide +kernel
theorem dX5_init_9 : decode cX5_init 9 = .ok (.aload_n 0, 1) := by decide +kernel
theorem dX5_init_10 : decode cX5_init 10 = .ok (.aload_n 2, 1) := by decide +kernel
theorem dX5_init_11 : decode cX5_init 11 = .ok (.putfield 15, 3) := by decide +kernel
theorem dX5_init_14 : decode cX5_init 14 = .ok (.aload_n 0, 1) := by decide +kernel
