theorem goodIn_r {big : List Cond} (ws : List Cond) (ps : List Nat) (hp : ws = ps.filterMap (fun i => big[i]?)) (h : ws.all goodWord = true) : GoodIn big ws := by
  intro w hw
  have h1 := List.all_eq_true.mp h w hw
  rw [hp] at hw
  obtain ⟨i, -, hi⟩ := List.mem_filterMap.mp hw
  have hm : w ∈ big := by first | exact List.mem_of_getElem? hi | exact List.getElem?_mem hi
  exact ⟨hm, good_of_word h1⟩
theorem goodIn_app {big a b : List Cond} (ha : GoodIn big a) (hb : GoodIn big b) : GoodIn big (a ++ b) := fun w h => (List.mem_append.mp h).elim (ha w) (hb w)
theorem goodIn_sub {big ws : List Cond} (hm : ∀ w ∈ ws, w ∈ big) (h : ws.all goodWord = true) : GoodIn big ws := fun w hw => ⟨hm w hw, good_of_word (List.all_eq_true.mp h w hw)⟩
def RX0 : String := "CodePress$Builder"
def TX0 : u_T := fun k => match k with
  | 0 => ("CodePress$Builder", "code", "LCodePress$Code;", true)
  | 1 => ("CodePress$Builder", "nodes", "LCodePress$Nodes;", true)
  | 2 => ("CodePress$Builder", "store", "LCodePress$Store;", true)
  | 3 => ("CodePress$Builder", "parts", "I", false)
  | _ => ("CodePress$Builder", "full", "Z", false)
def RX1 : String := "CodePress$Code"
def TX1 : u_T := fun k => match k with
  | 0 => ("CodePress$Code", "op", "[I", true)
  | 1 => ("CodePress$Code", "a", "[I", true)
  | 2 => ("CodePress$Code", "b", "[I", true)
  | 3 => ("CodePress$Code", "id", "[I", true)
  | 4 => ("CodePress$Code", "at", "[I", true)
  | 5 => ("CodePress$Code", "begins", "[I", true)
  | 6 => ("CodePress$Code", "name", "[J", true)
  | 7 => ("CodePress$Code", "defs", "[I", true)
  | 8 => ("CodePress$Code", "defCount", "[I", true)
  | 9 => ("CodePress$Code", "used", "I", false)
  | 10 => ("CodePress$Code", "limit", "I", false)
  | _ => ("CodePress$Code", "known", "I", false)
def RX2 : String := "CodePress$Lexer"
def TX2 : u_T := fun k => match k with
  | 0 => ("CodePress$Lexer", "text", "[B", true)
  | 1 => ("CodePress$Lexer", "words", "[J", true)
  | 2 => ("CodePress$Lexer", "size", "I", false)
  | 3 => ("CodePress$Lexer", "pos", "I", false)
  | 4 => ("CodePress$Lexer", "kind", "I", false)
  | 5 => ("CodePress$Lexer", "at", "I", false)
  | 6 => ("CodePress$Lexer", "number", "I", false)
  | _ => ("CodePress$Lexer", "name", "J", false)
def tyX2 : Nat → FieldType := fun k => match k with
  | 0 => .array .byte
  | 1 => .array .long
  | 2 => .int
  | 3 => .int
  | 4 => .int
  | 5 => .int
  | 6 => .int
  | _ => .long
abbrev wsX20 : List Cond := u_ws RX2 TX2 8
theorem nmX2 : ∀ a, a < 8 → ∀ b, b < 8 → a ≠ b → (TX2 a).2.1 ≠ (TX2 b).2.1 := by decide +kernel
theorem tyX2_ok : ∀ k, k < 8 → parseFieldDescriptor (TX2 k).2.2.1 = some (tyX2 k) := by decide +kernel
abbrev cX2_init : ByteArray := prog_4_method_1_code
def yX2_init : MethodName := ⟨RX2, "<init>", "([B)V"⟩
def RX3 : String := "CodePress$Machine"
def TX3 : u_T := fun k => match k with
  | 0 => ("CodePress$Machine", "code", "LCodePress$Code;", true)
  | 1 => ("CodePress$Machine", "store", "LCodePress$Store;", true)
  | 2 => ("CodePress$Machine", "builder", "LCodePress$Builder;", true)
  | 3 => ("CodePress$Machine", "backTo", "[I", true)
  | 4 => ("CodePress$Machine", "backChain", "[I", true)
  | 5 => ("CodePress$Machine", "begun", "I", false)
  | 6 => ("CodePress$Machine", "deepest", "I", false)
  | 7 => ("CodePress$Machine", "steps", "I", false)
  | 8 => ("CodePress$Machine", "allowed", "I", false)
  | 9 => ("CodePress$Machine", "erased", "Z", false)
  | 10 => ("CodePress$Machine", "going", "Z", false)
  | 11 => ("CodePress$Machine", "end", "I", false)
  | _ => ("CodePress$Machine", "pc", "I", false)
def RX4 : String := "CodePress$Nodes"
def TX4 : u_T := fun k => match k with
  | 0 => ("CodePress$Nodes", "kind", "[I", true)
  | 1 => ("CodePress$Nodes", "what", "[I", true)
  | 2 => ("CodePress$Nodes", "more", "[I", true)
  | 3 => ("CodePress$Nodes", "first", "[I", true)
  | 4 => ("CodePress$Nodes", "second", "[I", true)
  | 5 => ("CodePress$Nodes", "third", "[I", true)
  | 6 => ("CodePress$Nodes", "size", "[I", true)
  | 7 => ("CodePress$Nodes", "height", "[I", true)
  | 8 => ("CodePress$Nodes", "kept", "[I", true)
  | 9 => ("CodePress$Nodes", "number", "[I", true)
  | 10 => ("CodePress$Nodes", "used", "I", false)
  | 11 => ("CodePress$Nodes", "keptUsed", "I", false)
  | _ => ("CodePress$Nodes", "names", "I", false)
def RX5 : String := "CodePress$Parser"
def TX5 : u_T := fun k => match k with
  | 0 => ("CodePress$Parser", "lexer", "LCodePress$Lexer;", true)
  | 1 => ("CodePress$Parser", "code", "LCodePress$Code;", true)
  | 2 => ("CodePress$Parser", "types", "LCodePress$Types;", true)
  | 3 => ("CodePress$Parser", "tokens", "I", false)
  | 4 => ("CodePress$Parser", "open", "I", false)
  | 5 => ("CodePress$Parser", "fault", "I", false)
  | 6 => ("CodePress$Parser", "place", "I", false)
  | 7 => ("CodePress$Parser", "name", "J", false)
  | _ => ("CodePress$Parser", "nameAt", "I", false)
def RX6 : String := "CodePress$Store"
def TX6 : u_T := fun k => match k with
  | 0 => ("CodePress$Store", "tag", "[I", false)
  | 1 => ("CodePress$Store", "val", "[I", false)
  | 2 => ("CodePress$Store", "top", "I", false)
  | 3 => ("CodePress$Store", "up", "[I", true)
  | 4 => ("CodePress$Store", "linkId", "[I", true)
  | 5 => ("CodePress$Store", "linkTag", "[I", true)
  | 6 => ("CodePress$Store", "linkVal", "[I", true)
  | 7 => ("CodePress$Store", "links", "I", false)
  | 8 => ("CodePress$Store", "chain", "I", false)
  | 9 => ("CodePress$Store", "cellA", "[I", true)
  | 10 => ("CodePress$Store", "cellB", "[I", true)
  | 11 => ("CodePress$Store", "cellC", "[I", true)
  | 12 => ("CodePress$Store", "cellD", "[I", true)
  | 13 => ("CodePress$Store", "cells", "I", false)
  | _ => ("CodePress$Store", "level", "I", false)
def RX7 : String := "CodePress$Typer"
def TX7 : u_T := fun k => match k with
  | 0 => ("CodePress$Typer", "code", "LCodePress$Code;", true)
  | 1 => ("CodePress$Typer", "types", "LCodePress$Types;", true)
  | 2 => ("CodePress$Typer", "stack", "[I", true)
  | 3 => ("CodePress$Typer", "toldName", "[J", true)
  | 4 => ("CodePress$Typer", "toldType", "[I", true)
  | 5 => ("CodePress$Typer", "toldLevel", "[I", true)
  | 6 => ("CodePress$Typer", "toldId", "[I", true)
  | 7 => ("CodePress$Typer", "top", "I", false)
  | 8 => ("CodePress$Typer", "told", "I", false)
  | 9 => ("CodePress$Typer", "level", "I", false)
  | 10 => ("CodePress$Typer", "fault", "I", false)
  | _ => ("CodePress$Typer", "place", "I", false)
def RX8 : String := "CodePress$Types"
def TX8 : u_T := fun k => match k with
  | 0 => ("CodePress$Types", "kind", "[I", true)
  | 1 => ("CodePress$Types", "left", "[I", true)
  | 2 => ("CodePress$Types", "right", "[I", true)
  | 3 => ("CodePress$Types", "parts", "[I", true)
  | 4 => ("CodePress$Types", "plain", "[Z", true)
  | 5 => ("CodePress$Types", "used", "I", false)
  | _ => ("CodePress$Types", "limit", "I", false)
def RX9 : String := "CodePress$Writer"
def TX9 : u_T := fun k => match k with
  | 0 => ("CodePress$Writer", "code", "LCodePress$Code;", true)
  | 1 => ("CodePress$Writer", "types", "LCodePress$Types;", true)
  | 2 => ("CodePress$Writer", "nodes", "LCodePress$Nodes;", true)
  | 3 => ("CodePress$Writer", "store", "LCodePress$Store;", true)
  | 4 => ("CodePress$Writer", "text", "[B", true)
  | 5 => ("CodePress$Writer", "size", "I", false)
  | 6 => ("CodePress$Writer", "over", "Z", false)
  | _ => ("CodePress$Writer", "told", "I", false)
def RX10 : String := "CodePress"
def TX10 : u_T := fun k => match k with
  | 0 => ("CodePress", "tape", "[B", true)
  | 1 => ("CodePress", "types", "LCodePress$Types;", true)
  | 2 => ("CodePress", "code", "LCodePress$Code;", true)
  | 3 => ("CodePress", "nodes", "LCodePress$Nodes;", true)
  | 4 => ("CodePress", "store", "LCodePress$Store;", true)
  | 5 => ("CodePress", "parser", "LCodePress$Parser;", true)
  | 6 => ("CodePress", "typer", "LCodePress$Typer;", true)
  | 7 => ("CodePress", "builder", "LCodePress$Builder;", true)
  | 8 => ("CodePress", "machine", "LCodePress$Machine;", true)
  | 9 => ("CodePress", "shown", "LCodePress$Writer;", true)
  | 10 => ("CodePress", "valueText", "LCodePress$Writer;", true)
  | 11 => ("CodePress", "typeText", "LCodePress$Writer;", true)
  | 12 => ("CodePress", "tale", "[I", true)
  | 13 => ("CodePress", "tapeSize", "I", false)
  | 14 => ("CodePress", "faultKind", "I", false)
  | 15 => ("CodePress", "faultPlace", "I", false)
  | 16 => ("CodePress", "gaveValue", "I", false)
  | 17 => ("CodePress", "asked", "Z", false)
  | _ => ("CodePress", "hasValue", "Z", false)
def RX11 : String := "CodePressModel"
def TX11 : u_T := fun k => match k with
  | 0 => ("CodePressModel", "tape", "[I", true)
  | 1 => ("CodePressModel", "taped", "I", false)
  | 2 => ("CodePressModel", "words", "[J", true)
  | 3 => ("CodePressModel", "sort", "[I", true)
  | 4 => ("CodePressModel", "at", "[I", true)
  | 5 => ("CodePressModel", "value", "[I", true)
  | 6 => ("CodePressModel", "name", "[J", true)
  | 7 => ("CodePressModel", "tokens", "I", false)
  | 8 => ("CodePressModel", "bytes", "I", false)
  | 9 => ("CodePressModel", "tKind", "[I", true)
  | 10 => ("CodePressModel", "tA", "[I", true)
  | 11 => ("CodePressModel", "tB", "[I", true)
  | 12 => ("CodePressModel", "types", "I", false)
  | 13 => ("CodePressModel", "kind", "[I", true)
  | 14 => ("CodePressModel", "one", "[I", true)
  | 15 => ("CodePressModel", "two", "[I", true)
  | 16 => ("CodePressModel", "three", "[I", true)
  | 17 => ("CodePressModel", "own", "[I", true)
  | 18 => ("CodePressModel", "own2", "[I", true)
  | 19 => ("CodePressModel", "takes", "[I", true)
  | 20 => ("CodePressModel", "gives", "[I", true)
  | 21 => ("CodePressModel", "item", "[I", true)
  | 22 => ("CodePressModel", "spot", "[I", true)
  | 23 => ("CodePressModel", "first", "[I", true)
  | 24 => ("CodePressModel", "second", "[I", true)
  | 25 => ("CodePressModel", "letters", "[J", true)
  | 26 => ("CodePressModel", "letters2", "[J", true)
  | 27 => ("CodePressModel", "size", "[I", true)
  | 28 => ("CodePressModel", "height", "[I", true)
  | 29 => ("CodePressModel", "nodes", "I", false)
  | 30 => ("CodePressModel", "iName", "[I", true)
  | 31 => ("CodePressModel", "iLetters", "[J", true)
  | 32 => ("CodePressModel", "iSpot", "[I", true)
  | 33 => ("CodePressModel", "iNode", "[I", true)
  | 34 => ("CodePressModel", "iNext", "[I", true)
  | 35 => ("CodePressModel", "iType", "[I", true)
  | 36 => ("CodePressModel", "items", "I", false)
  | 37 => ("CodePressModel", "told0", "I", false)
  | 38 => ("CodePressModel", "t", "I", false)
  | 39 => ("CodePressModel", "open", "I", false)
  | 40 => ("CodePressModel", "fault", "I", false)
  | 41 => ("CodePressModel", "place", "I", false)
  | 42 => ("CodePressModel", "defsAhead", "I", false)
  | 43 => ("CodePressModel", "toldFault", "I", false)
  | 44 => ("CodePressModel", "toldPlace", "I", false)
  | 45 => ("CodePressModel", "from", "I", false)
  | 46 => ("CodePressModel", "half", "I", false)
  | 47 => ("CodePressModel", "defs", "I", false)
  | 48 => ("CodePressModel", "dName", "[J", true)
  | 49 => ("CodePressModel", "dSpot", "[I", true)
  | 50 => ("CodePressModel", "dMany", "[I", true)
  | 51 => ("CodePressModel", "dNode", "[I", true)
  | 52 => ("CodePressModel", "dType", "[I", true)
  | 53 => ("CodePressModel", "dGives", "[I", true)
  | 54 => ("CodePressModel", "pLetters", "[J", true)
  | 55 => ("CodePressModel", "pSpot", "[I", true)
  | 56 => ("CodePressModel", "pType", "[I", true)
  | 57 => ("CodePressModel", "pName", "[I", true)
  | 58 => ("CodePressModel", "draft", "I", false)
  | 59 => ("CodePressModel", "reading", "I", false)
  | 60 => ("CodePressModel", "sLetters", "[J", true)
  | 61 => ("CodePressModel", "sType", "[I", true)
  | 62 => ("CodePressModel", "sLevel", "[I", true)
  | 63 => ("CodePressModel", "sName", "[I", true)
  | 64 => ("CodePressModel", "scope", "I", false)
  | 65 => ("CodePressModel", "bottom", "I", false)
  | 66 => ("CodePressModel", "level", "I", false)
  | 67 => ("CodePressModel", "dFrom", "I", false)
  | 68 => ("CodePressModel", "dKnown", "I", false)
  | 69 => ("CodePressModel", "aKind", "[I", true)
  | 70 => ("CodePressModel", "aValue", "[I", true)
  | 71 => ("CodePressModel", "bKind", "[I", true)
  | 72 => ("CodePressModel", "bValue", "[I", true)
  | 73 => ("CodePressModel", "made", "I", false)
  | 74 => ("CodePressModel", "fNode", "[I", true)
  | 75 => ("CodePressModel", "fNames", "[I", true)
  | 76 => ("CodePressModel", "fDef", "[I", true)
  | 77 => ("CodePressModel", "fHas", "[I", true)
  | 78 => ("CodePressModel", "functions", "I", false)
  | 79 => ("CodePressModel", "nName", "[I", true)
  | 80 => ("CodePressModel", "nKind", "[I", true)
  | 81 => ("CodePressModel", "nValue", "[I", true)
  | 82 => ("CodePressModel", "nNext", "[I", true)
  | 83 => ("CodePressModel", "names", "I", false)
  | 84 => ("CodePressModel", "wNode", "[I", true)
  | 85 => ("CodePressModel", "wNames", "[I", true)
  | 86 => ("CodePressModel", "wLevel", "[I", true)
  | 87 => ("CodePressModel", "wStep", "[I", true)
  | 88 => ("CodePressModel", "wKind", "[I", true)
  | 89 => ("CodePressModel", "wValue", "[I", true)
  | 90 => ("CodePressModel", "waits", "I", false)
  | 91 => ("CodePressModel", "gotKind", "I", false)
  | 92 => ("CodePressModel", "gotValue", "I", false)
  | 93 => ("CodePressModel", "ended", "I", false)
  | 94 => ("CodePressModel", "steps", "I", false)
  | 95 => ("CodePressModel", "allowed", "I", false)
  | 96 => ("CodePressModel", "parts", "I", false)
  | 97 => ("CodePressModel", "begun", "I", false)
  | 98 => ("CodePressModel", "mostBegun", "I", false)
  | 99 => ("CodePressModel", "isErased", "Z", false)
  | 100 => ("CodePressModel", "out", "[I", true)
  | 101 => ("CodePressModel", "outs", "I", false)
  | 102 => ("CodePressModel", "pen", "[I", true)
  | 103 => ("CodePressModel", "penned", "I", false)
  | 104 => ("CodePressModel", "askedType", "[I", true)
  | 105 => ("CodePressModel", "askedTypes", "I", false)
  | 106 => ("CodePressModel", "askedValue", "[I", true)
  | 107 => ("CodePressModel", "askedValues", "I", false)
  | 108 => ("CodePressModel", "answer", "I", false)
  | 109 => ("CodePressModel", "valueKind", "I", false)
  | 110 => ("CodePressModel", "valueInt", "I", false)
  | 111 => ("CodePressModel", "valueSize", "I", false)
  | 112 => ("CodePressModel", "valueHeight", "I", false)
  | 113 => ("CodePressModel", "toldSteps", "I", false)
  | 114 => ("CodePressModel", "toldParts", "I", false)
  | 115 => ("CodePressModel", "toldBegun", "I", false)
  | 116 => ("CodePressModel", "gave", "I", false)
  | 117 => ("CodePressModel", "toldName", "[I", true)
  | 118 => ("CodePressModel", "toldNames", "I", false)
  | 119 => ("CodePressModel", "sees", "[I", true)
  | 120 => ("CodePressModel", "seesAs", "[I", true)
  | _ => ("CodePressModel", "seen", "I", false)
def RJ0 : String := "java/lang/String"
abbrev cJ0_length_8abf5 : ByteArray := prog_17_method_54_code
def yJ0_length_8abf5 : MethodName := ⟨RJ0, "length", "()I"⟩
abbrev cJ0_charAt_5068e : ByteArray := prog_17_method_56_code
def yJ0_charAt_5068e : MethodName := ⟨RJ0, "charAt", "(I)C"⟩
abbrev cJ0_coder_7d493 : ByteArray := prog_17_method_152_code
def yJ0_coder_7d493 : MethodName := ⟨RJ0, "coder", "()B"⟩
abbrev cJ0_isLatin1_aae02 : ByteArray := prog_17_method_154_code
def yJ0_isLatin1_aae02 : MethodName := ⟨RJ0, "isLatin1", "()Z"⟩
abbrev cJ0_checkIndex_df160 : ByteArray := prog_17_method_155_code
def yJ0_checkIndex_df160 : MethodName := ⟨RJ0, "checkIndex", "(II)V"⟩
def RJ1 : String := "java/lang/StringLatin1"
abbrev cJ1_charAt_3b067 : ByteArray := prog_18_method_2_code
def yJ1_charAt_3b067 : MethodName := ⟨RJ1, "charAt", "([BI)C"⟩
def RJ3 : String := "jdk/internal/util/Preconditions"
abbrev cJ3_checkIndex_8e157 : ByteArray := prog_22_method_11_code
def yJ3_checkIndex_8e157 : MethodName := ⟨RJ3, "checkIndex", "(IILjava/util/function/BiFunction;)I"⟩
theorem dX2_init_0 : decode cX2_init 0 = .ok (.aload_n 0, 1) := by decide +kernel
theorem dX2_init_1 : decode cX2_init 1 = .ok (.invokespecial 1, 3) := by decide +kernel
theorem dX2_init_4 : decode cX2_init 4 = .ok (.aload_n 0, 1) := by decide +kernel
theorem dX2_init_5 : decode cX2_init 5 = .ok (.bipush 19, 2) := by decide +kernel
theorem dX2_init_7 : decode cX2_init 7 = .ok (.newarray .long, 2) := by decide +kernel
theorem dX2_init_9 : decode cX2_init 9 = .ok (.putfield 9, 3) := by decide +kernel
theorem dX2_init_12 : decode cX2_init 12 = .ok (.aload_n 0, 1) := by decide +kernel
theorem dX2_init_13 : decode cX2_init 13 = .ok (.aload_n 1, 1) := by decide +kernel
theorem dX2_init_14 : decode cX2_init 14 = .ok (.putfield 13, 3) := by decide +kernel
theorem dX2_init_17 : decode cX2_init 17 = .ok (.lconst 0, 1) := by decide +kernel
theorem dX2_init_18 : decode cX2_init 18 = .ok (.lstore_n 2, 1) := by decide +kernel
theorem dX2_init_19 : decode cX2_init 19 = .ok (.iconst 0, 1) := by decide +kernel
theorem dX2_init_20 : decode cX2_init 20 = .ok (.istore 4, 2) := by decide +kernel
theorem dX2_init_22 : decode cX2_init 22 = .ok (.iconst 0, 1) := by decide +kernel
theorem dX2_init_23 : decode cX2_init 23 = .ok (.istore 5, 2) := by decide +kernel
theorem dX2_init_25 : decode cX2_init 25 = .ok (.iload 5, 2) := by decide +kernel
theorem dX2_init_27 : decode cX2_init 27 = .ok (.ldc 17, 2) := by decide +kernel
theorem dX2_init_29 : decode cX2_init 29 = .ok (.invokevirtual 19, 3) := by decide +kernel
theorem dX2_init_32 : decode cX2_init 32 = .ok (.if_icmp .ge 57, 3) := by decide +kernel
theorem dX2_init_35 : decode cX2_init 35 = .ok (.ldc 17, 2) := by decide +kernel
theorem dX2_init_37 : decode cX2_init 37 = .ok (.iload 5, 2) := by decide +kernel
theorem dX2_init_39 : decode cX2_init 39 = .ok (.invokevirtual 25, 3) := by decide +kernel
theorem dX2_init_42 : decode cX2_init 42 = .ok (.istore 6, 2) := by decide +kernel
theorem dX2_init_44 : decode cX2_init 44 = .ok (.iload 6, 2) := by decide +kernel
theorem dX2_init_46 : decode cX2_init 46 = .ok (.bipush 32, 2) := by decide +kernel
theorem dX2_init_48 : decode cX2_init 48 = .ok (.if_icmp .eq 15, 3) := by decide +kernel
theorem dX2_init_51 : decode cX2_init 51 = .ok (.lload_n 2, 1) := by decide +kernel
theorem dX2_init_52 : decode cX2_init 52 = .ok (.bipush 8, 2) := by decide +kernel
theorem dX2_init_54 : decode cX2_init 54 = .ok (.lshl, 1) := by decide +kernel
theorem dX2_init_55 : decode cX2_init 55 = .ok (.iload 6, 2) := by decide +kernel
theorem dX2_init_57 : decode cX2_init 57 = .ok (.i2l, 1) := by decide +kernel
theorem dX2_init_58 : decode cX2_init 58 = .ok (.lor, 1) := by decide +kernel
theorem dX2_init_59 : decode cX2_init 59 = .ok (.lstore_n 2, 1) := by decide +kernel
theorem dX2_init_60 : decode cX2_init 60 = .ok (.goto 23, 3) := by decide +kernel
theorem dX2_init_63 : decode cX2_init 63 = .ok (.iload 4, 2) := by decide +kernel
theorem dX2_init_65 : decode cX2_init 65 = .ok (.bipush 19, 2) := by decide +kernel
theorem dX2_init_67 : decode cX2_init 67 = .ok (.if_icmp .ge 16, 3) := by decide +kernel
theorem dX2_init_70 : decode cX2_init 70 = .ok (.aload_n 0, 1) := by decide +kernel
theorem dX2_init_71 : decode cX2_init 71 = .ok (.getfield 9, 3) := by decide +kernel
theorem dX2_init_74 : decode cX2_init 74 = .ok (.iload 4, 2) := by decide +kernel
theorem dX2_init_76 : decode cX2_init 76 = .ok (.lload_n 2, 1) := by decide +kernel
theorem dX2_init_77 : decode cX2_init 77 = .ok (.lastore, 1) := by decide +kernel
theorem dX2_init_78 : decode cX2_init 78 = .ok (.iinc 4 1, 3) := by decide +kernel
theorem dX2_init_81 : decode cX2_init 81 = .ok (.lconst 0, 1) := by decide +kernel
theorem dX2_init_82 : decode cX2_init 82 = .ok (.lstore_n 2, 1) := by decide +kernel
theorem dX2_init_83 : decode cX2_init 83 = .ok (.iinc 5 1, 3) := by decide +kernel
theorem dX2_init_86 : decode cX2_init 86 = .ok (.goto (-61), 3) := by decide +kernel
theorem dX2_init_89 : decode cX2_init 89 = .ok (.return_, 1) := by decide +kernel
theorem dJ0_length_8abf5_0 : decode cJ0_length_8abf5 0 = .ok (.aload_n 0, 1) := by decide +kernel
theorem dJ0_length_8abf5_1 : decode cJ0_length_8abf5 1 = .ok (.getfield 9, 3) := by decide +kernel
theorem dJ0_length_8abf5_4 : decode cJ0_length_8abf5 4 = .ok (.arraylength, 1) := by decide +kernel
theorem dJ0_length_8abf5_5 : decode cJ0_length_8abf5 5 = .ok (.aload_n 0, 1) := by decide +kernel
theorem dJ0_length_8abf5_6 : decode cJ0_length_8abf5 6 = .ok (.invokevirtual 335, 3) := by decide +kernel
theorem dJ0_length_8abf5_9 : decode cJ0_length_8abf5 9 = .ok (.ishr, 1) := by decide +kernel
theorem dJ0_length_8abf5_10 : decode cJ0_length_8abf5 10 = .ok (.ireturn, 1) := by decide +kernel
theorem dJ0_charAt_5068e_0 : decode cJ0_charAt_5068e 0 = .ok (.aload_n 0, 1) := by decide +kernel
theorem dJ0_charAt_5068e_1 : decode cJ0_charAt_5068e 1 = .ok (.invokevirtual 492, 3) := by decide +kernel
theorem dJ0_charAt_5068e_4 : decode cJ0_charAt_5068e 4 = .ok (.ifCond .eq 12, 3) := by decide +kernel
theorem dJ0_charAt_5068e_7 : decode cJ0_charAt_5068e 7 = .ok (.aload_n 0, 1) := by decide +kernel
theorem dJ0_charAt_5068e_8 : decode cJ0_charAt_5068e 8 = .ok (.getfield 9, 3) := by decide +kernel
theorem dJ0_charAt_5068e_11 : decode cJ0_charAt_5068e 11 = .ok (.iload_n 1, 1) := by decide +kernel
theorem dJ0_charAt_5068e_12 : decode cJ0_charAt_5068e 12 = .ok (.invokestatic 495, 3) := by decide +kernel
theorem dJ0_charAt_5068e_15 : decode cJ0_charAt_5068e 15 = .ok (.ireturn, 1) := by decide +kernel
theorem dJ0_coder_7d493_0 : decode cJ0_coder_7d493 0 = .ok (.getstatic 38, 3) := by decide +kernel
theorem dJ0_coder_7d493_3 : decode cJ0_coder_7d493 3 = .ok (.ifCond .eq 10, 3) := by decide +kernel
theorem dJ0_coder_7d493_6 : decode cJ0_coder_7d493 6 = .ok (.aload_n 0, 1) := by decide +kernel
theorem dJ0_coder_7d493_7 : decode cJ0_coder_7d493 7 = .ok (.getfield 15, 3) := by decide +kernel
theorem dJ0_coder_7d493_10 : decode cJ0_coder_7d493 10 = .ok (.goto 4, 3) := by decide +kernel
theorem dJ0_coder_7d493_14 : decode cJ0_coder_7d493 14 = .ok (.ireturn, 1) := by decide +kernel
theorem dJ0_isLatin1_aae02_0 : decode cJ0_isLatin1_aae02 0 = .ok (.getstatic 38, 3) := by decide +kernel
theorem dJ0_isLatin1_aae02_3 : decode cJ0_isLatin1_aae02 3 = .ok (.ifCond .eq 14, 3) := by decide +kernel
theorem dJ0_isLatin1_aae02_6 : decode cJ0_isLatin1_aae02 6 = .ok (.aload_n 0, 1) := by decide +kernel
theorem dJ0_isLatin1_aae02_7 : decode cJ0_isLatin1_aae02 7 = .ok (.getfield 15, 3) := by decide +kernel
theorem dJ0_isLatin1_aae02_10 : decode cJ0_isLatin1_aae02 10 = .ok (.ifCond .ne 7, 3) := by decide +kernel
theorem dJ0_isLatin1_aae02_13 : decode cJ0_isLatin1_aae02 13 = .ok (.iconst 1, 1) := by decide +kernel
theorem dJ0_isLatin1_aae02_14 : decode cJ0_isLatin1_aae02 14 = .ok (.goto 4, 3) := by decide +kernel
theorem dJ0_isLatin1_aae02_18 : decode cJ0_isLatin1_aae02 18 = .ok (.ireturn, 1) := by decide +kernel
theorem dJ0_checkIndex_df160_0 : decode cJ0_checkIndex_df160 0 = .ok (.iload_n 0, 1) := by decide +kernel
theorem dJ0_checkIndex_df160_1 : decode cJ0_checkIndex_df160 1 = .ok (.iload_n 1, 1) := by decide +kernel
theorem dJ0_checkIndex_df160_2 : decode cJ0_checkIndex_df160 2 = .ok (.getstatic 1053, 3) := by decide +kernel
theorem dJ0_checkIndex_df160_5 : decode cJ0_checkIndex_df160 5 = .ok (.invokestatic 1059, 3) := by decide +kernel
theorem dJ0_checkIndex_df160_8 : decode cJ0_checkIndex_df160 8 = .ok (.pop, 1) := by decide +kernel
theorem dJ0_checkIndex_df160_9 : decode cJ0_checkIndex_df160 9 = .ok (.return_, 1) := by decide +kernel
theorem dJ1_charAt_3b067_0 : decode cJ1_charAt_3b067 0 = .ok (.iload_n 1, 1) := by decide +kernel
theorem dJ1_charAt_3b067_1 : decode cJ1_charAt_3b067 1 = .ok (.aload_n 0, 1) := by decide +kernel
theorem dJ1_charAt_3b067_2 : decode cJ1_charAt_3b067 2 = .ok (.arraylength, 1) := by decide +kernel
theorem dJ1_charAt_3b067_3 : decode cJ1_charAt_3b067 3 = .ok (.invokestatic 9, 3) := by decide +kernel
theorem dJ1_charAt_3b067_6 : decode cJ1_charAt_3b067 6 = .ok (.aload_n 0, 1) := by decide +kernel
theorem dJ1_charAt_3b067_7 : decode cJ1_charAt_3b067 7 = .ok (.iload_n 1, 1) := by decide +kernel
theorem dJ1_charAt_3b067_8 : decode cJ1_charAt_3b067 8 = .ok (.baload, 1) := by decide +kernel
theorem dJ1_charAt_3b067_9 : decode cJ1_charAt_3b067 9 = .ok (.sipush 255, 3) := by decide +kernel
theorem dJ1_charAt_3b067_12 : decode cJ1_charAt_3b067 12 = .ok (.iand, 1) := by decide +kernel
theorem dJ1_charAt_3b067_13 : decode cJ1_charAt_3b067 13 = .ok (.i2c, 1) := by decide +kernel
theorem dJ1_charAt_3b067_14 : decode cJ1_charAt_3b067 14 = .ok (.ireturn, 1) := by decide +kernel
theorem dJ3_checkIndex_8e157_0 : decode cJ3_checkIndex_8e157 0 = .ok (.iload_n 0, 1) := by decide +kernel
theorem dJ3_checkIndex_8e157_1 : decode cJ3_checkIndex_8e157 1 = .ok (.ifCond .lt 8, 3) := by decide +kernel
theorem dJ3_checkIndex_8e157_4 : decode cJ3_checkIndex_8e157 4 = .ok (.iload_n 0, 1) := by decide +kernel
theorem dJ3_checkIndex_8e157_5 : decode cJ3_checkIndex_8e157 5 = .ok (.iload_n 1, 1) := by decide +kernel
theorem dJ3_checkIndex_8e157_6 : decode cJ3_checkIndex_8e157 6 = .ok (.if_icmp .lt 10, 3) := by decide +kernel
theorem dJ3_checkIndex_8e157_16 : decode cJ3_checkIndex_8e157 16 = .ok (.iload_n 0, 1) := by decide +kernel
theorem dJ3_checkIndex_8e157_17 : decode cJ3_checkIndex_8e157 17 = .ok (.ireturn, 1) := by decide +kernel
abbrev vwCl : List vw_C := [(RX0, TX0, 5), (RX1, TX1, 12), (RX2, TX2, 8), (RX3, TX3, 13), (RX4, TX4, 13), (RX5, TX5, 9), (RX6, TX6, 15), (RX7, TX7, 12), (RX8, TX8, 7), (RX9, TX9, 8), (RX10, TX10, 19), (RX11, TX11, 122)]
