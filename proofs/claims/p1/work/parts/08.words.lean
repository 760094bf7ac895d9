/-! THE CLAIM OUT OF ONE WALK OF THE LAW'S BODY. Your part is whole_start (and what it stands on); all else here is the same for every law, but numbers. -/
def R_law : String := "CodePressLaw"
def lw_P (b : Addr) (xs : List Int32) (args : Array Value) (s : State) : Prop := args = #[.ref b] ∧ s.IntsAt b xs ∧ xs.length ≤ 6 ∧ (Jvm.Cond.and given_1 narrow_1).before args s = true
def lw_Q (_ : Array Value) (s : State) (o : Outcome) (t : State) : Prop := o = .returned (some (.int 1)) ∧ Framed s o t [] 600000 7302250
def lw_Z (below : List Frame) (a : Array Value) (s : State) : State → Prop := fun t => ∃ o, t.status = .running ∧ Ended t below o ∧ lw_Q a s o t
/-- the law's own end, with 1 on the stack, nothing written that was there before, its room as the claim has it -/
theorem lw_ret {p : Program} {l : Launch} {e : Env} {s : State} {m : MethodId} {below : List Frame} {meth : Method} {c : Code} {b : Nat} (hx : p.tables.exec = Jvm.exec) (hb : c.code = code) (hr : meth.sig.returnType = ret) (hlocks : meth.locks = false) {pc : Nat} {H : Heap} {ls : Array Slot} (hdg : decode code pc = .ok (.ireturn, 1)) : W p l e room_1 s m #[Value.ref b] below meth c H [] 600000 7302250 (lw_Z below #[Value.ref b] s) (F0 m pc ls [.int 1]) := by
  intro T hT X
  obtain ⟨fs, hret, hrun, hended, hW, hframe⟩ := X.leave (v := some (.int 1)) (hlocks := hlocks) (fun h => by rw [hr] at h; cases h)
  have hmeth' : T.vm.method? m = some meth := X.method'
  refine ⟨T.setFrames fs, ?_, .returned (some (.int 1)), hrun, hended, rfl, ⟨_, rfl⟩, hW, hframe⟩
  jvm_step X.here [X.here.top, hx, hb, hdg, hmeth', hr, ret, narrow_b1]
  (try refine ⟨rfl, ?_⟩); (try refine ⟨rfl, ?_⟩)
  first | (intro acts; rw [hret _ acts rfl rfl rfl]) | rw [hret _ _ rfl rfl rfl]
  exact Steps.refl _
/-- what holds at the law's entry: the machine, the code, the tables' words (any of lw_tbl by 'hts w (by decide +kernel)'), the script of L ints xs at the cell b, what the Statement gives of the start (any of its parts by flat_of_before) -/
def lw_At (p : Program) (s : State) (m : MethodId) (meth : Method) (c : Code) (b L : Nat) (xs : Nat → Int32) : Prop :=
  p.tables.exec = Jvm.exec ∧ c.code = code ∧ meth.sig.returnType = ret ∧ c.maxLocals = 4 ∧ s.vm.findClass R_law = some m.cls ∧ (∀ w ∈ lw_tbl, w.before #[Value.ref b] s = true) ∧ va_X b L xs s s.heap ∧ b < s.heap.size ∧ meth.locks = false ∧ (Jvm.Cond.and given_1 narrow_1).before #[Value.ref b] s = true
def wq_law_r1 : List Cond := [Cond.code yX10_feed cX10_feed 6 (some .int), Cond.fieldLink RX10 105 "CodePress" "tapeSize" "I", Cond.code yX10_feedFour cX10_feedFour 3 none, Cond.fieldLink RX10 9 "CodePress" "tape" "[B", Cond.methodLink RX10 108 yX10_feedFour, Cond.instanceMethod yX10_feedFour, Cond.selects RX10 yX10_feedFour yX10_feedFour, Cond.initialized RX10, Cond.methodLink RL 13 yX10_feed, Cond.instanceMethod yX10_feed, Cond.selects RX10 yX10_feed yX10_feed, Cond.code yX11_feed cX11_feed 6 (some .int), Cond.fieldLink RX11 7 "CodePressModel" "taped" "I", Cond.code yX11_four cX11_four 3 none, Cond.fieldLink RX11 3 "CodePressModel" "tape" "[I", Cond.methodLink RX11 11 yX11_four, Cond.instanceMethod yX11_four, Cond.selects RX11 yX11_four yX11_four, Cond.initialized RX11, Cond.methodLink RL 17 yX11_feed, Cond.instanceMethod yX11_feed, Cond.selects RX11 yX11_feed yX11_feed, Cond.code yX10_load cX10_load 4 (some .int), Cond.fieldLink RX10 23 "CodePress" "code" "LCodePress$Code;"]
def wq_law_r2 : List Cond := [Cond.fieldLink RX10 112 "CodePress$Code" "known" "I", Cond.code yX10_startText cX10_startText 2 (some .int), Cond.code yX1_startHalf cX1_startHalf 2 none, Cond.fieldLink RX1 44 "CodePress$Code" "used" "I", Cond.fieldLink RX1 40 "CodePress$Code" "limit" "I", Cond.methodLink RX10 191 yX1_startHalf, Cond.instanceMethod yX1_startHalf, Cond.selects RX1 yX1_startHalf yX1_startHalf, Cond.initialized RX1, Cond.fieldLink RX10 16 "CodePress" "types" "LCodePress$Types;", Cond.code yX8_startHalf cX8_startHalf 2 none, Cond.fieldLink RX8 28 "CodePress$Types" "used" "I", Cond.fieldLink RX8 32 "CodePress$Types" "limit" "I", Cond.methodLink RX10 194 yX8_startHalf, Cond.instanceMethod yX8_startHalf, Cond.selects RX8 yX8_startHalf yX8_startHalf, Cond.initialized RX8, Cond.fieldLink RX10 195 "CodePress$Code" "used" "I", Cond.methodLink RX10 115 yX10_startText, Cond.instanceMethod yX10_startText, Cond.selects RX10 yX10_startText yX10_startText, Cond.code yX1_startDefs cX1_startDefs 2 none, Cond.fieldLink RX1 47 "CodePress$Code" "known" "I", Cond.fieldLink RX1 37 "CodePress$Code" "defCount" "[I"]
def wq_law_r3 : List Cond := [Cond.methodLink RX10 119 yX1_startDefs, Cond.instanceMethod yX1_startDefs, Cond.selects RX1 yX1_startDefs yX1_startDefs, Cond.fieldLink RX10 51 "CodePress" "parser" "LCodePress$Parser;", Cond.code yX5_readProgram cX5_readProgram 3 none, Cond.code yX5_start cX5_start 2 none, Cond.fieldLink RX5 49 "CodePress$Parser" "tokens" "I", Cond.fieldLink RX5 52 "CodePress$Parser" "open" "I", Cond.fieldLink RX5 55 "CodePress$Parser" "fault" "I", Cond.fieldLink RX5 58 "CodePress$Parser" "place" "I", Cond.fieldLink RX5 9 "CodePress$Parser" "lexer" "LCodePress$Lexer;", Cond.code yX2_read cX2_read 3 none, Cond.fieldLink RX2 28 "CodePress$Lexer" "text" "[B", Cond.methodLink RX2 44 Lib.Math.min.name, Cond.static Lib.Math.min.name, Cond.initialized "java/lang/Math", Cond.code Lib.Math.min.name Lib.Math.min.code 2 (some .int), Cond.fieldLink RX2 50 "CodePress$Lexer" "size" "I", Cond.fieldLink RX2 54 "CodePress$Lexer" "pos" "I", Cond.fieldLink RX2 57 "CodePress$Lexer" "kind" "I", Cond.code yX2_next cX2_next 1 none, Cond.fieldLink RX2 63 "CodePress$Lexer" "at" "I", Cond.methodLink RX2 60 yX2_next, Cond.instanceMethod yX2_next]
def wq_law_r4 : List Cond := [Cond.selects RX2 yX2_next yX2_next, Cond.initialized RX2, Cond.fieldLink RX2 15 "CodePress$Lexer" "kinds" "[I", Cond.fieldLink RX2 19 "CodePress$Lexer" "places" "[I", Cond.fieldLink RX2 22 "CodePress$Lexer" "numbers" "[I", Cond.fieldLink RX2 66 "CodePress$Lexer" "number" "I", Cond.fieldLink RX2 25 "CodePress$Lexer" "names" "[J", Cond.fieldLink RX2 69 "CodePress$Lexer" "name" "J", Cond.methodLink RX5 61 yX2_read, Cond.instanceMethod yX2_read, Cond.selects RX2 yX2_read yX2_read, Cond.fieldLink RX5 64 "CodePress$Lexer" "kinds" "[I", Cond.fieldLink RX5 27 "CodePress$Parser" "kind" "I", Cond.fieldLink RX5 68 "CodePress$Lexer" "places" "[I", Cond.fieldLink RX5 71 "CodePress$Parser" "at" "I", Cond.methodLink RX5 23 yX5_start, Cond.instanceMethod yX5_start, Cond.selects RX5 yX5_start yX5_start, Cond.initialized RX5, Cond.methodLink RX10 122 yX5_readProgram, Cond.instanceMethod yX5_readProgram, Cond.selects RX5 yX5_readProgram yX5_readProgram, Cond.code yX10_isSound cX10_isSound 2 (some .boolean), Cond.fieldLink RX10 198 "CodePress$Parser" "fault" "I"]
def wq_law_r5 : List Cond := [Cond.fieldLink RX10 156 "CodePress" "faultKind" "I", Cond.fieldLink RX10 201 "CodePress$Parser" "place" "I", Cond.fieldLink RX10 101 "CodePress" "faultPlace" "I", Cond.fieldLink RX10 60 "CodePress" "typer" "LCodePress$Typer;", Cond.code yX7_check cX7_check 4 none, Cond.fieldLink RX7 36 "CodePress$Typer" "top" "I", Cond.fieldLink RX7 40 "CodePress$Typer" "told" "I", Cond.fieldLink RX7 43 "CodePress$Typer" "level" "I", Cond.fieldLink RX7 46 "CodePress$Typer" "fault" "I", Cond.fieldLink RX7 49 "CodePress$Typer" "place" "I", Cond.methodLink RX10 204 yX7_check, Cond.instanceMethod yX7_check, Cond.selects RX7 yX7_check yX7_check, Cond.initialized RX7, Cond.fieldLink RX10 207 "CodePress$Typer" "fault" "I", Cond.fieldLink RX10 208 "CodePress$Typer" "place" "I", Cond.methodLink RX10 125 yX10_isSound, Cond.instanceMethod yX10_isSound, Cond.selects RX10 yX10_isSound yX10_isSound, Cond.fieldLink RX10 129 "CodePress$Code" "defCount" "[I", Cond.methodLink RL 18 yX10_load, Cond.instanceMethod yX10_load, Cond.selects RX10 yX10_load yX10_load, Cond.code yX11_load cX11_load 4 (some .int)]
def wq_law_r6 : List Cond := [Cond.fieldLink RX11 438 "CodePressModel" "half" "I", Cond.fieldLink RX11 432 "CodePressModel" "draft" "I", Cond.fieldLink RX11 429 "CodePressModel" "reading" "I", Cond.code yX11_opensText cX11_opensText 5 none, Cond.code yX11_cut cX11_cut 4 none, Cond.fieldLink RX11 257 "CodePressModel" "bytes" "I", Cond.fieldLink RX11 260 "CodePressModel" "tokens" "I", Cond.code yX11_token cX11_token 4 none, Cond.fieldLink RX11 25 "CodePressModel" "sort" "[I", Cond.fieldLink RX11 28 "CodePressModel" "at" "[I", Cond.fieldLink RX11 31 "CodePressModel" "value" "[I", Cond.fieldLink RX11 34 "CodePressModel" "name" "[J", Cond.methodLink RX11 274 yX11_token, Cond.instanceMethod yX11_token, Cond.selects RX11 yX11_token yX11_token, Cond.methodLink RX11 435 yX11_cut, Cond.instanceMethod yX11_cut, Cond.selects RX11 yX11_cut yX11_cut, Cond.fieldLink RX11 325 "CodePressModel" "t" "I", Cond.fieldLink RX11 342 "CodePressModel" "open" "I", Cond.fieldLink RX11 319 "CodePressModel" "fault" "I", Cond.fieldLink RX11 310 "CodePressModel" "nodes" "I", Cond.fieldLink RX11 293 "CodePressModel" "types" "I", Cond.fieldLink RX11 313 "CodePressModel" "items" "I"]
def wq_law_r7 : List Cond := [Cond.methodLink RX11 441 yX11_opensText, Cond.instanceMethod yX11_opensText, Cond.selects RX11 yX11_opensText yX11_opensText, Cond.code yX11_good cX11_good 1 (some .boolean), Cond.methodLink RX11 332 yX11_good, Cond.instanceMethod yX11_good, Cond.selects RX11 yX11_good yX11_good, Cond.fieldLink RX11 451 "CodePressModel" "toldFault" "I", Cond.fieldLink RX11 112 "CodePressModel" "toldPlace" "I", Cond.fieldLink RX11 454 "CodePressModel" "defs" "I", Cond.methodLink RL 22 yX11_load, Cond.instanceMethod yX11_load, Cond.selects RX11 yX11_load yX11_load, Cond.code yX10_ask cX10_ask 6 (some .int), Cond.methodLink RL 23 yX10_ask, Cond.instanceMethod yX10_ask, Cond.selects RX10 yX10_ask yX10_ask, Cond.code yX11_ask cX11_ask 7 (some .int), Cond.methodLink RL 27 yX11_ask, Cond.instanceMethod yX11_ask, Cond.selects RX11 yX11_ask yX11_ask, Cond.code yX5_readQuestion cX5_readQuestion 2 none, Cond.code yX5_readE cX5_readE 1 none, Cond.code yX5_readC cX5_readC 14 none]
def wq_law_r8 : List Cond := [Cond.fieldLink RX5 15 "CodePress$Parser" "code" "LCodePress$Code;", Cond.fieldLink RX5 154 "CodePress$Code" "used" "I", Cond.code yX5_readA cX5_readA 4 none, Cond.code yX5_readU cX5_readU 1 none, Cond.code yX5_fail cX5_fail 2 none, Cond.methodLink RX5 37 yX5_fail, Cond.instanceMethod yX5_fail, Cond.selects RX5 yX5_fail yX5_fail, Cond.methodLink RX5 171 yX5_readU, Cond.instanceMethod yX5_readU, Cond.selects RX5 yX5_readU yX5_readU, Cond.code yX5_beginsU cX5_beginsU 1 (some .boolean), Cond.methodLink RX5 174 yX5_beginsU, Cond.instanceMethod yX5_beginsU, Cond.selects RX5 yX5_beginsU yX5_beginsU, Cond.methodLink RX5 164 yX5_readA, Cond.instanceMethod yX5_readA, Cond.selects RX5 yX5_readA yX5_readA, Cond.code yX5_joinSign cX5_joinSign 5 none, Cond.methodLink RX5 167 yX5_joinSign, Cond.instanceMethod yX5_joinSign, Cond.selects RX5 yX5_joinSign yX5_joinSign, Cond.methodLink RX5 151 yX5_readC, Cond.instanceMethod yX5_readC]
def wq_law_r9 : List Cond := [Cond.selects RX5 yX5_readC yX5_readC, Cond.methodLink RX5 40 yX5_readE, Cond.instanceMethod yX5_readE, Cond.selects RX5 yX5_readE yX5_readE, Cond.code yX1_emit cX1_emit 4 (some .int), Cond.fieldLink RX1 11 "CodePress$Code" "op" "[I", Cond.fieldLink RX1 15 "CodePress$Code" "a" "[I", Cond.fieldLink RX1 18 "CodePress$Code" "b" "[I", Cond.fieldLink RX1 21 "CodePress$Code" "id" "[I", Cond.fieldLink RX1 24 "CodePress$Code" "at" "[I", Cond.fieldLink RX1 27 "CodePress$Code" "begins" "[I", Cond.fieldLink RX1 30 "CodePress$Code" "name" "[J", Cond.methodLink RX5 45 yX1_emit, Cond.instanceMethod yX1_emit, Cond.selects RX1 yX1_emit yX1_emit, Cond.methodLink RX10 132 yX5_readQuestion, Cond.instanceMethod yX5_readQuestion, Cond.selects RX5 yX5_readQuestion yX5_readQuestion, Cond.code yX11_readE cX11_readE 3 (some .int), Cond.code yX11_isWord cX11_isWord 2 (some .boolean), Cond.methodLink RX11 357 yX11_isWord, Cond.instanceMethod yX11_isWord, Cond.selects RX11 yX11_isWord yX11_isWord, Cond.code yX11_readC cX11_readC 6 (some .int)]
def wq_law_r10 : List Cond := [Cond.code yX11_readS cX11_readS 6 (some .int), Cond.code yX11_readP cX11_readP 6 (some .int), Cond.code yX11_readA cX11_readA 5 (some .int), Cond.code yX11_readU cX11_readU 5 (some .int), Cond.code yX11_beginsU cX11_beginsU 1 (some .boolean), Cond.methodLink RX11 423 yX11_beginsU, Cond.instanceMethod yX11_beginsU, Cond.selects RX11 yX11_beginsU yX11_beginsU, Cond.code yX11_failsHere cX11_failsHere 2 none, Cond.code yX11_fails cX11_fails 3 none, Cond.fieldLink RX11 322 "CodePressModel" "place" "I", Cond.methodLink RX11 328 yX11_fails, Cond.instanceMethod yX11_fails, Cond.selects RX11 yX11_fails yX11_fails, Cond.methodLink RX11 336 yX11_failsHere, Cond.instanceMethod yX11_failsHere, Cond.selects RX11 yX11_failsHere yX11_failsHere, Cond.methodLink RX11 420 yX11_readU, Cond.instanceMethod yX11_readU, Cond.selects RX11 yX11_readU yX11_readU, Cond.fieldLink RX11 385 "CodePressModel" "from" "I", Cond.methodLink RX11 417 yX11_readA, Cond.instanceMethod yX11_readA, Cond.selects RX11 yX11_readA yX11_readA]
def wq_law_r11 : List Cond := [Cond.code yX11_isSign cX11_isSign 2 (some .boolean), Cond.methodLink RX11 348 yX11_isSign, Cond.instanceMethod yX11_isSign, Cond.selects RX11 yX11_isSign yX11_isSign, Cond.methodLink RX11 414 yX11_readP, Cond.instanceMethod yX11_readP, Cond.selects RX11 yX11_readP yX11_readP, Cond.methodLink RX11 407 yX11_readS, Cond.instanceMethod yX11_readS, Cond.selects RX11 yX11_readS yX11_readS, Cond.methodLink RX11 382 yX11_readC, Cond.instanceMethod yX11_readC, Cond.selects RX11 yX11_readC yX11_readC, Cond.methodLink RX11 391 yX11_readE, Cond.instanceMethod yX11_readE, Cond.selects RX11 yX11_readE yX11_readE, Cond.fieldLink RX11 457 "CodePressModel" "scope" "I", Cond.fieldLink RX11 469 "CodePressModel" "bottom" "I", Cond.fieldLink RX11 460 "CodePressModel" "level" "I", Cond.fieldLink RX11 463 "CodePressModel" "dFrom" "I", Cond.fieldLink RX11 466 "CodePressModel" "dKnown" "I", Cond.code yX11_typeOf cX11_typeOf 3 (some .int), Cond.methodLink RX11 482 yX11_typeOf, Cond.instanceMethod yX11_typeOf]
def wq_law_r12 : List Cond := [Cond.selects RX11 yX11_typeOf yX11_typeOf, Cond.code yX10_fault cX10_fault 2 (some .int), Cond.methodLink RL 28 yX10_fault, Cond.instanceMethod yX10_fault, Cond.selects RX10 yX10_fault yX10_fault, Cond.code yX11_fault cX11_fault 2 (some .int), Cond.methodLink RL 31 yX11_fault, Cond.instanceMethod yX11_fault, Cond.selects RX11 yX11_fault yX11_fault, Cond.code yX10_told cX10_told 2 (some .int), Cond.fieldLink RX10 97 "CodePress" "tale" "[I", Cond.methodLink RL 32 yX10_told, Cond.instanceMethod yX10_told, Cond.selects RX10 yX10_told yX10_told, Cond.code yX11_told cX11_told 2 (some .int), Cond.fieldLink RX11 230 "CodePressModel" "answer" "I", Cond.methodLink RL 35 yX11_told, Cond.instanceMethod yX11_told, Cond.selects RX11 yX11_told yX11_told, Cond.fieldLink RX11 754 "CodePressModel" "toldSteps" "I", Cond.fieldLink RX11 757 "CodePressModel" "toldParts" "I", Cond.fieldLink RX11 760 "CodePressModel" "toldBegun" "I", Cond.fieldLink RX11 233 "CodePressModel" "valueKind" "I", Cond.fieldLink RX11 766 "CodePressModel" "valueInt" "I"]
def wq_law_r13 : List Cond := [Cond.fieldLink RX11 769 "CodePressModel" "valueSize" "I", Cond.fieldLink RX11 772 "CodePressModel" "valueHeight" "I", Cond.code yX10_type cX10_type 3 (some .int), Cond.fieldLink RX10 159 "CodePress" "asked" "Z", Cond.methodLink RL 36 yX10_type, Cond.instanceMethod yX10_type, Cond.selects RX10 yX10_type yX10_type, Cond.code yX11_type cX11_type 3 (some .int), Cond.fieldLink RX11 218 "CodePressModel" "askedType" "[I", Cond.fieldLink RX11 221 "CodePressModel" "askedTypes" "I", Cond.code yX11_gives0 cX11_gives0 4 (some .int), Cond.methodLink RX11 781 yX11_gives0, Cond.instanceMethod yX11_gives0, Cond.selects RX11 yX11_gives0 yX11_gives0, Cond.methodLink RL 40 yX11_type, Cond.instanceMethod yX11_type, Cond.selects RX11 yX11_type yX11_type, Cond.code yX10_value cX10_value 1 (some .int), Cond.fieldLink RX10 142 "CodePress" "hasValue" "Z", Cond.methodLink RL 41 yX10_value, Cond.instanceMethod yX10_value, Cond.selects RX10 yX10_value yX10_value, Cond.code yX11_value cX11_value 1 (some .int), Cond.fieldLink RX11 224 "CodePressModel" "askedValue" "[I"]
def wq_law_r14 : List Cond := [Cond.fieldLink RX11 227 "CodePressModel" "askedValues" "I", Cond.methodLink RL 45 yX11_value, Cond.instanceMethod yX11_value, Cond.selects RX11 yX11_value yX11_value, Cond.code yX10_out cX10_out 2 (some .int), Cond.methodLink RL 46 yX10_out, Cond.instanceMethod yX10_out, Cond.selects RX10 yX10_out yX10_out, Cond.code yX11_out cX11_out 2 (some .int), Cond.methodLink RL 49 yX11_out, Cond.instanceMethod yX11_out, Cond.selects RX11 yX11_out yX11_out, Cond.fieldLink RX10 87 "CodePress" "shown" "LCodePress$Writer;", Cond.fieldLink RX10 166 "CodePress$Writer" "size" "I", Cond.fieldLink RX11 778 "CodePressModel" "outs" "I", Cond.code yX10_count cX10_count 2 (some .int), Cond.methodLink RL 50 yX10_count, Cond.instanceMethod yX10_count, Cond.selects RX10 yX10_count yX10_count, Cond.code yX11_count cX11_count 2 (some .int), Cond.methodLink RL 53 yX11_count, Cond.instanceMethod yX11_count, Cond.selects RX11 yX11_count yX11_count, Cond.fieldLink RX10 188 "CodePress" "gaveValue" "I"]
def wq_law_r15 : List Cond := [Cond.fieldLink RX11 775 "CodePressModel" "gave" "I", Cond.classLink RL 7 RX10, Cond.instantiable RX10 19, Cond.code yX10_init cX10_init 1 none, Cond.methodLink RX10 1 objectInit, Cond.instanceMethod objectInit, Cond.code objectInit ⟨#[0xb1]⟩ 1 none, Cond.arrayClass .byte, Cond.classLink RX10 13 RX8, Cond.instantiable RX8 7, Cond.code yX8_init cX8_init 1 none, Cond.methodLink RX8 5 objectInit, Cond.arrayClass .int, Cond.fieldLink RX8 11 "CodePress$Types" "kind" "[I", Cond.fieldLink RX8 15 "CodePress$Types" "left" "[I", Cond.fieldLink RX8 18 "CodePress$Types" "right" "[I", Cond.fieldLink RX8 21 "CodePress$Types" "parts" "[I", Cond.arrayClass .boolean, Cond.fieldLink RX8 24 "CodePress$Types" "plain" "[Z", Cond.methodLink RX10 15 yX8_init, Cond.instanceMethod yX8_init, Cond.classLink RX10 20 RX1, Cond.instantiable RX1 12, Cond.code yX1_init cX1_init 1 none]
def wq_law_r16 : List Cond := [Cond.methodLink RX1 5 objectInit, Cond.arrayClass .long, Cond.fieldLink RX1 34 "CodePress$Code" "defs" "[I", Cond.instanceMethod yX1_init, Cond.classLink RX10 27 RX4, Cond.instantiable RX4 13, Cond.initialized RX4, Cond.code yX4_init cX4_init 1 none, Cond.methodLink RX4 3 objectInit, Cond.fieldLink RX4 11 "CodePress$Nodes" "kind" "[I", Cond.fieldLink RX4 15 "CodePress$Nodes" "what" "[I", Cond.fieldLink RX4 18 "CodePress$Nodes" "more" "[I", Cond.fieldLink RX4 21 "CodePress$Nodes" "first" "[I", Cond.fieldLink RX4 24 "CodePress$Nodes" "second" "[I", Cond.fieldLink RX4 27 "CodePress$Nodes" "third" "[I", Cond.fieldLink RX4 30 "CodePress$Nodes" "size" "[I", Cond.fieldLink RX4 33 "CodePress$Nodes" "height" "[I", Cond.fieldLink RX4 36 "CodePress$Nodes" "kept" "[I", Cond.fieldLink RX4 39 "CodePress$Nodes" "number" "[I", Cond.instanceMethod yX4_init, Cond.fieldLink RX10 30 "CodePress" "nodes" "LCodePress$Nodes;", Cond.classLink RX10 34 RX6, Cond.instantiable RX6 15, Cond.initialized RX6]
def wq_law_r17 : List Cond := [Cond.code yX6_init cX6_init 1 none, Cond.methodLink RX6 3 objectInit, Cond.fieldLink RX6 11 "CodePress$Store" "tag" "[I", Cond.fieldLink RX6 15 "CodePress$Store" "val" "[I", Cond.fieldLink RX6 18 "CodePress$Store" "up" "[I", Cond.fieldLink RX6 21 "CodePress$Store" "linkId" "[I", Cond.fieldLink RX6 24 "CodePress$Store" "linkTag" "[I", Cond.fieldLink RX6 27 "CodePress$Store" "linkVal" "[I", Cond.fieldLink RX6 30 "CodePress$Store" "cellA" "[I", Cond.fieldLink RX6 33 "CodePress$Store" "cellB" "[I", Cond.fieldLink RX6 36 "CodePress$Store" "cellC" "[I", Cond.fieldLink RX6 39 "CodePress$Store" "cellD" "[I", Cond.instanceMethod yX6_init, Cond.fieldLink RX10 37 "CodePress" "store" "LCodePress$Store;", Cond.classLink RX10 41 RX5, Cond.instantiable RX5 11, Cond.classLink RX10 43 RX2, Cond.instantiable RX2 12, Cond.code yX2_init cX2_init 7 none, Cond.methodLink RX2 3 objectInit, Cond.fieldLink RX2 11 "CodePress$Lexer" "words" "[J", Cond.code yJ0_length_8abf5 cJ0_length_8abf5 1 (some .int), Cond.fieldLink RJ0 9 "java/lang/String" "value" "[B", Cond.code yJ0_coder_7d493 cJ0_coder_7d493 1 (some .byte)]
def wq_law_r18 : List Cond := [Cond.fieldLink RJ0 38 "java/lang/String" "COMPACT_STRINGS" "Z", Cond.fieldLink RJ0 15 "java/lang/String" "coder" "B", Cond.methodLink RJ0 335 yJ0_coder_7d493, Cond.instanceMethod yJ0_coder_7d493, Cond.selects RJ0 yJ0_coder_7d493 yJ0_coder_7d493, Cond.initialized RJ0, Cond.methodLink RX2 34 yJ0_length_8abf5, Cond.instanceMethod yJ0_length_8abf5, Cond.selects RJ0 yJ0_length_8abf5 yJ0_length_8abf5, Cond.code yJ0_charAt_5068e cJ0_charAt_5068e 2 (some .char), Cond.code yJ0_isLatin1_aae02 cJ0_isLatin1_aae02 1 (some .boolean), Cond.methodLink RJ0 492 yJ0_isLatin1_aae02, Cond.instanceMethod yJ0_isLatin1_aae02, Cond.selects RJ0 yJ0_isLatin1_aae02 yJ0_isLatin1_aae02, Cond.code yJ1_charAt_3b067 cJ1_charAt_3b067 2 (some .char), Cond.code yJ0_checkIndex_df160 cJ0_checkIndex_df160 2 none, Cond.fieldLink RJ0 1053 "jdk/internal/util/Preconditions" "SIOOBE_FORMATTER" "Ljava/util/function/BiFunction;", Cond.code yJ3_checkIndex_8e157 cJ3_checkIndex_8e157 3 (some .int), Cond.methodLink RJ0 1059 yJ3_checkIndex_8e157, Cond.static yJ3_checkIndex_8e157, Cond.initialized RJ3, Cond.methodLink RJ1 9 yJ0_checkIndex_df160, Cond.static yJ0_checkIndex_df160, Cond.methodLink RJ0 495 yJ1_charAt_3b067]
def wq_law_r19 : List Cond := [Cond.static yJ1_charAt_3b067, Cond.initialized RJ1, Cond.methodLink RX2 40 yJ0_charAt_5068e, Cond.instanceMethod yJ0_charAt_5068e, Cond.selects RJ0 yJ0_charAt_5068e yJ0_charAt_5068e, Cond.methodLink RX10 45 yX2_init, Cond.instanceMethod yX2_init, Cond.code yX5_init cX5_init 4 none, Cond.methodLink RX5 3 objectInit, Cond.fieldLink RX5 19 "CodePress$Parser" "types" "LCodePress$Types;", Cond.methodLink RX10 48 yX5_init, Cond.instanceMethod yX5_init, Cond.classLink RX10 55 RX7, Cond.instantiable RX7 12, Cond.code yX7_init cX7_init 3 none, Cond.methodLink RX7 3 objectInit, Cond.fieldLink RX7 11 "CodePress$Typer" "stack" "[I", Cond.fieldLink RX7 15 "CodePress$Typer" "toldName" "[J", Cond.fieldLink RX7 19 "CodePress$Typer" "toldType" "[I", Cond.fieldLink RX7 22 "CodePress$Typer" "toldLevel" "[I", Cond.fieldLink RX7 25 "CodePress$Typer" "toldId" "[I", Cond.fieldLink RX7 28 "CodePress$Typer" "code" "LCodePress$Code;", Cond.fieldLink RX7 32 "CodePress$Typer" "types" "LCodePress$Types;", Cond.methodLink RX10 57 yX7_init]
def wq_law_r20 : List Cond := [Cond.instanceMethod yX7_init, Cond.classLink RX10 64 RX0, Cond.instantiable RX0 5, Cond.initialized RX0, Cond.code yX0_init cX0_init 4 none, Cond.methodLink RX0 3 objectInit, Cond.fieldLink RX0 9 "CodePress$Builder" "code" "LCodePress$Code;", Cond.fieldLink RX0 15 "CodePress$Builder" "nodes" "LCodePress$Nodes;", Cond.fieldLink RX0 19 "CodePress$Builder" "store" "LCodePress$Store;", Cond.methodLink RX10 66 yX0_init, Cond.instanceMethod yX0_init, Cond.fieldLink RX10 69 "CodePress" "builder" "LCodePress$Builder;", Cond.classLink RX10 73 RX3, Cond.instantiable RX3 13, Cond.initialized RX3, Cond.code yX3_init cX3_init 4 none, Cond.methodLink RX3 3 objectInit, Cond.fieldLink RX3 9 "CodePress$Machine" "backTo" "[I", Cond.fieldLink RX3 15 "CodePress$Machine" "backChain" "[I", Cond.fieldLink RX3 18 "CodePress$Machine" "code" "LCodePress$Code;", Cond.fieldLink RX3 22 "CodePress$Machine" "store" "LCodePress$Store;", Cond.fieldLink RX3 26 "CodePress$Machine" "builder" "LCodePress$Builder;", Cond.methodLink RX10 75 yX3_init, Cond.instanceMethod yX3_init]
def wq_law_r21 : List Cond := [Cond.fieldLink RX10 78 "CodePress" "machine" "LCodePress$Machine;", Cond.classLink RX10 82 RX9, Cond.instantiable RX9 8, Cond.initialized RX9, Cond.code yX9_init cX9_init 6 none, Cond.methodLink RX9 3 objectInit, Cond.fieldLink RX9 9 "CodePress$Writer" "text" "[B", Cond.fieldLink RX9 15 "CodePress$Writer" "code" "LCodePress$Code;", Cond.fieldLink RX9 19 "CodePress$Writer" "types" "LCodePress$Types;", Cond.fieldLink RX9 23 "CodePress$Writer" "nodes" "LCodePress$Nodes;", Cond.fieldLink RX9 27 "CodePress$Writer" "store" "LCodePress$Store;", Cond.methodLink RX10 84 yX9_init, Cond.instanceMethod yX9_init, Cond.fieldLink RX10 91 "CodePress" "valueText" "LCodePress$Writer;", Cond.fieldLink RX10 94 "CodePress" "typeText" "LCodePress$Writer;", Cond.methodLink RL 9 yX10_init, Cond.instanceMethod yX10_init, Cond.classLink RL 10 RX11, Cond.instantiable RX11 122, Cond.code yX11_init cX11_init 6 none, Cond.methodLink RX11 15 objectInit, Cond.fieldLink RX11 21 "CodePressModel" "words" "[J", Cond.fieldLink RX11 37 "CodePressModel" "tKind" "[I", Cond.fieldLink RX11 40 "CodePressModel" "tA" "[I"]
def wq_law_r22 : List Cond := [Cond.fieldLink RX11 43 "CodePressModel" "tB" "[I", Cond.fieldLink RX11 46 "CodePressModel" "kind" "[I", Cond.fieldLink RX11 49 "CodePressModel" "one" "[I", Cond.fieldLink RX11 52 "CodePressModel" "two" "[I", Cond.fieldLink RX11 55 "CodePressModel" "three" "[I", Cond.fieldLink RX11 58 "CodePressModel" "own" "[I", Cond.fieldLink RX11 61 "CodePressModel" "own2" "[I", Cond.fieldLink RX11 64 "CodePressModel" "takes" "[I", Cond.fieldLink RX11 67 "CodePressModel" "gives" "[I", Cond.fieldLink RX11 70 "CodePressModel" "item" "[I", Cond.fieldLink RX11 73 "CodePressModel" "spot" "[I", Cond.fieldLink RX11 76 "CodePressModel" "first" "[I", Cond.fieldLink RX11 79 "CodePressModel" "second" "[I", Cond.fieldLink RX11 82 "CodePressModel" "letters" "[J", Cond.fieldLink RX11 85 "CodePressModel" "letters2" "[J", Cond.fieldLink RX11 88 "CodePressModel" "size" "[I", Cond.fieldLink RX11 91 "CodePressModel" "height" "[I", Cond.fieldLink RX11 94 "CodePressModel" "iName" "[I", Cond.fieldLink RX11 97 "CodePressModel" "iLetters" "[J", Cond.fieldLink RX11 100 "CodePressModel" "iSpot" "[I", Cond.fieldLink RX11 103 "CodePressModel" "iNode" "[I", Cond.fieldLink RX11 106 "CodePressModel" "iNext" "[I", Cond.fieldLink RX11 109 "CodePressModel" "iType" "[I", Cond.fieldLink RX11 115 "CodePressModel" "dName" "[J"]
def wq_law_r23 : List Cond := [Cond.fieldLink RX11 118 "CodePressModel" "dSpot" "[I", Cond.fieldLink RX11 121 "CodePressModel" "dMany" "[I", Cond.fieldLink RX11 124 "CodePressModel" "dNode" "[I", Cond.fieldLink RX11 127 "CodePressModel" "dType" "[I", Cond.fieldLink RX11 130 "CodePressModel" "dGives" "[I", Cond.fieldLink RX11 133 "CodePressModel" "pLetters" "[J", Cond.fieldLink RX11 136 "CodePressModel" "pSpot" "[I", Cond.fieldLink RX11 139 "CodePressModel" "pType" "[I", Cond.fieldLink RX11 142 "CodePressModel" "pName" "[I", Cond.fieldLink RX11 145 "CodePressModel" "sLetters" "[J", Cond.fieldLink RX11 148 "CodePressModel" "sType" "[I", Cond.fieldLink RX11 151 "CodePressModel" "sLevel" "[I", Cond.fieldLink RX11 154 "CodePressModel" "sName" "[I", Cond.fieldLink RX11 157 "CodePressModel" "aKind" "[I", Cond.fieldLink RX11 160 "CodePressModel" "aValue" "[I", Cond.fieldLink RX11 163 "CodePressModel" "bKind" "[I", Cond.fieldLink RX11 166 "CodePressModel" "bValue" "[I", Cond.fieldLink RX11 169 "CodePressModel" "fNode" "[I", Cond.fieldLink RX11 172 "CodePressModel" "fNames" "[I", Cond.fieldLink RX11 175 "CodePressModel" "fDef" "[I", Cond.fieldLink RX11 178 "CodePressModel" "fHas" "[I", Cond.fieldLink RX11 181 "CodePressModel" "nName" "[I", Cond.fieldLink RX11 184 "CodePressModel" "nKind" "[I", Cond.fieldLink RX11 187 "CodePressModel" "nValue" "[I"]
def wq_law_r24 : List Cond := [Cond.fieldLink RX11 190 "CodePressModel" "nNext" "[I", Cond.constant RX11 193 (60000), Cond.fieldLink RX11 194 "CodePressModel" "wNode" "[I", Cond.fieldLink RX11 197 "CodePressModel" "wNames" "[I", Cond.fieldLink RX11 200 "CodePressModel" "wLevel" "[I", Cond.fieldLink RX11 203 "CodePressModel" "wStep" "[I", Cond.fieldLink RX11 206 "CodePressModel" "wKind" "[I", Cond.fieldLink RX11 209 "CodePressModel" "wValue" "[I", Cond.fieldLink RX11 212 "CodePressModel" "out" "[I", Cond.fieldLink RX11 215 "CodePressModel" "pen" "[I", Cond.fieldLink RX11 236 "CodePressModel" "toldName" "[I", Cond.fieldLink RX11 239 "CodePressModel" "sees" "[I", Cond.fieldLink RX11 242 "CodePressModel" "seesAs" "[I", Cond.methodLink RX11 247 yJ0_length_8abf5, Cond.methodLink RX11 253 yJ0_charAt_5068e, Cond.methodLink RL 12 yX11_init, Cond.instanceMethod yX11_init]
def wq_law : List Cond := (wq_law_r1 ++ (wq_law_r2 ++ (wq_law_r3 ++ (wq_law_r4 ++ (wq_law_r5 ++ (wq_law_r6 ++ (wq_law_r7 ++ (wq_law_r8 ++ (wq_law_r9 ++ (wq_law_r10 ++ (wq_law_r11 ++ (wq_law_r12 ++ (wq_law_r13 ++ (wq_law_r14 ++ (wq_law_r15 ++ (wq_law_r16 ++ (wq_law_r17 ++ (wq_law_r18 ++ (wq_law_r19 ++ (wq_law_r20 ++ (wq_law_r21 ++ (wq_law_r22 ++ (wq_law_r23 ++ wq_law_r24))))))))))))))))))))))) ++ wsX100 ++ wsX110 ++ wsX10 ++ wsX80 ++ wsX50 ++ wsX20 ++ wsX70 ++ wsX90 ++ wsX40 ++ wsX60 ++ wsX00 ++ wsX30
theorem iq_law_X10 : ∀ w ∈ wsX100, w ∈ wq_law := fun _ h => (List.mem_append_left _ (List.mem_append_left _ (List.mem_append_left _ (List.mem_append_left _ (List.mem_append_left _ (List.mem_append_left _ (List.mem_append_left _ (List.mem_append_left _ (List.mem_append_left _ (List.mem_append_left _ (List.mem_append_left _ (List.mem_append_right _ h))))))))))))
theorem iq_law_X11 : ∀ w ∈ wsX110, w ∈ wq_law := fun _ h => (List.mem_append_left _ (List.mem_append_left _ (List.mem_append_left _ (List.mem_append_left _ (List.mem_append_left _ (List.mem_append_left _ (List.mem_append_left _ (List.mem_append_left _ (List.mem_append_left _ (List.mem_append_left _ (List.mem_append_right _ h)))))))))))
theorem iq_law_X1 : ∀ w ∈ wsX10, w ∈ wq_law := fun _ h => (List.mem_append_left _ (List.mem_append_left _ (List.mem_append_left _ (List.mem_append_left _ (List.mem_append_left _ (List.mem_append_left _ (List.mem_append_left _ (List.mem_append_left _ (List.mem_append_left _ (List.mem_append_right _ h))))))))))
theorem iq_law_X8 : ∀ w ∈ wsX80, w ∈ wq_law := fun _ h => (List.mem_append_left _ (List.mem_append_left _ (List.mem_append_left _ (List.mem_append_left _ (List.mem_append_left _ (List.mem_append_left _ (List.mem_append_left _ (List.mem_append_left _ (List.mem_append_right _ h)))))))))
theorem iq_law_X5 : ∀ w ∈ wsX50, w ∈ wq_law := fun _ h => (List.mem_append_left _ (List.mem_append_left _ (List.mem_append_left _ (List.mem_append_left _ (List.mem_append_left _ (List.mem_append_left _ (List.mem_append_left _ (List.mem_append_right _ h))))))))
theorem iq_law_X2 : ∀ w ∈ wsX20, w ∈ wq_law := fun _ h => (List.mem_append_left _ (List.mem_append_left _ (List.mem_append_left _ (List.mem_append_left _ (List.mem_append_left _ (List.mem_append_left _ (List.mem_append_right _ h)))))))
theorem iq_law_X7 : ∀ w ∈ wsX70, w ∈ wq_law := fun _ h => (List.mem_append_left _ (List.mem_append_left _ (List.mem_append_left _ (List.mem_append_left _ (List.mem_append_left _ (List.mem_append_right _ h))))))
theorem iq_law_X9 : ∀ w ∈ wsX90, w ∈ wq_law := fun _ h => (List.mem_append_left _ (List.mem_append_left _ (List.mem_append_left _ (List.mem_append_left _ (List.mem_append_right _ h)))))
theorem iq_law_X4 : ∀ w ∈ wsX40, w ∈ wq_law := fun _ h => (List.mem_append_left _ (List.mem_append_left _ (List.mem_append_left _ (List.mem_append_right _ h))))
theorem iq_law_X6 : ∀ w ∈ wsX60, w ∈ wq_law := fun _ h => (List.mem_append_left _ (List.mem_append_left _ (List.mem_append_right _ h)))
theorem iq_law_X0 : ∀ w ∈ wsX00, w ∈ wq_law := fun _ h => (List.mem_append_left _ (List.mem_append_right _ h))
theorem iq_law_X3 : ∀ w ∈ wsX30, w ∈ wq_law := fun _ h => (List.mem_append_right _ h)
set_option maxRecDepth 100000 in
theorem law_r1 : GoodIn lw_tbl wq_law_r1 := goodIn_r _ [844, 796, 848, 783, 845, 847, 0, 225, 841, 842, 843, 1719, 1735, 1724, 1734, 1720, 1722, 120, 240, 1716, 1717, 1718, 852, 785] (by decide +kernel) (by decide +kernel)
set_option maxRecDepth 100000 in
theorem law_r2 : GoodIn lw_tbl wq_law_r2 := goodIn_r _ [327, 856, 860, 321, 326, 857, 858, 859, 227, 784, 864, 264, 265, 861, 862, 863, 226, 322, 853, 855, 1, 868, 328, 319] (by decide +kernel) (by decide +kernel)
set_option maxRecDepth 100000 in
theorem law_r3 : GoodIn lw_tbl wq_law_r3 := goodIn_r _ [865, 866, 867, 788, 872, 876, 599, 602, 603, 605, 596, 880, 551, 881, 882, 241, 883, 561, 562, 563, 887, 564, 884, 886] (by decide +kernel) (by decide +kernel)
set_option maxRecDepth 100000 in
theorem law_r4 : GoodIn lw_tbl wq_law_r4 := goodIn_r _ [3, 231, 553, 555, 557, 565, 559, 566, 877, 878, 879, 554, 600, 556, 601, 873, 875, 2, 230, 869, 870, 871, 1118, 604] (by decide +kernel) (by decide +kernel)
set_option maxRecDepth 100000 in
theorem law_r5 : GoodIn lw_tbl wq_law_r5 := goodIn_r _ [797, 606, 798, 789, 1122, 645, 646, 647, 648, 650, 1119, 1120, 1121, 236, 649, 651, 1115, 1117, 39, 320, 849, 850, 851, 2103] (by decide +kernel) (by decide +kernel)
set_option maxRecDepth 100000 in
theorem law_r6 : GoodIn lw_tbl wq_law_r6 := goodIn_r _ [1779, 1791, 1792, 2107, 2111, 1742, 1741, 2129, 1737, 1738, 1739, 1740, 2126, 2128, 125, 2108, 2110, 122, 1772, 1773, 1774, 1763, 1746, 1770] (by decide +kernel) (by decide +kernel)
set_option maxRecDepth 100000 in
theorem law_r7 : GoodIn lw_tbl wq_law_r7 := goodIn_r _ [2104, 2106, 121, 2144, 2141, 2143, 128, 1776, 1777, 1780, 2100, 2101, 2102, 1252, 1249, 1250, 1251, 2344, 2341, 2342, 2343, 1256, 1041, 1078] (by decide +kernel) (by decide +kernel)
set_option maxRecDepth 100000 in
theorem law_r8 : GoodIn lw_tbl wq_law_r8 := goodIn_r _ [597, 325, 1082, 1086, 981, 978, 980, 10, 1083, 1085, 31, 1110, 1107, 1109, 37, 1079, 1081, 30, 1114, 1111, 1113, 38, 1075, 1077] (by decide +kernel) (by decide +kernel)
set_option maxRecDepth 100000 in
theorem law_r9 : GoodIn lw_tbl wq_law_r9 := goodIn_r _ [29, 1038, 1040, 22, 993, 290, 294, 300, 305, 309, 312, 314, 990, 991, 992, 1253, 1254, 1255, 2204, 2152, 2149, 2151, 130, 2240] (by decide +kernel) (by decide +kernel)
set_option maxRecDepth 100000 in
theorem law_r10 : GoodIn lw_tbl wq_law_r10 := goodIn_r _ [2244, 2248, 2252, 2256, 2260, 2257, 2259, 157, 2160, 2164, 1775, 2161, 2163, 133, 2157, 2159, 132, 2253, 2255, 156, 1778, 2249, 2251, 155] (by decide +kernel) (by decide +kernel)
set_option maxRecDepth 100000 in
theorem law_r11 : GoodIn lw_tbl wq_law_r11 := goodIn_r _ [2176, 2173, 2175, 136, 2245, 2247, 154, 2241, 2243, 153, 2237, 2239, 152, 2201, 2203, 143, 1797, 1798, 1799, 1800, 1801, 2292, 2289, 2291] (by decide +kernel) (by decide +kernel)
set_option maxRecDepth 100000 in
theorem law_r12 : GoodIn lw_tbl wq_law_r12 := goodIn_r _ [165, 1688, 1685, 1686, 1687, 2340, 2337, 2338, 2339, 1692, 795, 1689, 1690, 1691, 2560, 1841, 2557, 2558, 2559, 1846, 1847, 1848, 1842, 1843] (by decide +kernel) (by decide +kernel)
set_option maxRecDepth 100000 in
theorem law_r13 : GoodIn lw_tbl wq_law_r13 := goodIn_r _ [1844, 1845, 1696, 800, 1693, 1694, 1695, 2564, 1837, 1838, 2568, 2565, 2567, 223, 2561, 2562, 2563, 1707, 801, 1704, 1705, 1706, 2572, 1839] (by decide +kernel) (by decide +kernel)
set_option maxRecDepth 100000 in
theorem law_r14 : GoodIn lw_tbl wq_law_r14 := goodIn_r _ [1840, 2569, 2570, 2571, 1711, 1708, 1709, 1710, 2576, 2573, 2574, 2575, 792, 762, 1834, 1715, 1712, 1713, 1714, 2580, 2577, 2578, 2579, 799] (by decide +kernel) (by decide +kernel)
set_option maxRecDepth 100000 in
theorem law_r15 : GoodIn lw_tbl wq_law_r15 := goodIn_r _ [1849, 245, 246, 249, 250, 251, 252, 281, 253, 254, 257, 258, 282, 259, 260, 261, 262, 283, 263, 255, 256, 284, 285, 288] (by decide +kernel) (by decide +kernel)
set_option maxRecDepth 100000 in
theorem law_r16 : GoodIn lw_tbl wq_law_r16 := goodIn_r _ [289, 354, 318, 287, 355, 356, 228, 359, 360, 361, 364, 367, 370, 373, 376, 379, 382, 385, 386, 358, 786, 418, 419, 229] (by decide +kernel) (by decide +kernel)
set_option maxRecDepth 100000 in
theorem law_r17 : GoodIn lw_tbl wq_law_r17 := goodIn_r _ [422, 423, 424, 427, 433, 434, 435, 438, 445, 449, 453, 456, 421, 787, 494, 495, 496, 497, 500, 501, 552, 506, 2581, 510] (by decide +kernel) (by decide +kernel)
set_option maxRecDepth 100000 in
theorem law_r18 : GoodIn lw_tbl wq_law_r18 := goodIn_r _ [511, 2582, 507, 508, 509, 232, 503, 504, 505, 516, 520, 517, 518, 519, 523, 526, 527, 531, 529, 530, 234, 524, 525, 521] (by decide +kernel) (by decide +kernel)
set_option maxRecDepth 100000 in
theorem law_r19 : GoodIn lw_tbl wq_law_r19 := goodIn_r _ [522, 233, 513, 514, 515, 498, 499, 594, 595, 598, 592, 593, 632, 633, 636, 637, 640, 641, 642, 643, 644, 638, 639, 634] (by decide +kernel) (by decide +kernel)
set_option maxRecDepth 100000 in
theorem law_r20 : GoodIn lw_tbl wq_law_r20 := goodIn_r _ [635, 677, 678, 237, 681, 682, 683, 684, 685, 679, 680, 790, 701, 702, 238, 705, 706, 710, 711, 707, 708, 709, 703, 704] (by decide +kernel) (by decide +kernel)
set_option maxRecDepth 100000 in
theorem law_r21 : GoodIn lw_tbl wq_law_r21 := goodIn_r _ [791, 749, 750, 239, 753, 754, 759, 755, 756, 757, 758, 751, 752, 793, 794, 247, 248, 1725, 1723, 1728, 1729, 1736, 1743, 1744] (by decide +kernel) (by decide +kernel)
set_option maxRecDepth 100000 in
theorem law_r22 : GoodIn lw_tbl wq_law_r22 := goodIn_r _ [1745, 1747, 1748, 1749, 1750, 1751, 1752, 1753, 1754, 1755, 1756, 1757, 1758, 1759, 1760, 1761, 1762, 1764, 1765, 1766, 1767, 1768, 1769, 1781] (by decide +kernel) (by decide +kernel)
set_option maxRecDepth 100000 in
theorem law_r23 : GoodIn lw_tbl wq_law_r23 := goodIn_r _ [1782, 1783, 1784, 1785, 1786, 1787, 1788, 1789, 1790, 1793, 1794, 1795, 1796, 1802, 1803, 1804, 1805, 1807, 1808, 1809, 1810, 1812, 1813, 1814] (by decide +kernel) (by decide +kernel)
set_option maxRecDepth 100000 in
theorem law_r24 : GoodIn lw_tbl wq_law_r24 := goodIn_r _ [1815, 1730, 1817, 1818, 1819, 1820, 1821, 1822, 1833, 1835, 1850, 1852, 1853, 1732, 1733, 1726, 1727] (by decide +kernel) (by decide +kernel)
set_option maxRecDepth 100000 in
theorem law_uX0 : GoodIn lw_tbl wsX00 := goodIn_r _ [690, 692, 694, 696, 698] (by decide +kernel) (by decide +kernel)
set_option maxRecDepth 100000 in
theorem law_uX1 : GoodIn lw_tbl wsX10 := goodIn_r _ [329, 331, 333, 335, 337, 339, 341, 343, 345, 347, 349, 351] (by decide +kernel) (by decide +kernel)
set_option maxRecDepth 100000 in
theorem law_uX2 : GoodIn lw_tbl wsX20 := goodIn_r _ [567, 569, 571, 573, 575, 577, 579, 581, 583, 585, 587, 589] (by decide +kernel) (by decide +kernel)
set_option maxRecDepth 100000 in
theorem law_uX3 : GoodIn lw_tbl wsX30 := goodIn_r _ [722, 724, 726, 728, 730, 732, 734, 736, 738, 740, 742, 744, 746] (by decide +kernel) (by decide +kernel)
set_option maxRecDepth 100000 in
theorem law_uX4 : GoodIn lw_tbl wsX40 := goodIn_r _ [391, 393, 395, 397, 399, 401, 403, 405, 407, 409, 411, 413, 415] (by decide +kernel) (by decide +kernel)
set_option maxRecDepth 100000 in
theorem law_uX5 : GoodIn lw_tbl wsX50 := goodIn_r _ [609, 611, 613, 615, 617, 619, 621, 623, 625, 627, 629] (by decide +kernel) (by decide +kernel)
set_option maxRecDepth 100000 in
theorem law_uX6 : GoodIn lw_tbl wsX60 := goodIn_r _ [463, 465, 467, 469, 471, 473, 475, 477, 479, 481, 483, 485, 487, 489, 491] (by decide +kernel) (by decide +kernel)
set_option maxRecDepth 100000 in
theorem law_uX7 : GoodIn lw_tbl wsX70 := goodIn_r _ [652, 654, 656, 658, 660, 662, 664, 666, 668, 670, 672, 674] (by decide +kernel) (by decide +kernel)
set_option maxRecDepth 100000 in
theorem law_uX8 : GoodIn lw_tbl wsX80 := goodIn_r _ [266, 268, 270, 272, 274, 276, 278] (by decide +kernel) (by decide +kernel)
set_option maxRecDepth 100000 in
theorem law_uX9 : GoodIn lw_tbl wsX90 := goodIn_r _ [766, 768, 770, 772, 774, 776, 778, 780] (by decide +kernel) (by decide +kernel)
set_option maxRecDepth 100000 in
theorem law_uX10 : GoodIn lw_tbl wsX100 := goodIn_r _ [802, 804, 806, 808, 810, 812, 814, 816, 818, 820, 822, 824, 826, 828, 830, 832, 834, 836, 838] (by decide +kernel) (by decide +kernel)
set_option maxRecDepth 100000 in
theorem law_uX11 : GoodIn lw_tbl wsX110 := goodIn_r _ [1855, 1857, 1859, 1861, 1863, 1865, 1867, 1869, 1871, 1873, 1875, 1877, 1879, 1881, 1883, 1885, 1887, 1889, 1891, 1893, 1895, 1897, 1899, 1901, 1903, 1905, 1907, 1909, 1911, 1913, 1915, 1917, 1919, 1921, 1923, 1925, 1927, 1929, 1931, 1933, 1935, 1937, 1939, 1941, 1943, 1945, 1947, 1949, 1951, 1953, 1955, 1957, 1959, 1961, 1963, 1965, 1967, 1969, 1971, 1973, 1975, 1977, 1979, 1981, 1983, 1985, 1987, 1989, 1991, 1993, 1995, 1997, 1999, 2001, 2003, 2005, 2007, 2009, 2011, 2013, 2015, 2017, 2019, 2021, 2023, 2025, 2027, 2029, 2031, 2033, 2035, 2037, 2039, 2041, 2043, 2045, 2047, 2049, 2051, 2053, 2055, 2057, 2059, 2061, 2063, 2065, 2067, 2069, 2071, 2073, 2075, 2077, 2079, 2081, 2083, 2085, 2087, 2089, 2091, 2093, 2095, 2097] (by decide +kernel) (by decide +kernel)
theorem law_in0 : GoodIn lw_tbl wq_law := (goodIn_app (goodIn_app (goodIn_app (goodIn_app (goodIn_app (goodIn_app (goodIn_app (goodIn_app (goodIn_app (goodIn_app (goodIn_app (goodIn_app (goodIn_app law_r1 (goodIn_app law_r2 (goodIn_app law_r3 (goodIn_app law_r4 (goodIn_app law_r5 (goodIn_app law_r6 (goodIn_app law_r7 (goodIn_app law_r8 (goodIn_app law_r9 (goodIn_app law_r10 (goodIn_app law_r11 (goodIn_app law_r12 (goodIn_app law_r13 (goodIn_app law_r14 (goodIn_app law_r15 (goodIn_app law_r16 (goodIn_app law_r17 (goodIn_app law_r18 (goodIn_app law_r19 (goodIn_app law_r20 (goodIn_app law_r21 (goodIn_app law_r22 (goodIn_app law_r23 law_r24))))))))))))))))))))))) law_uX10) law_uX11) law_uX1) law_uX8) law_uX5) law_uX2) law_uX7) law_uX9) law_uX4) law_uX6) law_uX0) law_uX3)
theorem law_in : ∀ w ∈ wq_law, w ∈ lw_tbl := fun w h => (law_in0 w h).1
set_option maxRecDepth 20000 in
theorem gq_law_X10_feed_13_0 : GoodIn wq_law (Cond.code yX10_feed cX10_feed 6 (some .int) :: wq_X10_feed_r1) := goodIn_r _ [0, 1, 2, 3, 4, 5, 6, 7] (by decide +kernel) (by decide +kernel)
set_option maxRecDepth 20000 in
theorem gq_law_X10_feed_13 : GoodIn wq_law (wsV RL 13 RX10 yX10_feed wq_X10_feed) := goodIn_app (goodIn_r _ [8, 9, 10, 7] (by decide +kernel) (by decide +kernel)) (goodIn_ca gq_law_X10_feed_13_0 (goodIn_sub iq_law_X10 guX10))
set_option maxRecDepth 20000 in
theorem gq_law_X11_feed_17_0 : GoodIn wq_law (Cond.code yX11_feed cX11_feed 6 (some .int) :: wq_X11_feed_r1) := goodIn_r _ [11, 12, 13, 14, 15, 16, 17, 18] (by decide +kernel) (by decide +kernel)
set_option maxRecDepth 20000 in
theorem gq_law_X11_feed_17 : GoodIn wq_law (wsV RL 17 RX11 yX11_feed wq_X11_feed) := goodIn_app (goodIn_r _ [19, 20, 21, 18] (by decide +kernel) (by decide +kernel)) (goodIn_ca gq_law_X11_feed_17_0 (goodIn_sub iq_law_X11 guX11))
set_option maxRecDepth 20000 in
theorem gq_law_X10_load_18_0 : GoodIn wq_law (Cond.code yX10_load cX10_load 4 (some .int) :: (wq_X10_load_r1 ++ (wq_X10_load_r2 ++ (wq_X10_load_r3 ++ wq_X10_load_r4)))) := goodIn_r _ [22, 1, 23, 24, 25, 26, 27, 28, 29, 30, 31, 32, 33, 34, 35, 36, 37, 38, 39, 40, 41, 42, 43, 44, 7, 45, 46, 47, 48, 49, 50, 51, 52, 53, 54, 55, 56, 57, 58, 59, 60, 61, 62, 63, 64, 65, 66, 67, 68, 69, 70, 71, 72, 73, 74, 75, 76, 77, 78, 79, 80, 81, 82, 83, 84, 85, 86, 87, 88, 89, 90, 91, 92, 93, 94, 95, 96, 97, 98, 99, 100, 101, 102, 103, 104, 105, 106, 107, 108, 109, 110, 111, 112, 113, 114, 115] (by decide +kernel) (by decide +kernel)
set_option maxRecDepth 20000 in
theorem gq_law_X10_load_18 : GoodIn wq_law (wsV RL 18 RX10 yX10_load wq_X10_load) := goodIn_app (goodIn_r _ [116, 117, 118, 7] (by decide +kernel) (by decide +kernel)) (goodIn_ca (goodIn_ca (goodIn_ca (goodIn_ca (goodIn_ca (goodIn_ca gq_law_X10_load_18_0 (goodIn_sub iq_law_X10 guX10)) (goodIn_sub iq_law_X1 guX1)) (goodIn_sub iq_law_X8 guX8)) (goodIn_sub iq_law_X5 guX5)) (goodIn_sub iq_law_X2 guX2)) (goodIn_sub iq_law_X7 guX7))
set_option maxRecDepth 20000 in
theorem gq_law_X11_load_22_0 : GoodIn wq_law (Cond.code yX11_load cX11_load 4 (some .int) :: (wq_X11_load_r1 ++ wq_X11_load_r2)) := goodIn_r _ [119, 12, 120, 121, 122, 123, 124, 125, 126, 127, 128, 129, 130, 131, 132, 133, 134, 18, 135, 136, 137, 138, 139, 140, 141, 142, 143, 144, 145, 146, 147, 148, 149, 150, 151, 152, 153] (by decide +kernel) (by decide +kernel)
set_option maxRecDepth 20000 in
theorem gq_law_X11_load_22 : GoodIn wq_law (wsV RL 22 RX11 yX11_load wq_X11_load) := goodIn_app (goodIn_r _ [154, 155, 156, 18] (by decide +kernel) (by decide +kernel)) (goodIn_ca gq_law_X11_load_22_0 (goodIn_sub iq_law_X11 guX11))
set_option maxRecDepth 20000 in
theorem gq_law_X10_load_1_18_0 : GoodIn wq_law (Cond.code yX10_load cX10_load 4 (some .int) :: ([] : List Cond)) := goodIn_r _ [22] (by decide +kernel) (by decide +kernel)
set_option maxRecDepth 20000 in
theorem gq_law_X10_load_1_18 : GoodIn wq_law (wsV RL 18 RX10 yX10_load wq_X10_load_1) := goodIn_app (goodIn_r _ [116, 117, 118, 7] (by decide +kernel) (by decide +kernel)) (gq_law_X10_load_1_18_0 : GoodIn wq_law wq_X10_load_1)
set_option maxRecDepth 20000 in
theorem gq_law_X11_load_1_22_0 : GoodIn wq_law (Cond.code yX11_load cX11_load 4 (some .int) :: ([] : List Cond)) := goodIn_r _ [119] (by decide +kernel) (by decide +kernel)
set_option maxRecDepth 20000 in
theorem gq_law_X11_load_1_22 : GoodIn wq_law (wsV RL 22 RX11 yX11_load wq_X11_load_1) := goodIn_app (goodIn_r _ [154, 155, 156, 18] (by decide +kernel) (by decide +kernel)) (gq_law_X11_load_1_22_0 : GoodIn wq_law wq_X11_load_1)
set_option maxRecDepth 20000 in
theorem gq_law_X10_load_2_18_0 : GoodIn wq_law (Cond.code yX10_load cX10_load 4 (some .int) :: wq_X10_load_2_r1) := goodIn_r _ [22, 1] (by decide +kernel) (by decide +kernel)
set_option maxRecDepth 20000 in
theorem gq_law_X10_load_2_18 : GoodIn wq_law (wsV RL 18 RX10 yX10_load wq_X10_load_2) := goodIn_app (goodIn_r _ [116, 117, 118, 7] (by decide +kernel) (by decide +kernel)) (goodIn_ca gq_law_X10_load_2_18_0 (goodIn_sub iq_law_X10 guX10))
set_option maxRecDepth 20000 in
theorem gq_law_X11_load_2_22_0 : GoodIn wq_law (Cond.code yX11_load cX11_load 4 (some .int) :: wq_X11_load_2_r1) := goodIn_r _ [119, 12] (by decide +kernel) (by decide +kernel)
set_option maxRecDepth 20000 in
theorem gq_law_X11_load_2_22 : GoodIn wq_law (wsV RL 22 RX11 yX11_load wq_X11_load_2) := goodIn_app (goodIn_r _ [154, 155, 156, 18] (by decide +kernel) (by decide +kernel)) (goodIn_ca gq_law_X11_load_2_22_0 (goodIn_sub iq_law_X11 guX11))
set_option maxRecDepth 20000 in
theorem gq_law_X10_ask_23_0 : GoodIn wq_law (Cond.code yX10_ask cX10_ask 6 (some .int) :: ([] : List Cond)) := goodIn_r _ [157] (by decide +kernel) (by decide +kernel)
set_option maxRecDepth 20000 in
theorem gq_law_X10_ask_23 : GoodIn wq_law (wsV RL 23 RX10 yX10_ask wq_X10_ask) := goodIn_app (goodIn_r _ [158, 159, 160, 7] (by decide +kernel) (by decide +kernel)) (gq_law_X10_ask_23_0 : GoodIn wq_law wq_X10_ask)
set_option maxRecDepth 20000 in
theorem gq_law_X11_ask_27_0 : GoodIn wq_law (Cond.code yX11_ask cX11_ask 7 (some .int) :: ([] : List Cond)) := goodIn_r _ [161] (by decide +kernel) (by decide +kernel)
set_option maxRecDepth 20000 in
theorem gq_law_X11_ask_27 : GoodIn wq_law (wsV RL 27 RX11 yX11_ask wq_X11_ask) := goodIn_app (goodIn_r _ [162, 163, 164, 18] (by decide +kernel) (by decide +kernel)) (gq_law_X11_ask_27_0 : GoodIn wq_law wq_X11_ask)
set_option maxRecDepth 20000 in
theorem gq_law_X10_ask_1_23_0 : GoodIn wq_law (Cond.code yX10_ask cX10_ask 6 (some .int) :: wq_X10_ask_1_r1) := goodIn_r _ [157, 1] (by decide +kernel) (by decide +kernel)
set_option maxRecDepth 20000 in
theorem gq_law_X10_ask_1_23 : GoodIn wq_law (wsV RL 23 RX10 yX10_ask wq_X10_ask_1) := goodIn_app (goodIn_r _ [158, 159, 160, 7] (by decide +kernel) (by decide +kernel)) (goodIn_ca gq_law_X10_ask_1_23_0 (goodIn_sub iq_law_X10 guX10))
set_option maxRecDepth 20000 in
theorem gq_law_X11_ask_1_27_0 : GoodIn wq_law (Cond.code yX11_ask cX11_ask 7 (some .int) :: wq_X11_ask_1_r1) := goodIn_r _ [161, 12] (by decide +kernel) (by decide +kernel)
set_option maxRecDepth 20000 in
theorem gq_law_X11_ask_1_27 : GoodIn wq_law (wsV RL 27 RX11 yX11_ask wq_X11_ask_1) := goodIn_app (goodIn_r _ [162, 163, 164, 18] (by decide +kernel) (by decide +kernel)) (goodIn_ca gq_law_X11_ask_1_27_0 (goodIn_sub iq_law_X11 guX11))
set_option maxRecDepth 20000 in
theorem gq_law_X10_ask_2_23_0 : GoodIn wq_law (Cond.code yX10_ask cX10_ask 6 (some .int) :: wq_X10_ask_2_r1) := goodIn_r _ [157, 1] (by decide +kernel) (by decide +kernel)
set_option maxRecDepth 20000 in
theorem gq_law_X10_ask_2_23 : GoodIn wq_law (wsV RL 23 RX10 yX10_ask wq_X10_ask_2) := goodIn_app (goodIn_r _ [158, 159, 160, 7] (by decide +kernel) (by decide +kernel)) (goodIn_ca gq_law_X10_ask_2_23_0 (goodIn_sub iq_law_X10 guX10))
set_option maxRecDepth 20000 in
theorem gq_law_X11_ask_2_27_0 : GoodIn wq_law (Cond.code yX11_ask cX11_ask 7 (some .int) :: wq_X11_ask_2_r1) := goodIn_r _ [161, 12] (by decide +kernel) (by decide +kernel)
set_option maxRecDepth 20000 in
theorem gq_law_X11_ask_2_27 : GoodIn wq_law (wsV RL 27 RX11 yX11_ask wq_X11_ask_2) := goodIn_app (goodIn_r _ [162, 163, 164, 18] (by decide +kernel) (by decide +kernel)) (goodIn_ca gq_law_X11_ask_2_27_0 (goodIn_sub iq_law_X11 guX11))
set_option maxRecDepth 20000 in
theorem gq_law_X10_ask_3_23_0 : GoodIn wq_law (Cond.code yX10_ask cX10_ask 6 (some .int) :: wq_X10_ask_3_r1) := goodIn_r _ [157, 1] (by decide +kernel) (by decide +kernel)
set_option maxRecDepth 20000 in
theorem gq_law_X10_ask_3_23 : GoodIn wq_law (wsV RL 23 RX10 yX10_ask wq_X10_ask_3) := goodIn_app (goodIn_r _ [158, 159, 160, 7] (by decide +kernel) (by decide +kernel)) (goodIn_ca gq_law_X10_ask_3_23_0 (goodIn_sub iq_law_X10 guX10))
set_option maxRecDepth 20000 in
theorem gq_law_X11_ask_3_27_0 : GoodIn wq_law (Cond.code yX11_ask cX11_ask 7 (some .int) :: wq_X11_ask_3_r1) := goodIn_r _ [161, 12] (by decide +kernel) (by decide +kernel)
set_option maxRecDepth 20000 in
theorem gq_law_X11_ask_3_27 : GoodIn wq_law (wsV RL 27 RX11 yX11_ask wq_X11_ask_3) := goodIn_app (goodIn_r _ [162, 163, 164, 18] (by decide +kernel) (by decide +kernel)) (goodIn_ca gq_law_X11_ask_3_27_0 (goodIn_sub iq_law_X11 guX11))
set_option maxRecDepth 20000 in
theorem gq_law_X10_ask_4_23_0 : GoodIn wq_law (Cond.code yX10_ask cX10_ask 6 (some .int) :: (wq_X10_ask_4_r1 ++ (wq_X10_ask_4_r2 ++ (wq_X10_ask_4_r3 ++ (wq_X10_ask_4_r4 ++ wq_X10_ask_4_r5))))) := goodIn_r _ [157, 1, 25, 23, 24, 26, 27, 28, 29, 30, 31, 32, 33, 34, 35, 36, 37, 38, 39, 40, 41, 42, 43, 44, 7, 51, 165, 53, 54, 55, 56, 57, 58, 59, 60, 61, 62, 63, 64, 65, 66, 67, 68, 69, 70, 71, 72, 73, 74, 75, 76, 77, 78, 79, 80, 81, 82, 83, 84, 85, 86, 87, 88, 89, 90, 166, 167, 168, 169, 170, 171, 172, 173, 174, 175, 176, 177, 178, 179, 180, 181, 182, 183, 184, 185, 186, 187, 188, 189, 190, 191, 192, 193, 194, 195, 196, 197, 198, 199, 200, 201, 202, 203, 204, 205, 206, 207, 208, 209, 94, 95, 96, 97, 98, 112, 113, 114] (by decide +kernel) (by decide +kernel)
set_option maxRecDepth 20000 in
theorem gq_law_X10_ask_4_23 : GoodIn wq_law (wsV RL 23 RX10 yX10_ask wq_X10_ask_4) := goodIn_app (goodIn_r _ [158, 159, 160, 7] (by decide +kernel) (by decide +kernel)) (goodIn_ca (goodIn_ca (goodIn_ca (goodIn_ca (goodIn_ca gq_law_X10_ask_4_23_0 (goodIn_sub iq_law_X10 guX10)) (goodIn_sub iq_law_X1 guX1)) (goodIn_sub iq_law_X8 guX8)) (goodIn_sub iq_law_X5 guX5)) (goodIn_sub iq_law_X2 guX2))
set_option maxRecDepth 20000 in
theorem gq_law_X11_ask_4_27_0 : GoodIn wq_law (Cond.code yX11_ask cX11_ask 7 (some .int) :: (wq_X11_ask_4_r1 ++ (wq_X11_ask_4_r2 ++ (wq_X11_ask_4_r3 ++ wq_X11_ask_4_r4)))) := goodIn_r _ [161, 12, 123, 124, 125, 126, 127, 128, 129, 130, 131, 132, 133, 134, 18, 135, 136, 137, 138, 139, 140, 141, 142, 143, 144, 145, 146, 210, 147, 148, 149, 150, 211, 212, 213, 214, 215, 216, 217, 218, 219, 220, 221, 222, 223, 224, 225, 226, 227, 228, 229, 230, 231, 232, 233, 234, 235, 236, 237, 238, 239, 240, 241, 242, 243, 244, 245, 246, 247, 248, 249, 250, 251, 252, 253, 254, 255, 256, 257, 258, 120, 259, 153, 260, 261, 262, 263, 264, 151, 152] (by decide +kernel) (by decide +kernel)
set_option maxRecDepth 20000 in
theorem gq_law_X11_ask_4_27 : GoodIn wq_law (wsV RL 27 RX11 yX11_ask wq_X11_ask_4) := goodIn_app (goodIn_r _ [162, 163, 164, 18] (by decide +kernel) (by decide +kernel)) (goodIn_ca gq_law_X11_ask_4_27_0 (goodIn_sub iq_law_X11 guX11))
set_option maxRecDepth 20000 in
theorem gq_law_X10_fault_28_0 : GoodIn wq_law (Cond.code yX10_fault cX10_fault 2 (some .int) :: wq_X10_fault_r1) := goodIn_r _ [265, 96] (by decide +kernel) (by decide +kernel)
set_option maxRecDepth 20000 in
theorem gq_law_X10_fault_28 : GoodIn wq_law (wsV RL 28 RX10 yX10_fault wq_X10_fault) := goodIn_app (goodIn_r _ [266, 267, 268, 7] (by decide +kernel) (by decide +kernel)) (goodIn_ca gq_law_X10_fault_28_0 (goodIn_sub iq_law_X10 guX10))
set_option maxRecDepth 20000 in
theorem gq_law_X11_fault_31_0 : GoodIn wq_law (Cond.code yX11_fault cX11_fault 2 (some .int) :: wq_X11_fault_r1) := goodIn_r _ [269, 151] (by decide +kernel) (by decide +kernel)
set_option maxRecDepth 20000 in
theorem gq_law_X11_fault_31 : GoodIn wq_law (wsV RL 31 RX11 yX11_fault wq_X11_fault) := goodIn_app (goodIn_r _ [270, 271, 272, 18] (by decide +kernel) (by decide +kernel)) (goodIn_ca gq_law_X11_fault_31_0 (goodIn_sub iq_law_X11 guX11))
set_option maxRecDepth 20000 in
theorem gq_law_X10_fault_1_28_0 : GoodIn wq_law (Cond.code yX10_fault cX10_fault 2 (some .int) :: wq_X10_fault_1_r1) := goodIn_r _ [265, 98] (by decide +kernel) (by decide +kernel)
set_option maxRecDepth 20000 in
theorem gq_law_X10_fault_1_28 : GoodIn wq_law (wsV RL 28 RX10 yX10_fault wq_X10_fault_1) := goodIn_app (goodIn_r _ [266, 267, 268, 7] (by decide +kernel) (by decide +kernel)) (goodIn_ca gq_law_X10_fault_1_28_0 (goodIn_sub iq_law_X10 guX10))
set_option maxRecDepth 20000 in
theorem gq_law_X11_fault_1_31_0 : GoodIn wq_law (Cond.code yX11_fault cX11_fault 2 (some .int) :: wq_X11_fault_1_r1) := goodIn_r _ [269, 152] (by decide +kernel) (by decide +kernel)
set_option maxRecDepth 20000 in
theorem gq_law_X11_fault_1_31 : GoodIn wq_law (wsV RL 31 RX11 yX11_fault wq_X11_fault_1) := goodIn_app (goodIn_r _ [270, 271, 272, 18] (by decide +kernel) (by decide +kernel)) (goodIn_ca gq_law_X11_fault_1_31_0 (goodIn_sub iq_law_X11 guX11))
set_option maxRecDepth 20000 in
theorem gq_law_X10_fault_2_28_0 : GoodIn wq_law (Cond.code yX10_fault cX10_fault 2 (some .int) :: ([] : List Cond)) := goodIn_r _ [265] (by decide +kernel) (by decide +kernel)
set_option maxRecDepth 20000 in
theorem gq_law_X10_fault_2_28 : GoodIn wq_law (wsV RL 28 RX10 yX10_fault wq_X10_fault_2) := goodIn_app (goodIn_r _ [266, 267, 268, 7] (by decide +kernel) (by decide +kernel)) (gq_law_X10_fault_2_28_0 : GoodIn wq_law wq_X10_fault_2)
set_option maxRecDepth 20000 in
theorem gq_law_X11_fault_2_31_0 : GoodIn wq_law (Cond.code yX11_fault cX11_fault 2 (some .int) :: ([] : List Cond)) := goodIn_r _ [269] (by decide +kernel) (by decide +kernel)
set_option maxRecDepth 20000 in
theorem gq_law_X11_fault_2_31 : GoodIn wq_law (wsV RL 31 RX11 yX11_fault wq_X11_fault_2) := goodIn_app (goodIn_r _ [270, 271, 272, 18] (by decide +kernel) (by decide +kernel)) (gq_law_X11_fault_2_31_0 : GoodIn wq_law wq_X11_fault_2)
set_option maxRecDepth 20000 in
theorem gq_law_X10_told_32_0 : GoodIn wq_law (Cond.code yX10_told cX10_told 2 (some .int) :: wq_X10_told_r1) := goodIn_r _ [273, 274] (by decide +kernel) (by decide +kernel)
set_option maxRecDepth 20000 in
theorem gq_law_X10_told_32 : GoodIn wq_law (wsV RL 32 RX10 yX10_told wq_X10_told) := goodIn_app (goodIn_r _ [275, 276, 277, 7] (by decide +kernel) (by decide +kernel)) (goodIn_ca gq_law_X10_told_32_0 (goodIn_sub iq_law_X10 guX10))
set_option maxRecDepth 20000 in
theorem gq_law_X11_told_35_0 : GoodIn wq_law (Cond.code yX11_told cX11_told 2 (some .int) :: wq_X11_told_r1) := goodIn_r _ [278, 279] (by decide +kernel) (by decide +kernel)
set_option maxRecDepth 20000 in
theorem gq_law_X11_told_35 : GoodIn wq_law (wsV RL 35 RX11 yX11_told wq_X11_told) := goodIn_app (goodIn_r _ [280, 281, 282, 18] (by decide +kernel) (by decide +kernel)) (goodIn_ca gq_law_X11_told_35_0 (goodIn_sub iq_law_X11 guX11))
set_option maxRecDepth 20000 in
theorem gq_law_X10_told_1_32_0 : GoodIn wq_law (Cond.code yX10_told cX10_told 2 (some .int) :: wq_X10_told_1_r1) := goodIn_r _ [273, 274] (by decide +kernel) (by decide +kernel)
set_option maxRecDepth 20000 in
theorem gq_law_X10_told_1_32 : GoodIn wq_law (wsV RL 32 RX10 yX10_told wq_X10_told_1) := goodIn_app (goodIn_r _ [275, 276, 277, 7] (by decide +kernel) (by decide +kernel)) (goodIn_ca gq_law_X10_told_1_32_0 (goodIn_sub iq_law_X10 guX10))
set_option maxRecDepth 20000 in
theorem gq_law_X11_told_1_35_0 : GoodIn wq_law (Cond.code yX11_told cX11_told 2 (some .int) :: wq_X11_told_1_r1) := goodIn_r _ [278, 283] (by decide +kernel) (by decide +kernel)
set_option maxRecDepth 20000 in
theorem gq_law_X11_told_1_35 : GoodIn wq_law (wsV RL 35 RX11 yX11_told wq_X11_told_1) := goodIn_app (goodIn_r _ [280, 281, 282, 18] (by decide +kernel) (by decide +kernel)) (goodIn_ca gq_law_X11_told_1_35_0 (goodIn_sub iq_law_X11 guX11))
set_option maxRecDepth 20000 in
theorem gq_law_X10_told_2_32_0 : GoodIn wq_law (Cond.code yX10_told cX10_told 2 (some .int) :: wq_X10_told_2_r1) := goodIn_r _ [273, 274] (by decide +kernel) (by decide +kernel)
set_option maxRecDepth 20000 in
theorem gq_law_X10_told_2_32 : GoodIn wq_law (wsV RL 32 RX10 yX10_told wq_X10_told_2) := goodIn_app (goodIn_r _ [275, 276, 277, 7] (by decide +kernel) (by decide +kernel)) (goodIn_ca gq_law_X10_told_2_32_0 (goodIn_sub iq_law_X10 guX10))
set_option maxRecDepth 20000 in
theorem gq_law_X11_told_2_35_0 : GoodIn wq_law (Cond.code yX11_told cX11_told 2 (some .int) :: wq_X11_told_2_r1) := goodIn_r _ [278, 284] (by decide +kernel) (by decide +kernel)
set_option maxRecDepth 20000 in
theorem gq_law_X11_told_2_35 : GoodIn wq_law (wsV RL 35 RX11 yX11_told wq_X11_told_2) := goodIn_app (goodIn_r _ [280, 281, 282, 18] (by decide +kernel) (by decide +kernel)) (goodIn_ca gq_law_X11_told_2_35_0 (goodIn_sub iq_law_X11 guX11))
set_option maxRecDepth 20000 in
theorem gq_law_X10_told_3_32_0 : GoodIn wq_law (Cond.code yX10_told cX10_told 2 (some .int) :: wq_X10_told_3_r1) := goodIn_r _ [273, 274] (by decide +kernel) (by decide +kernel)
set_option maxRecDepth 20000 in
theorem gq_law_X10_told_3_32 : GoodIn wq_law (wsV RL 32 RX10 yX10_told wq_X10_told_3) := goodIn_app (goodIn_r _ [275, 276, 277, 7] (by decide +kernel) (by decide +kernel)) (goodIn_ca gq_law_X10_told_3_32_0 (goodIn_sub iq_law_X10 guX10))
set_option maxRecDepth 20000 in
theorem gq_law_X11_told_3_35_0 : GoodIn wq_law (Cond.code yX11_told cX11_told 2 (some .int) :: wq_X11_told_3_r1) := goodIn_r _ [278, 285] (by decide +kernel) (by decide +kernel)
set_option maxRecDepth 20000 in
theorem gq_law_X11_told_3_35 : GoodIn wq_law (wsV RL 35 RX11 yX11_told wq_X11_told_3) := goodIn_app (goodIn_r _ [280, 281, 282, 18] (by decide +kernel) (by decide +kernel)) (goodIn_ca gq_law_X11_told_3_35_0 (goodIn_sub iq_law_X11 guX11))
set_option maxRecDepth 20000 in
theorem gq_law_X10_told_4_32_0 : GoodIn wq_law (Cond.code yX10_told cX10_told 2 (some .int) :: wq_X10_told_4_r1) := goodIn_r _ [273, 274] (by decide +kernel) (by decide +kernel)
set_option maxRecDepth 20000 in
theorem gq_law_X10_told_4_32 : GoodIn wq_law (wsV RL 32 RX10 yX10_told wq_X10_told_4) := goodIn_app (goodIn_r _ [275, 276, 277, 7] (by decide +kernel) (by decide +kernel)) (goodIn_ca gq_law_X10_told_4_32_0 (goodIn_sub iq_law_X10 guX10))
set_option maxRecDepth 20000 in
theorem gq_law_X11_told_4_35_0 : GoodIn wq_law (Cond.code yX11_told cX11_told 2 (some .int) :: wq_X11_told_4_r1) := goodIn_r _ [278, 286] (by decide +kernel) (by decide +kernel)
set_option maxRecDepth 20000 in
theorem gq_law_X11_told_4_35 : GoodIn wq_law (wsV RL 35 RX11 yX11_told wq_X11_told_4) := goodIn_app (goodIn_r _ [280, 281, 282, 18] (by decide +kernel) (by decide +kernel)) (goodIn_ca gq_law_X11_told_4_35_0 (goodIn_sub iq_law_X11 guX11))
set_option maxRecDepth 20000 in
theorem gq_law_X10_told_5_32_0 : GoodIn wq_law (Cond.code yX10_told cX10_told 2 (some .int) :: wq_X10_told_5_r1) := goodIn_r _ [273, 274] (by decide +kernel) (by decide +kernel)
set_option maxRecDepth 20000 in
theorem gq_law_X10_told_5_32 : GoodIn wq_law (wsV RL 32 RX10 yX10_told wq_X10_told_5) := goodIn_app (goodIn_r _ [275, 276, 277, 7] (by decide +kernel) (by decide +kernel)) (goodIn_ca gq_law_X10_told_5_32_0 (goodIn_sub iq_law_X10 guX10))
set_option maxRecDepth 20000 in
theorem gq_law_X11_told_5_35_0 : GoodIn wq_law (Cond.code yX11_told cX11_told 2 (some .int) :: wq_X11_told_5_r1) := goodIn_r _ [278, 287] (by decide +kernel) (by decide +kernel)
set_option maxRecDepth 20000 in
theorem gq_law_X11_told_5_35 : GoodIn wq_law (wsV RL 35 RX11 yX11_told wq_X11_told_5) := goodIn_app (goodIn_r _ [280, 281, 282, 18] (by decide +kernel) (by decide +kernel)) (goodIn_ca gq_law_X11_told_5_35_0 (goodIn_sub iq_law_X11 guX11))
set_option maxRecDepth 20000 in
theorem gq_law_X10_told_6_32_0 : GoodIn wq_law (Cond.code yX10_told cX10_told 2 (some .int) :: wq_X10_told_6_r1) := goodIn_r _ [273, 274] (by decide +kernel) (by decide +kernel)
set_option maxRecDepth 20000 in
theorem gq_law_X10_told_6_32 : GoodIn wq_law (wsV RL 32 RX10 yX10_told wq_X10_told_6) := goodIn_app (goodIn_r _ [275, 276, 277, 7] (by decide +kernel) (by decide +kernel)) (goodIn_ca gq_law_X10_told_6_32_0 (goodIn_sub iq_law_X10 guX10))
set_option maxRecDepth 20000 in
theorem gq_law_X11_told_6_35_0 : GoodIn wq_law (Cond.code yX11_told cX11_told 2 (some .int) :: wq_X11_told_6_r1) := goodIn_r _ [278, 288] (by decide +kernel) (by decide +kernel)
set_option maxRecDepth 20000 in
theorem gq_law_X11_told_6_35 : GoodIn wq_law (wsV RL 35 RX11 yX11_told wq_X11_told_6) := goodIn_app (goodIn_r _ [280, 281, 282, 18] (by decide +kernel) (by decide +kernel)) (goodIn_ca gq_law_X11_told_6_35_0 (goodIn_sub iq_law_X11 guX11))
set_option maxRecDepth 20000 in
theorem gq_law_X10_told_7_32_0 : GoodIn wq_law (Cond.code yX10_told cX10_told 2 (some .int) :: wq_X10_told_7_r1) := goodIn_r _ [273, 274] (by decide +kernel) (by decide +kernel)
set_option maxRecDepth 20000 in
theorem gq_law_X10_told_7_32 : GoodIn wq_law (wsV RL 32 RX10 yX10_told wq_X10_told_7) := goodIn_app (goodIn_r _ [275, 276, 277, 7] (by decide +kernel) (by decide +kernel)) (goodIn_ca gq_law_X10_told_7_32_0 (goodIn_sub iq_law_X10 guX10))
set_option maxRecDepth 20000 in
theorem gq_law_X11_told_7_35_0 : GoodIn wq_law (Cond.code yX11_told cX11_told 2 (some .int) :: wq_X11_told_7_r1) := goodIn_r _ [278, 289] (by decide +kernel) (by decide +kernel)
set_option maxRecDepth 20000 in
theorem gq_law_X11_told_7_35 : GoodIn wq_law (wsV RL 35 RX11 yX11_told wq_X11_told_7) := goodIn_app (goodIn_r _ [280, 281, 282, 18] (by decide +kernel) (by decide +kernel)) (goodIn_ca gq_law_X11_told_7_35_0 (goodIn_sub iq_law_X11 guX11))
set_option maxRecDepth 20000 in
theorem gq_law_X10_told_8_32_0 : GoodIn wq_law (Cond.code yX10_told cX10_told 2 (some .int) :: ([] : List Cond)) := goodIn_r _ [273] (by decide +kernel) (by decide +kernel)
set_option maxRecDepth 20000 in
theorem gq_law_X10_told_8_32 : GoodIn wq_law (wsV RL 32 RX10 yX10_told wq_X10_told_8) := goodIn_app (goodIn_r _ [275, 276, 277, 7] (by decide +kernel) (by decide +kernel)) (gq_law_X10_told_8_32_0 : GoodIn wq_law wq_X10_told_8)
set_option maxRecDepth 20000 in
theorem gq_law_X11_told_8_35_0 : GoodIn wq_law (Cond.code yX11_told cX11_told 2 (some .int) :: ([] : List Cond)) := goodIn_r _ [278] (by decide +kernel) (by decide +kernel)
set_option maxRecDepth 20000 in
theorem gq_law_X11_told_8_35 : GoodIn wq_law (wsV RL 35 RX11 yX11_told wq_X11_told_8) := goodIn_app (goodIn_r _ [280, 281, 282, 18] (by decide +kernel) (by decide +kernel)) (gq_law_X11_told_8_35_0 : GoodIn wq_law wq_X11_told_8)
set_option maxRecDepth 20000 in
theorem gq_law_X10_told_9_32_0 : GoodIn wq_law (Cond.code yX10_told cX10_told 2 (some .int) :: wq_X10_told_9_r1) := goodIn_r _ [273, 274] (by decide +kernel) (by decide +kernel)
set_option maxRecDepth 20000 in
theorem gq_law_X10_told_9_32 : GoodIn wq_law (wsV RL 32 RX10 yX10_told wq_X10_told_9) := goodIn_app (goodIn_r _ [275, 276, 277, 7] (by decide +kernel) (by decide +kernel)) (goodIn_ca gq_law_X10_told_9_32_0 (goodIn_sub iq_law_X10 guX10))
set_option maxRecDepth 20000 in
theorem gq_law_X11_told_9_35_0 : GoodIn wq_law (Cond.code yX11_told cX11_told 2 (some .int) :: ([] : List Cond)) := goodIn_r _ [278] (by decide +kernel) (by decide +kernel)
set_option maxRecDepth 20000 in
theorem gq_law_X11_told_9_35 : GoodIn wq_law (wsV RL 35 RX11 yX11_told wq_X11_told_9) := goodIn_app (goodIn_r _ [280, 281, 282, 18] (by decide +kernel) (by decide +kernel)) (gq_law_X11_told_9_35_0 : GoodIn wq_law wq_X11_told_9)
set_option maxRecDepth 20000 in
theorem gq_law_X10_type_36_0 : GoodIn wq_law (Cond.code yX10_type cX10_type 3 (some .int) :: wq_X10_type_r1) := goodIn_r _ [290, 291] (by decide +kernel) (by decide +kernel)
set_option maxRecDepth 20000 in
theorem gq_law_X10_type_36 : GoodIn wq_law (wsV RL 36 RX10 yX10_type wq_X10_type) := goodIn_app (goodIn_r _ [292, 293, 294, 7] (by decide +kernel) (by decide +kernel)) (goodIn_ca gq_law_X10_type_36_0 (goodIn_sub iq_law_X10 guX10))
set_option maxRecDepth 20000 in
theorem gq_law_X11_type_40_0 : GoodIn wq_law (Cond.code yX11_type cX11_type 3 (some .int) :: wq_X11_type_r1) := goodIn_r _ [295, 296, 297, 298, 299, 300, 301, 18] (by decide +kernel) (by decide +kernel)
set_option maxRecDepth 20000 in
theorem gq_law_X11_type_40 : GoodIn wq_law (wsV RL 40 RX11 yX11_type wq_X11_type) := goodIn_app (goodIn_r _ [302, 303, 304, 18] (by decide +kernel) (by decide +kernel)) (goodIn_ca gq_law_X11_type_40_0 (goodIn_sub iq_law_X11 guX11))
set_option maxRecDepth 20000 in
theorem gq_law_X10_type_1_36_0 : GoodIn wq_law (Cond.code yX10_type cX10_type 3 (some .int) :: ([] : List Cond)) := goodIn_r _ [290] (by decide +kernel) (by decide +kernel)
set_option maxRecDepth 20000 in
theorem gq_law_X10_type_1_36 : GoodIn wq_law (wsV RL 36 RX10 yX10_type wq_X10_type_1) := goodIn_app (goodIn_r _ [292, 293, 294, 7] (by decide +kernel) (by decide +kernel)) (gq_law_X10_type_1_36_0 : GoodIn wq_law wq_X10_type_1)
set_option maxRecDepth 20000 in
theorem gq_law_X11_type_1_40_0 : GoodIn wq_law (Cond.code yX11_type cX11_type 3 (some .int) :: ([] : List Cond)) := goodIn_r _ [295] (by decide +kernel) (by decide +kernel)
set_option maxRecDepth 20000 in
theorem gq_law_X11_type_1_40 : GoodIn wq_law (wsV RL 40 RX11 yX11_type wq_X11_type_1) := goodIn_app (goodIn_r _ [302, 303, 304, 18] (by decide +kernel) (by decide +kernel)) (gq_law_X11_type_1_40_0 : GoodIn wq_law wq_X11_type_1)
set_option maxRecDepth 20000 in
theorem gq_law_X10_type_2_36_0 : GoodIn wq_law (Cond.code yX10_type cX10_type 3 (some .int) :: wq_X10_type_2_r1) := goodIn_r _ [290, 23, 115, 24] (by decide +kernel) (by decide +kernel)
set_option maxRecDepth 20000 in
theorem gq_law_X10_type_2_36 : GoodIn wq_law (wsV RL 36 RX10 yX10_type wq_X10_type_2) := goodIn_app (goodIn_r _ [292, 293, 294, 7] (by decide +kernel) (by decide +kernel)) (goodIn_ca (goodIn_ca gq_law_X10_type_2_36_0 (goodIn_sub iq_law_X10 guX10)) (goodIn_sub iq_law_X1 guX1))
set_option maxRecDepth 20000 in
theorem gq_law_X11_type_2_40_0 : GoodIn wq_law (Cond.code yX11_type cX11_type 3 (some .int) :: wq_X11_type_2_r1) := goodIn_r _ [295, 153] (by decide +kernel) (by decide +kernel)
set_option maxRecDepth 20000 in
theorem gq_law_X11_type_2_40 : GoodIn wq_law (wsV RL 40 RX11 yX11_type wq_X11_type_2) := goodIn_app (goodIn_r _ [302, 303, 304, 18] (by decide +kernel) (by decide +kernel)) (goodIn_ca gq_law_X11_type_2_40_0 (goodIn_sub iq_law_X11 guX11))
set_option maxRecDepth 20000 in
theorem gq_law_X10_type_3_36_0 : GoodIn wq_law (Cond.code yX10_type cX10_type 3 (some .int) :: ([] : List Cond)) := goodIn_r _ [290] (by decide +kernel) (by decide +kernel)
set_option maxRecDepth 20000 in
theorem gq_law_X10_type_3_36 : GoodIn wq_law (wsV RL 36 RX10 yX10_type wq_X10_type_3) := goodIn_app (goodIn_r _ [292, 293, 294, 7] (by decide +kernel) (by decide +kernel)) (gq_law_X10_type_3_36_0 : GoodIn wq_law wq_X10_type_3)
set_option maxRecDepth 20000 in
theorem gq_law_X11_type_3_40_0 : GoodIn wq_law (Cond.code yX11_type cX11_type 3 (some .int) :: ([] : List Cond)) := goodIn_r _ [295] (by decide +kernel) (by decide +kernel)
set_option maxRecDepth 20000 in
theorem gq_law_X11_type_3_40 : GoodIn wq_law (wsV RL 40 RX11 yX11_type wq_X11_type_3) := goodIn_app (goodIn_r _ [302, 303, 304, 18] (by decide +kernel) (by decide +kernel)) (gq_law_X11_type_3_40_0 : GoodIn wq_law wq_X11_type_3)
set_option maxRecDepth 20000 in
theorem gq_law_X10_value_41_0 : GoodIn wq_law (Cond.code yX10_value cX10_value 1 (some .int) :: wq_X10_value_r1) := goodIn_r _ [305, 306] (by decide +kernel) (by decide +kernel)
set_option maxRecDepth 20000 in
theorem gq_law_X10_value_41 : GoodIn wq_law (wsV RL 41 RX10 yX10_value wq_X10_value) := goodIn_app (goodIn_r _ [307, 308, 309, 7] (by decide +kernel) (by decide +kernel)) (goodIn_ca gq_law_X10_value_41_0 (goodIn_sub iq_law_X10 guX10))
set_option maxRecDepth 20000 in
theorem gq_law_X11_value_45_0 : GoodIn wq_law (Cond.code yX11_value cX11_value 1 (some .int) :: wq_X11_value_r1) := goodIn_r _ [310, 311, 312, 298, 299, 300, 301, 18] (by decide +kernel) (by decide +kernel)
set_option maxRecDepth 20000 in
theorem gq_law_X11_value_45 : GoodIn wq_law (wsV RL 45 RX11 yX11_value wq_X11_value) := goodIn_app (goodIn_r _ [313, 314, 315, 18] (by decide +kernel) (by decide +kernel)) (goodIn_ca gq_law_X11_value_45_0 (goodIn_sub iq_law_X11 guX11))
set_option maxRecDepth 20000 in
theorem gq_law_X10_out_46_0 : GoodIn wq_law (Cond.code yX10_out cX10_out 2 (some .int) :: ([] : List Cond)) := goodIn_r _ [316] (by decide +kernel) (by decide +kernel)
set_option maxRecDepth 20000 in
theorem gq_law_X10_out_46 : GoodIn wq_law (wsV RL 46 RX10 yX10_out wq_X10_out) := goodIn_app (goodIn_r _ [317, 318, 319, 7] (by decide +kernel) (by decide +kernel)) (gq_law_X10_out_46_0 : GoodIn wq_law wq_X10_out)
set_option maxRecDepth 20000 in
theorem gq_law_X11_out_49_0 : GoodIn wq_law (Cond.code yX11_out cX11_out 2 (some .int) :: ([] : List Cond)) := goodIn_r _ [320] (by decide +kernel) (by decide +kernel)
set_option maxRecDepth 20000 in
theorem gq_law_X11_out_49 : GoodIn wq_law (wsV RL 49 RX11 yX11_out wq_X11_out) := goodIn_app (goodIn_r _ [321, 322, 323, 18] (by decide +kernel) (by decide +kernel)) (gq_law_X11_out_49_0 : GoodIn wq_law wq_X11_out)
set_option maxRecDepth 20000 in
theorem gq_law_X10_out_1_46_0 : GoodIn wq_law (Cond.code yX10_out cX10_out 2 (some .int) :: wq_X10_out_1_r1) := goodIn_r _ [316, 324, 325] (by decide +kernel) (by decide +kernel)
set_option maxRecDepth 20000 in
theorem gq_law_X10_out_1_46 : GoodIn wq_law (wsV RL 46 RX10 yX10_out wq_X10_out_1) := goodIn_app (goodIn_r _ [317, 318, 319, 7] (by decide +kernel) (by decide +kernel)) (goodIn_ca (goodIn_ca gq_law_X10_out_1_46_0 (goodIn_sub iq_law_X10 guX10)) (goodIn_sub iq_law_X9 guX9))
set_option maxRecDepth 20000 in
theorem gq_law_X11_out_1_49_0 : GoodIn wq_law (Cond.code yX11_out cX11_out 2 (some .int) :: wq_X11_out_1_r1) := goodIn_r _ [320, 326] (by decide +kernel) (by decide +kernel)
set_option maxRecDepth 20000 in
theorem gq_law_X11_out_1_49 : GoodIn wq_law (wsV RL 49 RX11 yX11_out wq_X11_out_1) := goodIn_app (goodIn_r _ [321, 322, 323, 18] (by decide +kernel) (by decide +kernel)) (goodIn_ca gq_law_X11_out_1_49_0 (goodIn_sub iq_law_X11 guX11))
set_option maxRecDepth 20000 in
theorem gq_law_X10_count_50_0 : GoodIn wq_law (Cond.code yX10_count cX10_count 2 (some .int) :: wq_X10_count_r1) := goodIn_r _ [327, 23, 115, 24] (by decide +kernel) (by decide +kernel)
set_option maxRecDepth 20000 in
theorem gq_law_X10_count_50 : GoodIn wq_law (wsV RL 50 RX10 yX10_count wq_X10_count) := goodIn_app (goodIn_r _ [328, 329, 330, 7] (by decide +kernel) (by decide +kernel)) (goodIn_ca (goodIn_ca gq_law_X10_count_50_0 (goodIn_sub iq_law_X10 guX10)) (goodIn_sub iq_law_X1 guX1))
set_option maxRecDepth 20000 in
theorem gq_law_X11_count_53_0 : GoodIn wq_law (Cond.code yX11_count cX11_count 2 (some .int) :: wq_X11_count_r1) := goodIn_r _ [331, 153] (by decide +kernel) (by decide +kernel)
set_option maxRecDepth 20000 in
theorem gq_law_X11_count_53 : GoodIn wq_law (wsV RL 53 RX11 yX11_count wq_X11_count) := goodIn_app (goodIn_r _ [332, 333, 334, 18] (by decide +kernel) (by decide +kernel)) (goodIn_ca gq_law_X11_count_53_0 (goodIn_sub iq_law_X11 guX11))
set_option maxRecDepth 20000 in
theorem gq_law_X10_count_1_50_0 : GoodIn wq_law (Cond.code yX10_count cX10_count 2 (some .int) :: wq_X10_count_1_r1) := goodIn_r _ [327, 1] (by decide +kernel) (by decide +kernel)
set_option maxRecDepth 20000 in
theorem gq_law_X10_count_1_50 : GoodIn wq_law (wsV RL 50 RX10 yX10_count wq_X10_count_1) := goodIn_app (goodIn_r _ [328, 329, 330, 7] (by decide +kernel) (by decide +kernel)) (goodIn_ca gq_law_X10_count_1_50_0 (goodIn_sub iq_law_X10 guX10))
set_option maxRecDepth 20000 in
theorem gq_law_X11_count_1_53_0 : GoodIn wq_law (Cond.code yX11_count cX11_count 2 (some .int) :: wq_X11_count_1_r1) := goodIn_r _ [331, 12] (by decide +kernel) (by decide +kernel)
set_option maxRecDepth 20000 in
theorem gq_law_X11_count_1_53 : GoodIn wq_law (wsV RL 53 RX11 yX11_count wq_X11_count_1) := goodIn_app (goodIn_r _ [332, 333, 334, 18] (by decide +kernel) (by decide +kernel)) (goodIn_ca gq_law_X11_count_1_53_0 (goodIn_sub iq_law_X11 guX11))
set_option maxRecDepth 20000 in
theorem gq_law_X10_count_2_50_0 : GoodIn wq_law (Cond.code yX10_count cX10_count 2 (some .int) :: wq_X10_count_2_r1) := goodIn_r _ [327, 324, 325] (by decide +kernel) (by decide +kernel)
set_option maxRecDepth 20000 in
theorem gq_law_X10_count_2_50 : GoodIn wq_law (wsV RL 50 RX10 yX10_count wq_X10_count_2) := goodIn_app (goodIn_r _ [328, 329, 330, 7] (by decide +kernel) (by decide +kernel)) (goodIn_ca (goodIn_ca gq_law_X10_count_2_50_0 (goodIn_sub iq_law_X10 guX10)) (goodIn_sub iq_law_X9 guX9))
set_option maxRecDepth 20000 in
theorem gq_law_X11_count_2_53_0 : GoodIn wq_law (Cond.code yX11_count cX11_count 2 (some .int) :: wq_X11_count_2_r1) := goodIn_r _ [331, 326] (by decide +kernel) (by decide +kernel)
set_option maxRecDepth 20000 in
theorem gq_law_X11_count_2_53 : GoodIn wq_law (wsV RL 53 RX11 yX11_count wq_X11_count_2) := goodIn_app (goodIn_r _ [332, 333, 334, 18] (by decide +kernel) (by decide +kernel)) (goodIn_ca gq_law_X11_count_2_53_0 (goodIn_sub iq_law_X11 guX11))
set_option maxRecDepth 20000 in
theorem gq_law_X10_count_3_50_0 : GoodIn wq_law (Cond.code yX10_count cX10_count 2 (some .int) :: wq_X10_count_3_r1) := goodIn_r _ [327, 335] (by decide +kernel) (by decide +kernel)
set_option maxRecDepth 20000 in
theorem gq_law_X10_count_3_50 : GoodIn wq_law (wsV RL 50 RX10 yX10_count wq_X10_count_3) := goodIn_app (goodIn_r _ [328, 329, 330, 7] (by decide +kernel) (by decide +kernel)) (goodIn_ca gq_law_X10_count_3_50_0 (goodIn_sub iq_law_X10 guX10))
set_option maxRecDepth 20000 in
theorem gq_law_X11_count_3_53_0 : GoodIn wq_law (Cond.code yX11_count cX11_count 2 (some .int) :: wq_X11_count_3_r1) := goodIn_r _ [331, 336] (by decide +kernel) (by decide +kernel)
set_option maxRecDepth 20000 in
theorem gq_law_X11_count_3_53 : GoodIn wq_law (wsV RL 53 RX11 yX11_count wq_X11_count_3) := goodIn_app (goodIn_r _ [332, 333, 334, 18] (by decide +kernel) (by decide +kernel)) (goodIn_ca gq_law_X11_count_3_53_0 (goodIn_sub iq_law_X11 guX11))
set_option maxRecDepth 20000 in
theorem gq_law_X10_count_4_50_0 : GoodIn wq_law (Cond.code yX10_count cX10_count 2 (some .int) :: ([] : List Cond)) := goodIn_r _ [327] (by decide +kernel) (by decide +kernel)
set_option maxRecDepth 20000 in
theorem gq_law_X10_count_4_50 : GoodIn wq_law (wsV RL 50 RX10 yX10_count wq_X10_count_4) := goodIn_app (goodIn_r _ [328, 329, 330, 7] (by decide +kernel) (by decide +kernel)) (gq_law_X10_count_4_50_0 : GoodIn wq_law wq_X10_count_4)
set_option maxRecDepth 20000 in
theorem gq_law_X11_count_4_53_0 : GoodIn wq_law (Cond.code yX11_count cX11_count 2 (some .int) :: ([] : List Cond)) := goodIn_r _ [331] (by decide +kernel) (by decide +kernel)
set_option maxRecDepth 20000 in
theorem gq_law_X11_count_4_53 : GoodIn wq_law (wsV RL 53 RX11 yX11_count wq_X11_count_4) := goodIn_app (goodIn_r _ [332, 333, 334, 18] (by decide +kernel) (by decide +kernel)) (gq_law_X11_count_4_53_0 : GoodIn wq_law wq_X11_count_4)
set_option maxRecDepth 20000 in
theorem gq_law_X10_init_0 : GoodIn wq_law (Cond.code yX10_init cX10_init 1 none :: (wq_X10_init_r1 ++ (wq_X10_init_r2 ++ (wq_X10_init_r3 ++ (wq_X10_init_r4 ++ (wq_X10_init_r5 ++ (wq_X10_init_r6 ++ (wq_X10_init_r7 ++ wq_X10_init_r8)))))))) := goodIn_r _ [339, 340, 341, 342, 343, 3, 344, 345, 40, 346, 347, 348, 349, 350, 351, 352, 353, 354, 35, 36, 355, 356, 33, 357, 358, 32, 359, 360, 197, 198, 199, 200, 201, 202, 361, 203, 362, 47, 28, 363, 23, 364, 365, 366, 367, 368, 369, 370, 371, 372, 373, 374, 375, 376, 377, 378, 379, 380, 381, 382, 383, 384, 385, 386, 387, 388, 389, 390, 391, 392, 393, 394, 395, 396, 397, 398, 399, 90, 400, 401, 73, 402, 403, 404, 74, 75, 76, 78, 60, 405, 406, 407, 408, 409, 410, 411, 412, 413, 414, 415, 416, 417, 418, 419, 420, 421, 422, 423, 424, 425, 426, 427, 428, 429, 430, 431, 432, 433, 434, 435, 436, 437, 438, 439, 440, 58, 168, 441, 442, 443, 51, 444, 445, 109, 446, 447, 448, 449, 450, 451, 452, 453, 454, 455, 456, 99, 457, 458, 459, 460, 461, 462, 463, 464, 465, 466, 467, 468, 469, 470, 471, 472, 473, 474, 475, 476, 477, 478, 479, 480, 481, 482, 483, 484, 485, 486, 487, 488, 489, 490, 491, 492, 324, 493, 494, 274, 98] (by decide +kernel) (by decide +kernel)
theorem gq_law_X10_init : GoodIn wq_law wq_X10_init := (goodIn_ca (goodIn_ca (goodIn_ca (goodIn_ca (goodIn_ca (goodIn_ca (goodIn_ca (goodIn_ca (goodIn_ca (goodIn_ca (goodIn_ca gq_law_X10_init_0 (goodIn_sub iq_law_X10 guX10)) (goodIn_sub iq_law_X8 guX8)) (goodIn_sub iq_law_X1 guX1)) (goodIn_sub iq_law_X4 guX4)) (goodIn_sub iq_law_X6 guX6)) (goodIn_sub iq_law_X5 guX5)) (goodIn_sub iq_law_X2 guX2)) (goodIn_sub iq_law_X7 guX7)) (goodIn_sub iq_law_X0 guX0)) (goodIn_sub iq_law_X3 guX3)) (goodIn_sub iq_law_X9 guX9))
set_option maxRecDepth 20000 in
theorem gq_law_X11_init_0 : GoodIn wq_law (Cond.code yX11_init cX11_init 6 none :: (wq_X11_init_r1 ++ (wq_X11_init_r2 ++ (wq_X11_init_r3 ++ (wq_X11_init_r4 ++ wq_X11_init_r5))))) := goodIn_r _ [499, 500, 341, 342, 348, 14, 361, 501, 128, 129, 130, 131, 502, 503, 504, 505, 506, 507, 508, 509, 510, 511, 512, 513, 514, 515, 516, 517, 518, 519, 520, 521, 522, 523, 524, 525, 526, 152, 527, 528, 529, 530, 531, 532, 533, 534, 535, 536, 537, 538, 539, 540, 541, 542, 543, 544, 545, 546, 547, 548, 549, 550, 551, 552, 553, 554, 555, 556, 557, 558, 559, 560, 561, 296, 297, 311, 312, 279, 286, 562, 563, 564, 405, 406, 407, 408, 409, 410, 411, 412, 413, 565, 415, 416, 417, 418, 419, 420, 421, 422, 423, 424, 425, 426, 427, 428, 429, 430, 431, 432, 433, 566, 435, 436] (by decide +kernel) (by decide +kernel)
theorem gq_law_X11_init : GoodIn wq_law wq_X11_init := (goodIn_ca gq_law_X11_init_0 (goodIn_sub iq_law_X11 guX11))
