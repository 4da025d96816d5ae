def tbl_0 : List Cond := [.laysFinal R_MacroExpand R_MacroExpand "book" "LMacroExpand$Book;",
  .laysFinal R_MacroExpand R_MacroExpand "spelling" "LMacroExpand$Spelling;",
  .laysFinal R_MacroExpand R_MacroExpand "waiting" "LMacroExpand$Input;",
  .laysFinal R_MacroExpand R_MacroExpand "expander" "LMacroExpand$Expander;",
  .laysFinal R_MacroExpand R_MacroExpand "wholeExpansion" "LMacroExpand$Whole;",
  .lays R_MacroExpand R_MacroExpand "latestFault" "I",
  .lays R_MacroExpand R_MacroExpand "latestName" "I",
  .laysFinal R_MacroExpandModel R_MacroExpandModel "granted" "I",
  .laysFinal R_MacroExpandModel R_MacroExpandModel "ring" "[I",
  .lays R_MacroExpandModel R_MacroExpandModel "head" "I",
  .lays R_MacroExpandModel R_MacroExpandModel "size" "I",
  .lays R_MacroExpandModel R_MacroExpandModel "outSize" "I",
  .laysFinal R_MacroExpandModel R_MacroExpandModel "out" "[I",
  .lays R_MacroExpandModel R_MacroExpandModel "macros" "I",
  .laysFinal R_MacroExpandModel R_MacroExpandModel "arguments" "[I",
  .laysFinal R_MacroExpandModel R_MacroExpandModel "marks" "[I",
  .laysFinal R_MacroExpandModel R_MacroExpandModel "bodySize" "[I",
  .laysFinal R_MacroExpandModel R_MacroExpandModel "bodies" "[I",
  .laysFinal R_MacroExpandModel R_MacroExpandModel "rowSize" "[I",
  .laysFinal R_MacroExpandModel R_MacroExpandModel "rows" "[I",
  .laysFinal R_MacroExpandModel R_MacroExpandModel "macroOf" "[I",
  .lays R_MacroExpandModel R_MacroExpandModel "groups" "I",
  .laysFinal R_MacroExpandModel R_MacroExpandModel "saved" "[I",
  .lays R_MacroExpandModel R_MacroExpandModel "made" "I",
  .laysFinal R_MacroExpandModel R_MacroExpandModel "madeSize" "[I",
  .laysFinal R_MacroExpandModel R_MacroExpandModel "madeSigns" "[I",
  .laysFinal R_MacroExpandModel R_MacroExpandModel "argumentSize" "[I",
  .laysFinal R_MacroExpandModel R_MacroExpandModel "argument" "[I",
  .lays R_MacroExpandModel R_MacroExpandModel "wrong" "I",
  .lays R_MacroExpandModel R_MacroExpandModel "nameAt" "I",
  .lays R_MacroExpandModel R_MacroExpandModel "steps" "I",
  .lays R_MacroExpandModel R_MacroExpandModel "held" "Z",
  .lays R_MacroExpandModel R_MacroExpandModel "traces" "I",
  .laysFinal R_MacroExpandModel R_MacroExpandModel "trace" "[I",
  .laysFinal R_MacroExpandModel R_MacroExpandModel "signs" "[I",
  .lays R_MacroExpandModel R_MacroExpandModel "deep" "I",
  .laysFinal R_MacroExpandModel R_MacroExpandModel "pileKind" "[I",
  .laysFinal R_MacroExpandModel R_MacroExpandModel "pileAt" "[I",
  .laysFinal R_MacroExpandModel R_MacroExpandModel "pileCount" "[I",
  .lays R_MacroExpandModel R_MacroExpandModel "pending" "I",
  .lays R_MacroExpandModel R_MacroExpandModel "later" "I",
  .laysFinal R_MacroExpandModel R_MacroExpandModel "row" "[I",
  .laysFinal R_MacroExpandModel R_MacroExpandModel "rowMany" "[I",
  .laysFinal R_MacroExpandModel R_MacroExpandModel "draft" "[I",
  .laysFinal R_Arguments R_Arguments "input" "LMacroExpand$Input;",
  .laysFinal R_Arguments R_Arguments "book" "LMacroExpand$Book;",
  .laysFinal R_Arguments R_Arguments "rows" "[LMacroExpand$Row;",
  .laysFinal R_Book R_Book "macros" "[LMacroExpand$Macro;",
  .laysFinal R_Book R_Book "numbers" "[I",
  .laysFinal R_Book R_Book "before" "[[I"]
def tbl_1 : List Cond := [.lays R_Book R_Book "count" "I",
  .lays R_Book R_Book "groups" "I",
  .laysFinal R_Definition R_Definition "rows" "[LMacroExpand$Row;",
  .laysFinal R_Definition R_Definition "text" "LMacroExpand$Row;",
  .lays R_Definition R_Definition "stage" "I",
  .lays R_Definition R_Definition "isExpanded" "Z",
  .lays R_Definition R_Definition "name" "I",
  .lays R_Definition R_Definition "arguments" "I",
  .lays R_Definition R_Definition "depth" "I",
  .laysFinal R_Expander R_Expander "granted" "I",
  .laysFinal R_Expander R_Expander "input" "LMacroExpand$Input;",
  .laysFinal R_Expander R_Expander "book" "LMacroExpand$Book;",
  .laysFinal R_Expander R_Expander "spelling" "LMacroExpand$Spelling;",
  .laysFinal R_Expander R_Expander "trace" "LMacroExpand$Trace;",
  .laysFinal R_Expander R_Expander "arguments" "LMacroExpand$Arguments;",
  .laysFinal R_Expander R_Expander "aside" "[I",
  .laysFinal R_Expander R_Expander "signs" "[I",
  .laysFinal R_Expander R_Expander "signCounts" "[I",
  .lays R_Expander R_Expander "frames" "I",
  .lays R_Expander R_Expander "afterIsNew" "Z",
  .lays R_Expander R_Expander "isHeld" "Z",
  .lays R_Expander R_Expander "steps" "I",
  .lays R_Expander R_Expander "nameAtWork" "I",
  .laysFinal R_Input R_Input "stack" "[I",
  .lays R_Input R_Input "size" "I",
  .laysFinal R_Macro R_Macro "arguments" "I",
  .laysFinal R_Macro R_Macro "isLong" "Z",
  .laysFinal R_Macro R_Macro "isOuter" "Z",
  .laysFinal R_Macro R_Macro "rows" "[LMacroExpand$Row;",
  .laysFinal R_Macro R_Macro "text" "LMacroExpand$Row;",
  .laysFinal R_Row R_Row "limit" "I",
  .lays R_Row R_Row "items" "[I",
  .lays R_Row R_Row "size" "I",
  .laysFinal R_Spelling R_Spelling "signs" "[I",
  .laysFinal R_Spelling R_Spelling "lengths" "[I",
  .lays R_Spelling R_Spelling "count" "I",
  .laysFinal R_Trace R_Trace "names" "[I",
  .laysFinal R_Trace R_Trace "taken" "[I",
  .laysFinal R_Trace R_Trace "brought" "[I",
  .lays R_Trace R_Trace "count" "I",
  .laysFinal R_Whole R_Whole "input" "LMacroExpand$Input;",
  .laysFinal R_Whole R_Whole "book" "LMacroExpand$Book;",
  .laysFinal R_Whole R_Whole "expander" "LMacroExpand$Expander;",
  .laysFinal R_Whole R_Whole "definition" "LMacroExpand$Definition;",
  .laysFinal R_Whole R_Whole "output" "LMacroExpand$Row;",
  .lays R_Whole R_Whole "marks" "I",
  .lays R_Whole R_Whole "later" "I",
  .instanceMethod objectInit,
  .code objectInit object_method_1_code 1 none,
  .fieldLink R_MacroExpandModel 35 R_MacroExpandModel "macroOf" "[I"]
def tbl_2 : List Cond := [.fieldLink R_MacroExpandModel 79 R_MacroExpandModel "granted" "I",
  .methodLink R_MacroExpandModel 1 objectInit,
  .arrayClass .int,
  .fieldLink R_MacroExpandModel 7 R_MacroExpandModel "ring" "[I",
  .fieldLink R_MacroExpandModel 13 R_MacroExpandModel "out" "[I",
  .fieldLink R_MacroExpandModel 16 R_MacroExpandModel "arguments" "[I",
  .fieldLink R_MacroExpandModel 19 R_MacroExpandModel "marks" "[I",
  .fieldLink R_MacroExpandModel 22 R_MacroExpandModel "bodySize" "[I",
  .fieldLink R_MacroExpandModel 25 R_MacroExpandModel "bodies" "[I",
  .fieldLink R_MacroExpandModel 28 R_MacroExpandModel "rowSize" "[I",
  .constant R_MacroExpandModel 31 200000,
  .fieldLink R_MacroExpandModel 32 R_MacroExpandModel "rows" "[I",
  .fieldLink R_MacroExpandModel 38 R_MacroExpandModel "saved" "[I",
  .fieldLink R_MacroExpandModel 41 R_MacroExpandModel "madeSize" "[I",
  .fieldLink R_MacroExpandModel 44 R_MacroExpandModel "madeSigns" "[I",
  .fieldLink R_MacroExpandModel 47 R_MacroExpandModel "argumentSize" "[I",
  .fieldLink R_MacroExpandModel 50 R_MacroExpandModel "argument" "[I",
  .fieldLink R_MacroExpandModel 53 R_MacroExpandModel "trace" "[I",
  .fieldLink R_MacroExpandModel 56 R_MacroExpandModel "signs" "[I",
  .fieldLink R_MacroExpandModel 59 R_MacroExpandModel "pileKind" "[I",
  .fieldLink R_MacroExpandModel 62 R_MacroExpandModel "pileAt" "[I",
  .fieldLink R_MacroExpandModel 65 R_MacroExpandModel "pileCount" "[I",
  .fieldLink R_MacroExpandModel 68 R_MacroExpandModel "row" "[I",
  .fieldLink R_MacroExpandModel 71 R_MacroExpandModel "rowMany" "[I",
  .fieldLink R_MacroExpandModel 74 R_MacroExpandModel "draft" "[I",
  .constantLong R_MacroExpandModel 77 20000,
  .code y_MacroExpandModel_in b_MacroExpandModel_in 3 (some .boolean),
  .initialized R_MacroExpandModel,
  .static y_MacroExpandModel_in,
  .methodLink R_MacroExpandModel 83 y_MacroExpandModel_in,
  .code y_MacroExpandModel_isParameter b_MacroExpandModel_isParameter 1 (some .boolean),
  .static y_MacroExpandModel_isParameter,
  .methodLink R_MacroExpandModel 87 y_MacroExpandModel_isParameter,
  .code y_MacroExpandModel_isName b_MacroExpandModel_isName 1 (some .boolean),
  .static y_MacroExpandModel_isName,
  .methodLink R_MacroExpandModel 91 y_MacroExpandModel_isName,
  .fieldLink R_MacroExpandModel 97 R_MacroExpandModel "groups" "I",
  .fieldLink R_MacroExpandModel 94 R_MacroExpandModel "macros" "I",
  .code y_MacroExpandModel_newMacro b_MacroExpandModel_newMacro 6 (some .int),
  .instanceMethod y_MacroExpandModel_newMacro,
  .methodLink R_MacroExpandModel 100 y_MacroExpandModel_newMacro,
  .selects R_MacroExpandModel y_MacroExpandModel_newMacro y_MacroExpandModel_newMacro,
  .code y_MacroExpandModel_isToken b_MacroExpandModel_isToken 1 (some .boolean),
  .static y_MacroExpandModel_isToken,
  .methodLink R_MacroExpandModel 104 y_MacroExpandModel_isToken,
  .fieldLink R_MacroExpandModel 107 R_MacroExpandModel "size" "I",
  .fieldLink R_MacroExpandModel 110 R_MacroExpandModel "head" "I",
  .fieldLink R_MacroExpandModel 113 R_MacroExpandModel "wrong" "I",
  .code y_MacroExpandModel_get b_MacroExpandModel_get 2 (some .int),
  .instanceMethod y_MacroExpandModel_get]
def tbl_3 : List Cond := [.methodLink R_MacroExpandModel 116 y_MacroExpandModel_get,
  .selects R_MacroExpandModel y_MacroExpandModel_get y_MacroExpandModel_get,
  .code y_MacroExpandModel_macroAt b_MacroExpandModel_macroAt 2 (some .int),
  .instanceMethod y_MacroExpandModel_macroAt,
  .methodLink R_MacroExpandModel 120 y_MacroExpandModel_macroAt,
  .selects R_MacroExpandModel y_MacroExpandModel_macroAt y_MacroExpandModel_macroAt,
  .code y_MacroExpandModel_mark b_MacroExpandModel_mark 2 none,
  .instanceMethod y_MacroExpandModel_mark,
  .methodLink R_MacroExpandModel 123 y_MacroExpandModel_mark,
  .selects R_MacroExpandModel y_MacroExpandModel_mark y_MacroExpandModel_mark,
  .code y_MacroExpandModel_give b_MacroExpandModel_give 3 none,
  .instanceMethod y_MacroExpandModel_give,
  .methodLink R_MacroExpandModel 131 y_MacroExpandModel_give,
  .selects R_MacroExpandModel y_MacroExpandModel_give y_MacroExpandModel_give,
  .code y_MacroExpandModel_isThere b_MacroExpandModel_isThere 4 (some .boolean),
  .instanceMethod y_MacroExpandModel_isThere,
  .methodLink R_MacroExpandModel 127 y_MacroExpandModel_isThere,
  .selects R_MacroExpandModel y_MacroExpandModel_isThere y_MacroExpandModel_isThere,
  .code y_MacroExpandModel_rowComes b_MacroExpandModel_rowComes 5 (some .boolean),
  .instanceMethod y_MacroExpandModel_rowComes,
  .methodLink R_MacroExpandModel 135 y_MacroExpandModel_rowComes,
  .selects R_MacroExpandModel y_MacroExpandModel_rowComes y_MacroExpandModel_rowComes,
  .fieldLink R_MacroExpandModel 139 R_MacroExpandModel "deep" "I",
  .fieldLink R_MacroExpandModel 142 R_MacroExpandModel "nameAt" "I",
  .code y_MacroExpandModel_set b_MacroExpandModel_set 3 none,
  .instanceMethod y_MacroExpandModel_set,
  .methodLink R_MacroExpandModel 166 y_MacroExpandModel_set,
  .selects R_MacroExpandModel y_MacroExpandModel_set y_MacroExpandModel_set,
  .code y_MacroExpandModel_take b_MacroExpandModel_take 4 none,
  .instanceMethod y_MacroExpandModel_take,
  .methodLink R_MacroExpandModel 160 y_MacroExpandModel_take,
  .selects R_MacroExpandModel y_MacroExpandModel_take y_MacroExpandModel_take,
  .code y_MacroExpandModel_spread b_MacroExpandModel_spread 4 none,
  .instanceMethod y_MacroExpandModel_spread,
  .methodLink R_MacroExpandModel 163 y_MacroExpandModel_spread,
  .selects R_MacroExpandModel y_MacroExpandModel_spread y_MacroExpandModel_spread,
  .fieldLink R_MacroExpandModel 169 R_MacroExpandModel "traces" "I",
  .code y_MacroExpandModel_passed b_MacroExpandModel_passed 3 (some .int),
  .instanceMethod y_MacroExpandModel_passed,
  .methodLink R_MacroExpandModel 156 y_MacroExpandModel_passed,
  .selects R_MacroExpandModel y_MacroExpandModel_passed y_MacroExpandModel_passed,
  .code y_MacroExpandModel_delimited b_MacroExpandModel_delimited 9 (some .int),
  .instanceMethod y_MacroExpandModel_delimited,
  .methodLink R_MacroExpandModel 149 y_MacroExpandModel_delimited,
  .selects R_MacroExpandModel y_MacroExpandModel_delimited y_MacroExpandModel_delimited,
  .code y_MacroExpandModel_plain b_MacroExpandModel_plain 6 (some .int),
  .instanceMethod y_MacroExpandModel_plain,
  .methodLink R_MacroExpandModel 145 y_MacroExpandModel_plain,
  .selects R_MacroExpandModel y_MacroExpandModel_plain y_MacroExpandModel_plain,
  .code y_MacroExpandModel_comes b_MacroExpandModel_comes 6 (some .int)]
def tbl_4 : List Cond := [.instanceMethod y_MacroExpandModel_comes,
  .methodLink R_MacroExpandModel 153 y_MacroExpandModel_comes,
  .selects R_MacroExpandModel y_MacroExpandModel_comes y_MacroExpandModel_comes,
  .fieldLink R_MacroExpandModel 172 R_MacroExpandModel "made" "I",
  .fieldLink R_MacroExpandModel 175 R_MacroExpandModel "steps" "I",
  .code y_MacroExpandModel_expandName b_MacroExpandModel_expandName 14 none,
  .instanceMethod y_MacroExpandModel_expandName,
  .methodLink R_MacroExpandModel 188 y_MacroExpandModel_expandName,
  .selects R_MacroExpandModel y_MacroExpandModel_expandName y_MacroExpandModel_expandName,
  .fieldLink R_MacroExpandModel 178 R_MacroExpandModel "held" "Z",
  .code y_MacroExpandModel_pile b_MacroExpandModel_pile 3 none,
  .instanceMethod y_MacroExpandModel_pile,
  .methodLink R_MacroExpandModel 185 y_MacroExpandModel_pile,
  .selects R_MacroExpandModel y_MacroExpandModel_pile y_MacroExpandModel_pile,
  .code y_MacroExpandModel_canBeExpanded b_MacroExpandModel_canBeExpanded 2 (some .boolean),
  .instanceMethod y_MacroExpandModel_canBeExpanded,
  .methodLink R_MacroExpandModel 182 y_MacroExpandModel_canBeExpanded,
  .selects R_MacroExpandModel y_MacroExpandModel_canBeExpanded y_MacroExpandModel_canBeExpanded,
  .code y_MacroExpandModel_nameOf b_MacroExpandModel_nameOf 6 (some .int),
  .instanceMethod y_MacroExpandModel_nameOf,
  .methodLink R_MacroExpandModel 194 y_MacroExpandModel_nameOf,
  .selects R_MacroExpandModel y_MacroExpandModel_nameOf y_MacroExpandModel_nameOf,
  .code y_MacroExpandModel_start b_MacroExpandModel_start 5 none,
  .instanceMethod y_MacroExpandModel_start,
  .methodLink R_MacroExpandModel 191 y_MacroExpandModel_start,
  .selects R_MacroExpandModel y_MacroExpandModel_start y_MacroExpandModel_start,
  .code y_MacroExpandModel_goOn b_MacroExpandModel_goOn 8 none,
  .instanceMethod y_MacroExpandModel_goOn,
  .methodLink R_MacroExpandModel 198 y_MacroExpandModel_goOn,
  .selects R_MacroExpandModel y_MacroExpandModel_goOn y_MacroExpandModel_goOn,
  .fieldLink R_MacroExpandModel 201 R_MacroExpandModel "pending" "I",
  .fieldLink R_MacroExpandModel 204 R_MacroExpandModel "later" "I",
  .code y_MacroExpandModel_expandAt b_MacroExpandModel_expandAt 2 none,
  .instanceMethod y_MacroExpandModel_expandAt,
  .methodLink R_MacroExpandModel 207 y_MacroExpandModel_expandAt,
  .selects R_MacroExpandModel y_MacroExpandModel_expandAt y_MacroExpandModel_expandAt,
  .code y_MacroExpandModel_defines b_MacroExpandModel_defines 10 none,
  .instanceMethod y_MacroExpandModel_defines,
  .methodLink R_MacroExpandModel 210 y_MacroExpandModel_defines,
  .selects R_MacroExpandModel y_MacroExpandModel_defines y_MacroExpandModel_defines,
  .fieldLink R_MacroExpandModel 214 R_MacroExpandModel "outSize" "I",
  .code y_MacroExpandModel_ended b_MacroExpandModel_ended 2 (some .int),
  .instanceMethod y_MacroExpandModel_ended,
  .methodLink R_MacroExpandModel 220 y_MacroExpandModel_ended,
  .selects R_MacroExpandModel y_MacroExpandModel_ended y_MacroExpandModel_ended,
  .code y_MacroExpandModel_carryOut b_MacroExpandModel_carryOut 2 none,
  .instanceMethod y_MacroExpandModel_carryOut,
  .methodLink R_MacroExpandModel 223 y_MacroExpandModel_carryOut,
  .selects R_MacroExpandModel y_MacroExpandModel_carryOut y_MacroExpandModel_carryOut,
  .code y_MacroExpandModel_begin b_MacroExpandModel_begin 1 none]
def tbl_5 : List Cond := [.instanceMethod y_MacroExpandModel_begin,
  .methodLink R_MacroExpandModel 217 y_MacroExpandModel_begin,
  .selects R_MacroExpandModel y_MacroExpandModel_begin y_MacroExpandModel_begin,
  .methodLink R_Arrays 304 Lib.Math.min.name,
  .static Lib.Math.min.name,
  .initialized "java/lang/Math",
  .code Lib.Math.min.name Lib.Math.min.code 2 (some .int),
  .methodLink R_Arrays 150 arraycopyName,
  .native arraycopyName,
  .static arraycopyName,
  .initialized "java/lang/System",
  .methodLink R_Arrays 316 ⟨"[I", "clone", "()Ljava/lang/Object;"⟩,
  .sameMethod "[I" "java/lang/Object" "clone" "()Ljava/lang/Object;",
  .native ⟨"java/lang/Object", "clone", "()Ljava/lang/Object;"⟩,
  .instanceMethod ⟨"java/lang/Object", "clone", "()Ljava/lang/Object;"⟩,
  .selects "[I" ⟨"[I", "clone", "()Ljava/lang/Object;"⟩ ⟨"java/lang/Object", "clone", "()Ljava/lang/Object;"⟩,
  .classLink R_Arrays 317 "[I",
  .methodLink R_Book 3 objectInit,
  .classLink R_Book 9 R_Macro,
  .fieldLink R_Book 11 R_Book "macros" "[LMacroExpand$Macro;",
  .fieldLink R_Book 17 R_Book "numbers" "[I",
  .code y_Arrays_fill b_Arrays_fill 4 none,
  .initialized R_Arrays,
  .static y_Arrays_fill,
  .methodLink R_Book 21 y_Arrays_fill,
  .classLink R_Book 27 "[[I",
  .fieldLink R_Book 29 R_Book "before" "[[I",
  .fieldLink R_Book 32 R_Book "count" "I",
  .fieldLink R_Book 36 R_Book "groups" "I",
  .methodLink R_Spelling 3 objectInit,
  .fieldLink R_Spelling 9 R_Spelling "signs" "[I",
  .fieldLink R_Spelling 15 R_Spelling "lengths" "[I",
  .fieldLink R_Spelling 18 R_Spelling "count" "I",
  .methodLink R_Input 3 objectInit,
  .fieldLink R_Input 9 R_Input "stack" "[I",
  .fieldLink R_Input 15 R_Input "size" "I",
  .methodLink R_Trace 3 objectInit,
  .fieldLink R_Trace 9 R_Trace "names" "[I",
  .fieldLink R_Trace 15 R_Trace "taken" "[I",
  .fieldLink R_Trace 18 R_Trace "brought" "[I",
  .fieldLink R_Trace 21 R_Trace "count" "I",
  .methodLink R_Row 3 objectInit,
  .fieldLink R_Row 9 R_Row "limit" "I",
  .fieldLink R_Row 15 R_Row "items" "[I",
  .fieldLink R_Row 19 R_Row "size" "I",
  .fieldLink R_Arguments 21 R_Arguments "rows" "[LMacroExpand$Row;",
  .classLink R_Arguments 19 R_Row,
  .instantiable R_Row 3,
  .initialized R_Row,
  .code y_Row_init b_Row_init 2 none]
def tbl_6 : List Cond := [.instanceMethod y_Row_init,
  .methodLink R_Arguments 25 y_Row_init,
  .methodLink R_Arguments 3 objectInit,
  .fieldLink R_Arguments 9 R_Arguments "input" "LMacroExpand$Input;",
  .fieldLink R_Arguments 15 R_Arguments "book" "LMacroExpand$Book;",
  .methodLink R_Expander 3 objectInit,
  .fieldLink R_Expander 9 R_Expander "granted" "I",
  .fieldLink R_Expander 15 R_Expander "input" "LMacroExpand$Input;",
  .fieldLink R_Expander 19 R_Expander "book" "LMacroExpand$Book;",
  .fieldLink R_Expander 23 R_Expander "spelling" "LMacroExpand$Spelling;",
  .classLink R_Expander 27 R_Trace,
  .instantiable R_Trace 4,
  .initialized R_Trace,
  .code y_Trace_init b_Trace_init 1 none,
  .instanceMethod y_Trace_init,
  .methodLink R_Expander 29 y_Trace_init,
  .fieldLink R_Expander 30 R_Expander "trace" "LMacroExpand$Trace;",
  .classLink R_Expander 34 R_Arguments,
  .instantiable R_Arguments 3,
  .initialized R_Arguments,
  .code y_Arguments_init b_Arguments_init 4 none,
  .instanceMethod y_Arguments_init,
  .methodLink R_Expander 36 y_Arguments_init,
  .fieldLink R_Expander 39 R_Expander "arguments" "LMacroExpand$Arguments;",
  .fieldLink R_Expander 43 R_Expander "aside" "[I",
  .fieldLink R_Expander 47 R_Expander "signs" "[I",
  .fieldLink R_Expander 50 R_Expander "signCounts" "[I",
  .fieldLink R_Definition 11 R_Definition "rows" "[LMacroExpand$Row;",
  .classLink R_Definition 9 R_Row,
  .methodLink R_Definition 17 y_Row_init,
  .methodLink R_Definition 3 objectInit,
  .fieldLink R_Definition 20 R_Definition "text" "LMacroExpand$Row;",
  .fieldLink R_Definition 24 R_Definition "stage" "I",
  .methodLink R_Whole 3 objectInit,
  .fieldLink R_Whole 9 R_Whole "input" "LMacroExpand$Input;",
  .fieldLink R_Whole 15 R_Whole "book" "LMacroExpand$Book;",
  .fieldLink R_Whole 19 R_Whole "expander" "LMacroExpand$Expander;",
  .classLink R_Whole 23 R_Definition,
  .instantiable R_Definition 7,
  .initialized R_Definition,
  .code y_Definition_init b_Definition_init 2 none,
  .instanceMethod y_Definition_init,
  .methodLink R_Whole 25 y_Definition_init,
  .fieldLink R_Whole 26 R_Whole "definition" "LMacroExpand$Definition;",
  .classLink R_Whole 30 R_Row,
  .methodLink R_Whole 32 y_Row_init,
  .fieldLink R_Whole 35 R_Whole "output" "LMacroExpand$Row;",
  .fieldLink R_Whole 39 R_Whole "marks" "I",
  .fieldLink R_Whole 43 R_Whole "later" "I",
  .methodLink R_MacroExpand 1 objectInit]
def tbl_7 : List Cond := [.constantLong R_MacroExpand 9 20000,
  .methodLink R_MacroExpand 11 Lib.MathLoose.min_long.x,
  .static Lib.MathLoose.min_long.x,
  .code Lib.MathLoose.min_long.x Lib.MathLoose.min_long.code 4 (some .long),
  .methodLink R_MacroExpand 17 Lib.MathLoose.max_long.x,
  .static Lib.MathLoose.max_long.x,
  .code Lib.MathLoose.max_long.x Lib.MathLoose.max_long.code 4 (some .long),
  .classLink R_MacroExpand 20 R_Book,
  .instantiable R_Book 5,
  .initialized R_Book,
  .code y_Book_init b_Book_init 1 none,
  .instanceMethod y_Book_init,
  .methodLink R_MacroExpand 22 y_Book_init,
  .fieldLink R_MacroExpand 23 R_MacroExpand "book" "LMacroExpand$Book;",
  .classLink R_MacroExpand 27 R_Spelling,
  .instantiable R_Spelling 3,
  .initialized R_Spelling,
  .code y_Spelling_init b_Spelling_init 1 none,
  .instanceMethod y_Spelling_init,
  .methodLink R_MacroExpand 29 y_Spelling_init,
  .fieldLink R_MacroExpand 30 R_MacroExpand "spelling" "LMacroExpand$Spelling;",
  .classLink R_MacroExpand 34 R_Input,
  .instantiable R_Input 2,
  .initialized R_Input,
  .code y_Input_init b_Input_init 1 none,
  .instanceMethod y_Input_init,
  .methodLink R_MacroExpand 36 y_Input_init,
  .fieldLink R_MacroExpand 37 R_MacroExpand "waiting" "LMacroExpand$Input;",
  .classLink R_MacroExpand 41 R_Expander,
  .instantiable R_Expander 14,
  .initialized R_Expander,
  .code y_Expander_init b_Expander_init 5 none,
  .instanceMethod y_Expander_init,
  .methodLink R_MacroExpand 43 y_Expander_init,
  .fieldLink R_MacroExpand 46 R_MacroExpand "expander" "LMacroExpand$Expander;",
  .classLink R_MacroExpand 50 R_Whole,
  .instantiable R_Whole 7,
  .initialized R_Whole,
  .code y_Whole_init b_Whole_init 4 none,
  .instanceMethod y_Whole_init,
  .methodLink R_MacroExpand 52 y_Whole_init,
  .fieldLink R_MacroExpand 55 R_MacroExpand "wholeExpansion" "LMacroExpand$Whole;",
  .fieldLink R_MacroExpand 59 R_MacroExpand "latestFault" "I",
  .fieldLink R_MacroExpand 63 R_MacroExpand "latestName" "I",
  .fieldLink R_Macro 33 R_Macro "rows" "[LMacroExpand$Row;",
  .classLink R_Macro 31 R_Row,
  .methodLink R_Macro 37 y_Row_init,
  .fieldLink R_Macro 28 R_Macro "isOuter" "Z",
  .fieldLink R_Macro 18 R_Macro "arguments" "I",
  .fieldLink R_Macro 40 R_Macro "text" "LMacroExpand$Row;"]
def tbl_8 : List Cond := [.fieldLink R_Macro 24 R_Macro "isLong" "Z",
  .methodLink R_Macro 3 objectInit,
  .methodLink R_Macro 9 Lib.Math.min.name,
  .methodLink R_Macro 15 Lib.Math.max.name,
  .static Lib.Math.max.name,
  .code Lib.Math.max.name Lib.Math.max.code 2 (some .int),
  .code y_Book_isFull b_Book_isFull 1 (some .boolean),
  .instanceMethod y_Book_isFull,
  .methodLink R_Book 51 y_Book_isFull,
  .selects R_Book y_Book_isFull y_Book_isFull,
  .methodLink R_MacroExpand 66 y_Book_isFull,
  .classLink R_MacroExpand 70 R_Macro,
  .instantiable R_Macro 5,
  .initialized R_Macro,
  .code y_Macro_init b_Macro_init 4 none,
  .instanceMethod y_Macro_init,
  .methodLink R_MacroExpand 72 y_Macro_init,
  .code y_Book_enter b_Book_enter 6 (some .int),
  .instanceMethod y_Book_enter,
  .methodLink R_MacroExpand 75 y_Book_enter,
  .selects R_Book y_Book_enter y_Book_enter,
  .code y_Kind_isParameter b_Kind_isParameter 1 (some .boolean),
  .initialized R_Kind,
  .static y_Kind_isParameter,
  .methodLink R_Kind 9 y_Kind_isParameter,
  .code y_Kind_isName b_Kind_isName 1 (some .boolean),
  .static y_Kind_isName,
  .methodLink R_Kind 15 y_Kind_isName,
  .methodLink R_Row 22 Lib.Math.min.name,
  .code y_Arrays_copyOf b_Arrays_copyOf 3 (some (.array .int)),
  .static y_Arrays_copyOf,
  .methodLink R_Row 28 y_Arrays_copyOf,
  .code y_Row_isFull b_Row_isFull 1 (some .boolean),
  .instanceMethod y_Row_isFull,
  .methodLink R_MacroExpand 175 y_Row_isFull,
  .selects R_Row y_Row_isFull y_Row_isFull,
  .code y_Row_add b_Row_add 2 none,
  .instanceMethod y_Row_add,
  .methodLink R_MacroExpand 176 y_Row_add,
  .selects R_Row y_Row_add y_Row_add,
  .code y_Book_numbered b_Book_numbered 2 (some (.object "MacroExpand$Macro")),
  .instanceMethod y_Book_numbered,
  .methodLink R_MacroExpand 79 y_Book_numbered,
  .selects R_Book y_Book_numbered y_Book_numbered,
  .code y_Kind_isToken b_Kind_isToken 1 (some .boolean),
  .static y_Kind_isToken,
  .methodLink R_MacroExpand 83 y_Kind_isToken,
  .code y_MacroExpand_oneMore b_MacroExpand_oneMore 2 (some .int),
  .initialized R_MacroExpand,
  .static y_MacroExpand_oneMore]
def tbl_9 : List Cond := [.methodLink R_MacroExpand 93 y_MacroExpand_oneMore,
  .methodLink R_Kind 18 y_Kind_isToken,
  .code y_Kind_canDelimit b_Kind_canDelimit 1 (some .boolean),
  .static y_Kind_canDelimit,
  .methodLink R_MacroExpand 100 y_Kind_canDelimit,
  .code y_Macro_row b_Macro_row 2 (some (.object "MacroExpand$Row")),
  .instanceMethod y_Macro_row,
  .methodLink R_MacroExpand 103 y_Macro_row,
  .selects R_Macro y_Macro_row y_Macro_row,
  .methodLink R_Input 30 arraycopyName,
  .code y_Input_isFull b_Input_isFull 1 (some .boolean),
  .instanceMethod y_Input_isFull,
  .methodLink R_MacroExpand 107 y_Input_isFull,
  .selects R_Input y_Input_isFull y_Input_isFull,
  .code y_Input_addLast b_Input_addLast 2 none,
  .instanceMethod y_Input_addLast,
  .methodLink R_MacroExpand 108 y_Input_addLast,
  .selects R_Input y_Input_addLast y_Input_addLast,
  .code y_Trace_clear b_Trace_clear 1 none,
  .instanceMethod y_Trace_clear,
  .methodLink R_Expander 53 y_Trace_clear,
  .selects R_Trace y_Trace_clear y_Trace_clear,
  .fieldLink R_Expander 56 R_Expander "frames" "I",
  .fieldLink R_Expander 59 R_Expander "afterIsNew" "Z",
  .fieldLink R_Expander 63 R_Expander "isHeld" "Z",
  .fieldLink R_Expander 66 R_Expander "steps" "I",
  .fieldLink R_Expander 69 R_Expander "nameAtWork" "I",
  .code y_Definition_isUnderWay b_Definition_isUnderWay 1 (some .boolean),
  .instanceMethod y_Definition_isUnderWay,
  .methodLink R_Definition 44 y_Definition_isUnderWay,
  .selects R_Definition y_Definition_isUnderWay y_Definition_isUnderWay,
  .fieldLink R_Definition 31 R_Definition "isExpanded" "Z",
  .code y_Book_numberOf b_Book_numberOf 2 (some .int),
  .instanceMethod y_Book_numberOf,
  .methodLink R_Book 39 y_Book_numberOf,
  .selects R_Book y_Book_numberOf y_Book_numberOf,
  .methodLink R_Book 43 y_Book_numbered,
  .code y_Input_get b_Input_get 2 (some .int),
  .instanceMethod y_Input_get,
  .methodLink R_Expander 72 y_Input_get,
  .selects R_Input y_Input_get y_Input_get,
  .code y_Book_macroOf b_Book_macroOf 2 (some (.object "MacroExpand$Macro")),
  .instanceMethod y_Book_macroOf,
  .methodLink R_Expander 78 y_Book_macroOf,
  .selects R_Book y_Book_macroOf y_Book_macroOf,
  .code y_Input_take b_Input_take 1 (some .int),
  .instanceMethod y_Input_take,
  .methodLink R_Expander 84 y_Input_take,
  .selects R_Input y_Input_take y_Input_take,
  .code y_Input_isEmpty b_Input_isEmpty 1 (some .boolean)]
def tbl_10 : List Cond := [.instanceMethod y_Input_isEmpty,
  .methodLink R_Arguments 45 y_Input_isEmpty,
  .selects R_Input y_Input_isEmpty y_Input_isEmpty,
  .methodLink R_Arguments 51 y_Input_take,
  .code y_Book_isOuter b_Book_isOuter 5 (some .boolean),
  .instanceMethod y_Book_isOuter,
  .methodLink R_Arguments 55 y_Book_isOuter,
  .selects R_Book y_Book_isOuter y_Book_isOuter,
  .code y_Row_get b_Row_get 2 (some .int),
  .instanceMethod y_Row_get,
  .methodLink R_Arguments 61 y_Row_get,
  .selects R_Row y_Row_get y_Row_get,
  .methodLink R_Arguments 28 Lib.Math.min.name,
  .methodLink R_Arguments 34 Lib.Math.max.name,
  .methodLink R_Arguments 78 y_Row_isFull,
  .methodLink R_Arguments 81 y_Row_add,
  .code y_Arguments_isForbidden b_Arguments_isForbidden 3 (some .boolean),
  .instanceMethod y_Arguments_isForbidden,
  .methodLink R_Arguments 69 y_Arguments_isForbidden,
  .selects R_Arguments y_Arguments_isForbidden y_Arguments_isForbidden,
  .code y_Kind_nesting b_Kind_nesting 1 (some .int),
  .static y_Kind_nesting,
  .methodLink R_Arguments 73 y_Kind_nesting,
  .methodLink R_Arguments 68 y_Input_get,
  .code y_Arguments_argument b_Arguments_argument 2 (some (.object "MacroExpand$Row")),
  .instanceMethod y_Arguments_argument,
  .methodLink R_Arguments 37 y_Arguments_argument,
  .selects R_Arguments y_Arguments_argument y_Arguments_argument,
  .code y_Row_clear b_Row_clear 1 none,
  .instanceMethod y_Row_clear,
  .methodLink R_Arguments 65 y_Row_clear,
  .selects R_Row y_Row_clear y_Row_clear,
  .methodLink R_Input 42 y_Input_get,
  .methodLink R_Input 22 y_Row_get,
  .methodLink R_Input 36 Lib.Math.max.name,
  .methodLink R_Row 34 y_Row_get,
  .methodLink R_Row 38 y_Kind_nesting,
  .methodLink R_Row 43 arraycopyName,
  .code y_Input_beginsWith b_Input_beginsWith 3 (some .boolean),
  .instanceMethod y_Input_beginsWith,
  .methodLink R_Arguments 84 y_Input_beginsWith,
  .selects R_Input y_Input_beginsWith y_Input_beginsWith,
  .code y_Input_drop b_Input_drop 2 none,
  .instanceMethod y_Input_drop,
  .methodLink R_Arguments 88 y_Input_drop,
  .selects R_Input y_Input_drop y_Input_drop,
  .code y_Row_leaveOutOuterPair b_Row_leaveOutOuterPair 3 none,
  .instanceMethod y_Row_leaveOutOuterPair,
  .methodLink R_Arguments 91 y_Row_leaveOutOuterPair,
  .selects R_Row y_Row_leaveOutOuterPair y_Row_leaveOutOuterPair]
def tbl_11 : List Cond := [.methodLink R_Expander 185 y_Row_get,
  .code y_Kind_argumentOf b_Kind_argumentOf 1 (some .int),
  .static y_Kind_argumentOf,
  .methodLink R_Expander 186 y_Kind_argumentOf,
  .methodLink R_Expander 189 y_Arguments_argument,
  .code y_Input_put b_Input_put 2 none,
  .instanceMethod y_Input_put,
  .methodLink R_Input 26 y_Input_put,
  .selects R_Input y_Input_put y_Input_put,
  .methodLink R_Expander 121 y_Input_put,
  .code y_Input_putAll b_Input_putAll 3 none,
  .instanceMethod y_Input_putAll,
  .methodLink R_Expander 195 y_Input_putAll,
  .selects R_Input y_Input_putAll y_Input_putAll,
  .methodLink R_Expander 192 y_Kind_isParameter,
  .methodLink R_Expander 144 y_Macro_row,
  .code y_Arguments_readUpTo b_Arguments_readUpTo 8 (some .int),
  .instanceMethod y_Arguments_readUpTo,
  .methodLink R_Expander 162 y_Arguments_readUpTo,
  .selects R_Arguments y_Arguments_readUpTo y_Arguments_readUpTo,
  .code y_Arguments_readNext b_Arguments_readNext 8 (some .int),
  .instanceMethod y_Arguments_readNext,
  .methodLink R_Expander 159 y_Arguments_readNext,
  .selects R_Arguments y_Arguments_readNext y_Arguments_readNext,
  .code y_Arguments_readRow b_Arguments_readRow 4 (some .int),
  .instanceMethod y_Arguments_readRow,
  .methodLink R_Expander 150 y_Arguments_readRow,
  .selects R_Arguments y_Arguments_readRow y_Arguments_readRow,
  .code y_Expander_sizeOfText b_Expander_sizeOfText 5 (some .int),
  .instanceMethod y_Expander_sizeOfText,
  .methodLink R_Expander 166 y_Expander_sizeOfText,
  .selects R_Expander y_Expander_sizeOfText y_Expander_sizeOfText,
  .code y_Expander_putText b_Expander_putText 5 none,
  .instanceMethod y_Expander_putText,
  .methodLink R_Expander 170 y_Expander_putText,
  .selects R_Expander y_Expander_putText y_Expander_putText,
  .code y_Arguments_sizeOfAll b_Arguments_sizeOfAll 4 (some .int),
  .instanceMethod y_Arguments_sizeOfAll,
  .methodLink R_Expander 174 y_Arguments_sizeOfAll,
  .selects R_Arguments y_Arguments_sizeOfAll y_Arguments_sizeOfAll,
  .code y_Trace_add b_Trace_add 4 none,
  .instanceMethod y_Trace_add,
  .methodLink R_Expander 177 y_Trace_add,
  .selects R_Trace y_Trace_add y_Trace_add,
  .code y_Expander_expandName b_Expander_expandName 7 (some .int),
  .instanceMethod y_Expander_expandName,
  .methodLink R_Expander 111 y_Expander_expandName,
  .selects R_Expander y_Expander_expandName y_Expander_expandName,
  .code y_Expander_beginNaming b_Expander_beginNaming 1 (some .int),
  .instanceMethod y_Expander_beginNaming]
def tbl_12 : List Cond := [.methodLink R_Expander 108 y_Expander_beginNaming,
  .selects R_Expander y_Expander_beginNaming y_Expander_beginNaming,
  .code y_Expander_beginAfter b_Expander_beginAfter 1 (some .int),
  .instanceMethod y_Expander_beginAfter,
  .methodLink R_Expander 105 y_Expander_beginAfter,
  .selects R_Expander y_Expander_beginAfter y_Expander_beginAfter,
  .methodLink R_Expander 102 y_Input_isEmpty,
  .code y_Spelling_isSpelled b_Spelling_isSpelled 6 (some .boolean),
  .instanceMethod y_Spelling_isSpelled,
  .methodLink R_Spelling 22 y_Spelling_isSpelled,
  .selects R_Spelling y_Spelling_isSpelled y_Spelling_isSpelled,
  .methodLink R_Spelling 26 arraycopyName,
  .code y_Spelling_numberOf b_Spelling_numberOf 5 (some .int),
  .instanceMethod y_Spelling_numberOf,
  .methodLink R_Expander 138 y_Spelling_numberOf,
  .selects R_Spelling y_Spelling_numberOf y_Spelling_numberOf,
  .code y_Expander_takeFirst b_Expander_takeFirst 1 (some .int),
  .instanceMethod y_Expander_takeFirst,
  .methodLink R_Expander 125 y_Expander_takeFirst,
  .selects R_Expander y_Expander_takeFirst y_Expander_takeFirst,
  .code y_Kind_isSign b_Kind_isSign 1 (some .boolean),
  .static y_Kind_isSign,
  .methodLink R_Expander 132 y_Kind_isSign,
  .code y_Expander_endNaming b_Expander_endNaming 4 (some .int),
  .instanceMethod y_Expander_endNaming,
  .methodLink R_Expander 128 y_Expander_endNaming,
  .selects R_Expander y_Expander_endNaming y_Expander_endNaming,
  .methodLink R_Expander 118 y_Input_isFull,
  .code y_Expander_putBack b_Expander_putBack 1 (some .int),
  .instanceMethod y_Expander_putBack,
  .methodLink R_Expander 99 y_Expander_putBack,
  .selects R_Expander y_Expander_putBack y_Expander_putBack,
  .code y_Expander_goOnNaming b_Expander_goOnNaming 4 (some .int),
  .instanceMethod y_Expander_goOnNaming,
  .methodLink R_Expander 96 y_Expander_goOnNaming,
  .selects R_Expander y_Expander_goOnNaming y_Expander_goOnNaming,
  .code y_Expander_canExpand b_Expander_canExpand 2 (some .boolean),
  .instanceMethod y_Expander_canExpand,
  .methodLink R_Expander 92 y_Expander_canExpand,
  .selects R_Expander y_Expander_canExpand y_Expander_canExpand,
  .code y_Expander_expandFirst b_Expander_expandFirst 3 (some .int),
  .instanceMethod y_Expander_expandFirst,
  .methodLink R_Expander 88 y_Expander_expandFirst,
  .selects R_Expander y_Expander_expandFirst y_Expander_expandFirst,
  .constant R_Expander 91 1000000,
  .methodLink R_Definition 58 y_Kind_isName,
  .fieldLink R_Definition 35 R_Definition "name" "I",
  .methodLink R_Definition 86 y_Row_isFull,
  .methodLink R_Definition 89 y_Row_add,
  .methodLink R_Definition 64 y_Kind_isParameter]
def tbl_13 : List Cond := [.fieldLink R_Definition 38 R_Definition "arguments" "I",
  .methodLink R_Definition 70 Lib.Math.min.name,
  .methodLink R_Definition 76 Lib.Math.max.name,
  .code y_Definition_addTo b_Definition_addTo 2 (some .int),
  .static y_Definition_addTo,
  .methodLink R_Definition 79 y_Definition_addTo,
  .methodLink R_Definition 67 y_Kind_argumentOf,
  .fieldLink R_Definition 41 R_Definition "depth" "I",
  .methodLink R_Definition 83 y_Kind_nesting,
  .code y_Definition_acceptInText b_Definition_acceptInText 2 (some .int),
  .instanceMethod y_Definition_acceptInText,
  .methodLink R_Definition 55 y_Definition_acceptInText,
  .selects R_Definition y_Definition_acceptInText y_Definition_acceptInText,
  .code y_Definition_acceptInRows b_Definition_acceptInRows 2 (some .int),
  .instanceMethod y_Definition_acceptInRows,
  .methodLink R_Definition 52 y_Definition_acceptInRows,
  .selects R_Definition y_Definition_acceptInRows y_Definition_acceptInRows,
  .code y_Definition_acceptName b_Definition_acceptName 2 (some .int),
  .instanceMethod y_Definition_acceptName,
  .methodLink R_Definition 48 y_Definition_acceptName,
  .selects R_Definition y_Definition_acceptName y_Definition_acceptName,
  .methodLink R_Definition 97 y_Macro_row,
  .code y_Row_copyFrom b_Row_copyFrom 2 none,
  .instanceMethod y_Row_copyFrom,
  .methodLink R_Definition 101 y_Row_copyFrom,
  .selects R_Row y_Row_copyFrom y_Row_copyFrom,
  .classLink R_Definition 92 R_Macro,
  .methodLink R_Definition 94 y_Macro_init,
  .code y_Definition_accept b_Definition_accept 2 (some .int),
  .instanceMethod y_Definition_accept,
  .methodLink R_Whole 105 y_Definition_accept,
  .selects R_Definition y_Definition_accept y_Definition_accept,
  .code y_Definition_isRead b_Definition_isRead 1 (some .boolean),
  .instanceMethod y_Definition_isRead,
  .methodLink R_Whole 114 y_Definition_isRead,
  .selects R_Definition y_Definition_isRead y_Definition_isRead,
  .methodLink R_Whole 117 y_Book_isFull,
  .code y_Definition_toMacro b_Definition_toMacro 4 (some (.object "MacroExpand$Macro")),
  .instanceMethod y_Definition_toMacro,
  .methodLink R_Whole 120 y_Definition_toMacro,
  .selects R_Definition y_Definition_toMacro y_Definition_toMacro,
  .methodLink R_Whole 124 y_Book_enter,
  .code y_Definition_leave b_Definition_leave 1 none,
  .instanceMethod y_Definition_leave,
  .methodLink R_Whole 49 y_Definition_leave,
  .selects R_Definition y_Definition_leave y_Definition_leave,
  .methodLink R_Whole 128 y_Input_put,
  .methodLink R_Definition 28 y_Row_clear,
  .methodLink R_Whole 53 y_Input_isEmpty,
  .methodLink R_Whole 102 y_Input_take]
def tbl_14 : List Cond := [.code y_Definition_begin b_Definition_begin 3 none,
  .instanceMethod y_Definition_begin,
  .methodLink R_Whole 89 y_Definition_begin,
  .selects R_Definition y_Definition_begin y_Definition_begin,
  .code y_Kind_markOf b_Kind_markOf 1 (some .int),
  .static y_Kind_markOf,
  .methodLink R_Whole 84 y_Kind_markOf,
  .methodLink R_Whole 96 y_Row_isFull,
  .methodLink R_Whole 99 y_Row_add,
  .code y_Whole_takeLater b_Whole_takeLater 1 (some .int),
  .instanceMethod y_Whole_takeLater,
  .methodLink R_Whole 93 y_Whole_takeLater,
  .selects R_Whole y_Whole_takeLater y_Whole_takeLater,
  .methodLink R_Whole 71 y_Definition_isUnderWay,
  .methodLink R_Whole 74 y_Expander_takeFirst,
  .code y_Whole_carryOut b_Whole_carryOut 3 (some .int),
  .instanceMethod y_Whole_carryOut,
  .methodLink R_Whole 81 y_Whole_carryOut,
  .selects R_Whole y_Whole_carryOut y_Whole_carryOut,
  .code y_Whole_goOnDefining b_Whole_goOnDefining 3 (some .int),
  .instanceMethod y_Whole_goOnDefining,
  .methodLink R_Whole 77 y_Whole_goOnDefining,
  .selects R_Whole y_Whole_goOnDefining y_Whole_goOnDefining,
  .constant R_Whole 52 100000000,
  .code y_Definition_takesTokensAsTheyAre b_Definition_takesTokensAsTheyAre 1 (some .boolean),
  .instanceMethod y_Definition_takesTokensAsTheyAre,
  .methodLink R_Whole 59 y_Definition_takesTokensAsTheyAre,
  .selects R_Definition y_Definition_takesTokensAsTheyAre y_Definition_takesTokensAsTheyAre,
  .methodLink R_Whole 62 y_Expander_canExpand,
  .code y_Expander_expandOnce b_Expander_expandOnce 5 (some .int),
  .instanceMethod y_Expander_expandOnce,
  .methodLink R_Whole 67 y_Expander_expandOnce,
  .selects R_Expander y_Expander_expandOnce y_Expander_expandOnce,
  .methodLink R_Whole 46 y_Row_clear,
  .code y_Input_clear b_Input_clear 1 none,
  .instanceMethod y_Input_clear,
  .methodLink R_MacroExpand 131 y_Input_clear,
  .selects R_Input y_Input_clear y_Input_clear,
  .code y_Expander_begin b_Expander_begin 1 none,
  .instanceMethod y_Expander_begin,
  .methodLink R_MacroExpand 115 y_Expander_begin,
  .selects R_Expander y_Expander_begin y_Expander_begin,
  .methodLink R_MacroExpand 122 y_Expander_canExpand,
  .methodLink R_MacroExpand 125 y_Expander_expandOnce,
  .code y_Whole_run b_Whole_run 3 (some .int),
  .instanceMethod y_Whole_run,
  .methodLink R_MacroExpand 118 y_Whole_run,
  .selects R_Whole y_Whole_run y_Whole_run,
  .methodLink R_MacroExpand 140 y_Row_get,
  .methodLink R_Book 55 arraycopyName]
def tbl_15 : List Cond := [.code y_Book_closeGroup b_Book_closeGroup 1 (some .boolean),
  .instanceMethod y_Book_closeGroup,
  .methodLink R_MacroExpand 153 y_Book_closeGroup,
  .selects R_Book y_Book_closeGroup y_Book_closeGroup,
  .code y_Book_openGroup b_Book_openGroup 1 (some .boolean),
  .instanceMethod y_Book_openGroup,
  .methodLink R_MacroExpand 147 y_Book_openGroup,
  .selects R_Book y_Book_openGroup y_Book_openGroup,
  .code y_Spelling_lengthOf b_Spelling_lengthOf 2 (some .int),
  .instanceMethod y_Spelling_lengthOf,
  .methodLink R_MacroExpand 159 y_Spelling_lengthOf,
  .selects R_Spelling y_Spelling_lengthOf y_Spelling_lengthOf,
  .code y_Trace_get b_Trace_get 3 (some .int),
  .instanceMethod y_Trace_get,
  .methodLink R_MacroExpand 166 y_Trace_get,
  .selects R_Trace y_Trace_get y_Trace_get,
  .methodLink R_MacroExpand 171 y_Input_get,
  .methodLink R_MacroExpand 172 y_Book_numberOf,
  .code y_MacroExpandModel_group b_MacroExpandModel_group 3 (some .int),
  .instanceMethod y_MacroExpandModel_group,
  .methodLink R_MacroExpandLaw 56 y_MacroExpandModel_group,
  .selects R_MacroExpandModel y_MacroExpandModel_group y_MacroExpandModel_group,
  .code y_MacroExpand_group b_MacroExpand_group 2 (some .int),
  .instanceMethod y_MacroExpand_group,
  .methodLink R_MacroExpandLaw 53 y_MacroExpand_group,
  .selects R_MacroExpand y_MacroExpand_group y_MacroExpand_group,
  .code y_MacroExpandModel_expand b_MacroExpandModel_expand 3 (some .int),
  .instanceMethod y_MacroExpandModel_expand,
  .methodLink R_MacroExpandLaw 44 y_MacroExpandModel_expand,
  .selects R_MacroExpandModel y_MacroExpandModel_expand y_MacroExpandModel_expand,
  .code y_MacroExpand_expand b_MacroExpand_expand 3 (some .int),
  .instanceMethod y_MacroExpand_expand,
  .methodLink R_MacroExpandLaw 40 y_MacroExpand_expand,
  .selects R_MacroExpand y_MacroExpand_expand y_MacroExpand_expand,
  .code y_MacroExpand_define b_MacroExpand_define 4 (some .int),
  .instanceMethod y_MacroExpand_define,
  .methodLink R_MacroExpandLaw 21 y_MacroExpand_define,
  .selects R_MacroExpand y_MacroExpand_define y_MacroExpand_define,
  .code y_MacroExpandModel_define b_MacroExpandModel_define 4 (some .int),
  .instanceMethod y_MacroExpandModel_define,
  .methodLink R_MacroExpandLaw 25 y_MacroExpandModel_define,
  .selects R_MacroExpandModel y_MacroExpandModel_define y_MacroExpandModel_define,
  .code y_MacroExpand_body b_MacroExpand_body 4 (some .int),
  .instanceMethod y_MacroExpand_body,
  .methodLink R_MacroExpandLaw 26 y_MacroExpand_body,
  .selects R_MacroExpand y_MacroExpand_body y_MacroExpand_body,
  .code y_MacroExpandModel_body b_MacroExpandModel_body 3 (some .int),
  .instanceMethod y_MacroExpandModel_body,
  .methodLink R_MacroExpandLaw 30 y_MacroExpandModel_body,
  .selects R_MacroExpandModel y_MacroExpandModel_body y_MacroExpandModel_body]
def tbl_16 : List Cond := [.code y_MacroExpand_delimiter b_MacroExpand_delimiter 5 (some .int),
  .instanceMethod y_MacroExpand_delimiter,
  .methodLink R_MacroExpandLaw 31 y_MacroExpand_delimiter,
  .selects R_MacroExpand y_MacroExpand_delimiter y_MacroExpand_delimiter,
  .code y_MacroExpandModel_delimiter b_MacroExpandModel_delimiter 5 (some .int),
  .instanceMethod y_MacroExpandModel_delimiter,
  .methodLink R_MacroExpandLaw 34 y_MacroExpandModel_delimiter,
  .selects R_MacroExpandModel y_MacroExpandModel_delimiter y_MacroExpandModel_delimiter,
  .code y_MacroExpand_token b_MacroExpand_token 2 (some .int),
  .instanceMethod y_MacroExpand_token,
  .methodLink R_MacroExpandLaw 35 y_MacroExpand_token,
  .selects R_MacroExpand y_MacroExpand_token y_MacroExpand_token,
  .code y_MacroExpandModel_token b_MacroExpandModel_token 2 (some .int),
  .instanceMethod y_MacroExpandModel_token,
  .methodLink R_MacroExpandLaw 39 y_MacroExpandModel_token,
  .selects R_MacroExpandModel y_MacroExpandModel_token y_MacroExpandModel_token,
  .code y_MacroExpand_at b_MacroExpand_at 2 (some .int),
  .instanceMethod y_MacroExpand_at,
  .methodLink R_MacroExpandLaw 45 y_MacroExpand_at,
  .selects R_MacroExpand y_MacroExpand_at y_MacroExpand_at,
  .code y_MacroExpandModel_at b_MacroExpandModel_at 2 (some .int),
  .instanceMethod y_MacroExpandModel_at,
  .methodLink R_MacroExpandLaw 48 y_MacroExpandModel_at,
  .selects R_MacroExpandModel y_MacroExpandModel_at y_MacroExpandModel_at,
  .code y_MacroExpand_fault b_MacroExpand_fault 2 (some .int),
  .instanceMethod y_MacroExpand_fault,
  .methodLink R_MacroExpandLaw 49 y_MacroExpand_fault,
  .selects R_MacroExpand y_MacroExpand_fault y_MacroExpand_fault,
  .code y_MacroExpandModel_fault b_MacroExpandModel_fault 2 (some .int),
  .instanceMethod y_MacroExpandModel_fault,
  .methodLink R_MacroExpandLaw 52 y_MacroExpandModel_fault,
  .selects R_MacroExpandModel y_MacroExpandModel_fault y_MacroExpandModel_fault,
  .code y_MacroExpand_named b_MacroExpand_named 2 (some .int),
  .instanceMethod y_MacroExpand_named,
  .methodLink R_MacroExpandLaw 57 y_MacroExpand_named,
  .selects R_MacroExpand y_MacroExpand_named y_MacroExpand_named,
  .code y_MacroExpandModel_named b_MacroExpandModel_named 2 (some .int),
  .instanceMethod y_MacroExpandModel_named,
  .methodLink R_MacroExpandLaw 60 y_MacroExpandModel_named,
  .selects R_MacroExpandModel y_MacroExpandModel_named y_MacroExpandModel_named,
  .code y_MacroExpand_traced b_MacroExpand_traced 3 (some .int),
  .instanceMethod y_MacroExpand_traced,
  .methodLink R_MacroExpandLaw 61 y_MacroExpand_traced,
  .selects R_MacroExpand y_MacroExpand_traced y_MacroExpand_traced,
  .code y_MacroExpandModel_traced b_MacroExpandModel_traced 3 (some .int),
  .instanceMethod y_MacroExpandModel_traced,
  .methodLink R_MacroExpandLaw 64 y_MacroExpandModel_traced,
  .selects R_MacroExpandModel y_MacroExpandModel_traced y_MacroExpandModel_traced,
  .code y_MacroExpand_input b_MacroExpand_input 2 (some .int),
  .instanceMethod y_MacroExpand_input]
def tbl_17 : List Cond := [.methodLink R_MacroExpandLaw 65 y_MacroExpand_input,
  .selects R_MacroExpand y_MacroExpand_input y_MacroExpand_input,
  .code y_MacroExpandModel_input b_MacroExpandModel_input 2 (some .int),
  .instanceMethod y_MacroExpandModel_input,
  .methodLink R_MacroExpandLaw 68 y_MacroExpandModel_input,
  .selects R_MacroExpandModel y_MacroExpandModel_input y_MacroExpandModel_input,
  .code y_MacroExpand_macro b_MacroExpand_macro 2 (some .int),
  .instanceMethod y_MacroExpand_macro,
  .methodLink R_MacroExpandLaw 69 y_MacroExpand_macro,
  .selects R_MacroExpand y_MacroExpand_macro y_MacroExpand_macro,
  .code y_MacroExpandModel_macro b_MacroExpandModel_macro 2 (some .int),
  .instanceMethod y_MacroExpandModel_macro,
  .methodLink R_MacroExpandLaw 72 y_MacroExpandModel_macro,
  .selects R_MacroExpandModel y_MacroExpandModel_macro y_MacroExpandModel_macro,
  .classLink R_MacroExpandLaw 7 R_MacroExpand,
  .instantiable R_MacroExpand 7,
  .code y_MacroExpandLaw_cell b_MacroExpandLaw_cell 2 (some .int),
  .initialized R_MacroExpandLaw,
  .static y_MacroExpandLaw_cell,
  .methodLink R_MacroExpandLaw 9 y_MacroExpandLaw_cell,
  .code y_MacroExpand_init b_MacroExpand_init 4 none,
  .instanceMethod y_MacroExpand_init,
  .methodLink R_MacroExpandLaw 15 y_MacroExpand_init,
  .classLink R_MacroExpandLaw 18 R_MacroExpandModel,
  .instantiable R_MacroExpandModel 37,
  .code y_MacroExpandModel_init b_MacroExpandModel_init 4 none,
  .instanceMethod y_MacroExpandModel_init,
  .methodLink R_MacroExpandLaw 20 y_MacroExpandModel_init]
def tbl : List Cond := tbl_0 ++ (tbl_1 ++ (tbl_2 ++ (tbl_3 ++ (tbl_4 ++ (tbl_5 ++ (tbl_6 ++ (tbl_7 ++ (tbl_8 ++ (tbl_9 ++ (tbl_10 ++ (tbl_11 ++ (tbl_12 ++ (tbl_13 ++ (tbl_14 ++ (tbl_15 ++ (tbl_16 ++ (tbl_17)))))))))))))))))
theorem tblg_0 : tbl_0.all goodWord = true := rfl
theorem tblg_1 : tbl_1.all goodWord = true := rfl
theorem tblg_2 : tbl_2.all goodWord = true := rfl
theorem tblg_3 : tbl_3.all goodWord = true := rfl
theorem tblg_4 : tbl_4.all goodWord = true := rfl
theorem tblg_5 : tbl_5.all goodWord = true := rfl
theorem tblg_6 : tbl_6.all goodWord = true := rfl
theorem tblg_7 : tbl_7.all goodWord = true := rfl
theorem tblg_8 : tbl_8.all goodWord = true := rfl
theorem tblg_9 : tbl_9.all goodWord = true := rfl
theorem tblg_10 : tbl_10.all goodWord = true := rfl
theorem tblg_11 : tbl_11.all goodWord = true := rfl
theorem tblg_12 : tbl_12.all goodWord = true := rfl
theorem tblg_13 : tbl_13.all goodWord = true := rfl
theorem tblg_14 : tbl_14.all goodWord = true := rfl
theorem tblg_15 : tbl_15.all goodWord = true := rfl
theorem tblg_16 : tbl_16.all goodWord = true := rfl
theorem tblg_17 : tbl_17.all goodWord = true := rfl
theorem tbli_0 : ∀ w ∈ tbl_0, w ∈ tbl := fun _ h => List.mem_append_left _ h
theorem tbli_1 : ∀ w ∈ tbl_1, w ∈ tbl := fun _ h => List.mem_append_right _ (List.mem_append_left _ h)
theorem tbli_2 : ∀ w ∈ tbl_2, w ∈ tbl := fun _ h => List.mem_append_right _ (List.mem_append_right _ (List.mem_append_left _ h))
theorem tbli_3 : ∀ w ∈ tbl_3, w ∈ tbl := fun _ h => List.mem_append_right _ (List.mem_append_right _ (List.mem_append_right _ (List.mem_append_left _ h)))
theorem tbli_4 : ∀ w ∈ tbl_4, w ∈ tbl := fun _ h => List.mem_append_right _ (List.mem_append_right _ (List.mem_append_right _ (List.mem_append_right _ (List.mem_append_left _ h))))
theorem tbli_5 : ∀ w ∈ tbl_5, w ∈ tbl := fun _ h => List.mem_append_right _ (List.mem_append_right _ (List.mem_append_right _ (List.mem_append_right _ (List.mem_append_right _ (List.mem_append_left _ h)))))
theorem tbli_6 : ∀ w ∈ tbl_6, w ∈ tbl := fun _ h => List.mem_append_right _ (List.mem_append_right _ (List.mem_append_right _ (List.mem_append_right _ (List.mem_append_right _ (List.mem_append_right _ (List.mem_append_left _ h))))))
theorem tbli_7 : ∀ w ∈ tbl_7, w ∈ tbl := fun _ h => List.mem_append_right _ (List.mem_append_right _ (List.mem_append_right _ (List.mem_append_right _ (List.mem_append_right _ (List.mem_append_right _ (List.mem_append_right _ (List.mem_append_left _ h)))))))
theorem tbli_8 : ∀ w ∈ tbl_8, w ∈ tbl := fun _ h => List.mem_append_right _ (List.mem_append_right _ (List.mem_append_right _ (List.mem_append_right _ (List.mem_append_right _ (List.mem_append_right _ (List.mem_append_right _ (List.mem_append_right _ (List.mem_append_left _ h))))))))
theorem tbli_9 : ∀ w ∈ tbl_9, w ∈ tbl := fun _ h => List.mem_append_right _ (List.mem_append_right _ (List.mem_append_right _ (List.mem_append_right _ (List.mem_append_right _ (List.mem_append_right _ (List.mem_append_right _ (List.mem_append_right _ (List.mem_append_right _ (List.mem_append_left _ h)))))))))
theorem tbli_10 : ∀ w ∈ tbl_10, w ∈ tbl := fun _ h => List.mem_append_right _ (List.mem_append_right _ (List.mem_append_right _ (List.mem_append_right _ (List.mem_append_right _ (List.mem_append_right _ (List.mem_append_right _ (List.mem_append_right _ (List.mem_append_right _ (List.mem_append_right _ (List.mem_append_left _ h))))))))))
theorem tbli_11 : ∀ w ∈ tbl_11, w ∈ tbl := fun _ h => List.mem_append_right _ (List.mem_append_right _ (List.mem_append_right _ (List.mem_append_right _ (List.mem_append_right _ (List.mem_append_right _ (List.mem_append_right _ (List.mem_append_right _ (List.mem_append_right _ (List.mem_append_right _ (List.mem_append_right _ (List.mem_append_left _ h)))))))))))
theorem tbli_12 : ∀ w ∈ tbl_12, w ∈ tbl := fun _ h => List.mem_append_right _ (List.mem_append_right _ (List.mem_append_right _ (List.mem_append_right _ (List.mem_append_right _ (List.mem_append_right _ (List.mem_append_right _ (List.mem_append_right _ (List.mem_append_right _ (List.mem_append_right _ (List.mem_append_right _ (List.mem_append_right _ (List.mem_append_left _ h))))))))))))
theorem tbli_13 : ∀ w ∈ tbl_13, w ∈ tbl := fun _ h => List.mem_append_right _ (List.mem_append_right _ (List.mem_append_right _ (List.mem_append_right _ (List.mem_append_right _ (List.mem_append_right _ (List.mem_append_right _ (List.mem_append_right _ (List.mem_append_right _ (List.mem_append_right _ (List.mem_append_right _ (List.mem_append_right _ (List.mem_append_right _ (List.mem_append_left _ h)))))))))))))
theorem tbli_14 : ∀ w ∈ tbl_14, w ∈ tbl := fun _ h => List.mem_append_right _ (List.mem_append_right _ (List.mem_append_right _ (List.mem_append_right _ (List.mem_append_right _ (List.mem_append_right _ (List.mem_append_right _ (List.mem_append_right _ (List.mem_append_right _ (List.mem_append_right _ (List.mem_append_right _ (List.mem_append_right _ (List.mem_append_right _ (List.mem_append_right _ (List.mem_append_left _ h))))))))))))))
theorem tbli_15 : ∀ w ∈ tbl_15, w ∈ tbl := fun _ h => List.mem_append_right _ (List.mem_append_right _ (List.mem_append_right _ (List.mem_append_right _ (List.mem_append_right _ (List.mem_append_right _ (List.mem_append_right _ (List.mem_append_right _ (List.mem_append_right _ (List.mem_append_right _ (List.mem_append_right _ (List.mem_append_right _ (List.mem_append_right _ (List.mem_append_right _ (List.mem_append_right _ (List.mem_append_left _ h)))))))))))))))
theorem tbli_16 : ∀ w ∈ tbl_16, w ∈ tbl := fun _ h => List.mem_append_right _ (List.mem_append_right _ (List.mem_append_right _ (List.mem_append_right _ (List.mem_append_right _ (List.mem_append_right _ (List.mem_append_right _ (List.mem_append_right _ (List.mem_append_right _ (List.mem_append_right _ (List.mem_append_right _ (List.mem_append_right _ (List.mem_append_right _ (List.mem_append_right _ (List.mem_append_right _ (List.mem_append_right _ (List.mem_append_left _ h))))))))))))))))
theorem tbli_17 : ∀ w ∈ tbl_17, w ∈ tbl := fun _ h => List.mem_append_right _ (List.mem_append_right _ (List.mem_append_right _ (List.mem_append_right _ (List.mem_append_right _ (List.mem_append_right _ (List.mem_append_right _ (List.mem_append_right _ (List.mem_append_right _ (List.mem_append_right _ (List.mem_append_right _ (List.mem_append_right _ (List.mem_append_right _ (List.mem_append_right _ (List.mem_append_right _ (List.mem_append_right _ (List.mem_append_right _ (h)))))))))))))))))
theorem tbl_good : ∀ w ∈ tbl, (w.onTables && w.keeps) = true ∨ ∃ ty, w = .arrayClass ty := by
  intro w hw
  unfold tbl at hw
  rcases List.mem_append.mp hw with hw | hw
  · exact good_of_word (List.all_eq_true.mp tblg_0 w hw)
  rcases List.mem_append.mp hw with hw | hw
  · exact good_of_word (List.all_eq_true.mp tblg_1 w hw)
  rcases List.mem_append.mp hw with hw | hw
  · exact good_of_word (List.all_eq_true.mp tblg_2 w hw)
  rcases List.mem_append.mp hw with hw | hw
  · exact good_of_word (List.all_eq_true.mp tblg_3 w hw)
  rcases List.mem_append.mp hw with hw | hw
  · exact good_of_word (List.all_eq_true.mp tblg_4 w hw)
  rcases List.mem_append.mp hw with hw | hw
  · exact good_of_word (List.all_eq_true.mp tblg_5 w hw)
  rcases List.mem_append.mp hw with hw | hw
  · exact good_of_word (List.all_eq_true.mp tblg_6 w hw)
  rcases List.mem_append.mp hw with hw | hw
  · exact good_of_word (List.all_eq_true.mp tblg_7 w hw)
  rcases List.mem_append.mp hw with hw | hw
  · exact good_of_word (List.all_eq_true.mp tblg_8 w hw)
  rcases List.mem_append.mp hw with hw | hw
  · exact good_of_word (List.all_eq_true.mp tblg_9 w hw)
  rcases List.mem_append.mp hw with hw | hw
  · exact good_of_word (List.all_eq_true.mp tblg_10 w hw)
  rcases List.mem_append.mp hw with hw | hw
  · exact good_of_word (List.all_eq_true.mp tblg_11 w hw)
  rcases List.mem_append.mp hw with hw | hw
  · exact good_of_word (List.all_eq_true.mp tblg_12 w hw)
  rcases List.mem_append.mp hw with hw | hw
  · exact good_of_word (List.all_eq_true.mp tblg_13 w hw)
  rcases List.mem_append.mp hw with hw | hw
  · exact good_of_word (List.all_eq_true.mp tblg_14 w hw)
  rcases List.mem_append.mp hw with hw | hw
  · exact good_of_word (List.all_eq_true.mp tblg_15 w hw)
  rcases List.mem_append.mp hw with hw | hw
  · exact good_of_word (List.all_eq_true.mp tblg_16 w hw)
  exact good_of_word (List.all_eq_true.mp tblg_17 w hw)
theorem fl_MacroExpandModel_35 : Cond.fieldLink R_MacroExpandModel 35 R_MacroExpandModel "macroOf" "[I" ∈ tbl := tbli_1 _ (List.mem_of_getElem? (i := 49) rfl)
theorem fl_MacroExpandModel_79 : Cond.fieldLink R_MacroExpandModel 79 R_MacroExpandModel "granted" "I" ∈ tbl := tbli_2 _ (List.mem_of_getElem? (i := 0) rfl)
theorem ml_MacroExpandModel_1 : Cond.methodLink R_MacroExpandModel 1 objectInit ∈ tbl := tbli_2 _ (List.mem_of_getElem? (i := 1) rfl)
theorem ac_int : Cond.arrayClass .int ∈ tbl := tbli_2 _ (List.mem_of_getElem? (i := 2) rfl)
theorem fl_MacroExpandModel_7 : Cond.fieldLink R_MacroExpandModel 7 R_MacroExpandModel "ring" "[I" ∈ tbl := tbli_2 _ (List.mem_of_getElem? (i := 3) rfl)
theorem fl_MacroExpandModel_13 : Cond.fieldLink R_MacroExpandModel 13 R_MacroExpandModel "out" "[I" ∈ tbl := tbli_2 _ (List.mem_of_getElem? (i := 4) rfl)
theorem fl_MacroExpandModel_16 : Cond.fieldLink R_MacroExpandModel 16 R_MacroExpandModel "arguments" "[I" ∈ tbl := tbli_2 _ (List.mem_of_getElem? (i := 5) rfl)
theorem fl_MacroExpandModel_19 : Cond.fieldLink R_MacroExpandModel 19 R_MacroExpandModel "marks" "[I" ∈ tbl := tbli_2 _ (List.mem_of_getElem? (i := 6) rfl)
theorem fl_MacroExpandModel_22 : Cond.fieldLink R_MacroExpandModel 22 R_MacroExpandModel "bodySize" "[I" ∈ tbl := tbli_2 _ (List.mem_of_getElem? (i := 7) rfl)
theorem fl_MacroExpandModel_25 : Cond.fieldLink R_MacroExpandModel 25 R_MacroExpandModel "bodies" "[I" ∈ tbl := tbli_2 _ (List.mem_of_getElem? (i := 8) rfl)
theorem fl_MacroExpandModel_28 : Cond.fieldLink R_MacroExpandModel 28 R_MacroExpandModel "rowSize" "[I" ∈ tbl := tbli_2 _ (List.mem_of_getElem? (i := 9) rfl)
theorem ct_MacroExpandModel_31 : Cond.constant R_MacroExpandModel 31 200000 ∈ tbl := tbli_2 _ (List.mem_of_getElem? (i := 10) rfl)
theorem fl_MacroExpandModel_32 : Cond.fieldLink R_MacroExpandModel 32 R_MacroExpandModel "rows" "[I" ∈ tbl := tbli_2 _ (List.mem_of_getElem? (i := 11) rfl)
theorem fl_MacroExpandModel_38 : Cond.fieldLink R_MacroExpandModel 38 R_MacroExpandModel "saved" "[I" ∈ tbl := tbli_2 _ (List.mem_of_getElem? (i := 12) rfl)
theorem fl_MacroExpandModel_41 : Cond.fieldLink R_MacroExpandModel 41 R_MacroExpandModel "madeSize" "[I" ∈ tbl := tbli_2 _ (List.mem_of_getElem? (i := 13) rfl)
theorem fl_MacroExpandModel_44 : Cond.fieldLink R_MacroExpandModel 44 R_MacroExpandModel "madeSigns" "[I" ∈ tbl := tbli_2 _ (List.mem_of_getElem? (i := 14) rfl)
theorem fl_MacroExpandModel_47 : Cond.fieldLink R_MacroExpandModel 47 R_MacroExpandModel "argumentSize" "[I" ∈ tbl := tbli_2 _ (List.mem_of_getElem? (i := 15) rfl)
theorem fl_MacroExpandModel_50 : Cond.fieldLink R_MacroExpandModel 50 R_MacroExpandModel "argument" "[I" ∈ tbl := tbli_2 _ (List.mem_of_getElem? (i := 16) rfl)
theorem fl_MacroExpandModel_53 : Cond.fieldLink R_MacroExpandModel 53 R_MacroExpandModel "trace" "[I" ∈ tbl := tbli_2 _ (List.mem_of_getElem? (i := 17) rfl)
theorem fl_MacroExpandModel_56 : Cond.fieldLink R_MacroExpandModel 56 R_MacroExpandModel "signs" "[I" ∈ tbl := tbli_2 _ (List.mem_of_getElem? (i := 18) rfl)
theorem fl_MacroExpandModel_59 : Cond.fieldLink R_MacroExpandModel 59 R_MacroExpandModel "pileKind" "[I" ∈ tbl := tbli_2 _ (List.mem_of_getElem? (i := 19) rfl)
theorem fl_MacroExpandModel_62 : Cond.fieldLink R_MacroExpandModel 62 R_MacroExpandModel "pileAt" "[I" ∈ tbl := tbli_2 _ (List.mem_of_getElem? (i := 20) rfl)
theorem fl_MacroExpandModel_65 : Cond.fieldLink R_MacroExpandModel 65 R_MacroExpandModel "pileCount" "[I" ∈ tbl := tbli_2 _ (List.mem_of_getElem? (i := 21) rfl)
theorem fl_MacroExpandModel_68 : Cond.fieldLink R_MacroExpandModel 68 R_MacroExpandModel "row" "[I" ∈ tbl := tbli_2 _ (List.mem_of_getElem? (i := 22) rfl)
theorem fl_MacroExpandModel_71 : Cond.fieldLink R_MacroExpandModel 71 R_MacroExpandModel "rowMany" "[I" ∈ tbl := tbli_2 _ (List.mem_of_getElem? (i := 23) rfl)
theorem fl_MacroExpandModel_74 : Cond.fieldLink R_MacroExpandModel 74 R_MacroExpandModel "draft" "[I" ∈ tbl := tbli_2 _ (List.mem_of_getElem? (i := 24) rfl)
theorem ct_MacroExpandModel_77 : Cond.constantLong R_MacroExpandModel 77 20000 ∈ tbl := tbli_2 _ (List.mem_of_getElem? (i := 25) rfl)
theorem cd_MacroExpandModel_in : Cond.code y_MacroExpandModel_in b_MacroExpandModel_in 3 (some .boolean) ∈ tbl := tbli_2 _ (List.mem_of_getElem? (i := 26) rfl)
theorem it_MacroExpandModel : Cond.initialized R_MacroExpandModel ∈ tbl := tbli_2 _ (List.mem_of_getElem? (i := 27) rfl)
theorem sm_MacroExpandModel_in : Cond.static y_MacroExpandModel_in ∈ tbl := tbli_2 _ (List.mem_of_getElem? (i := 28) rfl)
theorem ml_MacroExpandModel_83 : Cond.methodLink R_MacroExpandModel 83 y_MacroExpandModel_in ∈ tbl := tbli_2 _ (List.mem_of_getElem? (i := 29) rfl)
theorem cd_MacroExpandModel_isParameter : Cond.code y_MacroExpandModel_isParameter b_MacroExpandModel_isParameter 1 (some .boolean) ∈ tbl := tbli_2 _ (List.mem_of_getElem? (i := 30) rfl)
theorem sm_MacroExpandModel_isParameter : Cond.static y_MacroExpandModel_isParameter ∈ tbl := tbli_2 _ (List.mem_of_getElem? (i := 31) rfl)
theorem ml_MacroExpandModel_87 : Cond.methodLink R_MacroExpandModel 87 y_MacroExpandModel_isParameter ∈ tbl := tbli_2 _ (List.mem_of_getElem? (i := 32) rfl)
theorem cd_MacroExpandModel_isName : Cond.code y_MacroExpandModel_isName b_MacroExpandModel_isName 1 (some .boolean) ∈ tbl := tbli_2 _ (List.mem_of_getElem? (i := 33) rfl)
theorem sm_MacroExpandModel_isName : Cond.static y_MacroExpandModel_isName ∈ tbl := tbli_2 _ (List.mem_of_getElem? (i := 34) rfl)
theorem ml_MacroExpandModel_91 : Cond.methodLink R_MacroExpandModel 91 y_MacroExpandModel_isName ∈ tbl := tbli_2 _ (List.mem_of_getElem? (i := 35) rfl)
theorem fl_MacroExpandModel_97 : Cond.fieldLink R_MacroExpandModel 97 R_MacroExpandModel "groups" "I" ∈ tbl := tbli_2 _ (List.mem_of_getElem? (i := 36) rfl)
theorem fl_MacroExpandModel_94 : Cond.fieldLink R_MacroExpandModel 94 R_MacroExpandModel "macros" "I" ∈ tbl := tbli_2 _ (List.mem_of_getElem? (i := 37) rfl)
theorem cd_MacroExpandModel_newMacro : Cond.code y_MacroExpandModel_newMacro b_MacroExpandModel_newMacro 6 (some .int) ∈ tbl := tbli_2 _ (List.mem_of_getElem? (i := 38) rfl)
theorem im_MacroExpandModel_newMacro : Cond.instanceMethod y_MacroExpandModel_newMacro ∈ tbl := tbli_2 _ (List.mem_of_getElem? (i := 39) rfl)
theorem ml_MacroExpandModel_100 : Cond.methodLink R_MacroExpandModel 100 y_MacroExpandModel_newMacro ∈ tbl := tbli_2 _ (List.mem_of_getElem? (i := 40) rfl)
theorem se_MacroExpandModel_newMacro : Cond.selects R_MacroExpandModel y_MacroExpandModel_newMacro y_MacroExpandModel_newMacro ∈ tbl := tbli_2 _ (List.mem_of_getElem? (i := 41) rfl)
theorem cd_MacroExpandModel_isToken : Cond.code y_MacroExpandModel_isToken b_MacroExpandModel_isToken 1 (some .boolean) ∈ tbl := tbli_2 _ (List.mem_of_getElem? (i := 42) rfl)
theorem sm_MacroExpandModel_isToken : Cond.static y_MacroExpandModel_isToken ∈ tbl := tbli_2 _ (List.mem_of_getElem? (i := 43) rfl)
theorem ml_MacroExpandModel_104 : Cond.methodLink R_MacroExpandModel 104 y_MacroExpandModel_isToken ∈ tbl := tbli_2 _ (List.mem_of_getElem? (i := 44) rfl)
theorem fl_MacroExpandModel_107 : Cond.fieldLink R_MacroExpandModel 107 R_MacroExpandModel "size" "I" ∈ tbl := tbli_2 _ (List.mem_of_getElem? (i := 45) rfl)
theorem fl_MacroExpandModel_110 : Cond.fieldLink R_MacroExpandModel 110 R_MacroExpandModel "head" "I" ∈ tbl := tbli_2 _ (List.mem_of_getElem? (i := 46) rfl)
theorem fl_MacroExpandModel_113 : Cond.fieldLink R_MacroExpandModel 113 R_MacroExpandModel "wrong" "I" ∈ tbl := tbli_2 _ (List.mem_of_getElem? (i := 47) rfl)
theorem cd_MacroExpandModel_get : Cond.code y_MacroExpandModel_get b_MacroExpandModel_get 2 (some .int) ∈ tbl := tbli_2 _ (List.mem_of_getElem? (i := 48) rfl)
theorem im_MacroExpandModel_get : Cond.instanceMethod y_MacroExpandModel_get ∈ tbl := tbli_2 _ (List.mem_of_getElem? (i := 49) rfl)
theorem ml_MacroExpandModel_116 : Cond.methodLink R_MacroExpandModel 116 y_MacroExpandModel_get ∈ tbl := tbli_3 _ (List.mem_of_getElem? (i := 0) rfl)
theorem se_MacroExpandModel_get : Cond.selects R_MacroExpandModel y_MacroExpandModel_get y_MacroExpandModel_get ∈ tbl := tbli_3 _ (List.mem_of_getElem? (i := 1) rfl)
theorem cd_MacroExpandModel_macroAt : Cond.code y_MacroExpandModel_macroAt b_MacroExpandModel_macroAt 2 (some .int) ∈ tbl := tbli_3 _ (List.mem_of_getElem? (i := 2) rfl)
theorem im_MacroExpandModel_macroAt : Cond.instanceMethod y_MacroExpandModel_macroAt ∈ tbl := tbli_3 _ (List.mem_of_getElem? (i := 3) rfl)
theorem ml_MacroExpandModel_120 : Cond.methodLink R_MacroExpandModel 120 y_MacroExpandModel_macroAt ∈ tbl := tbli_3 _ (List.mem_of_getElem? (i := 4) rfl)
theorem se_MacroExpandModel_macroAt : Cond.selects R_MacroExpandModel y_MacroExpandModel_macroAt y_MacroExpandModel_macroAt ∈ tbl := tbli_3 _ (List.mem_of_getElem? (i := 5) rfl)
theorem cd_MacroExpandModel_mark : Cond.code y_MacroExpandModel_mark b_MacroExpandModel_mark 2 none ∈ tbl := tbli_3 _ (List.mem_of_getElem? (i := 6) rfl)
theorem im_MacroExpandModel_mark : Cond.instanceMethod y_MacroExpandModel_mark ∈ tbl := tbli_3 _ (List.mem_of_getElem? (i := 7) rfl)
theorem ml_MacroExpandModel_123 : Cond.methodLink R_MacroExpandModel 123 y_MacroExpandModel_mark ∈ tbl := tbli_3 _ (List.mem_of_getElem? (i := 8) rfl)
theorem se_MacroExpandModel_mark : Cond.selects R_MacroExpandModel y_MacroExpandModel_mark y_MacroExpandModel_mark ∈ tbl := tbli_3 _ (List.mem_of_getElem? (i := 9) rfl)
theorem cd_MacroExpandModel_give : Cond.code y_MacroExpandModel_give b_MacroExpandModel_give 3 none ∈ tbl := tbli_3 _ (List.mem_of_getElem? (i := 10) rfl)
theorem im_MacroExpandModel_give : Cond.instanceMethod y_MacroExpandModel_give ∈ tbl := tbli_3 _ (List.mem_of_getElem? (i := 11) rfl)
theorem ml_MacroExpandModel_131 : Cond.methodLink R_MacroExpandModel 131 y_MacroExpandModel_give ∈ tbl := tbli_3 _ (List.mem_of_getElem? (i := 12) rfl)
theorem se_MacroExpandModel_give : Cond.selects R_MacroExpandModel y_MacroExpandModel_give y_MacroExpandModel_give ∈ tbl := tbli_3 _ (List.mem_of_getElem? (i := 13) rfl)
theorem cd_MacroExpandModel_isThere : Cond.code y_MacroExpandModel_isThere b_MacroExpandModel_isThere 4 (some .boolean) ∈ tbl := tbli_3 _ (List.mem_of_getElem? (i := 14) rfl)
theorem im_MacroExpandModel_isThere : Cond.instanceMethod y_MacroExpandModel_isThere ∈ tbl := tbli_3 _ (List.mem_of_getElem? (i := 15) rfl)
theorem ml_MacroExpandModel_127 : Cond.methodLink R_MacroExpandModel 127 y_MacroExpandModel_isThere ∈ tbl := tbli_3 _ (List.mem_of_getElem? (i := 16) rfl)
theorem se_MacroExpandModel_isThere : Cond.selects R_MacroExpandModel y_MacroExpandModel_isThere y_MacroExpandModel_isThere ∈ tbl := tbli_3 _ (List.mem_of_getElem? (i := 17) rfl)
theorem cd_MacroExpandModel_rowComes : Cond.code y_MacroExpandModel_rowComes b_MacroExpandModel_rowComes 5 (some .boolean) ∈ tbl := tbli_3 _ (List.mem_of_getElem? (i := 18) rfl)
theorem im_MacroExpandModel_rowComes : Cond.instanceMethod y_MacroExpandModel_rowComes ∈ tbl := tbli_3 _ (List.mem_of_getElem? (i := 19) rfl)
theorem ml_MacroExpandModel_135 : Cond.methodLink R_MacroExpandModel 135 y_MacroExpandModel_rowComes ∈ tbl := tbli_3 _ (List.mem_of_getElem? (i := 20) rfl)
theorem se_MacroExpandModel_rowComes : Cond.selects R_MacroExpandModel y_MacroExpandModel_rowComes y_MacroExpandModel_rowComes ∈ tbl := tbli_3 _ (List.mem_of_getElem? (i := 21) rfl)
theorem fl_MacroExpandModel_139 : Cond.fieldLink R_MacroExpandModel 139 R_MacroExpandModel "deep" "I" ∈ tbl := tbli_3 _ (List.mem_of_getElem? (i := 22) rfl)
theorem fl_MacroExpandModel_142 : Cond.fieldLink R_MacroExpandModel 142 R_MacroExpandModel "nameAt" "I" ∈ tbl := tbli_3 _ (List.mem_of_getElem? (i := 23) rfl)
theorem cd_MacroExpandModel_set : Cond.code y_MacroExpandModel_set b_MacroExpandModel_set 3 none ∈ tbl := tbli_3 _ (List.mem_of_getElem? (i := 24) rfl)
theorem im_MacroExpandModel_set : Cond.instanceMethod y_MacroExpandModel_set ∈ tbl := tbli_3 _ (List.mem_of_getElem? (i := 25) rfl)
theorem ml_MacroExpandModel_166 : Cond.methodLink R_MacroExpandModel 166 y_MacroExpandModel_set ∈ tbl := tbli_3 _ (List.mem_of_getElem? (i := 26) rfl)
theorem se_MacroExpandModel_set : Cond.selects R_MacroExpandModel y_MacroExpandModel_set y_MacroExpandModel_set ∈ tbl := tbli_3 _ (List.mem_of_getElem? (i := 27) rfl)
theorem cd_MacroExpandModel_take : Cond.code y_MacroExpandModel_take b_MacroExpandModel_take 4 none ∈ tbl := tbli_3 _ (List.mem_of_getElem? (i := 28) rfl)
theorem im_MacroExpandModel_take : Cond.instanceMethod y_MacroExpandModel_take ∈ tbl := tbli_3 _ (List.mem_of_getElem? (i := 29) rfl)
theorem ml_MacroExpandModel_160 : Cond.methodLink R_MacroExpandModel 160 y_MacroExpandModel_take ∈ tbl := tbli_3 _ (List.mem_of_getElem? (i := 30) rfl)
theorem se_MacroExpandModel_take : Cond.selects R_MacroExpandModel y_MacroExpandModel_take y_MacroExpandModel_take ∈ tbl := tbli_3 _ (List.mem_of_getElem? (i := 31) rfl)
theorem cd_MacroExpandModel_spread : Cond.code y_MacroExpandModel_spread b_MacroExpandModel_spread 4 none ∈ tbl := tbli_3 _ (List.mem_of_getElem? (i := 32) rfl)
theorem im_MacroExpandModel_spread : Cond.instanceMethod y_MacroExpandModel_spread ∈ tbl := tbli_3 _ (List.mem_of_getElem? (i := 33) rfl)
theorem ml_MacroExpandModel_163 : Cond.methodLink R_MacroExpandModel 163 y_MacroExpandModel_spread ∈ tbl := tbli_3 _ (List.mem_of_getElem? (i := 34) rfl)
theorem se_MacroExpandModel_spread : Cond.selects R_MacroExpandModel y_MacroExpandModel_spread y_MacroExpandModel_spread ∈ tbl := tbli_3 _ (List.mem_of_getElem? (i := 35) rfl)
theorem fl_MacroExpandModel_169 : Cond.fieldLink R_MacroExpandModel 169 R_MacroExpandModel "traces" "I" ∈ tbl := tbli_3 _ (List.mem_of_getElem? (i := 36) rfl)
theorem cd_MacroExpandModel_passed : Cond.code y_MacroExpandModel_passed b_MacroExpandModel_passed 3 (some .int) ∈ tbl := tbli_3 _ (List.mem_of_getElem? (i := 37) rfl)
theorem im_MacroExpandModel_passed : Cond.instanceMethod y_MacroExpandModel_passed ∈ tbl := tbli_3 _ (List.mem_of_getElem? (i := 38) rfl)
theorem ml_MacroExpandModel_156 : Cond.methodLink R_MacroExpandModel 156 y_MacroExpandModel_passed ∈ tbl := tbli_3 _ (List.mem_of_getElem? (i := 39) rfl)
theorem se_MacroExpandModel_passed : Cond.selects R_MacroExpandModel y_MacroExpandModel_passed y_MacroExpandModel_passed ∈ tbl := tbli_3 _ (List.mem_of_getElem? (i := 40) rfl)
theorem cd_MacroExpandModel_delimited : Cond.code y_MacroExpandModel_delimited b_MacroExpandModel_delimited 9 (some .int) ∈ tbl := tbli_3 _ (List.mem_of_getElem? (i := 41) rfl)
theorem im_MacroExpandModel_delimited : Cond.instanceMethod y_MacroExpandModel_delimited ∈ tbl := tbli_3 _ (List.mem_of_getElem? (i := 42) rfl)
theorem ml_MacroExpandModel_149 : Cond.methodLink R_MacroExpandModel 149 y_MacroExpandModel_delimited ∈ tbl := tbli_3 _ (List.mem_of_getElem? (i := 43) rfl)
theorem se_MacroExpandModel_delimited : Cond.selects R_MacroExpandModel y_MacroExpandModel_delimited y_MacroExpandModel_delimited ∈ tbl := tbli_3 _ (List.mem_of_getElem? (i := 44) rfl)
theorem cd_MacroExpandModel_plain : Cond.code y_MacroExpandModel_plain b_MacroExpandModel_plain 6 (some .int) ∈ tbl := tbli_3 _ (List.mem_of_getElem? (i := 45) rfl)
theorem im_MacroExpandModel_plain : Cond.instanceMethod y_MacroExpandModel_plain ∈ tbl := tbli_3 _ (List.mem_of_getElem? (i := 46) rfl)
theorem ml_MacroExpandModel_145 : Cond.methodLink R_MacroExpandModel 145 y_MacroExpandModel_plain ∈ tbl := tbli_3 _ (List.mem_of_getElem? (i := 47) rfl)
theorem se_MacroExpandModel_plain : Cond.selects R_MacroExpandModel y_MacroExpandModel_plain y_MacroExpandModel_plain ∈ tbl := tbli_3 _ (List.mem_of_getElem? (i := 48) rfl)
theorem cd_MacroExpandModel_comes : Cond.code y_MacroExpandModel_comes b_MacroExpandModel_comes 6 (some .int) ∈ tbl := tbli_3 _ (List.mem_of_getElem? (i := 49) rfl)
theorem im_MacroExpandModel_comes : Cond.instanceMethod y_MacroExpandModel_comes ∈ tbl := tbli_4 _ (List.mem_of_getElem? (i := 0) rfl)
theorem ml_MacroExpandModel_153 : Cond.methodLink R_MacroExpandModel 153 y_MacroExpandModel_comes ∈ tbl := tbli_4 _ (List.mem_of_getElem? (i := 1) rfl)
theorem se_MacroExpandModel_comes : Cond.selects R_MacroExpandModel y_MacroExpandModel_comes y_MacroExpandModel_comes ∈ tbl := tbli_4 _ (List.mem_of_getElem? (i := 2) rfl)
theorem fl_MacroExpandModel_172 : Cond.fieldLink R_MacroExpandModel 172 R_MacroExpandModel "made" "I" ∈ tbl := tbli_4 _ (List.mem_of_getElem? (i := 3) rfl)
theorem fl_MacroExpandModel_175 : Cond.fieldLink R_MacroExpandModel 175 R_MacroExpandModel "steps" "I" ∈ tbl := tbli_4 _ (List.mem_of_getElem? (i := 4) rfl)
theorem cd_MacroExpandModel_expandName : Cond.code y_MacroExpandModel_expandName b_MacroExpandModel_expandName 14 none ∈ tbl := tbli_4 _ (List.mem_of_getElem? (i := 5) rfl)
theorem im_MacroExpandModel_expandName : Cond.instanceMethod y_MacroExpandModel_expandName ∈ tbl := tbli_4 _ (List.mem_of_getElem? (i := 6) rfl)
theorem ml_MacroExpandModel_188 : Cond.methodLink R_MacroExpandModel 188 y_MacroExpandModel_expandName ∈ tbl := tbli_4 _ (List.mem_of_getElem? (i := 7) rfl)
theorem se_MacroExpandModel_expandName : Cond.selects R_MacroExpandModel y_MacroExpandModel_expandName y_MacroExpandModel_expandName ∈ tbl := tbli_4 _ (List.mem_of_getElem? (i := 8) rfl)
theorem fl_MacroExpandModel_178 : Cond.fieldLink R_MacroExpandModel 178 R_MacroExpandModel "held" "Z" ∈ tbl := tbli_4 _ (List.mem_of_getElem? (i := 9) rfl)
theorem cd_MacroExpandModel_pile : Cond.code y_MacroExpandModel_pile b_MacroExpandModel_pile 3 none ∈ tbl := tbli_4 _ (List.mem_of_getElem? (i := 10) rfl)
theorem im_MacroExpandModel_pile : Cond.instanceMethod y_MacroExpandModel_pile ∈ tbl := tbli_4 _ (List.mem_of_getElem? (i := 11) rfl)
theorem ml_MacroExpandModel_185 : Cond.methodLink R_MacroExpandModel 185 y_MacroExpandModel_pile ∈ tbl := tbli_4 _ (List.mem_of_getElem? (i := 12) rfl)
theorem se_MacroExpandModel_pile : Cond.selects R_MacroExpandModel y_MacroExpandModel_pile y_MacroExpandModel_pile ∈ tbl := tbli_4 _ (List.mem_of_getElem? (i := 13) rfl)
theorem cd_MacroExpandModel_canBeExpanded : Cond.code y_MacroExpandModel_canBeExpanded b_MacroExpandModel_canBeExpanded 2 (some .boolean) ∈ tbl := tbli_4 _ (List.mem_of_getElem? (i := 14) rfl)
theorem im_MacroExpandModel_canBeExpanded : Cond.instanceMethod y_MacroExpandModel_canBeExpanded ∈ tbl := tbli_4 _ (List.mem_of_getElem? (i := 15) rfl)
theorem ml_MacroExpandModel_182 : Cond.methodLink R_MacroExpandModel 182 y_MacroExpandModel_canBeExpanded ∈ tbl := tbli_4 _ (List.mem_of_getElem? (i := 16) rfl)
theorem se_MacroExpandModel_canBeExpanded : Cond.selects R_MacroExpandModel y_MacroExpandModel_canBeExpanded y_MacroExpandModel_canBeExpanded ∈ tbl := tbli_4 _ (List.mem_of_getElem? (i := 17) rfl)
theorem cd_MacroExpandModel_nameOf : Cond.code y_MacroExpandModel_nameOf b_MacroExpandModel_nameOf 6 (some .int) ∈ tbl := tbli_4 _ (List.mem_of_getElem? (i := 18) rfl)
theorem im_MacroExpandModel_nameOf : Cond.instanceMethod y_MacroExpandModel_nameOf ∈ tbl := tbli_4 _ (List.mem_of_getElem? (i := 19) rfl)
theorem ml_MacroExpandModel_194 : Cond.methodLink R_MacroExpandModel 194 y_MacroExpandModel_nameOf ∈ tbl := tbli_4 _ (List.mem_of_getElem? (i := 20) rfl)
theorem se_MacroExpandModel_nameOf : Cond.selects R_MacroExpandModel y_MacroExpandModel_nameOf y_MacroExpandModel_nameOf ∈ tbl := tbli_4 _ (List.mem_of_getElem? (i := 21) rfl)
theorem cd_MacroExpandModel_start : Cond.code y_MacroExpandModel_start b_MacroExpandModel_start 5 none ∈ tbl := tbli_4 _ (List.mem_of_getElem? (i := 22) rfl)
theorem im_MacroExpandModel_start : Cond.instanceMethod y_MacroExpandModel_start ∈ tbl := tbli_4 _ (List.mem_of_getElem? (i := 23) rfl)
theorem ml_MacroExpandModel_191 : Cond.methodLink R_MacroExpandModel 191 y_MacroExpandModel_start ∈ tbl := tbli_4 _ (List.mem_of_getElem? (i := 24) rfl)
theorem se_MacroExpandModel_start : Cond.selects R_MacroExpandModel y_MacroExpandModel_start y_MacroExpandModel_start ∈ tbl := tbli_4 _ (List.mem_of_getElem? (i := 25) rfl)
theorem cd_MacroExpandModel_goOn : Cond.code y_MacroExpandModel_goOn b_MacroExpandModel_goOn 8 none ∈ tbl := tbli_4 _ (List.mem_of_getElem? (i := 26) rfl)
theorem im_MacroExpandModel_goOn : Cond.instanceMethod y_MacroExpandModel_goOn ∈ tbl := tbli_4 _ (List.mem_of_getElem? (i := 27) rfl)
theorem ml_MacroExpandModel_198 : Cond.methodLink R_MacroExpandModel 198 y_MacroExpandModel_goOn ∈ tbl := tbli_4 _ (List.mem_of_getElem? (i := 28) rfl)
theorem se_MacroExpandModel_goOn : Cond.selects R_MacroExpandModel y_MacroExpandModel_goOn y_MacroExpandModel_goOn ∈ tbl := tbli_4 _ (List.mem_of_getElem? (i := 29) rfl)
theorem fl_MacroExpandModel_201 : Cond.fieldLink R_MacroExpandModel 201 R_MacroExpandModel "pending" "I" ∈ tbl := tbli_4 _ (List.mem_of_getElem? (i := 30) rfl)
theorem fl_MacroExpandModel_204 : Cond.fieldLink R_MacroExpandModel 204 R_MacroExpandModel "later" "I" ∈ tbl := tbli_4 _ (List.mem_of_getElem? (i := 31) rfl)
theorem cd_MacroExpandModel_expandAt : Cond.code y_MacroExpandModel_expandAt b_MacroExpandModel_expandAt 2 none ∈ tbl := tbli_4 _ (List.mem_of_getElem? (i := 32) rfl)
theorem im_MacroExpandModel_expandAt : Cond.instanceMethod y_MacroExpandModel_expandAt ∈ tbl := tbli_4 _ (List.mem_of_getElem? (i := 33) rfl)
theorem ml_MacroExpandModel_207 : Cond.methodLink R_MacroExpandModel 207 y_MacroExpandModel_expandAt ∈ tbl := tbli_4 _ (List.mem_of_getElem? (i := 34) rfl)
theorem se_MacroExpandModel_expandAt : Cond.selects R_MacroExpandModel y_MacroExpandModel_expandAt y_MacroExpandModel_expandAt ∈ tbl := tbli_4 _ (List.mem_of_getElem? (i := 35) rfl)
theorem cd_MacroExpandModel_defines : Cond.code y_MacroExpandModel_defines b_MacroExpandModel_defines 10 none ∈ tbl := tbli_4 _ (List.mem_of_getElem? (i := 36) rfl)
theorem im_MacroExpandModel_defines : Cond.instanceMethod y_MacroExpandModel_defines ∈ tbl := tbli_4 _ (List.mem_of_getElem? (i := 37) rfl)
theorem ml_MacroExpandModel_210 : Cond.methodLink R_MacroExpandModel 210 y_MacroExpandModel_defines ∈ tbl := tbli_4 _ (List.mem_of_getElem? (i := 38) rfl)
theorem se_MacroExpandModel_defines : Cond.selects R_MacroExpandModel y_MacroExpandModel_defines y_MacroExpandModel_defines ∈ tbl := tbli_4 _ (List.mem_of_getElem? (i := 39) rfl)
theorem fl_MacroExpandModel_214 : Cond.fieldLink R_MacroExpandModel 214 R_MacroExpandModel "outSize" "I" ∈ tbl := tbli_4 _ (List.mem_of_getElem? (i := 40) rfl)
theorem cd_MacroExpandModel_ended : Cond.code y_MacroExpandModel_ended b_MacroExpandModel_ended 2 (some .int) ∈ tbl := tbli_4 _ (List.mem_of_getElem? (i := 41) rfl)
theorem im_MacroExpandModel_ended : Cond.instanceMethod y_MacroExpandModel_ended ∈ tbl := tbli_4 _ (List.mem_of_getElem? (i := 42) rfl)
theorem ml_MacroExpandModel_220 : Cond.methodLink R_MacroExpandModel 220 y_MacroExpandModel_ended ∈ tbl := tbli_4 _ (List.mem_of_getElem? (i := 43) rfl)
theorem se_MacroExpandModel_ended : Cond.selects R_MacroExpandModel y_MacroExpandModel_ended y_MacroExpandModel_ended ∈ tbl := tbli_4 _ (List.mem_of_getElem? (i := 44) rfl)
theorem cd_MacroExpandModel_carryOut : Cond.code y_MacroExpandModel_carryOut b_MacroExpandModel_carryOut 2 none ∈ tbl := tbli_4 _ (List.mem_of_getElem? (i := 45) rfl)
theorem im_MacroExpandModel_carryOut : Cond.instanceMethod y_MacroExpandModel_carryOut ∈ tbl := tbli_4 _ (List.mem_of_getElem? (i := 46) rfl)
theorem ml_MacroExpandModel_223 : Cond.methodLink R_MacroExpandModel 223 y_MacroExpandModel_carryOut ∈ tbl := tbli_4 _ (List.mem_of_getElem? (i := 47) rfl)
theorem se_MacroExpandModel_carryOut : Cond.selects R_MacroExpandModel y_MacroExpandModel_carryOut y_MacroExpandModel_carryOut ∈ tbl := tbli_4 _ (List.mem_of_getElem? (i := 48) rfl)
theorem cd_MacroExpandModel_begin : Cond.code y_MacroExpandModel_begin b_MacroExpandModel_begin 1 none ∈ tbl := tbli_4 _ (List.mem_of_getElem? (i := 49) rfl)
theorem im_MacroExpandModel_begin : Cond.instanceMethod y_MacroExpandModel_begin ∈ tbl := tbli_5 _ (List.mem_of_getElem? (i := 0) rfl)
theorem ml_MacroExpandModel_217 : Cond.methodLink R_MacroExpandModel 217 y_MacroExpandModel_begin ∈ tbl := tbli_5 _ (List.mem_of_getElem? (i := 1) rfl)
theorem se_MacroExpandModel_begin : Cond.selects R_MacroExpandModel y_MacroExpandModel_begin y_MacroExpandModel_begin ∈ tbl := tbli_5 _ (List.mem_of_getElem? (i := 2) rfl)
theorem ml_Arrays_304 : Cond.methodLink R_Arrays 304 Lib.Math.min.name ∈ tbl := tbli_5 _ (List.mem_of_getElem? (i := 3) rfl)
theorem sm_mmin : Cond.static Lib.Math.min.name ∈ tbl := tbli_5 _ (List.mem_of_getElem? (i := 4) rfl)
theorem it_Math : Cond.initialized "java/lang/Math" ∈ tbl := tbli_5 _ (List.mem_of_getElem? (i := 5) rfl)
theorem cd_mmin : Cond.code Lib.Math.min.name Lib.Math.min.code 2 (some .int) ∈ tbl := tbli_5 _ (List.mem_of_getElem? (i := 6) rfl)
theorem ml_Arrays_150 : Cond.methodLink R_Arrays 150 arraycopyName ∈ tbl := tbli_5 _ (List.mem_of_getElem? (i := 7) rfl)
theorem nt_copy : Cond.native arraycopyName ∈ tbl := tbli_5 _ (List.mem_of_getElem? (i := 8) rfl)
theorem sm_copy : Cond.static arraycopyName ∈ tbl := tbli_5 _ (List.mem_of_getElem? (i := 9) rfl)
theorem it_System : Cond.initialized "java/lang/System" ∈ tbl := tbli_5 _ (List.mem_of_getElem? (i := 10) rfl)
theorem ml_Arrays_316 : Cond.methodLink R_Arrays 316 ⟨"[I", "clone", "()Ljava/lang/Object;"⟩ ∈ tbl := tbli_5 _ (List.mem_of_getElem? (i := 11) rfl)
theorem sa_clone : Cond.sameMethod "[I" "java/lang/Object" "clone" "()Ljava/lang/Object;" ∈ tbl := tbli_5 _ (List.mem_of_getElem? (i := 12) rfl)
theorem nt_clone : Cond.native ⟨"java/lang/Object", "clone", "()Ljava/lang/Object;"⟩ ∈ tbl := tbli_5 _ (List.mem_of_getElem? (i := 13) rfl)
theorem im_clone : Cond.instanceMethod ⟨"java/lang/Object", "clone", "()Ljava/lang/Object;"⟩ ∈ tbl := tbli_5 _ (List.mem_of_getElem? (i := 14) rfl)
theorem se_clone : Cond.selects "[I" ⟨"[I", "clone", "()Ljava/lang/Object;"⟩ ⟨"java/lang/Object", "clone", "()Ljava/lang/Object;"⟩ ∈ tbl := tbli_5 _ (List.mem_of_getElem? (i := 15) rfl)
theorem cl_Arrays_317 : Cond.classLink R_Arrays 317 "[I" ∈ tbl := tbli_5 _ (List.mem_of_getElem? (i := 16) rfl)
theorem ml_Book_3 : Cond.methodLink R_Book 3 objectInit ∈ tbl := tbli_5 _ (List.mem_of_getElem? (i := 17) rfl)
theorem cl_Book_9 : Cond.classLink R_Book 9 R_Macro ∈ tbl := tbli_5 _ (List.mem_of_getElem? (i := 18) rfl)
theorem fl_Book_11 : Cond.fieldLink R_Book 11 R_Book "macros" "[LMacroExpand$Macro;" ∈ tbl := tbli_5 _ (List.mem_of_getElem? (i := 19) rfl)
theorem fl_Book_17 : Cond.fieldLink R_Book 17 R_Book "numbers" "[I" ∈ tbl := tbli_5 _ (List.mem_of_getElem? (i := 20) rfl)
theorem cd_Arrays_fill : Cond.code y_Arrays_fill b_Arrays_fill 4 none ∈ tbl := tbli_5 _ (List.mem_of_getElem? (i := 21) rfl)
theorem it_Arrays : Cond.initialized R_Arrays ∈ tbl := tbli_5 _ (List.mem_of_getElem? (i := 22) rfl)
theorem sm_Arrays_fill : Cond.static y_Arrays_fill ∈ tbl := tbli_5 _ (List.mem_of_getElem? (i := 23) rfl)
theorem ml_Book_21 : Cond.methodLink R_Book 21 y_Arrays_fill ∈ tbl := tbli_5 _ (List.mem_of_getElem? (i := 24) rfl)
theorem cl_Book_27 : Cond.classLink R_Book 27 "[[I" ∈ tbl := tbli_5 _ (List.mem_of_getElem? (i := 25) rfl)
theorem fl_Book_29 : Cond.fieldLink R_Book 29 R_Book "before" "[[I" ∈ tbl := tbli_5 _ (List.mem_of_getElem? (i := 26) rfl)
theorem fl_Book_32 : Cond.fieldLink R_Book 32 R_Book "count" "I" ∈ tbl := tbli_5 _ (List.mem_of_getElem? (i := 27) rfl)
theorem fl_Book_36 : Cond.fieldLink R_Book 36 R_Book "groups" "I" ∈ tbl := tbli_5 _ (List.mem_of_getElem? (i := 28) rfl)
theorem ml_Spelling_3 : Cond.methodLink R_Spelling 3 objectInit ∈ tbl := tbli_5 _ (List.mem_of_getElem? (i := 29) rfl)
theorem fl_Spelling_9 : Cond.fieldLink R_Spelling 9 R_Spelling "signs" "[I" ∈ tbl := tbli_5 _ (List.mem_of_getElem? (i := 30) rfl)
theorem fl_Spelling_15 : Cond.fieldLink R_Spelling 15 R_Spelling "lengths" "[I" ∈ tbl := tbli_5 _ (List.mem_of_getElem? (i := 31) rfl)
theorem fl_Spelling_18 : Cond.fieldLink R_Spelling 18 R_Spelling "count" "I" ∈ tbl := tbli_5 _ (List.mem_of_getElem? (i := 32) rfl)
theorem ml_Input_3 : Cond.methodLink R_Input 3 objectInit ∈ tbl := tbli_5 _ (List.mem_of_getElem? (i := 33) rfl)
theorem fl_Input_9 : Cond.fieldLink R_Input 9 R_Input "stack" "[I" ∈ tbl := tbli_5 _ (List.mem_of_getElem? (i := 34) rfl)
theorem fl_Input_15 : Cond.fieldLink R_Input 15 R_Input "size" "I" ∈ tbl := tbli_5 _ (List.mem_of_getElem? (i := 35) rfl)
theorem ml_Trace_3 : Cond.methodLink R_Trace 3 objectInit ∈ tbl := tbli_5 _ (List.mem_of_getElem? (i := 36) rfl)
theorem fl_Trace_9 : Cond.fieldLink R_Trace 9 R_Trace "names" "[I" ∈ tbl := tbli_5 _ (List.mem_of_getElem? (i := 37) rfl)
theorem fl_Trace_15 : Cond.fieldLink R_Trace 15 R_Trace "taken" "[I" ∈ tbl := tbli_5 _ (List.mem_of_getElem? (i := 38) rfl)
theorem fl_Trace_18 : Cond.fieldLink R_Trace 18 R_Trace "brought" "[I" ∈ tbl := tbli_5 _ (List.mem_of_getElem? (i := 39) rfl)
theorem fl_Trace_21 : Cond.fieldLink R_Trace 21 R_Trace "count" "I" ∈ tbl := tbli_5 _ (List.mem_of_getElem? (i := 40) rfl)
theorem ml_Row_3 : Cond.methodLink R_Row 3 objectInit ∈ tbl := tbli_5 _ (List.mem_of_getElem? (i := 41) rfl)
theorem fl_Row_9 : Cond.fieldLink R_Row 9 R_Row "limit" "I" ∈ tbl := tbli_5 _ (List.mem_of_getElem? (i := 42) rfl)
theorem fl_Row_15 : Cond.fieldLink R_Row 15 R_Row "items" "[I" ∈ tbl := tbli_5 _ (List.mem_of_getElem? (i := 43) rfl)
theorem fl_Row_19 : Cond.fieldLink R_Row 19 R_Row "size" "I" ∈ tbl := tbli_5 _ (List.mem_of_getElem? (i := 44) rfl)
theorem fl_Arguments_21 : Cond.fieldLink R_Arguments 21 R_Arguments "rows" "[LMacroExpand$Row;" ∈ tbl := tbli_5 _ (List.mem_of_getElem? (i := 45) rfl)
theorem cl_Arguments_19 : Cond.classLink R_Arguments 19 R_Row ∈ tbl := tbli_5 _ (List.mem_of_getElem? (i := 46) rfl)
theorem in_Row : Cond.instantiable R_Row 3 ∈ tbl := tbli_5 _ (List.mem_of_getElem? (i := 47) rfl)
theorem it_Row : Cond.initialized R_Row ∈ tbl := tbli_5 _ (List.mem_of_getElem? (i := 48) rfl)
theorem cd_Row_init : Cond.code y_Row_init b_Row_init 2 none ∈ tbl := tbli_5 _ (List.mem_of_getElem? (i := 49) rfl)
theorem im_Row_init : Cond.instanceMethod y_Row_init ∈ tbl := tbli_6 _ (List.mem_of_getElem? (i := 0) rfl)
theorem ml_Arguments_25 : Cond.methodLink R_Arguments 25 y_Row_init ∈ tbl := tbli_6 _ (List.mem_of_getElem? (i := 1) rfl)
theorem ml_Arguments_3 : Cond.methodLink R_Arguments 3 objectInit ∈ tbl := tbli_6 _ (List.mem_of_getElem? (i := 2) rfl)
theorem fl_Arguments_9 : Cond.fieldLink R_Arguments 9 R_Arguments "input" "LMacroExpand$Input;" ∈ tbl := tbli_6 _ (List.mem_of_getElem? (i := 3) rfl)
theorem fl_Arguments_15 : Cond.fieldLink R_Arguments 15 R_Arguments "book" "LMacroExpand$Book;" ∈ tbl := tbli_6 _ (List.mem_of_getElem? (i := 4) rfl)
theorem ml_Expander_3 : Cond.methodLink R_Expander 3 objectInit ∈ tbl := tbli_6 _ (List.mem_of_getElem? (i := 5) rfl)
theorem fl_Expander_9 : Cond.fieldLink R_Expander 9 R_Expander "granted" "I" ∈ tbl := tbli_6 _ (List.mem_of_getElem? (i := 6) rfl)
theorem fl_Expander_15 : Cond.fieldLink R_Expander 15 R_Expander "input" "LMacroExpand$Input;" ∈ tbl := tbli_6 _ (List.mem_of_getElem? (i := 7) rfl)
theorem fl_Expander_19 : Cond.fieldLink R_Expander 19 R_Expander "book" "LMacroExpand$Book;" ∈ tbl := tbli_6 _ (List.mem_of_getElem? (i := 8) rfl)
theorem fl_Expander_23 : Cond.fieldLink R_Expander 23 R_Expander "spelling" "LMacroExpand$Spelling;" ∈ tbl := tbli_6 _ (List.mem_of_getElem? (i := 9) rfl)
theorem cl_Expander_27 : Cond.classLink R_Expander 27 R_Trace ∈ tbl := tbli_6 _ (List.mem_of_getElem? (i := 10) rfl)
theorem in_Trace : Cond.instantiable R_Trace 4 ∈ tbl := tbli_6 _ (List.mem_of_getElem? (i := 11) rfl)
theorem it_Trace : Cond.initialized R_Trace ∈ tbl := tbli_6 _ (List.mem_of_getElem? (i := 12) rfl)
theorem cd_Trace_init : Cond.code y_Trace_init b_Trace_init 1 none ∈ tbl := tbli_6 _ (List.mem_of_getElem? (i := 13) rfl)
theorem im_Trace_init : Cond.instanceMethod y_Trace_init ∈ tbl := tbli_6 _ (List.mem_of_getElem? (i := 14) rfl)
theorem ml_Expander_29 : Cond.methodLink R_Expander 29 y_Trace_init ∈ tbl := tbli_6 _ (List.mem_of_getElem? (i := 15) rfl)
theorem fl_Expander_30 : Cond.fieldLink R_Expander 30 R_Expander "trace" "LMacroExpand$Trace;" ∈ tbl := tbli_6 _ (List.mem_of_getElem? (i := 16) rfl)
theorem cl_Expander_34 : Cond.classLink R_Expander 34 R_Arguments ∈ tbl := tbli_6 _ (List.mem_of_getElem? (i := 17) rfl)
theorem in_Arguments : Cond.instantiable R_Arguments 3 ∈ tbl := tbli_6 _ (List.mem_of_getElem? (i := 18) rfl)
theorem it_Arguments : Cond.initialized R_Arguments ∈ tbl := tbli_6 _ (List.mem_of_getElem? (i := 19) rfl)
theorem cd_Arguments_init : Cond.code y_Arguments_init b_Arguments_init 4 none ∈ tbl := tbli_6 _ (List.mem_of_getElem? (i := 20) rfl)
theorem im_Arguments_init : Cond.instanceMethod y_Arguments_init ∈ tbl := tbli_6 _ (List.mem_of_getElem? (i := 21) rfl)
theorem ml_Expander_36 : Cond.methodLink R_Expander 36 y_Arguments_init ∈ tbl := tbli_6 _ (List.mem_of_getElem? (i := 22) rfl)
theorem fl_Expander_39 : Cond.fieldLink R_Expander 39 R_Expander "arguments" "LMacroExpand$Arguments;" ∈ tbl := tbli_6 _ (List.mem_of_getElem? (i := 23) rfl)
theorem fl_Expander_43 : Cond.fieldLink R_Expander 43 R_Expander "aside" "[I" ∈ tbl := tbli_6 _ (List.mem_of_getElem? (i := 24) rfl)
theorem fl_Expander_47 : Cond.fieldLink R_Expander 47 R_Expander "signs" "[I" ∈ tbl := tbli_6 _ (List.mem_of_getElem? (i := 25) rfl)
theorem fl_Expander_50 : Cond.fieldLink R_Expander 50 R_Expander "signCounts" "[I" ∈ tbl := tbli_6 _ (List.mem_of_getElem? (i := 26) rfl)
theorem fl_Definition_11 : Cond.fieldLink R_Definition 11 R_Definition "rows" "[LMacroExpand$Row;" ∈ tbl := tbli_6 _ (List.mem_of_getElem? (i := 27) rfl)
theorem cl_Definition_9 : Cond.classLink R_Definition 9 R_Row ∈ tbl := tbli_6 _ (List.mem_of_getElem? (i := 28) rfl)
theorem ml_Definition_17 : Cond.methodLink R_Definition 17 y_Row_init ∈ tbl := tbli_6 _ (List.mem_of_getElem? (i := 29) rfl)
theorem ml_Definition_3 : Cond.methodLink R_Definition 3 objectInit ∈ tbl := tbli_6 _ (List.mem_of_getElem? (i := 30) rfl)
theorem fl_Definition_20 : Cond.fieldLink R_Definition 20 R_Definition "text" "LMacroExpand$Row;" ∈ tbl := tbli_6 _ (List.mem_of_getElem? (i := 31) rfl)
theorem fl_Definition_24 : Cond.fieldLink R_Definition 24 R_Definition "stage" "I" ∈ tbl := tbli_6 _ (List.mem_of_getElem? (i := 32) rfl)
theorem ml_Whole_3 : Cond.methodLink R_Whole 3 objectInit ∈ tbl := tbli_6 _ (List.mem_of_getElem? (i := 33) rfl)
theorem fl_Whole_9 : Cond.fieldLink R_Whole 9 R_Whole "input" "LMacroExpand$Input;" ∈ tbl := tbli_6 _ (List.mem_of_getElem? (i := 34) rfl)
theorem fl_Whole_15 : Cond.fieldLink R_Whole 15 R_Whole "book" "LMacroExpand$Book;" ∈ tbl := tbli_6 _ (List.mem_of_getElem? (i := 35) rfl)
theorem fl_Whole_19 : Cond.fieldLink R_Whole 19 R_Whole "expander" "LMacroExpand$Expander;" ∈ tbl := tbli_6 _ (List.mem_of_getElem? (i := 36) rfl)
theorem cl_Whole_23 : Cond.classLink R_Whole 23 R_Definition ∈ tbl := tbli_6 _ (List.mem_of_getElem? (i := 37) rfl)
theorem in_Definition : Cond.instantiable R_Definition 7 ∈ tbl := tbli_6 _ (List.mem_of_getElem? (i := 38) rfl)
theorem it_Definition : Cond.initialized R_Definition ∈ tbl := tbli_6 _ (List.mem_of_getElem? (i := 39) rfl)
theorem cd_Definition_init : Cond.code y_Definition_init b_Definition_init 2 none ∈ tbl := tbli_6 _ (List.mem_of_getElem? (i := 40) rfl)
theorem im_Definition_init : Cond.instanceMethod y_Definition_init ∈ tbl := tbli_6 _ (List.mem_of_getElem? (i := 41) rfl)
theorem ml_Whole_25 : Cond.methodLink R_Whole 25 y_Definition_init ∈ tbl := tbli_6 _ (List.mem_of_getElem? (i := 42) rfl)
theorem fl_Whole_26 : Cond.fieldLink R_Whole 26 R_Whole "definition" "LMacroExpand$Definition;" ∈ tbl := tbli_6 _ (List.mem_of_getElem? (i := 43) rfl)
theorem cl_Whole_30 : Cond.classLink R_Whole 30 R_Row ∈ tbl := tbli_6 _ (List.mem_of_getElem? (i := 44) rfl)
theorem ml_Whole_32 : Cond.methodLink R_Whole 32 y_Row_init ∈ tbl := tbli_6 _ (List.mem_of_getElem? (i := 45) rfl)
theorem fl_Whole_35 : Cond.fieldLink R_Whole 35 R_Whole "output" "LMacroExpand$Row;" ∈ tbl := tbli_6 _ (List.mem_of_getElem? (i := 46) rfl)
theorem fl_Whole_39 : Cond.fieldLink R_Whole 39 R_Whole "marks" "I" ∈ tbl := tbli_6 _ (List.mem_of_getElem? (i := 47) rfl)
theorem fl_Whole_43 : Cond.fieldLink R_Whole 43 R_Whole "later" "I" ∈ tbl := tbli_6 _ (List.mem_of_getElem? (i := 48) rfl)
theorem ml_MacroExpand_1 : Cond.methodLink R_MacroExpand 1 objectInit ∈ tbl := tbli_6 _ (List.mem_of_getElem? (i := 49) rfl)
theorem ct_MacroExpand_9 : Cond.constantLong R_MacroExpand 9 20000 ∈ tbl := tbli_7 _ (List.mem_of_getElem? (i := 0) rfl)
theorem ml_MacroExpand_11 : Cond.methodLink R_MacroExpand 11 Lib.MathLoose.min_long.x ∈ tbl := tbli_7 _ (List.mem_of_getElem? (i := 1) rfl)
theorem sm_mmin_long : Cond.static Lib.MathLoose.min_long.x ∈ tbl := tbli_7 _ (List.mem_of_getElem? (i := 2) rfl)
theorem cd_mmin_long : Cond.code Lib.MathLoose.min_long.x Lib.MathLoose.min_long.code 4 (some .long) ∈ tbl := tbli_7 _ (List.mem_of_getElem? (i := 3) rfl)
theorem ml_MacroExpand_17 : Cond.methodLink R_MacroExpand 17 Lib.MathLoose.max_long.x ∈ tbl := tbli_7 _ (List.mem_of_getElem? (i := 4) rfl)
theorem sm_mmax_long : Cond.static Lib.MathLoose.max_long.x ∈ tbl := tbli_7 _ (List.mem_of_getElem? (i := 5) rfl)
theorem cd_mmax_long : Cond.code Lib.MathLoose.max_long.x Lib.MathLoose.max_long.code 4 (some .long) ∈ tbl := tbli_7 _ (List.mem_of_getElem? (i := 6) rfl)
theorem cl_MacroExpand_20 : Cond.classLink R_MacroExpand 20 R_Book ∈ tbl := tbli_7 _ (List.mem_of_getElem? (i := 7) rfl)
theorem in_Book : Cond.instantiable R_Book 5 ∈ tbl := tbli_7 _ (List.mem_of_getElem? (i := 8) rfl)
theorem it_Book : Cond.initialized R_Book ∈ tbl := tbli_7 _ (List.mem_of_getElem? (i := 9) rfl)
theorem cd_Book_init : Cond.code y_Book_init b_Book_init 1 none ∈ tbl := tbli_7 _ (List.mem_of_getElem? (i := 10) rfl)
theorem im_Book_init : Cond.instanceMethod y_Book_init ∈ tbl := tbli_7 _ (List.mem_of_getElem? (i := 11) rfl)
theorem ml_MacroExpand_22 : Cond.methodLink R_MacroExpand 22 y_Book_init ∈ tbl := tbli_7 _ (List.mem_of_getElem? (i := 12) rfl)
theorem fl_MacroExpand_23 : Cond.fieldLink R_MacroExpand 23 R_MacroExpand "book" "LMacroExpand$Book;" ∈ tbl := tbli_7 _ (List.mem_of_getElem? (i := 13) rfl)
theorem cl_MacroExpand_27 : Cond.classLink R_MacroExpand 27 R_Spelling ∈ tbl := tbli_7 _ (List.mem_of_getElem? (i := 14) rfl)
theorem in_Spelling : Cond.instantiable R_Spelling 3 ∈ tbl := tbli_7 _ (List.mem_of_getElem? (i := 15) rfl)
theorem it_Spelling : Cond.initialized R_Spelling ∈ tbl := tbli_7 _ (List.mem_of_getElem? (i := 16) rfl)
theorem cd_Spelling_init : Cond.code y_Spelling_init b_Spelling_init 1 none ∈ tbl := tbli_7 _ (List.mem_of_getElem? (i := 17) rfl)
theorem im_Spelling_init : Cond.instanceMethod y_Spelling_init ∈ tbl := tbli_7 _ (List.mem_of_getElem? (i := 18) rfl)
theorem ml_MacroExpand_29 : Cond.methodLink R_MacroExpand 29 y_Spelling_init ∈ tbl := tbli_7 _ (List.mem_of_getElem? (i := 19) rfl)
theorem fl_MacroExpand_30 : Cond.fieldLink R_MacroExpand 30 R_MacroExpand "spelling" "LMacroExpand$Spelling;" ∈ tbl := tbli_7 _ (List.mem_of_getElem? (i := 20) rfl)
theorem cl_MacroExpand_34 : Cond.classLink R_MacroExpand 34 R_Input ∈ tbl := tbli_7 _ (List.mem_of_getElem? (i := 21) rfl)
theorem in_Input : Cond.instantiable R_Input 2 ∈ tbl := tbli_7 _ (List.mem_of_getElem? (i := 22) rfl)
theorem it_Input : Cond.initialized R_Input ∈ tbl := tbli_7 _ (List.mem_of_getElem? (i := 23) rfl)
theorem cd_Input_init : Cond.code y_Input_init b_Input_init 1 none ∈ tbl := tbli_7 _ (List.mem_of_getElem? (i := 24) rfl)
theorem im_Input_init : Cond.instanceMethod y_Input_init ∈ tbl := tbli_7 _ (List.mem_of_getElem? (i := 25) rfl)
theorem ml_MacroExpand_36 : Cond.methodLink R_MacroExpand 36 y_Input_init ∈ tbl := tbli_7 _ (List.mem_of_getElem? (i := 26) rfl)
theorem fl_MacroExpand_37 : Cond.fieldLink R_MacroExpand 37 R_MacroExpand "waiting" "LMacroExpand$Input;" ∈ tbl := tbli_7 _ (List.mem_of_getElem? (i := 27) rfl)
theorem cl_MacroExpand_41 : Cond.classLink R_MacroExpand 41 R_Expander ∈ tbl := tbli_7 _ (List.mem_of_getElem? (i := 28) rfl)
theorem in_Expander : Cond.instantiable R_Expander 14 ∈ tbl := tbli_7 _ (List.mem_of_getElem? (i := 29) rfl)
theorem it_Expander : Cond.initialized R_Expander ∈ tbl := tbli_7 _ (List.mem_of_getElem? (i := 30) rfl)
theorem cd_Expander_init : Cond.code y_Expander_init b_Expander_init 5 none ∈ tbl := tbli_7 _ (List.mem_of_getElem? (i := 31) rfl)
theorem im_Expander_init : Cond.instanceMethod y_Expander_init ∈ tbl := tbli_7 _ (List.mem_of_getElem? (i := 32) rfl)
theorem ml_MacroExpand_43 : Cond.methodLink R_MacroExpand 43 y_Expander_init ∈ tbl := tbli_7 _ (List.mem_of_getElem? (i := 33) rfl)
theorem fl_MacroExpand_46 : Cond.fieldLink R_MacroExpand 46 R_MacroExpand "expander" "LMacroExpand$Expander;" ∈ tbl := tbli_7 _ (List.mem_of_getElem? (i := 34) rfl)
theorem cl_MacroExpand_50 : Cond.classLink R_MacroExpand 50 R_Whole ∈ tbl := tbli_7 _ (List.mem_of_getElem? (i := 35) rfl)
theorem in_Whole : Cond.instantiable R_Whole 7 ∈ tbl := tbli_7 _ (List.mem_of_getElem? (i := 36) rfl)
theorem it_Whole : Cond.initialized R_Whole ∈ tbl := tbli_7 _ (List.mem_of_getElem? (i := 37) rfl)
theorem cd_Whole_init : Cond.code y_Whole_init b_Whole_init 4 none ∈ tbl := tbli_7 _ (List.mem_of_getElem? (i := 38) rfl)
theorem im_Whole_init : Cond.instanceMethod y_Whole_init ∈ tbl := tbli_7 _ (List.mem_of_getElem? (i := 39) rfl)
theorem ml_MacroExpand_52 : Cond.methodLink R_MacroExpand 52 y_Whole_init ∈ tbl := tbli_7 _ (List.mem_of_getElem? (i := 40) rfl)
theorem fl_MacroExpand_55 : Cond.fieldLink R_MacroExpand 55 R_MacroExpand "wholeExpansion" "LMacroExpand$Whole;" ∈ tbl := tbli_7 _ (List.mem_of_getElem? (i := 41) rfl)
theorem fl_MacroExpand_59 : Cond.fieldLink R_MacroExpand 59 R_MacroExpand "latestFault" "I" ∈ tbl := tbli_7 _ (List.mem_of_getElem? (i := 42) rfl)
theorem fl_MacroExpand_63 : Cond.fieldLink R_MacroExpand 63 R_MacroExpand "latestName" "I" ∈ tbl := tbli_7 _ (List.mem_of_getElem? (i := 43) rfl)
theorem fl_Macro_33 : Cond.fieldLink R_Macro 33 R_Macro "rows" "[LMacroExpand$Row;" ∈ tbl := tbli_7 _ (List.mem_of_getElem? (i := 44) rfl)
theorem cl_Macro_31 : Cond.classLink R_Macro 31 R_Row ∈ tbl := tbli_7 _ (List.mem_of_getElem? (i := 45) rfl)
theorem ml_Macro_37 : Cond.methodLink R_Macro 37 y_Row_init ∈ tbl := tbli_7 _ (List.mem_of_getElem? (i := 46) rfl)
theorem fl_Macro_28 : Cond.fieldLink R_Macro 28 R_Macro "isOuter" "Z" ∈ tbl := tbli_7 _ (List.mem_of_getElem? (i := 47) rfl)
theorem fl_Macro_18 : Cond.fieldLink R_Macro 18 R_Macro "arguments" "I" ∈ tbl := tbli_7 _ (List.mem_of_getElem? (i := 48) rfl)
theorem fl_Macro_40 : Cond.fieldLink R_Macro 40 R_Macro "text" "LMacroExpand$Row;" ∈ tbl := tbli_7 _ (List.mem_of_getElem? (i := 49) rfl)
theorem fl_Macro_24 : Cond.fieldLink R_Macro 24 R_Macro "isLong" "Z" ∈ tbl := tbli_8 _ (List.mem_of_getElem? (i := 0) rfl)
theorem ml_Macro_3 : Cond.methodLink R_Macro 3 objectInit ∈ tbl := tbli_8 _ (List.mem_of_getElem? (i := 1) rfl)
theorem ml_Macro_9 : Cond.methodLink R_Macro 9 Lib.Math.min.name ∈ tbl := tbli_8 _ (List.mem_of_getElem? (i := 2) rfl)
theorem ml_Macro_15 : Cond.methodLink R_Macro 15 Lib.Math.max.name ∈ tbl := tbli_8 _ (List.mem_of_getElem? (i := 3) rfl)
theorem sm_mmax : Cond.static Lib.Math.max.name ∈ tbl := tbli_8 _ (List.mem_of_getElem? (i := 4) rfl)
theorem cd_mmax : Cond.code Lib.Math.max.name Lib.Math.max.code 2 (some .int) ∈ tbl := tbli_8 _ (List.mem_of_getElem? (i := 5) rfl)
theorem cd_Book_isFull : Cond.code y_Book_isFull b_Book_isFull 1 (some .boolean) ∈ tbl := tbli_8 _ (List.mem_of_getElem? (i := 6) rfl)
theorem im_Book_isFull : Cond.instanceMethod y_Book_isFull ∈ tbl := tbli_8 _ (List.mem_of_getElem? (i := 7) rfl)
theorem ml_Book_51 : Cond.methodLink R_Book 51 y_Book_isFull ∈ tbl := tbli_8 _ (List.mem_of_getElem? (i := 8) rfl)
theorem se_Book_isFull : Cond.selects R_Book y_Book_isFull y_Book_isFull ∈ tbl := tbli_8 _ (List.mem_of_getElem? (i := 9) rfl)
theorem ml_MacroExpand_66 : Cond.methodLink R_MacroExpand 66 y_Book_isFull ∈ tbl := tbli_8 _ (List.mem_of_getElem? (i := 10) rfl)
theorem cl_MacroExpand_70 : Cond.classLink R_MacroExpand 70 R_Macro ∈ tbl := tbli_8 _ (List.mem_of_getElem? (i := 11) rfl)
theorem in_Macro : Cond.instantiable R_Macro 5 ∈ tbl := tbli_8 _ (List.mem_of_getElem? (i := 12) rfl)
theorem it_Macro : Cond.initialized R_Macro ∈ tbl := tbli_8 _ (List.mem_of_getElem? (i := 13) rfl)
theorem cd_Macro_init : Cond.code y_Macro_init b_Macro_init 4 none ∈ tbl := tbli_8 _ (List.mem_of_getElem? (i := 14) rfl)
theorem im_Macro_init : Cond.instanceMethod y_Macro_init ∈ tbl := tbli_8 _ (List.mem_of_getElem? (i := 15) rfl)
theorem ml_MacroExpand_72 : Cond.methodLink R_MacroExpand 72 y_Macro_init ∈ tbl := tbli_8 _ (List.mem_of_getElem? (i := 16) rfl)
theorem cd_Book_enter : Cond.code y_Book_enter b_Book_enter 6 (some .int) ∈ tbl := tbli_8 _ (List.mem_of_getElem? (i := 17) rfl)
theorem im_Book_enter : Cond.instanceMethod y_Book_enter ∈ tbl := tbli_8 _ (List.mem_of_getElem? (i := 18) rfl)
theorem ml_MacroExpand_75 : Cond.methodLink R_MacroExpand 75 y_Book_enter ∈ tbl := tbli_8 _ (List.mem_of_getElem? (i := 19) rfl)
theorem se_Book_enter : Cond.selects R_Book y_Book_enter y_Book_enter ∈ tbl := tbli_8 _ (List.mem_of_getElem? (i := 20) rfl)
theorem cd_Kind_isParameter : Cond.code y_Kind_isParameter b_Kind_isParameter 1 (some .boolean) ∈ tbl := tbli_8 _ (List.mem_of_getElem? (i := 21) rfl)
theorem it_Kind : Cond.initialized R_Kind ∈ tbl := tbli_8 _ (List.mem_of_getElem? (i := 22) rfl)
theorem sm_Kind_isParameter : Cond.static y_Kind_isParameter ∈ tbl := tbli_8 _ (List.mem_of_getElem? (i := 23) rfl)
theorem ml_Kind_9 : Cond.methodLink R_Kind 9 y_Kind_isParameter ∈ tbl := tbli_8 _ (List.mem_of_getElem? (i := 24) rfl)
theorem cd_Kind_isName : Cond.code y_Kind_isName b_Kind_isName 1 (some .boolean) ∈ tbl := tbli_8 _ (List.mem_of_getElem? (i := 25) rfl)
theorem sm_Kind_isName : Cond.static y_Kind_isName ∈ tbl := tbli_8 _ (List.mem_of_getElem? (i := 26) rfl)
theorem ml_Kind_15 : Cond.methodLink R_Kind 15 y_Kind_isName ∈ tbl := tbli_8 _ (List.mem_of_getElem? (i := 27) rfl)
theorem ml_Row_22 : Cond.methodLink R_Row 22 Lib.Math.min.name ∈ tbl := tbli_8 _ (List.mem_of_getElem? (i := 28) rfl)
theorem cd_Arrays_copyOf : Cond.code y_Arrays_copyOf b_Arrays_copyOf 3 (some (.array .int)) ∈ tbl := tbli_8 _ (List.mem_of_getElem? (i := 29) rfl)
theorem sm_Arrays_copyOf : Cond.static y_Arrays_copyOf ∈ tbl := tbli_8 _ (List.mem_of_getElem? (i := 30) rfl)
theorem ml_Row_28 : Cond.methodLink R_Row 28 y_Arrays_copyOf ∈ tbl := tbli_8 _ (List.mem_of_getElem? (i := 31) rfl)
theorem cd_Row_isFull : Cond.code y_Row_isFull b_Row_isFull 1 (some .boolean) ∈ tbl := tbli_8 _ (List.mem_of_getElem? (i := 32) rfl)
theorem im_Row_isFull : Cond.instanceMethod y_Row_isFull ∈ tbl := tbli_8 _ (List.mem_of_getElem? (i := 33) rfl)
theorem ml_MacroExpand_175 : Cond.methodLink R_MacroExpand 175 y_Row_isFull ∈ tbl := tbli_8 _ (List.mem_of_getElem? (i := 34) rfl)
theorem se_Row_isFull : Cond.selects R_Row y_Row_isFull y_Row_isFull ∈ tbl := tbli_8 _ (List.mem_of_getElem? (i := 35) rfl)
theorem cd_Row_add : Cond.code y_Row_add b_Row_add 2 none ∈ tbl := tbli_8 _ (List.mem_of_getElem? (i := 36) rfl)
theorem im_Row_add : Cond.instanceMethod y_Row_add ∈ tbl := tbli_8 _ (List.mem_of_getElem? (i := 37) rfl)
theorem ml_MacroExpand_176 : Cond.methodLink R_MacroExpand 176 y_Row_add ∈ tbl := tbli_8 _ (List.mem_of_getElem? (i := 38) rfl)
theorem se_Row_add : Cond.selects R_Row y_Row_add y_Row_add ∈ tbl := tbli_8 _ (List.mem_of_getElem? (i := 39) rfl)
theorem cd_Book_numbered : Cond.code y_Book_numbered b_Book_numbered 2 (some (.object "MacroExpand$Macro")) ∈ tbl := tbli_8 _ (List.mem_of_getElem? (i := 40) rfl)
theorem im_Book_numbered : Cond.instanceMethod y_Book_numbered ∈ tbl := tbli_8 _ (List.mem_of_getElem? (i := 41) rfl)
theorem ml_MacroExpand_79 : Cond.methodLink R_MacroExpand 79 y_Book_numbered ∈ tbl := tbli_8 _ (List.mem_of_getElem? (i := 42) rfl)
theorem se_Book_numbered : Cond.selects R_Book y_Book_numbered y_Book_numbered ∈ tbl := tbli_8 _ (List.mem_of_getElem? (i := 43) rfl)
theorem cd_Kind_isToken : Cond.code y_Kind_isToken b_Kind_isToken 1 (some .boolean) ∈ tbl := tbli_8 _ (List.mem_of_getElem? (i := 44) rfl)
theorem sm_Kind_isToken : Cond.static y_Kind_isToken ∈ tbl := tbli_8 _ (List.mem_of_getElem? (i := 45) rfl)
theorem ml_MacroExpand_83 : Cond.methodLink R_MacroExpand 83 y_Kind_isToken ∈ tbl := tbli_8 _ (List.mem_of_getElem? (i := 46) rfl)
theorem cd_MacroExpand_oneMore : Cond.code y_MacroExpand_oneMore b_MacroExpand_oneMore 2 (some .int) ∈ tbl := tbli_8 _ (List.mem_of_getElem? (i := 47) rfl)
theorem it_MacroExpand : Cond.initialized R_MacroExpand ∈ tbl := tbli_8 _ (List.mem_of_getElem? (i := 48) rfl)
theorem sm_MacroExpand_oneMore : Cond.static y_MacroExpand_oneMore ∈ tbl := tbli_8 _ (List.mem_of_getElem? (i := 49) rfl)
theorem ml_MacroExpand_93 : Cond.methodLink R_MacroExpand 93 y_MacroExpand_oneMore ∈ tbl := tbli_9 _ (List.mem_of_getElem? (i := 0) rfl)
theorem ml_Kind_18 : Cond.methodLink R_Kind 18 y_Kind_isToken ∈ tbl := tbli_9 _ (List.mem_of_getElem? (i := 1) rfl)
theorem cd_Kind_canDelimit : Cond.code y_Kind_canDelimit b_Kind_canDelimit 1 (some .boolean) ∈ tbl := tbli_9 _ (List.mem_of_getElem? (i := 2) rfl)
theorem sm_Kind_canDelimit : Cond.static y_Kind_canDelimit ∈ tbl := tbli_9 _ (List.mem_of_getElem? (i := 3) rfl)
theorem ml_MacroExpand_100 : Cond.methodLink R_MacroExpand 100 y_Kind_canDelimit ∈ tbl := tbli_9 _ (List.mem_of_getElem? (i := 4) rfl)
theorem cd_Macro_row : Cond.code y_Macro_row b_Macro_row 2 (some (.object "MacroExpand$Row")) ∈ tbl := tbli_9 _ (List.mem_of_getElem? (i := 5) rfl)
theorem im_Macro_row : Cond.instanceMethod y_Macro_row ∈ tbl := tbli_9 _ (List.mem_of_getElem? (i := 6) rfl)
theorem ml_MacroExpand_103 : Cond.methodLink R_MacroExpand 103 y_Macro_row ∈ tbl := tbli_9 _ (List.mem_of_getElem? (i := 7) rfl)
theorem se_Macro_row : Cond.selects R_Macro y_Macro_row y_Macro_row ∈ tbl := tbli_9 _ (List.mem_of_getElem? (i := 8) rfl)
theorem ml_Input_30 : Cond.methodLink R_Input 30 arraycopyName ∈ tbl := tbli_9 _ (List.mem_of_getElem? (i := 9) rfl)
theorem cd_Input_isFull : Cond.code y_Input_isFull b_Input_isFull 1 (some .boolean) ∈ tbl := tbli_9 _ (List.mem_of_getElem? (i := 10) rfl)
theorem im_Input_isFull : Cond.instanceMethod y_Input_isFull ∈ tbl := tbli_9 _ (List.mem_of_getElem? (i := 11) rfl)
theorem ml_MacroExpand_107 : Cond.methodLink R_MacroExpand 107 y_Input_isFull ∈ tbl := tbli_9 _ (List.mem_of_getElem? (i := 12) rfl)
theorem se_Input_isFull : Cond.selects R_Input y_Input_isFull y_Input_isFull ∈ tbl := tbli_9 _ (List.mem_of_getElem? (i := 13) rfl)
theorem cd_Input_addLast : Cond.code y_Input_addLast b_Input_addLast 2 none ∈ tbl := tbli_9 _ (List.mem_of_getElem? (i := 14) rfl)
theorem im_Input_addLast : Cond.instanceMethod y_Input_addLast ∈ tbl := tbli_9 _ (List.mem_of_getElem? (i := 15) rfl)
theorem ml_MacroExpand_108 : Cond.methodLink R_MacroExpand 108 y_Input_addLast ∈ tbl := tbli_9 _ (List.mem_of_getElem? (i := 16) rfl)
theorem se_Input_addLast : Cond.selects R_Input y_Input_addLast y_Input_addLast ∈ tbl := tbli_9 _ (List.mem_of_getElem? (i := 17) rfl)
theorem cd_Trace_clear : Cond.code y_Trace_clear b_Trace_clear 1 none ∈ tbl := tbli_9 _ (List.mem_of_getElem? (i := 18) rfl)
theorem im_Trace_clear : Cond.instanceMethod y_Trace_clear ∈ tbl := tbli_9 _ (List.mem_of_getElem? (i := 19) rfl)
theorem ml_Expander_53 : Cond.methodLink R_Expander 53 y_Trace_clear ∈ tbl := tbli_9 _ (List.mem_of_getElem? (i := 20) rfl)
theorem se_Trace_clear : Cond.selects R_Trace y_Trace_clear y_Trace_clear ∈ tbl := tbli_9 _ (List.mem_of_getElem? (i := 21) rfl)
theorem fl_Expander_56 : Cond.fieldLink R_Expander 56 R_Expander "frames" "I" ∈ tbl := tbli_9 _ (List.mem_of_getElem? (i := 22) rfl)
theorem fl_Expander_59 : Cond.fieldLink R_Expander 59 R_Expander "afterIsNew" "Z" ∈ tbl := tbli_9 _ (List.mem_of_getElem? (i := 23) rfl)
theorem fl_Expander_63 : Cond.fieldLink R_Expander 63 R_Expander "isHeld" "Z" ∈ tbl := tbli_9 _ (List.mem_of_getElem? (i := 24) rfl)
theorem fl_Expander_66 : Cond.fieldLink R_Expander 66 R_Expander "steps" "I" ∈ tbl := tbli_9 _ (List.mem_of_getElem? (i := 25) rfl)
theorem fl_Expander_69 : Cond.fieldLink R_Expander 69 R_Expander "nameAtWork" "I" ∈ tbl := tbli_9 _ (List.mem_of_getElem? (i := 26) rfl)
theorem cd_Definition_isUnderWay : Cond.code y_Definition_isUnderWay b_Definition_isUnderWay 1 (some .boolean) ∈ tbl := tbli_9 _ (List.mem_of_getElem? (i := 27) rfl)
theorem im_Definition_isUnderWay : Cond.instanceMethod y_Definition_isUnderWay ∈ tbl := tbli_9 _ (List.mem_of_getElem? (i := 28) rfl)
theorem ml_Definition_44 : Cond.methodLink R_Definition 44 y_Definition_isUnderWay ∈ tbl := tbli_9 _ (List.mem_of_getElem? (i := 29) rfl)
theorem se_Definition_isUnderWay : Cond.selects R_Definition y_Definition_isUnderWay y_Definition_isUnderWay ∈ tbl := tbli_9 _ (List.mem_of_getElem? (i := 30) rfl)
theorem fl_Definition_31 : Cond.fieldLink R_Definition 31 R_Definition "isExpanded" "Z" ∈ tbl := tbli_9 _ (List.mem_of_getElem? (i := 31) rfl)
theorem cd_Book_numberOf : Cond.code y_Book_numberOf b_Book_numberOf 2 (some .int) ∈ tbl := tbli_9 _ (List.mem_of_getElem? (i := 32) rfl)
theorem im_Book_numberOf : Cond.instanceMethod y_Book_numberOf ∈ tbl := tbli_9 _ (List.mem_of_getElem? (i := 33) rfl)
theorem ml_Book_39 : Cond.methodLink R_Book 39 y_Book_numberOf ∈ tbl := tbli_9 _ (List.mem_of_getElem? (i := 34) rfl)
theorem se_Book_numberOf : Cond.selects R_Book y_Book_numberOf y_Book_numberOf ∈ tbl := tbli_9 _ (List.mem_of_getElem? (i := 35) rfl)
theorem ml_Book_43 : Cond.methodLink R_Book 43 y_Book_numbered ∈ tbl := tbli_9 _ (List.mem_of_getElem? (i := 36) rfl)
theorem cd_Input_get : Cond.code y_Input_get b_Input_get 2 (some .int) ∈ tbl := tbli_9 _ (List.mem_of_getElem? (i := 37) rfl)
theorem im_Input_get : Cond.instanceMethod y_Input_get ∈ tbl := tbli_9 _ (List.mem_of_getElem? (i := 38) rfl)
theorem ml_Expander_72 : Cond.methodLink R_Expander 72 y_Input_get ∈ tbl := tbli_9 _ (List.mem_of_getElem? (i := 39) rfl)
theorem se_Input_get : Cond.selects R_Input y_Input_get y_Input_get ∈ tbl := tbli_9 _ (List.mem_of_getElem? (i := 40) rfl)
theorem cd_Book_macroOf : Cond.code y_Book_macroOf b_Book_macroOf 2 (some (.object "MacroExpand$Macro")) ∈ tbl := tbli_9 _ (List.mem_of_getElem? (i := 41) rfl)
theorem im_Book_macroOf : Cond.instanceMethod y_Book_macroOf ∈ tbl := tbli_9 _ (List.mem_of_getElem? (i := 42) rfl)
theorem ml_Expander_78 : Cond.methodLink R_Expander 78 y_Book_macroOf ∈ tbl := tbli_9 _ (List.mem_of_getElem? (i := 43) rfl)
theorem se_Book_macroOf : Cond.selects R_Book y_Book_macroOf y_Book_macroOf ∈ tbl := tbli_9 _ (List.mem_of_getElem? (i := 44) rfl)
theorem cd_Input_take : Cond.code y_Input_take b_Input_take 1 (some .int) ∈ tbl := tbli_9 _ (List.mem_of_getElem? (i := 45) rfl)
theorem im_Input_take : Cond.instanceMethod y_Input_take ∈ tbl := tbli_9 _ (List.mem_of_getElem? (i := 46) rfl)
theorem ml_Expander_84 : Cond.methodLink R_Expander 84 y_Input_take ∈ tbl := tbli_9 _ (List.mem_of_getElem? (i := 47) rfl)
theorem se_Input_take : Cond.selects R_Input y_Input_take y_Input_take ∈ tbl := tbli_9 _ (List.mem_of_getElem? (i := 48) rfl)
theorem cd_Input_isEmpty : Cond.code y_Input_isEmpty b_Input_isEmpty 1 (some .boolean) ∈ tbl := tbli_9 _ (List.mem_of_getElem? (i := 49) rfl)
theorem im_Input_isEmpty : Cond.instanceMethod y_Input_isEmpty ∈ tbl := tbli_10 _ (List.mem_of_getElem? (i := 0) rfl)
theorem ml_Arguments_45 : Cond.methodLink R_Arguments 45 y_Input_isEmpty ∈ tbl := tbli_10 _ (List.mem_of_getElem? (i := 1) rfl)
theorem se_Input_isEmpty : Cond.selects R_Input y_Input_isEmpty y_Input_isEmpty ∈ tbl := tbli_10 _ (List.mem_of_getElem? (i := 2) rfl)
theorem ml_Arguments_51 : Cond.methodLink R_Arguments 51 y_Input_take ∈ tbl := tbli_10 _ (List.mem_of_getElem? (i := 3) rfl)
theorem cd_Book_isOuter : Cond.code y_Book_isOuter b_Book_isOuter 5 (some .boolean) ∈ tbl := tbli_10 _ (List.mem_of_getElem? (i := 4) rfl)
theorem im_Book_isOuter : Cond.instanceMethod y_Book_isOuter ∈ tbl := tbli_10 _ (List.mem_of_getElem? (i := 5) rfl)
theorem ml_Arguments_55 : Cond.methodLink R_Arguments 55 y_Book_isOuter ∈ tbl := tbli_10 _ (List.mem_of_getElem? (i := 6) rfl)
theorem se_Book_isOuter : Cond.selects R_Book y_Book_isOuter y_Book_isOuter ∈ tbl := tbli_10 _ (List.mem_of_getElem? (i := 7) rfl)
theorem cd_Row_get : Cond.code y_Row_get b_Row_get 2 (some .int) ∈ tbl := tbli_10 _ (List.mem_of_getElem? (i := 8) rfl)
theorem im_Row_get : Cond.instanceMethod y_Row_get ∈ tbl := tbli_10 _ (List.mem_of_getElem? (i := 9) rfl)
theorem ml_Arguments_61 : Cond.methodLink R_Arguments 61 y_Row_get ∈ tbl := tbli_10 _ (List.mem_of_getElem? (i := 10) rfl)
theorem se_Row_get : Cond.selects R_Row y_Row_get y_Row_get ∈ tbl := tbli_10 _ (List.mem_of_getElem? (i := 11) rfl)
theorem ml_Arguments_28 : Cond.methodLink R_Arguments 28 Lib.Math.min.name ∈ tbl := tbli_10 _ (List.mem_of_getElem? (i := 12) rfl)
theorem ml_Arguments_34 : Cond.methodLink R_Arguments 34 Lib.Math.max.name ∈ tbl := tbli_10 _ (List.mem_of_getElem? (i := 13) rfl)
theorem ml_Arguments_78 : Cond.methodLink R_Arguments 78 y_Row_isFull ∈ tbl := tbli_10 _ (List.mem_of_getElem? (i := 14) rfl)
theorem ml_Arguments_81 : Cond.methodLink R_Arguments 81 y_Row_add ∈ tbl := tbli_10 _ (List.mem_of_getElem? (i := 15) rfl)
theorem cd_Arguments_isForbidden : Cond.code y_Arguments_isForbidden b_Arguments_isForbidden 3 (some .boolean) ∈ tbl := tbli_10 _ (List.mem_of_getElem? (i := 16) rfl)
theorem im_Arguments_isForbidden : Cond.instanceMethod y_Arguments_isForbidden ∈ tbl := tbli_10 _ (List.mem_of_getElem? (i := 17) rfl)
theorem ml_Arguments_69 : Cond.methodLink R_Arguments 69 y_Arguments_isForbidden ∈ tbl := tbli_10 _ (List.mem_of_getElem? (i := 18) rfl)
theorem se_Arguments_isForbidden : Cond.selects R_Arguments y_Arguments_isForbidden y_Arguments_isForbidden ∈ tbl := tbli_10 _ (List.mem_of_getElem? (i := 19) rfl)
theorem cd_Kind_nesting : Cond.code y_Kind_nesting b_Kind_nesting 1 (some .int) ∈ tbl := tbli_10 _ (List.mem_of_getElem? (i := 20) rfl)
theorem sm_Kind_nesting : Cond.static y_Kind_nesting ∈ tbl := tbli_10 _ (List.mem_of_getElem? (i := 21) rfl)
theorem ml_Arguments_73 : Cond.methodLink R_Arguments 73 y_Kind_nesting ∈ tbl := tbli_10 _ (List.mem_of_getElem? (i := 22) rfl)
theorem ml_Arguments_68 : Cond.methodLink R_Arguments 68 y_Input_get ∈ tbl := tbli_10 _ (List.mem_of_getElem? (i := 23) rfl)
theorem cd_Arguments_argument : Cond.code y_Arguments_argument b_Arguments_argument 2 (some (.object "MacroExpand$Row")) ∈ tbl := tbli_10 _ (List.mem_of_getElem? (i := 24) rfl)
theorem im_Arguments_argument : Cond.instanceMethod y_Arguments_argument ∈ tbl := tbli_10 _ (List.mem_of_getElem? (i := 25) rfl)
theorem ml_Arguments_37 : Cond.methodLink R_Arguments 37 y_Arguments_argument ∈ tbl := tbli_10 _ (List.mem_of_getElem? (i := 26) rfl)
theorem se_Arguments_argument : Cond.selects R_Arguments y_Arguments_argument y_Arguments_argument ∈ tbl := tbli_10 _ (List.mem_of_getElem? (i := 27) rfl)
theorem cd_Row_clear : Cond.code y_Row_clear b_Row_clear 1 none ∈ tbl := tbli_10 _ (List.mem_of_getElem? (i := 28) rfl)
theorem im_Row_clear : Cond.instanceMethod y_Row_clear ∈ tbl := tbli_10 _ (List.mem_of_getElem? (i := 29) rfl)
theorem ml_Arguments_65 : Cond.methodLink R_Arguments 65 y_Row_clear ∈ tbl := tbli_10 _ (List.mem_of_getElem? (i := 30) rfl)
theorem se_Row_clear : Cond.selects R_Row y_Row_clear y_Row_clear ∈ tbl := tbli_10 _ (List.mem_of_getElem? (i := 31) rfl)
theorem ml_Input_42 : Cond.methodLink R_Input 42 y_Input_get ∈ tbl := tbli_10 _ (List.mem_of_getElem? (i := 32) rfl)
theorem ml_Input_22 : Cond.methodLink R_Input 22 y_Row_get ∈ tbl := tbli_10 _ (List.mem_of_getElem? (i := 33) rfl)
theorem ml_Input_36 : Cond.methodLink R_Input 36 Lib.Math.max.name ∈ tbl := tbli_10 _ (List.mem_of_getElem? (i := 34) rfl)
theorem ml_Row_34 : Cond.methodLink R_Row 34 y_Row_get ∈ tbl := tbli_10 _ (List.mem_of_getElem? (i := 35) rfl)
theorem ml_Row_38 : Cond.methodLink R_Row 38 y_Kind_nesting ∈ tbl := tbli_10 _ (List.mem_of_getElem? (i := 36) rfl)
theorem ml_Row_43 : Cond.methodLink R_Row 43 arraycopyName ∈ tbl := tbli_10 _ (List.mem_of_getElem? (i := 37) rfl)
theorem cd_Input_beginsWith : Cond.code y_Input_beginsWith b_Input_beginsWith 3 (some .boolean) ∈ tbl := tbli_10 _ (List.mem_of_getElem? (i := 38) rfl)
theorem im_Input_beginsWith : Cond.instanceMethod y_Input_beginsWith ∈ tbl := tbli_10 _ (List.mem_of_getElem? (i := 39) rfl)
theorem ml_Arguments_84 : Cond.methodLink R_Arguments 84 y_Input_beginsWith ∈ tbl := tbli_10 _ (List.mem_of_getElem? (i := 40) rfl)
theorem se_Input_beginsWith : Cond.selects R_Input y_Input_beginsWith y_Input_beginsWith ∈ tbl := tbli_10 _ (List.mem_of_getElem? (i := 41) rfl)
theorem cd_Input_drop : Cond.code y_Input_drop b_Input_drop 2 none ∈ tbl := tbli_10 _ (List.mem_of_getElem? (i := 42) rfl)
theorem im_Input_drop : Cond.instanceMethod y_Input_drop ∈ tbl := tbli_10 _ (List.mem_of_getElem? (i := 43) rfl)
theorem ml_Arguments_88 : Cond.methodLink R_Arguments 88 y_Input_drop ∈ tbl := tbli_10 _ (List.mem_of_getElem? (i := 44) rfl)
theorem se_Input_drop : Cond.selects R_Input y_Input_drop y_Input_drop ∈ tbl := tbli_10 _ (List.mem_of_getElem? (i := 45) rfl)
theorem cd_Row_leaveOutOuterPair : Cond.code y_Row_leaveOutOuterPair b_Row_leaveOutOuterPair 3 none ∈ tbl := tbli_10 _ (List.mem_of_getElem? (i := 46) rfl)
theorem im_Row_leaveOutOuterPair : Cond.instanceMethod y_Row_leaveOutOuterPair ∈ tbl := tbli_10 _ (List.mem_of_getElem? (i := 47) rfl)
theorem ml_Arguments_91 : Cond.methodLink R_Arguments 91 y_Row_leaveOutOuterPair ∈ tbl := tbli_10 _ (List.mem_of_getElem? (i := 48) rfl)
theorem se_Row_leaveOutOuterPair : Cond.selects R_Row y_Row_leaveOutOuterPair y_Row_leaveOutOuterPair ∈ tbl := tbli_10 _ (List.mem_of_getElem? (i := 49) rfl)
theorem ml_Expander_185 : Cond.methodLink R_Expander 185 y_Row_get ∈ tbl := tbli_11 _ (List.mem_of_getElem? (i := 0) rfl)
theorem cd_Kind_argumentOf : Cond.code y_Kind_argumentOf b_Kind_argumentOf 1 (some .int) ∈ tbl := tbli_11 _ (List.mem_of_getElem? (i := 1) rfl)
theorem sm_Kind_argumentOf : Cond.static y_Kind_argumentOf ∈ tbl := tbli_11 _ (List.mem_of_getElem? (i := 2) rfl)
theorem ml_Expander_186 : Cond.methodLink R_Expander 186 y_Kind_argumentOf ∈ tbl := tbli_11 _ (List.mem_of_getElem? (i := 3) rfl)
theorem ml_Expander_189 : Cond.methodLink R_Expander 189 y_Arguments_argument ∈ tbl := tbli_11 _ (List.mem_of_getElem? (i := 4) rfl)
theorem cd_Input_put : Cond.code y_Input_put b_Input_put 2 none ∈ tbl := tbli_11 _ (List.mem_of_getElem? (i := 5) rfl)
theorem im_Input_put : Cond.instanceMethod y_Input_put ∈ tbl := tbli_11 _ (List.mem_of_getElem? (i := 6) rfl)
theorem ml_Input_26 : Cond.methodLink R_Input 26 y_Input_put ∈ tbl := tbli_11 _ (List.mem_of_getElem? (i := 7) rfl)
theorem se_Input_put : Cond.selects R_Input y_Input_put y_Input_put ∈ tbl := tbli_11 _ (List.mem_of_getElem? (i := 8) rfl)
theorem ml_Expander_121 : Cond.methodLink R_Expander 121 y_Input_put ∈ tbl := tbli_11 _ (List.mem_of_getElem? (i := 9) rfl)
theorem cd_Input_putAll : Cond.code y_Input_putAll b_Input_putAll 3 none ∈ tbl := tbli_11 _ (List.mem_of_getElem? (i := 10) rfl)
theorem im_Input_putAll : Cond.instanceMethod y_Input_putAll ∈ tbl := tbli_11 _ (List.mem_of_getElem? (i := 11) rfl)
theorem ml_Expander_195 : Cond.methodLink R_Expander 195 y_Input_putAll ∈ tbl := tbli_11 _ (List.mem_of_getElem? (i := 12) rfl)
theorem se_Input_putAll : Cond.selects R_Input y_Input_putAll y_Input_putAll ∈ tbl := tbli_11 _ (List.mem_of_getElem? (i := 13) rfl)
theorem ml_Expander_192 : Cond.methodLink R_Expander 192 y_Kind_isParameter ∈ tbl := tbli_11 _ (List.mem_of_getElem? (i := 14) rfl)
theorem ml_Expander_144 : Cond.methodLink R_Expander 144 y_Macro_row ∈ tbl := tbli_11 _ (List.mem_of_getElem? (i := 15) rfl)
theorem cd_Arguments_readUpTo : Cond.code y_Arguments_readUpTo b_Arguments_readUpTo 8 (some .int) ∈ tbl := tbli_11 _ (List.mem_of_getElem? (i := 16) rfl)
theorem im_Arguments_readUpTo : Cond.instanceMethod y_Arguments_readUpTo ∈ tbl := tbli_11 _ (List.mem_of_getElem? (i := 17) rfl)
theorem ml_Expander_162 : Cond.methodLink R_Expander 162 y_Arguments_readUpTo ∈ tbl := tbli_11 _ (List.mem_of_getElem? (i := 18) rfl)
theorem se_Arguments_readUpTo : Cond.selects R_Arguments y_Arguments_readUpTo y_Arguments_readUpTo ∈ tbl := tbli_11 _ (List.mem_of_getElem? (i := 19) rfl)
theorem cd_Arguments_readNext : Cond.code y_Arguments_readNext b_Arguments_readNext 8 (some .int) ∈ tbl := tbli_11 _ (List.mem_of_getElem? (i := 20) rfl)
theorem im_Arguments_readNext : Cond.instanceMethod y_Arguments_readNext ∈ tbl := tbli_11 _ (List.mem_of_getElem? (i := 21) rfl)
theorem ml_Expander_159 : Cond.methodLink R_Expander 159 y_Arguments_readNext ∈ tbl := tbli_11 _ (List.mem_of_getElem? (i := 22) rfl)
theorem se_Arguments_readNext : Cond.selects R_Arguments y_Arguments_readNext y_Arguments_readNext ∈ tbl := tbli_11 _ (List.mem_of_getElem? (i := 23) rfl)
theorem cd_Arguments_readRow : Cond.code y_Arguments_readRow b_Arguments_readRow 4 (some .int) ∈ tbl := tbli_11 _ (List.mem_of_getElem? (i := 24) rfl)
theorem im_Arguments_readRow : Cond.instanceMethod y_Arguments_readRow ∈ tbl := tbli_11 _ (List.mem_of_getElem? (i := 25) rfl)
theorem ml_Expander_150 : Cond.methodLink R_Expander 150 y_Arguments_readRow ∈ tbl := tbli_11 _ (List.mem_of_getElem? (i := 26) rfl)
theorem se_Arguments_readRow : Cond.selects R_Arguments y_Arguments_readRow y_Arguments_readRow ∈ tbl := tbli_11 _ (List.mem_of_getElem? (i := 27) rfl)
theorem cd_Expander_sizeOfText : Cond.code y_Expander_sizeOfText b_Expander_sizeOfText 5 (some .int) ∈ tbl := tbli_11 _ (List.mem_of_getElem? (i := 28) rfl)
theorem im_Expander_sizeOfText : Cond.instanceMethod y_Expander_sizeOfText ∈ tbl := tbli_11 _ (List.mem_of_getElem? (i := 29) rfl)
theorem ml_Expander_166 : Cond.methodLink R_Expander 166 y_Expander_sizeOfText ∈ tbl := tbli_11 _ (List.mem_of_getElem? (i := 30) rfl)
theorem se_Expander_sizeOfText : Cond.selects R_Expander y_Expander_sizeOfText y_Expander_sizeOfText ∈ tbl := tbli_11 _ (List.mem_of_getElem? (i := 31) rfl)
theorem cd_Expander_putText : Cond.code y_Expander_putText b_Expander_putText 5 none ∈ tbl := tbli_11 _ (List.mem_of_getElem? (i := 32) rfl)
theorem im_Expander_putText : Cond.instanceMethod y_Expander_putText ∈ tbl := tbli_11 _ (List.mem_of_getElem? (i := 33) rfl)
theorem ml_Expander_170 : Cond.methodLink R_Expander 170 y_Expander_putText ∈ tbl := tbli_11 _ (List.mem_of_getElem? (i := 34) rfl)
theorem se_Expander_putText : Cond.selects R_Expander y_Expander_putText y_Expander_putText ∈ tbl := tbli_11 _ (List.mem_of_getElem? (i := 35) rfl)
theorem cd_Arguments_sizeOfAll : Cond.code y_Arguments_sizeOfAll b_Arguments_sizeOfAll 4 (some .int) ∈ tbl := tbli_11 _ (List.mem_of_getElem? (i := 36) rfl)
theorem im_Arguments_sizeOfAll : Cond.instanceMethod y_Arguments_sizeOfAll ∈ tbl := tbli_11 _ (List.mem_of_getElem? (i := 37) rfl)
theorem ml_Expander_174 : Cond.methodLink R_Expander 174 y_Arguments_sizeOfAll ∈ tbl := tbli_11 _ (List.mem_of_getElem? (i := 38) rfl)
theorem se_Arguments_sizeOfAll : Cond.selects R_Arguments y_Arguments_sizeOfAll y_Arguments_sizeOfAll ∈ tbl := tbli_11 _ (List.mem_of_getElem? (i := 39) rfl)
theorem cd_Trace_add : Cond.code y_Trace_add b_Trace_add 4 none ∈ tbl := tbli_11 _ (List.mem_of_getElem? (i := 40) rfl)
theorem im_Trace_add : Cond.instanceMethod y_Trace_add ∈ tbl := tbli_11 _ (List.mem_of_getElem? (i := 41) rfl)
theorem ml_Expander_177 : Cond.methodLink R_Expander 177 y_Trace_add ∈ tbl := tbli_11 _ (List.mem_of_getElem? (i := 42) rfl)
theorem se_Trace_add : Cond.selects R_Trace y_Trace_add y_Trace_add ∈ tbl := tbli_11 _ (List.mem_of_getElem? (i := 43) rfl)
theorem cd_Expander_expandName : Cond.code y_Expander_expandName b_Expander_expandName 7 (some .int) ∈ tbl := tbli_11 _ (List.mem_of_getElem? (i := 44) rfl)
theorem im_Expander_expandName : Cond.instanceMethod y_Expander_expandName ∈ tbl := tbli_11 _ (List.mem_of_getElem? (i := 45) rfl)
theorem ml_Expander_111 : Cond.methodLink R_Expander 111 y_Expander_expandName ∈ tbl := tbli_11 _ (List.mem_of_getElem? (i := 46) rfl)
theorem se_Expander_expandName : Cond.selects R_Expander y_Expander_expandName y_Expander_expandName ∈ tbl := tbli_11 _ (List.mem_of_getElem? (i := 47) rfl)
theorem cd_Expander_beginNaming : Cond.code y_Expander_beginNaming b_Expander_beginNaming 1 (some .int) ∈ tbl := tbli_11 _ (List.mem_of_getElem? (i := 48) rfl)
theorem im_Expander_beginNaming : Cond.instanceMethod y_Expander_beginNaming ∈ tbl := tbli_11 _ (List.mem_of_getElem? (i := 49) rfl)
theorem ml_Expander_108 : Cond.methodLink R_Expander 108 y_Expander_beginNaming ∈ tbl := tbli_12 _ (List.mem_of_getElem? (i := 0) rfl)
theorem se_Expander_beginNaming : Cond.selects R_Expander y_Expander_beginNaming y_Expander_beginNaming ∈ tbl := tbli_12 _ (List.mem_of_getElem? (i := 1) rfl)
theorem cd_Expander_beginAfter : Cond.code y_Expander_beginAfter b_Expander_beginAfter 1 (some .int) ∈ tbl := tbli_12 _ (List.mem_of_getElem? (i := 2) rfl)
theorem im_Expander_beginAfter : Cond.instanceMethod y_Expander_beginAfter ∈ tbl := tbli_12 _ (List.mem_of_getElem? (i := 3) rfl)
theorem ml_Expander_105 : Cond.methodLink R_Expander 105 y_Expander_beginAfter ∈ tbl := tbli_12 _ (List.mem_of_getElem? (i := 4) rfl)
theorem se_Expander_beginAfter : Cond.selects R_Expander y_Expander_beginAfter y_Expander_beginAfter ∈ tbl := tbli_12 _ (List.mem_of_getElem? (i := 5) rfl)
theorem ml_Expander_102 : Cond.methodLink R_Expander 102 y_Input_isEmpty ∈ tbl := tbli_12 _ (List.mem_of_getElem? (i := 6) rfl)
theorem cd_Spelling_isSpelled : Cond.code y_Spelling_isSpelled b_Spelling_isSpelled 6 (some .boolean) ∈ tbl := tbli_12 _ (List.mem_of_getElem? (i := 7) rfl)
theorem im_Spelling_isSpelled : Cond.instanceMethod y_Spelling_isSpelled ∈ tbl := tbli_12 _ (List.mem_of_getElem? (i := 8) rfl)
theorem ml_Spelling_22 : Cond.methodLink R_Spelling 22 y_Spelling_isSpelled ∈ tbl := tbli_12 _ (List.mem_of_getElem? (i := 9) rfl)
theorem se_Spelling_isSpelled : Cond.selects R_Spelling y_Spelling_isSpelled y_Spelling_isSpelled ∈ tbl := tbli_12 _ (List.mem_of_getElem? (i := 10) rfl)
theorem ml_Spelling_26 : Cond.methodLink R_Spelling 26 arraycopyName ∈ tbl := tbli_12 _ (List.mem_of_getElem? (i := 11) rfl)
theorem cd_Spelling_numberOf : Cond.code y_Spelling_numberOf b_Spelling_numberOf 5 (some .int) ∈ tbl := tbli_12 _ (List.mem_of_getElem? (i := 12) rfl)
theorem im_Spelling_numberOf : Cond.instanceMethod y_Spelling_numberOf ∈ tbl := tbli_12 _ (List.mem_of_getElem? (i := 13) rfl)
theorem ml_Expander_138 : Cond.methodLink R_Expander 138 y_Spelling_numberOf ∈ tbl := tbli_12 _ (List.mem_of_getElem? (i := 14) rfl)
theorem se_Spelling_numberOf : Cond.selects R_Spelling y_Spelling_numberOf y_Spelling_numberOf ∈ tbl := tbli_12 _ (List.mem_of_getElem? (i := 15) rfl)
theorem cd_Expander_takeFirst : Cond.code y_Expander_takeFirst b_Expander_takeFirst 1 (some .int) ∈ tbl := tbli_12 _ (List.mem_of_getElem? (i := 16) rfl)
theorem im_Expander_takeFirst : Cond.instanceMethod y_Expander_takeFirst ∈ tbl := tbli_12 _ (List.mem_of_getElem? (i := 17) rfl)
theorem ml_Expander_125 : Cond.methodLink R_Expander 125 y_Expander_takeFirst ∈ tbl := tbli_12 _ (List.mem_of_getElem? (i := 18) rfl)
theorem se_Expander_takeFirst : Cond.selects R_Expander y_Expander_takeFirst y_Expander_takeFirst ∈ tbl := tbli_12 _ (List.mem_of_getElem? (i := 19) rfl)
theorem cd_Kind_isSign : Cond.code y_Kind_isSign b_Kind_isSign 1 (some .boolean) ∈ tbl := tbli_12 _ (List.mem_of_getElem? (i := 20) rfl)
theorem sm_Kind_isSign : Cond.static y_Kind_isSign ∈ tbl := tbli_12 _ (List.mem_of_getElem? (i := 21) rfl)
theorem ml_Expander_132 : Cond.methodLink R_Expander 132 y_Kind_isSign ∈ tbl := tbli_12 _ (List.mem_of_getElem? (i := 22) rfl)
theorem cd_Expander_endNaming : Cond.code y_Expander_endNaming b_Expander_endNaming 4 (some .int) ∈ tbl := tbli_12 _ (List.mem_of_getElem? (i := 23) rfl)
theorem im_Expander_endNaming : Cond.instanceMethod y_Expander_endNaming ∈ tbl := tbli_12 _ (List.mem_of_getElem? (i := 24) rfl)
theorem ml_Expander_128 : Cond.methodLink R_Expander 128 y_Expander_endNaming ∈ tbl := tbli_12 _ (List.mem_of_getElem? (i := 25) rfl)
theorem se_Expander_endNaming : Cond.selects R_Expander y_Expander_endNaming y_Expander_endNaming ∈ tbl := tbli_12 _ (List.mem_of_getElem? (i := 26) rfl)
theorem ml_Expander_118 : Cond.methodLink R_Expander 118 y_Input_isFull ∈ tbl := tbli_12 _ (List.mem_of_getElem? (i := 27) rfl)
theorem cd_Expander_putBack : Cond.code y_Expander_putBack b_Expander_putBack 1 (some .int) ∈ tbl := tbli_12 _ (List.mem_of_getElem? (i := 28) rfl)
theorem im_Expander_putBack : Cond.instanceMethod y_Expander_putBack ∈ tbl := tbli_12 _ (List.mem_of_getElem? (i := 29) rfl)
theorem ml_Expander_99 : Cond.methodLink R_Expander 99 y_Expander_putBack ∈ tbl := tbli_12 _ (List.mem_of_getElem? (i := 30) rfl)
theorem se_Expander_putBack : Cond.selects R_Expander y_Expander_putBack y_Expander_putBack ∈ tbl := tbli_12 _ (List.mem_of_getElem? (i := 31) rfl)
theorem cd_Expander_goOnNaming : Cond.code y_Expander_goOnNaming b_Expander_goOnNaming 4 (some .int) ∈ tbl := tbli_12 _ (List.mem_of_getElem? (i := 32) rfl)
theorem im_Expander_goOnNaming : Cond.instanceMethod y_Expander_goOnNaming ∈ tbl := tbli_12 _ (List.mem_of_getElem? (i := 33) rfl)
theorem ml_Expander_96 : Cond.methodLink R_Expander 96 y_Expander_goOnNaming ∈ tbl := tbli_12 _ (List.mem_of_getElem? (i := 34) rfl)
theorem se_Expander_goOnNaming : Cond.selects R_Expander y_Expander_goOnNaming y_Expander_goOnNaming ∈ tbl := tbli_12 _ (List.mem_of_getElem? (i := 35) rfl)
theorem cd_Expander_canExpand : Cond.code y_Expander_canExpand b_Expander_canExpand 2 (some .boolean) ∈ tbl := tbli_12 _ (List.mem_of_getElem? (i := 36) rfl)
theorem im_Expander_canExpand : Cond.instanceMethod y_Expander_canExpand ∈ tbl := tbli_12 _ (List.mem_of_getElem? (i := 37) rfl)
theorem ml_Expander_92 : Cond.methodLink R_Expander 92 y_Expander_canExpand ∈ tbl := tbli_12 _ (List.mem_of_getElem? (i := 38) rfl)
theorem se_Expander_canExpand : Cond.selects R_Expander y_Expander_canExpand y_Expander_canExpand ∈ tbl := tbli_12 _ (List.mem_of_getElem? (i := 39) rfl)
theorem cd_Expander_expandFirst : Cond.code y_Expander_expandFirst b_Expander_expandFirst 3 (some .int) ∈ tbl := tbli_12 _ (List.mem_of_getElem? (i := 40) rfl)
theorem im_Expander_expandFirst : Cond.instanceMethod y_Expander_expandFirst ∈ tbl := tbli_12 _ (List.mem_of_getElem? (i := 41) rfl)
theorem ml_Expander_88 : Cond.methodLink R_Expander 88 y_Expander_expandFirst ∈ tbl := tbli_12 _ (List.mem_of_getElem? (i := 42) rfl)
theorem se_Expander_expandFirst : Cond.selects R_Expander y_Expander_expandFirst y_Expander_expandFirst ∈ tbl := tbli_12 _ (List.mem_of_getElem? (i := 43) rfl)
theorem ct_Expander_91 : Cond.constant R_Expander 91 1000000 ∈ tbl := tbli_12 _ (List.mem_of_getElem? (i := 44) rfl)
theorem ml_Definition_58 : Cond.methodLink R_Definition 58 y_Kind_isName ∈ tbl := tbli_12 _ (List.mem_of_getElem? (i := 45) rfl)
theorem fl_Definition_35 : Cond.fieldLink R_Definition 35 R_Definition "name" "I" ∈ tbl := tbli_12 _ (List.mem_of_getElem? (i := 46) rfl)
theorem ml_Definition_86 : Cond.methodLink R_Definition 86 y_Row_isFull ∈ tbl := tbli_12 _ (List.mem_of_getElem? (i := 47) rfl)
theorem ml_Definition_89 : Cond.methodLink R_Definition 89 y_Row_add ∈ tbl := tbli_12 _ (List.mem_of_getElem? (i := 48) rfl)
theorem ml_Definition_64 : Cond.methodLink R_Definition 64 y_Kind_isParameter ∈ tbl := tbli_12 _ (List.mem_of_getElem? (i := 49) rfl)
theorem fl_Definition_38 : Cond.fieldLink R_Definition 38 R_Definition "arguments" "I" ∈ tbl := tbli_13 _ (List.mem_of_getElem? (i := 0) rfl)
theorem ml_Definition_70 : Cond.methodLink R_Definition 70 Lib.Math.min.name ∈ tbl := tbli_13 _ (List.mem_of_getElem? (i := 1) rfl)
theorem ml_Definition_76 : Cond.methodLink R_Definition 76 Lib.Math.max.name ∈ tbl := tbli_13 _ (List.mem_of_getElem? (i := 2) rfl)
theorem cd_Definition_addTo : Cond.code y_Definition_addTo b_Definition_addTo 2 (some .int) ∈ tbl := tbli_13 _ (List.mem_of_getElem? (i := 3) rfl)
theorem sm_Definition_addTo : Cond.static y_Definition_addTo ∈ tbl := tbli_13 _ (List.mem_of_getElem? (i := 4) rfl)
theorem ml_Definition_79 : Cond.methodLink R_Definition 79 y_Definition_addTo ∈ tbl := tbli_13 _ (List.mem_of_getElem? (i := 5) rfl)
theorem ml_Definition_67 : Cond.methodLink R_Definition 67 y_Kind_argumentOf ∈ tbl := tbli_13 _ (List.mem_of_getElem? (i := 6) rfl)
theorem fl_Definition_41 : Cond.fieldLink R_Definition 41 R_Definition "depth" "I" ∈ tbl := tbli_13 _ (List.mem_of_getElem? (i := 7) rfl)
theorem ml_Definition_83 : Cond.methodLink R_Definition 83 y_Kind_nesting ∈ tbl := tbli_13 _ (List.mem_of_getElem? (i := 8) rfl)
theorem cd_Definition_acceptInText : Cond.code y_Definition_acceptInText b_Definition_acceptInText 2 (some .int) ∈ tbl := tbli_13 _ (List.mem_of_getElem? (i := 9) rfl)
theorem im_Definition_acceptInText : Cond.instanceMethod y_Definition_acceptInText ∈ tbl := tbli_13 _ (List.mem_of_getElem? (i := 10) rfl)
theorem ml_Definition_55 : Cond.methodLink R_Definition 55 y_Definition_acceptInText ∈ tbl := tbli_13 _ (List.mem_of_getElem? (i := 11) rfl)
theorem se_Definition_acceptInText : Cond.selects R_Definition y_Definition_acceptInText y_Definition_acceptInText ∈ tbl := tbli_13 _ (List.mem_of_getElem? (i := 12) rfl)
theorem cd_Definition_acceptInRows : Cond.code y_Definition_acceptInRows b_Definition_acceptInRows 2 (some .int) ∈ tbl := tbli_13 _ (List.mem_of_getElem? (i := 13) rfl)
theorem im_Definition_acceptInRows : Cond.instanceMethod y_Definition_acceptInRows ∈ tbl := tbli_13 _ (List.mem_of_getElem? (i := 14) rfl)
theorem ml_Definition_52 : Cond.methodLink R_Definition 52 y_Definition_acceptInRows ∈ tbl := tbli_13 _ (List.mem_of_getElem? (i := 15) rfl)
theorem se_Definition_acceptInRows : Cond.selects R_Definition y_Definition_acceptInRows y_Definition_acceptInRows ∈ tbl := tbli_13 _ (List.mem_of_getElem? (i := 16) rfl)
theorem cd_Definition_acceptName : Cond.code y_Definition_acceptName b_Definition_acceptName 2 (some .int) ∈ tbl := tbli_13 _ (List.mem_of_getElem? (i := 17) rfl)
theorem im_Definition_acceptName : Cond.instanceMethod y_Definition_acceptName ∈ tbl := tbli_13 _ (List.mem_of_getElem? (i := 18) rfl)
theorem ml_Definition_48 : Cond.methodLink R_Definition 48 y_Definition_acceptName ∈ tbl := tbli_13 _ (List.mem_of_getElem? (i := 19) rfl)
theorem se_Definition_acceptName : Cond.selects R_Definition y_Definition_acceptName y_Definition_acceptName ∈ tbl := tbli_13 _ (List.mem_of_getElem? (i := 20) rfl)
theorem ml_Definition_97 : Cond.methodLink R_Definition 97 y_Macro_row ∈ tbl := tbli_13 _ (List.mem_of_getElem? (i := 21) rfl)
theorem cd_Row_copyFrom : Cond.code y_Row_copyFrom b_Row_copyFrom 2 none ∈ tbl := tbli_13 _ (List.mem_of_getElem? (i := 22) rfl)
theorem im_Row_copyFrom : Cond.instanceMethod y_Row_copyFrom ∈ tbl := tbli_13 _ (List.mem_of_getElem? (i := 23) rfl)
theorem ml_Definition_101 : Cond.methodLink R_Definition 101 y_Row_copyFrom ∈ tbl := tbli_13 _ (List.mem_of_getElem? (i := 24) rfl)
theorem se_Row_copyFrom : Cond.selects R_Row y_Row_copyFrom y_Row_copyFrom ∈ tbl := tbli_13 _ (List.mem_of_getElem? (i := 25) rfl)
theorem cl_Definition_92 : Cond.classLink R_Definition 92 R_Macro ∈ tbl := tbli_13 _ (List.mem_of_getElem? (i := 26) rfl)
theorem ml_Definition_94 : Cond.methodLink R_Definition 94 y_Macro_init ∈ tbl := tbli_13 _ (List.mem_of_getElem? (i := 27) rfl)
theorem cd_Definition_accept : Cond.code y_Definition_accept b_Definition_accept 2 (some .int) ∈ tbl := tbli_13 _ (List.mem_of_getElem? (i := 28) rfl)
theorem im_Definition_accept : Cond.instanceMethod y_Definition_accept ∈ tbl := tbli_13 _ (List.mem_of_getElem? (i := 29) rfl)
theorem ml_Whole_105 : Cond.methodLink R_Whole 105 y_Definition_accept ∈ tbl := tbli_13 _ (List.mem_of_getElem? (i := 30) rfl)
theorem se_Definition_accept : Cond.selects R_Definition y_Definition_accept y_Definition_accept ∈ tbl := tbli_13 _ (List.mem_of_getElem? (i := 31) rfl)
theorem cd_Definition_isRead : Cond.code y_Definition_isRead b_Definition_isRead 1 (some .boolean) ∈ tbl := tbli_13 _ (List.mem_of_getElem? (i := 32) rfl)
theorem im_Definition_isRead : Cond.instanceMethod y_Definition_isRead ∈ tbl := tbli_13 _ (List.mem_of_getElem? (i := 33) rfl)
theorem ml_Whole_114 : Cond.methodLink R_Whole 114 y_Definition_isRead ∈ tbl := tbli_13 _ (List.mem_of_getElem? (i := 34) rfl)
theorem se_Definition_isRead : Cond.selects R_Definition y_Definition_isRead y_Definition_isRead ∈ tbl := tbli_13 _ (List.mem_of_getElem? (i := 35) rfl)
theorem ml_Whole_117 : Cond.methodLink R_Whole 117 y_Book_isFull ∈ tbl := tbli_13 _ (List.mem_of_getElem? (i := 36) rfl)
theorem cd_Definition_toMacro : Cond.code y_Definition_toMacro b_Definition_toMacro 4 (some (.object "MacroExpand$Macro")) ∈ tbl := tbli_13 _ (List.mem_of_getElem? (i := 37) rfl)
theorem im_Definition_toMacro : Cond.instanceMethod y_Definition_toMacro ∈ tbl := tbli_13 _ (List.mem_of_getElem? (i := 38) rfl)
theorem ml_Whole_120 : Cond.methodLink R_Whole 120 y_Definition_toMacro ∈ tbl := tbli_13 _ (List.mem_of_getElem? (i := 39) rfl)
theorem se_Definition_toMacro : Cond.selects R_Definition y_Definition_toMacro y_Definition_toMacro ∈ tbl := tbli_13 _ (List.mem_of_getElem? (i := 40) rfl)
theorem ml_Whole_124 : Cond.methodLink R_Whole 124 y_Book_enter ∈ tbl := tbli_13 _ (List.mem_of_getElem? (i := 41) rfl)
theorem cd_Definition_leave : Cond.code y_Definition_leave b_Definition_leave 1 none ∈ tbl := tbli_13 _ (List.mem_of_getElem? (i := 42) rfl)
theorem im_Definition_leave : Cond.instanceMethod y_Definition_leave ∈ tbl := tbli_13 _ (List.mem_of_getElem? (i := 43) rfl)
theorem ml_Whole_49 : Cond.methodLink R_Whole 49 y_Definition_leave ∈ tbl := tbli_13 _ (List.mem_of_getElem? (i := 44) rfl)
theorem se_Definition_leave : Cond.selects R_Definition y_Definition_leave y_Definition_leave ∈ tbl := tbli_13 _ (List.mem_of_getElem? (i := 45) rfl)
theorem ml_Whole_128 : Cond.methodLink R_Whole 128 y_Input_put ∈ tbl := tbli_13 _ (List.mem_of_getElem? (i := 46) rfl)
theorem ml_Definition_28 : Cond.methodLink R_Definition 28 y_Row_clear ∈ tbl := tbli_13 _ (List.mem_of_getElem? (i := 47) rfl)
theorem ml_Whole_53 : Cond.methodLink R_Whole 53 y_Input_isEmpty ∈ tbl := tbli_13 _ (List.mem_of_getElem? (i := 48) rfl)
theorem ml_Whole_102 : Cond.methodLink R_Whole 102 y_Input_take ∈ tbl := tbli_13 _ (List.mem_of_getElem? (i := 49) rfl)
theorem cd_Definition_begin : Cond.code y_Definition_begin b_Definition_begin 3 none ∈ tbl := tbli_14 _ (List.mem_of_getElem? (i := 0) rfl)
theorem im_Definition_begin : Cond.instanceMethod y_Definition_begin ∈ tbl := tbli_14 _ (List.mem_of_getElem? (i := 1) rfl)
theorem ml_Whole_89 : Cond.methodLink R_Whole 89 y_Definition_begin ∈ tbl := tbli_14 _ (List.mem_of_getElem? (i := 2) rfl)
theorem se_Definition_begin : Cond.selects R_Definition y_Definition_begin y_Definition_begin ∈ tbl := tbli_14 _ (List.mem_of_getElem? (i := 3) rfl)
theorem cd_Kind_markOf : Cond.code y_Kind_markOf b_Kind_markOf 1 (some .int) ∈ tbl := tbli_14 _ (List.mem_of_getElem? (i := 4) rfl)
theorem sm_Kind_markOf : Cond.static y_Kind_markOf ∈ tbl := tbli_14 _ (List.mem_of_getElem? (i := 5) rfl)
theorem ml_Whole_84 : Cond.methodLink R_Whole 84 y_Kind_markOf ∈ tbl := tbli_14 _ (List.mem_of_getElem? (i := 6) rfl)
theorem ml_Whole_96 : Cond.methodLink R_Whole 96 y_Row_isFull ∈ tbl := tbli_14 _ (List.mem_of_getElem? (i := 7) rfl)
theorem ml_Whole_99 : Cond.methodLink R_Whole 99 y_Row_add ∈ tbl := tbli_14 _ (List.mem_of_getElem? (i := 8) rfl)
theorem cd_Whole_takeLater : Cond.code y_Whole_takeLater b_Whole_takeLater 1 (some .int) ∈ tbl := tbli_14 _ (List.mem_of_getElem? (i := 9) rfl)
theorem im_Whole_takeLater : Cond.instanceMethod y_Whole_takeLater ∈ tbl := tbli_14 _ (List.mem_of_getElem? (i := 10) rfl)
theorem ml_Whole_93 : Cond.methodLink R_Whole 93 y_Whole_takeLater ∈ tbl := tbli_14 _ (List.mem_of_getElem? (i := 11) rfl)
theorem se_Whole_takeLater : Cond.selects R_Whole y_Whole_takeLater y_Whole_takeLater ∈ tbl := tbli_14 _ (List.mem_of_getElem? (i := 12) rfl)
theorem ml_Whole_71 : Cond.methodLink R_Whole 71 y_Definition_isUnderWay ∈ tbl := tbli_14 _ (List.mem_of_getElem? (i := 13) rfl)
theorem ml_Whole_74 : Cond.methodLink R_Whole 74 y_Expander_takeFirst ∈ tbl := tbli_14 _ (List.mem_of_getElem? (i := 14) rfl)
theorem cd_Whole_carryOut : Cond.code y_Whole_carryOut b_Whole_carryOut 3 (some .int) ∈ tbl := tbli_14 _ (List.mem_of_getElem? (i := 15) rfl)
theorem im_Whole_carryOut : Cond.instanceMethod y_Whole_carryOut ∈ tbl := tbli_14 _ (List.mem_of_getElem? (i := 16) rfl)
theorem ml_Whole_81 : Cond.methodLink R_Whole 81 y_Whole_carryOut ∈ tbl := tbli_14 _ (List.mem_of_getElem? (i := 17) rfl)
theorem se_Whole_carryOut : Cond.selects R_Whole y_Whole_carryOut y_Whole_carryOut ∈ tbl := tbli_14 _ (List.mem_of_getElem? (i := 18) rfl)
theorem cd_Whole_goOnDefining : Cond.code y_Whole_goOnDefining b_Whole_goOnDefining 3 (some .int) ∈ tbl := tbli_14 _ (List.mem_of_getElem? (i := 19) rfl)
theorem im_Whole_goOnDefining : Cond.instanceMethod y_Whole_goOnDefining ∈ tbl := tbli_14 _ (List.mem_of_getElem? (i := 20) rfl)
theorem ml_Whole_77 : Cond.methodLink R_Whole 77 y_Whole_goOnDefining ∈ tbl := tbli_14 _ (List.mem_of_getElem? (i := 21) rfl)
theorem se_Whole_goOnDefining : Cond.selects R_Whole y_Whole_goOnDefining y_Whole_goOnDefining ∈ tbl := tbli_14 _ (List.mem_of_getElem? (i := 22) rfl)
theorem ct_Whole_52 : Cond.constant R_Whole 52 100000000 ∈ tbl := tbli_14 _ (List.mem_of_getElem? (i := 23) rfl)
theorem cd_Definition_takesTokensAsTheyAre : Cond.code y_Definition_takesTokensAsTheyAre b_Definition_takesTokensAsTheyAre 1 (some .boolean) ∈ tbl := tbli_14 _ (List.mem_of_getElem? (i := 24) rfl)
theorem im_Definition_takesTokensAsTheyAre : Cond.instanceMethod y_Definition_takesTokensAsTheyAre ∈ tbl := tbli_14 _ (List.mem_of_getElem? (i := 25) rfl)
theorem ml_Whole_59 : Cond.methodLink R_Whole 59 y_Definition_takesTokensAsTheyAre ∈ tbl := tbli_14 _ (List.mem_of_getElem? (i := 26) rfl)
theorem se_Definition_takesTokensAsTheyAre : Cond.selects R_Definition y_Definition_takesTokensAsTheyAre y_Definition_takesTokensAsTheyAre ∈ tbl := tbli_14 _ (List.mem_of_getElem? (i := 27) rfl)
theorem ml_Whole_62 : Cond.methodLink R_Whole 62 y_Expander_canExpand ∈ tbl := tbli_14 _ (List.mem_of_getElem? (i := 28) rfl)
theorem cd_Expander_expandOnce : Cond.code y_Expander_expandOnce b_Expander_expandOnce 5 (some .int) ∈ tbl := tbli_14 _ (List.mem_of_getElem? (i := 29) rfl)
theorem im_Expander_expandOnce : Cond.instanceMethod y_Expander_expandOnce ∈ tbl := tbli_14 _ (List.mem_of_getElem? (i := 30) rfl)
theorem ml_Whole_67 : Cond.methodLink R_Whole 67 y_Expander_expandOnce ∈ tbl := tbli_14 _ (List.mem_of_getElem? (i := 31) rfl)
theorem se_Expander_expandOnce : Cond.selects R_Expander y_Expander_expandOnce y_Expander_expandOnce ∈ tbl := tbli_14 _ (List.mem_of_getElem? (i := 32) rfl)
theorem ml_Whole_46 : Cond.methodLink R_Whole 46 y_Row_clear ∈ tbl := tbli_14 _ (List.mem_of_getElem? (i := 33) rfl)
theorem cd_Input_clear : Cond.code y_Input_clear b_Input_clear 1 none ∈ tbl := tbli_14 _ (List.mem_of_getElem? (i := 34) rfl)
theorem im_Input_clear : Cond.instanceMethod y_Input_clear ∈ tbl := tbli_14 _ (List.mem_of_getElem? (i := 35) rfl)
theorem ml_MacroExpand_131 : Cond.methodLink R_MacroExpand 131 y_Input_clear ∈ tbl := tbli_14 _ (List.mem_of_getElem? (i := 36) rfl)
theorem se_Input_clear : Cond.selects R_Input y_Input_clear y_Input_clear ∈ tbl := tbli_14 _ (List.mem_of_getElem? (i := 37) rfl)
theorem cd_Expander_begin : Cond.code y_Expander_begin b_Expander_begin 1 none ∈ tbl := tbli_14 _ (List.mem_of_getElem? (i := 38) rfl)
theorem im_Expander_begin : Cond.instanceMethod y_Expander_begin ∈ tbl := tbli_14 _ (List.mem_of_getElem? (i := 39) rfl)
theorem ml_MacroExpand_115 : Cond.methodLink R_MacroExpand 115 y_Expander_begin ∈ tbl := tbli_14 _ (List.mem_of_getElem? (i := 40) rfl)
theorem se_Expander_begin : Cond.selects R_Expander y_Expander_begin y_Expander_begin ∈ tbl := tbli_14 _ (List.mem_of_getElem? (i := 41) rfl)
theorem ml_MacroExpand_122 : Cond.methodLink R_MacroExpand 122 y_Expander_canExpand ∈ tbl := tbli_14 _ (List.mem_of_getElem? (i := 42) rfl)
theorem ml_MacroExpand_125 : Cond.methodLink R_MacroExpand 125 y_Expander_expandOnce ∈ tbl := tbli_14 _ (List.mem_of_getElem? (i := 43) rfl)
theorem cd_Whole_run : Cond.code y_Whole_run b_Whole_run 3 (some .int) ∈ tbl := tbli_14 _ (List.mem_of_getElem? (i := 44) rfl)
theorem im_Whole_run : Cond.instanceMethod y_Whole_run ∈ tbl := tbli_14 _ (List.mem_of_getElem? (i := 45) rfl)
theorem ml_MacroExpand_118 : Cond.methodLink R_MacroExpand 118 y_Whole_run ∈ tbl := tbli_14 _ (List.mem_of_getElem? (i := 46) rfl)
theorem se_Whole_run : Cond.selects R_Whole y_Whole_run y_Whole_run ∈ tbl := tbli_14 _ (List.mem_of_getElem? (i := 47) rfl)
theorem ml_MacroExpand_140 : Cond.methodLink R_MacroExpand 140 y_Row_get ∈ tbl := tbli_14 _ (List.mem_of_getElem? (i := 48) rfl)
theorem ml_Book_55 : Cond.methodLink R_Book 55 arraycopyName ∈ tbl := tbli_14 _ (List.mem_of_getElem? (i := 49) rfl)
theorem cd_Book_closeGroup : Cond.code y_Book_closeGroup b_Book_closeGroup 1 (some .boolean) ∈ tbl := tbli_15 _ (List.mem_of_getElem? (i := 0) rfl)
theorem im_Book_closeGroup : Cond.instanceMethod y_Book_closeGroup ∈ tbl := tbli_15 _ (List.mem_of_getElem? (i := 1) rfl)
theorem ml_MacroExpand_153 : Cond.methodLink R_MacroExpand 153 y_Book_closeGroup ∈ tbl := tbli_15 _ (List.mem_of_getElem? (i := 2) rfl)
theorem se_Book_closeGroup : Cond.selects R_Book y_Book_closeGroup y_Book_closeGroup ∈ tbl := tbli_15 _ (List.mem_of_getElem? (i := 3) rfl)
theorem cd_Book_openGroup : Cond.code y_Book_openGroup b_Book_openGroup 1 (some .boolean) ∈ tbl := tbli_15 _ (List.mem_of_getElem? (i := 4) rfl)
theorem im_Book_openGroup : Cond.instanceMethod y_Book_openGroup ∈ tbl := tbli_15 _ (List.mem_of_getElem? (i := 5) rfl)
theorem ml_MacroExpand_147 : Cond.methodLink R_MacroExpand 147 y_Book_openGroup ∈ tbl := tbli_15 _ (List.mem_of_getElem? (i := 6) rfl)
theorem se_Book_openGroup : Cond.selects R_Book y_Book_openGroup y_Book_openGroup ∈ tbl := tbli_15 _ (List.mem_of_getElem? (i := 7) rfl)
theorem cd_Spelling_lengthOf : Cond.code y_Spelling_lengthOf b_Spelling_lengthOf 2 (some .int) ∈ tbl := tbli_15 _ (List.mem_of_getElem? (i := 8) rfl)
theorem im_Spelling_lengthOf : Cond.instanceMethod y_Spelling_lengthOf ∈ tbl := tbli_15 _ (List.mem_of_getElem? (i := 9) rfl)
theorem ml_MacroExpand_159 : Cond.methodLink R_MacroExpand 159 y_Spelling_lengthOf ∈ tbl := tbli_15 _ (List.mem_of_getElem? (i := 10) rfl)
theorem se_Spelling_lengthOf : Cond.selects R_Spelling y_Spelling_lengthOf y_Spelling_lengthOf ∈ tbl := tbli_15 _ (List.mem_of_getElem? (i := 11) rfl)
theorem cd_Trace_get : Cond.code y_Trace_get b_Trace_get 3 (some .int) ∈ tbl := tbli_15 _ (List.mem_of_getElem? (i := 12) rfl)
theorem im_Trace_get : Cond.instanceMethod y_Trace_get ∈ tbl := tbli_15 _ (List.mem_of_getElem? (i := 13) rfl)
theorem ml_MacroExpand_166 : Cond.methodLink R_MacroExpand 166 y_Trace_get ∈ tbl := tbli_15 _ (List.mem_of_getElem? (i := 14) rfl)
theorem se_Trace_get : Cond.selects R_Trace y_Trace_get y_Trace_get ∈ tbl := tbli_15 _ (List.mem_of_getElem? (i := 15) rfl)
theorem ml_MacroExpand_171 : Cond.methodLink R_MacroExpand 171 y_Input_get ∈ tbl := tbli_15 _ (List.mem_of_getElem? (i := 16) rfl)
theorem ml_MacroExpand_172 : Cond.methodLink R_MacroExpand 172 y_Book_numberOf ∈ tbl := tbli_15 _ (List.mem_of_getElem? (i := 17) rfl)
theorem cd_MacroExpandModel_group : Cond.code y_MacroExpandModel_group b_MacroExpandModel_group 3 (some .int) ∈ tbl := tbli_15 _ (List.mem_of_getElem? (i := 18) rfl)
theorem im_MacroExpandModel_group : Cond.instanceMethod y_MacroExpandModel_group ∈ tbl := tbli_15 _ (List.mem_of_getElem? (i := 19) rfl)
theorem ml_MacroExpandLaw_56 : Cond.methodLink R_MacroExpandLaw 56 y_MacroExpandModel_group ∈ tbl := tbli_15 _ (List.mem_of_getElem? (i := 20) rfl)
theorem se_MacroExpandModel_group : Cond.selects R_MacroExpandModel y_MacroExpandModel_group y_MacroExpandModel_group ∈ tbl := tbli_15 _ (List.mem_of_getElem? (i := 21) rfl)
theorem cd_MacroExpand_group : Cond.code y_MacroExpand_group b_MacroExpand_group 2 (some .int) ∈ tbl := tbli_15 _ (List.mem_of_getElem? (i := 22) rfl)
theorem im_MacroExpand_group : Cond.instanceMethod y_MacroExpand_group ∈ tbl := tbli_15 _ (List.mem_of_getElem? (i := 23) rfl)
theorem ml_MacroExpandLaw_53 : Cond.methodLink R_MacroExpandLaw 53 y_MacroExpand_group ∈ tbl := tbli_15 _ (List.mem_of_getElem? (i := 24) rfl)
theorem se_MacroExpand_group : Cond.selects R_MacroExpand y_MacroExpand_group y_MacroExpand_group ∈ tbl := tbli_15 _ (List.mem_of_getElem? (i := 25) rfl)
theorem cd_MacroExpandModel_expand : Cond.code y_MacroExpandModel_expand b_MacroExpandModel_expand 3 (some .int) ∈ tbl := tbli_15 _ (List.mem_of_getElem? (i := 26) rfl)
theorem im_MacroExpandModel_expand : Cond.instanceMethod y_MacroExpandModel_expand ∈ tbl := tbli_15 _ (List.mem_of_getElem? (i := 27) rfl)
theorem ml_MacroExpandLaw_44 : Cond.methodLink R_MacroExpandLaw 44 y_MacroExpandModel_expand ∈ tbl := tbli_15 _ (List.mem_of_getElem? (i := 28) rfl)
theorem se_MacroExpandModel_expand : Cond.selects R_MacroExpandModel y_MacroExpandModel_expand y_MacroExpandModel_expand ∈ tbl := tbli_15 _ (List.mem_of_getElem? (i := 29) rfl)
theorem cd_MacroExpand_expand : Cond.code y_MacroExpand_expand b_MacroExpand_expand 3 (some .int) ∈ tbl := tbli_15 _ (List.mem_of_getElem? (i := 30) rfl)
theorem im_MacroExpand_expand : Cond.instanceMethod y_MacroExpand_expand ∈ tbl := tbli_15 _ (List.mem_of_getElem? (i := 31) rfl)
theorem ml_MacroExpandLaw_40 : Cond.methodLink R_MacroExpandLaw 40 y_MacroExpand_expand ∈ tbl := tbli_15 _ (List.mem_of_getElem? (i := 32) rfl)
theorem se_MacroExpand_expand : Cond.selects R_MacroExpand y_MacroExpand_expand y_MacroExpand_expand ∈ tbl := tbli_15 _ (List.mem_of_getElem? (i := 33) rfl)
theorem cd_MacroExpand_define : Cond.code y_MacroExpand_define b_MacroExpand_define 4 (some .int) ∈ tbl := tbli_15 _ (List.mem_of_getElem? (i := 34) rfl)
theorem im_MacroExpand_define : Cond.instanceMethod y_MacroExpand_define ∈ tbl := tbli_15 _ (List.mem_of_getElem? (i := 35) rfl)
theorem ml_MacroExpandLaw_21 : Cond.methodLink R_MacroExpandLaw 21 y_MacroExpand_define ∈ tbl := tbli_15 _ (List.mem_of_getElem? (i := 36) rfl)
theorem se_MacroExpand_define : Cond.selects R_MacroExpand y_MacroExpand_define y_MacroExpand_define ∈ tbl := tbli_15 _ (List.mem_of_getElem? (i := 37) rfl)
theorem cd_MacroExpandModel_define : Cond.code y_MacroExpandModel_define b_MacroExpandModel_define 4 (some .int) ∈ tbl := tbli_15 _ (List.mem_of_getElem? (i := 38) rfl)
theorem im_MacroExpandModel_define : Cond.instanceMethod y_MacroExpandModel_define ∈ tbl := tbli_15 _ (List.mem_of_getElem? (i := 39) rfl)
theorem ml_MacroExpandLaw_25 : Cond.methodLink R_MacroExpandLaw 25 y_MacroExpandModel_define ∈ tbl := tbli_15 _ (List.mem_of_getElem? (i := 40) rfl)
theorem se_MacroExpandModel_define : Cond.selects R_MacroExpandModel y_MacroExpandModel_define y_MacroExpandModel_define ∈ tbl := tbli_15 _ (List.mem_of_getElem? (i := 41) rfl)
theorem cd_MacroExpand_body : Cond.code y_MacroExpand_body b_MacroExpand_body 4 (some .int) ∈ tbl := tbli_15 _ (List.mem_of_getElem? (i := 42) rfl)
theorem im_MacroExpand_body : Cond.instanceMethod y_MacroExpand_body ∈ tbl := tbli_15 _ (List.mem_of_getElem? (i := 43) rfl)
theorem ml_MacroExpandLaw_26 : Cond.methodLink R_MacroExpandLaw 26 y_MacroExpand_body ∈ tbl := tbli_15 _ (List.mem_of_getElem? (i := 44) rfl)
theorem se_MacroExpand_body : Cond.selects R_MacroExpand y_MacroExpand_body y_MacroExpand_body ∈ tbl := tbli_15 _ (List.mem_of_getElem? (i := 45) rfl)
theorem cd_MacroExpandModel_body : Cond.code y_MacroExpandModel_body b_MacroExpandModel_body 3 (some .int) ∈ tbl := tbli_15 _ (List.mem_of_getElem? (i := 46) rfl)
theorem im_MacroExpandModel_body : Cond.instanceMethod y_MacroExpandModel_body ∈ tbl := tbli_15 _ (List.mem_of_getElem? (i := 47) rfl)
theorem ml_MacroExpandLaw_30 : Cond.methodLink R_MacroExpandLaw 30 y_MacroExpandModel_body ∈ tbl := tbli_15 _ (List.mem_of_getElem? (i := 48) rfl)
theorem se_MacroExpandModel_body : Cond.selects R_MacroExpandModel y_MacroExpandModel_body y_MacroExpandModel_body ∈ tbl := tbli_15 _ (List.mem_of_getElem? (i := 49) rfl)
theorem cd_MacroExpand_delimiter : Cond.code y_MacroExpand_delimiter b_MacroExpand_delimiter 5 (some .int) ∈ tbl := tbli_16 _ (List.mem_of_getElem? (i := 0) rfl)
theorem im_MacroExpand_delimiter : Cond.instanceMethod y_MacroExpand_delimiter ∈ tbl := tbli_16 _ (List.mem_of_getElem? (i := 1) rfl)
theorem ml_MacroExpandLaw_31 : Cond.methodLink R_MacroExpandLaw 31 y_MacroExpand_delimiter ∈ tbl := tbli_16 _ (List.mem_of_getElem? (i := 2) rfl)
theorem se_MacroExpand_delimiter : Cond.selects R_MacroExpand y_MacroExpand_delimiter y_MacroExpand_delimiter ∈ tbl := tbli_16 _ (List.mem_of_getElem? (i := 3) rfl)
theorem cd_MacroExpandModel_delimiter : Cond.code y_MacroExpandModel_delimiter b_MacroExpandModel_delimiter 5 (some .int) ∈ tbl := tbli_16 _ (List.mem_of_getElem? (i := 4) rfl)
theorem im_MacroExpandModel_delimiter : Cond.instanceMethod y_MacroExpandModel_delimiter ∈ tbl := tbli_16 _ (List.mem_of_getElem? (i := 5) rfl)
theorem ml_MacroExpandLaw_34 : Cond.methodLink R_MacroExpandLaw 34 y_MacroExpandModel_delimiter ∈ tbl := tbli_16 _ (List.mem_of_getElem? (i := 6) rfl)
theorem se_MacroExpandModel_delimiter : Cond.selects R_MacroExpandModel y_MacroExpandModel_delimiter y_MacroExpandModel_delimiter ∈ tbl := tbli_16 _ (List.mem_of_getElem? (i := 7) rfl)
theorem cd_MacroExpand_token : Cond.code y_MacroExpand_token b_MacroExpand_token 2 (some .int) ∈ tbl := tbli_16 _ (List.mem_of_getElem? (i := 8) rfl)
theorem im_MacroExpand_token : Cond.instanceMethod y_MacroExpand_token ∈ tbl := tbli_16 _ (List.mem_of_getElem? (i := 9) rfl)
theorem ml_MacroExpandLaw_35 : Cond.methodLink R_MacroExpandLaw 35 y_MacroExpand_token ∈ tbl := tbli_16 _ (List.mem_of_getElem? (i := 10) rfl)
theorem se_MacroExpand_token : Cond.selects R_MacroExpand y_MacroExpand_token y_MacroExpand_token ∈ tbl := tbli_16 _ (List.mem_of_getElem? (i := 11) rfl)
theorem cd_MacroExpandModel_token : Cond.code y_MacroExpandModel_token b_MacroExpandModel_token 2 (some .int) ∈ tbl := tbli_16 _ (List.mem_of_getElem? (i := 12) rfl)
theorem im_MacroExpandModel_token : Cond.instanceMethod y_MacroExpandModel_token ∈ tbl := tbli_16 _ (List.mem_of_getElem? (i := 13) rfl)
theorem ml_MacroExpandLaw_39 : Cond.methodLink R_MacroExpandLaw 39 y_MacroExpandModel_token ∈ tbl := tbli_16 _ (List.mem_of_getElem? (i := 14) rfl)
theorem se_MacroExpandModel_token : Cond.selects R_MacroExpandModel y_MacroExpandModel_token y_MacroExpandModel_token ∈ tbl := tbli_16 _ (List.mem_of_getElem? (i := 15) rfl)
theorem cd_MacroExpand_at : Cond.code y_MacroExpand_at b_MacroExpand_at 2 (some .int) ∈ tbl := tbli_16 _ (List.mem_of_getElem? (i := 16) rfl)
theorem im_MacroExpand_at : Cond.instanceMethod y_MacroExpand_at ∈ tbl := tbli_16 _ (List.mem_of_getElem? (i := 17) rfl)
theorem ml_MacroExpandLaw_45 : Cond.methodLink R_MacroExpandLaw 45 y_MacroExpand_at ∈ tbl := tbli_16 _ (List.mem_of_getElem? (i := 18) rfl)
theorem se_MacroExpand_at : Cond.selects R_MacroExpand y_MacroExpand_at y_MacroExpand_at ∈ tbl := tbli_16 _ (List.mem_of_getElem? (i := 19) rfl)
theorem cd_MacroExpandModel_at : Cond.code y_MacroExpandModel_at b_MacroExpandModel_at 2 (some .int) ∈ tbl := tbli_16 _ (List.mem_of_getElem? (i := 20) rfl)
theorem im_MacroExpandModel_at : Cond.instanceMethod y_MacroExpandModel_at ∈ tbl := tbli_16 _ (List.mem_of_getElem? (i := 21) rfl)
theorem ml_MacroExpandLaw_48 : Cond.methodLink R_MacroExpandLaw 48 y_MacroExpandModel_at ∈ tbl := tbli_16 _ (List.mem_of_getElem? (i := 22) rfl)
theorem se_MacroExpandModel_at : Cond.selects R_MacroExpandModel y_MacroExpandModel_at y_MacroExpandModel_at ∈ tbl := tbli_16 _ (List.mem_of_getElem? (i := 23) rfl)
theorem cd_MacroExpand_fault : Cond.code y_MacroExpand_fault b_MacroExpand_fault 2 (some .int) ∈ tbl := tbli_16 _ (List.mem_of_getElem? (i := 24) rfl)
theorem im_MacroExpand_fault : Cond.instanceMethod y_MacroExpand_fault ∈ tbl := tbli_16 _ (List.mem_of_getElem? (i := 25) rfl)
theorem ml_MacroExpandLaw_49 : Cond.methodLink R_MacroExpandLaw 49 y_MacroExpand_fault ∈ tbl := tbli_16 _ (List.mem_of_getElem? (i := 26) rfl)
theorem se_MacroExpand_fault : Cond.selects R_MacroExpand y_MacroExpand_fault y_MacroExpand_fault ∈ tbl := tbli_16 _ (List.mem_of_getElem? (i := 27) rfl)
theorem cd_MacroExpandModel_fault : Cond.code y_MacroExpandModel_fault b_MacroExpandModel_fault 2 (some .int) ∈ tbl := tbli_16 _ (List.mem_of_getElem? (i := 28) rfl)
theorem im_MacroExpandModel_fault : Cond.instanceMethod y_MacroExpandModel_fault ∈ tbl := tbli_16 _ (List.mem_of_getElem? (i := 29) rfl)
theorem ml_MacroExpandLaw_52 : Cond.methodLink R_MacroExpandLaw 52 y_MacroExpandModel_fault ∈ tbl := tbli_16 _ (List.mem_of_getElem? (i := 30) rfl)
theorem se_MacroExpandModel_fault : Cond.selects R_MacroExpandModel y_MacroExpandModel_fault y_MacroExpandModel_fault ∈ tbl := tbli_16 _ (List.mem_of_getElem? (i := 31) rfl)
theorem cd_MacroExpand_named : Cond.code y_MacroExpand_named b_MacroExpand_named 2 (some .int) ∈ tbl := tbli_16 _ (List.mem_of_getElem? (i := 32) rfl)
theorem im_MacroExpand_named : Cond.instanceMethod y_MacroExpand_named ∈ tbl := tbli_16 _ (List.mem_of_getElem? (i := 33) rfl)
theorem ml_MacroExpandLaw_57 : Cond.methodLink R_MacroExpandLaw 57 y_MacroExpand_named ∈ tbl := tbli_16 _ (List.mem_of_getElem? (i := 34) rfl)
theorem se_MacroExpand_named : Cond.selects R_MacroExpand y_MacroExpand_named y_MacroExpand_named ∈ tbl := tbli_16 _ (List.mem_of_getElem? (i := 35) rfl)
theorem cd_MacroExpandModel_named : Cond.code y_MacroExpandModel_named b_MacroExpandModel_named 2 (some .int) ∈ tbl := tbli_16 _ (List.mem_of_getElem? (i := 36) rfl)
theorem im_MacroExpandModel_named : Cond.instanceMethod y_MacroExpandModel_named ∈ tbl := tbli_16 _ (List.mem_of_getElem? (i := 37) rfl)
theorem ml_MacroExpandLaw_60 : Cond.methodLink R_MacroExpandLaw 60 y_MacroExpandModel_named ∈ tbl := tbli_16 _ (List.mem_of_getElem? (i := 38) rfl)
theorem se_MacroExpandModel_named : Cond.selects R_MacroExpandModel y_MacroExpandModel_named y_MacroExpandModel_named ∈ tbl := tbli_16 _ (List.mem_of_getElem? (i := 39) rfl)
theorem cd_MacroExpand_traced : Cond.code y_MacroExpand_traced b_MacroExpand_traced 3 (some .int) ∈ tbl := tbli_16 _ (List.mem_of_getElem? (i := 40) rfl)
theorem im_MacroExpand_traced : Cond.instanceMethod y_MacroExpand_traced ∈ tbl := tbli_16 _ (List.mem_of_getElem? (i := 41) rfl)
theorem ml_MacroExpandLaw_61 : Cond.methodLink R_MacroExpandLaw 61 y_MacroExpand_traced ∈ tbl := tbli_16 _ (List.mem_of_getElem? (i := 42) rfl)
theorem se_MacroExpand_traced : Cond.selects R_MacroExpand y_MacroExpand_traced y_MacroExpand_traced ∈ tbl := tbli_16 _ (List.mem_of_getElem? (i := 43) rfl)
theorem cd_MacroExpandModel_traced : Cond.code y_MacroExpandModel_traced b_MacroExpandModel_traced 3 (some .int) ∈ tbl := tbli_16 _ (List.mem_of_getElem? (i := 44) rfl)
theorem im_MacroExpandModel_traced : Cond.instanceMethod y_MacroExpandModel_traced ∈ tbl := tbli_16 _ (List.mem_of_getElem? (i := 45) rfl)
theorem ml_MacroExpandLaw_64 : Cond.methodLink R_MacroExpandLaw 64 y_MacroExpandModel_traced ∈ tbl := tbli_16 _ (List.mem_of_getElem? (i := 46) rfl)
theorem se_MacroExpandModel_traced : Cond.selects R_MacroExpandModel y_MacroExpandModel_traced y_MacroExpandModel_traced ∈ tbl := tbli_16 _ (List.mem_of_getElem? (i := 47) rfl)
theorem cd_MacroExpand_input : Cond.code y_MacroExpand_input b_MacroExpand_input 2 (some .int) ∈ tbl := tbli_16 _ (List.mem_of_getElem? (i := 48) rfl)
theorem im_MacroExpand_input : Cond.instanceMethod y_MacroExpand_input ∈ tbl := tbli_16 _ (List.mem_of_getElem? (i := 49) rfl)
theorem ml_MacroExpandLaw_65 : Cond.methodLink R_MacroExpandLaw 65 y_MacroExpand_input ∈ tbl := tbli_17 _ (List.mem_of_getElem? (i := 0) rfl)
theorem se_MacroExpand_input : Cond.selects R_MacroExpand y_MacroExpand_input y_MacroExpand_input ∈ tbl := tbli_17 _ (List.mem_of_getElem? (i := 1) rfl)
theorem cd_MacroExpandModel_input : Cond.code y_MacroExpandModel_input b_MacroExpandModel_input 2 (some .int) ∈ tbl := tbli_17 _ (List.mem_of_getElem? (i := 2) rfl)
theorem im_MacroExpandModel_input : Cond.instanceMethod y_MacroExpandModel_input ∈ tbl := tbli_17 _ (List.mem_of_getElem? (i := 3) rfl)
theorem ml_MacroExpandLaw_68 : Cond.methodLink R_MacroExpandLaw 68 y_MacroExpandModel_input ∈ tbl := tbli_17 _ (List.mem_of_getElem? (i := 4) rfl)
theorem se_MacroExpandModel_input : Cond.selects R_MacroExpandModel y_MacroExpandModel_input y_MacroExpandModel_input ∈ tbl := tbli_17 _ (List.mem_of_getElem? (i := 5) rfl)
theorem cd_MacroExpand_macro : Cond.code y_MacroExpand_macro b_MacroExpand_macro 2 (some .int) ∈ tbl := tbli_17 _ (List.mem_of_getElem? (i := 6) rfl)
theorem im_MacroExpand_macro : Cond.instanceMethod y_MacroExpand_macro ∈ tbl := tbli_17 _ (List.mem_of_getElem? (i := 7) rfl)
theorem ml_MacroExpandLaw_69 : Cond.methodLink R_MacroExpandLaw 69 y_MacroExpand_macro ∈ tbl := tbli_17 _ (List.mem_of_getElem? (i := 8) rfl)
theorem se_MacroExpand_macro : Cond.selects R_MacroExpand y_MacroExpand_macro y_MacroExpand_macro ∈ tbl := tbli_17 _ (List.mem_of_getElem? (i := 9) rfl)
theorem cd_MacroExpandModel_macro : Cond.code y_MacroExpandModel_macro b_MacroExpandModel_macro 2 (some .int) ∈ tbl := tbli_17 _ (List.mem_of_getElem? (i := 10) rfl)
theorem im_MacroExpandModel_macro : Cond.instanceMethod y_MacroExpandModel_macro ∈ tbl := tbli_17 _ (List.mem_of_getElem? (i := 11) rfl)
theorem ml_MacroExpandLaw_72 : Cond.methodLink R_MacroExpandLaw 72 y_MacroExpandModel_macro ∈ tbl := tbli_17 _ (List.mem_of_getElem? (i := 12) rfl)
theorem se_MacroExpandModel_macro : Cond.selects R_MacroExpandModel y_MacroExpandModel_macro y_MacroExpandModel_macro ∈ tbl := tbli_17 _ (List.mem_of_getElem? (i := 13) rfl)
theorem cl_MacroExpandLaw_7 : Cond.classLink R_MacroExpandLaw 7 R_MacroExpand ∈ tbl := tbli_17 _ (List.mem_of_getElem? (i := 14) rfl)
theorem in_MacroExpand : Cond.instantiable R_MacroExpand 7 ∈ tbl := tbli_17 _ (List.mem_of_getElem? (i := 15) rfl)
theorem cd_MacroExpandLaw_cell : Cond.code y_MacroExpandLaw_cell b_MacroExpandLaw_cell 2 (some .int) ∈ tbl := tbli_17 _ (List.mem_of_getElem? (i := 16) rfl)
theorem it_MacroExpandLaw : Cond.initialized R_MacroExpandLaw ∈ tbl := tbli_17 _ (List.mem_of_getElem? (i := 17) rfl)
theorem sm_MacroExpandLaw_cell : Cond.static y_MacroExpandLaw_cell ∈ tbl := tbli_17 _ (List.mem_of_getElem? (i := 18) rfl)
theorem ml_MacroExpandLaw_9 : Cond.methodLink R_MacroExpandLaw 9 y_MacroExpandLaw_cell ∈ tbl := tbli_17 _ (List.mem_of_getElem? (i := 19) rfl)
theorem cd_MacroExpand_init : Cond.code y_MacroExpand_init b_MacroExpand_init 4 none ∈ tbl := tbli_17 _ (List.mem_of_getElem? (i := 20) rfl)
theorem im_MacroExpand_init : Cond.instanceMethod y_MacroExpand_init ∈ tbl := tbli_17 _ (List.mem_of_getElem? (i := 21) rfl)
theorem ml_MacroExpandLaw_15 : Cond.methodLink R_MacroExpandLaw 15 y_MacroExpand_init ∈ tbl := tbli_17 _ (List.mem_of_getElem? (i := 22) rfl)
theorem cl_MacroExpandLaw_18 : Cond.classLink R_MacroExpandLaw 18 R_MacroExpandModel ∈ tbl := tbli_17 _ (List.mem_of_getElem? (i := 23) rfl)
theorem in_MacroExpandModel : Cond.instantiable R_MacroExpandModel 37 ∈ tbl := tbli_17 _ (List.mem_of_getElem? (i := 24) rfl)
theorem cd_MacroExpandModel_init : Cond.code y_MacroExpandModel_init b_MacroExpandModel_init 4 none ∈ tbl := tbli_17 _ (List.mem_of_getElem? (i := 25) rfl)
theorem im_MacroExpandModel_init : Cond.instanceMethod y_MacroExpandModel_init ∈ tbl := tbli_17 _ (List.mem_of_getElem? (i := 26) rfl)
theorem ml_MacroExpandLaw_20 : Cond.methodLink R_MacroExpandLaw 20 y_MacroExpandModel_init ∈ tbl := tbli_17 _ (List.mem_of_getElem? (i := 27) rfl)
theorem k_objinst : Cond.instanceMethod objectInit ∈ tbl := tbli_1 _ (List.mem_of_getElem? (i := 47) rfl)
theorem k_objcode : Cond.code objectInit object_method_1_code 1 none ∈ tbl := tbli_1 _ (List.mem_of_getElem? (i := 48) rfl)
theorem i_MacroExpand : ∀ w ∈ u_ws R_MacroExpand F_MacroExpand 7, w ∈ tbl := by
  intro w hw
  obtain ⟨k, hk, rfl⟩ := List.mem_map.mp hw
  have hk := List.mem_range.mp hk
  match k, hk with
  | 0, _ => exact tbli_0 _ (List.mem_of_getElem? (i := 0) rfl)
  | 1, _ => exact tbli_0 _ (List.mem_of_getElem? (i := 1) rfl)
  | 2, _ => exact tbli_0 _ (List.mem_of_getElem? (i := 2) rfl)
  | 3, _ => exact tbli_0 _ (List.mem_of_getElem? (i := 3) rfl)
  | 4, _ => exact tbli_0 _ (List.mem_of_getElem? (i := 4) rfl)
  | 5, _ => exact tbli_0 _ (List.mem_of_getElem? (i := 5) rfl)
  | 6, _ => exact tbli_0 _ (List.mem_of_getElem? (i := 6) rfl)
  | k + 7, hk => exact absurd hk (by omega)
theorem i_MacroExpandModel : ∀ w ∈ u_ws R_MacroExpandModel F_MacroExpandModel 37, w ∈ tbl := by
  intro w hw
  obtain ⟨k, hk, rfl⟩ := List.mem_map.mp hw
  have hk := List.mem_range.mp hk
  match k, hk with
  | 0, _ => exact tbli_0 _ (List.mem_of_getElem? (i := 7) rfl)
  | 1, _ => exact tbli_0 _ (List.mem_of_getElem? (i := 8) rfl)
  | 2, _ => exact tbli_0 _ (List.mem_of_getElem? (i := 9) rfl)
  | 3, _ => exact tbli_0 _ (List.mem_of_getElem? (i := 10) rfl)
  | 4, _ => exact tbli_0 _ (List.mem_of_getElem? (i := 11) rfl)
  | 5, _ => exact tbli_0 _ (List.mem_of_getElem? (i := 12) rfl)
  | 6, _ => exact tbli_0 _ (List.mem_of_getElem? (i := 13) rfl)
  | 7, _ => exact tbli_0 _ (List.mem_of_getElem? (i := 14) rfl)
  | 8, _ => exact tbli_0 _ (List.mem_of_getElem? (i := 15) rfl)
  | 9, _ => exact tbli_0 _ (List.mem_of_getElem? (i := 16) rfl)
  | 10, _ => exact tbli_0 _ (List.mem_of_getElem? (i := 17) rfl)
  | 11, _ => exact tbli_0 _ (List.mem_of_getElem? (i := 18) rfl)
  | 12, _ => exact tbli_0 _ (List.mem_of_getElem? (i := 19) rfl)
  | 13, _ => exact tbli_0 _ (List.mem_of_getElem? (i := 20) rfl)
  | 14, _ => exact tbli_0 _ (List.mem_of_getElem? (i := 21) rfl)
  | 15, _ => exact tbli_0 _ (List.mem_of_getElem? (i := 22) rfl)
  | 16, _ => exact tbli_0 _ (List.mem_of_getElem? (i := 23) rfl)
  | 17, _ => exact tbli_0 _ (List.mem_of_getElem? (i := 24) rfl)
  | 18, _ => exact tbli_0 _ (List.mem_of_getElem? (i := 25) rfl)
  | 19, _ => exact tbli_0 _ (List.mem_of_getElem? (i := 26) rfl)
  | 20, _ => exact tbli_0 _ (List.mem_of_getElem? (i := 27) rfl)
  | 21, _ => exact tbli_0 _ (List.mem_of_getElem? (i := 28) rfl)
  | 22, _ => exact tbli_0 _ (List.mem_of_getElem? (i := 29) rfl)
  | 23, _ => exact tbli_0 _ (List.mem_of_getElem? (i := 30) rfl)
  | 24, _ => exact tbli_0 _ (List.mem_of_getElem? (i := 31) rfl)
  | 25, _ => exact tbli_0 _ (List.mem_of_getElem? (i := 32) rfl)
  | 26, _ => exact tbli_0 _ (List.mem_of_getElem? (i := 33) rfl)
  | 27, _ => exact tbli_0 _ (List.mem_of_getElem? (i := 34) rfl)
  | 28, _ => exact tbli_0 _ (List.mem_of_getElem? (i := 35) rfl)
  | 29, _ => exact tbli_0 _ (List.mem_of_getElem? (i := 36) rfl)
  | 30, _ => exact tbli_0 _ (List.mem_of_getElem? (i := 37) rfl)
  | 31, _ => exact tbli_0 _ (List.mem_of_getElem? (i := 38) rfl)
  | 32, _ => exact tbli_0 _ (List.mem_of_getElem? (i := 39) rfl)
  | 33, _ => exact tbli_0 _ (List.mem_of_getElem? (i := 40) rfl)
  | 34, _ => exact tbli_0 _ (List.mem_of_getElem? (i := 41) rfl)
  | 35, _ => exact tbli_0 _ (List.mem_of_getElem? (i := 42) rfl)
  | 36, _ => exact tbli_0 _ (List.mem_of_getElem? (i := 43) rfl)
  | k + 37, hk => exact absurd hk (by omega)
theorem i_Arguments : ∀ w ∈ u_ws R_Arguments F_Arguments 3, w ∈ tbl := by
  intro w hw
  obtain ⟨k, hk, rfl⟩ := List.mem_map.mp hw
  have hk := List.mem_range.mp hk
  match k, hk with
  | 0, _ => exact tbli_0 _ (List.mem_of_getElem? (i := 44) rfl)
  | 1, _ => exact tbli_0 _ (List.mem_of_getElem? (i := 45) rfl)
  | 2, _ => exact tbli_0 _ (List.mem_of_getElem? (i := 46) rfl)
  | k + 3, hk => exact absurd hk (by omega)
theorem i_Book : ∀ w ∈ u_ws R_Book F_Book 5, w ∈ tbl := by
  intro w hw
  obtain ⟨k, hk, rfl⟩ := List.mem_map.mp hw
  have hk := List.mem_range.mp hk
  match k, hk with
  | 0, _ => exact tbli_0 _ (List.mem_of_getElem? (i := 47) rfl)
  | 1, _ => exact tbli_0 _ (List.mem_of_getElem? (i := 48) rfl)
  | 2, _ => exact tbli_0 _ (List.mem_of_getElem? (i := 49) rfl)
  | 3, _ => exact tbli_1 _ (List.mem_of_getElem? (i := 0) rfl)
  | 4, _ => exact tbli_1 _ (List.mem_of_getElem? (i := 1) rfl)
  | k + 5, hk => exact absurd hk (by omega)
theorem i_Definition : ∀ w ∈ u_ws R_Definition F_Definition 7, w ∈ tbl := by
  intro w hw
  obtain ⟨k, hk, rfl⟩ := List.mem_map.mp hw
  have hk := List.mem_range.mp hk
  match k, hk with
  | 0, _ => exact tbli_1 _ (List.mem_of_getElem? (i := 2) rfl)
  | 1, _ => exact tbli_1 _ (List.mem_of_getElem? (i := 3) rfl)
  | 2, _ => exact tbli_1 _ (List.mem_of_getElem? (i := 4) rfl)
  | 3, _ => exact tbli_1 _ (List.mem_of_getElem? (i := 5) rfl)
  | 4, _ => exact tbli_1 _ (List.mem_of_getElem? (i := 6) rfl)
  | 5, _ => exact tbli_1 _ (List.mem_of_getElem? (i := 7) rfl)
  | 6, _ => exact tbli_1 _ (List.mem_of_getElem? (i := 8) rfl)
  | k + 7, hk => exact absurd hk (by omega)
theorem i_Expander : ∀ w ∈ u_ws R_Expander F_Expander 14, w ∈ tbl := by
  intro w hw
  obtain ⟨k, hk, rfl⟩ := List.mem_map.mp hw
  have hk := List.mem_range.mp hk
  match k, hk with
  | 0, _ => exact tbli_1 _ (List.mem_of_getElem? (i := 9) rfl)
  | 1, _ => exact tbli_1 _ (List.mem_of_getElem? (i := 10) rfl)
  | 2, _ => exact tbli_1 _ (List.mem_of_getElem? (i := 11) rfl)
  | 3, _ => exact tbli_1 _ (List.mem_of_getElem? (i := 12) rfl)
  | 4, _ => exact tbli_1 _ (List.mem_of_getElem? (i := 13) rfl)
  | 5, _ => exact tbli_1 _ (List.mem_of_getElem? (i := 14) rfl)
  | 6, _ => exact tbli_1 _ (List.mem_of_getElem? (i := 15) rfl)
  | 7, _ => exact tbli_1 _ (List.mem_of_getElem? (i := 16) rfl)
  | 8, _ => exact tbli_1 _ (List.mem_of_getElem? (i := 17) rfl)
  | 9, _ => exact tbli_1 _ (List.mem_of_getElem? (i := 18) rfl)
  | 10, _ => exact tbli_1 _ (List.mem_of_getElem? (i := 19) rfl)
  | 11, _ => exact tbli_1 _ (List.mem_of_getElem? (i := 20) rfl)
  | 12, _ => exact tbli_1 _ (List.mem_of_getElem? (i := 21) rfl)
  | 13, _ => exact tbli_1 _ (List.mem_of_getElem? (i := 22) rfl)
  | k + 14, hk => exact absurd hk (by omega)
theorem i_Input : ∀ w ∈ u_ws R_Input F_Input 2, w ∈ tbl := by
  intro w hw
  obtain ⟨k, hk, rfl⟩ := List.mem_map.mp hw
  have hk := List.mem_range.mp hk
  match k, hk with
  | 0, _ => exact tbli_1 _ (List.mem_of_getElem? (i := 23) rfl)
  | 1, _ => exact tbli_1 _ (List.mem_of_getElem? (i := 24) rfl)
  | k + 2, hk => exact absurd hk (by omega)
theorem i_Macro : ∀ w ∈ u_ws R_Macro F_Macro 5, w ∈ tbl := by
  intro w hw
  obtain ⟨k, hk, rfl⟩ := List.mem_map.mp hw
  have hk := List.mem_range.mp hk
  match k, hk with
  | 0, _ => exact tbli_1 _ (List.mem_of_getElem? (i := 25) rfl)
  | 1, _ => exact tbli_1 _ (List.mem_of_getElem? (i := 26) rfl)
  | 2, _ => exact tbli_1 _ (List.mem_of_getElem? (i := 27) rfl)
  | 3, _ => exact tbli_1 _ (List.mem_of_getElem? (i := 28) rfl)
  | 4, _ => exact tbli_1 _ (List.mem_of_getElem? (i := 29) rfl)
  | k + 5, hk => exact absurd hk (by omega)
theorem i_Row : ∀ w ∈ u_ws R_Row F_Row 3, w ∈ tbl := by
  intro w hw
  obtain ⟨k, hk, rfl⟩ := List.mem_map.mp hw
  have hk := List.mem_range.mp hk
  match k, hk with
  | 0, _ => exact tbli_1 _ (List.mem_of_getElem? (i := 30) rfl)
  | 1, _ => exact tbli_1 _ (List.mem_of_getElem? (i := 31) rfl)
  | 2, _ => exact tbli_1 _ (List.mem_of_getElem? (i := 32) rfl)
  | k + 3, hk => exact absurd hk (by omega)
theorem i_Spelling : ∀ w ∈ u_ws R_Spelling F_Spelling 3, w ∈ tbl := by
  intro w hw
  obtain ⟨k, hk, rfl⟩ := List.mem_map.mp hw
  have hk := List.mem_range.mp hk
  match k, hk with
  | 0, _ => exact tbli_1 _ (List.mem_of_getElem? (i := 33) rfl)
  | 1, _ => exact tbli_1 _ (List.mem_of_getElem? (i := 34) rfl)
  | 2, _ => exact tbli_1 _ (List.mem_of_getElem? (i := 35) rfl)
  | k + 3, hk => exact absurd hk (by omega)
theorem i_Trace : ∀ w ∈ u_ws R_Trace F_Trace 4, w ∈ tbl := by
  intro w hw
  obtain ⟨k, hk, rfl⟩ := List.mem_map.mp hw
  have hk := List.mem_range.mp hk
  match k, hk with
  | 0, _ => exact tbli_1 _ (List.mem_of_getElem? (i := 36) rfl)
  | 1, _ => exact tbli_1 _ (List.mem_of_getElem? (i := 37) rfl)
  | 2, _ => exact tbli_1 _ (List.mem_of_getElem? (i := 38) rfl)
  | 3, _ => exact tbli_1 _ (List.mem_of_getElem? (i := 39) rfl)
  | k + 4, hk => exact absurd hk (by omega)
theorem i_Whole : ∀ w ∈ u_ws R_Whole F_Whole 7, w ∈ tbl := by
  intro w hw
  obtain ⟨k, hk, rfl⟩ := List.mem_map.mp hw
  have hk := List.mem_range.mp hk
  match k, hk with
  | 0, _ => exact tbli_1 _ (List.mem_of_getElem? (i := 40) rfl)
  | 1, _ => exact tbli_1 _ (List.mem_of_getElem? (i := 41) rfl)
  | 2, _ => exact tbli_1 _ (List.mem_of_getElem? (i := 42) rfl)
  | 3, _ => exact tbli_1 _ (List.mem_of_getElem? (i := 43) rfl)
  | 4, _ => exact tbli_1 _ (List.mem_of_getElem? (i := 44) rfl)
  | 5, _ => exact tbli_1 _ (List.mem_of_getElem? (i := 45) rfl)
  | 6, _ => exact tbli_1 _ (List.mem_of_getElem? (i := 46) rfl)
  | k + 7, hk => exact absurd hk (by omega)
theorem h_in3 {a b c : Cond} (ha : a ∈ tbl) (hb : b ∈ tbl) (hc : c ∈ tbl) : ∀ w ∈ [a, b, c], w ∈ tbl := by
  intro w hw
  simp only [List.mem_cons, List.not_mem_nil, or_false] at hw
  rcases hw with rfl | rfl | rfl <;> assumption
theorem h_in4 {a b c d : Cond} (ha : a ∈ tbl) (hb : b ∈ tbl) (hc : c ∈ tbl) (hd : d ∈ tbl) : ∀ w ∈ [a, b, c, d], w ∈ tbl := by
  intro w hw
  simp only [List.mem_cons, List.not_mem_nil, or_false] at hw
  rcases hw with rfl | rfl | rfl | rfl <;> assumption
def nests : List Cond := [.castable "[I" "java/lang/Cloneable", .fieldLinkNest R_MacroExpand 137 R_Row "size" "I" R_MacroExpand, .fieldLinkNest R_MacroExpand 89 R_Macro "text" "LMacroExpand$Row;" R_MacroExpand, .fieldLinkNest R_MacroExpand 97 R_Macro "arguments" "I" R_MacroExpand, .fieldLinkNest R_MacroExpand 112 R_Input "size" "I" R_MacroExpand, .fieldLinkNest R_Expander 115 R_Input "size" "I" R_MacroExpand, .fieldLinkNest R_Book 47 R_Macro "isOuter" "Z" R_MacroExpand, .fieldLinkNest R_Arguments 41 R_Row "size" "I" R_MacroExpand, .fieldLinkNest R_Arguments 94 R_Macro "isLong" "Z" R_MacroExpand, .fieldLinkNest R_Input 19 R_Row "size" "I" R_MacroExpand, .fieldLinkNest R_Expander 181 R_Macro "text" "LMacroExpand$Row;" R_MacroExpand, .fieldLinkNest R_Expander 156 R_Row "size" "I" R_MacroExpand, .fieldLinkNest R_Expander 154 R_Macro "arguments" "I" R_MacroExpand, .fieldLinkNest R_Definition 105 R_Macro "text" "LMacroExpand$Row;" R_MacroExpand, .fieldLinkNest R_Whole 108 R_Definition "name" "I" R_MacroExpand, .fieldLinkNest R_Whole 111 R_Expander "nameAtWork" "I" R_MacroExpand, .fieldLinkNest R_MacroExpand 134 R_Whole "output" "LMacroExpand$Row;" R_MacroExpand, .fieldLinkNest R_MacroExpand 128 R_Expander "nameAtWork" "I" R_MacroExpand, .fieldLinkNest R_MacroExpand 144 R_Expander "steps" "I" R_MacroExpand, .fieldLinkNest R_MacroExpand 150 R_Book "groups" "I" R_MacroExpand, .fieldLinkNest R_MacroExpand 156 R_Spelling "count" "I" R_MacroExpand, .fieldLinkNest R_MacroExpand 162 R_Expander "trace" "LMacroExpand$Trace;" R_MacroExpand]
theorem nc_clone : Cond.castable "[I" "java/lang/Cloneable" ∈ nests := List.mem_of_getElem? (i := 0) rfl
theorem nf_MacroExpand_137 : Cond.fieldLinkNest R_MacroExpand 137 R_Row "size" "I" R_MacroExpand ∈ nests := List.mem_of_getElem? (i := 1) rfl
theorem nf_MacroExpand_89 : Cond.fieldLinkNest R_MacroExpand 89 R_Macro "text" "LMacroExpand$Row;" R_MacroExpand ∈ nests := List.mem_of_getElem? (i := 2) rfl
theorem nf_MacroExpand_97 : Cond.fieldLinkNest R_MacroExpand 97 R_Macro "arguments" "I" R_MacroExpand ∈ nests := List.mem_of_getElem? (i := 3) rfl
theorem nf_MacroExpand_112 : Cond.fieldLinkNest R_MacroExpand 112 R_Input "size" "I" R_MacroExpand ∈ nests := List.mem_of_getElem? (i := 4) rfl
theorem nf_Expander_115 : Cond.fieldLinkNest R_Expander 115 R_Input "size" "I" R_MacroExpand ∈ nests := List.mem_of_getElem? (i := 5) rfl
theorem nf_Book_47 : Cond.fieldLinkNest R_Book 47 R_Macro "isOuter" "Z" R_MacroExpand ∈ nests := List.mem_of_getElem? (i := 6) rfl
theorem nf_Arguments_41 : Cond.fieldLinkNest R_Arguments 41 R_Row "size" "I" R_MacroExpand ∈ nests := List.mem_of_getElem? (i := 7) rfl
theorem nf_Arguments_94 : Cond.fieldLinkNest R_Arguments 94 R_Macro "isLong" "Z" R_MacroExpand ∈ nests := List.mem_of_getElem? (i := 8) rfl
theorem nf_Input_19 : Cond.fieldLinkNest R_Input 19 R_Row "size" "I" R_MacroExpand ∈ nests := List.mem_of_getElem? (i := 9) rfl
theorem nf_Expander_181 : Cond.fieldLinkNest R_Expander 181 R_Macro "text" "LMacroExpand$Row;" R_MacroExpand ∈ nests := List.mem_of_getElem? (i := 10) rfl
theorem nf_Expander_156 : Cond.fieldLinkNest R_Expander 156 R_Row "size" "I" R_MacroExpand ∈ nests := List.mem_of_getElem? (i := 11) rfl
theorem nf_Expander_154 : Cond.fieldLinkNest R_Expander 154 R_Macro "arguments" "I" R_MacroExpand ∈ nests := List.mem_of_getElem? (i := 12) rfl
theorem nf_Definition_105 : Cond.fieldLinkNest R_Definition 105 R_Macro "text" "LMacroExpand$Row;" R_MacroExpand ∈ nests := List.mem_of_getElem? (i := 13) rfl
theorem nf_Whole_108 : Cond.fieldLinkNest R_Whole 108 R_Definition "name" "I" R_MacroExpand ∈ nests := List.mem_of_getElem? (i := 14) rfl
theorem nf_Whole_111 : Cond.fieldLinkNest R_Whole 111 R_Expander "nameAtWork" "I" R_MacroExpand ∈ nests := List.mem_of_getElem? (i := 15) rfl
theorem nf_MacroExpand_134 : Cond.fieldLinkNest R_MacroExpand 134 R_Whole "output" "LMacroExpand$Row;" R_MacroExpand ∈ nests := List.mem_of_getElem? (i := 16) rfl
theorem nf_MacroExpand_128 : Cond.fieldLinkNest R_MacroExpand 128 R_Expander "nameAtWork" "I" R_MacroExpand ∈ nests := List.mem_of_getElem? (i := 17) rfl
theorem nf_MacroExpand_144 : Cond.fieldLinkNest R_MacroExpand 144 R_Expander "steps" "I" R_MacroExpand ∈ nests := List.mem_of_getElem? (i := 18) rfl
theorem nf_MacroExpand_150 : Cond.fieldLinkNest R_MacroExpand 150 R_Book "groups" "I" R_MacroExpand ∈ nests := List.mem_of_getElem? (i := 19) rfl
theorem nf_MacroExpand_156 : Cond.fieldLinkNest R_MacroExpand 156 R_Spelling "count" "I" R_MacroExpand ∈ nests := List.mem_of_getElem? (i := 20) rfl
theorem nf_MacroExpand_162 : Cond.fieldLinkNest R_MacroExpand 162 R_Expander "trace" "LMacroExpand$Trace;" R_MacroExpand ∈ nests := List.mem_of_getElem? (i := 21) rfl
def aocls : List String := [R_Macro, R_Row]
theorem ao_0 : R_Macro ∈ aocls := by decide +kernel
theorem ao_1 : R_Row ∈ aocls := by decide +kernel
def w_Arrays_fill : List Cond := .code y_Arrays_fill b_Arrays_fill 4 none :: tbl
def w_Arrays_copyOf : List Cond := .code y_Arrays_copyOf b_Arrays_copyOf 3 (some (.array .int)) :: tbl
def w_MacroExpand_init : List Cond := .code y_MacroExpand_init b_MacroExpand_init 4 none :: tbl
def w_MacroExpand_define : List Cond := .code y_MacroExpand_define b_MacroExpand_define 4 (some .int) :: tbl
def w_MacroExpand_body : List Cond := .code y_MacroExpand_body b_MacroExpand_body 4 (some .int) :: tbl
def w_MacroExpand_delimiter : List Cond := .code y_MacroExpand_delimiter b_MacroExpand_delimiter 5 (some .int) :: tbl
def w_MacroExpand_token : List Cond := .code y_MacroExpand_token b_MacroExpand_token 2 (some .int) :: tbl
def w_MacroExpand_expand : List Cond := .code y_MacroExpand_expand b_MacroExpand_expand 3 (some .int) :: tbl
def w_MacroExpand_at : List Cond := .code y_MacroExpand_at b_MacroExpand_at 2 (some .int) :: tbl
def w_MacroExpand_fault : List Cond := .code y_MacroExpand_fault b_MacroExpand_fault 2 (some .int) :: tbl
def w_MacroExpand_group : List Cond := .code y_MacroExpand_group b_MacroExpand_group 2 (some .int) :: tbl
def w_MacroExpand_named : List Cond := .code y_MacroExpand_named b_MacroExpand_named 2 (some .int) :: tbl
def w_MacroExpand_traced : List Cond := .code y_MacroExpand_traced b_MacroExpand_traced 3 (some .int) :: tbl
def w_MacroExpand_input : List Cond := .code y_MacroExpand_input b_MacroExpand_input 2 (some .int) :: tbl
def w_MacroExpand_macro : List Cond := .code y_MacroExpand_macro b_MacroExpand_macro 2 (some .int) :: tbl
def w_MacroExpand_oneMore : List Cond := .code y_MacroExpand_oneMore b_MacroExpand_oneMore 2 (some .int) :: tbl
def w_MacroExpandModel_init : List Cond := .code y_MacroExpandModel_init b_MacroExpandModel_init 4 none :: tbl
def w_MacroExpandModel_in : List Cond := .code y_MacroExpandModel_in b_MacroExpandModel_in 3 (some .boolean) :: tbl
def w_MacroExpandModel_isName : List Cond := .code y_MacroExpandModel_isName b_MacroExpandModel_isName 1 (some .boolean) :: tbl
def w_MacroExpandModel_isParameter : List Cond := .code y_MacroExpandModel_isParameter b_MacroExpandModel_isParameter 1 (some .boolean) :: tbl
def w_MacroExpandModel_isToken : List Cond := .code y_MacroExpandModel_isToken b_MacroExpandModel_isToken 1 (some .boolean) :: tbl
def w_MacroExpandModel_newMacro : List Cond := .code y_MacroExpandModel_newMacro b_MacroExpandModel_newMacro 6 (some .int) :: tbl
def w_MacroExpandModel_define : List Cond := .code y_MacroExpandModel_define b_MacroExpandModel_define 4 (some .int) :: tbl
def w_MacroExpandModel_body : List Cond := .code y_MacroExpandModel_body b_MacroExpandModel_body 3 (some .int) :: tbl
def w_MacroExpandModel_delimiter : List Cond := .code y_MacroExpandModel_delimiter b_MacroExpandModel_delimiter 5 (some .int) :: tbl
def w_MacroExpandModel_token : List Cond := .code y_MacroExpandModel_token b_MacroExpandModel_token 2 (some .int) :: tbl
def w_MacroExpandModel_group : List Cond := .code y_MacroExpandModel_group b_MacroExpandModel_group 3 (some .int) :: tbl
def w_MacroExpandModel_get : List Cond := .code y_MacroExpandModel_get b_MacroExpandModel_get 2 (some .int) :: tbl
def w_MacroExpandModel_mark : List Cond := .code y_MacroExpandModel_mark b_MacroExpandModel_mark 2 none :: tbl
def w_MacroExpandModel_take : List Cond := .code y_MacroExpandModel_take b_MacroExpandModel_take 4 none :: tbl
def w_MacroExpandModel_spread : List Cond := .code y_MacroExpandModel_spread b_MacroExpandModel_spread 4 none :: tbl
def w_MacroExpandModel_set : List Cond := .code y_MacroExpandModel_set b_MacroExpandModel_set 3 none :: tbl
def w_MacroExpandModel_macroAt : List Cond := .code y_MacroExpandModel_macroAt b_MacroExpandModel_macroAt 2 (some .int) :: tbl
def w_MacroExpandModel_canBeExpanded : List Cond := .code y_MacroExpandModel_canBeExpanded b_MacroExpandModel_canBeExpanded 2 (some .boolean) :: tbl
def w_MacroExpandModel_isThere : List Cond := .code y_MacroExpandModel_isThere b_MacroExpandModel_isThere 4 (some .boolean) :: tbl
def w_MacroExpandModel_rowComes : List Cond := .code y_MacroExpandModel_rowComes b_MacroExpandModel_rowComes 5 (some .boolean) :: tbl
def w_MacroExpandModel_give : List Cond := .code y_MacroExpandModel_give b_MacroExpandModel_give 3 none :: tbl
def w_MacroExpandModel_plain : List Cond := .code y_MacroExpandModel_plain b_MacroExpandModel_plain 6 (some .int) :: tbl
def w_MacroExpandModel_delimited : List Cond := .code y_MacroExpandModel_delimited b_MacroExpandModel_delimited 9 (some .int) :: tbl
def w_MacroExpandModel_comes : List Cond := .code y_MacroExpandModel_comes b_MacroExpandModel_comes 6 (some .int) :: tbl
def w_MacroExpandModel_passed : List Cond := .code y_MacroExpandModel_passed b_MacroExpandModel_passed 3 (some .int) :: tbl
def w_MacroExpandModel_expandName : List Cond := .code y_MacroExpandModel_expandName b_MacroExpandModel_expandName 14 none :: tbl
def w_MacroExpandModel_nameOf : List Cond := .code y_MacroExpandModel_nameOf b_MacroExpandModel_nameOf 6 (some .int) :: tbl
def w_MacroExpandModel_start : List Cond := .code y_MacroExpandModel_start b_MacroExpandModel_start 5 none :: tbl
def w_MacroExpandModel_pile : List Cond := .code y_MacroExpandModel_pile b_MacroExpandModel_pile 3 none :: tbl
def w_MacroExpandModel_goOn : List Cond := .code y_MacroExpandModel_goOn b_MacroExpandModel_goOn 8 none :: tbl
def w_MacroExpandModel_expandAt : List Cond := .code y_MacroExpandModel_expandAt b_MacroExpandModel_expandAt 2 none :: tbl
def w_MacroExpandModel_begin : List Cond := .code y_MacroExpandModel_begin b_MacroExpandModel_begin 1 none :: tbl
def w_MacroExpandModel_defines : List Cond := .code y_MacroExpandModel_defines b_MacroExpandModel_defines 10 none :: tbl
def w_MacroExpandModel_carryOut : List Cond := .code y_MacroExpandModel_carryOut b_MacroExpandModel_carryOut 2 none :: tbl
def w_MacroExpandModel_ended : List Cond := .code y_MacroExpandModel_ended b_MacroExpandModel_ended 2 (some .int) :: tbl
def w_MacroExpandModel_expand : List Cond := .code y_MacroExpandModel_expand b_MacroExpandModel_expand 3 (some .int) :: tbl
def w_MacroExpandModel_at : List Cond := .code y_MacroExpandModel_at b_MacroExpandModel_at 2 (some .int) :: tbl
def w_MacroExpandModel_fault : List Cond := .code y_MacroExpandModel_fault b_MacroExpandModel_fault 2 (some .int) :: tbl
def w_MacroExpandModel_named : List Cond := .code y_MacroExpandModel_named b_MacroExpandModel_named 2 (some .int) :: tbl
def w_MacroExpandModel_traced : List Cond := .code y_MacroExpandModel_traced b_MacroExpandModel_traced 3 (some .int) :: tbl
def w_MacroExpandModel_input : List Cond := .code y_MacroExpandModel_input b_MacroExpandModel_input 2 (some .int) :: tbl
def w_MacroExpandModel_macro : List Cond := .code y_MacroExpandModel_macro b_MacroExpandModel_macro 2 (some .int) :: tbl
def w_Arguments_init : List Cond := .code y_Arguments_init b_Arguments_init 4 none :: tbl
def w_Arguments_argument : List Cond := .code y_Arguments_argument b_Arguments_argument 2 (some (.object "MacroExpand$Row")) :: tbl
def w_Arguments_sizeOfAll : List Cond := .code y_Arguments_sizeOfAll b_Arguments_sizeOfAll 4 (some .int) :: tbl
def w_Arguments_readRow : List Cond := .code y_Arguments_readRow b_Arguments_readRow 4 (some .int) :: tbl
def w_Arguments_readNext : List Cond := .code y_Arguments_readNext b_Arguments_readNext 8 (some .int) :: tbl
def w_Arguments_readUpTo : List Cond := .code y_Arguments_readUpTo b_Arguments_readUpTo 8 (some .int) :: tbl
def w_Arguments_isForbidden : List Cond := .code y_Arguments_isForbidden b_Arguments_isForbidden 3 (some .boolean) :: tbl
def w_Book_init : List Cond := .code y_Book_init b_Book_init 1 none :: tbl
def w_Book_isFull : List Cond := .code y_Book_isFull b_Book_isFull 1 (some .boolean) :: tbl
def w_Book_numbered : List Cond := .code y_Book_numbered b_Book_numbered 2 (some (.object "MacroExpand$Macro")) :: tbl
def w_Book_numberOf : List Cond := .code y_Book_numberOf b_Book_numberOf 2 (some .int) :: tbl
def w_Book_macroOf : List Cond := .code y_Book_macroOf b_Book_macroOf 2 (some (.object "MacroExpand$Macro")) :: tbl
def w_Book_isOuter : List Cond := .code y_Book_isOuter b_Book_isOuter 5 (some .boolean) :: tbl
def w_Book_enter : List Cond := .code y_Book_enter b_Book_enter 6 (some .int) :: tbl
def w_Book_openGroup : List Cond := .code y_Book_openGroup b_Book_openGroup 1 (some .boolean) :: tbl
def w_Book_closeGroup : List Cond := .code y_Book_closeGroup b_Book_closeGroup 1 (some .boolean) :: tbl
def w_Definition_init : List Cond := .code y_Definition_init b_Definition_init 2 none :: tbl
def w_Definition_begin : List Cond := .code y_Definition_begin b_Definition_begin 3 none :: tbl
def w_Definition_leave : List Cond := .code y_Definition_leave b_Definition_leave 1 none :: tbl
def w_Definition_isUnderWay : List Cond := .code y_Definition_isUnderWay b_Definition_isUnderWay 1 (some .boolean) :: tbl
def w_Definition_isRead : List Cond := .code y_Definition_isRead b_Definition_isRead 1 (some .boolean) :: tbl
def w_Definition_takesTokensAsTheyAre : List Cond := .code y_Definition_takesTokensAsTheyAre b_Definition_takesTokensAsTheyAre 1 (some .boolean) :: tbl
def w_Definition_accept : List Cond := .code y_Definition_accept b_Definition_accept 2 (some .int) :: tbl
def w_Definition_acceptName : List Cond := .code y_Definition_acceptName b_Definition_acceptName 2 (some .int) :: tbl
def w_Definition_acceptInRows : List Cond := .code y_Definition_acceptInRows b_Definition_acceptInRows 2 (some .int) :: tbl
def w_Definition_acceptInText : List Cond := .code y_Definition_acceptInText b_Definition_acceptInText 2 (some .int) :: tbl
def w_Definition_addTo : List Cond := .code y_Definition_addTo b_Definition_addTo 2 (some .int) :: tbl
def w_Definition_toMacro : List Cond := .code y_Definition_toMacro b_Definition_toMacro 4 (some (.object "MacroExpand$Macro")) :: tbl
def w_Expander_init : List Cond := .code y_Expander_init b_Expander_init 5 none :: tbl
def w_Expander_begin : List Cond := .code y_Expander_begin b_Expander_begin 1 none :: tbl
def w_Expander_canExpand : List Cond := .code y_Expander_canExpand b_Expander_canExpand 2 (some .boolean) :: tbl
def w_Expander_takeFirst : List Cond := .code y_Expander_takeFirst b_Expander_takeFirst 1 (some .int) :: tbl
def w_Expander_expandOnce : List Cond := .code y_Expander_expandOnce b_Expander_expandOnce 5 (some .int) :: tbl
def w_Expander_expandFirst : List Cond := .code y_Expander_expandFirst b_Expander_expandFirst 3 (some .int) :: tbl
def w_Expander_beginAfter : List Cond := .code y_Expander_beginAfter b_Expander_beginAfter 1 (some .int) :: tbl
def w_Expander_putBack : List Cond := .code y_Expander_putBack b_Expander_putBack 1 (some .int) :: tbl
def w_Expander_beginNaming : List Cond := .code y_Expander_beginNaming b_Expander_beginNaming 1 (some .int) :: tbl
def w_Expander_goOnNaming : List Cond := .code y_Expander_goOnNaming b_Expander_goOnNaming 4 (some .int) :: tbl
def w_Expander_endNaming : List Cond := .code y_Expander_endNaming b_Expander_endNaming 4 (some .int) :: tbl
def w_Expander_expandName : List Cond := .code y_Expander_expandName b_Expander_expandName 7 (some .int) :: tbl
def w_Expander_sizeOfText : List Cond := .code y_Expander_sizeOfText b_Expander_sizeOfText 5 (some .int) :: tbl
def w_Expander_putText : List Cond := .code y_Expander_putText b_Expander_putText 5 none :: tbl
def w_Input_init : List Cond := .code y_Input_init b_Input_init 1 none :: tbl
def w_Input_isEmpty : List Cond := .code y_Input_isEmpty b_Input_isEmpty 1 (some .boolean) :: tbl
def w_Input_isFull : List Cond := .code y_Input_isFull b_Input_isFull 1 (some .boolean) :: tbl
def w_Input_get : List Cond := .code y_Input_get b_Input_get 2 (some .int) :: tbl
def w_Input_take : List Cond := .code y_Input_take b_Input_take 1 (some .int) :: tbl
def w_Input_put : List Cond := .code y_Input_put b_Input_put 2 none :: tbl
def w_Input_putAll : List Cond := .code y_Input_putAll b_Input_putAll 3 none :: tbl
def w_Input_addLast : List Cond := .code y_Input_addLast b_Input_addLast 2 none :: tbl
def w_Input_drop : List Cond := .code y_Input_drop b_Input_drop 2 none :: tbl
def w_Input_clear : List Cond := .code y_Input_clear b_Input_clear 1 none :: tbl
def w_Input_beginsWith : List Cond := .code y_Input_beginsWith b_Input_beginsWith 3 (some .boolean) :: tbl
def w_Kind_isToken : List Cond := .code y_Kind_isToken b_Kind_isToken 1 (some .boolean) :: tbl
def w_Kind_isSign : List Cond := .code y_Kind_isSign b_Kind_isSign 1 (some .boolean) :: tbl
def w_Kind_isName : List Cond := .code y_Kind_isName b_Kind_isName 1 (some .boolean) :: tbl
def w_Kind_isParameter : List Cond := .code y_Kind_isParameter b_Kind_isParameter 1 (some .boolean) :: tbl
def w_Kind_argumentOf : List Cond := .code y_Kind_argumentOf b_Kind_argumentOf 1 (some .int) :: tbl
def w_Kind_canDelimit : List Cond := .code y_Kind_canDelimit b_Kind_canDelimit 1 (some .boolean) :: tbl
def w_Kind_markOf : List Cond := .code y_Kind_markOf b_Kind_markOf 1 (some .int) :: tbl
def w_Kind_nesting : List Cond := .code y_Kind_nesting b_Kind_nesting 1 (some .int) :: tbl
def w_Macro_init : List Cond := .code y_Macro_init b_Macro_init 4 none :: tbl
def w_Macro_row : List Cond := .code y_Macro_row b_Macro_row 2 (some (.object "MacroExpand$Row")) :: tbl
def w_Row_init : List Cond := .code y_Row_init b_Row_init 2 none :: tbl
def w_Row_isFull : List Cond := .code y_Row_isFull b_Row_isFull 1 (some .boolean) :: tbl
def w_Row_get : List Cond := .code y_Row_get b_Row_get 2 (some .int) :: tbl
def w_Row_add : List Cond := .code y_Row_add b_Row_add 2 none :: tbl
def w_Row_clear : List Cond := .code y_Row_clear b_Row_clear 1 none :: tbl
def w_Row_copyFrom : List Cond := .code y_Row_copyFrom b_Row_copyFrom 2 none :: tbl
def w_Row_leaveOutOuterPair : List Cond := .code y_Row_leaveOutOuterPair b_Row_leaveOutOuterPair 3 none :: tbl
def w_Spelling_init : List Cond := .code y_Spelling_init b_Spelling_init 1 none :: tbl
def w_Spelling_lengthOf : List Cond := .code y_Spelling_lengthOf b_Spelling_lengthOf 2 (some .int) :: tbl
def w_Spelling_numberOf : List Cond := .code y_Spelling_numberOf b_Spelling_numberOf 5 (some .int) :: tbl
def w_Spelling_isSpelled : List Cond := .code y_Spelling_isSpelled b_Spelling_isSpelled 6 (some .boolean) :: tbl
def w_Trace_init : List Cond := .code y_Trace_init b_Trace_init 1 none :: tbl
def w_Trace_clear : List Cond := .code y_Trace_clear b_Trace_clear 1 none :: tbl
def w_Trace_add : List Cond := .code y_Trace_add b_Trace_add 4 none :: tbl
def w_Trace_get : List Cond := .code y_Trace_get b_Trace_get 3 (some .int) :: tbl
def w_Whole_init : List Cond := .code y_Whole_init b_Whole_init 4 none :: tbl
def w_Whole_run : List Cond := .code y_Whole_run b_Whole_run 3 (some .int) :: tbl
def w_Whole_carryOut : List Cond := .code y_Whole_carryOut b_Whole_carryOut 3 (some .int) :: tbl
def w_Whole_takeLater : List Cond := .code y_Whole_takeLater b_Whole_takeLater 1 (some .int) :: tbl
def w_Whole_goOnDefining : List Cond := .code y_Whole_goOnDefining b_Whole_goOnDefining 3 (some .int) :: tbl
def w_MacroExpandLaw_cell : List Cond := .code y_MacroExpandLaw_cell b_MacroExpandLaw_cell 2 (some .int) :: tbl
