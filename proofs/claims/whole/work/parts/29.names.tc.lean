/-! the component's words: every method's are its own code and the table TBC -/
def TWC : List Cond := [
  .code yX1_init cX1_init 1 none,
  .methodLink RX1 3 objectInit,
  .instanceMethod objectInit,
  .code objectInit ⟨#[0xb1]⟩ 1 none,
  .arrayClass .int,
  .fieldLink RX1 9 "PatternRunner$Past" "marks" "[I",
  .fieldLink RX1 15 "PatternRunner$Past" "choices" "[I",
  .fieldLink RX1 18 "PatternRunner$Past" "changes" "[I",
  .code yX0_init cX0_init 3 none,
  .methodLink RX0 3 objectInit,
  .classLink RX0 9 RX1,
  .instantiable RX1 6,
  .initialized RX1,
  .fieldLink RX0 12 "PatternRunner$Matcher" "past" "LPatternRunner$Past;",
  .fieldLink RX0 18 "PatternRunner$Matcher" "body" "LPatternRunner$SignRow;",
  .fieldLink RX0 22 "PatternRunner$Matcher" "program" "LPatternRunner$Program;",
  .instanceMethod yX1_init,
  .code yX2_has cX2_has 2 (some .boolean),
  .fieldLink RX2 53 "PatternRunner$Program" "flags" "I",
  .code yX4_length cX4_length 1 (some .int),
  .fieldLink RX4 21 "PatternRunner$SignRow" "length" "I",
  .code yJ7_fill_53178 cJ7_fill_53178 4 none,
  .code yX1_clear cX1_clear 1 none,
  .fieldLink RX1 27 "PatternRunner$Past" "choicesUsed" "I",
  .fieldLink RX1 31 "PatternRunner$Past" "changesUsed" "I",
  .methodLink RX1 21 yJ7_fill_53178,
  .static yJ7_fill_53178,
  .initialized RJ7,
  .code yX2_isInstruction cX2_isInstruction 2 (some .boolean),
  .fieldLink RX2 40 "PatternRunner$Program" "size" "I",
  .code yX2_kind cX2_kind 2 (some .int),
  .fieldLink RX2 9 "PatternRunner$Program" "kinds" "[I",
  .methodLink RX2 56 yX2_isInstruction,
  .instanceMethod yX2_isInstruction,
  .selects RX2 yX2_isInstruction yX2_isInstruction,
  .initialized RX2,
  .code yX0_countStep cX0_countStep 1 none,
  .classLink RX0 124 "java/lang/UnsupportedOperationException",
  .initialized "java/lang/UnsupportedOperationException",
  .fieldLink RX0 26 "PatternRunner$Matcher" "stepsMade" "I",
  .code yX4_at cX4_at 2 (some .char),
  .fieldLink RX4 15 "PatternRunner$SignRow" "signs" "[C",
  .code yX2_fits cX2_fits 5 (some .boolean),
  .fieldLink RX2 21 "PatternRunner$Program" "lower" "[J",
  .fieldLink RX2 25 "PatternRunner$Program" "upper" "[J",
  .fieldLink RX0 58 "PatternRunner$Matcher" "place" "I",
  .methodLink RX0 131 yX0_countStep,
  .instanceMethod yX0_countStep,
  .selects RX0 yX0_countStep yX0_countStep,
  .initialized RX0,
  .methodLink RX0 36 yX4_length,
  .instanceMethod yX4_length,
  .selects RX4 yX4_length yX4_length,
  .initialized RX4,
  .methodLink RX0 134 yX4_at,
  .instanceMethod yX4_at,
  .selects RX4 yX4_at yX4_at,
  .methodLink RX0 138 yX2_fits,
  .instanceMethod yX2_fits,
  .selects RX2 yX2_fits yX2_fits,
  .code yX0_passSign cX0_passSign 2 (some .int),
  .code yX0_isLineBegin cX0_isLineBegin 1 (some .boolean),
  .methodLink RX0 30 yX2_has,
  .instanceMethod yX2_has,
  .selects RX2 yX2_has yX2_has,
  .code yX0_isLineEnd cX0_isLineEnd 1 (some .boolean),
  .code yX2_number cX2_number 2 (some .int),
  .fieldLink RX2 18 "PatternRunner$Program" "numbers" "[I",
  .code yX1_mark cX1_mark 2 (some .int),
  .code yX0_tookFrom cX0_tookFrom 2 (some .int),
  .methodLink RX0 51 yX1_mark,
  .instanceMethod yX1_mark,
  .selects RX1 yX1_mark yX1_mark,
  .code yX0_tookTo cX0_tookTo 2 (some .int),
  .code yX0_small cX0_small 1 (some .int),
  .code yX0_isSame cX0_isSame 3 (some .boolean),
  .methodLink RX0 155 yX0_small,
  .static yX0_small,
  .methodLink RX0 142 yX2_number,
  .instanceMethod yX2_number,
  .selects RX2 yX2_number yX2_number,
  .methodLink RX0 145 yX0_tookFrom,
  .instanceMethod yX0_tookFrom,
  .selects RX0 yX0_tookFrom yX0_tookFrom,
  .methodLink RX0 148 yX0_tookTo,
  .instanceMethod yX0_tookTo,
  .selects RX0 yX0_tookTo yX0_tookTo,
  .methodLink RX0 151 yX0_isSame,
  .instanceMethod yX0_isSame,
  .selects RX0 yX0_isSame yX0_isSame,
  .code yX0_passReference cX0_passReference 6 (some .int),
  .code yX2_aim cX2_aim 2 (some .int),
  .fieldLink RX2 15 "PatternRunner$Program" "aims" "[I",
  .code yJ7_copyOf_59c91 cJ7_copyOf_59c91 3 (some (.array .int)),
  .methodLink RJ7 316 ⟨"[I", "clone", "()Ljava/lang/Object;"⟩,
  .sameMethod "[I" "java/lang/Object" "clone" "()Ljava/lang/Object;",
  .native ⟨"java/lang/Object", "clone", "()Ljava/lang/Object;"⟩,
  .instanceMethod ⟨"java/lang/Object", "clone", "()Ljava/lang/Object;"⟩,
  .selects "[I" ⟨"[I", "clone", "()Ljava/lang/Object;"⟩ ⟨"java/lang/Object", "clone", "()Ljava/lang/Object;"⟩,
  .classLink RJ7 317 "[I",
  .methodLink RJ7 304 Lib.Math.min.name,
  .static Lib.Math.min.name,
  .initialized "java/lang/Math",
  .code Lib.Math.min.name Lib.Math.min.code 2 (some .int),
  .methodLink RJ7 150 arraycopyName,
  .native arraycopyName,
  .static arraycopyName,
  .initialized "java/lang/System",
  .code yX1_choose cX1_choose 3 none,
  .methodLink RX1 34 yJ7_copyOf_59c91,
  .static yJ7_copyOf_59c91,
  .methodLink RX0 94 yX2_aim,
  .instanceMethod yX2_aim,
  .selects RX2 yX2_aim yX2_aim,
  .methodLink RX0 159 yX1_choose,
  .instanceMethod yX1_choose,
  .selects RX1 yX1_choose yX1_choose,
  .code yX0_beginAlternative cX0_beginAlternative 3 (some .int),
  .code yX1_set cX1_set 3 none,
  .methodLink RX0 65 yX1_set,
  .instanceMethod yX1_set,
  .selects RX1 yX1_set yX1_set,
  .code yX0_beginGroup cX0_beginGroup 2 (some .int),
  .code yX0_endGroup cX0_endGroup 3 (some .int),
  .code yX2_isLoop cX2_isLoop 2 (some .boolean),
  .fieldLink RX2 44 "PatternRunner$Program" "loops" "I",
  .code yX2_least cX2_least 2 (some .int),
  .fieldLink RX2 28 "PatternRunner$Program" "leasts" "[I",
  .methodLink RX2 60 yX2_isLoop,
  .instanceMethod yX2_isLoop,
  .selects RX2 yX2_isLoop yX2_isLoop,
  .code yX2_most cX2_most 2 (some .int),
  .fieldLink RX2 31 "PatternRunner$Program" "mosts" "[I",
  .methodLink RX0 165 yX2_least,
  .instanceMethod yX2_least,
  .selects RX2 yX2_least yX2_least,
  .methodLink RX0 168 yX2_most,
  .instanceMethod yX2_most,
  .selects RX2 yX2_most yX2_most,
  .methodLink RX0 75 yX2_kind,
  .instanceMethod yX2_kind,
  .selects RX2 yX2_kind yX2_kind,
  .code yX0_choosePass cX0_choosePass 7 (some .int),
  .methodLink RX0 162 yX0_choosePass,
  .instanceMethod yX0_choosePass,
  .selects RX0 yX0_choosePass yX0_choosePass,
  .code yX0_enterLoop cX0_enterLoop 3 (some .int),
  .code yX0_endPass cX0_endPass 4 (some .int),
  .code yX2_firstGroup cX2_firstGroup 2 (some .int),
  .fieldLink RX2 34 "PatternRunner$Program" "firstGroups" "[I",
  .code yX2_lastGroup cX2_lastGroup 2 (some .int),
  .fieldLink RX2 37 "PatternRunner$Program" "lastGroups" "[I",
  .methodLink RX0 171 yX2_firstGroup,
  .instanceMethod yX2_firstGroup,
  .selects RX2 yX2_firstGroup yX2_firstGroup,
  .methodLink RX0 174 yX2_lastGroup,
  .instanceMethod yX2_lastGroup,
  .selects RX2 yX2_lastGroup yX2_lastGroup,
  .code yX0_beginPass cX0_beginPass 4 (some .int),
  .code yX1_height cX1_height 1 (some .int),
  .methodLink RX0 177 yX1_height,
  .instanceMethod yX1_height,
  .selects RX1 yX1_height yX1_height,
  .code yX0_beginLook cX0_beginLook 3 (some .int),
  .code yX1_cut cX1_cut 2 none,
  .methodLink RX0 180 yX1_cut,
  .instanceMethod yX1_cut,
  .selects RX1 yX1_cut yX1_cut,
  .code yX0_endLook cX0_endLook 3 (some .int),
  .code yX0_beginLookNot cX0_beginLookNot 2 (some .int),
  .code yX0_endLookNot cX0_endLookNot 2 (some .int),
  .methodLink RX0 78 yX0_passSign,
  .instanceMethod yX0_passSign,
  .selects RX0 yX0_passSign yX0_passSign,
  .methodLink RX0 81 yX0_isLineBegin,
  .instanceMethod yX0_isLineBegin,
  .selects RX0 yX0_isLineBegin yX0_isLineBegin,
  .methodLink RX0 85 yX0_isLineEnd,
  .instanceMethod yX0_isLineEnd,
  .selects RX0 yX0_isLineEnd yX0_isLineEnd,
  .methodLink RX0 88 yX0_passReference,
  .instanceMethod yX0_passReference,
  .selects RX0 yX0_passReference yX0_passReference,
  .methodLink RX0 91 yX0_beginAlternative,
  .instanceMethod yX0_beginAlternative,
  .selects RX0 yX0_beginAlternative yX0_beginAlternative,
  .methodLink RX0 97 yX0_beginGroup,
  .instanceMethod yX0_beginGroup,
  .selects RX0 yX0_beginGroup yX0_beginGroup,
  .methodLink RX0 100 yX0_endGroup,
  .instanceMethod yX0_endGroup,
  .selects RX0 yX0_endGroup yX0_endGroup,
  .methodLink RX0 103 yX0_enterLoop,
  .instanceMethod yX0_enterLoop,
  .selects RX0 yX0_enterLoop yX0_enterLoop,
  .methodLink RX0 106 yX0_endPass,
  .instanceMethod yX0_endPass,
  .selects RX0 yX0_endPass yX0_endPass,
  .methodLink RX0 109 yX0_beginPass,
  .instanceMethod yX0_beginPass,
  .selects RX0 yX0_beginPass yX0_beginPass,
  .methodLink RX0 112 yX0_beginLook,
  .instanceMethod yX0_beginLook,
  .selects RX0 yX0_beginLook yX0_beginLook,
  .methodLink RX0 115 yX0_endLook,
  .instanceMethod yX0_endLook,
  .selects RX0 yX0_endLook yX0_endLook,
  .methodLink RX0 118 yX0_beginLookNot,
  .instanceMethod yX0_beginLookNot,
  .selects RX0 yX0_beginLookNot yX0_beginLookNot,
  .methodLink RX0 121 yX0_endLookNot,
  .instanceMethod yX0_endLookNot,
  .selects RX0 yX0_endLookNot yX0_endLookNot,
  .code yX0_carryOut cX0_carryOut 2 (some .int),
  .code yX1_undoDownTo cX1_undoDownTo 3 none,
  .code yX1_goBack cX1_goBack 1 (some .int),
  .fieldLink RX1 42 "PatternRunner$Past" "placeBack" "I",
  .methodLink RX1 38 yX1_undoDownTo,
  .instanceMethod yX1_undoDownTo,
  .selects RX1 yX1_undoDownTo yX1_undoDownTo,
  .code yX1_placeBack cX1_placeBack 1 (some .int),
  .constant RX0 61 (1000000),
  .methodLink RX0 55 yX1_clear,
  .instanceMethod yX1_clear,
  .selects RX1 yX1_clear yX1_clear,
  .methodLink RX0 62 yX0_carryOut,
  .instanceMethod yX0_carryOut,
  .selects RX0 yX0_carryOut yX0_carryOut,
  .methodLink RX0 69 yX1_goBack,
  .instanceMethod yX1_goBack,
  .selects RX1 yX1_goBack yX1_goBack,
  .methodLink RX0 72 yX1_placeBack,
  .instanceMethod yX1_placeBack,
  .selects RX1 yX1_placeBack yX1_placeBack,
  .code yX0_isFoundAt cX0_isFoundAt 4 (some .boolean),
  .methodLink RX0 42 Lib.Math.min.name,
  .methodLink RX0 48 yX0_isFoundAt,
  .instanceMethod yX0_isFoundAt,
  .selects RX0 yX0_isFoundAt yX0_isFoundAt,
  .code yX0_search cX0_search 5 (some .int),
  .code yX0_stepsMade cX0_stepsMade 1 (some .int),
  .code yX2_init cX2_init 1 none,
  .methodLink RX2 3 objectInit,
  .arrayClass .long,
  .code yX2_clear cX2_clear 2 none,
  .fieldLink RX2 47 "PatternRunner$Program" "looks" "I",
  .fieldLink RX2 50 "PatternRunner$Program" "groups" "I",
  .code yX2_size cX2_size 1 (some .int),
  .code yX2_groups cX2_groups 1 (some .int),
  .code yX2_add cX2_add 4 (some .int),
  .classLink RX2 63 "java/lang/IllegalArgumentException",
  .initialized "java/lang/IllegalArgumentException",
  .code yX5_lower cX5_lower 1 (some .long),
  .fieldLink RX5 9 "PatternRunner$SignSet" "lower" "J",
  .code yX5_upper cX5_upper 1 (some .long),
  .fieldLink RX5 13 "PatternRunner$SignSet" "upper" "J",
  .methodLink RX2 70 yX2_add,
  .instanceMethod yX2_add,
  .selects RX2 yX2_add yX2_add,
  .methodLink RX2 74 yX5_lower,
  .instanceMethod yX5_lower,
  .selects RX5 yX5_lower yX5_lower,
  .initialized RX5,
  .methodLink RX2 79 yX5_upper,
  .instanceMethod yX5_upper,
  .selects RX5 yX5_upper yX5_upper,
  .code yX2_addOneSign cX2_addOneSign 3 none,
  .code yX2_aimAt cX2_aimAt 3 none,
  .code yX2_aimChainAt cX2_aimChainAt 6 none,
  .methodLink RX2 81 yX2_aim,
  .methodLink RX2 85 yX2_aimAt,
  .instanceMethod yX2_aimAt,
  .selects RX2 yX2_aimAt yX2_aimAt,
  .code yX2_addGroup cX2_addGroup 1 (some .int),
  .code yX2_addLook cX2_addLook 1 (some .int),
  .code yX2_addLoop cX2_addLoop 4 (some .int),
  .code yX5_init cX5_init 1 none,
  .methodLink RX5 3 objectInit,
  .code yX3_init cX3_init 3 none,
  .methodLink RX3 3 objectInit,
  .classLink RX3 9 RX5,
  .instantiable RX5 2,
  .fieldLink RX3 12 "PatternRunner$Reader" "fitting" "LPatternRunner$SignSet;",
  .fieldLink RX3 18 "PatternRunner$Reader" "source" "LPatternRunner$SignRow;",
  .fieldLink RX3 22 "PatternRunner$Reader" "made" "LPatternRunner$Program;",
  .instanceMethod yX5_init,
  .code yX3_take cX3_take 2 (some .boolean),
  .fieldLink RX3 32 "PatternRunner$Reader" "at" "I",
  .methodLink RX3 70 yX4_at,
  .code yX3_takeOpening cX3_takeOpening 2 (some .boolean),
  .code yX5_clear cX5_clear 1 none,
  .code yJ0_isLatin1_aae02 cJ0_isLatin1_aae02 1 (some .boolean),
  .fieldLink RJ0 38 "java/lang/String" "COMPACT_STRINGS" "Z",
  .fieldLink RJ0 15 "java/lang/String" "coder" "B",
  .code yJ0_coder_7d493 cJ0_coder_7d493 1 (some .byte),
  .code yJ0_length_8abf5 cJ0_length_8abf5 1 (some .int),
  .fieldLink RJ0 9 "java/lang/String" "value" "[B",
  .methodLink RJ0 335 yJ0_coder_7d493,
  .instanceMethod yJ0_coder_7d493,
  .selects RJ0 yJ0_coder_7d493 yJ0_coder_7d493,
  .initialized RJ0,
  .code yJ1_canEncode_9a6ad cJ1_canEncode_9a6ad 1 (some .boolean),
  .code yJ1_indexOfChar_4cfef cJ1_indexOfChar_4cfef 6 (some .int),
  .code yJ1_indexOf_4cfef cJ1_indexOf_4cfef 4 (some .int),
  .methodLink RJ1 92 Lib.Math.max.name,
  .static Lib.Math.max.name,
  .code Lib.Math.max.name Lib.Math.max.code 2 (some .int),
  .methodLink RJ1 38 Lib.Math.min.name,
  .methodLink RJ1 88 yJ1_canEncode_9a6ad,
  .static yJ1_canEncode_9a6ad,
  .initialized RJ1,
  .methodLink RJ1 95 yJ1_indexOfChar_4cfef,
  .static yJ1_indexOfChar_4cfef,
  .code yJ0_checkBoundsBeginEnd_23922 cJ0_checkBoundsBeginEnd_23922 3 none,
  .fieldLink RJ0 1053 "jdk/internal/util/Preconditions" "SIOOBE_FORMATTER" "Ljava/util/function/BiFunction;",
  .static yJ0_checkBoundsBeginEnd_23922,
  .methodLink RJ0 492 yJ0_isLatin1_aae02,
  .instanceMethod yJ0_isLatin1_aae02,
  .selects RJ0 yJ0_isLatin1_aae02 yJ0_isLatin1_aae02,
  .methodLink RJ0 505 yJ0_length_8abf5,
  .instanceMethod yJ0_length_8abf5,
  .selects RJ0 yJ0_length_8abf5 yJ0_length_8abf5,
  .methodLink RJ0 637 yJ1_indexOf_4cfef,
  .static yJ1_indexOf_4cfef,
  .code yJ0_indexOf_7cf53 cJ0_indexOf_7cf53 3 (some .int),
  .methodLink RJ0 633 yJ0_indexOf_7cf53,
  .instanceMethod yJ0_indexOf_7cf53,
  .selects RJ0 yJ0_indexOf_7cf53 yJ0_indexOf_7cf53,
  .code yJ0_indexOf_0f7a4 cJ0_indexOf_0f7a4 2 (some .int),
  .code yX5_addAll cX5_addAll 5 none,
  .code yX5_addKind cX5_addKind 2 none,
  .constantLong RX5 20 (287948901175001088),
  .constantLong RX5 26 (-287948901175001089),
  .constantLong RX5 28 (-1),
  .constantLong RX5 30 (576460745995190270),
  .constantLong RX5 32 (-576460745995190271),
  .constantLong RX5 34 (4294967296),
  .constantLong RX5 36 (-4294967297),
  .methodLink RX5 22 yX5_addAll,
  .instanceMethod yX5_addAll,
  .selects RX5 yX5_addAll yX5_addAll,
  .code yX5_add cX5_add 2 none,
  .code yX5_addSameLetters cX5_addSameLetters 5 none,
  .constantLong RX5 38 (134217726),
  .code yX5_turnRound cX5_turnRound 1 none,
  .methodLink RX3 172 yX2_has,
  .methodLink RX3 179 yX5_addSameLetters,
  .instanceMethod yX5_addSameLetters,
  .selects RX5 yX5_addSameLetters yX5_addSameLetters,
  .methodLink RX3 182 yX5_turnRound,
  .instanceMethod yX5_turnRound,
  .selects RX5 yX5_turnRound yX5_turnRound,
  .methodLink RX3 185 yX2_addOneSign,
  .instanceMethod yX2_addOneSign,
  .selects RX2 yX2_addOneSign yX2_addOneSign,
  .code yX3_addOneSign cX3_addOneSign 2 (some .int),
  .classLink RX3 49 "java/lang/IllegalArgumentException",
  .fieldLink RX3 36 "PatternRunner$Reader" "greatestReference" "I",
  .methodLink RX3 136 Lib.Math.max.name,
  .methodLink RX3 64 yX2_add,
  .methodLink RX3 162 yJ0_indexOf_0f7a4,
  .instanceMethod yJ0_indexOf_0f7a4,
  .selects RJ0 yJ0_indexOf_0f7a4 yJ0_indexOf_0f7a4,
  .methodLink RX3 190 yX5_addKind,
  .instanceMethod yX5_addKind,
  .selects RX5 yX5_addKind yX5_addKind,
  .methodLink RX3 167 yX5_add,
  .instanceMethod yX5_add,
  .selects RX5 yX5_add yX5_add,
  .methodLink RX3 156 yX3_addOneSign,
  .instanceMethod yX3_addOneSign,
  .selects RX3 yX3_addOneSign yX3_addOneSign,
  .initialized RX3,
  .code yX3_readEscaped cX3_readEscaped 3 (some .int),
  .code yX3_readMark cX3_readMark 3 (some .int),
  .code yX5_addRange cX5_addRange 4 none,
  .methodLink RX5 16 yX5_add,
  .methodLink RX3 76 yX3_take,
  .instanceMethod yX3_take,
  .selects RX3 yX3_take yX3_take,
  .methodLink RX3 200 yX3_readMark,
  .instanceMethod yX3_readMark,
  .selects RX3 yX3_readMark yX3_readMark,
  .methodLink RX3 176 yX5_addRange,
  .instanceMethod yX5_addRange,
  .selects RX5 yX5_addRange yX5_addRange,
  .code yX3_readMember cX3_readMember 4 (some .boolean),
  .methodLink RX3 196 yX3_readMember,
  .instanceMethod yX3_readMember,
  .selects RX3 yX3_readMember yX3_readMember,
  .code yX3_readSet cX3_readSet 4 (some .int),
  .code yX3_addAnySign cX3_addAnySign 1 none,
  .code yX3_readDigit cX3_readDigit 2 (some .int),
  .code yX3_readBraces cX3_readBraces 1 none,
  .fieldLink RX3 122 "PatternRunner$Reader" "least" "I",
  .fieldLink RX3 125 "PatternRunner$Reader" "most" "I",
  .constant RX3 135 (1000000),
  .methodLink RX3 210 yX3_readDigit,
  .instanceMethod yX3_readDigit,
  .selects RX3 yX3_readDigit yX3_readDigit,
  .fieldLink RX3 131 "PatternRunner$Reader" "lazy" "Z",
  .methodLink RX3 207 yX3_readBraces,
  .instanceMethod yX3_readBraces,
  .selects RX3 yX3_readBraces yX3_readBraces,
  .code yX3_readCount cX3_readCount 1 (some .boolean),
  .code yX3_checkWeight cX3_checkWeight 1 none,
  .code yX3_rowGoesOn cX3_rowGoesOn 2 (some .boolean),
  .methodLink RX3 73 yX3_readRow,
  .instanceMethod yX3_readRow,
  .selects RX3 yX3_readRow yX3_readRow,
  .methodLink RX3 80 yX2_aimAt,
  .methodLink RX3 84 yX2_size,
  .instanceMethod yX2_size,
  .selects RX2 yX2_size yX2_size,
  .methodLink RX3 87 yX2_aimChainAt,
  .instanceMethod yX2_aimChainAt,
  .selects RX2 yX2_aimChainAt yX2_aimChainAt,
  .code yX3_readAtom cX3_readAtom 3 (some .int),
  .methodLink RX3 97 yX3_takeOpening,
  .instanceMethod yX3_takeOpening,
  .selects RX3 yX3_takeOpening yX3_takeOpening,
  .methodLink RX3 109 yX3_readInside,
  .instanceMethod yX3_readInside,
  .selects RX3 yX3_readInside yX3_readInside,
  .methodLink RX3 142 yX3_readGroup,
  .instanceMethod yX3_readGroup,
  .selects RX3 yX3_readGroup yX3_readGroup,
  .methodLink RX3 145 yX5_clear,
  .instanceMethod yX5_clear,
  .selects RX5 yX5_clear yX5_clear,
  .methodLink RX3 147 yX3_readEscaped,
  .instanceMethod yX3_readEscaped,
  .selects RX3 yX3_readEscaped yX3_readEscaped,
  .methodLink RX3 150 yX3_readSet,
  .instanceMethod yX3_readSet,
  .selects RX3 yX3_readSet yX3_readSet,
  .methodLink RX3 153 yX3_addAnySign,
  .instanceMethod yX3_addAnySign,
  .selects RX3 yX3_addAnySign yX3_addAnySign,
  .code yX3_readCountedAtom cX3_readCountedAtom 9 (some .int),
  .methodLink RX3 56 yX2_groups,
  .instanceMethod yX2_groups,
  .selects RX2 yX2_groups yX2_groups,
  .methodLink RX3 116 yX3_readAtom,
  .instanceMethod yX3_readAtom,
  .selects RX3 yX3_readAtom yX3_readAtom,
  .methodLink RX3 119 yX3_readCount,
  .instanceMethod yX3_readCount,
  .selects RX3 yX3_readCount yX3_readCount,
  .methodLink RX3 128 yX2_addLoop,
  .instanceMethod yX2_addLoop,
  .selects RX2 yX2_addLoop yX2_addLoop,
  .methodLink RX3 61 yX3_checkWeight,
  .static yX3_checkWeight,
  .code yX3_readGroup cX3_readGroup 4 (some .int),
  .methodLink RX3 169 yX2_addGroup,
  .instanceMethod yX2_addGroup,
  .selects RX2 yX2_addGroup yX2_addGroup,
  .code yX3_readInside cX3_readInside 3 (some .int),
  .methodLink RX3 39 yX3_readAlternatives,
  .instanceMethod yX3_readAlternatives,
  .selects RX3 yX3_readAlternatives yX3_readAlternatives,
  .code yX3_readLook cX3_readLook 7 (some .int),
  .methodLink RX3 106 yX2_addLook,
  .instanceMethod yX2_addLook,
  .selects RX2 yX2_addLook yX2_addLook,
  .code yX3_readRow cX3_readRow 4 (some .int),
  .methodLink RX3 90 yX3_rowGoesOn,
  .instanceMethod yX3_rowGoesOn,
  .selects RX3 yX3_rowGoesOn yX3_rowGoesOn,
  .methodLink RX3 94 yX3_readTerm,
  .instanceMethod yX3_readTerm,
  .selects RX3 yX3_readTerm yX3_readTerm,
  .code yX3_readTerm cX3_readTerm 2 (some .int),
  .methodLink RX3 100 yX3_readLook,
  .instanceMethod yX3_readLook,
  .selects RX3 yX3_readLook yX3_readLook,
  .methodLink RX3 103 yX3_readCountedAtom,
  .instanceMethod yX3_readCountedAtom,
  .selects RX3 yX3_readCountedAtom yX3_readCountedAtom,
  .code yX3_readAlternatives cX3_readAlternatives 7 (some .int),
  .methodLink RX3 26 yX2_clear,
  .instanceMethod yX2_clear,
  .selects RX2 yX2_clear yX2_clear,
  .methodLink RX3 43 yX4_length,
  .code yX3_read cX3_read 4 none,
  .code yX4_init cX4_init 2 none,
  .methodLink RX4 3 objectInit,
  .methodLink RX4 9 Lib.Math.max.name,
  .arrayClass .char,
  .code yX4_add cX4_add 2 (some .boolean),
  .code yX4_clear cX4_clear 1 none,
  .code yX4_copy cX4_copy 3 none,
  .methodLink RX4 25 yX4_clear,
  .instanceMethod yX4_clear,
  .selects RX4 yX4_clear yX4_clear,
  .methodLink RX4 28 yX4_length,
  .methodLink RX4 31 yX4_at,
  .methodLink RX4 35 yX4_add,
  .instanceMethod yX4_add,
  .selects RX4 yX4_add yX4_add,
  .code yX6_forgetFound cX6_forgetFound 1 none,
  .fieldLink RX6 56 "PatternRunner" "takenFrom" "[I",
  .fieldLink RX6 60 "PatternRunner" "takenTo" "[I",
  .methodLink RX6 148 yJ7_fill_53178,
  .methodLink RX6 3 objectInit,
  .classLink RX6 9 RX4,
  .instantiable RX4 2,
  .fieldLink RX6 14 "PatternRunner" "typed" "LPatternRunner$SignRow;",
  .fieldLink RX6 18 "PatternRunner" "toRead" "LPatternRunner$SignRow;",
  .fieldLink RX6 21 "PatternRunner" "body" "LPatternRunner$SignRow;",
  .fieldLink RX6 24 "PatternRunner" "written" "LPatternRunner$SignRow;",
  .fieldLink RX6 27 "PatternRunner" "draft" "LPatternRunner$SignRow;",
  .classLink RX6 30 RX2,
  .instantiable RX2 14,
  .fieldLink RX6 33 "PatternRunner" "program" "LPatternRunner$Program;",
  .fieldLink RX6 37 "PatternRunner" "spareProgram" "LPatternRunner$Program;",
  .classLink RX6 40 RX3,
  .instantiable RX3 8,
  .fieldLink RX6 45 "PatternRunner" "reader" "LPatternRunner$Reader;",
  .classLink RX6 49 RX0,
  .instantiable RX0 5,
  .fieldLink RX6 52 "PatternRunner" "matcher" "LPatternRunner$Matcher;",
  .fieldLink RX6 63 "PatternRunner" "startPlace" "I",
  .fieldLink RX6 67 "PatternRunner" "stepsMade" "I",
  .methodLink RX6 11 yX4_init,
  .instanceMethod yX4_init,
  .methodLink RX6 32 yX2_init,
  .instanceMethod yX2_init,
  .methodLink RX6 42 yX3_init,
  .instanceMethod yX3_init,
  .methodLink RX6 51 yX0_init,
  .instanceMethod yX0_init,
  .methodLink RX6 70 yX6_forgetFound,
  .instanceMethod yX6_forgetFound,
  .selects RX6 yX6_forgetFound yX6_forgetFound,
  .initialized RX6,
  .code yX6_init cX6_init 1 none,
  .code yX6_byteOf cX6_byteOf 3 (some .int),
  .code yX6_type cX6_type 6 (some .int),
  .classLink RX6 73 "java/lang/IllegalArgumentException",
  .methodLink RX6 80 yX4_length,
  .methodLink RX6 86 yX6_byteOf,
  .static yX6_byteOf,
  .methodLink RX6 92 yX4_add,
  .methodLink RX6 98 yX4_copy,
  .instanceMethod yX4_copy,
  .selects RX4 yX4_copy yX4_copy,
  .methodLink RX6 102 yX4_clear,
  .methodLink RX6 105 yX3_read,
  .instanceMethod yX3_read,
  .selects RX3 yX3_read yX3_read,
  .methodLink RX6 109 yX2_groups,
  .code yX6_pattern cX6_pattern 3 (some .int),
  .classLink RX6 112 "java/lang/IllegalStateException",
  .initialized "java/lang/IllegalStateException",
  .code yX6_text cX6_text 1 (some .int),
  .code yX6_start cX6_start 2 (some .int),
  .methodLink RX6 119 yX0_search,
  .instanceMethod yX0_search,
  .selects RX0 yX0_search yX0_search,
  .methodLink RX6 123 yX0_stepsMade,
  .instanceMethod yX0_stepsMade,
  .selects RX0 yX0_stepsMade yX0_stepsMade,
  .methodLink RX6 125 yX0_tookTo,
  .methodLink RX6 129 yX0_tookFrom,
  .code yX6_find cX6_find 3 (some .int),
  .code yX6_from cX6_from 2 (some .int),
  .code yX6_to cX6_to 2 (some .int),
  .code yX6_steps cX6_steps 1 (some .int),
  .code yX6_write cX6_write 2 none,
  .classLink RX6 161 "java/lang/UnsupportedOperationException",
  .code yX6_writeText cX6_writeText 4 none,
  .methodLink RX6 144 yX4_at,
  .methodLink RX6 157 yX6_write,
  .instanceMethod yX6_write,
  .selects RX6 yX6_write yX6_write,
  .methodLink RX6 132 yX6_writeText,
  .instanceMethod yX6_writeText,
  .selects RX6 yX6_writeText yX6_writeText,
  .code yX6_writePart cX6_writePart 5 (some .int),
  .methodLink RX6 154 yX6_writePart,
  .instanceMethod yX6_writePart,
  .selects RX6 yX6_writePart yX6_writePart,
  .code yX6_writeTemplate cX6_writeTemplate 3 none,
  .methodLink RX6 136 yX6_writeTemplate,
  .instanceMethod yX6_writeTemplate,
  .selects RX6 yX6_writeTemplate yX6_writeTemplate,
  .code yX6_replace cX6_replace 7 (some .int),
  .code yX6_result cX6_result 2 (some .char),
  .classLink RX6 139 "java/util/NoSuchElementException",
  .initialized "java/util/NoSuchElementException",
  .code yJ9_max_7cf53 cJ9_max_7cf53 2 (some .int),
  .code yJ9_min_7cf53 cJ9_min_7cf53 2 (some .int)]
abbrev TXC0 : List Cond := (vx_atS RX0 128 "java/lang/UnsupportedOperationException" ["java/lang/RuntimeException", "java/lang/Exception"]).filter goodWord
abbrev TXC1 : List Cond := (vx_atS RX2 67 "java/lang/IllegalArgumentException" ["java/lang/RuntimeException", "java/lang/Exception"]).filter goodWord
abbrev TXC2 : List Cond := (vx_atS RX3 53 "java/lang/IllegalArgumentException" ["java/lang/RuntimeException", "java/lang/Exception"]).filter goodWord
abbrev TXC3 : List Cond := (vx_atS RX6 77 "java/lang/IllegalArgumentException" ["java/lang/RuntimeException", "java/lang/Exception"]).filter goodWord
abbrev TXC4 : List Cond := (vx_atS RX6 116 "java/lang/IllegalStateException" ["java/lang/RuntimeException", "java/lang/Exception"]).filter goodWord
abbrev TXC5 : List Cond := (vx_atS RX6 165 "java/lang/UnsupportedOperationException" ["java/lang/RuntimeException", "java/lang/Exception"]).filter goodWord
abbrev TXC6 : List Cond := vx_ns.filter goodWord
def TLC : List Cond := wsX00 ++ (wsX10 ++ (wsX20 ++ (wsX30 ++ (wsX40 ++ (wsX50 ++ (wsX60))))))
def TXC : List Cond := TXC0 ++ (TXC1 ++ (TXC2 ++ (TXC3 ++ (TXC4 ++ (TXC5 ++ (TXC6))))))
def TBC : List Cond := TWC ++ (TLC ++ TXC)
set_option maxRecDepth 100000 in
theorem TWC_good : TWC.all goodWord = true := by decide +kernel
set_option maxRecDepth 100000 in
theorem TLC_good : TLC.all goodWord = true := by decide +kernel
theorem TXC_good : TXC.all goodWord = true := by
  rw [List.all_eq_true]
  intro w hw
  simp only [TXC, List.mem_append, List.mem_filter] at hw
  rcases hw with h | h | h | h | h | h | h <;> exact h.2
theorem TBC_ok {w : Cond} (h : w ∈ TBC) : goodWord w = true := by
  rcases List.mem_append.mp h with h | h
  · exact List.all_eq_true.mp TWC_good w h
  · rcases List.mem_append.mp h with h | h
    · exact List.all_eq_true.mp TLC_good w h
    · exact List.all_eq_true.mp TXC_good w h
set_option maxRecDepth 100000 in
theorem wC_cd_yX1_init : Cond.code yX1_init cX1_init 1 none ∈ TBC := List.mem_append_left _ (List.mem_of_getElem? (i := 0) rfl)
set_option maxRecDepth 100000 in
theorem wC_mRX1_3 : Cond.methodLink RX1 3 objectInit ∈ TBC := List.mem_append_left _ (List.mem_of_getElem? (i := 1) rfl)
set_option maxRecDepth 100000 in
theorem wC_im_objectInit : Cond.instanceMethod objectInit ∈ TBC := List.mem_append_left _ (List.mem_of_getElem? (i := 2) rfl)
set_option maxRecDepth 100000 in
theorem wC_cd_objectInit : Cond.code objectInit ⟨#[0xb1]⟩ 1 none ∈ TBC := List.mem_append_left _ (List.mem_of_getElem? (i := 3) rfl)
set_option maxRecDepth 100000 in
theorem wC_ac__int : Cond.arrayClass .int ∈ TBC := List.mem_append_left _ (List.mem_of_getElem? (i := 4) rfl)
set_option maxRecDepth 100000 in
theorem wC_fRX1_9 : Cond.fieldLink RX1 9 "PatternRunner$Past" "marks" "[I" ∈ TBC := List.mem_append_left _ (List.mem_of_getElem? (i := 5) rfl)
set_option maxRecDepth 100000 in
theorem wC_fRX1_15 : Cond.fieldLink RX1 15 "PatternRunner$Past" "choices" "[I" ∈ TBC := List.mem_append_left _ (List.mem_of_getElem? (i := 6) rfl)
set_option maxRecDepth 100000 in
theorem wC_fRX1_18 : Cond.fieldLink RX1 18 "PatternRunner$Past" "changes" "[I" ∈ TBC := List.mem_append_left _ (List.mem_of_getElem? (i := 7) rfl)
set_option maxRecDepth 100000 in
theorem wC_cd_yX0_init : Cond.code yX0_init cX0_init 3 none ∈ TBC := List.mem_append_left _ (List.mem_of_getElem? (i := 8) rfl)
set_option maxRecDepth 100000 in
theorem wC_mRX0_3 : Cond.methodLink RX0 3 objectInit ∈ TBC := List.mem_append_left _ (List.mem_of_getElem? (i := 9) rfl)
set_option maxRecDepth 100000 in
theorem wC_cRX0_9 : Cond.classLink RX0 9 RX1 ∈ TBC := List.mem_append_left _ (List.mem_of_getElem? (i := 10) rfl)
set_option maxRecDepth 100000 in
theorem wC_it_RX1 : Cond.instantiable RX1 6 ∈ TBC := List.mem_append_left _ (List.mem_of_getElem? (i := 11) rfl)
set_option maxRecDepth 100000 in
theorem wC_in_RX1 : Cond.initialized RX1 ∈ TBC := List.mem_append_left _ (List.mem_of_getElem? (i := 12) rfl)
set_option maxRecDepth 100000 in
theorem wC_fRX0_12 : Cond.fieldLink RX0 12 "PatternRunner$Matcher" "past" "LPatternRunner$Past;" ∈ TBC := List.mem_append_left _ (List.mem_of_getElem? (i := 13) rfl)
set_option maxRecDepth 100000 in
theorem wC_fRX0_18 : Cond.fieldLink RX0 18 "PatternRunner$Matcher" "body" "LPatternRunner$SignRow;" ∈ TBC := List.mem_append_left _ (List.mem_of_getElem? (i := 14) rfl)
set_option maxRecDepth 100000 in
theorem wC_fRX0_22 : Cond.fieldLink RX0 22 "PatternRunner$Matcher" "program" "LPatternRunner$Program;" ∈ TBC := List.mem_append_left _ (List.mem_of_getElem? (i := 15) rfl)
set_option maxRecDepth 100000 in
theorem wC_im_yX1_init : Cond.instanceMethod yX1_init ∈ TBC := List.mem_append_left _ (List.mem_of_getElem? (i := 16) rfl)
set_option maxRecDepth 100000 in
theorem wC_cd_yX2_has : Cond.code yX2_has cX2_has 2 (some .boolean) ∈ TBC := List.mem_append_left _ (List.mem_of_getElem? (i := 17) rfl)
set_option maxRecDepth 100000 in
theorem wC_fRX2_53 : Cond.fieldLink RX2 53 "PatternRunner$Program" "flags" "I" ∈ TBC := List.mem_append_left _ (List.mem_of_getElem? (i := 18) rfl)
set_option maxRecDepth 100000 in
theorem wC_cd_yX4_length : Cond.code yX4_length cX4_length 1 (some .int) ∈ TBC := List.mem_append_left _ (List.mem_of_getElem? (i := 19) rfl)
set_option maxRecDepth 100000 in
theorem wC_fRX4_21 : Cond.fieldLink RX4 21 "PatternRunner$SignRow" "length" "I" ∈ TBC := List.mem_append_left _ (List.mem_of_getElem? (i := 20) rfl)
set_option maxRecDepth 100000 in
theorem wC_cd_yJ7_fill_53178 : Cond.code yJ7_fill_53178 cJ7_fill_53178 4 none ∈ TBC := List.mem_append_left _ (List.mem_of_getElem? (i := 21) rfl)
set_option maxRecDepth 100000 in
theorem wC_cd_yX1_clear : Cond.code yX1_clear cX1_clear 1 none ∈ TBC := List.mem_append_left _ (List.mem_of_getElem? (i := 22) rfl)
set_option maxRecDepth 100000 in
theorem wC_fRX1_27 : Cond.fieldLink RX1 27 "PatternRunner$Past" "choicesUsed" "I" ∈ TBC := List.mem_append_left _ (List.mem_of_getElem? (i := 23) rfl)
set_option maxRecDepth 100000 in
theorem wC_fRX1_31 : Cond.fieldLink RX1 31 "PatternRunner$Past" "changesUsed" "I" ∈ TBC := List.mem_append_left _ (List.mem_of_getElem? (i := 24) rfl)
set_option maxRecDepth 100000 in
theorem wC_mRX1_21 : Cond.methodLink RX1 21 yJ7_fill_53178 ∈ TBC := List.mem_append_left _ (List.mem_of_getElem? (i := 25) rfl)
set_option maxRecDepth 100000 in
theorem wC_st_yJ7_fill_53178 : Cond.static yJ7_fill_53178 ∈ TBC := List.mem_append_left _ (List.mem_of_getElem? (i := 26) rfl)
set_option maxRecDepth 100000 in
theorem wC_in_RJ7 : Cond.initialized RJ7 ∈ TBC := List.mem_append_left _ (List.mem_of_getElem? (i := 27) rfl)
set_option maxRecDepth 100000 in
theorem wC_cd_yX2_isInstruction : Cond.code yX2_isInstruction cX2_isInstruction 2 (some .boolean) ∈ TBC := List.mem_append_left _ (List.mem_of_getElem? (i := 28) rfl)
set_option maxRecDepth 100000 in
theorem wC_fRX2_40 : Cond.fieldLink RX2 40 "PatternRunner$Program" "size" "I" ∈ TBC := List.mem_append_left _ (List.mem_of_getElem? (i := 29) rfl)
set_option maxRecDepth 100000 in
theorem wC_cd_yX2_kind : Cond.code yX2_kind cX2_kind 2 (some .int) ∈ TBC := List.mem_append_left _ (List.mem_of_getElem? (i := 30) rfl)
set_option maxRecDepth 100000 in
theorem wC_fRX2_9 : Cond.fieldLink RX2 9 "PatternRunner$Program" "kinds" "[I" ∈ TBC := List.mem_append_left _ (List.mem_of_getElem? (i := 31) rfl)
set_option maxRecDepth 100000 in
theorem wC_mRX2_56 : Cond.methodLink RX2 56 yX2_isInstruction ∈ TBC := List.mem_append_left _ (List.mem_of_getElem? (i := 32) rfl)
set_option maxRecDepth 100000 in
theorem wC_im_yX2_isInstruction : Cond.instanceMethod yX2_isInstruction ∈ TBC := List.mem_append_left _ (List.mem_of_getElem? (i := 33) rfl)
set_option maxRecDepth 100000 in
theorem wC_sl_yX2_isInstruction : Cond.selects RX2 yX2_isInstruction yX2_isInstruction ∈ TBC := List.mem_append_left _ (List.mem_of_getElem? (i := 34) rfl)
set_option maxRecDepth 100000 in
theorem wC_in_RX2 : Cond.initialized RX2 ∈ TBC := List.mem_append_left _ (List.mem_of_getElem? (i := 35) rfl)
set_option maxRecDepth 100000 in
theorem wC_cd_yX0_countStep : Cond.code yX0_countStep cX0_countStep 1 none ∈ TBC := List.mem_append_left _ (List.mem_of_getElem? (i := 36) rfl)
set_option maxRecDepth 100000 in
theorem wC_cRX0_124 : Cond.classLink RX0 124 "java/lang/UnsupportedOperationException" ∈ TBC := List.mem_append_left _ (List.mem_of_getElem? (i := 37) rfl)
set_option maxRecDepth 100000 in
theorem wC_in__java_lang_UnsupportedOperationException_ : Cond.initialized "java/lang/UnsupportedOperationException" ∈ TBC := List.mem_append_left _ (List.mem_of_getElem? (i := 38) rfl)
set_option maxRecDepth 100000 in
theorem wC_fRX0_26 : Cond.fieldLink RX0 26 "PatternRunner$Matcher" "stepsMade" "I" ∈ TBC := List.mem_append_left _ (List.mem_of_getElem? (i := 39) rfl)
set_option maxRecDepth 100000 in
theorem wC_cd_yX4_at : Cond.code yX4_at cX4_at 2 (some .char) ∈ TBC := List.mem_append_left _ (List.mem_of_getElem? (i := 40) rfl)
set_option maxRecDepth 100000 in
theorem wC_fRX4_15 : Cond.fieldLink RX4 15 "PatternRunner$SignRow" "signs" "[C" ∈ TBC := List.mem_append_left _ (List.mem_of_getElem? (i := 41) rfl)
set_option maxRecDepth 100000 in
theorem wC_cd_yX2_fits : Cond.code yX2_fits cX2_fits 5 (some .boolean) ∈ TBC := List.mem_append_left _ (List.mem_of_getElem? (i := 42) rfl)
set_option maxRecDepth 100000 in
theorem wC_fRX2_21 : Cond.fieldLink RX2 21 "PatternRunner$Program" "lower" "[J" ∈ TBC := List.mem_append_left _ (List.mem_of_getElem? (i := 43) rfl)
set_option maxRecDepth 100000 in
theorem wC_fRX2_25 : Cond.fieldLink RX2 25 "PatternRunner$Program" "upper" "[J" ∈ TBC := List.mem_append_left _ (List.mem_of_getElem? (i := 44) rfl)
set_option maxRecDepth 100000 in
theorem wC_fRX0_58 : Cond.fieldLink RX0 58 "PatternRunner$Matcher" "place" "I" ∈ TBC := List.mem_append_left _ (List.mem_of_getElem? (i := 45) rfl)
set_option maxRecDepth 100000 in
theorem wC_mRX0_131 : Cond.methodLink RX0 131 yX0_countStep ∈ TBC := List.mem_append_left _ (List.mem_of_getElem? (i := 46) rfl)
set_option maxRecDepth 100000 in
theorem wC_im_yX0_countStep : Cond.instanceMethod yX0_countStep ∈ TBC := List.mem_append_left _ (List.mem_of_getElem? (i := 47) rfl)
set_option maxRecDepth 100000 in
theorem wC_sl_yX0_countStep : Cond.selects RX0 yX0_countStep yX0_countStep ∈ TBC := List.mem_append_left _ (List.mem_of_getElem? (i := 48) rfl)
set_option maxRecDepth 100000 in
theorem wC_in_RX0 : Cond.initialized RX0 ∈ TBC := List.mem_append_left _ (List.mem_of_getElem? (i := 49) rfl)
set_option maxRecDepth 100000 in
theorem wC_mRX0_36 : Cond.methodLink RX0 36 yX4_length ∈ TBC := List.mem_append_left _ (List.mem_of_getElem? (i := 50) rfl)
set_option maxRecDepth 100000 in
theorem wC_im_yX4_length : Cond.instanceMethod yX4_length ∈ TBC := List.mem_append_left _ (List.mem_of_getElem? (i := 51) rfl)
set_option maxRecDepth 100000 in
theorem wC_sl_yX4_length : Cond.selects RX4 yX4_length yX4_length ∈ TBC := List.mem_append_left _ (List.mem_of_getElem? (i := 52) rfl)
set_option maxRecDepth 100000 in
theorem wC_in_RX4 : Cond.initialized RX4 ∈ TBC := List.mem_append_left _ (List.mem_of_getElem? (i := 53) rfl)
set_option maxRecDepth 100000 in
theorem wC_mRX0_134 : Cond.methodLink RX0 134 yX4_at ∈ TBC := List.mem_append_left _ (List.mem_of_getElem? (i := 54) rfl)
set_option maxRecDepth 100000 in
theorem wC_im_yX4_at : Cond.instanceMethod yX4_at ∈ TBC := List.mem_append_left _ (List.mem_of_getElem? (i := 55) rfl)
set_option maxRecDepth 100000 in
theorem wC_sl_yX4_at : Cond.selects RX4 yX4_at yX4_at ∈ TBC := List.mem_append_left _ (List.mem_of_getElem? (i := 56) rfl)
set_option maxRecDepth 100000 in
theorem wC_mRX0_138 : Cond.methodLink RX0 138 yX2_fits ∈ TBC := List.mem_append_left _ (List.mem_of_getElem? (i := 57) rfl)
set_option maxRecDepth 100000 in
theorem wC_im_yX2_fits : Cond.instanceMethod yX2_fits ∈ TBC := List.mem_append_left _ (List.mem_of_getElem? (i := 58) rfl)
set_option maxRecDepth 100000 in
theorem wC_sl_yX2_fits : Cond.selects RX2 yX2_fits yX2_fits ∈ TBC := List.mem_append_left _ (List.mem_of_getElem? (i := 59) rfl)
set_option maxRecDepth 100000 in
theorem wC_cd_yX0_passSign : Cond.code yX0_passSign cX0_passSign 2 (some .int) ∈ TBC := List.mem_append_left _ (List.mem_of_getElem? (i := 60) rfl)
set_option maxRecDepth 100000 in
theorem wC_cd_yX0_isLineBegin : Cond.code yX0_isLineBegin cX0_isLineBegin 1 (some .boolean) ∈ TBC := List.mem_append_left _ (List.mem_of_getElem? (i := 61) rfl)
set_option maxRecDepth 100000 in
theorem wC_mRX0_30 : Cond.methodLink RX0 30 yX2_has ∈ TBC := List.mem_append_left _ (List.mem_of_getElem? (i := 62) rfl)
set_option maxRecDepth 100000 in
theorem wC_im_yX2_has : Cond.instanceMethod yX2_has ∈ TBC := List.mem_append_left _ (List.mem_of_getElem? (i := 63) rfl)
set_option maxRecDepth 100000 in
theorem wC_sl_yX2_has : Cond.selects RX2 yX2_has yX2_has ∈ TBC := List.mem_append_left _ (List.mem_of_getElem? (i := 64) rfl)
set_option maxRecDepth 100000 in
theorem wC_cd_yX0_isLineEnd : Cond.code yX0_isLineEnd cX0_isLineEnd 1 (some .boolean) ∈ TBC := List.mem_append_left _ (List.mem_of_getElem? (i := 65) rfl)
set_option maxRecDepth 100000 in
theorem wC_cd_yX2_number : Cond.code yX2_number cX2_number 2 (some .int) ∈ TBC := List.mem_append_left _ (List.mem_of_getElem? (i := 66) rfl)
set_option maxRecDepth 100000 in
theorem wC_fRX2_18 : Cond.fieldLink RX2 18 "PatternRunner$Program" "numbers" "[I" ∈ TBC := List.mem_append_left _ (List.mem_of_getElem? (i := 67) rfl)
set_option maxRecDepth 100000 in
theorem wC_cd_yX1_mark : Cond.code yX1_mark cX1_mark 2 (some .int) ∈ TBC := List.mem_append_left _ (List.mem_of_getElem? (i := 68) rfl)
set_option maxRecDepth 100000 in
theorem wC_cd_yX0_tookFrom : Cond.code yX0_tookFrom cX0_tookFrom 2 (some .int) ∈ TBC := List.mem_append_left _ (List.mem_of_getElem? (i := 69) rfl)
set_option maxRecDepth 100000 in
theorem wC_mRX0_51 : Cond.methodLink RX0 51 yX1_mark ∈ TBC := List.mem_append_left _ (List.mem_of_getElem? (i := 70) rfl)
set_option maxRecDepth 100000 in
theorem wC_im_yX1_mark : Cond.instanceMethod yX1_mark ∈ TBC := List.mem_append_left _ (List.mem_of_getElem? (i := 71) rfl)
set_option maxRecDepth 100000 in
theorem wC_sl_yX1_mark : Cond.selects RX1 yX1_mark yX1_mark ∈ TBC := List.mem_append_left _ (List.mem_of_getElem? (i := 72) rfl)
set_option maxRecDepth 100000 in
theorem wC_cd_yX0_tookTo : Cond.code yX0_tookTo cX0_tookTo 2 (some .int) ∈ TBC := List.mem_append_left _ (List.mem_of_getElem? (i := 73) rfl)
set_option maxRecDepth 100000 in
theorem wC_cd_yX0_small : Cond.code yX0_small cX0_small 1 (some .int) ∈ TBC := List.mem_append_left _ (List.mem_of_getElem? (i := 74) rfl)
set_option maxRecDepth 100000 in
theorem wC_cd_yX0_isSame : Cond.code yX0_isSame cX0_isSame 3 (some .boolean) ∈ TBC := List.mem_append_left _ (List.mem_of_getElem? (i := 75) rfl)
set_option maxRecDepth 100000 in
theorem wC_mRX0_155 : Cond.methodLink RX0 155 yX0_small ∈ TBC := List.mem_append_left _ (List.mem_of_getElem? (i := 76) rfl)
set_option maxRecDepth 100000 in
theorem wC_st_yX0_small : Cond.static yX0_small ∈ TBC := List.mem_append_left _ (List.mem_of_getElem? (i := 77) rfl)
set_option maxRecDepth 100000 in
theorem wC_mRX0_142 : Cond.methodLink RX0 142 yX2_number ∈ TBC := List.mem_append_left _ (List.mem_of_getElem? (i := 78) rfl)
set_option maxRecDepth 100000 in
theorem wC_im_yX2_number : Cond.instanceMethod yX2_number ∈ TBC := List.mem_append_left _ (List.mem_of_getElem? (i := 79) rfl)
set_option maxRecDepth 100000 in
theorem wC_sl_yX2_number : Cond.selects RX2 yX2_number yX2_number ∈ TBC := List.mem_append_left _ (List.mem_of_getElem? (i := 80) rfl)
set_option maxRecDepth 100000 in
theorem wC_mRX0_145 : Cond.methodLink RX0 145 yX0_tookFrom ∈ TBC := List.mem_append_left _ (List.mem_of_getElem? (i := 81) rfl)
set_option maxRecDepth 100000 in
theorem wC_im_yX0_tookFrom : Cond.instanceMethod yX0_tookFrom ∈ TBC := List.mem_append_left _ (List.mem_of_getElem? (i := 82) rfl)
set_option maxRecDepth 100000 in
theorem wC_sl_yX0_tookFrom : Cond.selects RX0 yX0_tookFrom yX0_tookFrom ∈ TBC := List.mem_append_left _ (List.mem_of_getElem? (i := 83) rfl)
set_option maxRecDepth 100000 in
theorem wC_mRX0_148 : Cond.methodLink RX0 148 yX0_tookTo ∈ TBC := List.mem_append_left _ (List.mem_of_getElem? (i := 84) rfl)
set_option maxRecDepth 100000 in
theorem wC_im_yX0_tookTo : Cond.instanceMethod yX0_tookTo ∈ TBC := List.mem_append_left _ (List.mem_of_getElem? (i := 85) rfl)
set_option maxRecDepth 100000 in
theorem wC_sl_yX0_tookTo : Cond.selects RX0 yX0_tookTo yX0_tookTo ∈ TBC := List.mem_append_left _ (List.mem_of_getElem? (i := 86) rfl)
set_option maxRecDepth 100000 in
theorem wC_mRX0_151 : Cond.methodLink RX0 151 yX0_isSame ∈ TBC := List.mem_append_left _ (List.mem_of_getElem? (i := 87) rfl)
set_option maxRecDepth 100000 in
theorem wC_im_yX0_isSame : Cond.instanceMethod yX0_isSame ∈ TBC := List.mem_append_left _ (List.mem_of_getElem? (i := 88) rfl)
set_option maxRecDepth 100000 in
theorem wC_sl_yX0_isSame : Cond.selects RX0 yX0_isSame yX0_isSame ∈ TBC := List.mem_append_left _ (List.mem_of_getElem? (i := 89) rfl)
set_option maxRecDepth 100000 in
theorem wC_cd_yX0_passReference : Cond.code yX0_passReference cX0_passReference 6 (some .int) ∈ TBC := List.mem_append_left _ (List.mem_of_getElem? (i := 90) rfl)
set_option maxRecDepth 100000 in
theorem wC_cd_yX2_aim : Cond.code yX2_aim cX2_aim 2 (some .int) ∈ TBC := List.mem_append_left _ (List.mem_of_getElem? (i := 91) rfl)
set_option maxRecDepth 100000 in
theorem wC_fRX2_15 : Cond.fieldLink RX2 15 "PatternRunner$Program" "aims" "[I" ∈ TBC := List.mem_append_left _ (List.mem_of_getElem? (i := 92) rfl)
set_option maxRecDepth 100000 in
theorem wC_cd_yJ7_copyOf_59c91 : Cond.code yJ7_copyOf_59c91 cJ7_copyOf_59c91 3 (some (.array .int)) ∈ TBC := List.mem_append_left _ (List.mem_of_getElem? (i := 93) rfl)
set_option maxRecDepth 100000 in
theorem wC_mRJ7_316 : Cond.methodLink RJ7 316 ⟨"[I", "clone", "()Ljava/lang/Object;"⟩ ∈ TBC := List.mem_append_left _ (List.mem_of_getElem? (i := 94) rfl)
set_option maxRecDepth 100000 in
theorem wC_sm__I_ : Cond.sameMethod "[I" "java/lang/Object" "clone" "()Ljava/lang/Object;" ∈ TBC := List.mem_append_left _ (List.mem_of_getElem? (i := 95) rfl)
set_option maxRecDepth 100000 in
theorem wC_nt__java_lang_Object_ : Cond.native ⟨"java/lang/Object", "clone", "()Ljava/lang/Object;"⟩ ∈ TBC := List.mem_append_left _ (List.mem_of_getElem? (i := 96) rfl)
set_option maxRecDepth 100000 in
theorem wC_im__java_lang_Object_ : Cond.instanceMethod ⟨"java/lang/Object", "clone", "()Ljava/lang/Object;"⟩ ∈ TBC := List.mem_append_left _ (List.mem_of_getElem? (i := 97) rfl)
set_option maxRecDepth 100000 in
theorem wC_sl__Ljava_lang_Object_ : Cond.selects "[I" ⟨"[I", "clone", "()Ljava/lang/Object;"⟩ ⟨"java/lang/Object", "clone", "()Ljava/lang/Object;"⟩ ∈ TBC := List.mem_append_left _ (List.mem_of_getElem? (i := 98) rfl)
set_option maxRecDepth 100000 in
theorem wC_cRJ7_317 : Cond.classLink RJ7 317 "[I" ∈ TBC := List.mem_append_left _ (List.mem_of_getElem? (i := 99) rfl)
set_option maxRecDepth 100000 in
theorem wC_mRJ7_304 : Cond.methodLink RJ7 304 Lib.Math.min.name ∈ TBC := List.mem_append_left _ (List.mem_of_getElem? (i := 100) rfl)
set_option maxRecDepth 100000 in
theorem wC_st_Lib_Math_min_name : Cond.static Lib.Math.min.name ∈ TBC := List.mem_append_left _ (List.mem_of_getElem? (i := 101) rfl)
set_option maxRecDepth 100000 in
theorem wC_in__java_lang_Math_ : Cond.initialized "java/lang/Math" ∈ TBC := List.mem_append_left _ (List.mem_of_getElem? (i := 102) rfl)
set_option maxRecDepth 100000 in
theorem wC_cd_Lib_Math_min_name : Cond.code Lib.Math.min.name Lib.Math.min.code 2 (some .int) ∈ TBC := List.mem_append_left _ (List.mem_of_getElem? (i := 103) rfl)
set_option maxRecDepth 100000 in
theorem wC_mRJ7_150 : Cond.methodLink RJ7 150 arraycopyName ∈ TBC := List.mem_append_left _ (List.mem_of_getElem? (i := 104) rfl)
set_option maxRecDepth 100000 in
theorem wC_nt_arraycopyName : Cond.native arraycopyName ∈ TBC := List.mem_append_left _ (List.mem_of_getElem? (i := 105) rfl)
set_option maxRecDepth 100000 in
theorem wC_st_arraycopyName : Cond.static arraycopyName ∈ TBC := List.mem_append_left _ (List.mem_of_getElem? (i := 106) rfl)
set_option maxRecDepth 100000 in
theorem wC_in__java_lang_System_ : Cond.initialized "java/lang/System" ∈ TBC := List.mem_append_left _ (List.mem_of_getElem? (i := 107) rfl)
set_option maxRecDepth 100000 in
theorem wC_cd_yX1_choose : Cond.code yX1_choose cX1_choose 3 none ∈ TBC := List.mem_append_left _ (List.mem_of_getElem? (i := 108) rfl)
set_option maxRecDepth 100000 in
theorem wC_mRX1_34 : Cond.methodLink RX1 34 yJ7_copyOf_59c91 ∈ TBC := List.mem_append_left _ (List.mem_of_getElem? (i := 109) rfl)
set_option maxRecDepth 100000 in
theorem wC_st_yJ7_copyOf_59c91 : Cond.static yJ7_copyOf_59c91 ∈ TBC := List.mem_append_left _ (List.mem_of_getElem? (i := 110) rfl)
set_option maxRecDepth 100000 in
theorem wC_mRX0_94 : Cond.methodLink RX0 94 yX2_aim ∈ TBC := List.mem_append_left _ (List.mem_of_getElem? (i := 111) rfl)
set_option maxRecDepth 100000 in
theorem wC_im_yX2_aim : Cond.instanceMethod yX2_aim ∈ TBC := List.mem_append_left _ (List.mem_of_getElem? (i := 112) rfl)
set_option maxRecDepth 100000 in
theorem wC_sl_yX2_aim : Cond.selects RX2 yX2_aim yX2_aim ∈ TBC := List.mem_append_left _ (List.mem_of_getElem? (i := 113) rfl)
set_option maxRecDepth 100000 in
theorem wC_mRX0_159 : Cond.methodLink RX0 159 yX1_choose ∈ TBC := List.mem_append_left _ (List.mem_of_getElem? (i := 114) rfl)
set_option maxRecDepth 100000 in
theorem wC_im_yX1_choose : Cond.instanceMethod yX1_choose ∈ TBC := List.mem_append_left _ (List.mem_of_getElem? (i := 115) rfl)
set_option maxRecDepth 100000 in
theorem wC_sl_yX1_choose : Cond.selects RX1 yX1_choose yX1_choose ∈ TBC := List.mem_append_left _ (List.mem_of_getElem? (i := 116) rfl)
set_option maxRecDepth 100000 in
theorem wC_cd_yX0_beginAlternative : Cond.code yX0_beginAlternative cX0_beginAlternative 3 (some .int) ∈ TBC := List.mem_append_left _ (List.mem_of_getElem? (i := 117) rfl)
set_option maxRecDepth 100000 in
theorem wC_cd_yX1_set : Cond.code yX1_set cX1_set 3 none ∈ TBC := List.mem_append_left _ (List.mem_of_getElem? (i := 118) rfl)
set_option maxRecDepth 100000 in
theorem wC_mRX0_65 : Cond.methodLink RX0 65 yX1_set ∈ TBC := List.mem_append_left _ (List.mem_of_getElem? (i := 119) rfl)
set_option maxRecDepth 100000 in
theorem wC_im_yX1_set : Cond.instanceMethod yX1_set ∈ TBC := List.mem_append_left _ (List.mem_of_getElem? (i := 120) rfl)
set_option maxRecDepth 100000 in
theorem wC_sl_yX1_set : Cond.selects RX1 yX1_set yX1_set ∈ TBC := List.mem_append_left _ (List.mem_of_getElem? (i := 121) rfl)
set_option maxRecDepth 100000 in
theorem wC_cd_yX0_beginGroup : Cond.code yX0_beginGroup cX0_beginGroup 2 (some .int) ∈ TBC := List.mem_append_left _ (List.mem_of_getElem? (i := 122) rfl)
set_option maxRecDepth 100000 in
theorem wC_cd_yX0_endGroup : Cond.code yX0_endGroup cX0_endGroup 3 (some .int) ∈ TBC := List.mem_append_left _ (List.mem_of_getElem? (i := 123) rfl)
set_option maxRecDepth 100000 in
theorem wC_cd_yX2_isLoop : Cond.code yX2_isLoop cX2_isLoop 2 (some .boolean) ∈ TBC := List.mem_append_left _ (List.mem_of_getElem? (i := 124) rfl)
set_option maxRecDepth 100000 in
theorem wC_fRX2_44 : Cond.fieldLink RX2 44 "PatternRunner$Program" "loops" "I" ∈ TBC := List.mem_append_left _ (List.mem_of_getElem? (i := 125) rfl)
set_option maxRecDepth 100000 in
theorem wC_cd_yX2_least : Cond.code yX2_least cX2_least 2 (some .int) ∈ TBC := List.mem_append_left _ (List.mem_of_getElem? (i := 126) rfl)
set_option maxRecDepth 100000 in
theorem wC_fRX2_28 : Cond.fieldLink RX2 28 "PatternRunner$Program" "leasts" "[I" ∈ TBC := List.mem_append_left _ (List.mem_of_getElem? (i := 127) rfl)
set_option maxRecDepth 100000 in
theorem wC_mRX2_60 : Cond.methodLink RX2 60 yX2_isLoop ∈ TBC := List.mem_append_left _ (List.mem_of_getElem? (i := 128) rfl)
set_option maxRecDepth 100000 in
theorem wC_im_yX2_isLoop : Cond.instanceMethod yX2_isLoop ∈ TBC := List.mem_append_left _ (List.mem_of_getElem? (i := 129) rfl)
set_option maxRecDepth 100000 in
theorem wC_sl_yX2_isLoop : Cond.selects RX2 yX2_isLoop yX2_isLoop ∈ TBC := List.mem_append_left _ (List.mem_of_getElem? (i := 130) rfl)
set_option maxRecDepth 100000 in
theorem wC_cd_yX2_most : Cond.code yX2_most cX2_most 2 (some .int) ∈ TBC := List.mem_append_left _ (List.mem_of_getElem? (i := 131) rfl)
set_option maxRecDepth 100000 in
theorem wC_fRX2_31 : Cond.fieldLink RX2 31 "PatternRunner$Program" "mosts" "[I" ∈ TBC := List.mem_append_left _ (List.mem_of_getElem? (i := 132) rfl)
set_option maxRecDepth 100000 in
theorem wC_mRX0_165 : Cond.methodLink RX0 165 yX2_least ∈ TBC := List.mem_append_left _ (List.mem_of_getElem? (i := 133) rfl)
set_option maxRecDepth 100000 in
theorem wC_im_yX2_least : Cond.instanceMethod yX2_least ∈ TBC := List.mem_append_left _ (List.mem_of_getElem? (i := 134) rfl)
set_option maxRecDepth 100000 in
theorem wC_sl_yX2_least : Cond.selects RX2 yX2_least yX2_least ∈ TBC := List.mem_append_left _ (List.mem_of_getElem? (i := 135) rfl)
set_option maxRecDepth 100000 in
theorem wC_mRX0_168 : Cond.methodLink RX0 168 yX2_most ∈ TBC := List.mem_append_left _ (List.mem_of_getElem? (i := 136) rfl)
set_option maxRecDepth 100000 in
theorem wC_im_yX2_most : Cond.instanceMethod yX2_most ∈ TBC := List.mem_append_left _ (List.mem_of_getElem? (i := 137) rfl)
set_option maxRecDepth 100000 in
theorem wC_sl_yX2_most : Cond.selects RX2 yX2_most yX2_most ∈ TBC := List.mem_append_left _ (List.mem_of_getElem? (i := 138) rfl)
set_option maxRecDepth 100000 in
theorem wC_mRX0_75 : Cond.methodLink RX0 75 yX2_kind ∈ TBC := List.mem_append_left _ (List.mem_of_getElem? (i := 139) rfl)
set_option maxRecDepth 100000 in
theorem wC_im_yX2_kind : Cond.instanceMethod yX2_kind ∈ TBC := List.mem_append_left _ (List.mem_of_getElem? (i := 140) rfl)
set_option maxRecDepth 100000 in
theorem wC_sl_yX2_kind : Cond.selects RX2 yX2_kind yX2_kind ∈ TBC := List.mem_append_left _ (List.mem_of_getElem? (i := 141) rfl)
set_option maxRecDepth 100000 in
theorem wC_cd_yX0_choosePass : Cond.code yX0_choosePass cX0_choosePass 7 (some .int) ∈ TBC := List.mem_append_left _ (List.mem_of_getElem? (i := 142) rfl)
set_option maxRecDepth 100000 in
theorem wC_mRX0_162 : Cond.methodLink RX0 162 yX0_choosePass ∈ TBC := List.mem_append_left _ (List.mem_of_getElem? (i := 143) rfl)
set_option maxRecDepth 100000 in
theorem wC_im_yX0_choosePass : Cond.instanceMethod yX0_choosePass ∈ TBC := List.mem_append_left _ (List.mem_of_getElem? (i := 144) rfl)
set_option maxRecDepth 100000 in
theorem wC_sl_yX0_choosePass : Cond.selects RX0 yX0_choosePass yX0_choosePass ∈ TBC := List.mem_append_left _ (List.mem_of_getElem? (i := 145) rfl)
set_option maxRecDepth 100000 in
theorem wC_cd_yX0_enterLoop : Cond.code yX0_enterLoop cX0_enterLoop 3 (some .int) ∈ TBC := List.mem_append_left _ (List.mem_of_getElem? (i := 146) rfl)
set_option maxRecDepth 100000 in
theorem wC_cd_yX0_endPass : Cond.code yX0_endPass cX0_endPass 4 (some .int) ∈ TBC := List.mem_append_left _ (List.mem_of_getElem? (i := 147) rfl)
set_option maxRecDepth 100000 in
theorem wC_cd_yX2_firstGroup : Cond.code yX2_firstGroup cX2_firstGroup 2 (some .int) ∈ TBC := List.mem_append_left _ (List.mem_of_getElem? (i := 148) rfl)
set_option maxRecDepth 100000 in
theorem wC_fRX2_34 : Cond.fieldLink RX2 34 "PatternRunner$Program" "firstGroups" "[I" ∈ TBC := List.mem_append_left _ (List.mem_of_getElem? (i := 149) rfl)
set_option maxRecDepth 100000 in
theorem wC_cd_yX2_lastGroup : Cond.code yX2_lastGroup cX2_lastGroup 2 (some .int) ∈ TBC := List.mem_append_left _ (List.mem_of_getElem? (i := 150) rfl)
set_option maxRecDepth 100000 in
theorem wC_fRX2_37 : Cond.fieldLink RX2 37 "PatternRunner$Program" "lastGroups" "[I" ∈ TBC := List.mem_append_left _ (List.mem_of_getElem? (i := 151) rfl)
set_option maxRecDepth 100000 in
theorem wC_mRX0_171 : Cond.methodLink RX0 171 yX2_firstGroup ∈ TBC := List.mem_append_left _ (List.mem_of_getElem? (i := 152) rfl)
set_option maxRecDepth 100000 in
theorem wC_im_yX2_firstGroup : Cond.instanceMethod yX2_firstGroup ∈ TBC := List.mem_append_left _ (List.mem_of_getElem? (i := 153) rfl)
set_option maxRecDepth 100000 in
theorem wC_sl_yX2_firstGroup : Cond.selects RX2 yX2_firstGroup yX2_firstGroup ∈ TBC := List.mem_append_left _ (List.mem_of_getElem? (i := 154) rfl)
set_option maxRecDepth 100000 in
theorem wC_mRX0_174 : Cond.methodLink RX0 174 yX2_lastGroup ∈ TBC := List.mem_append_left _ (List.mem_of_getElem? (i := 155) rfl)
set_option maxRecDepth 100000 in
theorem wC_im_yX2_lastGroup : Cond.instanceMethod yX2_lastGroup ∈ TBC := List.mem_append_left _ (List.mem_of_getElem? (i := 156) rfl)
set_option maxRecDepth 100000 in
theorem wC_sl_yX2_lastGroup : Cond.selects RX2 yX2_lastGroup yX2_lastGroup ∈ TBC := List.mem_append_left _ (List.mem_of_getElem? (i := 157) rfl)
set_option maxRecDepth 100000 in
theorem wC_cd_yX0_beginPass : Cond.code yX0_beginPass cX0_beginPass 4 (some .int) ∈ TBC := List.mem_append_left _ (List.mem_of_getElem? (i := 158) rfl)
set_option maxRecDepth 100000 in
theorem wC_cd_yX1_height : Cond.code yX1_height cX1_height 1 (some .int) ∈ TBC := List.mem_append_left _ (List.mem_of_getElem? (i := 159) rfl)
set_option maxRecDepth 100000 in
theorem wC_mRX0_177 : Cond.methodLink RX0 177 yX1_height ∈ TBC := List.mem_append_left _ (List.mem_of_getElem? (i := 160) rfl)
set_option maxRecDepth 100000 in
theorem wC_im_yX1_height : Cond.instanceMethod yX1_height ∈ TBC := List.mem_append_left _ (List.mem_of_getElem? (i := 161) rfl)
set_option maxRecDepth 100000 in
theorem wC_sl_yX1_height : Cond.selects RX1 yX1_height yX1_height ∈ TBC := List.mem_append_left _ (List.mem_of_getElem? (i := 162) rfl)
set_option maxRecDepth 100000 in
theorem wC_cd_yX0_beginLook : Cond.code yX0_beginLook cX0_beginLook 3 (some .int) ∈ TBC := List.mem_append_left _ (List.mem_of_getElem? (i := 163) rfl)
set_option maxRecDepth 100000 in
theorem wC_cd_yX1_cut : Cond.code yX1_cut cX1_cut 2 none ∈ TBC := List.mem_append_left _ (List.mem_of_getElem? (i := 164) rfl)
set_option maxRecDepth 100000 in
theorem wC_mRX0_180 : Cond.methodLink RX0 180 yX1_cut ∈ TBC := List.mem_append_left _ (List.mem_of_getElem? (i := 165) rfl)
set_option maxRecDepth 100000 in
theorem wC_im_yX1_cut : Cond.instanceMethod yX1_cut ∈ TBC := List.mem_append_left _ (List.mem_of_getElem? (i := 166) rfl)
set_option maxRecDepth 100000 in
theorem wC_sl_yX1_cut : Cond.selects RX1 yX1_cut yX1_cut ∈ TBC := List.mem_append_left _ (List.mem_of_getElem? (i := 167) rfl)
set_option maxRecDepth 100000 in
theorem wC_cd_yX0_endLook : Cond.code yX0_endLook cX0_endLook 3 (some .int) ∈ TBC := List.mem_append_left _ (List.mem_of_getElem? (i := 168) rfl)
set_option maxRecDepth 100000 in
theorem wC_cd_yX0_beginLookNot : Cond.code yX0_beginLookNot cX0_beginLookNot 2 (some .int) ∈ TBC := List.mem_append_left _ (List.mem_of_getElem? (i := 169) rfl)
set_option maxRecDepth 100000 in
theorem wC_cd_yX0_endLookNot : Cond.code yX0_endLookNot cX0_endLookNot 2 (some .int) ∈ TBC := List.mem_append_left _ (List.mem_of_getElem? (i := 170) rfl)
set_option maxRecDepth 100000 in
theorem wC_mRX0_78 : Cond.methodLink RX0 78 yX0_passSign ∈ TBC := List.mem_append_left _ (List.mem_of_getElem? (i := 171) rfl)
set_option maxRecDepth 100000 in
theorem wC_im_yX0_passSign : Cond.instanceMethod yX0_passSign ∈ TBC := List.mem_append_left _ (List.mem_of_getElem? (i := 172) rfl)
set_option maxRecDepth 100000 in
theorem wC_sl_yX0_passSign : Cond.selects RX0 yX0_passSign yX0_passSign ∈ TBC := List.mem_append_left _ (List.mem_of_getElem? (i := 173) rfl)
set_option maxRecDepth 100000 in
theorem wC_mRX0_81 : Cond.methodLink RX0 81 yX0_isLineBegin ∈ TBC := List.mem_append_left _ (List.mem_of_getElem? (i := 174) rfl)
set_option maxRecDepth 100000 in
theorem wC_im_yX0_isLineBegin : Cond.instanceMethod yX0_isLineBegin ∈ TBC := List.mem_append_left _ (List.mem_of_getElem? (i := 175) rfl)
set_option maxRecDepth 100000 in
theorem wC_sl_yX0_isLineBegin : Cond.selects RX0 yX0_isLineBegin yX0_isLineBegin ∈ TBC := List.mem_append_left _ (List.mem_of_getElem? (i := 176) rfl)
set_option maxRecDepth 100000 in
theorem wC_mRX0_85 : Cond.methodLink RX0 85 yX0_isLineEnd ∈ TBC := List.mem_append_left _ (List.mem_of_getElem? (i := 177) rfl)
set_option maxRecDepth 100000 in
theorem wC_im_yX0_isLineEnd : Cond.instanceMethod yX0_isLineEnd ∈ TBC := List.mem_append_left _ (List.mem_of_getElem? (i := 178) rfl)
set_option maxRecDepth 100000 in
theorem wC_sl_yX0_isLineEnd : Cond.selects RX0 yX0_isLineEnd yX0_isLineEnd ∈ TBC := List.mem_append_left _ (List.mem_of_getElem? (i := 179) rfl)
set_option maxRecDepth 100000 in
theorem wC_mRX0_88 : Cond.methodLink RX0 88 yX0_passReference ∈ TBC := List.mem_append_left _ (List.mem_of_getElem? (i := 180) rfl)
set_option maxRecDepth 100000 in
theorem wC_im_yX0_passReference : Cond.instanceMethod yX0_passReference ∈ TBC := List.mem_append_left _ (List.mem_of_getElem? (i := 181) rfl)
set_option maxRecDepth 100000 in
theorem wC_sl_yX0_passReference : Cond.selects RX0 yX0_passReference yX0_passReference ∈ TBC := List.mem_append_left _ (List.mem_of_getElem? (i := 182) rfl)
set_option maxRecDepth 100000 in
theorem wC_mRX0_91 : Cond.methodLink RX0 91 yX0_beginAlternative ∈ TBC := List.mem_append_left _ (List.mem_of_getElem? (i := 183) rfl)
set_option maxRecDepth 100000 in
theorem wC_im_yX0_beginAlternative : Cond.instanceMethod yX0_beginAlternative ∈ TBC := List.mem_append_left _ (List.mem_of_getElem? (i := 184) rfl)
set_option maxRecDepth 100000 in
theorem wC_sl_yX0_beginAlternative : Cond.selects RX0 yX0_beginAlternative yX0_beginAlternative ∈ TBC := List.mem_append_left _ (List.mem_of_getElem? (i := 185) rfl)
set_option maxRecDepth 100000 in
theorem wC_mRX0_97 : Cond.methodLink RX0 97 yX0_beginGroup ∈ TBC := List.mem_append_left _ (List.mem_of_getElem? (i := 186) rfl)
set_option maxRecDepth 100000 in
theorem wC_im_yX0_beginGroup : Cond.instanceMethod yX0_beginGroup ∈ TBC := List.mem_append_left _ (List.mem_of_getElem? (i := 187) rfl)
set_option maxRecDepth 100000 in
theorem wC_sl_yX0_beginGroup : Cond.selects RX0 yX0_beginGroup yX0_beginGroup ∈ TBC := List.mem_append_left _ (List.mem_of_getElem? (i := 188) rfl)
set_option maxRecDepth 100000 in
theorem wC_mRX0_100 : Cond.methodLink RX0 100 yX0_endGroup ∈ TBC := List.mem_append_left _ (List.mem_of_getElem? (i := 189) rfl)
set_option maxRecDepth 100000 in
theorem wC_im_yX0_endGroup : Cond.instanceMethod yX0_endGroup ∈ TBC := List.mem_append_left _ (List.mem_of_getElem? (i := 190) rfl)
set_option maxRecDepth 100000 in
theorem wC_sl_yX0_endGroup : Cond.selects RX0 yX0_endGroup yX0_endGroup ∈ TBC := List.mem_append_left _ (List.mem_of_getElem? (i := 191) rfl)
set_option maxRecDepth 100000 in
theorem wC_mRX0_103 : Cond.methodLink RX0 103 yX0_enterLoop ∈ TBC := List.mem_append_left _ (List.mem_of_getElem? (i := 192) rfl)
set_option maxRecDepth 100000 in
theorem wC_im_yX0_enterLoop : Cond.instanceMethod yX0_enterLoop ∈ TBC := List.mem_append_left _ (List.mem_of_getElem? (i := 193) rfl)
set_option maxRecDepth 100000 in
theorem wC_sl_yX0_enterLoop : Cond.selects RX0 yX0_enterLoop yX0_enterLoop ∈ TBC := List.mem_append_left _ (List.mem_of_getElem? (i := 194) rfl)
set_option maxRecDepth 100000 in
theorem wC_mRX0_106 : Cond.methodLink RX0 106 yX0_endPass ∈ TBC := List.mem_append_left _ (List.mem_of_getElem? (i := 195) rfl)
set_option maxRecDepth 100000 in
theorem wC_im_yX0_endPass : Cond.instanceMethod yX0_endPass ∈ TBC := List.mem_append_left _ (List.mem_of_getElem? (i := 196) rfl)
set_option maxRecDepth 100000 in
theorem wC_sl_yX0_endPass : Cond.selects RX0 yX0_endPass yX0_endPass ∈ TBC := List.mem_append_left _ (List.mem_of_getElem? (i := 197) rfl)
set_option maxRecDepth 100000 in
theorem wC_mRX0_109 : Cond.methodLink RX0 109 yX0_beginPass ∈ TBC := List.mem_append_left _ (List.mem_of_getElem? (i := 198) rfl)
set_option maxRecDepth 100000 in
theorem wC_im_yX0_beginPass : Cond.instanceMethod yX0_beginPass ∈ TBC := List.mem_append_left _ (List.mem_of_getElem? (i := 199) rfl)
set_option maxRecDepth 100000 in
theorem wC_sl_yX0_beginPass : Cond.selects RX0 yX0_beginPass yX0_beginPass ∈ TBC := List.mem_append_left _ (List.mem_of_getElem? (i := 200) rfl)
set_option maxRecDepth 100000 in
theorem wC_mRX0_112 : Cond.methodLink RX0 112 yX0_beginLook ∈ TBC := List.mem_append_left _ (List.mem_of_getElem? (i := 201) rfl)
set_option maxRecDepth 100000 in
theorem wC_im_yX0_beginLook : Cond.instanceMethod yX0_beginLook ∈ TBC := List.mem_append_left _ (List.mem_of_getElem? (i := 202) rfl)
set_option maxRecDepth 100000 in
theorem wC_sl_yX0_beginLook : Cond.selects RX0 yX0_beginLook yX0_beginLook ∈ TBC := List.mem_append_left _ (List.mem_of_getElem? (i := 203) rfl)
set_option maxRecDepth 100000 in
theorem wC_mRX0_115 : Cond.methodLink RX0 115 yX0_endLook ∈ TBC := List.mem_append_left _ (List.mem_of_getElem? (i := 204) rfl)
set_option maxRecDepth 100000 in
theorem wC_im_yX0_endLook : Cond.instanceMethod yX0_endLook ∈ TBC := List.mem_append_left _ (List.mem_of_getElem? (i := 205) rfl)
set_option maxRecDepth 100000 in
theorem wC_sl_yX0_endLook : Cond.selects RX0 yX0_endLook yX0_endLook ∈ TBC := List.mem_append_left _ (List.mem_of_getElem? (i := 206) rfl)
set_option maxRecDepth 100000 in
theorem wC_mRX0_118 : Cond.methodLink RX0 118 yX0_beginLookNot ∈ TBC := List.mem_append_left _ (List.mem_of_getElem? (i := 207) rfl)
set_option maxRecDepth 100000 in
theorem wC_im_yX0_beginLookNot : Cond.instanceMethod yX0_beginLookNot ∈ TBC := List.mem_append_left _ (List.mem_of_getElem? (i := 208) rfl)
set_option maxRecDepth 100000 in
theorem wC_sl_yX0_beginLookNot : Cond.selects RX0 yX0_beginLookNot yX0_beginLookNot ∈ TBC := List.mem_append_left _ (List.mem_of_getElem? (i := 209) rfl)
set_option maxRecDepth 100000 in
theorem wC_mRX0_121 : Cond.methodLink RX0 121 yX0_endLookNot ∈ TBC := List.mem_append_left _ (List.mem_of_getElem? (i := 210) rfl)
set_option maxRecDepth 100000 in
theorem wC_im_yX0_endLookNot : Cond.instanceMethod yX0_endLookNot ∈ TBC := List.mem_append_left _ (List.mem_of_getElem? (i := 211) rfl)
set_option maxRecDepth 100000 in
theorem wC_sl_yX0_endLookNot : Cond.selects RX0 yX0_endLookNot yX0_endLookNot ∈ TBC := List.mem_append_left _ (List.mem_of_getElem? (i := 212) rfl)
set_option maxRecDepth 100000 in
theorem wC_cd_yX0_carryOut : Cond.code yX0_carryOut cX0_carryOut 2 (some .int) ∈ TBC := List.mem_append_left _ (List.mem_of_getElem? (i := 213) rfl)
set_option maxRecDepth 100000 in
theorem wC_cd_yX1_undoDownTo : Cond.code yX1_undoDownTo cX1_undoDownTo 3 none ∈ TBC := List.mem_append_left _ (List.mem_of_getElem? (i := 214) rfl)
set_option maxRecDepth 100000 in
theorem wC_cd_yX1_goBack : Cond.code yX1_goBack cX1_goBack 1 (some .int) ∈ TBC := List.mem_append_left _ (List.mem_of_getElem? (i := 215) rfl)
set_option maxRecDepth 100000 in
theorem wC_fRX1_42 : Cond.fieldLink RX1 42 "PatternRunner$Past" "placeBack" "I" ∈ TBC := List.mem_append_left _ (List.mem_of_getElem? (i := 216) rfl)
set_option maxRecDepth 100000 in
theorem wC_mRX1_38 : Cond.methodLink RX1 38 yX1_undoDownTo ∈ TBC := List.mem_append_left _ (List.mem_of_getElem? (i := 217) rfl)
set_option maxRecDepth 100000 in
theorem wC_im_yX1_undoDownTo : Cond.instanceMethod yX1_undoDownTo ∈ TBC := List.mem_append_left _ (List.mem_of_getElem? (i := 218) rfl)
set_option maxRecDepth 100000 in
theorem wC_sl_yX1_undoDownTo : Cond.selects RX1 yX1_undoDownTo yX1_undoDownTo ∈ TBC := List.mem_append_left _ (List.mem_of_getElem? (i := 219) rfl)
set_option maxRecDepth 100000 in
theorem wC_cd_yX1_placeBack : Cond.code yX1_placeBack cX1_placeBack 1 (some .int) ∈ TBC := List.mem_append_left _ (List.mem_of_getElem? (i := 220) rfl)
set_option maxRecDepth 100000 in
theorem wC_kRX0_61 : Cond.constant RX0 61 (1000000) ∈ TBC := List.mem_append_left _ (List.mem_of_getElem? (i := 221) rfl)
set_option maxRecDepth 100000 in
theorem wC_mRX0_55 : Cond.methodLink RX0 55 yX1_clear ∈ TBC := List.mem_append_left _ (List.mem_of_getElem? (i := 222) rfl)
set_option maxRecDepth 100000 in
theorem wC_im_yX1_clear : Cond.instanceMethod yX1_clear ∈ TBC := List.mem_append_left _ (List.mem_of_getElem? (i := 223) rfl)
set_option maxRecDepth 100000 in
theorem wC_sl_yX1_clear : Cond.selects RX1 yX1_clear yX1_clear ∈ TBC := List.mem_append_left _ (List.mem_of_getElem? (i := 224) rfl)
set_option maxRecDepth 100000 in
theorem wC_mRX0_62 : Cond.methodLink RX0 62 yX0_carryOut ∈ TBC := List.mem_append_left _ (List.mem_of_getElem? (i := 225) rfl)
set_option maxRecDepth 100000 in
theorem wC_im_yX0_carryOut : Cond.instanceMethod yX0_carryOut ∈ TBC := List.mem_append_left _ (List.mem_of_getElem? (i := 226) rfl)
set_option maxRecDepth 100000 in
theorem wC_sl_yX0_carryOut : Cond.selects RX0 yX0_carryOut yX0_carryOut ∈ TBC := List.mem_append_left _ (List.mem_of_getElem? (i := 227) rfl)
set_option maxRecDepth 100000 in
theorem wC_mRX0_69 : Cond.methodLink RX0 69 yX1_goBack ∈ TBC := List.mem_append_left _ (List.mem_of_getElem? (i := 228) rfl)
set_option maxRecDepth 100000 in
theorem wC_im_yX1_goBack : Cond.instanceMethod yX1_goBack ∈ TBC := List.mem_append_left _ (List.mem_of_getElem? (i := 229) rfl)
set_option maxRecDepth 100000 in
theorem wC_sl_yX1_goBack : Cond.selects RX1 yX1_goBack yX1_goBack ∈ TBC := List.mem_append_left _ (List.mem_of_getElem? (i := 230) rfl)
set_option maxRecDepth 100000 in
theorem wC_mRX0_72 : Cond.methodLink RX0 72 yX1_placeBack ∈ TBC := List.mem_append_left _ (List.mem_of_getElem? (i := 231) rfl)
set_option maxRecDepth 100000 in
theorem wC_im_yX1_placeBack : Cond.instanceMethod yX1_placeBack ∈ TBC := List.mem_append_left _ (List.mem_of_getElem? (i := 232) rfl)
set_option maxRecDepth 100000 in
theorem wC_sl_yX1_placeBack : Cond.selects RX1 yX1_placeBack yX1_placeBack ∈ TBC := List.mem_append_left _ (List.mem_of_getElem? (i := 233) rfl)
set_option maxRecDepth 100000 in
theorem wC_cd_yX0_isFoundAt : Cond.code yX0_isFoundAt cX0_isFoundAt 4 (some .boolean) ∈ TBC := List.mem_append_left _ (List.mem_of_getElem? (i := 234) rfl)
set_option maxRecDepth 100000 in
theorem wC_mRX0_42 : Cond.methodLink RX0 42 Lib.Math.min.name ∈ TBC := List.mem_append_left _ (List.mem_of_getElem? (i := 235) rfl)
set_option maxRecDepth 100000 in
theorem wC_mRX0_48 : Cond.methodLink RX0 48 yX0_isFoundAt ∈ TBC := List.mem_append_left _ (List.mem_of_getElem? (i := 236) rfl)
set_option maxRecDepth 100000 in
theorem wC_im_yX0_isFoundAt : Cond.instanceMethod yX0_isFoundAt ∈ TBC := List.mem_append_left _ (List.mem_of_getElem? (i := 237) rfl)
set_option maxRecDepth 100000 in
theorem wC_sl_yX0_isFoundAt : Cond.selects RX0 yX0_isFoundAt yX0_isFoundAt ∈ TBC := List.mem_append_left _ (List.mem_of_getElem? (i := 238) rfl)
set_option maxRecDepth 100000 in
theorem wC_cd_yX0_search : Cond.code yX0_search cX0_search 5 (some .int) ∈ TBC := List.mem_append_left _ (List.mem_of_getElem? (i := 239) rfl)
set_option maxRecDepth 100000 in
theorem wC_cd_yX0_stepsMade : Cond.code yX0_stepsMade cX0_stepsMade 1 (some .int) ∈ TBC := List.mem_append_left _ (List.mem_of_getElem? (i := 240) rfl)
set_option maxRecDepth 100000 in
theorem wC_cd_yX2_init : Cond.code yX2_init cX2_init 1 none ∈ TBC := List.mem_append_left _ (List.mem_of_getElem? (i := 241) rfl)
set_option maxRecDepth 100000 in
theorem wC_mRX2_3 : Cond.methodLink RX2 3 objectInit ∈ TBC := List.mem_append_left _ (List.mem_of_getElem? (i := 242) rfl)
set_option maxRecDepth 100000 in
theorem wC_ac__long : Cond.arrayClass .long ∈ TBC := List.mem_append_left _ (List.mem_of_getElem? (i := 243) rfl)
set_option maxRecDepth 100000 in
theorem wC_cd_yX2_clear : Cond.code yX2_clear cX2_clear 2 none ∈ TBC := List.mem_append_left _ (List.mem_of_getElem? (i := 244) rfl)
set_option maxRecDepth 100000 in
theorem wC_fRX2_47 : Cond.fieldLink RX2 47 "PatternRunner$Program" "looks" "I" ∈ TBC := List.mem_append_left _ (List.mem_of_getElem? (i := 245) rfl)
set_option maxRecDepth 100000 in
theorem wC_fRX2_50 : Cond.fieldLink RX2 50 "PatternRunner$Program" "groups" "I" ∈ TBC := List.mem_append_left _ (List.mem_of_getElem? (i := 246) rfl)
set_option maxRecDepth 100000 in
theorem wC_cd_yX2_size : Cond.code yX2_size cX2_size 1 (some .int) ∈ TBC := List.mem_append_left _ (List.mem_of_getElem? (i := 247) rfl)
set_option maxRecDepth 100000 in
theorem wC_cd_yX2_groups : Cond.code yX2_groups cX2_groups 1 (some .int) ∈ TBC := List.mem_append_left _ (List.mem_of_getElem? (i := 248) rfl)
set_option maxRecDepth 100000 in
theorem wC_cd_yX2_add : Cond.code yX2_add cX2_add 4 (some .int) ∈ TBC := List.mem_append_left _ (List.mem_of_getElem? (i := 249) rfl)
set_option maxRecDepth 100000 in
theorem wC_cRX2_63 : Cond.classLink RX2 63 "java/lang/IllegalArgumentException" ∈ TBC := List.mem_append_left _ (List.mem_of_getElem? (i := 250) rfl)
set_option maxRecDepth 100000 in
theorem wC_in__java_lang_IllegalArgumentException_ : Cond.initialized "java/lang/IllegalArgumentException" ∈ TBC := List.mem_append_left _ (List.mem_of_getElem? (i := 251) rfl)
set_option maxRecDepth 100000 in
theorem wC_cd_yX5_lower : Cond.code yX5_lower cX5_lower 1 (some .long) ∈ TBC := List.mem_append_left _ (List.mem_of_getElem? (i := 252) rfl)
set_option maxRecDepth 100000 in
theorem wC_fRX5_9 : Cond.fieldLink RX5 9 "PatternRunner$SignSet" "lower" "J" ∈ TBC := List.mem_append_left _ (List.mem_of_getElem? (i := 253) rfl)
set_option maxRecDepth 100000 in
theorem wC_cd_yX5_upper : Cond.code yX5_upper cX5_upper 1 (some .long) ∈ TBC := List.mem_append_left _ (List.mem_of_getElem? (i := 254) rfl)
set_option maxRecDepth 100000 in
theorem wC_fRX5_13 : Cond.fieldLink RX5 13 "PatternRunner$SignSet" "upper" "J" ∈ TBC := List.mem_append_left _ (List.mem_of_getElem? (i := 255) rfl)
set_option maxRecDepth 100000 in
theorem wC_mRX2_70 : Cond.methodLink RX2 70 yX2_add ∈ TBC := List.mem_append_left _ (List.mem_of_getElem? (i := 256) rfl)
set_option maxRecDepth 100000 in
theorem wC_im_yX2_add : Cond.instanceMethod yX2_add ∈ TBC := List.mem_append_left _ (List.mem_of_getElem? (i := 257) rfl)
set_option maxRecDepth 100000 in
theorem wC_sl_yX2_add : Cond.selects RX2 yX2_add yX2_add ∈ TBC := List.mem_append_left _ (List.mem_of_getElem? (i := 258) rfl)
set_option maxRecDepth 100000 in
theorem wC_mRX2_74 : Cond.methodLink RX2 74 yX5_lower ∈ TBC := List.mem_append_left _ (List.mem_of_getElem? (i := 259) rfl)
set_option maxRecDepth 100000 in
theorem wC_im_yX5_lower : Cond.instanceMethod yX5_lower ∈ TBC := List.mem_append_left _ (List.mem_of_getElem? (i := 260) rfl)
set_option maxRecDepth 100000 in
theorem wC_sl_yX5_lower : Cond.selects RX5 yX5_lower yX5_lower ∈ TBC := List.mem_append_left _ (List.mem_of_getElem? (i := 261) rfl)
set_option maxRecDepth 100000 in
theorem wC_in_RX5 : Cond.initialized RX5 ∈ TBC := List.mem_append_left _ (List.mem_of_getElem? (i := 262) rfl)
set_option maxRecDepth 100000 in
theorem wC_mRX2_79 : Cond.methodLink RX2 79 yX5_upper ∈ TBC := List.mem_append_left _ (List.mem_of_getElem? (i := 263) rfl)
set_option maxRecDepth 100000 in
theorem wC_im_yX5_upper : Cond.instanceMethod yX5_upper ∈ TBC := List.mem_append_left _ (List.mem_of_getElem? (i := 264) rfl)
set_option maxRecDepth 100000 in
theorem wC_sl_yX5_upper : Cond.selects RX5 yX5_upper yX5_upper ∈ TBC := List.mem_append_left _ (List.mem_of_getElem? (i := 265) rfl)
set_option maxRecDepth 100000 in
theorem wC_cd_yX2_addOneSign : Cond.code yX2_addOneSign cX2_addOneSign 3 none ∈ TBC := List.mem_append_left _ (List.mem_of_getElem? (i := 266) rfl)
set_option maxRecDepth 100000 in
theorem wC_cd_yX2_aimAt : Cond.code yX2_aimAt cX2_aimAt 3 none ∈ TBC := List.mem_append_left _ (List.mem_of_getElem? (i := 267) rfl)
set_option maxRecDepth 100000 in
theorem wC_cd_yX2_aimChainAt : Cond.code yX2_aimChainAt cX2_aimChainAt 6 none ∈ TBC := List.mem_append_left _ (List.mem_of_getElem? (i := 268) rfl)
set_option maxRecDepth 100000 in
theorem wC_mRX2_81 : Cond.methodLink RX2 81 yX2_aim ∈ TBC := List.mem_append_left _ (List.mem_of_getElem? (i := 269) rfl)
set_option maxRecDepth 100000 in
theorem wC_mRX2_85 : Cond.methodLink RX2 85 yX2_aimAt ∈ TBC := List.mem_append_left _ (List.mem_of_getElem? (i := 270) rfl)
set_option maxRecDepth 100000 in
theorem wC_im_yX2_aimAt : Cond.instanceMethod yX2_aimAt ∈ TBC := List.mem_append_left _ (List.mem_of_getElem? (i := 271) rfl)
set_option maxRecDepth 100000 in
theorem wC_sl_yX2_aimAt : Cond.selects RX2 yX2_aimAt yX2_aimAt ∈ TBC := List.mem_append_left _ (List.mem_of_getElem? (i := 272) rfl)
set_option maxRecDepth 100000 in
theorem wC_cd_yX2_addGroup : Cond.code yX2_addGroup cX2_addGroup 1 (some .int) ∈ TBC := List.mem_append_left _ (List.mem_of_getElem? (i := 273) rfl)
set_option maxRecDepth 100000 in
theorem wC_cd_yX2_addLook : Cond.code yX2_addLook cX2_addLook 1 (some .int) ∈ TBC := List.mem_append_left _ (List.mem_of_getElem? (i := 274) rfl)
set_option maxRecDepth 100000 in
theorem wC_cd_yX2_addLoop : Cond.code yX2_addLoop cX2_addLoop 4 (some .int) ∈ TBC := List.mem_append_left _ (List.mem_of_getElem? (i := 275) rfl)
set_option maxRecDepth 100000 in
theorem wC_cd_yX5_init : Cond.code yX5_init cX5_init 1 none ∈ TBC := List.mem_append_left _ (List.mem_of_getElem? (i := 276) rfl)
set_option maxRecDepth 100000 in
theorem wC_mRX5_3 : Cond.methodLink RX5 3 objectInit ∈ TBC := List.mem_append_left _ (List.mem_of_getElem? (i := 277) rfl)
set_option maxRecDepth 100000 in
theorem wC_cd_yX3_init : Cond.code yX3_init cX3_init 3 none ∈ TBC := List.mem_append_left _ (List.mem_of_getElem? (i := 278) rfl)
set_option maxRecDepth 100000 in
theorem wC_mRX3_3 : Cond.methodLink RX3 3 objectInit ∈ TBC := List.mem_append_left _ (List.mem_of_getElem? (i := 279) rfl)
set_option maxRecDepth 100000 in
theorem wC_cRX3_9 : Cond.classLink RX3 9 RX5 ∈ TBC := List.mem_append_left _ (List.mem_of_getElem? (i := 280) rfl)
set_option maxRecDepth 100000 in
theorem wC_it_RX5 : Cond.instantiable RX5 2 ∈ TBC := List.mem_append_left _ (List.mem_of_getElem? (i := 281) rfl)
set_option maxRecDepth 100000 in
theorem wC_fRX3_12 : Cond.fieldLink RX3 12 "PatternRunner$Reader" "fitting" "LPatternRunner$SignSet;" ∈ TBC := List.mem_append_left _ (List.mem_of_getElem? (i := 282) rfl)
set_option maxRecDepth 100000 in
theorem wC_fRX3_18 : Cond.fieldLink RX3 18 "PatternRunner$Reader" "source" "LPatternRunner$SignRow;" ∈ TBC := List.mem_append_left _ (List.mem_of_getElem? (i := 283) rfl)
set_option maxRecDepth 100000 in
theorem wC_fRX3_22 : Cond.fieldLink RX3 22 "PatternRunner$Reader" "made" "LPatternRunner$Program;" ∈ TBC := List.mem_append_left _ (List.mem_of_getElem? (i := 284) rfl)
set_option maxRecDepth 100000 in
theorem wC_im_yX5_init : Cond.instanceMethod yX5_init ∈ TBC := List.mem_append_left _ (List.mem_of_getElem? (i := 285) rfl)
set_option maxRecDepth 100000 in
theorem wC_cd_yX3_take : Cond.code yX3_take cX3_take 2 (some .boolean) ∈ TBC := List.mem_append_left _ (List.mem_of_getElem? (i := 286) rfl)
set_option maxRecDepth 100000 in
theorem wC_fRX3_32 : Cond.fieldLink RX3 32 "PatternRunner$Reader" "at" "I" ∈ TBC := List.mem_append_left _ (List.mem_of_getElem? (i := 287) rfl)
set_option maxRecDepth 100000 in
theorem wC_mRX3_70 : Cond.methodLink RX3 70 yX4_at ∈ TBC := List.mem_append_left _ (List.mem_of_getElem? (i := 288) rfl)
set_option maxRecDepth 100000 in
theorem wC_cd_yX3_takeOpening : Cond.code yX3_takeOpening cX3_takeOpening 2 (some .boolean) ∈ TBC := List.mem_append_left _ (List.mem_of_getElem? (i := 289) rfl)
set_option maxRecDepth 100000 in
theorem wC_cd_yX5_clear : Cond.code yX5_clear cX5_clear 1 none ∈ TBC := List.mem_append_left _ (List.mem_of_getElem? (i := 290) rfl)
set_option maxRecDepth 100000 in
theorem wC_cd_yJ0_isLatin1_aae02 : Cond.code yJ0_isLatin1_aae02 cJ0_isLatin1_aae02 1 (some .boolean) ∈ TBC := List.mem_append_left _ (List.mem_of_getElem? (i := 291) rfl)
set_option maxRecDepth 100000 in
theorem wC_fRJ0_38 : Cond.fieldLink RJ0 38 "java/lang/String" "COMPACT_STRINGS" "Z" ∈ TBC := List.mem_append_left _ (List.mem_of_getElem? (i := 292) rfl)
set_option maxRecDepth 100000 in
theorem wC_fRJ0_15 : Cond.fieldLink RJ0 15 "java/lang/String" "coder" "B" ∈ TBC := List.mem_append_left _ (List.mem_of_getElem? (i := 293) rfl)
set_option maxRecDepth 100000 in
theorem wC_cd_yJ0_coder_7d493 : Cond.code yJ0_coder_7d493 cJ0_coder_7d493 1 (some .byte) ∈ TBC := List.mem_append_left _ (List.mem_of_getElem? (i := 294) rfl)
set_option maxRecDepth 100000 in
theorem wC_cd_yJ0_length_8abf5 : Cond.code yJ0_length_8abf5 cJ0_length_8abf5 1 (some .int) ∈ TBC := List.mem_append_left _ (List.mem_of_getElem? (i := 295) rfl)
set_option maxRecDepth 100000 in
theorem wC_fRJ0_9 : Cond.fieldLink RJ0 9 "java/lang/String" "value" "[B" ∈ TBC := List.mem_append_left _ (List.mem_of_getElem? (i := 296) rfl)
set_option maxRecDepth 100000 in
theorem wC_mRJ0_335 : Cond.methodLink RJ0 335 yJ0_coder_7d493 ∈ TBC := List.mem_append_left _ (List.mem_of_getElem? (i := 297) rfl)
set_option maxRecDepth 100000 in
theorem wC_im_yJ0_coder_7d493 : Cond.instanceMethod yJ0_coder_7d493 ∈ TBC := List.mem_append_left _ (List.mem_of_getElem? (i := 298) rfl)
set_option maxRecDepth 100000 in
theorem wC_sl_yJ0_coder_7d493 : Cond.selects RJ0 yJ0_coder_7d493 yJ0_coder_7d493 ∈ TBC := List.mem_append_left _ (List.mem_of_getElem? (i := 299) rfl)
set_option maxRecDepth 100000 in
theorem wC_in_RJ0 : Cond.initialized RJ0 ∈ TBC := List.mem_append_left _ (List.mem_of_getElem? (i := 300) rfl)
set_option maxRecDepth 100000 in
theorem wC_cd_yJ1_canEncode_9a6ad : Cond.code yJ1_canEncode_9a6ad cJ1_canEncode_9a6ad 1 (some .boolean) ∈ TBC := List.mem_append_left _ (List.mem_of_getElem? (i := 301) rfl)
set_option maxRecDepth 100000 in
theorem wC_cd_yJ1_indexOfChar_4cfef : Cond.code yJ1_indexOfChar_4cfef cJ1_indexOfChar_4cfef 6 (some .int) ∈ TBC := List.mem_append_left _ (List.mem_of_getElem? (i := 302) rfl)
set_option maxRecDepth 100000 in
theorem wC_cd_yJ1_indexOf_4cfef : Cond.code yJ1_indexOf_4cfef cJ1_indexOf_4cfef 4 (some .int) ∈ TBC := List.mem_append_left _ (List.mem_of_getElem? (i := 303) rfl)
set_option maxRecDepth 100000 in
theorem wC_mRJ1_92 : Cond.methodLink RJ1 92 Lib.Math.max.name ∈ TBC := List.mem_append_left _ (List.mem_of_getElem? (i := 304) rfl)
set_option maxRecDepth 100000 in
theorem wC_st_Lib_Math_max_name : Cond.static Lib.Math.max.name ∈ TBC := List.mem_append_left _ (List.mem_of_getElem? (i := 305) rfl)
set_option maxRecDepth 100000 in
theorem wC_cd_Lib_Math_max_name : Cond.code Lib.Math.max.name Lib.Math.max.code 2 (some .int) ∈ TBC := List.mem_append_left _ (List.mem_of_getElem? (i := 306) rfl)
set_option maxRecDepth 100000 in
theorem wC_mRJ1_38 : Cond.methodLink RJ1 38 Lib.Math.min.name ∈ TBC := List.mem_append_left _ (List.mem_of_getElem? (i := 307) rfl)
set_option maxRecDepth 100000 in
theorem wC_mRJ1_88 : Cond.methodLink RJ1 88 yJ1_canEncode_9a6ad ∈ TBC := List.mem_append_left _ (List.mem_of_getElem? (i := 308) rfl)
set_option maxRecDepth 100000 in
theorem wC_st_yJ1_canEncode_9a6ad : Cond.static yJ1_canEncode_9a6ad ∈ TBC := List.mem_append_left _ (List.mem_of_getElem? (i := 309) rfl)
set_option maxRecDepth 100000 in
theorem wC_in_RJ1 : Cond.initialized RJ1 ∈ TBC := List.mem_append_left _ (List.mem_of_getElem? (i := 310) rfl)
set_option maxRecDepth 100000 in
theorem wC_mRJ1_95 : Cond.methodLink RJ1 95 yJ1_indexOfChar_4cfef ∈ TBC := List.mem_append_left _ (List.mem_of_getElem? (i := 311) rfl)
set_option maxRecDepth 100000 in
theorem wC_st_yJ1_indexOfChar_4cfef : Cond.static yJ1_indexOfChar_4cfef ∈ TBC := List.mem_append_left _ (List.mem_of_getElem? (i := 312) rfl)
set_option maxRecDepth 100000 in
theorem wC_cd_yJ0_checkBoundsBeginEnd_23922 : Cond.code yJ0_checkBoundsBeginEnd_23922 cJ0_checkBoundsBeginEnd_23922 3 none ∈ TBC := List.mem_append_left _ (List.mem_of_getElem? (i := 313) rfl)
set_option maxRecDepth 100000 in
theorem wC_fRJ0_1053 : Cond.fieldLink RJ0 1053 "jdk/internal/util/Preconditions" "SIOOBE_FORMATTER" "Ljava/util/function/BiFunction;" ∈ TBC := List.mem_append_left _ (List.mem_of_getElem? (i := 314) rfl)
set_option maxRecDepth 100000 in
theorem wC_st_yJ0_checkBoundsBeginEnd_23922 : Cond.static yJ0_checkBoundsBeginEnd_23922 ∈ TBC := List.mem_append_left _ (List.mem_of_getElem? (i := 315) rfl)
set_option maxRecDepth 100000 in
theorem wC_mRJ0_492 : Cond.methodLink RJ0 492 yJ0_isLatin1_aae02 ∈ TBC := List.mem_append_left _ (List.mem_of_getElem? (i := 316) rfl)
set_option maxRecDepth 100000 in
theorem wC_im_yJ0_isLatin1_aae02 : Cond.instanceMethod yJ0_isLatin1_aae02 ∈ TBC := List.mem_append_left _ (List.mem_of_getElem? (i := 317) rfl)
set_option maxRecDepth 100000 in
theorem wC_sl_yJ0_isLatin1_aae02 : Cond.selects RJ0 yJ0_isLatin1_aae02 yJ0_isLatin1_aae02 ∈ TBC := List.mem_append_left _ (List.mem_of_getElem? (i := 318) rfl)
set_option maxRecDepth 100000 in
theorem wC_mRJ0_505 : Cond.methodLink RJ0 505 yJ0_length_8abf5 ∈ TBC := List.mem_append_left _ (List.mem_of_getElem? (i := 319) rfl)
set_option maxRecDepth 100000 in
theorem wC_im_yJ0_length_8abf5 : Cond.instanceMethod yJ0_length_8abf5 ∈ TBC := List.mem_append_left _ (List.mem_of_getElem? (i := 320) rfl)
set_option maxRecDepth 100000 in
theorem wC_sl_yJ0_length_8abf5 : Cond.selects RJ0 yJ0_length_8abf5 yJ0_length_8abf5 ∈ TBC := List.mem_append_left _ (List.mem_of_getElem? (i := 321) rfl)
set_option maxRecDepth 100000 in
theorem wC_mRJ0_637 : Cond.methodLink RJ0 637 yJ1_indexOf_4cfef ∈ TBC := List.mem_append_left _ (List.mem_of_getElem? (i := 322) rfl)
set_option maxRecDepth 100000 in
theorem wC_st_yJ1_indexOf_4cfef : Cond.static yJ1_indexOf_4cfef ∈ TBC := List.mem_append_left _ (List.mem_of_getElem? (i := 323) rfl)
set_option maxRecDepth 100000 in
theorem wC_cd_yJ0_indexOf_7cf53 : Cond.code yJ0_indexOf_7cf53 cJ0_indexOf_7cf53 3 (some .int) ∈ TBC := List.mem_append_left _ (List.mem_of_getElem? (i := 324) rfl)
set_option maxRecDepth 100000 in
theorem wC_mRJ0_633 : Cond.methodLink RJ0 633 yJ0_indexOf_7cf53 ∈ TBC := List.mem_append_left _ (List.mem_of_getElem? (i := 325) rfl)
set_option maxRecDepth 100000 in
theorem wC_im_yJ0_indexOf_7cf53 : Cond.instanceMethod yJ0_indexOf_7cf53 ∈ TBC := List.mem_append_left _ (List.mem_of_getElem? (i := 326) rfl)
set_option maxRecDepth 100000 in
theorem wC_sl_yJ0_indexOf_7cf53 : Cond.selects RJ0 yJ0_indexOf_7cf53 yJ0_indexOf_7cf53 ∈ TBC := List.mem_append_left _ (List.mem_of_getElem? (i := 327) rfl)
set_option maxRecDepth 100000 in
theorem wC_cd_yJ0_indexOf_0f7a4 : Cond.code yJ0_indexOf_0f7a4 cJ0_indexOf_0f7a4 2 (some .int) ∈ TBC := List.mem_append_left _ (List.mem_of_getElem? (i := 328) rfl)
set_option maxRecDepth 100000 in
theorem wC_cd_yX5_addAll : Cond.code yX5_addAll cX5_addAll 5 none ∈ TBC := List.mem_append_left _ (List.mem_of_getElem? (i := 329) rfl)
set_option maxRecDepth 100000 in
theorem wC_cd_yX5_addKind : Cond.code yX5_addKind cX5_addKind 2 none ∈ TBC := List.mem_append_left _ (List.mem_of_getElem? (i := 330) rfl)
set_option maxRecDepth 100000 in
theorem wC_kRX5_20 : Cond.constantLong RX5 20 (287948901175001088) ∈ TBC := List.mem_append_left _ (List.mem_of_getElem? (i := 331) rfl)
set_option maxRecDepth 100000 in
theorem wC_kRX5_26 : Cond.constantLong RX5 26 (-287948901175001089) ∈ TBC := List.mem_append_left _ (List.mem_of_getElem? (i := 332) rfl)
set_option maxRecDepth 100000 in
theorem wC_kRX5_28 : Cond.constantLong RX5 28 (-1) ∈ TBC := List.mem_append_left _ (List.mem_of_getElem? (i := 333) rfl)
set_option maxRecDepth 100000 in
theorem wC_kRX5_30 : Cond.constantLong RX5 30 (576460745995190270) ∈ TBC := List.mem_append_left _ (List.mem_of_getElem? (i := 334) rfl)
set_option maxRecDepth 100000 in
theorem wC_kRX5_32 : Cond.constantLong RX5 32 (-576460745995190271) ∈ TBC := List.mem_append_left _ (List.mem_of_getElem? (i := 335) rfl)
set_option maxRecDepth 100000 in
theorem wC_kRX5_34 : Cond.constantLong RX5 34 (4294967296) ∈ TBC := List.mem_append_left _ (List.mem_of_getElem? (i := 336) rfl)
set_option maxRecDepth 100000 in
theorem wC_kRX5_36 : Cond.constantLong RX5 36 (-4294967297) ∈ TBC := List.mem_append_left _ (List.mem_of_getElem? (i := 337) rfl)
set_option maxRecDepth 100000 in
theorem wC_mRX5_22 : Cond.methodLink RX5 22 yX5_addAll ∈ TBC := List.mem_append_left _ (List.mem_of_getElem? (i := 338) rfl)
set_option maxRecDepth 100000 in
theorem wC_im_yX5_addAll : Cond.instanceMethod yX5_addAll ∈ TBC := List.mem_append_left _ (List.mem_of_getElem? (i := 339) rfl)
set_option maxRecDepth 100000 in
theorem wC_sl_yX5_addAll : Cond.selects RX5 yX5_addAll yX5_addAll ∈ TBC := List.mem_append_left _ (List.mem_of_getElem? (i := 340) rfl)
set_option maxRecDepth 100000 in
theorem wC_cd_yX5_add : Cond.code yX5_add cX5_add 2 none ∈ TBC := List.mem_append_left _ (List.mem_of_getElem? (i := 341) rfl)
set_option maxRecDepth 100000 in
theorem wC_cd_yX5_addSameLetters : Cond.code yX5_addSameLetters cX5_addSameLetters 5 none ∈ TBC := List.mem_append_left _ (List.mem_of_getElem? (i := 342) rfl)
set_option maxRecDepth 100000 in
theorem wC_kRX5_38 : Cond.constantLong RX5 38 (134217726) ∈ TBC := List.mem_append_left _ (List.mem_of_getElem? (i := 343) rfl)
set_option maxRecDepth 100000 in
theorem wC_cd_yX5_turnRound : Cond.code yX5_turnRound cX5_turnRound 1 none ∈ TBC := List.mem_append_left _ (List.mem_of_getElem? (i := 344) rfl)
set_option maxRecDepth 100000 in
theorem wC_mRX3_172 : Cond.methodLink RX3 172 yX2_has ∈ TBC := List.mem_append_left _ (List.mem_of_getElem? (i := 345) rfl)
set_option maxRecDepth 100000 in
theorem wC_mRX3_179 : Cond.methodLink RX3 179 yX5_addSameLetters ∈ TBC := List.mem_append_left _ (List.mem_of_getElem? (i := 346) rfl)
set_option maxRecDepth 100000 in
theorem wC_im_yX5_addSameLetters : Cond.instanceMethod yX5_addSameLetters ∈ TBC := List.mem_append_left _ (List.mem_of_getElem? (i := 347) rfl)
set_option maxRecDepth 100000 in
theorem wC_sl_yX5_addSameLetters : Cond.selects RX5 yX5_addSameLetters yX5_addSameLetters ∈ TBC := List.mem_append_left _ (List.mem_of_getElem? (i := 348) rfl)
set_option maxRecDepth 100000 in
theorem wC_mRX3_182 : Cond.methodLink RX3 182 yX5_turnRound ∈ TBC := List.mem_append_left _ (List.mem_of_getElem? (i := 349) rfl)
set_option maxRecDepth 100000 in
theorem wC_im_yX5_turnRound : Cond.instanceMethod yX5_turnRound ∈ TBC := List.mem_append_left _ (List.mem_of_getElem? (i := 350) rfl)
set_option maxRecDepth 100000 in
theorem wC_sl_yX5_turnRound : Cond.selects RX5 yX5_turnRound yX5_turnRound ∈ TBC := List.mem_append_left _ (List.mem_of_getElem? (i := 351) rfl)
set_option maxRecDepth 100000 in
theorem wC_mRX3_185 : Cond.methodLink RX3 185 yX2_addOneSign ∈ TBC := List.mem_append_left _ (List.mem_of_getElem? (i := 352) rfl)
set_option maxRecDepth 100000 in
theorem wC_im_yX2_addOneSign : Cond.instanceMethod yX2_addOneSign ∈ TBC := List.mem_append_left _ (List.mem_of_getElem? (i := 353) rfl)
set_option maxRecDepth 100000 in
theorem wC_sl_yX2_addOneSign : Cond.selects RX2 yX2_addOneSign yX2_addOneSign ∈ TBC := List.mem_append_left _ (List.mem_of_getElem? (i := 354) rfl)
set_option maxRecDepth 100000 in
theorem wC_cd_yX3_addOneSign : Cond.code yX3_addOneSign cX3_addOneSign 2 (some .int) ∈ TBC := List.mem_append_left _ (List.mem_of_getElem? (i := 355) rfl)
set_option maxRecDepth 100000 in
theorem wC_cRX3_49 : Cond.classLink RX3 49 "java/lang/IllegalArgumentException" ∈ TBC := List.mem_append_left _ (List.mem_of_getElem? (i := 356) rfl)
set_option maxRecDepth 100000 in
theorem wC_fRX3_36 : Cond.fieldLink RX3 36 "PatternRunner$Reader" "greatestReference" "I" ∈ TBC := List.mem_append_left _ (List.mem_of_getElem? (i := 357) rfl)
set_option maxRecDepth 100000 in
theorem wC_mRX3_136 : Cond.methodLink RX3 136 Lib.Math.max.name ∈ TBC := List.mem_append_left _ (List.mem_of_getElem? (i := 358) rfl)
set_option maxRecDepth 100000 in
theorem wC_mRX3_64 : Cond.methodLink RX3 64 yX2_add ∈ TBC := List.mem_append_left _ (List.mem_of_getElem? (i := 359) rfl)
set_option maxRecDepth 100000 in
theorem wC_mRX3_162 : Cond.methodLink RX3 162 yJ0_indexOf_0f7a4 ∈ TBC := List.mem_append_left _ (List.mem_of_getElem? (i := 360) rfl)
set_option maxRecDepth 100000 in
theorem wC_im_yJ0_indexOf_0f7a4 : Cond.instanceMethod yJ0_indexOf_0f7a4 ∈ TBC := List.mem_append_left _ (List.mem_of_getElem? (i := 361) rfl)
set_option maxRecDepth 100000 in
theorem wC_sl_yJ0_indexOf_0f7a4 : Cond.selects RJ0 yJ0_indexOf_0f7a4 yJ0_indexOf_0f7a4 ∈ TBC := List.mem_append_left _ (List.mem_of_getElem? (i := 362) rfl)
set_option maxRecDepth 100000 in
theorem wC_mRX3_190 : Cond.methodLink RX3 190 yX5_addKind ∈ TBC := List.mem_append_left _ (List.mem_of_getElem? (i := 363) rfl)
set_option maxRecDepth 100000 in
theorem wC_im_yX5_addKind : Cond.instanceMethod yX5_addKind ∈ TBC := List.mem_append_left _ (List.mem_of_getElem? (i := 364) rfl)
set_option maxRecDepth 100000 in
theorem wC_sl_yX5_addKind : Cond.selects RX5 yX5_addKind yX5_addKind ∈ TBC := List.mem_append_left _ (List.mem_of_getElem? (i := 365) rfl)
set_option maxRecDepth 100000 in
theorem wC_mRX3_167 : Cond.methodLink RX3 167 yX5_add ∈ TBC := List.mem_append_left _ (List.mem_of_getElem? (i := 366) rfl)
set_option maxRecDepth 100000 in
theorem wC_im_yX5_add : Cond.instanceMethod yX5_add ∈ TBC := List.mem_append_left _ (List.mem_of_getElem? (i := 367) rfl)
set_option maxRecDepth 100000 in
theorem wC_sl_yX5_add : Cond.selects RX5 yX5_add yX5_add ∈ TBC := List.mem_append_left _ (List.mem_of_getElem? (i := 368) rfl)
set_option maxRecDepth 100000 in
theorem wC_mRX3_156 : Cond.methodLink RX3 156 yX3_addOneSign ∈ TBC := List.mem_append_left _ (List.mem_of_getElem? (i := 369) rfl)
set_option maxRecDepth 100000 in
theorem wC_im_yX3_addOneSign : Cond.instanceMethod yX3_addOneSign ∈ TBC := List.mem_append_left _ (List.mem_of_getElem? (i := 370) rfl)
set_option maxRecDepth 100000 in
theorem wC_sl_yX3_addOneSign : Cond.selects RX3 yX3_addOneSign yX3_addOneSign ∈ TBC := List.mem_append_left _ (List.mem_of_getElem? (i := 371) rfl)
set_option maxRecDepth 100000 in
theorem wC_in_RX3 : Cond.initialized RX3 ∈ TBC := List.mem_append_left _ (List.mem_of_getElem? (i := 372) rfl)
set_option maxRecDepth 100000 in
theorem wC_cd_yX3_readEscaped : Cond.code yX3_readEscaped cX3_readEscaped 3 (some .int) ∈ TBC := List.mem_append_left _ (List.mem_of_getElem? (i := 373) rfl)
set_option maxRecDepth 100000 in
theorem wC_cd_yX3_readMark : Cond.code yX3_readMark cX3_readMark 3 (some .int) ∈ TBC := List.mem_append_left _ (List.mem_of_getElem? (i := 374) rfl)
set_option maxRecDepth 100000 in
theorem wC_cd_yX5_addRange : Cond.code yX5_addRange cX5_addRange 4 none ∈ TBC := List.mem_append_left _ (List.mem_of_getElem? (i := 375) rfl)
set_option maxRecDepth 100000 in
theorem wC_mRX5_16 : Cond.methodLink RX5 16 yX5_add ∈ TBC := List.mem_append_left _ (List.mem_of_getElem? (i := 376) rfl)
set_option maxRecDepth 100000 in
theorem wC_mRX3_76 : Cond.methodLink RX3 76 yX3_take ∈ TBC := List.mem_append_left _ (List.mem_of_getElem? (i := 377) rfl)
set_option maxRecDepth 100000 in
theorem wC_im_yX3_take : Cond.instanceMethod yX3_take ∈ TBC := List.mem_append_left _ (List.mem_of_getElem? (i := 378) rfl)
set_option maxRecDepth 100000 in
theorem wC_sl_yX3_take : Cond.selects RX3 yX3_take yX3_take ∈ TBC := List.mem_append_left _ (List.mem_of_getElem? (i := 379) rfl)
set_option maxRecDepth 100000 in
theorem wC_mRX3_200 : Cond.methodLink RX3 200 yX3_readMark ∈ TBC := List.mem_append_left _ (List.mem_of_getElem? (i := 380) rfl)
set_option maxRecDepth 100000 in
theorem wC_im_yX3_readMark : Cond.instanceMethod yX3_readMark ∈ TBC := List.mem_append_left _ (List.mem_of_getElem? (i := 381) rfl)
set_option maxRecDepth 100000 in
theorem wC_sl_yX3_readMark : Cond.selects RX3 yX3_readMark yX3_readMark ∈ TBC := List.mem_append_left _ (List.mem_of_getElem? (i := 382) rfl)
set_option maxRecDepth 100000 in
theorem wC_mRX3_176 : Cond.methodLink RX3 176 yX5_addRange ∈ TBC := List.mem_append_left _ (List.mem_of_getElem? (i := 383) rfl)
set_option maxRecDepth 100000 in
theorem wC_im_yX5_addRange : Cond.instanceMethod yX5_addRange ∈ TBC := List.mem_append_left _ (List.mem_of_getElem? (i := 384) rfl)
set_option maxRecDepth 100000 in
theorem wC_sl_yX5_addRange : Cond.selects RX5 yX5_addRange yX5_addRange ∈ TBC := List.mem_append_left _ (List.mem_of_getElem? (i := 385) rfl)
set_option maxRecDepth 100000 in
theorem wC_cd_yX3_readMember : Cond.code yX3_readMember cX3_readMember 4 (some .boolean) ∈ TBC := List.mem_append_left _ (List.mem_of_getElem? (i := 386) rfl)
set_option maxRecDepth 100000 in
theorem wC_mRX3_196 : Cond.methodLink RX3 196 yX3_readMember ∈ TBC := List.mem_append_left _ (List.mem_of_getElem? (i := 387) rfl)
set_option maxRecDepth 100000 in
theorem wC_im_yX3_readMember : Cond.instanceMethod yX3_readMember ∈ TBC := List.mem_append_left _ (List.mem_of_getElem? (i := 388) rfl)
set_option maxRecDepth 100000 in
theorem wC_sl_yX3_readMember : Cond.selects RX3 yX3_readMember yX3_readMember ∈ TBC := List.mem_append_left _ (List.mem_of_getElem? (i := 389) rfl)
set_option maxRecDepth 100000 in
theorem wC_cd_yX3_readSet : Cond.code yX3_readSet cX3_readSet 4 (some .int) ∈ TBC := List.mem_append_left _ (List.mem_of_getElem? (i := 390) rfl)
set_option maxRecDepth 100000 in
theorem wC_cd_yX3_addAnySign : Cond.code yX3_addAnySign cX3_addAnySign 1 none ∈ TBC := List.mem_append_left _ (List.mem_of_getElem? (i := 391) rfl)
set_option maxRecDepth 100000 in
theorem wC_cd_yX3_readDigit : Cond.code yX3_readDigit cX3_readDigit 2 (some .int) ∈ TBC := List.mem_append_left _ (List.mem_of_getElem? (i := 392) rfl)
set_option maxRecDepth 100000 in
theorem wC_cd_yX3_readBraces : Cond.code yX3_readBraces cX3_readBraces 1 none ∈ TBC := List.mem_append_left _ (List.mem_of_getElem? (i := 393) rfl)
set_option maxRecDepth 100000 in
theorem wC_fRX3_122 : Cond.fieldLink RX3 122 "PatternRunner$Reader" "least" "I" ∈ TBC := List.mem_append_left _ (List.mem_of_getElem? (i := 394) rfl)
set_option maxRecDepth 100000 in
theorem wC_fRX3_125 : Cond.fieldLink RX3 125 "PatternRunner$Reader" "most" "I" ∈ TBC := List.mem_append_left _ (List.mem_of_getElem? (i := 395) rfl)
set_option maxRecDepth 100000 in
theorem wC_kRX3_135 : Cond.constant RX3 135 (1000000) ∈ TBC := List.mem_append_left _ (List.mem_of_getElem? (i := 396) rfl)
set_option maxRecDepth 100000 in
theorem wC_mRX3_210 : Cond.methodLink RX3 210 yX3_readDigit ∈ TBC := List.mem_append_left _ (List.mem_of_getElem? (i := 397) rfl)
set_option maxRecDepth 100000 in
theorem wC_im_yX3_readDigit : Cond.instanceMethod yX3_readDigit ∈ TBC := List.mem_append_left _ (List.mem_of_getElem? (i := 398) rfl)
set_option maxRecDepth 100000 in
theorem wC_sl_yX3_readDigit : Cond.selects RX3 yX3_readDigit yX3_readDigit ∈ TBC := List.mem_append_left _ (List.mem_of_getElem? (i := 399) rfl)
set_option maxRecDepth 100000 in
theorem wC_fRX3_131 : Cond.fieldLink RX3 131 "PatternRunner$Reader" "lazy" "Z" ∈ TBC := List.mem_append_left _ (List.mem_of_getElem? (i := 400) rfl)
set_option maxRecDepth 100000 in
theorem wC_mRX3_207 : Cond.methodLink RX3 207 yX3_readBraces ∈ TBC := List.mem_append_left _ (List.mem_of_getElem? (i := 401) rfl)
set_option maxRecDepth 100000 in
theorem wC_im_yX3_readBraces : Cond.instanceMethod yX3_readBraces ∈ TBC := List.mem_append_left _ (List.mem_of_getElem? (i := 402) rfl)
set_option maxRecDepth 100000 in
theorem wC_sl_yX3_readBraces : Cond.selects RX3 yX3_readBraces yX3_readBraces ∈ TBC := List.mem_append_left _ (List.mem_of_getElem? (i := 403) rfl)
set_option maxRecDepth 100000 in
theorem wC_cd_yX3_readCount : Cond.code yX3_readCount cX3_readCount 1 (some .boolean) ∈ TBC := List.mem_append_left _ (List.mem_of_getElem? (i := 404) rfl)
set_option maxRecDepth 100000 in
theorem wC_cd_yX3_checkWeight : Cond.code yX3_checkWeight cX3_checkWeight 1 none ∈ TBC := List.mem_append_left _ (List.mem_of_getElem? (i := 405) rfl)
set_option maxRecDepth 100000 in
theorem wC_cd_yX3_rowGoesOn : Cond.code yX3_rowGoesOn cX3_rowGoesOn 2 (some .boolean) ∈ TBC := List.mem_append_left _ (List.mem_of_getElem? (i := 406) rfl)
set_option maxRecDepth 100000 in
theorem wC_mRX3_73 : Cond.methodLink RX3 73 yX3_readRow ∈ TBC := List.mem_append_left _ (List.mem_of_getElem? (i := 407) rfl)
set_option maxRecDepth 100000 in
theorem wC_im_yX3_readRow : Cond.instanceMethod yX3_readRow ∈ TBC := List.mem_append_left _ (List.mem_of_getElem? (i := 408) rfl)
set_option maxRecDepth 100000 in
theorem wC_sl_yX3_readRow : Cond.selects RX3 yX3_readRow yX3_readRow ∈ TBC := List.mem_append_left _ (List.mem_of_getElem? (i := 409) rfl)
set_option maxRecDepth 100000 in
theorem wC_mRX3_80 : Cond.methodLink RX3 80 yX2_aimAt ∈ TBC := List.mem_append_left _ (List.mem_of_getElem? (i := 410) rfl)
set_option maxRecDepth 100000 in
theorem wC_mRX3_84 : Cond.methodLink RX3 84 yX2_size ∈ TBC := List.mem_append_left _ (List.mem_of_getElem? (i := 411) rfl)
set_option maxRecDepth 100000 in
theorem wC_im_yX2_size : Cond.instanceMethod yX2_size ∈ TBC := List.mem_append_left _ (List.mem_of_getElem? (i := 412) rfl)
set_option maxRecDepth 100000 in
theorem wC_sl_yX2_size : Cond.selects RX2 yX2_size yX2_size ∈ TBC := List.mem_append_left _ (List.mem_of_getElem? (i := 413) rfl)
set_option maxRecDepth 100000 in
theorem wC_mRX3_87 : Cond.methodLink RX3 87 yX2_aimChainAt ∈ TBC := List.mem_append_left _ (List.mem_of_getElem? (i := 414) rfl)
set_option maxRecDepth 100000 in
theorem wC_im_yX2_aimChainAt : Cond.instanceMethod yX2_aimChainAt ∈ TBC := List.mem_append_left _ (List.mem_of_getElem? (i := 415) rfl)
set_option maxRecDepth 100000 in
theorem wC_sl_yX2_aimChainAt : Cond.selects RX2 yX2_aimChainAt yX2_aimChainAt ∈ TBC := List.mem_append_left _ (List.mem_of_getElem? (i := 416) rfl)
set_option maxRecDepth 100000 in
theorem wC_cd_yX3_readAtom : Cond.code yX3_readAtom cX3_readAtom 3 (some .int) ∈ TBC := List.mem_append_left _ (List.mem_of_getElem? (i := 417) rfl)
set_option maxRecDepth 100000 in
theorem wC_mRX3_97 : Cond.methodLink RX3 97 yX3_takeOpening ∈ TBC := List.mem_append_left _ (List.mem_of_getElem? (i := 418) rfl)
set_option maxRecDepth 100000 in
theorem wC_im_yX3_takeOpening : Cond.instanceMethod yX3_takeOpening ∈ TBC := List.mem_append_left _ (List.mem_of_getElem? (i := 419) rfl)
set_option maxRecDepth 100000 in
theorem wC_sl_yX3_takeOpening : Cond.selects RX3 yX3_takeOpening yX3_takeOpening ∈ TBC := List.mem_append_left _ (List.mem_of_getElem? (i := 420) rfl)
set_option maxRecDepth 100000 in
theorem wC_mRX3_109 : Cond.methodLink RX3 109 yX3_readInside ∈ TBC := List.mem_append_left _ (List.mem_of_getElem? (i := 421) rfl)
set_option maxRecDepth 100000 in
theorem wC_im_yX3_readInside : Cond.instanceMethod yX3_readInside ∈ TBC := List.mem_append_left _ (List.mem_of_getElem? (i := 422) rfl)
set_option maxRecDepth 100000 in
theorem wC_sl_yX3_readInside : Cond.selects RX3 yX3_readInside yX3_readInside ∈ TBC := List.mem_append_left _ (List.mem_of_getElem? (i := 423) rfl)
set_option maxRecDepth 100000 in
theorem wC_mRX3_142 : Cond.methodLink RX3 142 yX3_readGroup ∈ TBC := List.mem_append_left _ (List.mem_of_getElem? (i := 424) rfl)
set_option maxRecDepth 100000 in
theorem wC_im_yX3_readGroup : Cond.instanceMethod yX3_readGroup ∈ TBC := List.mem_append_left _ (List.mem_of_getElem? (i := 425) rfl)
set_option maxRecDepth 100000 in
theorem wC_sl_yX3_readGroup : Cond.selects RX3 yX3_readGroup yX3_readGroup ∈ TBC := List.mem_append_left _ (List.mem_of_getElem? (i := 426) rfl)
set_option maxRecDepth 100000 in
theorem wC_mRX3_145 : Cond.methodLink RX3 145 yX5_clear ∈ TBC := List.mem_append_left _ (List.mem_of_getElem? (i := 427) rfl)
set_option maxRecDepth 100000 in
theorem wC_im_yX5_clear : Cond.instanceMethod yX5_clear ∈ TBC := List.mem_append_left _ (List.mem_of_getElem? (i := 428) rfl)
set_option maxRecDepth 100000 in
theorem wC_sl_yX5_clear : Cond.selects RX5 yX5_clear yX5_clear ∈ TBC := List.mem_append_left _ (List.mem_of_getElem? (i := 429) rfl)
set_option maxRecDepth 100000 in
theorem wC_mRX3_147 : Cond.methodLink RX3 147 yX3_readEscaped ∈ TBC := List.mem_append_left _ (List.mem_of_getElem? (i := 430) rfl)
set_option maxRecDepth 100000 in
theorem wC_im_yX3_readEscaped : Cond.instanceMethod yX3_readEscaped ∈ TBC := List.mem_append_left _ (List.mem_of_getElem? (i := 431) rfl)
set_option maxRecDepth 100000 in
theorem wC_sl_yX3_readEscaped : Cond.selects RX3 yX3_readEscaped yX3_readEscaped ∈ TBC := List.mem_append_left _ (List.mem_of_getElem? (i := 432) rfl)
set_option maxRecDepth 100000 in
theorem wC_mRX3_150 : Cond.methodLink RX3 150 yX3_readSet ∈ TBC := List.mem_append_left _ (List.mem_of_getElem? (i := 433) rfl)
set_option maxRecDepth 100000 in
theorem wC_im_yX3_readSet : Cond.instanceMethod yX3_readSet ∈ TBC := List.mem_append_left _ (List.mem_of_getElem? (i := 434) rfl)
set_option maxRecDepth 100000 in
theorem wC_sl_yX3_readSet : Cond.selects RX3 yX3_readSet yX3_readSet ∈ TBC := List.mem_append_left _ (List.mem_of_getElem? (i := 435) rfl)
set_option maxRecDepth 100000 in
theorem wC_mRX3_153 : Cond.methodLink RX3 153 yX3_addAnySign ∈ TBC := List.mem_append_left _ (List.mem_of_getElem? (i := 436) rfl)
set_option maxRecDepth 100000 in
theorem wC_im_yX3_addAnySign : Cond.instanceMethod yX3_addAnySign ∈ TBC := List.mem_append_left _ (List.mem_of_getElem? (i := 437) rfl)
set_option maxRecDepth 100000 in
theorem wC_sl_yX3_addAnySign : Cond.selects RX3 yX3_addAnySign yX3_addAnySign ∈ TBC := List.mem_append_left _ (List.mem_of_getElem? (i := 438) rfl)
set_option maxRecDepth 100000 in
theorem wC_cd_yX3_readCountedAtom : Cond.code yX3_readCountedAtom cX3_readCountedAtom 9 (some .int) ∈ TBC := List.mem_append_left _ (List.mem_of_getElem? (i := 439) rfl)
set_option maxRecDepth 100000 in
theorem wC_mRX3_56 : Cond.methodLink RX3 56 yX2_groups ∈ TBC := List.mem_append_left _ (List.mem_of_getElem? (i := 440) rfl)
set_option maxRecDepth 100000 in
theorem wC_im_yX2_groups : Cond.instanceMethod yX2_groups ∈ TBC := List.mem_append_left _ (List.mem_of_getElem? (i := 441) rfl)
set_option maxRecDepth 100000 in
theorem wC_sl_yX2_groups : Cond.selects RX2 yX2_groups yX2_groups ∈ TBC := List.mem_append_left _ (List.mem_of_getElem? (i := 442) rfl)
set_option maxRecDepth 100000 in
theorem wC_mRX3_116 : Cond.methodLink RX3 116 yX3_readAtom ∈ TBC := List.mem_append_left _ (List.mem_of_getElem? (i := 443) rfl)
set_option maxRecDepth 100000 in
theorem wC_im_yX3_readAtom : Cond.instanceMethod yX3_readAtom ∈ TBC := List.mem_append_left _ (List.mem_of_getElem? (i := 444) rfl)
set_option maxRecDepth 100000 in
theorem wC_sl_yX3_readAtom : Cond.selects RX3 yX3_readAtom yX3_readAtom ∈ TBC := List.mem_append_left _ (List.mem_of_getElem? (i := 445) rfl)
set_option maxRecDepth 100000 in
theorem wC_mRX3_119 : Cond.methodLink RX3 119 yX3_readCount ∈ TBC := List.mem_append_left _ (List.mem_of_getElem? (i := 446) rfl)
set_option maxRecDepth 100000 in
theorem wC_im_yX3_readCount : Cond.instanceMethod yX3_readCount ∈ TBC := List.mem_append_left _ (List.mem_of_getElem? (i := 447) rfl)
set_option maxRecDepth 100000 in
theorem wC_sl_yX3_readCount : Cond.selects RX3 yX3_readCount yX3_readCount ∈ TBC := List.mem_append_left _ (List.mem_of_getElem? (i := 448) rfl)
set_option maxRecDepth 100000 in
theorem wC_mRX3_128 : Cond.methodLink RX3 128 yX2_addLoop ∈ TBC := List.mem_append_left _ (List.mem_of_getElem? (i := 449) rfl)
set_option maxRecDepth 100000 in
theorem wC_im_yX2_addLoop : Cond.instanceMethod yX2_addLoop ∈ TBC := List.mem_append_left _ (List.mem_of_getElem? (i := 450) rfl)
set_option maxRecDepth 100000 in
theorem wC_sl_yX2_addLoop : Cond.selects RX2 yX2_addLoop yX2_addLoop ∈ TBC := List.mem_append_left _ (List.mem_of_getElem? (i := 451) rfl)
set_option maxRecDepth 100000 in
theorem wC_mRX3_61 : Cond.methodLink RX3 61 yX3_checkWeight ∈ TBC := List.mem_append_left _ (List.mem_of_getElem? (i := 452) rfl)
set_option maxRecDepth 100000 in
theorem wC_st_yX3_checkWeight : Cond.static yX3_checkWeight ∈ TBC := List.mem_append_left _ (List.mem_of_getElem? (i := 453) rfl)
set_option maxRecDepth 100000 in
theorem wC_cd_yX3_readGroup : Cond.code yX3_readGroup cX3_readGroup 4 (some .int) ∈ TBC := List.mem_append_left _ (List.mem_of_getElem? (i := 454) rfl)
set_option maxRecDepth 100000 in
theorem wC_mRX3_169 : Cond.methodLink RX3 169 yX2_addGroup ∈ TBC := List.mem_append_left _ (List.mem_of_getElem? (i := 455) rfl)
set_option maxRecDepth 100000 in
theorem wC_im_yX2_addGroup : Cond.instanceMethod yX2_addGroup ∈ TBC := List.mem_append_left _ (List.mem_of_getElem? (i := 456) rfl)
set_option maxRecDepth 100000 in
theorem wC_sl_yX2_addGroup : Cond.selects RX2 yX2_addGroup yX2_addGroup ∈ TBC := List.mem_append_left _ (List.mem_of_getElem? (i := 457) rfl)
set_option maxRecDepth 100000 in
theorem wC_cd_yX3_readInside : Cond.code yX3_readInside cX3_readInside 3 (some .int) ∈ TBC := List.mem_append_left _ (List.mem_of_getElem? (i := 458) rfl)
set_option maxRecDepth 100000 in
theorem wC_mRX3_39 : Cond.methodLink RX3 39 yX3_readAlternatives ∈ TBC := List.mem_append_left _ (List.mem_of_getElem? (i := 459) rfl)
set_option maxRecDepth 100000 in
theorem wC_im_yX3_readAlternatives : Cond.instanceMethod yX3_readAlternatives ∈ TBC := List.mem_append_left _ (List.mem_of_getElem? (i := 460) rfl)
set_option maxRecDepth 100000 in
theorem wC_sl_yX3_readAlternatives : Cond.selects RX3 yX3_readAlternatives yX3_readAlternatives ∈ TBC := List.mem_append_left _ (List.mem_of_getElem? (i := 461) rfl)
set_option maxRecDepth 100000 in
theorem wC_cd_yX3_readLook : Cond.code yX3_readLook cX3_readLook 7 (some .int) ∈ TBC := List.mem_append_left _ (List.mem_of_getElem? (i := 462) rfl)
set_option maxRecDepth 100000 in
theorem wC_mRX3_106 : Cond.methodLink RX3 106 yX2_addLook ∈ TBC := List.mem_append_left _ (List.mem_of_getElem? (i := 463) rfl)
set_option maxRecDepth 100000 in
theorem wC_im_yX2_addLook : Cond.instanceMethod yX2_addLook ∈ TBC := List.mem_append_left _ (List.mem_of_getElem? (i := 464) rfl)
set_option maxRecDepth 100000 in
theorem wC_sl_yX2_addLook : Cond.selects RX2 yX2_addLook yX2_addLook ∈ TBC := List.mem_append_left _ (List.mem_of_getElem? (i := 465) rfl)
set_option maxRecDepth 100000 in
theorem wC_cd_yX3_readRow : Cond.code yX3_readRow cX3_readRow 4 (some .int) ∈ TBC := List.mem_append_left _ (List.mem_of_getElem? (i := 466) rfl)
set_option maxRecDepth 100000 in
theorem wC_mRX3_90 : Cond.methodLink RX3 90 yX3_rowGoesOn ∈ TBC := List.mem_append_left _ (List.mem_of_getElem? (i := 467) rfl)
set_option maxRecDepth 100000 in
theorem wC_im_yX3_rowGoesOn : Cond.instanceMethod yX3_rowGoesOn ∈ TBC := List.mem_append_left _ (List.mem_of_getElem? (i := 468) rfl)
set_option maxRecDepth 100000 in
theorem wC_sl_yX3_rowGoesOn : Cond.selects RX3 yX3_rowGoesOn yX3_rowGoesOn ∈ TBC := List.mem_append_left _ (List.mem_of_getElem? (i := 469) rfl)
set_option maxRecDepth 100000 in
theorem wC_mRX3_94 : Cond.methodLink RX3 94 yX3_readTerm ∈ TBC := List.mem_append_left _ (List.mem_of_getElem? (i := 470) rfl)
set_option maxRecDepth 100000 in
theorem wC_im_yX3_readTerm : Cond.instanceMethod yX3_readTerm ∈ TBC := List.mem_append_left _ (List.mem_of_getElem? (i := 471) rfl)
set_option maxRecDepth 100000 in
theorem wC_sl_yX3_readTerm : Cond.selects RX3 yX3_readTerm yX3_readTerm ∈ TBC := List.mem_append_left _ (List.mem_of_getElem? (i := 472) rfl)
set_option maxRecDepth 100000 in
theorem wC_cd_yX3_readTerm : Cond.code yX3_readTerm cX3_readTerm 2 (some .int) ∈ TBC := List.mem_append_left _ (List.mem_of_getElem? (i := 473) rfl)
set_option maxRecDepth 100000 in
theorem wC_mRX3_100 : Cond.methodLink RX3 100 yX3_readLook ∈ TBC := List.mem_append_left _ (List.mem_of_getElem? (i := 474) rfl)
set_option maxRecDepth 100000 in
theorem wC_im_yX3_readLook : Cond.instanceMethod yX3_readLook ∈ TBC := List.mem_append_left _ (List.mem_of_getElem? (i := 475) rfl)
set_option maxRecDepth 100000 in
theorem wC_sl_yX3_readLook : Cond.selects RX3 yX3_readLook yX3_readLook ∈ TBC := List.mem_append_left _ (List.mem_of_getElem? (i := 476) rfl)
set_option maxRecDepth 100000 in
theorem wC_mRX3_103 : Cond.methodLink RX3 103 yX3_readCountedAtom ∈ TBC := List.mem_append_left _ (List.mem_of_getElem? (i := 477) rfl)
set_option maxRecDepth 100000 in
theorem wC_im_yX3_readCountedAtom : Cond.instanceMethod yX3_readCountedAtom ∈ TBC := List.mem_append_left _ (List.mem_of_getElem? (i := 478) rfl)
set_option maxRecDepth 100000 in
theorem wC_sl_yX3_readCountedAtom : Cond.selects RX3 yX3_readCountedAtom yX3_readCountedAtom ∈ TBC := List.mem_append_left _ (List.mem_of_getElem? (i := 479) rfl)
set_option maxRecDepth 100000 in
theorem wC_cd_yX3_readAlternatives : Cond.code yX3_readAlternatives cX3_readAlternatives 7 (some .int) ∈ TBC := List.mem_append_left _ (List.mem_of_getElem? (i := 480) rfl)
set_option maxRecDepth 100000 in
theorem wC_mRX3_26 : Cond.methodLink RX3 26 yX2_clear ∈ TBC := List.mem_append_left _ (List.mem_of_getElem? (i := 481) rfl)
set_option maxRecDepth 100000 in
theorem wC_im_yX2_clear : Cond.instanceMethod yX2_clear ∈ TBC := List.mem_append_left _ (List.mem_of_getElem? (i := 482) rfl)
set_option maxRecDepth 100000 in
theorem wC_sl_yX2_clear : Cond.selects RX2 yX2_clear yX2_clear ∈ TBC := List.mem_append_left _ (List.mem_of_getElem? (i := 483) rfl)
set_option maxRecDepth 100000 in
theorem wC_mRX3_43 : Cond.methodLink RX3 43 yX4_length ∈ TBC := List.mem_append_left _ (List.mem_of_getElem? (i := 484) rfl)
set_option maxRecDepth 100000 in
theorem wC_cd_yX3_read : Cond.code yX3_read cX3_read 4 none ∈ TBC := List.mem_append_left _ (List.mem_of_getElem? (i := 485) rfl)
set_option maxRecDepth 100000 in
theorem wC_cd_yX4_init : Cond.code yX4_init cX4_init 2 none ∈ TBC := List.mem_append_left _ (List.mem_of_getElem? (i := 486) rfl)
set_option maxRecDepth 100000 in
theorem wC_mRX4_3 : Cond.methodLink RX4 3 objectInit ∈ TBC := List.mem_append_left _ (List.mem_of_getElem? (i := 487) rfl)
set_option maxRecDepth 100000 in
theorem wC_mRX4_9 : Cond.methodLink RX4 9 Lib.Math.max.name ∈ TBC := List.mem_append_left _ (List.mem_of_getElem? (i := 488) rfl)
set_option maxRecDepth 100000 in
theorem wC_ac__char : Cond.arrayClass .char ∈ TBC := List.mem_append_left _ (List.mem_of_getElem? (i := 489) rfl)
set_option maxRecDepth 100000 in
theorem wC_cd_yX4_add : Cond.code yX4_add cX4_add 2 (some .boolean) ∈ TBC := List.mem_append_left _ (List.mem_of_getElem? (i := 490) rfl)
set_option maxRecDepth 100000 in
theorem wC_cd_yX4_clear : Cond.code yX4_clear cX4_clear 1 none ∈ TBC := List.mem_append_left _ (List.mem_of_getElem? (i := 491) rfl)
set_option maxRecDepth 100000 in
theorem wC_cd_yX4_copy : Cond.code yX4_copy cX4_copy 3 none ∈ TBC := List.mem_append_left _ (List.mem_of_getElem? (i := 492) rfl)
set_option maxRecDepth 100000 in
theorem wC_mRX4_25 : Cond.methodLink RX4 25 yX4_clear ∈ TBC := List.mem_append_left _ (List.mem_of_getElem? (i := 493) rfl)
set_option maxRecDepth 100000 in
theorem wC_im_yX4_clear : Cond.instanceMethod yX4_clear ∈ TBC := List.mem_append_left _ (List.mem_of_getElem? (i := 494) rfl)
set_option maxRecDepth 100000 in
theorem wC_sl_yX4_clear : Cond.selects RX4 yX4_clear yX4_clear ∈ TBC := List.mem_append_left _ (List.mem_of_getElem? (i := 495) rfl)
set_option maxRecDepth 100000 in
theorem wC_mRX4_28 : Cond.methodLink RX4 28 yX4_length ∈ TBC := List.mem_append_left _ (List.mem_of_getElem? (i := 496) rfl)
set_option maxRecDepth 100000 in
theorem wC_mRX4_31 : Cond.methodLink RX4 31 yX4_at ∈ TBC := List.mem_append_left _ (List.mem_of_getElem? (i := 497) rfl)
set_option maxRecDepth 100000 in
theorem wC_mRX4_35 : Cond.methodLink RX4 35 yX4_add ∈ TBC := List.mem_append_left _ (List.mem_of_getElem? (i := 498) rfl)
set_option maxRecDepth 100000 in
theorem wC_im_yX4_add : Cond.instanceMethod yX4_add ∈ TBC := List.mem_append_left _ (List.mem_of_getElem? (i := 499) rfl)
set_option maxRecDepth 100000 in
theorem wC_sl_yX4_add : Cond.selects RX4 yX4_add yX4_add ∈ TBC := List.mem_append_left _ (List.mem_of_getElem? (i := 500) rfl)
set_option maxRecDepth 100000 in
theorem wC_cd_yX6_forgetFound : Cond.code yX6_forgetFound cX6_forgetFound 1 none ∈ TBC := List.mem_append_left _ (List.mem_of_getElem? (i := 501) rfl)
set_option maxRecDepth 100000 in
theorem wC_fRX6_56 : Cond.fieldLink RX6 56 "PatternRunner" "takenFrom" "[I" ∈ TBC := List.mem_append_left _ (List.mem_of_getElem? (i := 502) rfl)
set_option maxRecDepth 100000 in
theorem wC_fRX6_60 : Cond.fieldLink RX6 60 "PatternRunner" "takenTo" "[I" ∈ TBC := List.mem_append_left _ (List.mem_of_getElem? (i := 503) rfl)
set_option maxRecDepth 100000 in
theorem wC_mRX6_148 : Cond.methodLink RX6 148 yJ7_fill_53178 ∈ TBC := List.mem_append_left _ (List.mem_of_getElem? (i := 504) rfl)
set_option maxRecDepth 100000 in
theorem wC_mRX6_3 : Cond.methodLink RX6 3 objectInit ∈ TBC := List.mem_append_left _ (List.mem_of_getElem? (i := 505) rfl)
set_option maxRecDepth 100000 in
theorem wC_cRX6_9 : Cond.classLink RX6 9 RX4 ∈ TBC := List.mem_append_left _ (List.mem_of_getElem? (i := 506) rfl)
set_option maxRecDepth 100000 in
theorem wC_it_RX4 : Cond.instantiable RX4 2 ∈ TBC := List.mem_append_left _ (List.mem_of_getElem? (i := 507) rfl)
set_option maxRecDepth 100000 in
theorem wC_fRX6_14 : Cond.fieldLink RX6 14 "PatternRunner" "typed" "LPatternRunner$SignRow;" ∈ TBC := List.mem_append_left _ (List.mem_of_getElem? (i := 508) rfl)
set_option maxRecDepth 100000 in
theorem wC_fRX6_18 : Cond.fieldLink RX6 18 "PatternRunner" "toRead" "LPatternRunner$SignRow;" ∈ TBC := List.mem_append_left _ (List.mem_of_getElem? (i := 509) rfl)
set_option maxRecDepth 100000 in
theorem wC_fRX6_21 : Cond.fieldLink RX6 21 "PatternRunner" "body" "LPatternRunner$SignRow;" ∈ TBC := List.mem_append_left _ (List.mem_of_getElem? (i := 510) rfl)
set_option maxRecDepth 100000 in
theorem wC_fRX6_24 : Cond.fieldLink RX6 24 "PatternRunner" "written" "LPatternRunner$SignRow;" ∈ TBC := List.mem_append_left _ (List.mem_of_getElem? (i := 511) rfl)
set_option maxRecDepth 100000 in
theorem wC_fRX6_27 : Cond.fieldLink RX6 27 "PatternRunner" "draft" "LPatternRunner$SignRow;" ∈ TBC := List.mem_append_left _ (List.mem_of_getElem? (i := 512) rfl)
set_option maxRecDepth 100000 in
theorem wC_cRX6_30 : Cond.classLink RX6 30 RX2 ∈ TBC := List.mem_append_left _ (List.mem_of_getElem? (i := 513) rfl)
set_option maxRecDepth 100000 in
theorem wC_it_RX2 : Cond.instantiable RX2 14 ∈ TBC := List.mem_append_left _ (List.mem_of_getElem? (i := 514) rfl)
set_option maxRecDepth 100000 in
theorem wC_fRX6_33 : Cond.fieldLink RX6 33 "PatternRunner" "program" "LPatternRunner$Program;" ∈ TBC := List.mem_append_left _ (List.mem_of_getElem? (i := 515) rfl)
set_option maxRecDepth 100000 in
theorem wC_fRX6_37 : Cond.fieldLink RX6 37 "PatternRunner" "spareProgram" "LPatternRunner$Program;" ∈ TBC := List.mem_append_left _ (List.mem_of_getElem? (i := 516) rfl)
set_option maxRecDepth 100000 in
theorem wC_cRX6_40 : Cond.classLink RX6 40 RX3 ∈ TBC := List.mem_append_left _ (List.mem_of_getElem? (i := 517) rfl)
set_option maxRecDepth 100000 in
theorem wC_it_RX3 : Cond.instantiable RX3 8 ∈ TBC := List.mem_append_left _ (List.mem_of_getElem? (i := 518) rfl)
set_option maxRecDepth 100000 in
theorem wC_fRX6_45 : Cond.fieldLink RX6 45 "PatternRunner" "reader" "LPatternRunner$Reader;" ∈ TBC := List.mem_append_left _ (List.mem_of_getElem? (i := 519) rfl)
set_option maxRecDepth 100000 in
theorem wC_cRX6_49 : Cond.classLink RX6 49 RX0 ∈ TBC := List.mem_append_left _ (List.mem_of_getElem? (i := 520) rfl)
set_option maxRecDepth 100000 in
theorem wC_it_RX0 : Cond.instantiable RX0 5 ∈ TBC := List.mem_append_left _ (List.mem_of_getElem? (i := 521) rfl)
set_option maxRecDepth 100000 in
theorem wC_fRX6_52 : Cond.fieldLink RX6 52 "PatternRunner" "matcher" "LPatternRunner$Matcher;" ∈ TBC := List.mem_append_left _ (List.mem_of_getElem? (i := 522) rfl)
set_option maxRecDepth 100000 in
theorem wC_fRX6_63 : Cond.fieldLink RX6 63 "PatternRunner" "startPlace" "I" ∈ TBC := List.mem_append_left _ (List.mem_of_getElem? (i := 523) rfl)
set_option maxRecDepth 100000 in
theorem wC_fRX6_67 : Cond.fieldLink RX6 67 "PatternRunner" "stepsMade" "I" ∈ TBC := List.mem_append_left _ (List.mem_of_getElem? (i := 524) rfl)
set_option maxRecDepth 100000 in
theorem wC_mRX6_11 : Cond.methodLink RX6 11 yX4_init ∈ TBC := List.mem_append_left _ (List.mem_of_getElem? (i := 525) rfl)
set_option maxRecDepth 100000 in
theorem wC_im_yX4_init : Cond.instanceMethod yX4_init ∈ TBC := List.mem_append_left _ (List.mem_of_getElem? (i := 526) rfl)
set_option maxRecDepth 100000 in
theorem wC_mRX6_32 : Cond.methodLink RX6 32 yX2_init ∈ TBC := List.mem_append_left _ (List.mem_of_getElem? (i := 527) rfl)
set_option maxRecDepth 100000 in
theorem wC_im_yX2_init : Cond.instanceMethod yX2_init ∈ TBC := List.mem_append_left _ (List.mem_of_getElem? (i := 528) rfl)
set_option maxRecDepth 100000 in
theorem wC_mRX6_42 : Cond.methodLink RX6 42 yX3_init ∈ TBC := List.mem_append_left _ (List.mem_of_getElem? (i := 529) rfl)
set_option maxRecDepth 100000 in
theorem wC_im_yX3_init : Cond.instanceMethod yX3_init ∈ TBC := List.mem_append_left _ (List.mem_of_getElem? (i := 530) rfl)
set_option maxRecDepth 100000 in
theorem wC_mRX6_51 : Cond.methodLink RX6 51 yX0_init ∈ TBC := List.mem_append_left _ (List.mem_of_getElem? (i := 531) rfl)
set_option maxRecDepth 100000 in
theorem wC_im_yX0_init : Cond.instanceMethod yX0_init ∈ TBC := List.mem_append_left _ (List.mem_of_getElem? (i := 532) rfl)
set_option maxRecDepth 100000 in
theorem wC_mRX6_70 : Cond.methodLink RX6 70 yX6_forgetFound ∈ TBC := List.mem_append_left _ (List.mem_of_getElem? (i := 533) rfl)
set_option maxRecDepth 100000 in
theorem wC_im_yX6_forgetFound : Cond.instanceMethod yX6_forgetFound ∈ TBC := List.mem_append_left _ (List.mem_of_getElem? (i := 534) rfl)
set_option maxRecDepth 100000 in
theorem wC_sl_yX6_forgetFound : Cond.selects RX6 yX6_forgetFound yX6_forgetFound ∈ TBC := List.mem_append_left _ (List.mem_of_getElem? (i := 535) rfl)
set_option maxRecDepth 100000 in
theorem wC_in_RX6 : Cond.initialized RX6 ∈ TBC := List.mem_append_left _ (List.mem_of_getElem? (i := 536) rfl)
set_option maxRecDepth 100000 in
theorem wC_cd_yX6_init : Cond.code yX6_init cX6_init 1 none ∈ TBC := List.mem_append_left _ (List.mem_of_getElem? (i := 537) rfl)
set_option maxRecDepth 100000 in
theorem wC_cd_yX6_byteOf : Cond.code yX6_byteOf cX6_byteOf 3 (some .int) ∈ TBC := List.mem_append_left _ (List.mem_of_getElem? (i := 538) rfl)
set_option maxRecDepth 100000 in
theorem wC_cd_yX6_type : Cond.code yX6_type cX6_type 6 (some .int) ∈ TBC := List.mem_append_left _ (List.mem_of_getElem? (i := 539) rfl)
set_option maxRecDepth 100000 in
theorem wC_cRX6_73 : Cond.classLink RX6 73 "java/lang/IllegalArgumentException" ∈ TBC := List.mem_append_left _ (List.mem_of_getElem? (i := 540) rfl)
set_option maxRecDepth 100000 in
theorem wC_mRX6_80 : Cond.methodLink RX6 80 yX4_length ∈ TBC := List.mem_append_left _ (List.mem_of_getElem? (i := 541) rfl)
set_option maxRecDepth 100000 in
theorem wC_mRX6_86 : Cond.methodLink RX6 86 yX6_byteOf ∈ TBC := List.mem_append_left _ (List.mem_of_getElem? (i := 542) rfl)
set_option maxRecDepth 100000 in
theorem wC_st_yX6_byteOf : Cond.static yX6_byteOf ∈ TBC := List.mem_append_left _ (List.mem_of_getElem? (i := 543) rfl)
set_option maxRecDepth 100000 in
theorem wC_mRX6_92 : Cond.methodLink RX6 92 yX4_add ∈ TBC := List.mem_append_left _ (List.mem_of_getElem? (i := 544) rfl)
set_option maxRecDepth 100000 in
theorem wC_mRX6_98 : Cond.methodLink RX6 98 yX4_copy ∈ TBC := List.mem_append_left _ (List.mem_of_getElem? (i := 545) rfl)
set_option maxRecDepth 100000 in
theorem wC_im_yX4_copy : Cond.instanceMethod yX4_copy ∈ TBC := List.mem_append_left _ (List.mem_of_getElem? (i := 546) rfl)
set_option maxRecDepth 100000 in
theorem wC_sl_yX4_copy : Cond.selects RX4 yX4_copy yX4_copy ∈ TBC := List.mem_append_left _ (List.mem_of_getElem? (i := 547) rfl)
set_option maxRecDepth 100000 in
theorem wC_mRX6_102 : Cond.methodLink RX6 102 yX4_clear ∈ TBC := List.mem_append_left _ (List.mem_of_getElem? (i := 548) rfl)
set_option maxRecDepth 100000 in
theorem wC_mRX6_105 : Cond.methodLink RX6 105 yX3_read ∈ TBC := List.mem_append_left _ (List.mem_of_getElem? (i := 549) rfl)
set_option maxRecDepth 100000 in
theorem wC_im_yX3_read : Cond.instanceMethod yX3_read ∈ TBC := List.mem_append_left _ (List.mem_of_getElem? (i := 550) rfl)
set_option maxRecDepth 100000 in
theorem wC_sl_yX3_read : Cond.selects RX3 yX3_read yX3_read ∈ TBC := List.mem_append_left _ (List.mem_of_getElem? (i := 551) rfl)
set_option maxRecDepth 100000 in
theorem wC_mRX6_109 : Cond.methodLink RX6 109 yX2_groups ∈ TBC := List.mem_append_left _ (List.mem_of_getElem? (i := 552) rfl)
set_option maxRecDepth 100000 in
theorem wC_cd_yX6_pattern : Cond.code yX6_pattern cX6_pattern 3 (some .int) ∈ TBC := List.mem_append_left _ (List.mem_of_getElem? (i := 553) rfl)
set_option maxRecDepth 100000 in
theorem wC_cRX6_112 : Cond.classLink RX6 112 "java/lang/IllegalStateException" ∈ TBC := List.mem_append_left _ (List.mem_of_getElem? (i := 554) rfl)
set_option maxRecDepth 100000 in
theorem wC_in__java_lang_IllegalStateException_ : Cond.initialized "java/lang/IllegalStateException" ∈ TBC := List.mem_append_left _ (List.mem_of_getElem? (i := 555) rfl)
set_option maxRecDepth 100000 in
theorem wC_cd_yX6_text : Cond.code yX6_text cX6_text 1 (some .int) ∈ TBC := List.mem_append_left _ (List.mem_of_getElem? (i := 556) rfl)
set_option maxRecDepth 100000 in
theorem wC_cd_yX6_start : Cond.code yX6_start cX6_start 2 (some .int) ∈ TBC := List.mem_append_left _ (List.mem_of_getElem? (i := 557) rfl)
set_option maxRecDepth 100000 in
theorem wC_mRX6_119 : Cond.methodLink RX6 119 yX0_search ∈ TBC := List.mem_append_left _ (List.mem_of_getElem? (i := 558) rfl)
set_option maxRecDepth 100000 in
theorem wC_im_yX0_search : Cond.instanceMethod yX0_search ∈ TBC := List.mem_append_left _ (List.mem_of_getElem? (i := 559) rfl)
set_option maxRecDepth 100000 in
theorem wC_sl_yX0_search : Cond.selects RX0 yX0_search yX0_search ∈ TBC := List.mem_append_left _ (List.mem_of_getElem? (i := 560) rfl)
set_option maxRecDepth 100000 in
theorem wC_mRX6_123 : Cond.methodLink RX6 123 yX0_stepsMade ∈ TBC := List.mem_append_left _ (List.mem_of_getElem? (i := 561) rfl)
set_option maxRecDepth 100000 in
theorem wC_im_yX0_stepsMade : Cond.instanceMethod yX0_stepsMade ∈ TBC := List.mem_append_left _ (List.mem_of_getElem? (i := 562) rfl)
set_option maxRecDepth 100000 in
theorem wC_sl_yX0_stepsMade : Cond.selects RX0 yX0_stepsMade yX0_stepsMade ∈ TBC := List.mem_append_left _ (List.mem_of_getElem? (i := 563) rfl)
set_option maxRecDepth 100000 in
theorem wC_mRX6_125 : Cond.methodLink RX6 125 yX0_tookTo ∈ TBC := List.mem_append_left _ (List.mem_of_getElem? (i := 564) rfl)
set_option maxRecDepth 100000 in
theorem wC_mRX6_129 : Cond.methodLink RX6 129 yX0_tookFrom ∈ TBC := List.mem_append_left _ (List.mem_of_getElem? (i := 565) rfl)
set_option maxRecDepth 100000 in
theorem wC_cd_yX6_find : Cond.code yX6_find cX6_find 3 (some .int) ∈ TBC := List.mem_append_left _ (List.mem_of_getElem? (i := 566) rfl)
set_option maxRecDepth 100000 in
theorem wC_cd_yX6_from : Cond.code yX6_from cX6_from 2 (some .int) ∈ TBC := List.mem_append_left _ (List.mem_of_getElem? (i := 567) rfl)
set_option maxRecDepth 100000 in
theorem wC_cd_yX6_to : Cond.code yX6_to cX6_to 2 (some .int) ∈ TBC := List.mem_append_left _ (List.mem_of_getElem? (i := 568) rfl)
set_option maxRecDepth 100000 in
theorem wC_cd_yX6_steps : Cond.code yX6_steps cX6_steps 1 (some .int) ∈ TBC := List.mem_append_left _ (List.mem_of_getElem? (i := 569) rfl)
set_option maxRecDepth 100000 in
theorem wC_cd_yX6_write : Cond.code yX6_write cX6_write 2 none ∈ TBC := List.mem_append_left _ (List.mem_of_getElem? (i := 570) rfl)
set_option maxRecDepth 100000 in
theorem wC_cRX6_161 : Cond.classLink RX6 161 "java/lang/UnsupportedOperationException" ∈ TBC := List.mem_append_left _ (List.mem_of_getElem? (i := 571) rfl)
set_option maxRecDepth 100000 in
theorem wC_cd_yX6_writeText : Cond.code yX6_writeText cX6_writeText 4 none ∈ TBC := List.mem_append_left _ (List.mem_of_getElem? (i := 572) rfl)
set_option maxRecDepth 100000 in
theorem wC_mRX6_144 : Cond.methodLink RX6 144 yX4_at ∈ TBC := List.mem_append_left _ (List.mem_of_getElem? (i := 573) rfl)
set_option maxRecDepth 100000 in
theorem wC_mRX6_157 : Cond.methodLink RX6 157 yX6_write ∈ TBC := List.mem_append_left _ (List.mem_of_getElem? (i := 574) rfl)
set_option maxRecDepth 100000 in
theorem wC_im_yX6_write : Cond.instanceMethod yX6_write ∈ TBC := List.mem_append_left _ (List.mem_of_getElem? (i := 575) rfl)
set_option maxRecDepth 100000 in
theorem wC_sl_yX6_write : Cond.selects RX6 yX6_write yX6_write ∈ TBC := List.mem_append_left _ (List.mem_of_getElem? (i := 576) rfl)
set_option maxRecDepth 100000 in
theorem wC_mRX6_132 : Cond.methodLink RX6 132 yX6_writeText ∈ TBC := List.mem_append_left _ (List.mem_of_getElem? (i := 577) rfl)
set_option maxRecDepth 100000 in
theorem wC_im_yX6_writeText : Cond.instanceMethod yX6_writeText ∈ TBC := List.mem_append_left _ (List.mem_of_getElem? (i := 578) rfl)
set_option maxRecDepth 100000 in
theorem wC_sl_yX6_writeText : Cond.selects RX6 yX6_writeText yX6_writeText ∈ TBC := List.mem_append_left _ (List.mem_of_getElem? (i := 579) rfl)
set_option maxRecDepth 100000 in
theorem wC_cd_yX6_writePart : Cond.code yX6_writePart cX6_writePart 5 (some .int) ∈ TBC := List.mem_append_left _ (List.mem_of_getElem? (i := 580) rfl)
set_option maxRecDepth 100000 in
theorem wC_mRX6_154 : Cond.methodLink RX6 154 yX6_writePart ∈ TBC := List.mem_append_left _ (List.mem_of_getElem? (i := 581) rfl)
set_option maxRecDepth 100000 in
theorem wC_im_yX6_writePart : Cond.instanceMethod yX6_writePart ∈ TBC := List.mem_append_left _ (List.mem_of_getElem? (i := 582) rfl)
set_option maxRecDepth 100000 in
theorem wC_sl_yX6_writePart : Cond.selects RX6 yX6_writePart yX6_writePart ∈ TBC := List.mem_append_left _ (List.mem_of_getElem? (i := 583) rfl)
set_option maxRecDepth 100000 in
theorem wC_cd_yX6_writeTemplate : Cond.code yX6_writeTemplate cX6_writeTemplate 3 none ∈ TBC := List.mem_append_left _ (List.mem_of_getElem? (i := 584) rfl)
set_option maxRecDepth 100000 in
theorem wC_mRX6_136 : Cond.methodLink RX6 136 yX6_writeTemplate ∈ TBC := List.mem_append_left _ (List.mem_of_getElem? (i := 585) rfl)
set_option maxRecDepth 100000 in
theorem wC_im_yX6_writeTemplate : Cond.instanceMethod yX6_writeTemplate ∈ TBC := List.mem_append_left _ (List.mem_of_getElem? (i := 586) rfl)
set_option maxRecDepth 100000 in
theorem wC_sl_yX6_writeTemplate : Cond.selects RX6 yX6_writeTemplate yX6_writeTemplate ∈ TBC := List.mem_append_left _ (List.mem_of_getElem? (i := 587) rfl)
set_option maxRecDepth 100000 in
theorem wC_cd_yX6_replace : Cond.code yX6_replace cX6_replace 7 (some .int) ∈ TBC := List.mem_append_left _ (List.mem_of_getElem? (i := 588) rfl)
set_option maxRecDepth 100000 in
theorem wC_cd_yX6_result : Cond.code yX6_result cX6_result 2 (some .char) ∈ TBC := List.mem_append_left _ (List.mem_of_getElem? (i := 589) rfl)
set_option maxRecDepth 100000 in
theorem wC_cRX6_139 : Cond.classLink RX6 139 "java/util/NoSuchElementException" ∈ TBC := List.mem_append_left _ (List.mem_of_getElem? (i := 590) rfl)
set_option maxRecDepth 100000 in
theorem wC_in__java_util_NoSuchElementException_ : Cond.initialized "java/util/NoSuchElementException" ∈ TBC := List.mem_append_left _ (List.mem_of_getElem? (i := 591) rfl)
set_option maxRecDepth 100000 in
theorem wC_cd_yJ9_max_7cf53 : Cond.code yJ9_max_7cf53 cJ9_max_7cf53 2 (some .int) ∈ TBC := List.mem_append_left _ (List.mem_of_getElem? (i := 592) rfl)
set_option maxRecDepth 100000 in
theorem wC_cd_yJ9_min_7cf53 : Cond.code yJ9_min_7cf53 cJ9_min_7cf53 2 (some .int) ∈ TBC := List.mem_append_left _ (List.mem_of_getElem? (i := 593) rfl)
theorem iC0 (c : Cond) : ∀ w ∈ wsX00, w ∈ c :: TBC := fun _ h => List.mem_cons_of_mem _ (List.mem_append_right _ (List.mem_append_left _ (List.mem_append_left _ h)))
theorem iC1 (c : Cond) : ∀ w ∈ wsX10, w ∈ c :: TBC := fun _ h => List.mem_cons_of_mem _ (List.mem_append_right _ (List.mem_append_left _ (List.mem_append_right _ (List.mem_append_left _ h))))
theorem iC2 (c : Cond) : ∀ w ∈ wsX20, w ∈ c :: TBC := fun _ h => List.mem_cons_of_mem _ (List.mem_append_right _ (List.mem_append_left _ (List.mem_append_right _ (List.mem_append_right _ (List.mem_append_left _ h)))))
theorem iC3 (c : Cond) : ∀ w ∈ wsX30, w ∈ c :: TBC := fun _ h => List.mem_cons_of_mem _ (List.mem_append_right _ (List.mem_append_left _ (List.mem_append_right _ (List.mem_append_right _ (List.mem_append_right _ (List.mem_append_left _ h))))))
theorem iC4 (c : Cond) : ∀ w ∈ wsX40, w ∈ c :: TBC := fun _ h => List.mem_cons_of_mem _ (List.mem_append_right _ (List.mem_append_left _ (List.mem_append_right _ (List.mem_append_right _ (List.mem_append_right _ (List.mem_append_right _ (List.mem_append_left _ h)))))))
theorem iC5 (c : Cond) : ∀ w ∈ wsX50, w ∈ c :: TBC := fun _ h => List.mem_cons_of_mem _ (List.mem_append_right _ (List.mem_append_left _ (List.mem_append_right _ (List.mem_append_right _ (List.mem_append_right _ (List.mem_append_right _ (List.mem_append_right _ (List.mem_append_left _ h))))))))
theorem iC6 (c : Cond) : ∀ w ∈ wsX60, w ∈ c :: TBC := fun _ h => List.mem_cons_of_mem _ (List.mem_append_right _ (List.mem_append_left _ (List.mem_append_right _ (List.mem_append_right _ (List.mem_append_right _ (List.mem_append_right _ (List.mem_append_right _ (List.mem_append_right _ (h)))))))))
theorem tC_RX0_128 (c : Cond) : ∀ w ∈ (vx_atS RX0 128 "java/lang/UnsupportedOperationException" ["java/lang/RuntimeException", "java/lang/Exception"]).filter goodWord, w ∈ c :: TBC := fun _ h => List.mem_cons_of_mem _ (List.mem_append_right _ (List.mem_append_right _ (List.mem_append_left _ h)))
set_option maxRecDepth 100000 in
theorem tN_RX0_128 : ∀ w ∈ (vx_atS RX0 128 "java/lang/UnsupportedOperationException" ["java/lang/RuntimeException", "java/lang/Exception"]).filter (fun w => !goodWord w), w ∈ [Cond.castable "java/lang/UnsupportedOperationException" "java/lang/UnsupportedOperationException", Cond.declares (Bundle.initS "java/lang/RuntimeException"), Cond.declares (Bundle.initS "java/lang/Exception"), Cond.declares (Bundle.initS Bundle.tN)] := by
  have h : ((vx_atS RX0 128 "java/lang/UnsupportedOperationException" ["java/lang/RuntimeException", "java/lang/Exception"]).filter (fun w => !goodWord w)).all (fun w => decide (w ∈ [Cond.castable "java/lang/UnsupportedOperationException" "java/lang/UnsupportedOperationException", Cond.declares (Bundle.initS "java/lang/RuntimeException"), Cond.declares (Bundle.initS "java/lang/Exception"), Cond.declares (Bundle.initS Bundle.tN)])) = true := by decide +kernel
  intro w hw
  exact of_decide_eq_true (List.all_eq_true.mp h w hw)
set_option maxRecDepth 100000 in
theorem tO_RX0_128 (ik : Nat) : ∀ w ∈ Cond.classLink RX0 ik "java/lang/UnsupportedOperationException" :: Cond.initialized "java/lang/UnsupportedOperationException" :: vx_atS RX0 128 "java/lang/UnsupportedOperationException" ["java/lang/RuntimeException", "java/lang/Exception"], vx_ot w = true := by
  have h : (vx_atS RX0 128 "java/lang/UnsupportedOperationException" ["java/lang/RuntimeException", "java/lang/Exception"]).all vx_ot = true := by decide +kernel
  intro w hw
  rcases List.mem_cons.mp hw with rfl | hw
  · rfl
  · rcases List.mem_cons.mp hw with rfl | hw
    · rfl
    · exact List.all_eq_true.mp h w hw
theorem tC_RX2_67 (c : Cond) : ∀ w ∈ (vx_atS RX2 67 "java/lang/IllegalArgumentException" ["java/lang/RuntimeException", "java/lang/Exception"]).filter goodWord, w ∈ c :: TBC := fun _ h => List.mem_cons_of_mem _ (List.mem_append_right _ (List.mem_append_right _ (List.mem_append_right _ (List.mem_append_left _ h))))
set_option maxRecDepth 100000 in
theorem tN_RX2_67 : ∀ w ∈ (vx_atS RX2 67 "java/lang/IllegalArgumentException" ["java/lang/RuntimeException", "java/lang/Exception"]).filter (fun w => !goodWord w), w ∈ [Cond.castable "java/lang/IllegalArgumentException" "java/lang/IllegalArgumentException", Cond.declares (Bundle.initS "java/lang/RuntimeException"), Cond.declares (Bundle.initS "java/lang/Exception"), Cond.declares (Bundle.initS Bundle.tN)] := by
  have h : ((vx_atS RX2 67 "java/lang/IllegalArgumentException" ["java/lang/RuntimeException", "java/lang/Exception"]).filter (fun w => !goodWord w)).all (fun w => decide (w ∈ [Cond.castable "java/lang/IllegalArgumentException" "java/lang/IllegalArgumentException", Cond.declares (Bundle.initS "java/lang/RuntimeException"), Cond.declares (Bundle.initS "java/lang/Exception"), Cond.declares (Bundle.initS Bundle.tN)])) = true := by decide +kernel
  intro w hw
  exact of_decide_eq_true (List.all_eq_true.mp h w hw)
set_option maxRecDepth 100000 in
theorem tO_RX2_67 (ik : Nat) : ∀ w ∈ Cond.classLink RX2 ik "java/lang/IllegalArgumentException" :: Cond.initialized "java/lang/IllegalArgumentException" :: vx_atS RX2 67 "java/lang/IllegalArgumentException" ["java/lang/RuntimeException", "java/lang/Exception"], vx_ot w = true := by
  have h : (vx_atS RX2 67 "java/lang/IllegalArgumentException" ["java/lang/RuntimeException", "java/lang/Exception"]).all vx_ot = true := by decide +kernel
  intro w hw
  rcases List.mem_cons.mp hw with rfl | hw
  · rfl
  · rcases List.mem_cons.mp hw with rfl | hw
    · rfl
    · exact List.all_eq_true.mp h w hw
theorem tC_RX3_53 (c : Cond) : ∀ w ∈ (vx_atS RX3 53 "java/lang/IllegalArgumentException" ["java/lang/RuntimeException", "java/lang/Exception"]).filter goodWord, w ∈ c :: TBC := fun _ h => List.mem_cons_of_mem _ (List.mem_append_right _ (List.mem_append_right _ (List.mem_append_right _ (List.mem_append_right _ (List.mem_append_left _ h)))))
set_option maxRecDepth 100000 in
theorem tN_RX3_53 : ∀ w ∈ (vx_atS RX3 53 "java/lang/IllegalArgumentException" ["java/lang/RuntimeException", "java/lang/Exception"]).filter (fun w => !goodWord w), w ∈ [Cond.castable "java/lang/IllegalArgumentException" "java/lang/IllegalArgumentException", Cond.declares (Bundle.initS "java/lang/RuntimeException"), Cond.declares (Bundle.initS "java/lang/Exception"), Cond.declares (Bundle.initS Bundle.tN)] := by
  have h : ((vx_atS RX3 53 "java/lang/IllegalArgumentException" ["java/lang/RuntimeException", "java/lang/Exception"]).filter (fun w => !goodWord w)).all (fun w => decide (w ∈ [Cond.castable "java/lang/IllegalArgumentException" "java/lang/IllegalArgumentException", Cond.declares (Bundle.initS "java/lang/RuntimeException"), Cond.declares (Bundle.initS "java/lang/Exception"), Cond.declares (Bundle.initS Bundle.tN)])) = true := by decide +kernel
  intro w hw
  exact of_decide_eq_true (List.all_eq_true.mp h w hw)
set_option maxRecDepth 100000 in
theorem tO_RX3_53 (ik : Nat) : ∀ w ∈ Cond.classLink RX3 ik "java/lang/IllegalArgumentException" :: Cond.initialized "java/lang/IllegalArgumentException" :: vx_atS RX3 53 "java/lang/IllegalArgumentException" ["java/lang/RuntimeException", "java/lang/Exception"], vx_ot w = true := by
  have h : (vx_atS RX3 53 "java/lang/IllegalArgumentException" ["java/lang/RuntimeException", "java/lang/Exception"]).all vx_ot = true := by decide +kernel
  intro w hw
  rcases List.mem_cons.mp hw with rfl | hw
  · rfl
  · rcases List.mem_cons.mp hw with rfl | hw
    · rfl
    · exact List.all_eq_true.mp h w hw
theorem tC_RX6_77 (c : Cond) : ∀ w ∈ (vx_atS RX6 77 "java/lang/IllegalArgumentException" ["java/lang/RuntimeException", "java/lang/Exception"]).filter goodWord, w ∈ c :: TBC := fun _ h => List.mem_cons_of_mem _ (List.mem_append_right _ (List.mem_append_right _ (List.mem_append_right _ (List.mem_append_right _ (List.mem_append_right _ (List.mem_append_left _ h))))))
set_option maxRecDepth 100000 in
theorem tN_RX6_77 : ∀ w ∈ (vx_atS RX6 77 "java/lang/IllegalArgumentException" ["java/lang/RuntimeException", "java/lang/Exception"]).filter (fun w => !goodWord w), w ∈ [Cond.castable "java/lang/IllegalArgumentException" "java/lang/IllegalArgumentException", Cond.declares (Bundle.initS "java/lang/RuntimeException"), Cond.declares (Bundle.initS "java/lang/Exception"), Cond.declares (Bundle.initS Bundle.tN)] := by
  have h : ((vx_atS RX6 77 "java/lang/IllegalArgumentException" ["java/lang/RuntimeException", "java/lang/Exception"]).filter (fun w => !goodWord w)).all (fun w => decide (w ∈ [Cond.castable "java/lang/IllegalArgumentException" "java/lang/IllegalArgumentException", Cond.declares (Bundle.initS "java/lang/RuntimeException"), Cond.declares (Bundle.initS "java/lang/Exception"), Cond.declares (Bundle.initS Bundle.tN)])) = true := by decide +kernel
  intro w hw
  exact of_decide_eq_true (List.all_eq_true.mp h w hw)
set_option maxRecDepth 100000 in
theorem tO_RX6_77 (ik : Nat) : ∀ w ∈ Cond.classLink RX6 ik "java/lang/IllegalArgumentException" :: Cond.initialized "java/lang/IllegalArgumentException" :: vx_atS RX6 77 "java/lang/IllegalArgumentException" ["java/lang/RuntimeException", "java/lang/Exception"], vx_ot w = true := by
  have h : (vx_atS RX6 77 "java/lang/IllegalArgumentException" ["java/lang/RuntimeException", "java/lang/Exception"]).all vx_ot = true := by decide +kernel
  intro w hw
  rcases List.mem_cons.mp hw with rfl | hw
  · rfl
  · rcases List.mem_cons.mp hw with rfl | hw
    · rfl
    · exact List.all_eq_true.mp h w hw
theorem tC_RX6_116 (c : Cond) : ∀ w ∈ (vx_atS RX6 116 "java/lang/IllegalStateException" ["java/lang/RuntimeException", "java/lang/Exception"]).filter goodWord, w ∈ c :: TBC := fun _ h => List.mem_cons_of_mem _ (List.mem_append_right _ (List.mem_append_right _ (List.mem_append_right _ (List.mem_append_right _ (List.mem_append_right _ (List.mem_append_right _ (List.mem_append_left _ h)))))))
set_option maxRecDepth 100000 in
theorem tN_RX6_116 : ∀ w ∈ (vx_atS RX6 116 "java/lang/IllegalStateException" ["java/lang/RuntimeException", "java/lang/Exception"]).filter (fun w => !goodWord w), w ∈ [Cond.castable "java/lang/IllegalStateException" "java/lang/IllegalStateException", Cond.declares (Bundle.initS "java/lang/RuntimeException"), Cond.declares (Bundle.initS "java/lang/Exception"), Cond.declares (Bundle.initS Bundle.tN)] := by
  have h : ((vx_atS RX6 116 "java/lang/IllegalStateException" ["java/lang/RuntimeException", "java/lang/Exception"]).filter (fun w => !goodWord w)).all (fun w => decide (w ∈ [Cond.castable "java/lang/IllegalStateException" "java/lang/IllegalStateException", Cond.declares (Bundle.initS "java/lang/RuntimeException"), Cond.declares (Bundle.initS "java/lang/Exception"), Cond.declares (Bundle.initS Bundle.tN)])) = true := by decide +kernel
  intro w hw
  exact of_decide_eq_true (List.all_eq_true.mp h w hw)
set_option maxRecDepth 100000 in
theorem tO_RX6_116 (ik : Nat) : ∀ w ∈ Cond.classLink RX6 ik "java/lang/IllegalStateException" :: Cond.initialized "java/lang/IllegalStateException" :: vx_atS RX6 116 "java/lang/IllegalStateException" ["java/lang/RuntimeException", "java/lang/Exception"], vx_ot w = true := by
  have h : (vx_atS RX6 116 "java/lang/IllegalStateException" ["java/lang/RuntimeException", "java/lang/Exception"]).all vx_ot = true := by decide +kernel
  intro w hw
  rcases List.mem_cons.mp hw with rfl | hw
  · rfl
  · rcases List.mem_cons.mp hw with rfl | hw
    · rfl
    · exact List.all_eq_true.mp h w hw
theorem tC_RX6_165 (c : Cond) : ∀ w ∈ (vx_atS RX6 165 "java/lang/UnsupportedOperationException" ["java/lang/RuntimeException", "java/lang/Exception"]).filter goodWord, w ∈ c :: TBC := fun _ h => List.mem_cons_of_mem _ (List.mem_append_right _ (List.mem_append_right _ (List.mem_append_right _ (List.mem_append_right _ (List.mem_append_right _ (List.mem_append_right _ (List.mem_append_right _ (List.mem_append_left _ h))))))))
set_option maxRecDepth 100000 in
theorem tN_RX6_165 : ∀ w ∈ (vx_atS RX6 165 "java/lang/UnsupportedOperationException" ["java/lang/RuntimeException", "java/lang/Exception"]).filter (fun w => !goodWord w), w ∈ [Cond.castable "java/lang/UnsupportedOperationException" "java/lang/UnsupportedOperationException", Cond.declares (Bundle.initS "java/lang/RuntimeException"), Cond.declares (Bundle.initS "java/lang/Exception"), Cond.declares (Bundle.initS Bundle.tN)] := by
  have h : ((vx_atS RX6 165 "java/lang/UnsupportedOperationException" ["java/lang/RuntimeException", "java/lang/Exception"]).filter (fun w => !goodWord w)).all (fun w => decide (w ∈ [Cond.castable "java/lang/UnsupportedOperationException" "java/lang/UnsupportedOperationException", Cond.declares (Bundle.initS "java/lang/RuntimeException"), Cond.declares (Bundle.initS "java/lang/Exception"), Cond.declares (Bundle.initS Bundle.tN)])) = true := by decide +kernel
  intro w hw
  exact of_decide_eq_true (List.all_eq_true.mp h w hw)
set_option maxRecDepth 100000 in
theorem tO_RX6_165 (ik : Nat) : ∀ w ∈ Cond.classLink RX6 ik "java/lang/UnsupportedOperationException" :: Cond.initialized "java/lang/UnsupportedOperationException" :: vx_atS RX6 165 "java/lang/UnsupportedOperationException" ["java/lang/RuntimeException", "java/lang/Exception"], vx_ot w = true := by
  have h : (vx_atS RX6 165 "java/lang/UnsupportedOperationException" ["java/lang/RuntimeException", "java/lang/Exception"]).all vx_ot = true := by decide +kernel
  intro w hw
  rcases List.mem_cons.mp hw with rfl | hw
  · rfl
  · rcases List.mem_cons.mp hw with rfl | hw
    · rfl
    · exact List.all_eq_true.mp h w hw
theorem tC_RX6_143 (c : Cond) : ∀ w ∈ vx_ns.filter goodWord, w ∈ c :: TBC := fun _ h => List.mem_cons_of_mem _ (List.mem_append_right _ (List.mem_append_right _ (List.mem_append_right _ (List.mem_append_right _ (List.mem_append_right _ (List.mem_append_right _ (List.mem_append_right _ (List.mem_append_right _ (h)))))))))
set_option maxRecDepth 100000 in
theorem tN_RX6_143 : ∀ w ∈ vx_ns.filter (fun w => !goodWord w), w ∈ [Cond.castable "java/util/NoSuchElementException" "java/util/NoSuchElementException", Cond.declares (Bundle.initS "java/lang/RuntimeException"), Cond.declares (Bundle.initS "java/lang/Exception"), Cond.declares (Bundle.initS Bundle.tN)] := by
  have h : (vx_ns.filter (fun w => !goodWord w)).all (fun w => decide (w ∈ [Cond.castable "java/util/NoSuchElementException" "java/util/NoSuchElementException", Cond.declares (Bundle.initS "java/lang/RuntimeException"), Cond.declares (Bundle.initS "java/lang/Exception"), Cond.declares (Bundle.initS Bundle.tN)])) = true := by decide +kernel
  intro w hw
  exact of_decide_eq_true (List.all_eq_true.mp h w hw)
set_option maxRecDepth 100000 in
theorem tO_RX6_143 (ik : Nat) : ∀ w ∈ Cond.classLink RX6 ik "java/util/NoSuchElementException" :: Cond.initialized "java/util/NoSuchElementException" :: vx_ns, vx_ot w = true := by
  have h : vx_ns.all vx_ot = true := by decide +kernel
  intro w hw
  rcases List.mem_cons.mp hw with rfl | hw
  · rfl
  · rcases List.mem_cons.mp hw with rfl | hw
    · rfl
    · exact List.all_eq_true.mp h w hw
