def TW7 : List Cond := [
.code yX7_emit cX7_emit 5 (some .int),
  .fieldLink RX7 35 "PatternRunnerModel" "newOp" "[I",
  .fieldLink RX7 114 "PatternRunnerModel" "codes" "I",
  .fieldLink RX7 38 "PatternRunnerModel" "newA" "[I",
  .fieldLink RX7 41 "PatternRunnerModel" "newB" "[I",
  .fieldLink RX7 44 "PatternRunnerModel" "newC" "[I",
  .code yX7_openBody cX7_openBody 4 none,
  .fieldLink RX7 117 "PatternRunnerModel" "bad" "Z",
  .fieldLink RX7 121 "PatternRunnerModel" "bodies" "I",
  .fieldLink RX7 47 "PatternRunnerModel" "sort" "[I",
  .fieldLink RX7 50 "PatternRunnerModel" "groupOf" "[I",
  .fieldLink RX7 62 "PatternRunnerModel" "before" "[I",
  .fieldLink RX7 56 "PatternRunnerModel" "goOf" "[I",
  .fieldLink RX7 59 "PatternRunnerModel" "weightOf" "[I",
  .fieldLink RX7 53 "PatternRunnerModel" "altOf" "[I",
  .methodLink RX7 124 yX7_emit,
  .instanceMethod yX7_emit,
  .selects RX7 yX7_emit yX7_emit,
  .initialized RX7,
  .code yX7_sign cX7_sign 2 (some .int),
  .fieldLink RX7 86 "PatternRunnerModel" "newLength" "I",
  .fieldLink RX7 32 "PatternRunnerModel" "newSigns" "[C",
  .code yX7_endAlternative cX7_endAlternative 5 none,
  .code yX7_weigh cX7_weigh 2 none,
  .code yX7_isDigit cX7_isDigit 1 (some .boolean),
  .fieldLink RX7 139 "PatternRunnerModel" "at" "I",
  .constant RX7 149 (65536),
  .fieldLink RX7 150 "PatternRunnerModel" "loops" "I",
  .fieldLink RX7 153 "PatternRunnerModel" "newGroups" "I",
  .methodLink RX7 142 yX7_sign,
  .instanceMethod yX7_sign,
  .selects RX7 yX7_sign yX7_sign,
  .methodLink RX7 145 yX7_isDigit,
  .static yX7_isDigit,
  .methodLink RX7 132 yX7_weigh,
  .instanceMethod yX7_weigh,
  .selects RX7 yX7_weigh yX7_weigh,
  .code yX7_count cX7_count 8 none,
  .methodLink RX7 128 yX7_endAlternative,
  .instanceMethod yX7_endAlternative,
  .selects RX7 yX7_endAlternative yX7_endAlternative,
  .methodLink RX7 135 yX7_count,
  .instanceMethod yX7_count,
  .selects RX7 yX7_count yX7_count,
  .code yX7_closeBody cX7_closeBody 5 none,
  .fieldLink RX7 159 "PatternRunnerModel" "looks" "I",
  .methodLink RX7 156 yX7_openBody,
  .instanceMethod yX7_openBody,
  .selects RX7 yX7_openBody yX7_openBody,
  .code yX7_openParenthesis cX7_openParenthesis 3 none,
  .code yX7_isSpecial cX7_isSpecial 1 (some .boolean),
  .code yX7_isClass cX7_isClass 1 (some .boolean),
  .code yX7_mark cX7_mark 3 (some .int),
  .methodLink RX7 162 yX7_isSpecial,
  .static yX7_isSpecial,
  .methodLink RX7 165 yX7_isClass,
  .static yX7_isClass,
  .methodLink RX7 168 yX7_mark,
  .instanceMethod yX7_mark,
  .selects RX7 yX7_mark yX7_mark,
  .code yX7_set cX7_set 7 none,
  .fieldLink RX7 172 "PatternRunnerModel" "greatest" "I",
  .code yX7_escaped cX7_escaped 2 none,
  .methodLink RX7 175 yX7_set,
  .instanceMethod yX7_set,
  .selects RX7 yX7_set yX7_set,
  .methodLink RX7 178 yX7_escaped,
  .instanceMethod yX7_escaped,
  .selects RX7 yX7_escaped yX7_escaped,
  .code yX7_atom cX7_atom 3 none,
  .methodLink RX7 181 yX7_closeBody,
  .instanceMethod yX7_closeBody,
  .selects RX7 yX7_closeBody yX7_closeBody,
  .methodLink RX7 184 yX7_openParenthesis,
  .instanceMethod yX7_openParenthesis,
  .selects RX7 yX7_openParenthesis yX7_openParenthesis,
  .methodLink RX7 187 yX7_atom,
  .instanceMethod yX7_atom,
  .selects RX7 yX7_atom yX7_atom,
  .code yX7_reads cX7_reads 2 (some .boolean),
  .code yX7_take cX7_take 3 none,
  .fieldLink RX7 19 "PatternRunnerModel" "op" "[I",
  .fieldLink RX7 23 "PatternRunnerModel" "a" "[I",
  .fieldLink RX7 26 "PatternRunnerModel" "b" "[I",
  .fieldLink RX7 29 "PatternRunnerModel" "c" "[I",
  .fieldLink RX7 16 "PatternRunnerModel" "signs" "[C",
  .fieldLink RX7 190 "PatternRunnerModel" "groups" "I",
  .fieldLink RX7 193 "PatternRunnerModel" "flags" "I",
  .fieldLink RX7 196 "PatternRunnerModel" "start" "I",
  .fieldLink RX7 199 "PatternRunnerModel" "found" "Z",
  .fieldLink RX7 68 "PatternRunnerModel" "trail" "[I",
  .fieldLink RX7 71 "PatternRunnerModel" "choices" "[I",
  .fieldLink RX7 74 "PatternRunnerModel" "foundFrom" "[I",
  .fieldLink RX7 77 "PatternRunnerModel" "foundTo" "[I",
  .fieldLink RX7 80 "PatternRunnerModel" "result" "[C",
  .fieldLink RX7 83 "PatternRunnerModel" "newResult" "[C",
  .methodLink RX7 90 yX7_reads,
  .instanceMethod yX7_reads,
  .selects RX7 yX7_reads yX7_reads,
  .methodLink RX7 94 yX7_take,
  .instanceMethod yX7_take,
  .selects RX7 yX7_take yX7_take,
  .code yX7_init cX7_init 2 none,
  .code yX7_thrown cX7_thrown 1 (some .int),
  .fieldLink RX7 98 "PatternRunnerModel" "refusal" "I",
  .code yX7_refuse cX7_refuse 2 (some .int),
  .code yX7_type cX7_type 7 (some .int),
  .fieldLink RX7 101 "PatternRunnerModel" "typedCount" "I",
  .constantLong RX7 108 (255),
  .constantLong RX7 110 (32),
  .constantLong RX7 112 (126),
  .fieldLink RX7 7 "PatternRunnerModel" "typed" "[C",
  .methodLink RX7 104 yX7_refuse,
  .instanceMethod yX7_refuse,
  .selects RX7 yX7_refuse yX7_refuse,
  .code yX7_pattern cX7_pattern 3 (some .int),
  .code yX7_text cX7_text 2 (some .int),
  .fieldLink RX7 13 "PatternRunnerModel" "text" "[C",
  .fieldLink RX7 202 "PatternRunnerModel" "length" "I",
  .code yX7_start cX7_start 2 (some .int),
  .code yX7_has cX7_has 2 (some .boolean),
  .code yX7_other cX7_other 1 (some .int),
  .code yX7_inClass cX7_inClass 3 (some .boolean),
  .code yX7_inSet cX7_inSet 12 (some .boolean),
  .methodLink RX7 205 yX7_inClass,
  .static yX7_inClass,
  .code yX7_fits cX7_fits 3 (some .boolean),
  .methodLink RX7 209 yX7_has,
  .instanceMethod yX7_has,
  .selects RX7 yX7_has yX7_has,
  .methodLink RX7 212 yX7_inSet,
  .instanceMethod yX7_inSet,
  .selects RX7 yX7_inSet yX7_inSet,
  .fieldLink RX7 216 "PatternRunnerModel" "place" "I",
  .methodLink RX7 219 yX7_fits,
  .instanceMethod yX7_fits,
  .selects RX7 yX7_fits yX7_fits,
  .methodLink RX7 222 yX7_other,
  .static yX7_other,
  .code yX7_passes cX7_passes 4 (some .boolean),
  .code yX7_put cX7_put 3 none,
  .fieldLink RX7 65 "PatternRunnerModel" "registers" "[I",
  .fieldLink RX7 225 "PatternRunnerModel" "trailed" "I",
  .code yX7_choose cX7_choose 3 none,
  .fieldLink RX7 228 "PatternRunnerModel" "choiceCount" "I",
  .code yX7_undo cX7_undo 2 none,
  .code yX7_pass cX7_pass 5 none,
  .fieldLink RX7 235 "PatternRunnerModel" "next" "I",
  .methodLink RX7 241 yX7_put,
  .instanceMethod yX7_put,
  .selects RX7 yX7_put yX7_put,
  .code yX7_goBack cX7_goBack 4 (some .boolean),
  .constant RX7 231 (32768),
  .methodLink RX7 232 yX7_undo,
  .instanceMethod yX7_undo,
  .selects RX7 yX7_undo yX7_undo,
  .methodLink RX7 238 yX7_pass,
  .instanceMethod yX7_pass,
  .selects RX7 yX7_pass yX7_pass,
  .code yX7_decide cX7_decide 7 none,
  .methodLink RX7 244 yX7_choose,
  .instanceMethod yX7_choose,
  .selects RX7 yX7_choose yX7_choose,
  .code yX7_step cX7_step 1 none,
  .fieldLink RX7 247 "PatternRunnerModel" "over" "Z",
  .fieldLink RX7 250 "PatternRunnerModel" "made" "I",
  .code yX7_isSame cX7_isSame 8 (some .boolean),
  .code yX7_isIdle cX7_isIdle 2 (some .boolean),
  .code yX7_looked cX7_looked 3 none,
  .methodLink RX7 253 yX7_step,
  .instanceMethod yX7_step,
  .selects RX7 yX7_step yX7_step,
  .methodLink RX7 271 yX7_passes,
  .instanceMethod yX7_passes,
  .selects RX7 yX7_passes yX7_passes,
  .code yX7_one cX7_one 2 (some .boolean),
  .methodLink RX7 256 yX7_isSame,
  .instanceMethod yX7_isSame,
  .selects RX7 yX7_isSame yX7_isSame,
  .methodLink RX7 259 yX7_looked,
  .instanceMethod yX7_looked,
  .selects RX7 yX7_looked yX7_looked,
  .methodLink RX7 262 yX7_decide,
  .instanceMethod yX7_decide,
  .selects RX7 yX7_decide yX7_decide,
  .methodLink RX7 265 yX7_isIdle,
  .instanceMethod yX7_isIdle,
  .selects RX7 yX7_isIdle yX7_isIdle,
  .methodLink RX7 268 yX7_one,
  .instanceMethod yX7_one,
  .selects RX7 yX7_one yX7_one,
  .code yX7_order cX7_order 2 (some .boolean),
  .methodLink RX7 274 yX7_order,
  .instanceMethod yX7_order,
  .selects RX7 yX7_order yX7_order,
  .methodLink RX7 277 yX7_goBack,
  .instanceMethod yX7_goBack,
  .selects RX7 yX7_goBack yX7_goBack,
  .code yX7_tries cX7_tries 3 (some .boolean),
  .methodLink RX7 280 yX7_tries,
  .instanceMethod yX7_tries,
  .selects RX7 yX7_tries yX7_tries,
  .code yX7_search cX7_search 3 (some .int),
  .fieldLink RX7 286 "PatternRunnerModel" "steps" "I",
  .methodLink RX7 283 yX7_search,
  .instanceMethod yX7_search,
  .selects RX7 yX7_search yX7_search,
  .code yX7_find cX7_find 3 (some .int),
  .code yX7_isGroup cX7_isGroup 2 (some .boolean),
  .code yX7_from cX7_from 2 (some .int),
  .methodLink RX7 289 yX7_isGroup,
  .instanceMethod yX7_isGroup,
  .selects RX7 yX7_isGroup yX7_isGroup,
  .code yX7_to cX7_to 2 (some .int),
  .code yX7_steps cX7_steps 1 (some .int),
  .code yX7_write cX7_write 2 none,
  .fieldLink RX7 292 "PatternRunnerModel" "newResultCount" "I",
  .code yX7_writeText cX7_writeText 4 none,
  .methodLink RX7 295 yX7_write,
  .instanceMethod yX7_write,
  .selects RX7 yX7_write yX7_write,
  .code yX7_writeTemplate cX7_writeTemplate 6 none,
  .methodLink RX7 298 yX7_writeText,
  .instanceMethod yX7_writeText,
  .selects RX7 yX7_writeText yX7_writeText,
  .fieldLink RX7 304 "PatternRunnerModel" "resultCount" "I",
  .methodLink RX7 301 yX7_writeTemplate,
  .instanceMethod yX7_writeTemplate,
  .selects RX7 yX7_writeTemplate yX7_writeTemplate,
  .code yX7_replace cX7_replace 5 (some .int),
  .code yX7_result cX7_result 2 (some .char)
]
def TB7 : List Cond := TW7 ++ (wsX70)
set_option maxRecDepth 100000 in
theorem TB7_good : TB7.all goodWord = true := by decide +kernel
set_option maxRecDepth 100000 in
theorem w7_cd_yX7_emit : Cond.code yX7_emit cX7_emit 5 (some .int) ∈ TB7 := List.mem_append_left _ (List.mem_of_getElem? (i := 0) rfl)
set_option maxRecDepth 100000 in
theorem w7_fRX7_35 : Cond.fieldLink RX7 35 "PatternRunnerModel" "newOp" "[I" ∈ TB7 := List.mem_append_left _ (List.mem_of_getElem? (i := 1) rfl)
set_option maxRecDepth 100000 in
theorem w7_fRX7_114 : Cond.fieldLink RX7 114 "PatternRunnerModel" "codes" "I" ∈ TB7 := List.mem_append_left _ (List.mem_of_getElem? (i := 2) rfl)
set_option maxRecDepth 100000 in
theorem w7_fRX7_38 : Cond.fieldLink RX7 38 "PatternRunnerModel" "newA" "[I" ∈ TB7 := List.mem_append_left _ (List.mem_of_getElem? (i := 3) rfl)
set_option maxRecDepth 100000 in
theorem w7_fRX7_41 : Cond.fieldLink RX7 41 "PatternRunnerModel" "newB" "[I" ∈ TB7 := List.mem_append_left _ (List.mem_of_getElem? (i := 4) rfl)
set_option maxRecDepth 100000 in
theorem w7_fRX7_44 : Cond.fieldLink RX7 44 "PatternRunnerModel" "newC" "[I" ∈ TB7 := List.mem_append_left _ (List.mem_of_getElem? (i := 5) rfl)
set_option maxRecDepth 100000 in
theorem w7_cd_yX7_openBody : Cond.code yX7_openBody cX7_openBody 4 none ∈ TB7 := List.mem_append_left _ (List.mem_of_getElem? (i := 6) rfl)
set_option maxRecDepth 100000 in
theorem w7_fRX7_117 : Cond.fieldLink RX7 117 "PatternRunnerModel" "bad" "Z" ∈ TB7 := List.mem_append_left _ (List.mem_of_getElem? (i := 7) rfl)
set_option maxRecDepth 100000 in
theorem w7_fRX7_121 : Cond.fieldLink RX7 121 "PatternRunnerModel" "bodies" "I" ∈ TB7 := List.mem_append_left _ (List.mem_of_getElem? (i := 8) rfl)
set_option maxRecDepth 100000 in
theorem w7_fRX7_47 : Cond.fieldLink RX7 47 "PatternRunnerModel" "sort" "[I" ∈ TB7 := List.mem_append_left _ (List.mem_of_getElem? (i := 9) rfl)
set_option maxRecDepth 100000 in
theorem w7_fRX7_50 : Cond.fieldLink RX7 50 "PatternRunnerModel" "groupOf" "[I" ∈ TB7 := List.mem_append_left _ (List.mem_of_getElem? (i := 10) rfl)
set_option maxRecDepth 100000 in
theorem w7_fRX7_62 : Cond.fieldLink RX7 62 "PatternRunnerModel" "before" "[I" ∈ TB7 := List.mem_append_left _ (List.mem_of_getElem? (i := 11) rfl)
set_option maxRecDepth 100000 in
theorem w7_fRX7_56 : Cond.fieldLink RX7 56 "PatternRunnerModel" "goOf" "[I" ∈ TB7 := List.mem_append_left _ (List.mem_of_getElem? (i := 12) rfl)
set_option maxRecDepth 100000 in
theorem w7_fRX7_59 : Cond.fieldLink RX7 59 "PatternRunnerModel" "weightOf" "[I" ∈ TB7 := List.mem_append_left _ (List.mem_of_getElem? (i := 13) rfl)
set_option maxRecDepth 100000 in
theorem w7_fRX7_53 : Cond.fieldLink RX7 53 "PatternRunnerModel" "altOf" "[I" ∈ TB7 := List.mem_append_left _ (List.mem_of_getElem? (i := 14) rfl)
set_option maxRecDepth 100000 in
theorem w7_mRX7_124 : Cond.methodLink RX7 124 yX7_emit ∈ TB7 := List.mem_append_left _ (List.mem_of_getElem? (i := 15) rfl)
set_option maxRecDepth 100000 in
theorem w7_im_yX7_emit : Cond.instanceMethod yX7_emit ∈ TB7 := List.mem_append_left _ (List.mem_of_getElem? (i := 16) rfl)
set_option maxRecDepth 100000 in
theorem w7_sl_yX7_emit : Cond.selects RX7 yX7_emit yX7_emit ∈ TB7 := List.mem_append_left _ (List.mem_of_getElem? (i := 17) rfl)
set_option maxRecDepth 100000 in
theorem w7_in_RX7 : Cond.initialized RX7 ∈ TB7 := List.mem_append_left _ (List.mem_of_getElem? (i := 18) rfl)
set_option maxRecDepth 100000 in
theorem w7_cd_yX7_sign : Cond.code yX7_sign cX7_sign 2 (some .int) ∈ TB7 := List.mem_append_left _ (List.mem_of_getElem? (i := 19) rfl)
set_option maxRecDepth 100000 in
theorem w7_fRX7_86 : Cond.fieldLink RX7 86 "PatternRunnerModel" "newLength" "I" ∈ TB7 := List.mem_append_left _ (List.mem_of_getElem? (i := 20) rfl)
set_option maxRecDepth 100000 in
theorem w7_fRX7_32 : Cond.fieldLink RX7 32 "PatternRunnerModel" "newSigns" "[C" ∈ TB7 := List.mem_append_left _ (List.mem_of_getElem? (i := 21) rfl)
set_option maxRecDepth 100000 in
theorem w7_cd_yX7_endAlternative : Cond.code yX7_endAlternative cX7_endAlternative 5 none ∈ TB7 := List.mem_append_left _ (List.mem_of_getElem? (i := 22) rfl)
set_option maxRecDepth 100000 in
theorem w7_cd_yX7_weigh : Cond.code yX7_weigh cX7_weigh 2 none ∈ TB7 := List.mem_append_left _ (List.mem_of_getElem? (i := 23) rfl)
set_option maxRecDepth 100000 in
theorem w7_cd_yX7_isDigit : Cond.code yX7_isDigit cX7_isDigit 1 (some .boolean) ∈ TB7 := List.mem_append_left _ (List.mem_of_getElem? (i := 24) rfl)
set_option maxRecDepth 100000 in
theorem w7_fRX7_139 : Cond.fieldLink RX7 139 "PatternRunnerModel" "at" "I" ∈ TB7 := List.mem_append_left _ (List.mem_of_getElem? (i := 25) rfl)
set_option maxRecDepth 100000 in
theorem w7_kRX7_149 : Cond.constant RX7 149 (65536) ∈ TB7 := List.mem_append_left _ (List.mem_of_getElem? (i := 26) rfl)
set_option maxRecDepth 100000 in
theorem w7_fRX7_150 : Cond.fieldLink RX7 150 "PatternRunnerModel" "loops" "I" ∈ TB7 := List.mem_append_left _ (List.mem_of_getElem? (i := 27) rfl)
set_option maxRecDepth 100000 in
theorem w7_fRX7_153 : Cond.fieldLink RX7 153 "PatternRunnerModel" "newGroups" "I" ∈ TB7 := List.mem_append_left _ (List.mem_of_getElem? (i := 28) rfl)
set_option maxRecDepth 100000 in
theorem w7_mRX7_142 : Cond.methodLink RX7 142 yX7_sign ∈ TB7 := List.mem_append_left _ (List.mem_of_getElem? (i := 29) rfl)
set_option maxRecDepth 100000 in
theorem w7_im_yX7_sign : Cond.instanceMethod yX7_sign ∈ TB7 := List.mem_append_left _ (List.mem_of_getElem? (i := 30) rfl)
set_option maxRecDepth 100000 in
theorem w7_sl_yX7_sign : Cond.selects RX7 yX7_sign yX7_sign ∈ TB7 := List.mem_append_left _ (List.mem_of_getElem? (i := 31) rfl)
set_option maxRecDepth 100000 in
theorem w7_mRX7_145 : Cond.methodLink RX7 145 yX7_isDigit ∈ TB7 := List.mem_append_left _ (List.mem_of_getElem? (i := 32) rfl)
set_option maxRecDepth 100000 in
theorem w7_st_yX7_isDigit : Cond.static yX7_isDigit ∈ TB7 := List.mem_append_left _ (List.mem_of_getElem? (i := 33) rfl)
set_option maxRecDepth 100000 in
theorem w7_mRX7_132 : Cond.methodLink RX7 132 yX7_weigh ∈ TB7 := List.mem_append_left _ (List.mem_of_getElem? (i := 34) rfl)
set_option maxRecDepth 100000 in
theorem w7_im_yX7_weigh : Cond.instanceMethod yX7_weigh ∈ TB7 := List.mem_append_left _ (List.mem_of_getElem? (i := 35) rfl)
set_option maxRecDepth 100000 in
theorem w7_sl_yX7_weigh : Cond.selects RX7 yX7_weigh yX7_weigh ∈ TB7 := List.mem_append_left _ (List.mem_of_getElem? (i := 36) rfl)
set_option maxRecDepth 100000 in
theorem w7_cd_yX7_count : Cond.code yX7_count cX7_count 8 none ∈ TB7 := List.mem_append_left _ (List.mem_of_getElem? (i := 37) rfl)
set_option maxRecDepth 100000 in
theorem w7_mRX7_128 : Cond.methodLink RX7 128 yX7_endAlternative ∈ TB7 := List.mem_append_left _ (List.mem_of_getElem? (i := 38) rfl)
set_option maxRecDepth 100000 in
theorem w7_im_yX7_endAlternative : Cond.instanceMethod yX7_endAlternative ∈ TB7 := List.mem_append_left _ (List.mem_of_getElem? (i := 39) rfl)
set_option maxRecDepth 100000 in
theorem w7_sl_yX7_endAlternative : Cond.selects RX7 yX7_endAlternative yX7_endAlternative ∈ TB7 := List.mem_append_left _ (List.mem_of_getElem? (i := 40) rfl)
set_option maxRecDepth 100000 in
theorem w7_mRX7_135 : Cond.methodLink RX7 135 yX7_count ∈ TB7 := List.mem_append_left _ (List.mem_of_getElem? (i := 41) rfl)
set_option maxRecDepth 100000 in
theorem w7_im_yX7_count : Cond.instanceMethod yX7_count ∈ TB7 := List.mem_append_left _ (List.mem_of_getElem? (i := 42) rfl)
set_option maxRecDepth 100000 in
theorem w7_sl_yX7_count : Cond.selects RX7 yX7_count yX7_count ∈ TB7 := List.mem_append_left _ (List.mem_of_getElem? (i := 43) rfl)
set_option maxRecDepth 100000 in
theorem w7_cd_yX7_closeBody : Cond.code yX7_closeBody cX7_closeBody 5 none ∈ TB7 := List.mem_append_left _ (List.mem_of_getElem? (i := 44) rfl)
set_option maxRecDepth 100000 in
theorem w7_fRX7_159 : Cond.fieldLink RX7 159 "PatternRunnerModel" "looks" "I" ∈ TB7 := List.mem_append_left _ (List.mem_of_getElem? (i := 45) rfl)
set_option maxRecDepth 100000 in
theorem w7_mRX7_156 : Cond.methodLink RX7 156 yX7_openBody ∈ TB7 := List.mem_append_left _ (List.mem_of_getElem? (i := 46) rfl)
set_option maxRecDepth 100000 in
theorem w7_im_yX7_openBody : Cond.instanceMethod yX7_openBody ∈ TB7 := List.mem_append_left _ (List.mem_of_getElem? (i := 47) rfl)
set_option maxRecDepth 100000 in
theorem w7_sl_yX7_openBody : Cond.selects RX7 yX7_openBody yX7_openBody ∈ TB7 := List.mem_append_left _ (List.mem_of_getElem? (i := 48) rfl)
set_option maxRecDepth 100000 in
theorem w7_cd_yX7_openParenthesis : Cond.code yX7_openParenthesis cX7_openParenthesis 3 none ∈ TB7 := List.mem_append_left _ (List.mem_of_getElem? (i := 49) rfl)
set_option maxRecDepth 100000 in
theorem w7_cd_yX7_isSpecial : Cond.code yX7_isSpecial cX7_isSpecial 1 (some .boolean) ∈ TB7 := List.mem_append_left _ (List.mem_of_getElem? (i := 50) rfl)
set_option maxRecDepth 100000 in
theorem w7_cd_yX7_isClass : Cond.code yX7_isClass cX7_isClass 1 (some .boolean) ∈ TB7 := List.mem_append_left _ (List.mem_of_getElem? (i := 51) rfl)
set_option maxRecDepth 100000 in
theorem w7_cd_yX7_mark : Cond.code yX7_mark cX7_mark 3 (some .int) ∈ TB7 := List.mem_append_left _ (List.mem_of_getElem? (i := 52) rfl)
set_option maxRecDepth 100000 in
theorem w7_mRX7_162 : Cond.methodLink RX7 162 yX7_isSpecial ∈ TB7 := List.mem_append_left _ (List.mem_of_getElem? (i := 53) rfl)
set_option maxRecDepth 100000 in
theorem w7_st_yX7_isSpecial : Cond.static yX7_isSpecial ∈ TB7 := List.mem_append_left _ (List.mem_of_getElem? (i := 54) rfl)
set_option maxRecDepth 100000 in
theorem w7_mRX7_165 : Cond.methodLink RX7 165 yX7_isClass ∈ TB7 := List.mem_append_left _ (List.mem_of_getElem? (i := 55) rfl)
set_option maxRecDepth 100000 in
theorem w7_st_yX7_isClass : Cond.static yX7_isClass ∈ TB7 := List.mem_append_left _ (List.mem_of_getElem? (i := 56) rfl)
set_option maxRecDepth 100000 in
theorem w7_mRX7_168 : Cond.methodLink RX7 168 yX7_mark ∈ TB7 := List.mem_append_left _ (List.mem_of_getElem? (i := 57) rfl)
set_option maxRecDepth 100000 in
theorem w7_im_yX7_mark : Cond.instanceMethod yX7_mark ∈ TB7 := List.mem_append_left _ (List.mem_of_getElem? (i := 58) rfl)
set_option maxRecDepth 100000 in
theorem w7_sl_yX7_mark : Cond.selects RX7 yX7_mark yX7_mark ∈ TB7 := List.mem_append_left _ (List.mem_of_getElem? (i := 59) rfl)
set_option maxRecDepth 100000 in
theorem w7_cd_yX7_set : Cond.code yX7_set cX7_set 7 none ∈ TB7 := List.mem_append_left _ (List.mem_of_getElem? (i := 60) rfl)
set_option maxRecDepth 100000 in
theorem w7_fRX7_172 : Cond.fieldLink RX7 172 "PatternRunnerModel" "greatest" "I" ∈ TB7 := List.mem_append_left _ (List.mem_of_getElem? (i := 61) rfl)
set_option maxRecDepth 100000 in
theorem w7_cd_yX7_escaped : Cond.code yX7_escaped cX7_escaped 2 none ∈ TB7 := List.mem_append_left _ (List.mem_of_getElem? (i := 62) rfl)
set_option maxRecDepth 100000 in
theorem w7_mRX7_175 : Cond.methodLink RX7 175 yX7_set ∈ TB7 := List.mem_append_left _ (List.mem_of_getElem? (i := 63) rfl)
set_option maxRecDepth 100000 in
theorem w7_im_yX7_set : Cond.instanceMethod yX7_set ∈ TB7 := List.mem_append_left _ (List.mem_of_getElem? (i := 64) rfl)
set_option maxRecDepth 100000 in
theorem w7_sl_yX7_set : Cond.selects RX7 yX7_set yX7_set ∈ TB7 := List.mem_append_left _ (List.mem_of_getElem? (i := 65) rfl)
set_option maxRecDepth 100000 in
theorem w7_mRX7_178 : Cond.methodLink RX7 178 yX7_escaped ∈ TB7 := List.mem_append_left _ (List.mem_of_getElem? (i := 66) rfl)
set_option maxRecDepth 100000 in
theorem w7_im_yX7_escaped : Cond.instanceMethod yX7_escaped ∈ TB7 := List.mem_append_left _ (List.mem_of_getElem? (i := 67) rfl)
set_option maxRecDepth 100000 in
theorem w7_sl_yX7_escaped : Cond.selects RX7 yX7_escaped yX7_escaped ∈ TB7 := List.mem_append_left _ (List.mem_of_getElem? (i := 68) rfl)
set_option maxRecDepth 100000 in
theorem w7_cd_yX7_atom : Cond.code yX7_atom cX7_atom 3 none ∈ TB7 := List.mem_append_left _ (List.mem_of_getElem? (i := 69) rfl)
set_option maxRecDepth 100000 in
theorem w7_mRX7_181 : Cond.methodLink RX7 181 yX7_closeBody ∈ TB7 := List.mem_append_left _ (List.mem_of_getElem? (i := 70) rfl)
set_option maxRecDepth 100000 in
theorem w7_im_yX7_closeBody : Cond.instanceMethod yX7_closeBody ∈ TB7 := List.mem_append_left _ (List.mem_of_getElem? (i := 71) rfl)
set_option maxRecDepth 100000 in
theorem w7_sl_yX7_closeBody : Cond.selects RX7 yX7_closeBody yX7_closeBody ∈ TB7 := List.mem_append_left _ (List.mem_of_getElem? (i := 72) rfl)
set_option maxRecDepth 100000 in
theorem w7_mRX7_184 : Cond.methodLink RX7 184 yX7_openParenthesis ∈ TB7 := List.mem_append_left _ (List.mem_of_getElem? (i := 73) rfl)
set_option maxRecDepth 100000 in
theorem w7_im_yX7_openParenthesis : Cond.instanceMethod yX7_openParenthesis ∈ TB7 := List.mem_append_left _ (List.mem_of_getElem? (i := 74) rfl)
set_option maxRecDepth 100000 in
theorem w7_sl_yX7_openParenthesis : Cond.selects RX7 yX7_openParenthesis yX7_openParenthesis ∈ TB7 := List.mem_append_left _ (List.mem_of_getElem? (i := 75) rfl)
set_option maxRecDepth 100000 in
theorem w7_mRX7_187 : Cond.methodLink RX7 187 yX7_atom ∈ TB7 := List.mem_append_left _ (List.mem_of_getElem? (i := 76) rfl)
set_option maxRecDepth 100000 in
theorem w7_im_yX7_atom : Cond.instanceMethod yX7_atom ∈ TB7 := List.mem_append_left _ (List.mem_of_getElem? (i := 77) rfl)
set_option maxRecDepth 100000 in
theorem w7_sl_yX7_atom : Cond.selects RX7 yX7_atom yX7_atom ∈ TB7 := List.mem_append_left _ (List.mem_of_getElem? (i := 78) rfl)
set_option maxRecDepth 100000 in
theorem w7_cd_yX7_reads : Cond.code yX7_reads cX7_reads 2 (some .boolean) ∈ TB7 := List.mem_append_left _ (List.mem_of_getElem? (i := 79) rfl)
set_option maxRecDepth 100000 in
theorem w7_cd_yX7_take : Cond.code yX7_take cX7_take 3 none ∈ TB7 := List.mem_append_left _ (List.mem_of_getElem? (i := 80) rfl)
set_option maxRecDepth 100000 in
theorem w7_fRX7_19 : Cond.fieldLink RX7 19 "PatternRunnerModel" "op" "[I" ∈ TB7 := List.mem_append_left _ (List.mem_of_getElem? (i := 81) rfl)
set_option maxRecDepth 100000 in
theorem w7_fRX7_23 : Cond.fieldLink RX7 23 "PatternRunnerModel" "a" "[I" ∈ TB7 := List.mem_append_left _ (List.mem_of_getElem? (i := 82) rfl)
set_option maxRecDepth 100000 in
theorem w7_fRX7_26 : Cond.fieldLink RX7 26 "PatternRunnerModel" "b" "[I" ∈ TB7 := List.mem_append_left _ (List.mem_of_getElem? (i := 83) rfl)
set_option maxRecDepth 100000 in
theorem w7_fRX7_29 : Cond.fieldLink RX7 29 "PatternRunnerModel" "c" "[I" ∈ TB7 := List.mem_append_left _ (List.mem_of_getElem? (i := 84) rfl)
set_option maxRecDepth 100000 in
theorem w7_fRX7_16 : Cond.fieldLink RX7 16 "PatternRunnerModel" "signs" "[C" ∈ TB7 := List.mem_append_left _ (List.mem_of_getElem? (i := 85) rfl)
set_option maxRecDepth 100000 in
theorem w7_fRX7_190 : Cond.fieldLink RX7 190 "PatternRunnerModel" "groups" "I" ∈ TB7 := List.mem_append_left _ (List.mem_of_getElem? (i := 86) rfl)
set_option maxRecDepth 100000 in
theorem w7_fRX7_193 : Cond.fieldLink RX7 193 "PatternRunnerModel" "flags" "I" ∈ TB7 := List.mem_append_left _ (List.mem_of_getElem? (i := 87) rfl)
set_option maxRecDepth 100000 in
theorem w7_fRX7_196 : Cond.fieldLink RX7 196 "PatternRunnerModel" "start" "I" ∈ TB7 := List.mem_append_left _ (List.mem_of_getElem? (i := 88) rfl)
set_option maxRecDepth 100000 in
theorem w7_fRX7_199 : Cond.fieldLink RX7 199 "PatternRunnerModel" "found" "Z" ∈ TB7 := List.mem_append_left _ (List.mem_of_getElem? (i := 89) rfl)
set_option maxRecDepth 100000 in
theorem w7_fRX7_68 : Cond.fieldLink RX7 68 "PatternRunnerModel" "trail" "[I" ∈ TB7 := List.mem_append_left _ (List.mem_of_getElem? (i := 90) rfl)
set_option maxRecDepth 100000 in
theorem w7_fRX7_71 : Cond.fieldLink RX7 71 "PatternRunnerModel" "choices" "[I" ∈ TB7 := List.mem_append_left _ (List.mem_of_getElem? (i := 91) rfl)
set_option maxRecDepth 100000 in
theorem w7_fRX7_74 : Cond.fieldLink RX7 74 "PatternRunnerModel" "foundFrom" "[I" ∈ TB7 := List.mem_append_left _ (List.mem_of_getElem? (i := 92) rfl)
set_option maxRecDepth 100000 in
theorem w7_fRX7_77 : Cond.fieldLink RX7 77 "PatternRunnerModel" "foundTo" "[I" ∈ TB7 := List.mem_append_left _ (List.mem_of_getElem? (i := 93) rfl)
set_option maxRecDepth 100000 in
theorem w7_fRX7_80 : Cond.fieldLink RX7 80 "PatternRunnerModel" "result" "[C" ∈ TB7 := List.mem_append_left _ (List.mem_of_getElem? (i := 94) rfl)
set_option maxRecDepth 100000 in
theorem w7_fRX7_83 : Cond.fieldLink RX7 83 "PatternRunnerModel" "newResult" "[C" ∈ TB7 := List.mem_append_left _ (List.mem_of_getElem? (i := 95) rfl)
set_option maxRecDepth 100000 in
theorem w7_mRX7_90 : Cond.methodLink RX7 90 yX7_reads ∈ TB7 := List.mem_append_left _ (List.mem_of_getElem? (i := 96) rfl)
set_option maxRecDepth 100000 in
theorem w7_im_yX7_reads : Cond.instanceMethod yX7_reads ∈ TB7 := List.mem_append_left _ (List.mem_of_getElem? (i := 97) rfl)
set_option maxRecDepth 100000 in
theorem w7_sl_yX7_reads : Cond.selects RX7 yX7_reads yX7_reads ∈ TB7 := List.mem_append_left _ (List.mem_of_getElem? (i := 98) rfl)
set_option maxRecDepth 100000 in
theorem w7_mRX7_94 : Cond.methodLink RX7 94 yX7_take ∈ TB7 := List.mem_append_left _ (List.mem_of_getElem? (i := 99) rfl)
set_option maxRecDepth 100000 in
theorem w7_im_yX7_take : Cond.instanceMethod yX7_take ∈ TB7 := List.mem_append_left _ (List.mem_of_getElem? (i := 100) rfl)
set_option maxRecDepth 100000 in
theorem w7_sl_yX7_take : Cond.selects RX7 yX7_take yX7_take ∈ TB7 := List.mem_append_left _ (List.mem_of_getElem? (i := 101) rfl)
set_option maxRecDepth 100000 in
theorem w7_cd_yX7_init : Cond.code yX7_init cX7_init 2 none ∈ TB7 := List.mem_append_left _ (List.mem_of_getElem? (i := 102) rfl)
set_option maxRecDepth 100000 in
theorem w7_cd_yX7_thrown : Cond.code yX7_thrown cX7_thrown 1 (some .int) ∈ TB7 := List.mem_append_left _ (List.mem_of_getElem? (i := 103) rfl)
set_option maxRecDepth 100000 in
theorem w7_fRX7_98 : Cond.fieldLink RX7 98 "PatternRunnerModel" "refusal" "I" ∈ TB7 := List.mem_append_left _ (List.mem_of_getElem? (i := 104) rfl)
set_option maxRecDepth 100000 in
theorem w7_cd_yX7_refuse : Cond.code yX7_refuse cX7_refuse 2 (some .int) ∈ TB7 := List.mem_append_left _ (List.mem_of_getElem? (i := 105) rfl)
set_option maxRecDepth 100000 in
theorem w7_cd_yX7_type : Cond.code yX7_type cX7_type 7 (some .int) ∈ TB7 := List.mem_append_left _ (List.mem_of_getElem? (i := 106) rfl)
set_option maxRecDepth 100000 in
theorem w7_fRX7_101 : Cond.fieldLink RX7 101 "PatternRunnerModel" "typedCount" "I" ∈ TB7 := List.mem_append_left _ (List.mem_of_getElem? (i := 107) rfl)
set_option maxRecDepth 100000 in
theorem w7_kRX7_108 : Cond.constantLong RX7 108 (255) ∈ TB7 := List.mem_append_left _ (List.mem_of_getElem? (i := 108) rfl)
set_option maxRecDepth 100000 in
theorem w7_kRX7_110 : Cond.constantLong RX7 110 (32) ∈ TB7 := List.mem_append_left _ (List.mem_of_getElem? (i := 109) rfl)
set_option maxRecDepth 100000 in
theorem w7_kRX7_112 : Cond.constantLong RX7 112 (126) ∈ TB7 := List.mem_append_left _ (List.mem_of_getElem? (i := 110) rfl)
set_option maxRecDepth 100000 in
theorem w7_fRX7_7 : Cond.fieldLink RX7 7 "PatternRunnerModel" "typed" "[C" ∈ TB7 := List.mem_append_left _ (List.mem_of_getElem? (i := 111) rfl)
set_option maxRecDepth 100000 in
theorem w7_mRX7_104 : Cond.methodLink RX7 104 yX7_refuse ∈ TB7 := List.mem_append_left _ (List.mem_of_getElem? (i := 112) rfl)
set_option maxRecDepth 100000 in
theorem w7_im_yX7_refuse : Cond.instanceMethod yX7_refuse ∈ TB7 := List.mem_append_left _ (List.mem_of_getElem? (i := 113) rfl)
set_option maxRecDepth 100000 in
theorem w7_sl_yX7_refuse : Cond.selects RX7 yX7_refuse yX7_refuse ∈ TB7 := List.mem_append_left _ (List.mem_of_getElem? (i := 114) rfl)
set_option maxRecDepth 100000 in
theorem w7_cd_yX7_pattern : Cond.code yX7_pattern cX7_pattern 3 (some .int) ∈ TB7 := List.mem_append_left _ (List.mem_of_getElem? (i := 115) rfl)
set_option maxRecDepth 100000 in
theorem w7_cd_yX7_text : Cond.code yX7_text cX7_text 2 (some .int) ∈ TB7 := List.mem_append_left _ (List.mem_of_getElem? (i := 116) rfl)
set_option maxRecDepth 100000 in
theorem w7_fRX7_13 : Cond.fieldLink RX7 13 "PatternRunnerModel" "text" "[C" ∈ TB7 := List.mem_append_left _ (List.mem_of_getElem? (i := 117) rfl)
set_option maxRecDepth 100000 in
theorem w7_fRX7_202 : Cond.fieldLink RX7 202 "PatternRunnerModel" "length" "I" ∈ TB7 := List.mem_append_left _ (List.mem_of_getElem? (i := 118) rfl)
set_option maxRecDepth 100000 in
theorem w7_cd_yX7_start : Cond.code yX7_start cX7_start 2 (some .int) ∈ TB7 := List.mem_append_left _ (List.mem_of_getElem? (i := 119) rfl)
set_option maxRecDepth 100000 in
theorem w7_cd_yX7_has : Cond.code yX7_has cX7_has 2 (some .boolean) ∈ TB7 := List.mem_append_left _ (List.mem_of_getElem? (i := 120) rfl)
set_option maxRecDepth 100000 in
theorem w7_cd_yX7_other : Cond.code yX7_other cX7_other 1 (some .int) ∈ TB7 := List.mem_append_left _ (List.mem_of_getElem? (i := 121) rfl)
set_option maxRecDepth 100000 in
theorem w7_cd_yX7_inClass : Cond.code yX7_inClass cX7_inClass 3 (some .boolean) ∈ TB7 := List.mem_append_left _ (List.mem_of_getElem? (i := 122) rfl)
set_option maxRecDepth 100000 in
theorem w7_cd_yX7_inSet : Cond.code yX7_inSet cX7_inSet 12 (some .boolean) ∈ TB7 := List.mem_append_left _ (List.mem_of_getElem? (i := 123) rfl)
set_option maxRecDepth 100000 in
theorem w7_mRX7_205 : Cond.methodLink RX7 205 yX7_inClass ∈ TB7 := List.mem_append_left _ (List.mem_of_getElem? (i := 124) rfl)
set_option maxRecDepth 100000 in
theorem w7_st_yX7_inClass : Cond.static yX7_inClass ∈ TB7 := List.mem_append_left _ (List.mem_of_getElem? (i := 125) rfl)
set_option maxRecDepth 100000 in
theorem w7_cd_yX7_fits : Cond.code yX7_fits cX7_fits 3 (some .boolean) ∈ TB7 := List.mem_append_left _ (List.mem_of_getElem? (i := 126) rfl)
set_option maxRecDepth 100000 in
theorem w7_mRX7_209 : Cond.methodLink RX7 209 yX7_has ∈ TB7 := List.mem_append_left _ (List.mem_of_getElem? (i := 127) rfl)
set_option maxRecDepth 100000 in
theorem w7_im_yX7_has : Cond.instanceMethod yX7_has ∈ TB7 := List.mem_append_left _ (List.mem_of_getElem? (i := 128) rfl)
set_option maxRecDepth 100000 in
theorem w7_sl_yX7_has : Cond.selects RX7 yX7_has yX7_has ∈ TB7 := List.mem_append_left _ (List.mem_of_getElem? (i := 129) rfl)
set_option maxRecDepth 100000 in
theorem w7_mRX7_212 : Cond.methodLink RX7 212 yX7_inSet ∈ TB7 := List.mem_append_left _ (List.mem_of_getElem? (i := 130) rfl)
set_option maxRecDepth 100000 in
theorem w7_im_yX7_inSet : Cond.instanceMethod yX7_inSet ∈ TB7 := List.mem_append_left _ (List.mem_of_getElem? (i := 131) rfl)
set_option maxRecDepth 100000 in
theorem w7_sl_yX7_inSet : Cond.selects RX7 yX7_inSet yX7_inSet ∈ TB7 := List.mem_append_left _ (List.mem_of_getElem? (i := 132) rfl)
set_option maxRecDepth 100000 in
theorem w7_fRX7_216 : Cond.fieldLink RX7 216 "PatternRunnerModel" "place" "I" ∈ TB7 := List.mem_append_left _ (List.mem_of_getElem? (i := 133) rfl)
set_option maxRecDepth 100000 in
theorem w7_mRX7_219 : Cond.methodLink RX7 219 yX7_fits ∈ TB7 := List.mem_append_left _ (List.mem_of_getElem? (i := 134) rfl)
set_option maxRecDepth 100000 in
theorem w7_im_yX7_fits : Cond.instanceMethod yX7_fits ∈ TB7 := List.mem_append_left _ (List.mem_of_getElem? (i := 135) rfl)
set_option maxRecDepth 100000 in
theorem w7_sl_yX7_fits : Cond.selects RX7 yX7_fits yX7_fits ∈ TB7 := List.mem_append_left _ (List.mem_of_getElem? (i := 136) rfl)
set_option maxRecDepth 100000 in
theorem w7_mRX7_222 : Cond.methodLink RX7 222 yX7_other ∈ TB7 := List.mem_append_left _ (List.mem_of_getElem? (i := 137) rfl)
set_option maxRecDepth 100000 in
theorem w7_st_yX7_other : Cond.static yX7_other ∈ TB7 := List.mem_append_left _ (List.mem_of_getElem? (i := 138) rfl)
set_option maxRecDepth 100000 in
theorem w7_cd_yX7_passes : Cond.code yX7_passes cX7_passes 4 (some .boolean) ∈ TB7 := List.mem_append_left _ (List.mem_of_getElem? (i := 139) rfl)
set_option maxRecDepth 100000 in
theorem w7_cd_yX7_put : Cond.code yX7_put cX7_put 3 none ∈ TB7 := List.mem_append_left _ (List.mem_of_getElem? (i := 140) rfl)
set_option maxRecDepth 100000 in
theorem w7_fRX7_65 : Cond.fieldLink RX7 65 "PatternRunnerModel" "registers" "[I" ∈ TB7 := List.mem_append_left _ (List.mem_of_getElem? (i := 141) rfl)
set_option maxRecDepth 100000 in
theorem w7_fRX7_225 : Cond.fieldLink RX7 225 "PatternRunnerModel" "trailed" "I" ∈ TB7 := List.mem_append_left _ (List.mem_of_getElem? (i := 142) rfl)
set_option maxRecDepth 100000 in
theorem w7_cd_yX7_choose : Cond.code yX7_choose cX7_choose 3 none ∈ TB7 := List.mem_append_left _ (List.mem_of_getElem? (i := 143) rfl)
set_option maxRecDepth 100000 in
theorem w7_fRX7_228 : Cond.fieldLink RX7 228 "PatternRunnerModel" "choiceCount" "I" ∈ TB7 := List.mem_append_left _ (List.mem_of_getElem? (i := 144) rfl)
set_option maxRecDepth 100000 in
theorem w7_cd_yX7_undo : Cond.code yX7_undo cX7_undo 2 none ∈ TB7 := List.mem_append_left _ (List.mem_of_getElem? (i := 145) rfl)
set_option maxRecDepth 100000 in
theorem w7_cd_yX7_pass : Cond.code yX7_pass cX7_pass 5 none ∈ TB7 := List.mem_append_left _ (List.mem_of_getElem? (i := 146) rfl)
set_option maxRecDepth 100000 in
theorem w7_fRX7_235 : Cond.fieldLink RX7 235 "PatternRunnerModel" "next" "I" ∈ TB7 := List.mem_append_left _ (List.mem_of_getElem? (i := 147) rfl)
set_option maxRecDepth 100000 in
theorem w7_mRX7_241 : Cond.methodLink RX7 241 yX7_put ∈ TB7 := List.mem_append_left _ (List.mem_of_getElem? (i := 148) rfl)
set_option maxRecDepth 100000 in
theorem w7_im_yX7_put : Cond.instanceMethod yX7_put ∈ TB7 := List.mem_append_left _ (List.mem_of_getElem? (i := 149) rfl)
set_option maxRecDepth 100000 in
theorem w7_sl_yX7_put : Cond.selects RX7 yX7_put yX7_put ∈ TB7 := List.mem_append_left _ (List.mem_of_getElem? (i := 150) rfl)
set_option maxRecDepth 100000 in
theorem w7_cd_yX7_goBack : Cond.code yX7_goBack cX7_goBack 4 (some .boolean) ∈ TB7 := List.mem_append_left _ (List.mem_of_getElem? (i := 151) rfl)
set_option maxRecDepth 100000 in
theorem w7_kRX7_231 : Cond.constant RX7 231 (32768) ∈ TB7 := List.mem_append_left _ (List.mem_of_getElem? (i := 152) rfl)
set_option maxRecDepth 100000 in
theorem w7_mRX7_232 : Cond.methodLink RX7 232 yX7_undo ∈ TB7 := List.mem_append_left _ (List.mem_of_getElem? (i := 153) rfl)
set_option maxRecDepth 100000 in
theorem w7_im_yX7_undo : Cond.instanceMethod yX7_undo ∈ TB7 := List.mem_append_left _ (List.mem_of_getElem? (i := 154) rfl)
set_option maxRecDepth 100000 in
theorem w7_sl_yX7_undo : Cond.selects RX7 yX7_undo yX7_undo ∈ TB7 := List.mem_append_left _ (List.mem_of_getElem? (i := 155) rfl)
set_option maxRecDepth 100000 in
theorem w7_mRX7_238 : Cond.methodLink RX7 238 yX7_pass ∈ TB7 := List.mem_append_left _ (List.mem_of_getElem? (i := 156) rfl)
set_option maxRecDepth 100000 in
theorem w7_im_yX7_pass : Cond.instanceMethod yX7_pass ∈ TB7 := List.mem_append_left _ (List.mem_of_getElem? (i := 157) rfl)
set_option maxRecDepth 100000 in
theorem w7_sl_yX7_pass : Cond.selects RX7 yX7_pass yX7_pass ∈ TB7 := List.mem_append_left _ (List.mem_of_getElem? (i := 158) rfl)
set_option maxRecDepth 100000 in
theorem w7_cd_yX7_decide : Cond.code yX7_decide cX7_decide 7 none ∈ TB7 := List.mem_append_left _ (List.mem_of_getElem? (i := 159) rfl)
set_option maxRecDepth 100000 in
theorem w7_mRX7_244 : Cond.methodLink RX7 244 yX7_choose ∈ TB7 := List.mem_append_left _ (List.mem_of_getElem? (i := 160) rfl)
set_option maxRecDepth 100000 in
theorem w7_im_yX7_choose : Cond.instanceMethod yX7_choose ∈ TB7 := List.mem_append_left _ (List.mem_of_getElem? (i := 161) rfl)
set_option maxRecDepth 100000 in
theorem w7_sl_yX7_choose : Cond.selects RX7 yX7_choose yX7_choose ∈ TB7 := List.mem_append_left _ (List.mem_of_getElem? (i := 162) rfl)
set_option maxRecDepth 100000 in
theorem w7_cd_yX7_step : Cond.code yX7_step cX7_step 1 none ∈ TB7 := List.mem_append_left _ (List.mem_of_getElem? (i := 163) rfl)
set_option maxRecDepth 100000 in
theorem w7_fRX7_247 : Cond.fieldLink RX7 247 "PatternRunnerModel" "over" "Z" ∈ TB7 := List.mem_append_left _ (List.mem_of_getElem? (i := 164) rfl)
set_option maxRecDepth 100000 in
theorem w7_fRX7_250 : Cond.fieldLink RX7 250 "PatternRunnerModel" "made" "I" ∈ TB7 := List.mem_append_left _ (List.mem_of_getElem? (i := 165) rfl)
set_option maxRecDepth 100000 in
theorem w7_cd_yX7_isSame : Cond.code yX7_isSame cX7_isSame 8 (some .boolean) ∈ TB7 := List.mem_append_left _ (List.mem_of_getElem? (i := 166) rfl)
set_option maxRecDepth 100000 in
theorem w7_cd_yX7_isIdle : Cond.code yX7_isIdle cX7_isIdle 2 (some .boolean) ∈ TB7 := List.mem_append_left _ (List.mem_of_getElem? (i := 167) rfl)
set_option maxRecDepth 100000 in
theorem w7_cd_yX7_looked : Cond.code yX7_looked cX7_looked 3 none ∈ TB7 := List.mem_append_left _ (List.mem_of_getElem? (i := 168) rfl)
set_option maxRecDepth 100000 in
theorem w7_mRX7_253 : Cond.methodLink RX7 253 yX7_step ∈ TB7 := List.mem_append_left _ (List.mem_of_getElem? (i := 169) rfl)
set_option maxRecDepth 100000 in
theorem w7_im_yX7_step : Cond.instanceMethod yX7_step ∈ TB7 := List.mem_append_left _ (List.mem_of_getElem? (i := 170) rfl)
set_option maxRecDepth 100000 in
theorem w7_sl_yX7_step : Cond.selects RX7 yX7_step yX7_step ∈ TB7 := List.mem_append_left _ (List.mem_of_getElem? (i := 171) rfl)
set_option maxRecDepth 100000 in
theorem w7_mRX7_271 : Cond.methodLink RX7 271 yX7_passes ∈ TB7 := List.mem_append_left _ (List.mem_of_getElem? (i := 172) rfl)
set_option maxRecDepth 100000 in
theorem w7_im_yX7_passes : Cond.instanceMethod yX7_passes ∈ TB7 := List.mem_append_left _ (List.mem_of_getElem? (i := 173) rfl)
set_option maxRecDepth 100000 in
theorem w7_sl_yX7_passes : Cond.selects RX7 yX7_passes yX7_passes ∈ TB7 := List.mem_append_left _ (List.mem_of_getElem? (i := 174) rfl)
set_option maxRecDepth 100000 in
theorem w7_cd_yX7_one : Cond.code yX7_one cX7_one 2 (some .boolean) ∈ TB7 := List.mem_append_left _ (List.mem_of_getElem? (i := 175) rfl)
set_option maxRecDepth 100000 in
theorem w7_mRX7_256 : Cond.methodLink RX7 256 yX7_isSame ∈ TB7 := List.mem_append_left _ (List.mem_of_getElem? (i := 176) rfl)
set_option maxRecDepth 100000 in
theorem w7_im_yX7_isSame : Cond.instanceMethod yX7_isSame ∈ TB7 := List.mem_append_left _ (List.mem_of_getElem? (i := 177) rfl)
set_option maxRecDepth 100000 in
theorem w7_sl_yX7_isSame : Cond.selects RX7 yX7_isSame yX7_isSame ∈ TB7 := List.mem_append_left _ (List.mem_of_getElem? (i := 178) rfl)
set_option maxRecDepth 100000 in
theorem w7_mRX7_259 : Cond.methodLink RX7 259 yX7_looked ∈ TB7 := List.mem_append_left _ (List.mem_of_getElem? (i := 179) rfl)
set_option maxRecDepth 100000 in
theorem w7_im_yX7_looked : Cond.instanceMethod yX7_looked ∈ TB7 := List.mem_append_left _ (List.mem_of_getElem? (i := 180) rfl)
set_option maxRecDepth 100000 in
theorem w7_sl_yX7_looked : Cond.selects RX7 yX7_looked yX7_looked ∈ TB7 := List.mem_append_left _ (List.mem_of_getElem? (i := 181) rfl)
set_option maxRecDepth 100000 in
theorem w7_mRX7_262 : Cond.methodLink RX7 262 yX7_decide ∈ TB7 := List.mem_append_left _ (List.mem_of_getElem? (i := 182) rfl)
set_option maxRecDepth 100000 in
theorem w7_im_yX7_decide : Cond.instanceMethod yX7_decide ∈ TB7 := List.mem_append_left _ (List.mem_of_getElem? (i := 183) rfl)
set_option maxRecDepth 100000 in
theorem w7_sl_yX7_decide : Cond.selects RX7 yX7_decide yX7_decide ∈ TB7 := List.mem_append_left _ (List.mem_of_getElem? (i := 184) rfl)
set_option maxRecDepth 100000 in
theorem w7_mRX7_265 : Cond.methodLink RX7 265 yX7_isIdle ∈ TB7 := List.mem_append_left _ (List.mem_of_getElem? (i := 185) rfl)
set_option maxRecDepth 100000 in
theorem w7_im_yX7_isIdle : Cond.instanceMethod yX7_isIdle ∈ TB7 := List.mem_append_left _ (List.mem_of_getElem? (i := 186) rfl)
set_option maxRecDepth 100000 in
theorem w7_sl_yX7_isIdle : Cond.selects RX7 yX7_isIdle yX7_isIdle ∈ TB7 := List.mem_append_left _ (List.mem_of_getElem? (i := 187) rfl)
set_option maxRecDepth 100000 in
theorem w7_mRX7_268 : Cond.methodLink RX7 268 yX7_one ∈ TB7 := List.mem_append_left _ (List.mem_of_getElem? (i := 188) rfl)
set_option maxRecDepth 100000 in
theorem w7_im_yX7_one : Cond.instanceMethod yX7_one ∈ TB7 := List.mem_append_left _ (List.mem_of_getElem? (i := 189) rfl)
set_option maxRecDepth 100000 in
theorem w7_sl_yX7_one : Cond.selects RX7 yX7_one yX7_one ∈ TB7 := List.mem_append_left _ (List.mem_of_getElem? (i := 190) rfl)
set_option maxRecDepth 100000 in
theorem w7_cd_yX7_order : Cond.code yX7_order cX7_order 2 (some .boolean) ∈ TB7 := List.mem_append_left _ (List.mem_of_getElem? (i := 191) rfl)
set_option maxRecDepth 100000 in
theorem w7_mRX7_274 : Cond.methodLink RX7 274 yX7_order ∈ TB7 := List.mem_append_left _ (List.mem_of_getElem? (i := 192) rfl)
set_option maxRecDepth 100000 in
theorem w7_im_yX7_order : Cond.instanceMethod yX7_order ∈ TB7 := List.mem_append_left _ (List.mem_of_getElem? (i := 193) rfl)
set_option maxRecDepth 100000 in
theorem w7_sl_yX7_order : Cond.selects RX7 yX7_order yX7_order ∈ TB7 := List.mem_append_left _ (List.mem_of_getElem? (i := 194) rfl)
set_option maxRecDepth 100000 in
theorem w7_mRX7_277 : Cond.methodLink RX7 277 yX7_goBack ∈ TB7 := List.mem_append_left _ (List.mem_of_getElem? (i := 195) rfl)
set_option maxRecDepth 100000 in
theorem w7_im_yX7_goBack : Cond.instanceMethod yX7_goBack ∈ TB7 := List.mem_append_left _ (List.mem_of_getElem? (i := 196) rfl)
set_option maxRecDepth 100000 in
theorem w7_sl_yX7_goBack : Cond.selects RX7 yX7_goBack yX7_goBack ∈ TB7 := List.mem_append_left _ (List.mem_of_getElem? (i := 197) rfl)
set_option maxRecDepth 100000 in
theorem w7_cd_yX7_tries : Cond.code yX7_tries cX7_tries 3 (some .boolean) ∈ TB7 := List.mem_append_left _ (List.mem_of_getElem? (i := 198) rfl)
set_option maxRecDepth 100000 in
theorem w7_mRX7_280 : Cond.methodLink RX7 280 yX7_tries ∈ TB7 := List.mem_append_left _ (List.mem_of_getElem? (i := 199) rfl)
set_option maxRecDepth 100000 in
theorem w7_im_yX7_tries : Cond.instanceMethod yX7_tries ∈ TB7 := List.mem_append_left _ (List.mem_of_getElem? (i := 200) rfl)
set_option maxRecDepth 100000 in
theorem w7_sl_yX7_tries : Cond.selects RX7 yX7_tries yX7_tries ∈ TB7 := List.mem_append_left _ (List.mem_of_getElem? (i := 201) rfl)
set_option maxRecDepth 100000 in
theorem w7_cd_yX7_search : Cond.code yX7_search cX7_search 3 (some .int) ∈ TB7 := List.mem_append_left _ (List.mem_of_getElem? (i := 202) rfl)
set_option maxRecDepth 100000 in
theorem w7_fRX7_286 : Cond.fieldLink RX7 286 "PatternRunnerModel" "steps" "I" ∈ TB7 := List.mem_append_left _ (List.mem_of_getElem? (i := 203) rfl)
set_option maxRecDepth 100000 in
theorem w7_mRX7_283 : Cond.methodLink RX7 283 yX7_search ∈ TB7 := List.mem_append_left _ (List.mem_of_getElem? (i := 204) rfl)
set_option maxRecDepth 100000 in
theorem w7_im_yX7_search : Cond.instanceMethod yX7_search ∈ TB7 := List.mem_append_left _ (List.mem_of_getElem? (i := 205) rfl)
set_option maxRecDepth 100000 in
theorem w7_sl_yX7_search : Cond.selects RX7 yX7_search yX7_search ∈ TB7 := List.mem_append_left _ (List.mem_of_getElem? (i := 206) rfl)
set_option maxRecDepth 100000 in
theorem w7_cd_yX7_find : Cond.code yX7_find cX7_find 3 (some .int) ∈ TB7 := List.mem_append_left _ (List.mem_of_getElem? (i := 207) rfl)
set_option maxRecDepth 100000 in
theorem w7_cd_yX7_isGroup : Cond.code yX7_isGroup cX7_isGroup 2 (some .boolean) ∈ TB7 := List.mem_append_left _ (List.mem_of_getElem? (i := 208) rfl)
set_option maxRecDepth 100000 in
theorem w7_cd_yX7_from : Cond.code yX7_from cX7_from 2 (some .int) ∈ TB7 := List.mem_append_left _ (List.mem_of_getElem? (i := 209) rfl)
set_option maxRecDepth 100000 in
theorem w7_mRX7_289 : Cond.methodLink RX7 289 yX7_isGroup ∈ TB7 := List.mem_append_left _ (List.mem_of_getElem? (i := 210) rfl)
set_option maxRecDepth 100000 in
theorem w7_im_yX7_isGroup : Cond.instanceMethod yX7_isGroup ∈ TB7 := List.mem_append_left _ (List.mem_of_getElem? (i := 211) rfl)
set_option maxRecDepth 100000 in
theorem w7_sl_yX7_isGroup : Cond.selects RX7 yX7_isGroup yX7_isGroup ∈ TB7 := List.mem_append_left _ (List.mem_of_getElem? (i := 212) rfl)
set_option maxRecDepth 100000 in
theorem w7_cd_yX7_to : Cond.code yX7_to cX7_to 2 (some .int) ∈ TB7 := List.mem_append_left _ (List.mem_of_getElem? (i := 213) rfl)
set_option maxRecDepth 100000 in
theorem w7_cd_yX7_steps : Cond.code yX7_steps cX7_steps 1 (some .int) ∈ TB7 := List.mem_append_left _ (List.mem_of_getElem? (i := 214) rfl)
set_option maxRecDepth 100000 in
theorem w7_cd_yX7_write : Cond.code yX7_write cX7_write 2 none ∈ TB7 := List.mem_append_left _ (List.mem_of_getElem? (i := 215) rfl)
set_option maxRecDepth 100000 in
theorem w7_fRX7_292 : Cond.fieldLink RX7 292 "PatternRunnerModel" "newResultCount" "I" ∈ TB7 := List.mem_append_left _ (List.mem_of_getElem? (i := 216) rfl)
set_option maxRecDepth 100000 in
theorem w7_cd_yX7_writeText : Cond.code yX7_writeText cX7_writeText 4 none ∈ TB7 := List.mem_append_left _ (List.mem_of_getElem? (i := 217) rfl)
set_option maxRecDepth 100000 in
theorem w7_mRX7_295 : Cond.methodLink RX7 295 yX7_write ∈ TB7 := List.mem_append_left _ (List.mem_of_getElem? (i := 218) rfl)
set_option maxRecDepth 100000 in
theorem w7_im_yX7_write : Cond.instanceMethod yX7_write ∈ TB7 := List.mem_append_left _ (List.mem_of_getElem? (i := 219) rfl)
set_option maxRecDepth 100000 in
theorem w7_sl_yX7_write : Cond.selects RX7 yX7_write yX7_write ∈ TB7 := List.mem_append_left _ (List.mem_of_getElem? (i := 220) rfl)
set_option maxRecDepth 100000 in
theorem w7_cd_yX7_writeTemplate : Cond.code yX7_writeTemplate cX7_writeTemplate 6 none ∈ TB7 := List.mem_append_left _ (List.mem_of_getElem? (i := 221) rfl)
set_option maxRecDepth 100000 in
theorem w7_mRX7_298 : Cond.methodLink RX7 298 yX7_writeText ∈ TB7 := List.mem_append_left _ (List.mem_of_getElem? (i := 222) rfl)
set_option maxRecDepth 100000 in
theorem w7_im_yX7_writeText : Cond.instanceMethod yX7_writeText ∈ TB7 := List.mem_append_left _ (List.mem_of_getElem? (i := 223) rfl)
set_option maxRecDepth 100000 in
theorem w7_sl_yX7_writeText : Cond.selects RX7 yX7_writeText yX7_writeText ∈ TB7 := List.mem_append_left _ (List.mem_of_getElem? (i := 224) rfl)
set_option maxRecDepth 100000 in
theorem w7_fRX7_304 : Cond.fieldLink RX7 304 "PatternRunnerModel" "resultCount" "I" ∈ TB7 := List.mem_append_left _ (List.mem_of_getElem? (i := 225) rfl)
set_option maxRecDepth 100000 in
theorem w7_mRX7_301 : Cond.methodLink RX7 301 yX7_writeTemplate ∈ TB7 := List.mem_append_left _ (List.mem_of_getElem? (i := 226) rfl)
set_option maxRecDepth 100000 in
theorem w7_im_yX7_writeTemplate : Cond.instanceMethod yX7_writeTemplate ∈ TB7 := List.mem_append_left _ (List.mem_of_getElem? (i := 227) rfl)
set_option maxRecDepth 100000 in
theorem w7_sl_yX7_writeTemplate : Cond.selects RX7 yX7_writeTemplate yX7_writeTemplate ∈ TB7 := List.mem_append_left _ (List.mem_of_getElem? (i := 228) rfl)
set_option maxRecDepth 100000 in
theorem w7_cd_yX7_replace : Cond.code yX7_replace cX7_replace 5 (some .int) ∈ TB7 := List.mem_append_left _ (List.mem_of_getElem? (i := 229) rfl)
set_option maxRecDepth 100000 in
theorem w7_cd_yX7_result : Cond.code yX7_result cX7_result 2 (some .char) ∈ TB7 := List.mem_append_left _ (List.mem_of_getElem? (i := 230) rfl)
