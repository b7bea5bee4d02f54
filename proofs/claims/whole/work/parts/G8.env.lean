/-! WHAT THE CLASS'S CELLS DON'T TOUCH: its strings, what a throw needs, out of the Statement's words -/
abbrev lw_G : Cond := Jvm.Cond.and given_1 narrow_1
set_option maxRecDepth 100000 in
theorem nW_x0 : Cond.exactly (.string "PatternRunner" 114) "java/lang/String" ∈ flatC lw_G := List.mem_of_getElem? (i := 647) (by decide +kernel)
set_option maxRecDepth 100000 in
theorem tL_s0 : Cond.stringRef "PatternRunner" 114 "more than 24 signs are typed" ∈ lw_tbl := List.mem_of_getElem? (i := 762) (by decide +kernel)
set_option maxRecDepth 100000 in
theorem nW_x1 : Cond.exactly (.string "PatternRunner" 117) "java/lang/String" ∈ flatC lw_G := List.mem_of_getElem? (i := 679) (by decide +kernel)
set_option maxRecDepth 100000 in
theorem tL_s1 : Cond.stringRef "PatternRunner" 117 "the place is not 0 to 24" ∈ lw_tbl := List.mem_of_getElem? (i := 776) (by decide +kernel)
set_option maxRecDepth 100000 in
theorem nW_x2 : Cond.exactly (.string "PatternRunner" 141) "java/lang/String" ∈ flatC lw_G := List.mem_of_getElem? (i := 789) (by decide +kernel)
set_option maxRecDepth 100000 in
theorem tL_s2 : Cond.stringRef "PatternRunner" 141 "the result has no such place" ∈ lw_tbl := List.mem_of_getElem? (i := 1031) (by decide +kernel)
set_option maxRecDepth 100000 in
theorem nW_x3 : Cond.exactly (.string "PatternRunner" 163) "java/lang/String" ∈ flatC lw_G := List.mem_of_getElem? (i := 744) (by decide +kernel)
set_option maxRecDepth 100000 in
theorem tL_s3 : Cond.stringRef "PatternRunner" 163 "the result would have more than 200 signs" ∈ lw_tbl := List.mem_of_getElem? (i := 1004) (by decide +kernel)
set_option maxRecDepth 100000 in
theorem nW_x4 : Cond.exactly (.string "PatternRunner" 75) "java/lang/String" ∈ flatC lw_G := List.mem_of_getElem? (i := 55) (by decide +kernel)
set_option maxRecDepth 100000 in
theorem tL_s4 : Cond.stringRef "PatternRunner" 75 "n is not 1 to 8" ∈ lw_tbl := List.mem_of_getElem? (i := 386) (by decide +kernel)
set_option maxRecDepth 100000 in
theorem nW_x5 : Cond.exactly (.string "PatternRunner" 84) "java/lang/String" ∈ flatC lw_G := List.mem_of_getElem? (i := 74) (by decide +kernel)
set_option maxRecDepth 100000 in
theorem tL_s5 : Cond.stringRef "PatternRunner" 84 "more than 40 signs would be typed" ∈ lw_tbl := List.mem_of_getElem? (i := 417) (by decide +kernel)
set_option maxRecDepth 100000 in
theorem nW_x6 : Cond.exactly (.string "PatternRunner" 90) "java/lang/String" ∈ flatC lw_G := List.mem_of_getElem? (i := 111) (by decide +kernel)
set_option maxRecDepth 100000 in
theorem tL_s6 : Cond.stringRef "PatternRunner" 90 "a byte is no sign" ∈ lw_tbl := List.mem_of_getElem? (i := 421) (by decide +kernel)
set_option maxRecDepth 100000 in
theorem nW_x7 : Cond.exactly (.string "PatternRunner" 96) "java/lang/String" ∈ flatC lw_G := List.mem_of_getElem? (i := 132) (by decide +kernel)
set_option maxRecDepth 100000 in
theorem tL_s7 : Cond.stringRef "PatternRunner" 96 "flags are not 0 to 7" ∈ lw_tbl := List.mem_of_getElem? (i := 433) (by decide +kernel)
set_option maxRecDepth 100000 in
theorem nW_x8 : Cond.exactly (.string "PatternRunner$Matcher" 126) "java/lang/String" ∈ flatC lw_G := List.mem_of_getElem? (i := 707) (by decide +kernel)
set_option maxRecDepth 100000 in
theorem tL_s8 : Cond.stringRef "PatternRunner$Matcher" 126 "more than 500 steps would be made" ∈ lw_tbl := List.mem_of_getElem? (i := 827) (by decide +kernel)
set_option maxRecDepth 100000 in
theorem nW_x9 : Cond.exactly (.string "PatternRunner$Program" 65) "java/lang/String" ∈ flatC lw_G := List.mem_of_getElem? (i := 156) (by decide +kernel)
set_option maxRecDepth 100000 in
theorem tL_s9 : Cond.stringRef "PatternRunner$Program" 65 "the pattern is too long" ∈ lw_tbl := List.mem_of_getElem? (i := 466) (by decide +kernel)
set_option maxRecDepth 100000 in
theorem nW_x10 : Cond.exactly (.string "PatternRunner$Program" 89) "java/lang/String" ∈ flatC lw_G := List.mem_of_getElem? (i := 280) (by decide +kernel)
set_option maxRecDepth 100000 in
theorem tL_s10 : Cond.stringRef "PatternRunner$Program" 89 "the pattern has more than 9 groups" ∈ lw_tbl := List.mem_of_getElem? (i := 538) (by decide +kernel)
set_option maxRecDepth 100000 in
theorem nW_x11 : Cond.exactly (.string "PatternRunner$Program" 91) "java/lang/String" ∈ flatC lw_G := List.mem_of_getElem? (i := 183) (by decide +kernel)
set_option maxRecDepth 100000 in
theorem tL_s11 : Cond.stringRef "PatternRunner$Program" 91 "the pattern has too many looks" ∈ lw_tbl := List.mem_of_getElem? (i := 497) (by decide +kernel)
set_option maxRecDepth 100000 in
theorem nW_x12 : Cond.exactly (.string "PatternRunner$Program" 93) "java/lang/String" ∈ flatC lw_G := List.mem_of_getElem? (i := 546) (by decide +kernel)
set_option maxRecDepth 100000 in
theorem tL_s12 : Cond.stringRef "PatternRunner$Program" 93 "the pattern has too many counts" ∈ lw_tbl := List.mem_of_getElem? (i := 728) (by decide +kernel)
set_option maxRecDepth 100000 in
theorem nW_x13 : Cond.exactly (.string "PatternRunner$Reader" 112) "java/lang/String" ∈ flatC lw_G := List.mem_of_getElem? (i := 217) (by decide +kernel)
set_option maxRecDepth 100000 in
theorem tL_s13 : Cond.stringRef "PatternRunner$Reader" 112 "more than 8 stand in one another" ∈ lw_tbl := List.mem_of_getElem? (i := 503) (by decide +kernel)
set_option maxRecDepth 100000 in
theorem nW_x14 : Cond.exactly (.string "PatternRunner$Reader" 114) "java/lang/String" ∈ flatC lw_G := List.mem_of_getElem? (i := 253) (by decide +kernel)
set_option maxRecDepth 100000 in
theorem tL_s14 : Cond.stringRef "PatternRunner$Reader" 114 "a bracket is not closed" ∈ lw_tbl := List.mem_of_getElem? (i := 505) (by decide +kernel)
set_option maxRecDepth 100000 in
theorem nW_x15 : Cond.exactly (.string "PatternRunner$Reader" 160) "java/lang/String" ∈ flatC lw_G := List.mem_of_getElem? (i := 328) (by decide +kernel)
set_option maxRecDepth 100000 in
theorem tL_s15 : Cond.stringRef "PatternRunner$Reader" 160 "^$\\.*+?()[]{}|" ∈ lw_tbl := List.mem_of_getElem? (i := 648) (by decide +kernel)
set_option maxRecDepth 100000 in
theorem nW_x16 : Cond.exactly (.string "PatternRunner$Reader" 188) "java/lang/String" ∈ flatC lw_G := List.mem_of_getElem? (i := 318) (by decide +kernel)
set_option maxRecDepth 100000 in
theorem tL_s16 : Cond.stringRef "PatternRunner$Reader" 188 "dwsDWS" ∈ lw_tbl := List.mem_of_getElem? (i := 548) (by decide +kernel)
set_option maxRecDepth 100000 in
theorem nW_x17 : Cond.exactly (.string "PatternRunner$Reader" 194) "java/lang/String" ∈ flatC lw_G := List.mem_of_getElem? (i := 346) (by decide +kernel)
set_option maxRecDepth 100000 in
theorem tL_s17 : Cond.stringRef "PatternRunner$Reader" 194 "a sign is behind \\ that can't be" ∈ lw_tbl := List.mem_of_getElem? (i := 653) (by decide +kernel)
set_option maxRecDepth 100000 in
theorem nW_x18 : Cond.exactly (.string "PatternRunner$Reader" 203) "java/lang/String" ∈ flatC lw_G := List.mem_of_getElem? (i := 405) (by decide +kernel)
set_option maxRecDepth 100000 in
theorem tL_s18 : Cond.stringRef "PatternRunner$Reader" 203 "a range can't be so" ∈ lw_tbl := List.mem_of_getElem? (i := 697) (by decide +kernel)
set_option maxRecDepth 100000 in
theorem nW_x19 : Cond.exactly (.string "PatternRunner$Reader" 205) "java/lang/String" ∈ flatC lw_G := List.mem_of_getElem? (i := 382) (by decide +kernel)
set_option maxRecDepth 100000 in
theorem tL_s19 : Cond.stringRef "PatternRunner$Reader" 205 "a set is not closed" ∈ lw_tbl := List.mem_of_getElem? (i := 696) (by decide +kernel)
set_option maxRecDepth 100000 in
theorem nW_x20 : Cond.exactly (.string "PatternRunner$Reader" 213) "java/lang/String" ∈ flatC lw_G := List.mem_of_getElem? (i := 484) (by decide +kernel)
set_option maxRecDepth 100000 in
theorem tL_s20 : Cond.stringRef "PatternRunner$Reader" 213 "a count is not closed" ∈ lw_tbl := List.mem_of_getElem? (i := 722) (by decide +kernel)
set_option maxRecDepth 100000 in
theorem nW_x21 : Cond.exactly (.string "PatternRunner$Reader" 215) "java/lang/String" ∈ flatC lw_G := List.mem_of_getElem? (i := 509) (by decide +kernel)
set_option maxRecDepth 100000 in
theorem tL_s21 : Cond.stringRef "PatternRunner$Reader" 215 "a count's n is greater than its m" ∈ lw_tbl := List.mem_of_getElem? (i := 723) (by decide +kernel)
set_option maxRecDepth 100000 in
theorem nW_x22 : Cond.exactly (.string "PatternRunner$Reader" 217) "java/lang/String" ∈ flatC lw_G := List.mem_of_getElem? (i := 460) (by decide +kernel)
set_option maxRecDepth 100000 in
theorem tL_s22 : Cond.stringRef "PatternRunner$Reader" 217 "a count has no digit" ∈ lw_tbl := List.mem_of_getElem? (i := 721) (by decide +kernel)
set_option maxRecDepth 100000 in
theorem nW_x23 : Cond.exactly (.string "PatternRunner$Reader" 51) "java/lang/String" ∈ flatC lw_G := List.mem_of_getElem? (i := 428) (by decide +kernel)
set_option maxRecDepth 100000 in
theorem tL_s23 : Cond.stringRef "PatternRunner$Reader" 51 "a sign stands where none can" ∈ lw_tbl := List.mem_of_getElem? (i := 707) (by decide +kernel)
set_option maxRecDepth 100000 in
theorem nW_x24 : Cond.exactly (.string "PatternRunner$Reader" 59) "java/lang/String" ∈ flatC lw_G := List.mem_of_getElem? (i := 617) (by decide +kernel)
set_option maxRecDepth 100000 in
theorem tL_s24 : Cond.stringRef "PatternRunner$Reader" 59 "a reference is to no group" ∈ lw_tbl := List.mem_of_getElem? (i := 743) (by decide +kernel)
set_option maxRecDepth 100000 in
theorem nW_x25 : Cond.exactly (.string "PatternRunner$Reader" 68) "java/lang/String" ∈ flatC lw_G := List.mem_of_getElem? (i := 581) (by decide +kernel)
set_option maxRecDepth 100000 in
theorem tL_s25 : Cond.stringRef "PatternRunner$Reader" 68 "the pattern weighs more than 120" ∈ lw_tbl := List.mem_of_getElem? (i := 732) (by decide +kernel)
set_option maxRecDepth 100000 in
theorem nW_ac : Cond.eq (.field (.string "PatternRunner$Reader" 160) "java/lang/String" "coder" "B") (.int 0) ∈ flatC lw_G := List.mem_of_getElem? (i := 329) (by decide +kernel)
set_option maxRecDepth 100000 in
theorem nW_at : Cond.arrayOf (.field (.string "PatternRunner$Reader" 160) "java/lang/String" "value" "[B") .byte ∈ flatC lw_G := List.mem_of_getElem? (i := 330) (by decide +kernel)
set_option maxRecDepth 100000 in
theorem nW_al : Cond.eq (.length (.field (.string "PatternRunner$Reader" 160) "java/lang/String" "value" "[B")) (.int (Int32.ofNat 14)) ∈ flatC lw_G := List.mem_of_getElem? (i := 331) (by decide +kernel)
set_option maxRecDepth 100000 in
theorem nW_ae0 : Cond.eq (.elem (.field (.string "PatternRunner$Reader" 160) "java/lang/String" "value" "[B") (.int (Int32.ofNat 0))) (.int (sB1.getD 0 0)) ∈ flatC lw_G := List.mem_of_getElem? (i := 332) (by decide +kernel)
set_option maxRecDepth 100000 in
theorem nW_ae1 : Cond.eq (.elem (.field (.string "PatternRunner$Reader" 160) "java/lang/String" "value" "[B") (.int (Int32.ofNat 1))) (.int (sB1.getD 1 0)) ∈ flatC lw_G := List.mem_of_getElem? (i := 333) (by decide +kernel)
set_option maxRecDepth 100000 in
theorem nW_ae2 : Cond.eq (.elem (.field (.string "PatternRunner$Reader" 160) "java/lang/String" "value" "[B") (.int (Int32.ofNat 2))) (.int (sB1.getD 2 0)) ∈ flatC lw_G := List.mem_of_getElem? (i := 334) (by decide +kernel)
set_option maxRecDepth 100000 in
theorem nW_ae3 : Cond.eq (.elem (.field (.string "PatternRunner$Reader" 160) "java/lang/String" "value" "[B") (.int (Int32.ofNat 3))) (.int (sB1.getD 3 0)) ∈ flatC lw_G := List.mem_of_getElem? (i := 335) (by decide +kernel)
set_option maxRecDepth 100000 in
theorem nW_ae4 : Cond.eq (.elem (.field (.string "PatternRunner$Reader" 160) "java/lang/String" "value" "[B") (.int (Int32.ofNat 4))) (.int (sB1.getD 4 0)) ∈ flatC lw_G := List.mem_of_getElem? (i := 336) (by decide +kernel)
set_option maxRecDepth 100000 in
theorem nW_ae5 : Cond.eq (.elem (.field (.string "PatternRunner$Reader" 160) "java/lang/String" "value" "[B") (.int (Int32.ofNat 5))) (.int (sB1.getD 5 0)) ∈ flatC lw_G := List.mem_of_getElem? (i := 337) (by decide +kernel)
set_option maxRecDepth 100000 in
theorem nW_ae6 : Cond.eq (.elem (.field (.string "PatternRunner$Reader" 160) "java/lang/String" "value" "[B") (.int (Int32.ofNat 6))) (.int (sB1.getD 6 0)) ∈ flatC lw_G := List.mem_of_getElem? (i := 338) (by decide +kernel)
set_option maxRecDepth 100000 in
theorem nW_ae7 : Cond.eq (.elem (.field (.string "PatternRunner$Reader" 160) "java/lang/String" "value" "[B") (.int (Int32.ofNat 7))) (.int (sB1.getD 7 0)) ∈ flatC lw_G := List.mem_of_getElem? (i := 339) (by decide +kernel)
set_option maxRecDepth 100000 in
theorem nW_ae8 : Cond.eq (.elem (.field (.string "PatternRunner$Reader" 160) "java/lang/String" "value" "[B") (.int (Int32.ofNat 8))) (.int (sB1.getD 8 0)) ∈ flatC lw_G := List.mem_of_getElem? (i := 340) (by decide +kernel)
set_option maxRecDepth 100000 in
theorem nW_ae9 : Cond.eq (.elem (.field (.string "PatternRunner$Reader" 160) "java/lang/String" "value" "[B") (.int (Int32.ofNat 9))) (.int (sB1.getD 9 0)) ∈ flatC lw_G := List.mem_of_getElem? (i := 341) (by decide +kernel)
set_option maxRecDepth 100000 in
theorem nW_ae10 : Cond.eq (.elem (.field (.string "PatternRunner$Reader" 160) "java/lang/String" "value" "[B") (.int (Int32.ofNat 10))) (.int (sB1.getD 10 0)) ∈ flatC lw_G := List.mem_of_getElem? (i := 342) (by decide +kernel)
set_option maxRecDepth 100000 in
theorem nW_ae11 : Cond.eq (.elem (.field (.string "PatternRunner$Reader" 160) "java/lang/String" "value" "[B") (.int (Int32.ofNat 11))) (.int (sB1.getD 11 0)) ∈ flatC lw_G := List.mem_of_getElem? (i := 343) (by decide +kernel)
set_option maxRecDepth 100000 in
theorem nW_ae12 : Cond.eq (.elem (.field (.string "PatternRunner$Reader" 160) "java/lang/String" "value" "[B") (.int (Int32.ofNat 12))) (.int (sB1.getD 12 0)) ∈ flatC lw_G := List.mem_of_getElem? (i := 344) (by decide +kernel)
set_option maxRecDepth 100000 in
theorem nW_ae13 : Cond.eq (.elem (.field (.string "PatternRunner$Reader" 160) "java/lang/String" "value" "[B") (.int (Int32.ofNat 13))) (.int (sB1.getD 13 0)) ∈ flatC lw_G := List.mem_of_getElem? (i := 345) (by decide +kernel)
set_option maxRecDepth 100000 in
theorem nW_bc : Cond.eq (.field (.string "PatternRunner$Reader" 188) "java/lang/String" "coder" "B") (.int 0) ∈ flatC lw_G := List.mem_of_getElem? (i := 319) (by decide +kernel)
set_option maxRecDepth 100000 in
theorem nW_bt : Cond.arrayOf (.field (.string "PatternRunner$Reader" 188) "java/lang/String" "value" "[B") .byte ∈ flatC lw_G := List.mem_of_getElem? (i := 320) (by decide +kernel)
set_option maxRecDepth 100000 in
theorem nW_bl : Cond.eq (.length (.field (.string "PatternRunner$Reader" 188) "java/lang/String" "value" "[B")) (.int (Int32.ofNat 6)) ∈ flatC lw_G := List.mem_of_getElem? (i := 321) (by decide +kernel)
set_option maxRecDepth 100000 in
theorem nW_be0 : Cond.eq (.elem (.field (.string "PatternRunner$Reader" 188) "java/lang/String" "value" "[B") (.int (Int32.ofNat 0))) (.int (sB2.getD 0 0)) ∈ flatC lw_G := List.mem_of_getElem? (i := 322) (by decide +kernel)
set_option maxRecDepth 100000 in
theorem nW_be1 : Cond.eq (.elem (.field (.string "PatternRunner$Reader" 188) "java/lang/String" "value" "[B") (.int (Int32.ofNat 1))) (.int (sB2.getD 1 0)) ∈ flatC lw_G := List.mem_of_getElem? (i := 323) (by decide +kernel)
set_option maxRecDepth 100000 in
theorem nW_be2 : Cond.eq (.elem (.field (.string "PatternRunner$Reader" 188) "java/lang/String" "value" "[B") (.int (Int32.ofNat 2))) (.int (sB2.getD 2 0)) ∈ flatC lw_G := List.mem_of_getElem? (i := 324) (by decide +kernel)
set_option maxRecDepth 100000 in
theorem nW_be3 : Cond.eq (.elem (.field (.string "PatternRunner$Reader" 188) "java/lang/String" "value" "[B") (.int (Int32.ofNat 3))) (.int (sB2.getD 3 0)) ∈ flatC lw_G := List.mem_of_getElem? (i := 325) (by decide +kernel)
set_option maxRecDepth 100000 in
theorem nW_be4 : Cond.eq (.elem (.field (.string "PatternRunner$Reader" 188) "java/lang/String" "value" "[B") (.int (Int32.ofNat 4))) (.int (sB2.getD 4 0)) ∈ flatC lw_G := List.mem_of_getElem? (i := 326) (by decide +kernel)
set_option maxRecDepth 100000 in
theorem nW_be5 : Cond.eq (.elem (.field (.string "PatternRunner$Reader" 188) "java/lang/String" "value" "[B") (.int (Int32.ofNat 5))) (.int (sB2.getD 5 0)) ∈ flatC lw_G := List.mem_of_getElem? (i := 327) (by decide +kernel)
set_option maxRecDepth 100000 in
theorem nW_us : Cond.isRef (.static "java/lang/Throwable" "UNASSIGNED_STACK" "[Ljava/lang/StackTraceElement;") ∈ flatC lw_G := List.mem_of_getElem? (i := 4) (by decide +kernel)
set_option maxRecDepth 100000 in
theorem nW_ss : Cond.isRef (.static "java/lang/Throwable" "SUPPRESSED_SENTINEL" "Ljava/util/List;") ∈ flatC lw_G := List.mem_of_getElem? (i := 5) (by decide +kernel)
set_option maxRecDepth 100000 in
theorem nW_cs : Cond.eq (.static "java/lang/String" "COMPACT_STRINGS" "Z") (.int 1) ∈ flatC lw_G := List.mem_of_getElem? (i := 6) (by decide +kernel)
set_option maxRecDepth 100000 in
theorem tL_lus : Cond.laysStatic "java/lang/Throwable" "UNASSIGNED_STACK" "[Ljava/lang/StackTraceElement;" ∈ lw_tbl := List.mem_of_getElem? (i := 371) (by decide +kernel)
set_option maxRecDepth 100000 in
theorem tL_lss : Cond.laysStatic "java/lang/Throwable" "SUPPRESSED_SENTINEL" "Ljava/util/List;" ∈ lw_tbl := List.mem_of_getElem? (i := 373) (by decide +kernel)
set_option maxRecDepth 100000 in
theorem tL_lcs : Cond.laysStatic "java/lang/String" "COMPACT_STRINGS" "Z" ∈ lw_tbl := List.mem_of_getElem? (i := 562) (by decide +kernel)
set_option maxRecDepth 100000 in
theorem tL_iT : Cond.initialized "java/lang/Throwable" ∈ lw_tbl := List.mem_of_getElem? (i := 97) (by decide +kernel)
set_option maxRecDepth 100000 in
theorem tL_iS : Cond.initialized "java/lang/String" ∈ lw_tbl := List.mem_of_getElem? (i := 101) (by decide +kernel)
set_option maxRecDepth 100000 in
theorem tL_ca0 : Cond.castable "java/lang/IllegalArgumentException" "java/lang/IllegalArgumentException" ∈ lw_tbl := List.mem_of_getElem? (i := 346) (by decide +kernel)
set_option maxRecDepth 100000 in
theorem tL_ca1 : Cond.castable "java/lang/IllegalStateException" "java/lang/IllegalStateException" ∈ lw_tbl := List.mem_of_getElem? (i := 755) (by decide +kernel)
set_option maxRecDepth 100000 in
theorem tL_ca2 : Cond.castable "java/lang/UnsupportedOperationException" "java/lang/UnsupportedOperationException" ∈ lw_tbl := List.mem_of_getElem? (i := 820) (by decide +kernel)
set_option maxRecDepth 100000 in
theorem tL_ca3 : Cond.castable "java/util/NoSuchElementException" "java/util/NoSuchElementException" ∈ lw_tbl := List.mem_of_getElem? (i := 1024) (by decide +kernel)
set_option maxRecDepth 100000 in
theorem tL_de0 : Cond.declares (Bundle.initS "java/lang/RuntimeException") ∈ lw_tbl := List.mem_of_getElem? (i := 348) (by decide +kernel)
set_option maxRecDepth 100000 in
theorem tL_de1 : Cond.declares (Bundle.initS "java/lang/Exception") ∈ lw_tbl := List.mem_of_getElem? (i := 350) (by decide +kernel)
set_option maxRecDepth 100000 in
theorem tL_de2 : Cond.declares (Bundle.initS "java/lang/Throwable") ∈ lw_tbl := List.mem_of_getElem? (i := 352) (by decide +kernel)
set_option maxRecDepth 100000 in
theorem tL_n3 : Cond.methodLinkNest RX3 11 yX5_init "PatternRunner" ∈ lw_tbl := List.mem_of_getElem? (i := 194) (by decide +kernel)
set_option maxRecDepth 100000 in
theorem tL_n0 : Cond.methodLinkNest RX0 11 yX1_init "PatternRunner" ∈ lw_tbl := List.mem_of_getElem? (i := 238) (by decide +kernel)
theorem vk_S1 {len : List Nat} {byt : List (List Int32)} {adK adV : Nat → Nat} {A : Nat → Prop} {U : State} {H : Heap} {x y : Nat} (h : vk_S 1 len byt adK adV A U H) (hx : x = adK 0) (hy : y = adV 0) : vk_S 1 len byt (fun _ => x) (fun _ => y) A U H := by
  subst hx
  subst hy
  refine ⟨fun i hi => ?_, fun i j hi hj _ => by omega⟩
  have : i = 0 := by omega
  subst this
  exact h.1 0 hi
set_option maxRecDepth 100000 in
theorem l_str {s : State} {args : Array Value} (hts : ∀ w ∈ lw_tbl, w.before args s = true) (hs : ∀ w ∈ flatC lw_G, w.before args s = true) : ∀ j : Nat, ∃ a : Nat, j < 26 → vk_R (sT j).1 (sT j).2.1 (sT j).2.2 a s := by
  have key : ∀ (c : String) (k : Nat) (tx : String), Cond.stringRef c k tx ∈ lw_tbl → Cond.exactly (.string c k) "java/lang/String" ∈ flatC lw_G → ∃ a : Nat, vk_R c k tx a s := by
    intro c k tx h1 h2
    obtain ⟨a, c9, cA, kA, q1, -⟩ := Cond.exactly_spec (args := args) (first := s) (o := none) (s := s) (idx := []) (t := .string c k) (cls := "java/lang/String") (hs _ h2)
    exact ⟨a, vk_R.of (hts _ h1) q1⟩
  intro j
  by_cases hj : j < 26
  · rcases (show j = 0 ∨ j = 1 ∨ j = 2 ∨ j = 3 ∨ j = 4 ∨ j = 5 ∨ j = 6 ∨ j = 7 ∨ j = 8 ∨ j = 9 ∨ j = 10 ∨ j = 11 ∨ j = 12 ∨ j = 13 ∨ j = 14 ∨ j = 15 ∨ j = 16 ∨ j = 17 ∨ j = 18 ∨ j = 19 ∨ j = 20 ∨ j = 21 ∨ j = 22 ∨ j = 23 ∨ j = 24 ∨ j = 25 by omega) with rfl | rfl | rfl | rfl | rfl | rfl | rfl | rfl | rfl | rfl | rfl | rfl | rfl | rfl | rfl | rfl | rfl | rfl | rfl | rfl | rfl | rfl | rfl | rfl | rfl | rfl
    · obtain ⟨a, ha⟩ := key _ _ _ tL_s0 nW_x0
      exact ⟨a, fun _ => ha⟩
    · obtain ⟨a, ha⟩ := key _ _ _ tL_s1 nW_x1
      exact ⟨a, fun _ => ha⟩
    · obtain ⟨a, ha⟩ := key _ _ _ tL_s2 nW_x2
      exact ⟨a, fun _ => ha⟩
    · obtain ⟨a, ha⟩ := key _ _ _ tL_s3 nW_x3
      exact ⟨a, fun _ => ha⟩
    · obtain ⟨a, ha⟩ := key _ _ _ tL_s4 nW_x4
      exact ⟨a, fun _ => ha⟩
    · obtain ⟨a, ha⟩ := key _ _ _ tL_s5 nW_x5
      exact ⟨a, fun _ => ha⟩
    · obtain ⟨a, ha⟩ := key _ _ _ tL_s6 nW_x6
      exact ⟨a, fun _ => ha⟩
    · obtain ⟨a, ha⟩ := key _ _ _ tL_s7 nW_x7
      exact ⟨a, fun _ => ha⟩
    · obtain ⟨a, ha⟩ := key _ _ _ tL_s8 nW_x8
      exact ⟨a, fun _ => ha⟩
    · obtain ⟨a, ha⟩ := key _ _ _ tL_s9 nW_x9
      exact ⟨a, fun _ => ha⟩
    · obtain ⟨a, ha⟩ := key _ _ _ tL_s10 nW_x10
      exact ⟨a, fun _ => ha⟩
    · obtain ⟨a, ha⟩ := key _ _ _ tL_s11 nW_x11
      exact ⟨a, fun _ => ha⟩
    · obtain ⟨a, ha⟩ := key _ _ _ tL_s12 nW_x12
      exact ⟨a, fun _ => ha⟩
    · obtain ⟨a, ha⟩ := key _ _ _ tL_s13 nW_x13
      exact ⟨a, fun _ => ha⟩
    · obtain ⟨a, ha⟩ := key _ _ _ tL_s14 nW_x14
      exact ⟨a, fun _ => ha⟩
    · obtain ⟨a, ha⟩ := key _ _ _ tL_s15 nW_x15
      exact ⟨a, fun _ => ha⟩
    · obtain ⟨a, ha⟩ := key _ _ _ tL_s16 nW_x16
      exact ⟨a, fun _ => ha⟩
    · obtain ⟨a, ha⟩ := key _ _ _ tL_s17 nW_x17
      exact ⟨a, fun _ => ha⟩
    · obtain ⟨a, ha⟩ := key _ _ _ tL_s18 nW_x18
      exact ⟨a, fun _ => ha⟩
    · obtain ⟨a, ha⟩ := key _ _ _ tL_s19 nW_x19
      exact ⟨a, fun _ => ha⟩
    · obtain ⟨a, ha⟩ := key _ _ _ tL_s20 nW_x20
      exact ⟨a, fun _ => ha⟩
    · obtain ⟨a, ha⟩ := key _ _ _ tL_s21 nW_x21
      exact ⟨a, fun _ => ha⟩
    · obtain ⟨a, ha⟩ := key _ _ _ tL_s22 nW_x22
      exact ⟨a, fun _ => ha⟩
    · obtain ⟨a, ha⟩ := key _ _ _ tL_s23 nW_x23
      exact ⟨a, fun _ => ha⟩
    · obtain ⟨a, ha⟩ := key _ _ _ tL_s24 nW_x24
      exact ⟨a, fun _ => ha⟩
    · obtain ⟨a, ha⟩ := key _ _ _ tL_s25 nW_x25
      exact ⟨a, fun _ => ha⟩
  · exact ⟨0, fun h => absurd h hj⟩
set_option maxRecDepth 100000 in
theorem l_env {s : State} {args : Array Value} (hts : ∀ w ∈ lw_tbl, w.before args s = true) (hgv : lw_G.before args s = true) : ∃ V : Nat × (Nat → Nat), V.1 = s.heap.size ∧ cEnv V s s.heap := by
  have hs := flat_of_before _ hgv
  have hA : ∀ a : Nat, a < s.heap.size → ¬ (fun a : Nat => s.heap.size ≤ a) a := fun a h => Nat.not_le.mpr h
  have h0 := l_str hts hs
  obtain ⟨g, hg⟩ : ∃ g : Nat → Nat, ∀ j, j < 26 → vk_R (sT j).1 (sT j).2.1 (sT j).2.2 (g j) s := ⟨fun j => (h0 j).choose, fun j => (h0 j).choose_spec⟩

  obtain ⟨ka, va, hSa, hEa⟩ := vk_Sof (args := args) (s := s) (N := 1) (tm := fun _ => .string "PatternRunner$Reader" 160) (len := [14]) (byt := [sB1]) (A := fun a : Nat => s.heap.size ≤ a) (by decide) (fun i _ => hs _ nW_x15) (fun i _ => hs _ nW_ac) (fun i _ => hs _ nW_at) (fun i hi => by
      have : i = 0 := by omega
      subst this
      exact hs _ nW_al) (fun i hi j hj => by
      have : i = 0 := by omega
      subst this
      have hj : j < 14 := hj
      rcases (show j = 0 ∨ j = 1 ∨ j = 2 ∨ j = 3 ∨ j = 4 ∨ j = 5 ∨ j = 6 ∨ j = 7 ∨ j = 8 ∨ j = 9 ∨ j = 10 ∨ j = 11 ∨ j = 12 ∨ j = 13 by omega) with rfl | rfl | rfl | rfl | rfl | rfl | rfl | rfl | rfl | rfl | rfl | rfl | rfl | rfl
      all_goals first | exact hs _ nW_ae0 | exact hs _ nW_ae1 | exact hs _ nW_ae2 | exact hs _ nW_ae3 | exact hs _ nW_ae4 | exact hs _ nW_ae5 | exact hs _ nW_ae6 | exact hs _ nW_ae7 | exact hs _ nW_ae8 | exact hs _ nW_ae9 | exact hs _ nW_ae10 | exact hs _ nW_ae11 | exact hs _ nW_ae12 | exact hs _ nW_ae13) (fun i j hi hj h => absurd (show i = j by omega) h) hA
  have ea : g 15 = ka 0 := by
    have h1 := (hg 15 (by decide)).2
    have h2 := hEa 0 (by decide)
    have h3 := h1.symm.trans h2
    exact Value.ref.inj (Option.some.inj h3)
  obtain ⟨kb, vb, hSb, hEb⟩ := vk_Sof (args := args) (s := s) (N := 1) (tm := fun _ => .string "PatternRunner$Reader" 188) (len := [6]) (byt := [sB2]) (A := fun a : Nat => s.heap.size ≤ a) (by decide) (fun i _ => hs _ nW_x16) (fun i _ => hs _ nW_bc) (fun i _ => hs _ nW_bt) (fun i hi => by
      have : i = 0 := by omega
      subst this
      exact hs _ nW_bl) (fun i hi j hj => by
      have : i = 0 := by omega
      subst this
      have hj : j < 6 := hj
      rcases (show j = 0 ∨ j = 1 ∨ j = 2 ∨ j = 3 ∨ j = 4 ∨ j = 5 by omega) with rfl | rfl | rfl | rfl | rfl | rfl
      all_goals first | exact hs _ nW_be0 | exact hs _ nW_be1 | exact hs _ nW_be2 | exact hs _ nW_be3 | exact hs _ nW_be4 | exact hs _ nW_be5) (fun i j hi hj h => absurd (show i = j by omega) h) hA
  have eb : g 16 = kb 0 := by
    have h1 := (hg 16 (by decide)).2
    have h2 := hEb 0 (by decide)
    have h3 := h1.symm.trans h2
    exact Value.ref.inj (Option.some.inj h3)
  refine ⟨(s.heap.size, fun j => if j = 26 then va 0 else if j = 27 then vb 0 else g j), rfl, ?_, ?_, ?_, ?_, ?_, ?_, ?_, ?_⟩
  · intro j hj
    show vk_R _ _ _ (if j = 26 then va 0 else if j = 27 then vb 0 else g j) s
    rw [if_neg (by omega), if_neg (by omega)]
    exact hg j hj
  · exact vx_Zqof (args := args) (hts _ tL_lus) (hts _ tL_iT) (hs _ nW_us) hA
  · exact vx_Zqof (args := args) (hts _ tL_lss) (hts _ tL_iT) (hs _ nW_ss) hA
  · intro E hE
    simp only [List.mem_cons, List.not_mem_nil, or_false] at hE
    rcases hE with rfl | rfl | rfl | rfl
    · exact va_Nw.of rfl (hts _ tL_ca0)
    · exact va_Nw.of rfl (hts _ tL_ca1)
    · exact va_Nw.of rfl (hts _ tL_ca2)
    · exact va_Nw.of rfl (hts _ tL_ca3)
  · intro Y hY
    simp only [List.mem_cons, List.not_mem_nil, or_false] at hY
    rcases hY with rfl | rfl | rfl
    · exact va_Nw.of rfl (hts _ tL_de0)
    · exact va_Nw.of rfl (hts _ tL_de1)
    · exact va_Nw.of rfl (hts _ tL_de2)
  · exact vk_S1 hSa ea rfl
  · exact vk_S1 hSb eb rfl
  · exact va_Zof (args := args) (hts _ tL_lcs) (hts _ tL_iS) (va_eqt (hs _ nW_cs)) hA
