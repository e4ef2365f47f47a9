set_option maxRecDepth 100000 in
def wsGA : List Cond := [Cond.code yX11_cell cX11_cell 2 (some .int), Cond.methodLink RX11 425 yX11_cell, Cond.static yX11_cell, Cond.initialized RX11, Cond.fieldLink RX3 9 "SightedMonths$Frame" "allowed" "[I", Cond.fieldLink RX3 28 "SightedMonths$Frame" "full" "I", Cond.fieldLink RX3 32 "SightedMonths$Frame" "lean" "I", Cond.fieldLink RX3 24 "SightedMonths$Frame" "months" "I", Cond.fieldLink RX3 15 "SightedMonths$Frame" "onward" "[I", Cond.code yX11_firstRun cX11_firstRun 1 (some .int), Cond.static yX11_firstRun, Cond.code yX11_lastRun cX11_lastRun 3 (some .int), Cond.static yX11_lastRun, Cond.code yX11_runWithFull cX11_runWithFull 2 (some .int), Cond.static yX11_runWithFull, Cond.code yX11_runWithLean cX11_runWithLean 3 (some .int), Cond.static yX11_runWithLean, Cond.code yX11_dayOf cX11_dayOf 2 (some .int), Cond.static yX11_dayOf, Cond.fieldLink RX3 18 "SightedMonths$Almanac" "months" "I", Cond.fieldLink RX3 25 "SightedMonths$Almanac" "full" "I", Cond.fieldLink RX3 29 "SightedMonths$Almanac" "lean" "I", Cond.fieldLink RX3 33 "SightedMonths$Report" "month" "I", Cond.fieldLink RX3 38 "SightedMonths$Report" "day" "I", Cond.fieldLink RX3 41 "SightedMonths$Report" "kind" "I", Cond.code yX3_rightFor cX3_rightFor 3 (some .int), Cond.methodLink RX3 44 yX3_rightFor, Cond.static yX3_rightFor, Cond.initialized RX3, Cond.fieldLink RX7 7 "SightedMonths$Report" "struck" "Z", Cond.fieldLink RX7 13 "SightedMonths$Report" "known" "I", Cond.fieldLink RX8 9 "SightedMonths$Search" "costs" "[I", Cond.code yJ7_fill_53178 cJ7_fill_53178 4 none, Cond.initialized RJ7, Cond.methodLink RX8 18 yJ7_fill_53178, Cond.static yJ7_fill_53178, Cond.fieldLink RX8 15 "SightedMonths$Search" "leasts" "[I", Cond.fieldLink RX8 38 "SightedMonths$Search" "full" "I", Cond.code yX11_spot cX11_spot 3 (some .int), Cond.static yX11_spot, Cond.fieldLink RX8 42 "SightedMonths$Search" "lean" "I", Cond.fieldLink RX8 34 "SightedMonths$Search" "months" "I", Cond.code yX8_withFull cX8_withFull 4 (some .int), Cond.methodLink RX8 60 yX8_withFull, Cond.instanceMethod yX8_withFull, Cond.selects RX8 yX8_withFull yX8_withFull, Cond.initialized RX8, Cond.code yX8_withLean cX8_withLean 4 (some .int), Cond.methodLink RX8 63 yX8_withLean, Cond.instanceMethod yX8_withLean, Cond.selects RX8 yX8_withLean yX8_withLean, Cond.methodLink RX8 66 Lib.Math.min.name, Cond.static Lib.Math.min.name, Cond.initialized "java/lang/Math", Cond.code Lib.Math.min.name Lib.Math.min.code 2 (some .int), Cond.constant RX8 43 (1000000), Cond.fieldLink RX8 28 "SightedMonths$Frame" "months" "I", Cond.fieldLink RX8 35 "SightedMonths$Frame" "full" "I", Cond.fieldLink RX8 39 "SightedMonths$Frame" "lean" "I", Cond.code yX3_allows cX3_allows 3 (some .boolean), Cond.methodLink RX8 44 yX3_allows, Cond.instanceMethod yX3_allows, Cond.selects RX3 yX3_allows yX3_allows, Cond.code yX8_fillCell cX8_fillCell 5 none, Cond.methodLink RX8 48 yX8_fillCell, Cond.instanceMethod yX8_fillCell, Cond.selects RX8 yX8_fillCell yX8_fillCell, Cond.fieldLink RX9 15 "SightedMonths$Tally" "behind" "[I", Cond.fieldLink RX9 31 "SightedMonths$Tally" "full" "I", Cond.fieldLink RX9 35 "SightedMonths$Tally" "lean" "I", Cond.fieldLink RX9 18 "SightedMonths$Tally" "starts" "[I", Cond.methodLink RX9 98 Lib.Math.max.name, Cond.static Lib.Math.max.name, Cond.code Lib.Math.max.name Lib.Math.max.code 2 (some .int), Cond.fieldLink RX9 9 "SightedMonths$Tally" "before" "[I", Cond.code yX9_withLean cX9_withLean 4 (some .int), Cond.methodLink RX9 89 yX9_withLean, Cond.instanceMethod yX9_withLean, Cond.selects RX9 yX9_withLean yX9_withLean, Cond.initialized RX9, Cond.code yX9_withFull cX9_withFull 4 (some .int), Cond.methodLink RX9 86 yX9_withFull, Cond.instanceMethod yX9_withFull, Cond.selects RX9 yX9_withFull yX9_withFull, Cond.fieldLink RX9 27 "SightedMonths$Tally" "months" "I", Cond.methodLink RX9 52 yX3_allows, Cond.code yX9_takeOnWithLean cX9_takeOnWithLean 7 none, Cond.methodLink RX9 60 yX9_takeOnWithLean, Cond.instanceMethod yX9_takeOnWithLean, Cond.selects RX9 yX9_takeOnWithLean yX9_takeOnWithLean, Cond.code yX9_takeOnWithFull cX9_takeOnWithFull 7 none, Cond.methodLink RX9 56 yX9_takeOnWithFull, Cond.instanceMethod yX9_takeOnWithFull, Cond.selects RX9 yX9_takeOnWithFull yX9_takeOnWithFull, Cond.methodLink RX9 81 Lib.Math.min.name, Cond.fieldLink RX9 21 "SightedMonths$Frame" "months" "I", Cond.fieldLink RX9 28 "SightedMonths$Frame" "full" "I", Cond.fieldLink RX9 32 "SightedMonths$Frame" "lean" "I", Cond.methodLink RX9 36 yJ7_fill_53178, Cond.code yX9_countBefore cX9_countBefore 4 none, Cond.methodLink RX9 42 yX9_countBefore, Cond.instanceMethod yX9_countBefore, Cond.selects RX9 yX9_countBefore yX9_countBefore, Cond.code yX9_countBehind cX9_countBehind 6 none, Cond.methodLink RX9 46 yX9_countBehind, Cond.instanceMethod yX9_countBehind, Cond.selects RX9 yX9_countBehind yX9_countBehind, Cond.code yX9_countStarts cX9_countStarts 6 none, Cond.methodLink RX9 49 yX9_countStarts, Cond.instanceMethod yX9_countStarts, Cond.selects RX9 yX9_countStarts yX9_countStarts, Cond.fieldLink RX4 15 "SightedMonths$History" "begins" "[I", Cond.fieldLink RX4 18 "SightedMonths$History" "eras" "I", Cond.code yX4_changesAt cX4_changesAt 3 (some .boolean), Cond.methodLink RX4 41 yX4_changesAt, Cond.instanceMethod yX4_changesAt, Cond.selects RX4 yX4_changesAt yX4_changesAt, Cond.initialized RX4, Cond.fieldLink RX4 11 "SightedMonths$History" "since" "[I", Cond.fieldLink RX1 29 "SightedMonths$Court" "begins" "[I", Cond.fieldLink RX0 32 "SightedMonths$Almanac" "months" "I", Cond.fieldLink RX0 36 "SightedMonths$Almanac" "full" "I", Cond.fieldLink RX0 39 "SightedMonths$Almanac" "lean" "I", Cond.fieldLink RX0 42 "SightedMonths$Almanac" "lines" "I", Cond.fieldLink RX0 45 "SightedMonths$Almanac" "hasMoon" "Z", Cond.fieldLink RX0 49 "SightedMonths$Almanac" "moonStart" "I", Cond.fieldLink RX0 52 "SightedMonths$Almanac" "moonStep" "I", Cond.fieldLink RX0 55 "SightedMonths$Almanac" "placeCount" "I", Cond.fieldLink RX0 58 "SightedMonths$Almanac" "reportCount" "I", Cond.fieldLink RX0 61 "SightedMonths$Almanac" "deedCount" "I", Cond.fieldLink RX10 15 "SightedMonths$Tape" "length" "I", Cond.fieldLink RX10 9 "SightedMonths$Tape" "bytes" "[B"] ++ wsX30 ++ wsX00 ++ wsX70 ++ wsX80 ++ wsX90 ++ wsX40 ++ wsX10 ++ wsX100
theorem mGA_0 : Cond.code yX11_cell cX11_cell 2 (some .int) ∈ wsGA := List.mem_of_getElem? (i := 0) (by decide +kernel)
theorem mGA_1 : Cond.methodLink RX11 425 yX11_cell ∈ wsGA := List.mem_of_getElem? (i := 1) (by decide +kernel)
theorem mGA_2 : Cond.static yX11_cell ∈ wsGA := List.mem_of_getElem? (i := 2) (by decide +kernel)
theorem mGA_3 : Cond.initialized RX11 ∈ wsGA := List.mem_of_getElem? (i := 3) (by decide +kernel)
theorem mGA_4 : Cond.fieldLink RX3 9 "SightedMonths$Frame" "allowed" "[I" ∈ wsGA := List.mem_of_getElem? (i := 4) (by decide +kernel)
theorem mGA_5 : Cond.fieldLink RX3 28 "SightedMonths$Frame" "full" "I" ∈ wsGA := List.mem_of_getElem? (i := 5) (by decide +kernel)
theorem mGA_6 : Cond.fieldLink RX3 32 "SightedMonths$Frame" "lean" "I" ∈ wsGA := List.mem_of_getElem? (i := 6) (by decide +kernel)
theorem mGA_7 : Cond.fieldLink RX3 24 "SightedMonths$Frame" "months" "I" ∈ wsGA := List.mem_of_getElem? (i := 7) (by decide +kernel)
theorem mGA_8 : Cond.fieldLink RX3 15 "SightedMonths$Frame" "onward" "[I" ∈ wsGA := List.mem_of_getElem? (i := 8) (by decide +kernel)
theorem mGA_9 : Cond.code yX11_firstRun cX11_firstRun 1 (some .int) ∈ wsGA := List.mem_of_getElem? (i := 9) (by decide +kernel)
theorem mGA_10 : Cond.static yX11_firstRun ∈ wsGA := List.mem_of_getElem? (i := 10) (by decide +kernel)
theorem mGA_11 : Cond.code yX11_lastRun cX11_lastRun 3 (some .int) ∈ wsGA := List.mem_of_getElem? (i := 11) (by decide +kernel)
theorem mGA_12 : Cond.static yX11_lastRun ∈ wsGA := List.mem_of_getElem? (i := 12) (by decide +kernel)
theorem mGA_13 : Cond.code yX11_runWithFull cX11_runWithFull 2 (some .int) ∈ wsGA := List.mem_of_getElem? (i := 13) (by decide +kernel)
theorem mGA_14 : Cond.static yX11_runWithFull ∈ wsGA := List.mem_of_getElem? (i := 14) (by decide +kernel)
theorem mGA_15 : Cond.code yX11_runWithLean cX11_runWithLean 3 (some .int) ∈ wsGA := List.mem_of_getElem? (i := 15) (by decide +kernel)
theorem mGA_16 : Cond.static yX11_runWithLean ∈ wsGA := List.mem_of_getElem? (i := 16) (by decide +kernel)
theorem mGA_17 : Cond.code yX11_dayOf cX11_dayOf 2 (some .int) ∈ wsGA := List.mem_of_getElem? (i := 17) (by decide +kernel)
theorem mGA_18 : Cond.static yX11_dayOf ∈ wsGA := List.mem_of_getElem? (i := 18) (by decide +kernel)
theorem mGA_19 : Cond.fieldLink RX3 18 "SightedMonths$Almanac" "months" "I" ∈ wsGA := List.mem_of_getElem? (i := 19) (by decide +kernel)
theorem mGA_20 : Cond.fieldLink RX3 25 "SightedMonths$Almanac" "full" "I" ∈ wsGA := List.mem_of_getElem? (i := 20) (by decide +kernel)
theorem mGA_21 : Cond.fieldLink RX3 29 "SightedMonths$Almanac" "lean" "I" ∈ wsGA := List.mem_of_getElem? (i := 21) (by decide +kernel)
theorem mGA_22 : Cond.fieldLink RX3 33 "SightedMonths$Report" "month" "I" ∈ wsGA := List.mem_of_getElem? (i := 22) (by decide +kernel)
theorem mGA_23 : Cond.fieldLink RX3 38 "SightedMonths$Report" "day" "I" ∈ wsGA := List.mem_of_getElem? (i := 23) (by decide +kernel)
theorem mGA_24 : Cond.fieldLink RX3 41 "SightedMonths$Report" "kind" "I" ∈ wsGA := List.mem_of_getElem? (i := 24) (by decide +kernel)
theorem mGA_25 : Cond.code yX3_rightFor cX3_rightFor 3 (some .int) ∈ wsGA := List.mem_of_getElem? (i := 25) (by decide +kernel)
theorem mGA_26 : Cond.methodLink RX3 44 yX3_rightFor ∈ wsGA := List.mem_of_getElem? (i := 26) (by decide +kernel)
theorem mGA_27 : Cond.static yX3_rightFor ∈ wsGA := List.mem_of_getElem? (i := 27) (by decide +kernel)
theorem mGA_28 : Cond.initialized RX3 ∈ wsGA := List.mem_of_getElem? (i := 28) (by decide +kernel)
theorem mGA_29 : Cond.fieldLink RX7 7 "SightedMonths$Report" "struck" "Z" ∈ wsGA := List.mem_of_getElem? (i := 29) (by decide +kernel)
theorem mGA_30 : Cond.fieldLink RX7 13 "SightedMonths$Report" "known" "I" ∈ wsGA := List.mem_of_getElem? (i := 30) (by decide +kernel)
theorem mGA_31 : Cond.fieldLink RX8 9 "SightedMonths$Search" "costs" "[I" ∈ wsGA := List.mem_of_getElem? (i := 31) (by decide +kernel)
theorem mGA_32 : Cond.code yJ7_fill_53178 cJ7_fill_53178 4 none ∈ wsGA := List.mem_of_getElem? (i := 32) (by decide +kernel)
theorem mGA_33 : Cond.initialized RJ7 ∈ wsGA := List.mem_of_getElem? (i := 33) (by decide +kernel)
theorem mGA_34 : Cond.methodLink RX8 18 yJ7_fill_53178 ∈ wsGA := List.mem_of_getElem? (i := 34) (by decide +kernel)
theorem mGA_35 : Cond.static yJ7_fill_53178 ∈ wsGA := List.mem_of_getElem? (i := 35) (by decide +kernel)
theorem mGA_36 : Cond.fieldLink RX8 15 "SightedMonths$Search" "leasts" "[I" ∈ wsGA := List.mem_of_getElem? (i := 36) (by decide +kernel)
theorem mGA_37 : Cond.fieldLink RX8 38 "SightedMonths$Search" "full" "I" ∈ wsGA := List.mem_of_getElem? (i := 37) (by decide +kernel)
theorem mGA_38 : Cond.code yX11_spot cX11_spot 3 (some .int) ∈ wsGA := List.mem_of_getElem? (i := 38) (by decide +kernel)
theorem mGA_39 : Cond.static yX11_spot ∈ wsGA := List.mem_of_getElem? (i := 39) (by decide +kernel)
theorem mGA_40 : Cond.fieldLink RX8 42 "SightedMonths$Search" "lean" "I" ∈ wsGA := List.mem_of_getElem? (i := 40) (by decide +kernel)
theorem mGA_41 : Cond.fieldLink RX8 34 "SightedMonths$Search" "months" "I" ∈ wsGA := List.mem_of_getElem? (i := 41) (by decide +kernel)
theorem mGA_42 : Cond.code yX8_withFull cX8_withFull 4 (some .int) ∈ wsGA := List.mem_of_getElem? (i := 42) (by decide +kernel)
theorem mGA_43 : Cond.methodLink RX8 60 yX8_withFull ∈ wsGA := List.mem_of_getElem? (i := 43) (by decide +kernel)
theorem mGA_44 : Cond.instanceMethod yX8_withFull ∈ wsGA := List.mem_of_getElem? (i := 44) (by decide +kernel)
theorem mGA_45 : Cond.selects RX8 yX8_withFull yX8_withFull ∈ wsGA := List.mem_of_getElem? (i := 45) (by decide +kernel)
theorem mGA_46 : Cond.initialized RX8 ∈ wsGA := List.mem_of_getElem? (i := 46) (by decide +kernel)
theorem mGA_47 : Cond.code yX8_withLean cX8_withLean 4 (some .int) ∈ wsGA := List.mem_of_getElem? (i := 47) (by decide +kernel)
theorem mGA_48 : Cond.methodLink RX8 63 yX8_withLean ∈ wsGA := List.mem_of_getElem? (i := 48) (by decide +kernel)
theorem mGA_49 : Cond.instanceMethod yX8_withLean ∈ wsGA := List.mem_of_getElem? (i := 49) (by decide +kernel)
theorem mGA_50 : Cond.selects RX8 yX8_withLean yX8_withLean ∈ wsGA := List.mem_of_getElem? (i := 50) (by decide +kernel)
theorem mGA_51 : Cond.methodLink RX8 66 Lib.Math.min.name ∈ wsGA := List.mem_of_getElem? (i := 51) (by decide +kernel)
theorem mGA_52 : Cond.static Lib.Math.min.name ∈ wsGA := List.mem_of_getElem? (i := 52) (by decide +kernel)
theorem mGA_53 : Cond.initialized "java/lang/Math" ∈ wsGA := List.mem_of_getElem? (i := 53) (by decide +kernel)
theorem mGA_54 : Cond.code Lib.Math.min.name Lib.Math.min.code 2 (some .int) ∈ wsGA := List.mem_of_getElem? (i := 54) (by decide +kernel)
theorem mGA_55 : Cond.constant RX8 43 (1000000) ∈ wsGA := List.mem_of_getElem? (i := 55) (by decide +kernel)
theorem mGA_56 : Cond.fieldLink RX8 28 "SightedMonths$Frame" "months" "I" ∈ wsGA := List.mem_of_getElem? (i := 56) (by decide +kernel)
theorem mGA_57 : Cond.fieldLink RX8 35 "SightedMonths$Frame" "full" "I" ∈ wsGA := List.mem_of_getElem? (i := 57) (by decide +kernel)
theorem mGA_58 : Cond.fieldLink RX8 39 "SightedMonths$Frame" "lean" "I" ∈ wsGA := List.mem_of_getElem? (i := 58) (by decide +kernel)
theorem mGA_59 : Cond.code yX3_allows cX3_allows 3 (some .boolean) ∈ wsGA := List.mem_of_getElem? (i := 59) (by decide +kernel)
theorem mGA_60 : Cond.methodLink RX8 44 yX3_allows ∈ wsGA := List.mem_of_getElem? (i := 60) (by decide +kernel)
theorem mGA_61 : Cond.instanceMethod yX3_allows ∈ wsGA := List.mem_of_getElem? (i := 61) (by decide +kernel)
theorem mGA_62 : Cond.selects RX3 yX3_allows yX3_allows ∈ wsGA := List.mem_of_getElem? (i := 62) (by decide +kernel)
theorem mGA_63 : Cond.code yX8_fillCell cX8_fillCell 5 none ∈ wsGA := List.mem_of_getElem? (i := 63) (by decide +kernel)
theorem mGA_64 : Cond.methodLink RX8 48 yX8_fillCell ∈ wsGA := List.mem_of_getElem? (i := 64) (by decide +kernel)
theorem mGA_65 : Cond.instanceMethod yX8_fillCell ∈ wsGA := List.mem_of_getElem? (i := 65) (by decide +kernel)
theorem mGA_66 : Cond.selects RX8 yX8_fillCell yX8_fillCell ∈ wsGA := List.mem_of_getElem? (i := 66) (by decide +kernel)
theorem mGA_67 : Cond.fieldLink RX9 15 "SightedMonths$Tally" "behind" "[I" ∈ wsGA := List.mem_of_getElem? (i := 67) (by decide +kernel)
theorem mGA_68 : Cond.fieldLink RX9 31 "SightedMonths$Tally" "full" "I" ∈ wsGA := List.mem_of_getElem? (i := 68) (by decide +kernel)
theorem mGA_69 : Cond.fieldLink RX9 35 "SightedMonths$Tally" "lean" "I" ∈ wsGA := List.mem_of_getElem? (i := 69) (by decide +kernel)
theorem mGA_70 : Cond.fieldLink RX9 18 "SightedMonths$Tally" "starts" "[I" ∈ wsGA := List.mem_of_getElem? (i := 70) (by decide +kernel)
theorem mGA_71 : Cond.methodLink RX9 98 Lib.Math.max.name ∈ wsGA := List.mem_of_getElem? (i := 71) (by decide +kernel)
theorem mGA_72 : Cond.static Lib.Math.max.name ∈ wsGA := List.mem_of_getElem? (i := 72) (by decide +kernel)
theorem mGA_73 : Cond.code Lib.Math.max.name Lib.Math.max.code 2 (some .int) ∈ wsGA := List.mem_of_getElem? (i := 73) (by decide +kernel)
theorem mGA_74 : Cond.fieldLink RX9 9 "SightedMonths$Tally" "before" "[I" ∈ wsGA := List.mem_of_getElem? (i := 74) (by decide +kernel)
theorem mGA_75 : Cond.code yX9_withLean cX9_withLean 4 (some .int) ∈ wsGA := List.mem_of_getElem? (i := 75) (by decide +kernel)
theorem mGA_76 : Cond.methodLink RX9 89 yX9_withLean ∈ wsGA := List.mem_of_getElem? (i := 76) (by decide +kernel)
theorem mGA_77 : Cond.instanceMethod yX9_withLean ∈ wsGA := List.mem_of_getElem? (i := 77) (by decide +kernel)
theorem mGA_78 : Cond.selects RX9 yX9_withLean yX9_withLean ∈ wsGA := List.mem_of_getElem? (i := 78) (by decide +kernel)
theorem mGA_79 : Cond.initialized RX9 ∈ wsGA := List.mem_of_getElem? (i := 79) (by decide +kernel)
theorem mGA_80 : Cond.code yX9_withFull cX9_withFull 4 (some .int) ∈ wsGA := List.mem_of_getElem? (i := 80) (by decide +kernel)
theorem mGA_81 : Cond.methodLink RX9 86 yX9_withFull ∈ wsGA := List.mem_of_getElem? (i := 81) (by decide +kernel)
theorem mGA_82 : Cond.instanceMethod yX9_withFull ∈ wsGA := List.mem_of_getElem? (i := 82) (by decide +kernel)
theorem mGA_83 : Cond.selects RX9 yX9_withFull yX9_withFull ∈ wsGA := List.mem_of_getElem? (i := 83) (by decide +kernel)
theorem mGA_84 : Cond.fieldLink RX9 27 "SightedMonths$Tally" "months" "I" ∈ wsGA := List.mem_of_getElem? (i := 84) (by decide +kernel)
theorem mGA_85 : Cond.methodLink RX9 52 yX3_allows ∈ wsGA := List.mem_of_getElem? (i := 85) (by decide +kernel)
theorem mGA_86 : Cond.code yX9_takeOnWithLean cX9_takeOnWithLean 7 none ∈ wsGA := List.mem_of_getElem? (i := 86) (by decide +kernel)
theorem mGA_87 : Cond.methodLink RX9 60 yX9_takeOnWithLean ∈ wsGA := List.mem_of_getElem? (i := 87) (by decide +kernel)
theorem mGA_88 : Cond.instanceMethod yX9_takeOnWithLean ∈ wsGA := List.mem_of_getElem? (i := 88) (by decide +kernel)
theorem mGA_89 : Cond.selects RX9 yX9_takeOnWithLean yX9_takeOnWithLean ∈ wsGA := List.mem_of_getElem? (i := 89) (by decide +kernel)
theorem mGA_90 : Cond.code yX9_takeOnWithFull cX9_takeOnWithFull 7 none ∈ wsGA := List.mem_of_getElem? (i := 90) (by decide +kernel)
theorem mGA_91 : Cond.methodLink RX9 56 yX9_takeOnWithFull ∈ wsGA := List.mem_of_getElem? (i := 91) (by decide +kernel)
theorem mGA_92 : Cond.instanceMethod yX9_takeOnWithFull ∈ wsGA := List.mem_of_getElem? (i := 92) (by decide +kernel)
theorem mGA_93 : Cond.selects RX9 yX9_takeOnWithFull yX9_takeOnWithFull ∈ wsGA := List.mem_of_getElem? (i := 93) (by decide +kernel)
theorem mGA_94 : Cond.methodLink RX9 81 Lib.Math.min.name ∈ wsGA := List.mem_of_getElem? (i := 94) (by decide +kernel)
theorem mGA_95 : Cond.fieldLink RX9 21 "SightedMonths$Frame" "months" "I" ∈ wsGA := List.mem_of_getElem? (i := 95) (by decide +kernel)
theorem mGA_96 : Cond.fieldLink RX9 28 "SightedMonths$Frame" "full" "I" ∈ wsGA := List.mem_of_getElem? (i := 96) (by decide +kernel)
theorem mGA_97 : Cond.fieldLink RX9 32 "SightedMonths$Frame" "lean" "I" ∈ wsGA := List.mem_of_getElem? (i := 97) (by decide +kernel)
theorem mGA_98 : Cond.methodLink RX9 36 yJ7_fill_53178 ∈ wsGA := List.mem_of_getElem? (i := 98) (by decide +kernel)
theorem mGA_99 : Cond.code yX9_countBefore cX9_countBefore 4 none ∈ wsGA := List.mem_of_getElem? (i := 99) (by decide +kernel)
theorem mGA_100 : Cond.methodLink RX9 42 yX9_countBefore ∈ wsGA := List.mem_of_getElem? (i := 100) (by decide +kernel)
theorem mGA_101 : Cond.instanceMethod yX9_countBefore ∈ wsGA := List.mem_of_getElem? (i := 101) (by decide +kernel)
theorem mGA_102 : Cond.selects RX9 yX9_countBefore yX9_countBefore ∈ wsGA := List.mem_of_getElem? (i := 102) (by decide +kernel)
theorem mGA_103 : Cond.code yX9_countBehind cX9_countBehind 6 none ∈ wsGA := List.mem_of_getElem? (i := 103) (by decide +kernel)
theorem mGA_104 : Cond.methodLink RX9 46 yX9_countBehind ∈ wsGA := List.mem_of_getElem? (i := 104) (by decide +kernel)
theorem mGA_105 : Cond.instanceMethod yX9_countBehind ∈ wsGA := List.mem_of_getElem? (i := 105) (by decide +kernel)
theorem mGA_106 : Cond.selects RX9 yX9_countBehind yX9_countBehind ∈ wsGA := List.mem_of_getElem? (i := 106) (by decide +kernel)
theorem mGA_107 : Cond.code yX9_countStarts cX9_countStarts 6 none ∈ wsGA := List.mem_of_getElem? (i := 107) (by decide +kernel)
theorem mGA_108 : Cond.methodLink RX9 49 yX9_countStarts ∈ wsGA := List.mem_of_getElem? (i := 108) (by decide +kernel)
theorem mGA_109 : Cond.instanceMethod yX9_countStarts ∈ wsGA := List.mem_of_getElem? (i := 109) (by decide +kernel)
theorem mGA_110 : Cond.selects RX9 yX9_countStarts yX9_countStarts ∈ wsGA := List.mem_of_getElem? (i := 110) (by decide +kernel)
theorem mGA_111 : Cond.fieldLink RX4 15 "SightedMonths$History" "begins" "[I" ∈ wsGA := List.mem_of_getElem? (i := 111) (by decide +kernel)
theorem mGA_112 : Cond.fieldLink RX4 18 "SightedMonths$History" "eras" "I" ∈ wsGA := List.mem_of_getElem? (i := 112) (by decide +kernel)
theorem mGA_113 : Cond.code yX4_changesAt cX4_changesAt 3 (some .boolean) ∈ wsGA := List.mem_of_getElem? (i := 113) (by decide +kernel)
theorem mGA_114 : Cond.methodLink RX4 41 yX4_changesAt ∈ wsGA := List.mem_of_getElem? (i := 114) (by decide +kernel)
theorem mGA_115 : Cond.instanceMethod yX4_changesAt ∈ wsGA := List.mem_of_getElem? (i := 115) (by decide +kernel)
theorem mGA_116 : Cond.selects RX4 yX4_changesAt yX4_changesAt ∈ wsGA := List.mem_of_getElem? (i := 116) (by decide +kernel)
theorem mGA_117 : Cond.initialized RX4 ∈ wsGA := List.mem_of_getElem? (i := 117) (by decide +kernel)
theorem mGA_118 : Cond.fieldLink RX4 11 "SightedMonths$History" "since" "[I" ∈ wsGA := List.mem_of_getElem? (i := 118) (by decide +kernel)
theorem mGA_119 : Cond.fieldLink RX1 29 "SightedMonths$Court" "begins" "[I" ∈ wsGA := List.mem_of_getElem? (i := 119) (by decide +kernel)
theorem mGA_120 : Cond.fieldLink RX0 32 "SightedMonths$Almanac" "months" "I" ∈ wsGA := List.mem_of_getElem? (i := 120) (by decide +kernel)
theorem mGA_121 : Cond.fieldLink RX0 36 "SightedMonths$Almanac" "full" "I" ∈ wsGA := List.mem_of_getElem? (i := 121) (by decide +kernel)
theorem mGA_122 : Cond.fieldLink RX0 39 "SightedMonths$Almanac" "lean" "I" ∈ wsGA := List.mem_of_getElem? (i := 122) (by decide +kernel)
theorem mGA_123 : Cond.fieldLink RX0 42 "SightedMonths$Almanac" "lines" "I" ∈ wsGA := List.mem_of_getElem? (i := 123) (by decide +kernel)
theorem mGA_124 : Cond.fieldLink RX0 45 "SightedMonths$Almanac" "hasMoon" "Z" ∈ wsGA := List.mem_of_getElem? (i := 124) (by decide +kernel)
theorem mGA_125 : Cond.fieldLink RX0 49 "SightedMonths$Almanac" "moonStart" "I" ∈ wsGA := List.mem_of_getElem? (i := 125) (by decide +kernel)
theorem mGA_126 : Cond.fieldLink RX0 52 "SightedMonths$Almanac" "moonStep" "I" ∈ wsGA := List.mem_of_getElem? (i := 126) (by decide +kernel)
theorem mGA_127 : Cond.fieldLink RX0 55 "SightedMonths$Almanac" "placeCount" "I" ∈ wsGA := List.mem_of_getElem? (i := 127) (by decide +kernel)
theorem mGA_128 : Cond.fieldLink RX0 58 "SightedMonths$Almanac" "reportCount" "I" ∈ wsGA := List.mem_of_getElem? (i := 128) (by decide +kernel)
theorem mGA_129 : Cond.fieldLink RX0 61 "SightedMonths$Almanac" "deedCount" "I" ∈ wsGA := List.mem_of_getElem? (i := 129) (by decide +kernel)
theorem mGA_130 : Cond.fieldLink RX10 15 "SightedMonths$Tape" "length" "I" ∈ wsGA := List.mem_of_getElem? (i := 130) (by decide +kernel)
theorem mGA_131 : Cond.fieldLink RX10 9 "SightedMonths$Tape" "bytes" "[B" ∈ wsGA := List.mem_of_getElem? (i := 131) (by decide +kernel)
theorem jnGA_X3 : ∀ w ∈ wsX30, w ∈ wsGA := fun _ h => List.mem_append_left _ (List.mem_append_left _ (List.mem_append_left _ (List.mem_append_left _ (List.mem_append_left _ (List.mem_append_left _ (List.mem_append_left _ (List.mem_append_right _ h)))))))
theorem jnGA_X0 : ∀ w ∈ wsX00, w ∈ wsGA := fun _ h => List.mem_append_left _ (List.mem_append_left _ (List.mem_append_left _ (List.mem_append_left _ (List.mem_append_left _ (List.mem_append_left _ (List.mem_append_right _ h))))))
theorem jnGA_X7 : ∀ w ∈ wsX70, w ∈ wsGA := fun _ h => List.mem_append_left _ (List.mem_append_left _ (List.mem_append_left _ (List.mem_append_left _ (List.mem_append_left _ (List.mem_append_right _ h)))))
theorem jnGA_X8 : ∀ w ∈ wsX80, w ∈ wsGA := fun _ h => List.mem_append_left _ (List.mem_append_left _ (List.mem_append_left _ (List.mem_append_left _ (List.mem_append_right _ h))))
theorem jnGA_X9 : ∀ w ∈ wsX90, w ∈ wsGA := fun _ h => List.mem_append_left _ (List.mem_append_left _ (List.mem_append_left _ (List.mem_append_right _ h)))
theorem jnGA_X4 : ∀ w ∈ wsX40, w ∈ wsGA := fun _ h => List.mem_append_left _ (List.mem_append_left _ (List.mem_append_right _ h))
theorem jnGA_X1 : ∀ w ∈ wsX10, w ∈ wsGA := fun _ h => List.mem_append_left _ (List.mem_append_right _ h)
theorem jnGA_X10 : ∀ w ∈ wsX100, w ∈ wsGA := fun _ h => List.mem_append_right _ h
theorem goodGA : wsGA.all goodWord = true := by decide +kernel
def nzA (U : State) : Prop := va_Nw (.methodLinkNest RX11 11 yX6_init RX11) U ∧ va_Nw (.methodLinkNest RX6 11 yX10_init RX11) U ∧ va_Nw (.methodLinkNest RX0 29 yX5_init RX11) U ∧ va_Nw (.methodLinkNest RX0 30 yX7_init RX11) U ∧ va_Nw (.methodLinkNest RX0 31 yX2_init RX11) U ∧ va_Nw (.methodLinkNest RX11 28 yX3_init RX11) U ∧ va_Nw (.methodLinkNest RX11 35 yX1_init RX11) U ∧ va_Nw (.methodLinkNest RX1 11 yX3_init RX11) U ∧ va_Nw (.methodLinkNest RX11 45 yX9_init RX11) U ∧ va_Nw (.methodLinkNest RX11 52 yX8_init RX11) U ∧ va_Nw (.methodLinkNest RX11 59 yX4_init RX11) U ∧ va_Nw (.methodLinkNest RX3 48 yX11_firstRun RX11) U ∧ va_Nw (.methodLinkNest RX3 52 yX11_lastRun RX11) U ∧ va_Nw (.methodLinkNest RX3 56 yX11_runWithFull RX11) U ∧ va_Nw (.methodLinkNest RX3 60 yX11_runWithLean RX11) U ∧ va_Nw (.methodLinkNest RX3 63 yX11_dayOf RX11) U ∧ va_Nw (.methodLinkNest RX9 63 yX11_spot RX11) U ∧ va_Nw (.methodLinkNest RX9 67 yX11_firstRun RX11) U ∧ va_Nw (.methodLinkNest RX9 71 yX11_lastRun RX11) U ∧ va_Nw (.methodLinkNest RX9 74 yX11_runWithFull RX11) U ∧ va_Nw (.methodLinkNest RX9 78 yX11_runWithLean RX11) U ∧ va_Nw (.methodLinkNest RX9 92 yX11_cell RX11) U ∧ va_Nw (.methodLinkNest RX9 95 yX11_dayOf RX11) U ∧ va_Nw (.methodLinkNest RX8 24 yX11_cell RX11) U ∧ va_Nw (.methodLinkNest RX8 52 yX11_firstRun RX11) U ∧ va_Nw (.methodLinkNest RX8 56 yX11_lastRun RX11) U ∧ va_Nw (.methodLinkNest RX8 74 yX11_runWithFull RX11) U ∧ va_Nw (.methodLinkNest RX8 71 yX11_spot RX11) U ∧ va_Nw (.methodLinkNest RX8 77 yX11_runWithLean RX11) U ∧ va_Nw (.methodLinkNest RX2 23 yX11_anchorOf RX11) U ∧ va_Nw (.methodLinkNest RX2 29 yX11_offsetOf RX11) U ∧ va_AO RX5 U ∧ va_AO RX7 U ∧ va_AO RX2 U
theorem nzA_X11_11 {U : State} (h : nzA U) : va_Nw (.methodLinkNest RX11 11 yX6_init RX11) U := h.1
theorem nzA_X6_11 {U : State} (h : nzA U) : va_Nw (.methodLinkNest RX6 11 yX10_init RX11) U := h.2.1
theorem nzA_X0_29 {U : State} (h : nzA U) : va_Nw (.methodLinkNest RX0 29 yX5_init RX11) U := h.2.2.1
theorem nzA_X0_30 {U : State} (h : nzA U) : va_Nw (.methodLinkNest RX0 30 yX7_init RX11) U := h.2.2.2.1
theorem nzA_X0_31 {U : State} (h : nzA U) : va_Nw (.methodLinkNest RX0 31 yX2_init RX11) U := h.2.2.2.2.1
theorem nzA_X11_28 {U : State} (h : nzA U) : va_Nw (.methodLinkNest RX11 28 yX3_init RX11) U := h.2.2.2.2.2.1
theorem nzA_X11_35 {U : State} (h : nzA U) : va_Nw (.methodLinkNest RX11 35 yX1_init RX11) U := h.2.2.2.2.2.2.1
theorem nzA_X1_11 {U : State} (h : nzA U) : va_Nw (.methodLinkNest RX1 11 yX3_init RX11) U := h.2.2.2.2.2.2.2.1
theorem nzA_X11_45 {U : State} (h : nzA U) : va_Nw (.methodLinkNest RX11 45 yX9_init RX11) U := h.2.2.2.2.2.2.2.2.1
theorem nzA_X11_52 {U : State} (h : nzA U) : va_Nw (.methodLinkNest RX11 52 yX8_init RX11) U := h.2.2.2.2.2.2.2.2.2.1
theorem nzA_X11_59 {U : State} (h : nzA U) : va_Nw (.methodLinkNest RX11 59 yX4_init RX11) U := h.2.2.2.2.2.2.2.2.2.2.1
theorem nzA_X3_48 {U : State} (h : nzA U) : va_Nw (.methodLinkNest RX3 48 yX11_firstRun RX11) U := h.2.2.2.2.2.2.2.2.2.2.2.1
theorem nzA_X3_52 {U : State} (h : nzA U) : va_Nw (.methodLinkNest RX3 52 yX11_lastRun RX11) U := h.2.2.2.2.2.2.2.2.2.2.2.2.1
theorem nzA_X3_56 {U : State} (h : nzA U) : va_Nw (.methodLinkNest RX3 56 yX11_runWithFull RX11) U := h.2.2.2.2.2.2.2.2.2.2.2.2.2.1
theorem nzA_X3_60 {U : State} (h : nzA U) : va_Nw (.methodLinkNest RX3 60 yX11_runWithLean RX11) U := h.2.2.2.2.2.2.2.2.2.2.2.2.2.2.1
theorem nzA_X3_63 {U : State} (h : nzA U) : va_Nw (.methodLinkNest RX3 63 yX11_dayOf RX11) U := h.2.2.2.2.2.2.2.2.2.2.2.2.2.2.2.1
theorem nzA_X9_63 {U : State} (h : nzA U) : va_Nw (.methodLinkNest RX9 63 yX11_spot RX11) U := h.2.2.2.2.2.2.2.2.2.2.2.2.2.2.2.2.1
theorem nzA_X9_67 {U : State} (h : nzA U) : va_Nw (.methodLinkNest RX9 67 yX11_firstRun RX11) U := h.2.2.2.2.2.2.2.2.2.2.2.2.2.2.2.2.2.1
theorem nzA_X9_71 {U : State} (h : nzA U) : va_Nw (.methodLinkNest RX9 71 yX11_lastRun RX11) U := h.2.2.2.2.2.2.2.2.2.2.2.2.2.2.2.2.2.2.1
theorem nzA_X9_74 {U : State} (h : nzA U) : va_Nw (.methodLinkNest RX9 74 yX11_runWithFull RX11) U := h.2.2.2.2.2.2.2.2.2.2.2.2.2.2.2.2.2.2.2.1
theorem nzA_X9_78 {U : State} (h : nzA U) : va_Nw (.methodLinkNest RX9 78 yX11_runWithLean RX11) U := h.2.2.2.2.2.2.2.2.2.2.2.2.2.2.2.2.2.2.2.2.1
theorem nzA_X9_92 {U : State} (h : nzA U) : va_Nw (.methodLinkNest RX9 92 yX11_cell RX11) U := h.2.2.2.2.2.2.2.2.2.2.2.2.2.2.2.2.2.2.2.2.2.1
theorem nzA_X9_95 {U : State} (h : nzA U) : va_Nw (.methodLinkNest RX9 95 yX11_dayOf RX11) U := h.2.2.2.2.2.2.2.2.2.2.2.2.2.2.2.2.2.2.2.2.2.2.1
theorem nzA_X8_24 {U : State} (h : nzA U) : va_Nw (.methodLinkNest RX8 24 yX11_cell RX11) U := h.2.2.2.2.2.2.2.2.2.2.2.2.2.2.2.2.2.2.2.2.2.2.2.1
theorem nzA_X8_52 {U : State} (h : nzA U) : va_Nw (.methodLinkNest RX8 52 yX11_firstRun RX11) U := h.2.2.2.2.2.2.2.2.2.2.2.2.2.2.2.2.2.2.2.2.2.2.2.2.1
theorem nzA_X8_56 {U : State} (h : nzA U) : va_Nw (.methodLinkNest RX8 56 yX11_lastRun RX11) U := h.2.2.2.2.2.2.2.2.2.2.2.2.2.2.2.2.2.2.2.2.2.2.2.2.2.1
theorem nzA_X8_74 {U : State} (h : nzA U) : va_Nw (.methodLinkNest RX8 74 yX11_runWithFull RX11) U := h.2.2.2.2.2.2.2.2.2.2.2.2.2.2.2.2.2.2.2.2.2.2.2.2.2.2.1
theorem nzA_X8_71 {U : State} (h : nzA U) : va_Nw (.methodLinkNest RX8 71 yX11_spot RX11) U := h.2.2.2.2.2.2.2.2.2.2.2.2.2.2.2.2.2.2.2.2.2.2.2.2.2.2.2.1
theorem nzA_X8_77 {U : State} (h : nzA U) : va_Nw (.methodLinkNest RX8 77 yX11_runWithLean RX11) U := h.2.2.2.2.2.2.2.2.2.2.2.2.2.2.2.2.2.2.2.2.2.2.2.2.2.2.2.2.1
theorem nzA_X2_23 {U : State} (h : nzA U) : va_Nw (.methodLinkNest RX2 23 yX11_anchorOf RX11) U := h.2.2.2.2.2.2.2.2.2.2.2.2.2.2.2.2.2.2.2.2.2.2.2.2.2.2.2.2.2.1
theorem nzA_X2_29 {U : State} (h : nzA U) : va_Nw (.methodLinkNest RX2 29 yX11_offsetOf RX11) U := h.2.2.2.2.2.2.2.2.2.2.2.2.2.2.2.2.2.2.2.2.2.2.2.2.2.2.2.2.2.2.1
theorem nzA_ao_X5 {U : State} (h : nzA U) : va_AO RX5 U := h.2.2.2.2.2.2.2.2.2.2.2.2.2.2.2.2.2.2.2.2.2.2.2.2.2.2.2.2.2.2.2.1
theorem nzA_ao_X7 {U : State} (h : nzA U) : va_AO RX7 U := h.2.2.2.2.2.2.2.2.2.2.2.2.2.2.2.2.2.2.2.2.2.2.2.2.2.2.2.2.2.2.2.2.1
theorem nzA_ao_X2 {U : State} (h : nzA U) : va_AO RX2 U := h.2.2.2.2.2.2.2.2.2.2.2.2.2.2.2.2.2.2.2.2.2.2.2.2.2.2.2.2.2.2.2.2.2
theorem nzA_same {u U : State} (h : u.vm = U.vm) (hz : nzA u) : nzA U := ⟨va_Nw.same rfl h (nzA_X11_11 hz), va_Nw.same rfl h (nzA_X6_11 hz), va_Nw.same rfl h (nzA_X0_29 hz), va_Nw.same rfl h (nzA_X0_30 hz), va_Nw.same rfl h (nzA_X0_31 hz), va_Nw.same rfl h (nzA_X11_28 hz), va_Nw.same rfl h (nzA_X11_35 hz), va_Nw.same rfl h (nzA_X1_11 hz), va_Nw.same rfl h (nzA_X11_45 hz), va_Nw.same rfl h (nzA_X11_52 hz), va_Nw.same rfl h (nzA_X11_59 hz), va_Nw.same rfl h (nzA_X3_48 hz), va_Nw.same rfl h (nzA_X3_52 hz), va_Nw.same rfl h (nzA_X3_56 hz), va_Nw.same rfl h (nzA_X3_60 hz), va_Nw.same rfl h (nzA_X3_63 hz), va_Nw.same rfl h (nzA_X9_63 hz), va_Nw.same rfl h (nzA_X9_67 hz), va_Nw.same rfl h (nzA_X9_71 hz), va_Nw.same rfl h (nzA_X9_74 hz), va_Nw.same rfl h (nzA_X9_78 hz), va_Nw.same rfl h (nzA_X9_92 hz), va_Nw.same rfl h (nzA_X9_95 hz), va_Nw.same rfl h (nzA_X8_24 hz), va_Nw.same rfl h (nzA_X8_52 hz), va_Nw.same rfl h (nzA_X8_56 hz), va_Nw.same rfl h (nzA_X8_74 hz), va_Nw.same rfl h (nzA_X8_71 hz), va_Nw.same rfl h (nzA_X8_77 hz), va_Nw.same rfl h (nzA_X2_23 hz), va_Nw.same rfl h (nzA_X2_29 hz), va_AO.moved (h ▸ Vm.Alike.refl u.vm) (nzA_ao_X5 hz), va_AO.moved (h ▸ Vm.Alike.refl u.vm) (nzA_ao_X7 hz), va_AO.moved (h ▸ Vm.Alike.refl u.vm) (nzA_ao_X2 hz)⟩
theorem nzA_warm {s U : State} (hW : s.WarmedH U.vm) (hz : nzA s) : nzA U := ⟨va_Nw.warmM hW (nzA_X11_11 hz), va_Nw.warmM hW (nzA_X6_11 hz), va_Nw.warmM hW (nzA_X0_29 hz), va_Nw.warmM hW (nzA_X0_30 hz), va_Nw.warmM hW (nzA_X0_31 hz), va_Nw.warmM hW (nzA_X11_28 hz), va_Nw.warmM hW (nzA_X11_35 hz), va_Nw.warmM hW (nzA_X1_11 hz), va_Nw.warmM hW (nzA_X11_45 hz), va_Nw.warmM hW (nzA_X11_52 hz), va_Nw.warmM hW (nzA_X11_59 hz), va_Nw.warmM hW (nzA_X3_48 hz), va_Nw.warmM hW (nzA_X3_52 hz), va_Nw.warmM hW (nzA_X3_56 hz), va_Nw.warmM hW (nzA_X3_60 hz), va_Nw.warmM hW (nzA_X3_63 hz), va_Nw.warmM hW (nzA_X9_63 hz), va_Nw.warmM hW (nzA_X9_67 hz), va_Nw.warmM hW (nzA_X9_71 hz), va_Nw.warmM hW (nzA_X9_74 hz), va_Nw.warmM hW (nzA_X9_78 hz), va_Nw.warmM hW (nzA_X9_92 hz), va_Nw.warmM hW (nzA_X9_95 hz), va_Nw.warmM hW (nzA_X8_24 hz), va_Nw.warmM hW (nzA_X8_52 hz), va_Nw.warmM hW (nzA_X8_56 hz), va_Nw.warmM hW (nzA_X8_74 hz), va_Nw.warmM hW (nzA_X8_71 hz), va_Nw.warmM hW (nzA_X8_77 hz), va_Nw.warmM hW (nzA_X2_23 hz), va_Nw.warmM hW (nzA_X2_29 hz), va_AO.moved hW.alike (nzA_ao_X5 hz), va_AO.moved hW.alike (nzA_ao_X7 hz), va_AO.moved hW.alike (nzA_ao_X2 hz)⟩
