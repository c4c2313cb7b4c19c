theorem nL_108 : Cond.constantLong RL 108 (4294967295) ∈ wsL_law := List.mem_of_getElem? (i := 6) (by decide +kernel)
theorem kL_9 : Cond.methodLink RL 9 yX8_init ∈ wsL_law := List.mem_of_getElem? (i := 7) (by decide +kernel)
theorem kX8_1 : Cond.methodLink RX8 1 objectInit ∈ wsL_law := List.mem_of_getElem? (i := 10) (by decide +kernel)
theorem fX8_10 : FL RX8 10 8 0 := ⟨RX8, TX8, 12, tyX8, rfl, by decide, inlX8, List.mem_of_getElem? (i := 16) (by decide +kernel), tyX8_ok, nmX8⟩
theorem fX8_16 : FL RX8 16 8 1 := ⟨RX8, TX8, 12, tyX8, rfl, by decide, inlX8, List.mem_of_getElem? (i := 17) (by decide +kernel), tyX8_ok, nmX8⟩
theorem fX8_19 : FL RX8 19 8 2 := ⟨RX8, TX8, 12, tyX8, rfl, by decide, inlX8, List.mem_of_getElem? (i := 18) (by decide +kernel), tyX8_ok, nmX8⟩
theorem fX8_22 : FL RX8 22 8 3 := ⟨RX8, TX8, 12, tyX8, rfl, by decide, inlX8, List.mem_of_getElem? (i := 19) (by decide +kernel), tyX8_ok, nmX8⟩
theorem fX8_25 : FL RX8 25 8 4 := ⟨RX8, TX8, 12, tyX8, rfl, by decide, inlX8, List.mem_of_getElem? (i := 20) (by decide +kernel), tyX8_ok, nmX8⟩
theorem fX8_31 : FL RX8 31 8 5 := ⟨RX8, TX8, 12, tyX8, rfl, by decide, inlX8, List.mem_of_getElem? (i := 24) (by decide +kernel), tyX8_ok, nmX8⟩
theorem fX8_38 : FL RX8 38 8 6 := ⟨RX8, TX8, 12, tyX8, rfl, by decide, inlX8, List.mem_of_getElem? (i := 28) (by decide +kernel), tyX8_ok, nmX8⟩
theorem fX8_45 : FL RX8 45 8 7 := ⟨RX8, TX8, 12, tyX8, rfl, by decide, inlX8, List.mem_of_getElem? (i := 32) (by decide +kernel), tyX8_ok, nmX8⟩
theorem fX8_52 : FL RX8 52 8 8 := ⟨RX8, TX8, 12, tyX8, rfl, by decide, inlX8, List.mem_of_getElem? (i := 36) (by decide +kernel), tyX8_ok, nmX8⟩
theorem fX8_59 : FL RX8 59 8 9 := ⟨RX8, TX8, 12, tyX8, rfl, by decide, inlX8, List.mem_of_getElem? (i := 40) (by decide +kernel), tyX8_ok, nmX8⟩
theorem fX8_66 : FL RX8 66 8 10 := ⟨RX8, TX8, 12, tyX8, rfl, by decide, inlX8, List.mem_of_getElem? (i := 44) (by decide +kernel), tyX8_ok, nmX8⟩
theorem fX8_70 : FL RX8 70 8 11 := ⟨RX8, TX8, 12, tyX8, rfl, by decide, inlX8, List.mem_of_getElem? (i := 45) (by decide +kernel), tyX8_ok, nmX8⟩
theorem pX8_70 : FP RX8 70 8 11 (.long) := ⟨RX8, TX8, 12, tyX8, rfl, by decide, inlX8, List.mem_of_getElem? (i := 45) (by decide +kernel), tyX8_ok, nmX8, rfl, rfl⟩
theorem kX6_3 : Cond.methodLink RX6 3 objectInit ∈ wsL_law := List.mem_of_getElem? (i := 48) (by decide +kernel)
theorem fX6_9 : FL RX6 9 6 0 := ⟨RX6, TX6, 3, tyX6, rfl, by decide, inlX6, List.mem_of_getElem? (i := 50) (by decide +kernel), tyX6_ok, nmX6⟩
theorem fX6_15 : FL RX6 15 6 1 := ⟨RX6, TX6, 3, tyX6, rfl, by decide, inlX6, List.mem_of_getElem? (i := 51) (by decide +kernel), tyX6_ok, nmX6⟩
theorem pX6_15 : FP RX6 15 6 1 (.int) := ⟨RX6, TX6, 3, tyX6, rfl, by decide, inlX6, List.mem_of_getElem? (i := 51) (by decide +kernel), tyX6_ok, nmX6, rfl, rfl⟩
theorem fX6_19 : FL RX6 19 6 2 := ⟨RX6, TX6, 3, tyX6, rfl, by decide, inlX6, List.mem_of_getElem? (i := 52) (by decide +kernel), tyX6_ok, nmX6⟩
theorem pX6_19 : FP RX6 19 6 2 (.boolean) := ⟨RX6, TX6, 3, tyX6, rfl, by decide, inlX6, List.mem_of_getElem? (i := 52) (by decide +kernel), tyX6_ok, nmX6, rfl, rfl⟩
theorem kX4_3 : Cond.methodLink RX4 3 objectInit ∈ wsL_law := List.mem_of_getElem? (i := 55) (by decide +kernel)
theorem fX4_9 : FL RX4 9 4 0 := ⟨RX4, TX4, 3, tyX4, rfl, by decide, inlX4, List.mem_of_getElem? (i := 56) (by decide +kernel), tyX4_ok, nmX4⟩
theorem fX4_15 : FL RX4 15 4 1 := ⟨RX4, TX4, 3, tyX4, rfl, by decide, inlX4, List.mem_of_getElem? (i := 57) (by decide +kernel), tyX4_ok, nmX4⟩
theorem fX4_18 : FL RX4 18 4 2 := ⟨RX4, TX4, 3, tyX4, rfl, by decide, inlX4, List.mem_of_getElem? (i := 58) (by decide +kernel), tyX4_ok, nmX4⟩
theorem pX4_18 : FP RX4 18 4 2 (.int) := ⟨RX4, TX4, 3, tyX4, rfl, by decide, inlX4, List.mem_of_getElem? (i := 58) (by decide +kernel), tyX4_ok, nmX4, rfl, rfl⟩
theorem kX5_3 : Cond.methodLink RX5 3 objectInit ∈ wsL_law := List.mem_of_getElem? (i := 61) (by decide +kernel)
theorem fX5_12 : FL RX5 12 5 0 := ⟨RX5, TX5, 3, tyX5, rfl, by decide, inlX5, List.mem_of_getElem? (i := 63) (by decide +kernel), tyX5_ok, nmX5⟩
theorem fX5_18 : FL RX5 18 5 1 := ⟨RX5, TX5, 3, tyX5, rfl, by decide, inlX5, List.mem_of_getElem? (i := 64) (by decide +kernel), tyX5_ok, nmX5⟩
theorem fX5_24 : FL RX5 24 5 2 := ⟨RX5, TX5, 3, tyX5, rfl, by decide, inlX5, List.mem_of_getElem? (i := 66) (by decide +kernel), tyX5_ok, nmX5⟩
theorem kX2_3 : Cond.methodLink RX2 3 objectInit ∈ wsL_law := List.mem_of_getElem? (i := 69) (by decide +kernel)
theorem fX2_12 : FL RX2 12 2 0 := ⟨RX2, TX2, 4, tyX2, rfl, by decide, inlX2, List.mem_of_getElem? (i := 73) (by decide +kernel), tyX2_ok, nmX2⟩
theorem pX2_12 : FP RX2 12 2 0 (.object "SubstitutionMachine$Extended") := ⟨RX2, TX2, 4, tyX2, rfl, by decide, inlX2, List.mem_of_getElem? (i := 73) (by decide +kernel), tyX2_ok, nmX2, rfl, rfl⟩
theorem fX2_18 : FL RX2 18 2 1 := ⟨RX2, TX2, 4, tyX2, rfl, by decide, inlX2, List.mem_of_getElem? (i := 74) (by decide +kernel), tyX2_ok, nmX2⟩
theorem pX2_18 : FP RX2 18 2 1 (.object "SubstitutionMachine$Extended") := ⟨RX2, TX2, 4, tyX2, rfl, by decide, inlX2, List.mem_of_getElem? (i := 74) (by decide +kernel), tyX2_ok, nmX2, rfl, rfl⟩
theorem fX2_21 : FL RX2 21 2 2 := ⟨RX2, TX2, 4, tyX2, rfl, by decide, inlX2, List.mem_of_getElem? (i := 75) (by decide +kernel), tyX2_ok, nmX2⟩
theorem fX2_25 : FL RX2 25 2 3 := ⟨RX2, TX2, 4, tyX2, rfl, by decide, inlX2, List.mem_of_getElem? (i := 76) (by decide +kernel), tyX2_ok, nmX2⟩
theorem pX2_25 : FP RX2 25 2 3 (.int) := ⟨RX2, TX2, 4, tyX2, rfl, by decide, inlX2, List.mem_of_getElem? (i := 76) (by decide +kernel), tyX2_ok, nmX2, rfl, rfl⟩
theorem kX0_3 : Cond.methodLink RX0 3 objectInit ∈ wsL_law := List.mem_of_getElem? (i := 79) (by decide +kernel)
theorem fX0_9 : FL RX0 9 0 0 := ⟨RX0, TX0, 5, tyX0, rfl, by decide, inlX0, List.mem_of_getElem? (i := 80) (by decide +kernel), tyX0_ok, nmX0⟩
theorem fX0_15 : FL RX0 15 0 1 := ⟨RX0, TX0, 5, tyX0, rfl, by decide, inlX0, List.mem_of_getElem? (i := 81) (by decide +kernel), tyX0_ok, nmX0⟩
theorem fX0_18 : FL RX0 18 0 2 := ⟨RX0, TX0, 5, tyX0, rfl, by decide, inlX0, List.mem_of_getElem? (i := 82) (by decide +kernel), tyX0_ok, nmX0⟩
theorem fX0_21 : FL RX0 21 0 3 := ⟨RX0, TX0, 5, tyX0, rfl, by decide, inlX0, List.mem_of_getElem? (i := 83) (by decide +kernel), tyX0_ok, nmX0⟩
theorem pX0_21 : FP RX0 21 0 3 (.int) := ⟨RX0, TX0, 5, tyX0, rfl, by decide, inlX0, List.mem_of_getElem? (i := 83) (by decide +kernel), tyX0_ok, nmX0, rfl, rfl⟩
theorem fX0_25 : FL RX0 25 0 4 := ⟨RX0, TX0, 5, tyX0, rfl, by decide, inlX0, List.mem_of_getElem? (i := 84) (by decide +kernel), tyX0_ok, nmX0⟩
theorem pX0_25 : FP RX0 25 0 4 (.boolean) := ⟨RX0, TX0, 5, tyX0, rfl, by decide, inlX0, List.mem_of_getElem? (i := 84) (by decide +kernel), tyX0_ok, nmX0, rfl, rfl⟩
theorem kX1_3 : Cond.methodLink RX1 3 objectInit ∈ wsL_law := List.mem_of_getElem? (i := 87) (by decide +kernel)
theorem fX1_11 : FL RX1 11 1 0 := ⟨RX1, TX1, 4, tyX1, rfl, by decide, inlX1, List.mem_of_getElem? (i := 89) (by decide +kernel), tyX1_ok, nmX1⟩
theorem fX1_16 : FL RX1 16 1 1 := ⟨RX1, TX1, 4, tyX1, rfl, by decide, inlX1, List.mem_of_getElem? (i := 90) (by decide +kernel), tyX1_ok, nmX1⟩
theorem fX1_20 : FL RX1 20 1 2 := ⟨RX1, TX1, 4, tyX1, rfl, by decide, inlX1, List.mem_of_getElem? (i := 91) (by decide +kernel), tyX1_ok, nmX1⟩
theorem pX1_20 : FP RX1 20 1 2 (.int) := ⟨RX1, TX1, 4, tyX1, rfl, by decide, inlX1, List.mem_of_getElem? (i := 91) (by decide +kernel), tyX1_ok, nmX1, rfl, rfl⟩
theorem fX1_24 : FL RX1 24 1 3 := ⟨RX1, TX1, 4, tyX1, rfl, by decide, inlX1, List.mem_of_getElem? (i := 92) (by decide +kernel), tyX1_ok, nmX1⟩
theorem pX1_24 : FP RX1 24 1 3 (.int) := ⟨RX1, TX1, 4, tyX1, rfl, by decide, inlX1, List.mem_of_getElem? (i := 92) (by decide +kernel), tyX1_ok, nmX1, rfl, rfl⟩
theorem kX7_3 : Cond.methodLink RX7 3 objectInit ∈ wsL_law := List.mem_of_getElem? (i := 95) (by decide +kernel)
theorem fX7_9 : FL RX7 9 7 0 := ⟨RX7, TX7, 2, tyX7, rfl, by decide, inlX7, List.mem_of_getElem? (i := 96) (by decide +kernel), tyX7_ok, nmX7⟩
theorem fX7_15 : FL RX7 15 7 1 := ⟨RX7, TX7, 2, tyX7, rfl, by decide, inlX7, List.mem_of_getElem? (i := 97) (by decide +kernel), tyX7_ok, nmX7⟩
theorem pX7_15 : FP RX7 15 7 1 (.int) := ⟨RX7, TX7, 2, tyX7, rfl, by decide, inlX7, List.mem_of_getElem? (i := 97) (by decide +kernel), tyX7_ok, nmX7, rfl, rfl⟩
theorem kX3_3 : Cond.methodLink RX3 3 objectInit ∈ wsL_law := List.mem_of_getElem? (i := 100) (by decide +kernel)
theorem fX3_9 : FL RX3 9 3 0 := ⟨RX3, TX3, 3, tyX3, rfl, by decide, inlX3, List.mem_of_getElem? (i := 101) (by decide +kernel), tyX3_ok, nmX3⟩
theorem fX3_15 : FL RX3 15 3 1 := ⟨RX3, TX3, 3, tyX3, rfl, by decide, inlX3, List.mem_of_getElem? (i := 102) (by decide +kernel), tyX3_ok, nmX3⟩
theorem fX3_18 : FL RX3 18 3 2 := ⟨RX3, TX3, 3, tyX3, rfl, by decide, inlX3, List.mem_of_getElem? (i := 103) (by decide +kernel), tyX3_ok, nmX3⟩
theorem pX3_18 : FP RX3 18 3 2 (.int) := ⟨RX3, TX3, 3, tyX3, rfl, by decide, inlX3, List.mem_of_getElem? (i := 103) (by decide +kernel), tyX3_ok, nmX3, rfl, rfl⟩
theorem kX8_74 : Cond.methodLink RX8 74 yX6_add ∈ wsL_law := List.mem_of_getElem? (i := 104) (by decide +kernel)
theorem kL_12 : Cond.methodLink RL 12 yX9_init ∈ wsL_law := List.mem_of_getElem? (i := 108) (by decide +kernel)
theorem kX9_1 : Cond.methodLink RX9 1 objectInit ∈ wsL_law := List.mem_of_getElem? (i := 111) (by decide +kernel)
theorem fX9_7 : FL RX9 7 9 1 := ⟨RX9, TX9, 23, tyX9, rfl, by decide, inlX9, List.mem_of_getElem? (i := 112) (by decide +kernel), tyX9_ok, nmX9⟩
theorem fX9_13 : FL RX9 13 9 3 := ⟨RX9, TX9, 23, tyX9, rfl, by decide, inlX9, List.mem_of_getElem? (i := 113) (by decide +kernel), tyX9_ok, nmX9⟩
theorem fX9_16 : FL RX9 16 9 4 := ⟨RX9, TX9, 23, tyX9, rfl, by decide, inlX9, List.mem_of_getElem? (i := 114) (by decide +kernel), tyX9_ok, nmX9⟩
theorem fX9_19 : FL RX9 19 9 5 := ⟨RX9, TX9, 23, tyX9, rfl, by decide, inlX9, List.mem_of_getElem? (i := 115) (by decide +kernel), tyX9_ok, nmX9⟩
theorem fX9_22 : FL RX9 22 9 6 := ⟨RX9, TX9, 23, tyX9, rfl, by decide, inlX9, List.mem_of_getElem? (i := 116) (by decide +kernel), tyX9_ok, nmX9⟩
theorem fX9_25 : FL RX9 25 9 7 := ⟨RX9, TX9, 23, tyX9, rfl, by decide, inlX9, List.mem_of_getElem? (i := 117) (by decide +kernel), tyX9_ok, nmX9⟩
theorem fX9_28 : FL RX9 28 9 9 := ⟨RX9, TX9, 23, tyX9, rfl, by decide, inlX9, List.mem_of_getElem? (i := 118) (by decide +kernel), tyX9_ok, nmX9⟩
theorem fX9_31 : FL RX9 31 9 10 := ⟨RX9, TX9, 23, tyX9, rfl, by decide, inlX9, List.mem_of_getElem? (i := 120) (by decide +kernel), tyX9_ok, nmX9⟩
theorem fX9_35 : FL RX9 35 9 12 := ⟨RX9, TX9, 23, tyX9, rfl, by decide, inlX9, List.mem_of_getElem? (i := 121) (by decide +kernel), tyX9_ok, nmX9⟩
theorem fX9_38 : FL RX9 38 9 13 := ⟨RX9, TX9, 23, tyX9, rfl, by decide, inlX9, List.mem_of_getElem? (i := 122) (by decide +kernel), tyX9_ok, nmX9⟩
theorem fX9_41 : FL RX9 41 9 15 := ⟨RX9, TX9, 23, tyX9, rfl, by decide, inlX9, List.mem_of_getElem? (i := 123) (by decide +kernel), tyX9_ok, nmX9⟩
theorem fX9_44 : FL RX9 44 9 16 := ⟨RX9, TX9, 23, tyX9, rfl, by decide, inlX9, List.mem_of_getElem? (i := 124) (by decide +kernel), tyX9_ok, nmX9⟩
theorem fX9_47 : FL RX9 47 9 17 := ⟨RX9, TX9, 23, tyX9, rfl, by decide, inlX9, List.mem_of_getElem? (i := 125) (by decide +kernel), tyX9_ok, nmX9⟩
theorem fX9_50 : FL RX9 50 9 18 := ⟨RX9, TX9, 23, tyX9, rfl, by decide, inlX9, List.mem_of_getElem? (i := 126) (by decide +kernel), tyX9_ok, nmX9⟩
theorem fX9_53 : FL RX9 53 9 19 := ⟨RX9, TX9, 23, tyX9, rfl, by decide, inlX9, List.mem_of_getElem? (i := 127) (by decide +kernel), tyX9_ok, nmX9⟩
theorem fX9_56 : FL RX9 56 9 21 := ⟨RX9, TX9, 23, tyX9, rfl, by decide, inlX9, List.mem_of_getElem? (i := 128) (by decide +kernel), tyX9_ok, nmX9⟩
theorem kL_13 : Cond.methodLink RL 13 yX8_append ∈ wsL_law := List.mem_of_getElem? (i := 129) (by decide +kernel)
theorem kX8_78 : Cond.methodLink RX8 78 yX7_put ∈ wsL_law := List.mem_of_getElem? (i := 133) (by decide +kernel)
theorem kX8_82 : Cond.methodLink RX8 82 yX7_length ∈ wsL_law := List.mem_of_getElem? (i := 137) (by decide +kernel)
theorem kL_17 : Cond.methodLink RL 17 yX9_append ∈ wsL_law := List.mem_of_getElem? (i := 141) (by decide +kernel)
theorem fX9_59 : FL RX9 59 9 0 := ⟨RX9, TX9, 23, tyX9, rfl, by decide, inlX9, List.mem_of_getElem? (i := 145) (by decide +kernel), tyX9_ok, nmX9⟩
theorem pX9_59 : FP RX9 59 9 0 (.int) := ⟨RX9, TX9, 23, tyX9, rfl, by decide, inlX9, List.mem_of_getElem? (i := 145) (by decide +kernel), tyX9_ok, nmX9, rfl, rfl⟩
theorem nX9_112 : Cond.constantLong RX9 112 (255) ∈ wsL_law := List.mem_of_getElem? (i := 146) (by decide +kernel)
theorem fX9_118 : FL RX9 118 9 2 := ⟨RX9, TX9, 23, tyX9, rfl, by decide, inlX9, List.mem_of_getElem? (i := 147) (by decide +kernel), tyX9_ok, nmX9⟩
theorem pX9_118 : FP RX9 118 9 2 (.int) := ⟨RX9, TX9, 23, tyX9, rfl, by decide, inlX9, List.mem_of_getElem? (i := 147) (by decide +kernel), tyX9_ok, nmX9, rfl, rfl⟩
theorem kX9_114 : Cond.methodLink RX9 114 yX9_in ∈ wsL_law := List.mem_of_getElem? (i := 148) (by decide +kernel)
theorem kL_18 : Cond.methodLink RL 18 yX8_clearText ∈ wsL_law := List.mem_of_getElem? (i := 151) (by decide +kernel)
theorem kX8_86 : Cond.methodLink RX8 86 yX7_clear ∈ wsL_law := List.mem_of_getElem? (i := 155) (by decide +kernel)
theorem kL_22 : Cond.methodLink RL 22 yX9_clearText ∈ wsL_law := List.mem_of_getElem? (i := 159) (by decide +kernel)
theorem kL_23 : Cond.methodLink RL 23 yX8_errorPosition ∈ wsL_law := List.mem_of_getElem? (i := 163) (by decide +kernel)
theorem kX8_89 : Cond.methodLink RX8 89 yX7_firstError ∈ wsL_law := List.mem_of_getElem? (i := 167) (by decide +kernel)
theorem kX7_19 : Cond.methodLink RX7 19 yX7_tokenOf ∈ wsL_law := List.mem_of_getElem? (i := 171) (by decide +kernel)
theorem kL_26 : Cond.methodLink RL 26 yX9_errorPosition ∈ wsL_law := List.mem_of_getElem? (i := 176) (by decide +kernel)
theorem kX9_125 : Cond.methodLink RX9 125 yX9_tokenOf ∈ wsL_law := List.mem_of_getElem? (i := 180) (by decide +kernel)
theorem nX9_121 : Cond.constantLong RX9 121 (48) ∈ wsL_law := List.mem_of_getElem? (i := 183) (by decide +kernel)
theorem nX9_123 : Cond.constantLong RX9 123 (57) ∈ wsL_law := List.mem_of_getElem? (i := 184) (by decide +kernel)
theorem kX9_64 : Cond.methodLink RX9 64 yX9_parts ∈ wsL_law := List.mem_of_getElem? (i := 185) (by decide +kernel)
theorem nX9_63 : Cond.constant RX9 63 (1000000) ∈ wsL_law := List.mem_of_getElem? (i := 188) (by decide +kernel)
theorem kL_27 : Cond.methodLink RL 27 yX8_load ∈ wsL_law := List.mem_of_getElem? (i := 189) (by decide +kernel)
theorem kX8_92 : Cond.methodLink RX8 92 yX7_writeTo ∈ wsL_law := List.mem_of_getElem? (i := 193) (by decide +kernel)
theorem kX7_26 : Cond.methodLink RX7 26 yX6_clear ∈ wsL_law := List.mem_of_getElem? (i := 197) (by decide +kernel)
theorem kX7_31 : Cond.methodLink RX7 31 yX6_add ∈ wsL_law := List.mem_of_getElem? (i := 201) (by decide +kernel)
theorem kX8_96 : Cond.methodLink RX8 96 yX1_forgetAll ∈ wsL_law := List.mem_of_getElem? (i := 202) (by decide +kernel)
theorem kX8_99 : Cond.methodLink RX8 99 yX6_clear ∈ wsL_law := List.mem_of_getElem? (i := 206) (by decide +kernel)
theorem kX8_100 : Cond.methodLink RX8 100 yX6_length ∈ wsL_law := List.mem_of_getElem? (i := 207) (by decide +kernel)
theorem kL_30 : Cond.methodLink RL 30 yX9_load ∈ wsL_law := List.mem_of_getElem? (i := 211) (by decide +kernel)
theorem fX9_132 : FL RX9 132 9 8 := ⟨RX9, TX9, 23, tyX9, rfl, by decide, inlX9, List.mem_of_getElem? (i := 215) (by decide +kernel), tyX9_ok, nmX9⟩
theorem pX9_132 : FP RX9 132 9 8 (.int) := ⟨RX9, TX9, 23, tyX9, rfl, by decide, inlX9, List.mem_of_getElem? (i := 215) (by decide +kernel), tyX9_ok, nmX9, rfl, rfl⟩
theorem kX9_128 : Cond.methodLink RX9 128 yX9_errorPosition ∈ wsL_law := List.mem_of_getElem? (i := 216) (by decide +kernel)
theorem kL_31 : Cond.methodLink RL 31 yX8_size ∈ wsL_law := List.mem_of_getElem? (i := 217) (by decide +kernel)
theorem kL_34 : Cond.methodLink RL 34 yX9_size ∈ wsL_law := List.mem_of_getElem? (i := 221) (by decide +kernel)
theorem kL_35 : Cond.methodLink RL 35 yX8_tokenAt ∈ wsL_law := List.mem_of_getElem? (i := 225) (by decide +kernel)
theorem kX8_101 : Cond.methodLink RX8 101 yX6_has ∈ wsL_law := List.mem_of_getElem? (i := 229) (by decide +kernel)
theorem kX8_104 : Cond.methodLink RX8 104 yX6_token ∈ wsL_law := List.mem_of_getElem? (i := 233) (by decide +kernel)
theorem kL_38 : Cond.methodLink RL 38 yX9_tokenAt ∈ wsL_law := List.mem_of_getElem? (i := 237) (by decide +kernel)
theorem kL_39 : Cond.methodLink RL 39 yX8_nameAt ∈ wsL_law := List.mem_of_getElem? (i := 241) (by decide +kernel)
theorem kX8_108 : Cond.methodLink RX8 108 yX4_measure ∈ wsL_law := List.mem_of_getElem? (i := 245) (by decide +kernel)
theorem kX4_27 : Cond.methodLink RX4 27 Lib.Math.min.name ∈ wsL_law := List.mem_of_getElem? (i := 249) (by decide +kernel)
theorem kX4_22 : Cond.methodLink RX4 22 yX6_length ∈ wsL_law := List.mem_of_getElem? (i := 253) (by decide +kernel)
theorem kX4_33 : Cond.methodLink RX4 33 yX4_measureEnds ∈ wsL_law := List.mem_of_getElem? (i := 254) (by decide +kernel)
theorem kX4_40 : Cond.methodLink RX4 40 yX6_token ∈ wsL_law := List.mem_of_getElem? (i := 258) (by decide +kernel)
theorem kX4_44 : Cond.methodLink RX4 44 yX4_endAt ∈ wsL_law := List.mem_of_getElem? (i := 259) (by decide +kernel)
theorem kX4_37 : Cond.methodLink RX4 37 yX4_measureDepths ∈ wsL_law := List.mem_of_getElem? (i := 263) (by decide +kernel)
theorem kX4_47 : Cond.methodLink RX4 47 yX4_setDepth ∈ wsL_law := List.mem_of_getElem? (i := 267) (by decide +kernel)
theorem kX8_111 : Cond.methodLink RX8 111 yX4_depthAt ∈ wsL_law := List.mem_of_getElem? (i := 271) (by decide +kernel)
theorem kL_42 : Cond.methodLink RL 42 yX9_nameAt ∈ wsL_law := List.mem_of_getElem? (i := 275) (by decide +kernel)
theorem kX9_86 : Cond.methodLink RX9 86 yX9_layDepths ∈ wsL_law := List.mem_of_getElem? (i := 279) (by decide +kernel)
theorem kX9_68 : Cond.methodLink RX9 68 yX9_isVariable ∈ wsL_law := List.mem_of_getElem? (i := 283) (by decide +kernel)
theorem kL_43 : Cond.methodLink RL 43 yX8_redexCount ∈ wsL_law := List.mem_of_getElem? (i := 286) (by decide +kernel)
theorem kX8_114 : Cond.methodLink RX8 114 yX5_countRedexes ∈ wsL_law := List.mem_of_getElem? (i := 290) (by decide +kernel)
theorem kX5_32 : Cond.methodLink RX5 32 yX6_length ∈ wsL_law := List.mem_of_getElem? (i := 293) (by decide +kernel)
theorem kX5_36 : Cond.methodLink RX5 36 yX5_isRedex ∈ wsL_law := List.mem_of_getElem? (i := 294) (by decide +kernel)
theorem kX5_28 : Cond.methodLink RX5 28 yX6_token ∈ wsL_law := List.mem_of_getElem? (i := 297) (by decide +kernel)
theorem kL_46 : Cond.methodLink RL 46 yX9_redexCount ∈ wsL_law := List.mem_of_getElem? (i := 298) (by decide +kernel)
theorem kX9_108 : Cond.methodLink RX9 108 yX9_redexes ∈ wsL_law := List.mem_of_getElem? (i := 302) (by decide +kernel)
theorem kX9_72 : Cond.methodLink RX9 72 yX9_isRedex ∈ wsL_law := List.mem_of_getElem? (i := 305) (by decide +kernel)
theorem kL_47 : Cond.methodLink RL 47 yX8_chosenRedex ∈ wsL_law := List.mem_of_getElem? (i := 308) (by decide +kernel)
theorem kX8_118 : Cond.methodLink RX8 118 yX8_isStrategy ∈ wsL_law := List.mem_of_getElem? (i := 312) (by decide +kernel)
theorem kX8_121 : Cond.methodLink RX8 121 yX5_choose ∈ wsL_law := List.mem_of_getElem? (i := 315) (by decide +kernel)
theorem kX5_40 : Cond.methodLink RX5 40 yX5_nextRedex ∈ wsL_law := List.mem_of_getElem? (i := 318) (by decide +kernel)
theorem kX5_44 : Cond.methodLink RX5 44 yX5_leftmostInnermost ∈ wsL_law := List.mem_of_getElem? (i := 321) (by decide +kernel)
theorem kX5_48 : Cond.methodLink RX5 48 yX5_lastRedex ∈ wsL_law := List.mem_of_getElem? (i := 324) (by decide +kernel)
theorem kX5_51 : Cond.methodLink RX5 51 yX5_weakHead ∈ wsL_law := List.mem_of_getElem? (i := 327) (by decide +kernel)
theorem kL_50 : Cond.methodLink RL 50 yX9_chosenRedex ∈ wsL_law := List.mem_of_getElem? (i := 330) (by decide +kernel)
theorem nX9_135 : Cond.constantLong RX9 135 (3) ∈ wsL_law := List.mem_of_getElem? (i := 334) (by decide +kernel)
theorem kX9_94 : Cond.methodLink RX9 94 yX9_choose ∈ wsL_law := List.mem_of_getElem? (i := 335) (by decide +kernel)
theorem kX9_80 : Cond.methodLink RX9 80 yX9_isInnermost ∈ wsL_law := List.mem_of_getElem? (i := 338) (by decide +kernel)
theorem kX9_76 : Cond.methodLink RX9 76 yX9_end ∈ wsL_law := List.mem_of_getElem? (i := 341) (by decide +kernel)
theorem kL_51 : Cond.methodLink RL 51 yX8_freeVariables ∈ wsL_law := List.mem_of_getElem? (i := 344) (by decide +kernel)
theorem kX8_125 : Cond.methodLink RX8 125 yX8_isVariable ∈ wsL_law := List.mem_of_getElem? (i := 348) (by decide +kernel)
theorem kL_54 : Cond.methodLink RL 54 yX9_freeVariables ∈ wsL_law := List.mem_of_getElem? (i := 351) (by decide +kernel)
theorem kL_55 : Cond.methodLink RL 55 yX8_step ∈ wsL_law := List.mem_of_getElem? (i := 355) (by decide +kernel)
theorem kX8_128 : Cond.methodLink RX8 128 yX6_copyFrom ∈ wsL_law := List.mem_of_getElem? (i := 359) (by decide +kernel)
theorem kX6_23 : Cond.methodLink RX6 23 arraycopyName ∈ wsL_law := List.mem_of_getElem? (i := 363) (by decide +kernel)
theorem kX8_131 : Cond.methodLink RX8 131 yX5_contract ∈ wsL_law := List.mem_of_getElem? (i := 367) (by decide +kernel)
theorem kX5_63 : Cond.methodLink RX5 63 yX4_measure ∈ wsL_law := List.mem_of_getElem? (i := 371) (by decide +kernel)
theorem kX5_67 : Cond.methodLink RX5 67 yX4_endAt ∈ wsL_law := List.mem_of_getElem? (i := 372) (by decide +kernel)
theorem kX5_70 : Cond.methodLink RX5 70 yX6_clear ∈ wsL_law := List.mem_of_getElem? (i := 373) (by decide +kernel)
theorem kX5_73 : Cond.methodLink RX5 73 yX6_addRange ∈ wsL_law := List.mem_of_getElem? (i := 374) (by decide +kernel)
theorem kX5_77 : Cond.methodLink RX5 77 yX5_addContracted ∈ wsL_law := List.mem_of_getElem? (i := 378) (by decide +kernel)
theorem kX5_85 : Cond.methodLink RX5 85 yX4_depthAt ∈ wsL_law := List.mem_of_getElem? (i := 382) (by decide +kernel)
theorem kX5_88 : Cond.methodLink RX5 88 yX6_isTooLarge ∈ wsL_law := List.mem_of_getElem? (i := 383) (by decide +kernel)
theorem kX5_96 : Cond.methodLink RX5 96 yX6_add ∈ wsL_law := List.mem_of_getElem? (i := 387) (by decide +kernel)
theorem kX5_100 : Cond.methodLink RX5 100 yX5_addShifted ∈ wsL_law := List.mem_of_getElem? (i := 388) (by decide +kernel)
theorem kX5_81 : Cond.methodLink RX5 81 yX5_takeResult ∈ wsL_law := List.mem_of_getElem? (i := 392) (by decide +kernel)
theorem kX5_104 : Cond.methodLink RX5 104 yX6_copyFrom ∈ wsL_law := List.mem_of_getElem? (i := 396) (by decide +kernel)
theorem kX8_135 : Cond.methodLink RX8 135 yX8_actWithCopy ∈ wsL_law := List.mem_of_getElem? (i := 397) (by decide +kernel)
theorem kX8_218 : Cond.methodLink RX8 218 yX1_remember ∈ wsL_law := List.mem_of_getElem? (i := 401) (by decide +kernel)
theorem kX1_33 : Cond.methodLink RX1 33 Lib.Math.min.name ∈ wsL_law := List.mem_of_getElem? (i := 405) (by decide +kernel)
theorem kX1_27 : Cond.methodLink RX1 27 yX6_length ∈ wsL_law := List.mem_of_getElem? (i := 406) (by decide +kernel)
theorem kX1_39 : Cond.methodLink RX1 39 yX6_token ∈ wsL_law := List.mem_of_getElem? (i := 407) (by decide +kernel)
theorem kL_58 : Cond.methodLink RL 58 yX9_step ∈ wsL_law := List.mem_of_getElem? (i := 408) (by decide +kernel)
theorem kX9_97 : Cond.methodLink RX9 97 yX9_contract ∈ wsL_law := List.mem_of_getElem? (i := 412) (by decide +kernel)
theorem kX9_83 : Cond.methodLink RX9 83 yX9_put ∈ wsL_law := List.mem_of_getElem? (i := 416) (by decide +kernel)
theorem kX9_90 : Cond.methodLink RX9 90 yX9_putShifted ∈ wsL_law := List.mem_of_getElem? (i := 420) (by decide +kernel)
theorem kX9_140 : Cond.methodLink RX9 140 yX9_commit ∈ wsL_law := List.mem_of_getElem? (i := 424) (by decide +kernel)
theorem kX9_137 : Cond.methodLink RX9 137 yX9_remember ∈ wsL_law := List.mem_of_getElem? (i := 428) (by decide +kernel)
theorem kX9_100 : Cond.methodLink RX9 100 yX9_assign ∈ wsL_law := List.mem_of_getElem? (i := 432) (by decide +kernel)
theorem kL_59 : Cond.methodLink RL 59 yX8_run ∈ wsL_law := List.mem_of_getElem? (i := 435) (by decide +kernel)
theorem kX8_138 : Cond.methodLink RX8 138 yX5_perform ∈ wsL_law := List.mem_of_getElem? (i := 439) (by decide +kernel)
theorem kX5_57 : Cond.methodLink RX5 57 yX5_choose ∈ wsL_law := List.mem_of_getElem? (i := 443) (by decide +kernel)
theorem kX5_60 : Cond.methodLink RX5 60 yX5_contract ∈ wsL_law := List.mem_of_getElem? (i := 444) (by decide +kernel)
theorem kL_63 : Cond.methodLink RL 63 yX9_run ∈ wsL_law := List.mem_of_getElem? (i := 445) (by decide +kernel)
theorem nX9_143 : Cond.constantLong RX9 143 (50) ∈ wsL_law := List.mem_of_getElem? (i := 449) (by decide +kernel)
theorem kX9_104 : Cond.methodLink RX9 104 yX9_runOn ∈ wsL_law := List.mem_of_getElem? (i := 450) (by decide +kernel)
theorem kL_64 : Cond.methodLink RL 64 yX8_abstractTerm ∈ wsL_law := List.mem_of_getElem? (i := 454) (by decide +kernel)
theorem kX8_142 : Cond.methodLink RX8 142 yX6_wrapInAbstraction ∈ wsL_law := List.mem_of_getElem? (i := 458) (by decide +kernel)
theorem kL_67 : Cond.methodLink RL 67 yX9_abstractTerm ∈ wsL_law := List.mem_of_getElem? (i := 462) (by decide +kernel)
theorem kX9_145 : Cond.methodLink RX9 145 yX9_putBehind ∈ wsL_law := List.mem_of_getElem? (i := 466) (by decide +kernel)
theorem kL_68 : Cond.methodLink RL 68 yX8_applyTo ∈ wsL_law := List.mem_of_getElem? (i := 470) (by decide +kernel)
theorem kX8_146 : Cond.methodLink RX8 146 yX8_isSlot ∈ wsL_law := List.mem_of_getElem? (i := 474) (by decide +kernel)
theorem kX8_149 : Cond.methodLink RX8 149 yX8_slotTerm ∈ wsL_law := List.mem_of_getElem? (i := 477) (by decide +kernel)
theorem kX8_153 : Cond.methodLink RX8 153 yX6_addRange ∈ wsL_law := List.mem_of_getElem? (i := 481) (by decide +kernel)
theorem kX8_157 : Cond.methodLink RX8 157 yX6_isTooLarge ∈ wsL_law := List.mem_of_getElem? (i := 482) (by decide +kernel)
theorem kL_71 : Cond.methodLink RL 71 yX9_applyTo ∈ wsL_law := List.mem_of_getElem? (i := 483) (by decide +kernel)
theorem kX9_149 : Cond.methodLink RX9 149 yX9_takeSlot ∈ wsL_law := List.mem_of_getElem? (i := 487) (by decide +kernel)
theorem kL_72 : Cond.methodLink RL 72 yX8_substitute ∈ wsL_law := List.mem_of_getElem? (i := 491) (by decide +kernel)
theorem kX8_160 : Cond.methodLink RX8 160 yX5_replaceFree ∈ wsL_law := List.mem_of_getElem? (i := 495) (by decide +kernel)
theorem kL_75 : Cond.methodLink RL 75 yX9_substitute ∈ wsL_law := List.mem_of_getElem? (i := 499) (by decide +kernel)
theorem nX9_153 : Cond.constantLong RX9 153 (9) ∈ wsL_law := List.mem_of_getElem? (i := 503) (by decide +kernel)
theorem kL_76 : Cond.methodLink RL 76 yX8_undo ∈ wsL_law := List.mem_of_getElem? (i := 504) (by decide +kernel)
theorem kX8_164 : Cond.methodLink RX8 164 yX1_takeBack ∈ wsL_law := List.mem_of_getElem? (i := 508) (by decide +kernel)
theorem kX1_43 : Cond.methodLink RX1 43 yX6_clear ∈ wsL_law := List.mem_of_getElem? (i := 512) (by decide +kernel)
theorem kX1_46 : Cond.methodLink RX1 46 yX6_add ∈ wsL_law := List.mem_of_getElem? (i := 513) (by decide +kernel)
theorem kX8_168 : Cond.methodLink RX8 168 yX1_count ∈ wsL_law := List.mem_of_getElem? (i := 514) (by decide +kernel)
theorem kL_79 : Cond.methodLink RL 79 yX9_undo ∈ wsL_law := List.mem_of_getElem? (i := 518) (by decide +kernel)
theorem kL_80 : Cond.methodLink RL 80 yX8_stepsOfRun ∈ wsL_law := List.mem_of_getElem? (i := 522) (by decide +kernel)
theorem kX8_171 : Cond.methodLink RX8 171 yX8_isPrediction ∈ wsL_law := List.mem_of_getElem? (i := 526) (by decide +kernel)
theorem kX8_175 : Cond.methodLink RX8 175 yX8_performOnCopy ∈ wsL_law := List.mem_of_getElem? (i := 529) (by decide +kernel)
theorem kL_83 : Cond.methodLink RL 83 yX9_stepsOfRun ∈ wsL_law := List.mem_of_getElem? (i := 533) (by decide +kernel)
theorem nX9_155 : Cond.constantLong RX9 155 (200) ∈ wsL_law := List.mem_of_getElem? (i := 537) (by decide +kernel)
theorem kL_84 : Cond.methodLink RL 84 yX8_sizeAfterRun ∈ wsL_law := List.mem_of_getElem? (i := 538) (by decide +kernel)
theorem kL_87 : Cond.methodLink RL 87 yX9_sizeAfterRun ∈ wsL_law := List.mem_of_getElem? (i := 542) (by decide +kernel)
theorem kL_88 : Cond.methodLink RL 88 yX8_normalSize ∈ wsL_law := List.mem_of_getElem? (i := 546) (by decide +kernel)
theorem kX8_179 : Cond.methodLink RX8 179 yX8_normaliseInto ∈ wsL_law := List.mem_of_getElem? (i := 550) (by decide +kernel)
theorem kX8_221 : Cond.methodLink RX8 221 yX5_nextRedex ∈ wsL_law := List.mem_of_getElem? (i := 554) (by decide +kernel)
theorem kL_91 : Cond.methodLink RL 91 yX9_normalSize ∈ wsL_law := List.mem_of_getElem? (i := 555) (by decide +kernel)
theorem kX9_157 : Cond.methodLink RX9 157 yX9_normalize ∈ wsL_law := List.mem_of_getElem? (i := 559) (by decide +kernel)
theorem kL_92 : Cond.methodLink RL 92 yX8_normalTokenAt ∈ wsL_law := List.mem_of_getElem? (i := 563) (by decide +kernel)
theorem kL_95 : Cond.methodLink RL 95 yX9_normalTokenAt ∈ wsL_law := List.mem_of_getElem? (i := 567) (by decide +kernel)
theorem kL_96 : Cond.methodLink RL 96 yX8_isEquivalent ∈ wsL_law := List.mem_of_getElem? (i := 571) (by decide +kernel)
theorem kX8_183 : Cond.methodLink RX8 183 yX6_hasSameTokens ∈ wsL_law := List.mem_of_getElem? (i := 575) (by decide +kernel)
theorem kL_99 : Cond.methodLink RL 99 yX9_isEquivalent ∈ wsL_law := List.mem_of_getElem? (i := 579) (by decide +kernel)
theorem kL_100 : Cond.methodLink RL 100 yX8_machineSteps ∈ wsL_law := List.mem_of_getElem? (i := 583) (by decide +kernel)
theorem kX8_186 : Cond.methodLink RX8 186 yX2_work ∈ wsL_law := List.mem_of_getElem? (i := 587) (by decide +kernel)
theorem kX2_53 : Cond.methodLink RX2 53 Lib.Math.max.name ∈ wsL_law := List.mem_of_getElem? (i := 591) (by decide +kernel)
theorem kX2_29 : Cond.methodLink RX2 29 yX2_start ∈ wsL_law := List.mem_of_getElem? (i := 594) (by decide +kernel)
theorem kX2_59 : Cond.methodLink RX2 59 yX0_clear ∈ wsL_law := List.mem_of_getElem? (i := 598) (by decide +kernel)
theorem kX2_62 : Cond.methodLink RX2 62 yX6_length ∈ wsL_law := List.mem_of_getElem? (i := 602) (by decide +kernel)
theorem kX2_65 : Cond.methodLink RX2 65 yX6_token ∈ wsL_law := List.mem_of_getElem? (i := 603) (by decide +kernel)
theorem kX2_69 : Cond.methodLink RX2 69 yX0_add ∈ wsL_law := List.mem_of_getElem? (i := 604) (by decide +kernel)
theorem kX0_29 : Cond.methodLink RX0 29 yX0_put ∈ wsL_law := List.mem_of_getElem? (i := 608) (by decide +kernel)
theorem kX2_49 : Cond.methodLink RX2 49 yX0_length ∈ wsL_law := List.mem_of_getElem? (i := 612) (by decide +kernel)
theorem kX2_33 : Cond.methodLink RX2 33 yX2_firstPlace ∈ wsL_law := List.mem_of_getElem? (i := 616) (by decide +kernel)
theorem kX2_37 : Cond.methodLink RX2 37 yX2_ruleAt ∈ wsL_law := List.mem_of_getElem? (i := 620) (by decide +kernel)
theorem kX2_73 : Cond.methodLink RX2 73 yX0_token ∈ wsL_law := List.mem_of_getElem? (i := 624) (by decide +kernel)
theorem kX2_41 : Cond.methodLink RX2 41 yX2_rewrite ∈ wsL_law := List.mem_of_getElem? (i := 628) (by decide +kernel)
theorem kX2_74 : Cond.methodLink RX2 74 yX0_addRange ∈ wsL_law := List.mem_of_getElem? (i := 632) (by decide +kernel)
theorem kX0_33 : Cond.methodLink RX0 33 arraycopyName ∈ wsL_law := List.mem_of_getElem? (i := 636) (by decide +kernel)
theorem kX2_78 : Cond.methodLink RX2 78 yX2_writeBeta ∈ wsL_law := List.mem_of_getElem? (i := 637) (by decide +kernel)
theorem kX2_96 : Cond.methodLink RX2 96 yX0_addClosure ∈ wsL_law := List.mem_of_getElem? (i := 641) (by decide +kernel)
theorem kX2_93 : Cond.methodLink RX2 93 yX0_behind ∈ wsL_law := List.mem_of_getElem? (i := 645) (by decide +kernel)
theorem kX0_39 : Cond.methodLink RX0 39 yX0_token ∈ wsL_law := List.mem_of_getElem? (i := 649) (by decide +kernel)
theorem kX0_46 : Cond.methodLink RX0 46 yX0_entriesAt ∈ wsL_law := List.mem_of_getElem? (i := 650) (by decide +kernel)
theorem kX2_81 : Cond.methodLink RX2 81 yX2_writeApply ∈ wsL_law := List.mem_of_getElem? (i := 654) (by decide +kernel)
theorem kX2_99 : Cond.methodLink RX2 99 yX0_entriesAt ∈ wsL_law := List.mem_of_getElem? (i := 658) (by decide +kernel)
theorem kX2_102 : Cond.methodLink RX2 102 yX0_shiftAt ∈ wsL_law := List.mem_of_getElem? (i := 659) (by decide +kernel)
theorem kX2_84 : Cond.methodLink RX2 84 yX2_writeAbstract ∈ wsL_law := List.mem_of_getElem? (i := 663) (by decide +kernel)
theorem kX2_45 : Cond.methodLink RX2 45 yX0_isTooLarge ∈ wsL_law := List.mem_of_getElem? (i := 667) (by decide +kernel)
theorem kX2_87 : Cond.methodLink RX2 87 yX2_writeLookup ∈ wsL_law := List.mem_of_getElem? (i := 671) (by decide +kernel)
theorem kX2_90 : Cond.methodLink RX2 90 yX2_writeMerge ∈ wsL_law := List.mem_of_getElem? (i := 675) (by decide +kernel)
theorem kX2_105 : Cond.methodLink RX2 105 Lib.Math.min.name ∈ wsL_law := List.mem_of_getElem? (i := 679) (by decide +kernel)
theorem kX8_190 : Cond.methodLink RX8 190 yX2_applications ∈ wsL_law := List.mem_of_getElem? (i := 680) (by decide +kernel)
theorem kL_103 : Cond.methodLink RL 103 yX9_machineSteps ∈ wsL_law := List.mem_of_getElem? (i := 684) (by decide +kernel)
theorem nX9_189 : Cond.constantLong RX9 189 (4) ∈ wsL_law := List.mem_of_getElem? (i := 688) (by decide +kernel)
theorem kX9_191 : Cond.methodLink RX9 191 yX9_machine ∈ wsL_law := List.mem_of_getElem? (i := 689) (by decide +kernel)
theorem fX9_179 : FL RX9 179 9 22 := ⟨RX9, TX9, 23, tyX9, rfl, by decide, inlX9, List.mem_of_getElem? (i := 693) (by decide +kernel), tyX9_ok, nmX9⟩
theorem pX9_179 : FP RX9 179 9 22 (.int) := ⟨RX9, TX9, 23, tyX9, rfl, by decide, inlX9, List.mem_of_getElem? (i := 693) (by decide +kernel), tyX9_ok, nmX9, rfl, rfl⟩
theorem fX9_161 : FL RX9 161 9 20 := ⟨RX9, TX9, 23, tyX9, rfl, by decide, inlX9, List.mem_of_getElem? (i := 694) (by decide +kernel), tyX9_ok, nmX9⟩
theorem pX9_161 : FP RX9 161 9 20 (.boolean) := ⟨RX9, TX9, 23, tyX9, rfl, by decide, inlX9, List.mem_of_getElem? (i := 694) (by decide +kernel), tyX9_ok, nmX9, rfl, rfl⟩
theorem kX9_182 : Cond.methodLink RX9 182 yX9_ruleAt ∈ wsL_law := List.mem_of_getElem? (i := 695) (by decide +kernel)
theorem kX9_186 : Cond.methodLink RX9 186 yX9_apply ∈ wsL_law := List.mem_of_getElem? (i := 699) (by decide +kernel)
theorem nX9_173 : Cond.constant RX9 173 (1001000) ∈ wsL_law := List.mem_of_getElem? (i := 703) (by decide +kernel)
theorem nX9_174 : Cond.constant RX9 174 (1000001) ∈ wsL_law := List.mem_of_getElem? (i := 704) (by decide +kernel)
theorem kX9_169 : Cond.methodLink RX9 169 yX9_addPart ∈ wsL_law := List.mem_of_getElem? (i := 705) (by decide +kernel)
theorem kX9_165 : Cond.methodLink RX9 165 yX9_add ∈ wsL_law := List.mem_of_getElem? (i := 709) (by decide +kernel)
theorem kX9_175 : Cond.methodLink RX9 175 yX9_merge ∈ wsL_law := List.mem_of_getElem? (i := 713) (by decide +kernel)
theorem kL_104 : Cond.methodLink RL 104 yX8_machinePeak ∈ wsL_law := List.mem_of_getElem? (i := 717) (by decide +kernel)
theorem kX8_193 : Cond.methodLink RX8 193 yX2_peak ∈ wsL_law := List.mem_of_getElem? (i := 721) (by decide +kernel)
theorem kL_107 : Cond.methodLink RL 107 yX9_machinePeak ∈ wsL_law := List.mem_of_getElem? (i := 725) (by decide +kernel)
theorem kL_110 : Cond.methodLink RL 110 yX8_runScript ∈ wsL_law := List.mem_of_getElem? (i := 729) (by decide +kernel)
theorem nX8_200 : Cond.constantLong RX8 200 (1000) ∈ wsL_law := List.mem_of_getElem? (i := 733) (by decide +kernel)
theorem kX8_196 : Cond.methodLink RX8 196 yX8_withoutLowGroups ∈ wsL_law := List.mem_of_getElem? (i := 734) (by decide +kernel)
theorem kX8_202 : Cond.methodLink RX8 202 yX8_commandSucceeds ∈ wsL_law := List.mem_of_getElem? (i := 737) (by decide +kernel)
theorem kL_114 : Cond.methodLink RL 114 yX9_runScript ∈ wsL_law := List.mem_of_getElem? (i := 741) (by decide +kernel)
theorem nX9_195 : Cond.constantLong RX9 195 (1000) ∈ wsL_law := List.mem_of_getElem? (i := 745) (by decide +kernel)
theorem kX9_197 : Cond.methodLink RX9 197 yX9_thousands ∈ wsL_law := List.mem_of_getElem? (i := 746) (by decide +kernel)
theorem kX9_201 : Cond.methodLink RX9 201 yX9_command ∈ wsL_law := List.mem_of_getElem? (i := 749) (by decide +kernel)
theorem kL_115 : Cond.methodLink RL 115 yX8_observe ∈ wsL_law := List.mem_of_getElem? (i := 753) (by decide +kernel)
theorem kX8_205 : Cond.methodLink RX8 205 yX3_add ∈ wsL_law := List.mem_of_getElem? (i := 757) (by decide +kernel)
theorem kX3_22 : Cond.methodLink RX3 22 yX3_dropOldest ∈ wsL_law := List.mem_of_getElem? (i := 761) (by decide +kernel)
theorem kX8_208 : Cond.methodLink RX8 208 yX3_count ∈ wsL_law := List.mem_of_getElem? (i := 765) (by decide +kernel)
theorem kL_118 : Cond.methodLink RL 118 yX9_observe ∈ wsL_law := List.mem_of_getElem? (i := 769) (by decide +kernel)
theorem fX9_205 : FL RX9 205 9 11 := ⟨RX9, TX9, 23, tyX9, rfl, by decide, inlX9, List.mem_of_getElem? (i := 773) (by decide +kernel), tyX9_ok, nmX9⟩
theorem pX9_205 : FP RX9 205 9 11 (.int) := ⟨RX9, TX9, 23, tyX9, rfl, by decide, inlX9, List.mem_of_getElem? (i := 773) (by decide +kernel), tyX9_ok, nmX9, rfl, rfl⟩
theorem kL_119 : Cond.methodLink RL 119 yX8_forgetAfter ∈ wsL_law := List.mem_of_getElem? (i := 774) (by decide +kernel)
theorem kX8_209 : Cond.methodLink RX8 209 yX3_keepUpTo ∈ wsL_law := List.mem_of_getElem? (i := 778) (by decide +kernel)
theorem kL_122 : Cond.methodLink RL 122 yX9_forgetAfter ∈ wsL_law := List.mem_of_getElem? (i := 782) (by decide +kernel)
theorem kL_123 : Cond.methodLink RL 123 yX8_possibleStrategies ∈ wsL_law := List.mem_of_getElem? (i := 786) (by decide +kernel)
theorem kX8_212 : Cond.methodLink RX8 212 yX8_observationsHold ∈ wsL_law := List.mem_of_getElem? (i := 790) (by decide +kernel)
theorem kX8_227 : Cond.methodLink RX8 227 Lib.Math.min.name ∈ wsL_law := List.mem_of_getElem? (i := 794) (by decide +kernel)
theorem kX8_224 : Cond.methodLink RX8 224 yX3_greatestLimit ∈ wsL_law := List.mem_of_getElem? (i := 795) (by decide +kernel)
theorem kX3_25 : Cond.methodLink RX3 25 Lib.Math.max.name ∈ wsL_law := List.mem_of_getElem? (i := 799) (by decide +kernel)
theorem kX8_232 : Cond.methodLink RX8 232 yX3_allow ∈ wsL_law := List.mem_of_getElem? (i := 800) (by decide +kernel)
theorem kL_126 : Cond.methodLink RL 126 yX9_possibleStrategies ∈ wsL_law := List.mem_of_getElem? (i := 804) (by decide +kernel)
theorem kL_127 : Cond.methodLink RL 127 yX8_setSeed ∈ wsL_law := List.mem_of_getElem? (i := 808) (by decide +kernel)
theorem kL_131 : Cond.methodLink RL 131 yX9_setSeed ∈ wsL_law := List.mem_of_getElem? (i := 812) (by decide +kernel)
theorem fX9_208 : FL RX9 208 9 14 := ⟨RX9, TX9, 23, tyX9, rfl, by decide, inlX9, List.mem_of_getElem? (i := 816) (by decide +kernel), tyX9_ok, nmX9⟩
theorem pX9_208 : FP RX9 208 9 14 (.long) := ⟨RX9, TX9, 23, tyX9, rfl, by decide, inlX9, List.mem_of_getElem? (i := 816) (by decide +kernel), tyX9_ok, nmX9, rfl, rfl⟩
theorem kL_132 : Cond.methodLink RL 132 yX8_randomReduction ∈ wsL_law := List.mem_of_getElem? (i := 817) (by decide +kernel)
theorem kX8_215 : Cond.methodLink RX8 215 yX8_randomStepOnCopy ∈ wsL_law := List.mem_of_getElem? (i := 821) (by decide +kernel)
theorem nX8_235 : Cond.constantLong RX8 235 (6364136223846793005) ∈ wsL_law := List.mem_of_getElem? (i := 825) (by decide +kernel)
theorem nX8_237 : Cond.constantLong RX8 237 (1442695040888963407) ∈ wsL_law := List.mem_of_getElem? (i := 826) (by decide +kernel)
theorem kX8_239 : Cond.methodLink RX8 239 yX5_numberedRedex ∈ wsL_law := List.mem_of_getElem? (i := 827) (by decide +kernel)
theorem kL_135 : Cond.methodLink RL 135 yX9_randomReduction ∈ wsL_law := List.mem_of_getElem? (i := 830) (by decide +kernel)
theorem nX9_212 : Cond.constantLong RX9 212 (30) ∈ wsL_law := List.mem_of_getElem? (i := 834) (by decide +kernel)
theorem nX9_214 : Cond.constantLong RX9 214 (6364136223846793005) ∈ wsL_law := List.mem_of_getElem? (i := 835) (by decide +kernel)
theorem nX9_216 : Cond.constantLong RX9 216 (1442695040888963407) ∈ wsL_law := List.mem_of_getElem? (i := 836) (by decide +kernel)
theorem kX9_218 : Cond.methodLink RX9 218 yX9_redexNumber ∈ wsL_law := List.mem_of_getElem? (i := 837) (by decide +kernel)
theorem kL_136 : Cond.methodLink RL 136 yX8_save ∈ wsL_law := List.mem_of_getElem? (i := 840) (by decide +kernel)
theorem kL_139 : Cond.methodLink RL 139 yX9_save ∈ wsL_law := List.mem_of_getElem? (i := 844) (by decide +kernel)
theorem kL_140 : Cond.methodLink RL 140 yX8_restore ∈ wsL_law := List.mem_of_getElem? (i := 848) (by decide +kernel)
theorem kL_143 : Cond.methodLink RL 143 yX9_restore ∈ wsL_law := List.mem_of_getElem? (i := 852) (by decide +kernel)
-- yX8_init: no words of a call
-- yX6_init: no words of a call
-- yX4_init: no words of a call
-- yX5_init: no words of a call
-- yX2_init: no words of a call
-- yX0_init: no words of a call
-- yX1_init: no words of a call
-- yX7_init: no words of a call
-- yX3_init: no words of a call
theorem mX6_add : MV yX6_add cX6_add 2 (none) 1 := ⟨List.mem_of_getElem? (i := 107) (by decide +kernel), List.mem_of_getElem? (i := 15) (by decide +kernel), List.mem_of_getElem? (i := 105) (by decide +kernel), List.mem_of_getElem? (i := 106) (by decide +kernel), by decide +kernel, by decide +kernel, by decide +kernel⟩
-- yX9_init: no words of a call
theorem mX8_append : MV yX8_append cX8_append 2 ((some .int)) 1 := ⟨List.mem_of_getElem? (i := 132) (by decide +kernel), List.mem_of_getElem? (i := 2) (by decide +kernel), List.mem_of_getElem? (i := 130) (by decide +kernel), List.mem_of_getElem? (i := 131) (by decide +kernel), by decide +kernel, by decide +kernel, by decide +kernel⟩
theorem mX7_put : MV yX7_put cX7_put 2 ((some .boolean)) 1 := ⟨List.mem_of_getElem? (i := 136) (by decide +kernel), List.mem_of_getElem? (i := 39) (by decide +kernel), List.mem_of_getElem? (i := 134) (by decide +kernel), List.mem_of_getElem? (i := 135) (by decide +kernel), by decide +kernel, by decide +kernel, by decide +kernel⟩
theorem mX7_length : MV yX7_length cX7_length 1 ((some .int)) 0 := ⟨List.mem_of_getElem? (i := 140) (by decide +kernel), List.mem_of_getElem? (i := 39) (by decide +kernel), List.mem_of_getElem? (i := 138) (by decide +kernel), List.mem_of_getElem? (i := 139) (by decide +kernel), by decide +kernel, by decide +kernel, by decide +kernel⟩
theorem mX9_append : MV yX9_append cX9_append 2 ((some .int)) 1 := ⟨List.mem_of_getElem? (i := 144) (by decide +kernel), List.mem_of_getElem? (i := 5) (by decide +kernel), List.mem_of_getElem? (i := 142) (by decide +kernel), List.mem_of_getElem? (i := 143) (by decide +kernel), by decide +kernel, by decide +kernel, by decide +kernel⟩
theorem mX9_in : MS yX9_in cX9_in 6 ((some .boolean)) 3 := ⟨List.mem_of_getElem? (i := 150) (by decide +kernel), List.mem_of_getElem? (i := 5) (by decide +kernel), List.mem_of_getElem? (i := 149) (by decide +kernel), by decide +kernel, by decide +kernel, by decide +kernel⟩
theorem mX8_clearText : MV yX8_clearText cX8_clearText 2 ((some .int)) 0 := ⟨List.mem_of_getElem? (i := 154) (by decide +kernel), List.mem_of_getElem? (i := 2) (by decide +kernel), List.mem_of_getElem? (i := 152) (by decide +kernel), List.mem_of_getElem? (i := 153) (by decide +kernel), by decide +kernel, by decide +kernel, by decide +kernel⟩
theorem mX7_clear : MV yX7_clear cX7_clear 1 (none) 0 := ⟨List.mem_of_getElem? (i := 158) (by decide +kernel), List.mem_of_getElem? (i := 39) (by decide +kernel), List.mem_of_getElem? (i := 156) (by decide +kernel), List.mem_of_getElem? (i := 157) (by decide +kernel), by decide +kernel, by decide +kernel, by decide +kernel⟩
theorem mX9_clearText : MV yX9_clearText cX9_clearText 2 ((some .int)) 0 := ⟨List.mem_of_getElem? (i := 162) (by decide +kernel), List.mem_of_getElem? (i := 5) (by decide +kernel), List.mem_of_getElem? (i := 160) (by decide +kernel), List.mem_of_getElem? (i := 161) (by decide +kernel), by decide +kernel, by decide +kernel, by decide +kernel⟩
theorem mX8_errorPosition : MV yX8_errorPosition cX8_errorPosition 1 ((some .int)) 0 := ⟨List.mem_of_getElem? (i := 166) (by decide +kernel), List.mem_of_getElem? (i := 2) (by decide +kernel), List.mem_of_getElem? (i := 164) (by decide +kernel), List.mem_of_getElem? (i := 165) (by decide +kernel), by decide +kernel, by decide +kernel, by decide +kernel⟩
theorem mX7_firstError : MV yX7_firstError cX7_firstError 4 ((some .int)) 0 := ⟨List.mem_of_getElem? (i := 170) (by decide +kernel), List.mem_of_getElem? (i := 39) (by decide +kernel), List.mem_of_getElem? (i := 168) (by decide +kernel), List.mem_of_getElem? (i := 169) (by decide +kernel), by decide +kernel, by decide +kernel, by decide +kernel⟩
theorem mX7_tokenOf : MS yX7_tokenOf cX7_tokenOf 1 ((some .int)) 1 := ⟨List.mem_of_getElem? (i := 173) (by decide +kernel), List.mem_of_getElem? (i := 39) (by decide +kernel), List.mem_of_getElem? (i := 172) (by decide +kernel), by decide +kernel, by decide +kernel, by decide +kernel⟩
theorem mX8_parts : MS yX8_parts cX8_parts 1 ((some .int)) 1 := ⟨List.mem_of_getElem? (i := 175) (by decide +kernel), List.mem_of_getElem? (i := 2) (by decide +kernel), List.mem_of_getElem? (i := 174) (by decide +kernel), by decide +kernel, by decide +kernel, by decide +kernel⟩
theorem mX9_errorPosition : MV yX9_errorPosition cX9_errorPosition 4 ((some .int)) 0 := ⟨List.mem_of_getElem? (i := 179) (by decide +kernel), List.mem_of_getElem? (i := 5) (by decide +kernel), List.mem_of_getElem? (i := 177) (by decide +kernel), List.mem_of_getElem? (i := 178) (by decide +kernel), by decide +kernel, by decide +kernel, by decide +kernel⟩
theorem mX9_tokenOf : MS yX9_tokenOf cX9_tokenOf 1 ((some .int)) 1 := ⟨List.mem_of_getElem? (i := 182) (by decide +kernel), List.mem_of_getElem? (i := 5) (by decide +kernel), List.mem_of_getElem? (i := 181) (by decide +kernel), by decide +kernel, by decide +kernel, by decide +kernel⟩
theorem mX9_parts : MS yX9_parts cX9_parts 1 ((some .int)) 1 := ⟨List.mem_of_getElem? (i := 187) (by decide +kernel), List.mem_of_getElem? (i := 5) (by decide +kernel), List.mem_of_getElem? (i := 186) (by decide +kernel), by decide +kernel, by decide +kernel, by decide +kernel⟩
theorem mX8_load : MV yX8_load cX8_load 1 ((some .int)) 0 := ⟨List.mem_of_getElem? (i := 192) (by decide +kernel), List.mem_of_getElem? (i := 2) (by decide +kernel), List.mem_of_getElem? (i := 190) (by decide +kernel), List.mem_of_getElem? (i := 191) (by decide +kernel), by decide +kernel, by decide +kernel, by decide +kernel⟩
theorem mX7_writeTo : MV yX7_writeTo cX7_writeTo 3 (none) 1 := ⟨List.mem_of_getElem? (i := 196) (by decide +kernel), List.mem_of_getElem? (i := 39) (by decide +kernel), List.mem_of_getElem? (i := 194) (by decide +kernel), List.mem_of_getElem? (i := 195) (by decide +kernel), by decide +kernel, by decide +kernel, by decide +kernel⟩
theorem mX6_clear : MV yX6_clear cX6_clear 1 (none) 0 := ⟨List.mem_of_getElem? (i := 200) (by decide +kernel), List.mem_of_getElem? (i := 15) (by decide +kernel), List.mem_of_getElem? (i := 198) (by decide +kernel), List.mem_of_getElem? (i := 199) (by decide +kernel), by decide +kernel, by decide +kernel, by decide +kernel⟩
theorem mX1_forgetAll : MV yX1_forgetAll cX1_forgetAll 1 (none) 0 := ⟨List.mem_of_getElem? (i := 205) (by decide +kernel), List.mem_of_getElem? (i := 35) (by decide +kernel), List.mem_of_getElem? (i := 203) (by decide +kernel), List.mem_of_getElem? (i := 204) (by decide +kernel), by decide +kernel, by decide +kernel, by decide +kernel⟩
theorem mX6_length : MV yX6_length cX6_length 1 ((some .int)) 0 := ⟨List.mem_of_getElem? (i := 210) (by decide +kernel), List.mem_of_getElem? (i := 15) (by decide +kernel), List.mem_of_getElem? (i := 208) (by decide +kernel), List.mem_of_getElem? (i := 209) (by decide +kernel), by decide +kernel, by decide +kernel, by decide +kernel⟩
theorem mX9_load : MV yX9_load cX9_load 2 ((some .int)) 0 := ⟨List.mem_of_getElem? (i := 214) (by decide +kernel), List.mem_of_getElem? (i := 5) (by decide +kernel), List.mem_of_getElem? (i := 212) (by decide +kernel), List.mem_of_getElem? (i := 213) (by decide +kernel), by decide +kernel, by decide +kernel, by decide +kernel⟩
theorem mX8_size : MV yX8_size cX8_size 1 ((some .int)) 0 := ⟨List.mem_of_getElem? (i := 220) (by decide +kernel), List.mem_of_getElem? (i := 2) (by decide +kernel), List.mem_of_getElem? (i := 218) (by decide +kernel), List.mem_of_getElem? (i := 219) (by decide +kernel), by decide +kernel, by decide +kernel, by decide +kernel⟩
theorem mX9_size : MV yX9_size cX9_size 1 ((some .int)) 0 := ⟨List.mem_of_getElem? (i := 224) (by decide +kernel), List.mem_of_getElem? (i := 5) (by decide +kernel), List.mem_of_getElem? (i := 222) (by decide +kernel), List.mem_of_getElem? (i := 223) (by decide +kernel), by decide +kernel, by decide +kernel, by decide +kernel⟩
theorem mX8_tokenAt : MV yX8_tokenAt cX8_tokenAt 2 ((some .int)) 1 := ⟨List.mem_of_getElem? (i := 228) (by decide +kernel), List.mem_of_getElem? (i := 2) (by decide +kernel), List.mem_of_getElem? (i := 226) (by decide +kernel), List.mem_of_getElem? (i := 227) (by decide +kernel), by decide +kernel, by decide +kernel, by decide +kernel⟩
theorem mX6_has : MV yX6_has cX6_has 2 ((some .boolean)) 1 := ⟨List.mem_of_getElem? (i := 232) (by decide +kernel), List.mem_of_getElem? (i := 15) (by decide +kernel), List.mem_of_getElem? (i := 230) (by decide +kernel), List.mem_of_getElem? (i := 231) (by decide +kernel), by decide +kernel, by decide +kernel, by decide +kernel⟩
theorem mX6_token : MV yX6_token cX6_token 2 ((some .int)) 1 := ⟨List.mem_of_getElem? (i := 236) (by decide +kernel), List.mem_of_getElem? (i := 15) (by decide +kernel), List.mem_of_getElem? (i := 234) (by decide +kernel), List.mem_of_getElem? (i := 235) (by decide +kernel), by decide +kernel, by decide +kernel, by decide +kernel⟩
theorem mX9_tokenAt : MV yX9_tokenAt cX9_tokenAt 2 ((some .int)) 1 := ⟨List.mem_of_getElem? (i := 240) (by decide +kernel), List.mem_of_getElem? (i := 5) (by decide +kernel), List.mem_of_getElem? (i := 238) (by decide +kernel), List.mem_of_getElem? (i := 239) (by decide +kernel), by decide +kernel, by decide +kernel, by decide +kernel⟩
theorem mX8_nameAt : MV yX8_nameAt cX8_nameAt 4 ((some .int)) 1 := ⟨List.mem_of_getElem? (i := 244) (by decide +kernel), List.mem_of_getElem? (i := 2) (by decide +kernel), List.mem_of_getElem? (i := 242) (by decide +kernel), List.mem_of_getElem? (i := 243) (by decide +kernel), by decide +kernel, by decide +kernel, by decide +kernel⟩
theorem mX4_measure : MV yX4_measure cX4_measure 2 (none) 1 := ⟨List.mem_of_getElem? (i := 248) (by decide +kernel), List.mem_of_getElem? (i := 23) (by decide +kernel), List.mem_of_getElem? (i := 246) (by decide +kernel), List.mem_of_getElem? (i := 247) (by decide +kernel), by decide +kernel, by decide +kernel, by decide +kernel⟩
theorem mX4_measureEnds : MV yX4_measureEnds cX4_measureEnds 4 (none) 1 := ⟨List.mem_of_getElem? (i := 257) (by decide +kernel), List.mem_of_getElem? (i := 23) (by decide +kernel), List.mem_of_getElem? (i := 255) (by decide +kernel), List.mem_of_getElem? (i := 256) (by decide +kernel), by decide +kernel, by decide +kernel, by decide +kernel⟩
theorem mX4_endAt : MV yX4_endAt cX4_endAt 2 ((some .int)) 1 := ⟨List.mem_of_getElem? (i := 262) (by decide +kernel), List.mem_of_getElem? (i := 23) (by decide +kernel), List.mem_of_getElem? (i := 260) (by decide +kernel), List.mem_of_getElem? (i := 261) (by decide +kernel), by decide +kernel, by decide +kernel, by decide +kernel⟩
theorem mX4_measureDepths : MV yX4_measureDepths cX4_measureDepths 4 (none) 1 := ⟨List.mem_of_getElem? (i := 266) (by decide +kernel), List.mem_of_getElem? (i := 23) (by decide +kernel), List.mem_of_getElem? (i := 264) (by decide +kernel), List.mem_of_getElem? (i := 265) (by decide +kernel), by decide +kernel, by decide +kernel, by decide +kernel⟩
theorem mX4_setDepth : MV yX4_setDepth cX4_setDepth 3 (none) 2 := ⟨List.mem_of_getElem? (i := 270) (by decide +kernel), List.mem_of_getElem? (i := 23) (by decide +kernel), List.mem_of_getElem? (i := 268) (by decide +kernel), List.mem_of_getElem? (i := 269) (by decide +kernel), by decide +kernel, by decide +kernel, by decide +kernel⟩
theorem mX4_depthAt : MV yX4_depthAt cX4_depthAt 2 ((some .int)) 1 := ⟨List.mem_of_getElem? (i := 274) (by decide +kernel), List.mem_of_getElem? (i := 23) (by decide +kernel), List.mem_of_getElem? (i := 272) (by decide +kernel), List.mem_of_getElem? (i := 273) (by decide +kernel), by decide +kernel, by decide +kernel, by decide +kernel⟩
theorem mX9_nameAt : MV yX9_nameAt cX9_nameAt 4 ((some .int)) 1 := ⟨List.mem_of_getElem? (i := 278) (by decide +kernel), List.mem_of_getElem? (i := 5) (by decide +kernel), List.mem_of_getElem? (i := 276) (by decide +kernel), List.mem_of_getElem? (i := 277) (by decide +kernel), by decide +kernel, by decide +kernel, by decide +kernel⟩
theorem mX9_layDepths : MV yX9_layDepths cX9_layDepths 8 (none) 3 := ⟨List.mem_of_getElem? (i := 282) (by decide +kernel), List.mem_of_getElem? (i := 5) (by decide +kernel), List.mem_of_getElem? (i := 280) (by decide +kernel), List.mem_of_getElem? (i := 281) (by decide +kernel), by decide +kernel, by decide +kernel, by decide +kernel⟩
theorem mX9_isVariable : MS yX9_isVariable cX9_isVariable 1 ((some .boolean)) 1 := ⟨List.mem_of_getElem? (i := 285) (by decide +kernel), List.mem_of_getElem? (i := 5) (by decide +kernel), List.mem_of_getElem? (i := 284) (by decide +kernel), by decide +kernel, by decide +kernel, by decide +kernel⟩
theorem mX8_redexCount : MV yX8_redexCount cX8_redexCount 1 ((some .int)) 0 := ⟨List.mem_of_getElem? (i := 289) (by decide +kernel), List.mem_of_getElem? (i := 2) (by decide +kernel), List.mem_of_getElem? (i := 287) (by decide +kernel), List.mem_of_getElem? (i := 288) (by decide +kernel), by decide +kernel, by decide +kernel, by decide +kernel⟩
theorem mX5_countRedexes : MS yX5_countRedexes cX5_countRedexes 3 ((some .int)) 1 := ⟨List.mem_of_getElem? (i := 292) (by decide +kernel), List.mem_of_getElem? (i := 27) (by decide +kernel), List.mem_of_getElem? (i := 291) (by decide +kernel), by decide +kernel, by decide +kernel, by decide +kernel⟩
theorem mX5_isRedex : MS yX5_isRedex cX5_isRedex 2 ((some .boolean)) 2 := ⟨List.mem_of_getElem? (i := 296) (by decide +kernel), List.mem_of_getElem? (i := 27) (by decide +kernel), List.mem_of_getElem? (i := 295) (by decide +kernel), by decide +kernel, by decide +kernel, by decide +kernel⟩
theorem mX9_redexCount : MV yX9_redexCount cX9_redexCount 1 ((some .int)) 0 := ⟨List.mem_of_getElem? (i := 301) (by decide +kernel), List.mem_of_getElem? (i := 5) (by decide +kernel), List.mem_of_getElem? (i := 299) (by decide +kernel), List.mem_of_getElem? (i := 300) (by decide +kernel), by decide +kernel, by decide +kernel, by decide +kernel⟩
theorem mX9_redexes : MS yX9_redexes cX9_redexes 3 ((some .int)) 1 := ⟨List.mem_of_getElem? (i := 304) (by decide +kernel), List.mem_of_getElem? (i := 5) (by decide +kernel), List.mem_of_getElem? (i := 303) (by decide +kernel), by decide +kernel, by decide +kernel, by decide +kernel⟩
theorem mX9_isRedex : MS yX9_isRedex cX9_isRedex 2 ((some .boolean)) 2 := ⟨List.mem_of_getElem? (i := 307) (by decide +kernel), List.mem_of_getElem? (i := 5) (by decide +kernel), List.mem_of_getElem? (i := 306) (by decide +kernel), by decide +kernel, by decide +kernel, by decide +kernel⟩
theorem mX8_chosenRedex : MV yX8_chosenRedex cX8_chosenRedex 2 ((some .int)) 1 := ⟨List.mem_of_getElem? (i := 311) (by decide +kernel), List.mem_of_getElem? (i := 2) (by decide +kernel), List.mem_of_getElem? (i := 309) (by decide +kernel), List.mem_of_getElem? (i := 310) (by decide +kernel), by decide +kernel, by decide +kernel, by decide +kernel⟩
theorem mX8_isStrategy : MS yX8_isStrategy cX8_isStrategy 1 ((some .boolean)) 1 := ⟨List.mem_of_getElem? (i := 314) (by decide +kernel), List.mem_of_getElem? (i := 2) (by decide +kernel), List.mem_of_getElem? (i := 313) (by decide +kernel), by decide +kernel, by decide +kernel, by decide +kernel⟩
theorem mX5_choose : MS yX5_choose cX5_choose 2 ((some .int)) 2 := ⟨List.mem_of_getElem? (i := 317) (by decide +kernel), List.mem_of_getElem? (i := 27) (by decide +kernel), List.mem_of_getElem? (i := 316) (by decide +kernel), by decide +kernel, by decide +kernel, by decide +kernel⟩
theorem mX5_nextRedex : MS yX5_nextRedex cX5_nextRedex 3 ((some .int)) 2 := ⟨List.mem_of_getElem? (i := 320) (by decide +kernel), List.mem_of_getElem? (i := 27) (by decide +kernel), List.mem_of_getElem? (i := 319) (by decide +kernel), by decide +kernel, by decide +kernel, by decide +kernel⟩
theorem mX5_leftmostInnermost : MS yX5_leftmostInnermost cX5_leftmostInnermost 4 ((some .int)) 1 := ⟨List.mem_of_getElem? (i := 323) (by decide +kernel), List.mem_of_getElem? (i := 27) (by decide +kernel), List.mem_of_getElem? (i := 322) (by decide +kernel), by decide +kernel, by decide +kernel, by decide +kernel⟩
theorem mX5_lastRedex : MS yX5_lastRedex cX5_lastRedex 2 ((some .int)) 1 := ⟨List.mem_of_getElem? (i := 326) (by decide +kernel), List.mem_of_getElem? (i := 27) (by decide +kernel), List.mem_of_getElem? (i := 325) (by decide +kernel), by decide +kernel, by decide +kernel, by decide +kernel⟩
theorem mX5_weakHead : MS yX5_weakHead cX5_weakHead 2 ((some .int)) 1 := ⟨List.mem_of_getElem? (i := 329) (by decide +kernel), List.mem_of_getElem? (i := 27) (by decide +kernel), List.mem_of_getElem? (i := 328) (by decide +kernel), by decide +kernel, by decide +kernel, by decide +kernel⟩
theorem mX9_chosenRedex : MV yX9_chosenRedex cX9_chosenRedex 2 ((some .int)) 1 := ⟨List.mem_of_getElem? (i := 333) (by decide +kernel), List.mem_of_getElem? (i := 5) (by decide +kernel), List.mem_of_getElem? (i := 331) (by decide +kernel), List.mem_of_getElem? (i := 332) (by decide +kernel), by decide +kernel, by decide +kernel, by decide +kernel⟩
theorem mX9_choose : MS yX9_choose cX9_choose 7 ((some .int)) 2 := ⟨List.mem_of_getElem? (i := 337) (by decide +kernel), List.mem_of_getElem? (i := 5) (by decide +kernel), List.mem_of_getElem? (i := 336) (by decide +kernel), by decide +kernel, by decide +kernel, by decide +kernel⟩
theorem mX9_isInnermost : MS yX9_isInnermost cX9_isInnermost 4 ((some .boolean)) 2 := ⟨List.mem_of_getElem? (i := 340) (by decide +kernel), List.mem_of_getElem? (i := 5) (by decide +kernel), List.mem_of_getElem? (i := 339) (by decide +kernel), by decide +kernel, by decide +kernel, by decide +kernel⟩
theorem mX9_end : MS yX9_end cX9_end 4 ((some .int)) 2 := ⟨List.mem_of_getElem? (i := 343) (by decide +kernel), List.mem_of_getElem? (i := 5) (by decide +kernel), List.mem_of_getElem? (i := 342) (by decide +kernel), by decide +kernel, by decide +kernel, by decide +kernel⟩
theorem mX8_freeVariables : MV yX8_freeVariables cX8_freeVariables 4 ((some .int)) 0 := ⟨List.mem_of_getElem? (i := 347) (by decide +kernel), List.mem_of_getElem? (i := 2) (by decide +kernel), List.mem_of_getElem? (i := 345) (by decide +kernel), List.mem_of_getElem? (i := 346) (by decide +kernel), by decide +kernel, by decide +kernel, by decide +kernel⟩
theorem mX8_isVariable : MS yX8_isVariable cX8_isVariable 1 ((some .boolean)) 1 := ⟨List.mem_of_getElem? (i := 350) (by decide +kernel), List.mem_of_getElem? (i := 2) (by decide +kernel), List.mem_of_getElem? (i := 349) (by decide +kernel), by decide +kernel, by decide +kernel, by decide +kernel⟩
theorem mX9_freeVariables : MV yX9_freeVariables cX9_freeVariables 3 ((some .int)) 0 := ⟨List.mem_of_getElem? (i := 354) (by decide +kernel), List.mem_of_getElem? (i := 5) (by decide +kernel), List.mem_of_getElem? (i := 352) (by decide +kernel), List.mem_of_getElem? (i := 353) (by decide +kernel), by decide +kernel, by decide +kernel, by decide +kernel⟩
theorem mX8_step : MV yX8_step cX8_step 3 ((some .int)) 1 := ⟨List.mem_of_getElem? (i := 358) (by decide +kernel), List.mem_of_getElem? (i := 2) (by decide +kernel), List.mem_of_getElem? (i := 356) (by decide +kernel), List.mem_of_getElem? (i := 357) (by decide +kernel), by decide +kernel, by decide +kernel, by decide +kernel⟩
theorem mX6_copyFrom : MV yX6_copyFrom cX6_copyFrom 2 (none) 1 := ⟨List.mem_of_getElem? (i := 362) (by decide +kernel), List.mem_of_getElem? (i := 15) (by decide +kernel), List.mem_of_getElem? (i := 360) (by decide +kernel), List.mem_of_getElem? (i := 361) (by decide +kernel), by decide +kernel, by decide +kernel, by decide +kernel⟩
theorem mX5_contract : MV yX5_contract cX5_contract 5 ((some .boolean)) 2 := ⟨List.mem_of_getElem? (i := 370) (by decide +kernel), List.mem_of_getElem? (i := 27) (by decide +kernel), List.mem_of_getElem? (i := 368) (by decide +kernel), List.mem_of_getElem? (i := 369) (by decide +kernel), by decide +kernel, by decide +kernel, by decide +kernel⟩
theorem mX6_addRange : MV yX6_addRange cX6_addRange 5 (none) 3 := ⟨List.mem_of_getElem? (i := 377) (by decide +kernel), List.mem_of_getElem? (i := 15) (by decide +kernel), List.mem_of_getElem? (i := 375) (by decide +kernel), List.mem_of_getElem? (i := 376) (by decide +kernel), by decide +kernel, by decide +kernel, by decide +kernel⟩
theorem mX5_addContracted : MV yX5_addContracted cX5_addContracted 9 (none) 4 := ⟨List.mem_of_getElem? (i := 381) (by decide +kernel), List.mem_of_getElem? (i := 27) (by decide +kernel), List.mem_of_getElem? (i := 379) (by decide +kernel), List.mem_of_getElem? (i := 380) (by decide +kernel), by decide +kernel, by decide +kernel, by decide +kernel⟩
theorem mX6_isTooLarge : MV yX6_isTooLarge cX6_isTooLarge 1 ((some .boolean)) 0 := ⟨List.mem_of_getElem? (i := 386) (by decide +kernel), List.mem_of_getElem? (i := 15) (by decide +kernel), List.mem_of_getElem? (i := 384) (by decide +kernel), List.mem_of_getElem? (i := 385) (by decide +kernel), by decide +kernel, by decide +kernel, by decide +kernel⟩
theorem mX5_addShifted : MV yX5_addShifted cX5_addShifted 10 (none) 5 := ⟨List.mem_of_getElem? (i := 391) (by decide +kernel), List.mem_of_getElem? (i := 27) (by decide +kernel), List.mem_of_getElem? (i := 389) (by decide +kernel), List.mem_of_getElem? (i := 390) (by decide +kernel), by decide +kernel, by decide +kernel, by decide +kernel⟩
theorem mX5_takeResult : MV yX5_takeResult cX5_takeResult 2 ((some .boolean)) 1 := ⟨List.mem_of_getElem? (i := 395) (by decide +kernel), List.mem_of_getElem? (i := 27) (by decide +kernel), List.mem_of_getElem? (i := 393) (by decide +kernel), List.mem_of_getElem? (i := 394) (by decide +kernel), by decide +kernel, by decide +kernel, by decide +kernel⟩
theorem mX8_actWithCopy : MV yX8_actWithCopy cX8_actWithCopy 1 ((some .int)) 0 := ⟨List.mem_of_getElem? (i := 400) (by decide +kernel), List.mem_of_getElem? (i := 2) (by decide +kernel), List.mem_of_getElem? (i := 398) (by decide +kernel), List.mem_of_getElem? (i := 399) (by decide +kernel), by decide +kernel, by decide +kernel, by decide +kernel⟩
theorem mX1_remember : MV yX1_remember cX1_remember 4 (none) 1 := ⟨List.mem_of_getElem? (i := 404) (by decide +kernel), List.mem_of_getElem? (i := 35) (by decide +kernel), List.mem_of_getElem? (i := 402) (by decide +kernel), List.mem_of_getElem? (i := 403) (by decide +kernel), by decide +kernel, by decide +kernel, by decide +kernel⟩
theorem mX9_step : MV yX9_step cX9_step 3 ((some .int)) 1 := ⟨List.mem_of_getElem? (i := 411) (by decide +kernel), List.mem_of_getElem? (i := 5) (by decide +kernel), List.mem_of_getElem? (i := 409) (by decide +kernel), List.mem_of_getElem? (i := 410) (by decide +kernel), by decide +kernel, by decide +kernel, by decide +kernel⟩
theorem mX9_contract : MV yX9_contract cX9_contract 8 ((some .boolean)) 2 := ⟨List.mem_of_getElem? (i := 415) (by decide +kernel), List.mem_of_getElem? (i := 5) (by decide +kernel), List.mem_of_getElem? (i := 413) (by decide +kernel), List.mem_of_getElem? (i := 414) (by decide +kernel), by decide +kernel, by decide +kernel, by decide +kernel⟩
theorem mX9_put : MV yX9_put cX9_put 2 ((some .boolean)) 1 := ⟨List.mem_of_getElem? (i := 419) (by decide +kernel), List.mem_of_getElem? (i := 5) (by decide +kernel), List.mem_of_getElem? (i := 417) (by decide +kernel), List.mem_of_getElem? (i := 418) (by decide +kernel), by decide +kernel, by decide +kernel, by decide +kernel⟩
theorem mX9_putShifted : MV yX9_putShifted cX9_putShifted 8 ((some .boolean)) 4 := ⟨List.mem_of_getElem? (i := 423) (by decide +kernel), List.mem_of_getElem? (i := 5) (by decide +kernel), List.mem_of_getElem? (i := 421) (by decide +kernel), List.mem_of_getElem? (i := 422) (by decide +kernel), by decide +kernel, by decide +kernel, by decide +kernel⟩
theorem mX9_commit : MV yX9_commit cX9_commit 1 ((some .int)) 0 := ⟨List.mem_of_getElem? (i := 427) (by decide +kernel), List.mem_of_getElem? (i := 5) (by decide +kernel), List.mem_of_getElem? (i := 425) (by decide +kernel), List.mem_of_getElem? (i := 426) (by decide +kernel), by decide +kernel, by decide +kernel, by decide +kernel⟩
theorem mX9_remember : MV yX9_remember cX9_remember 2 (none) 0 := ⟨List.mem_of_getElem? (i := 431) (by decide +kernel), List.mem_of_getElem? (i := 5) (by decide +kernel), List.mem_of_getElem? (i := 429) (by decide +kernel), List.mem_of_getElem? (i := 430) (by decide +kernel), by decide +kernel, by decide +kernel, by decide +kernel⟩
theorem mX9_assign : MS yX9_assign cX9_assign 3 (none) 2 := ⟨List.mem_of_getElem? (i := 434) (by decide +kernel), List.mem_of_getElem? (i := 5) (by decide +kernel), List.mem_of_getElem? (i := 433) (by decide +kernel), by decide +kernel, by decide +kernel, by decide +kernel⟩
theorem mX8_run : MV yX8_run cX8_run 4 ((some .int)) 2 := ⟨List.mem_of_getElem? (i := 438) (by decide +kernel), List.mem_of_getElem? (i := 2) (by decide +kernel), List.mem_of_getElem? (i := 436) (by decide +kernel), List.mem_of_getElem? (i := 437) (by decide +kernel), by decide +kernel, by decide +kernel, by decide +kernel⟩
theorem mX5_perform : MV yX5_perform cX5_perform 5 ((some .int)) 3 := ⟨List.mem_of_getElem? (i := 442) (by decide +kernel), List.mem_of_getElem? (i := 27) (by decide +kernel), List.mem_of_getElem? (i := 440) (by decide +kernel), List.mem_of_getElem? (i := 441) (by decide +kernel), by decide +kernel, by decide +kernel, by decide +kernel⟩
theorem mX9_run : MV yX9_run cX9_run 3 ((some .int)) 2 := ⟨List.mem_of_getElem? (i := 448) (by decide +kernel), List.mem_of_getElem? (i := 5) (by decide +kernel), List.mem_of_getElem? (i := 446) (by decide +kernel), List.mem_of_getElem? (i := 447) (by decide +kernel), by decide +kernel, by decide +kernel, by decide +kernel⟩
theorem mX9_runOn : MV yX9_runOn cX9_runOn 6 ((some .int)) 3 := ⟨List.mem_of_getElem? (i := 453) (by decide +kernel), List.mem_of_getElem? (i := 5) (by decide +kernel), List.mem_of_getElem? (i := 451) (by decide +kernel), List.mem_of_getElem? (i := 452) (by decide +kernel), by decide +kernel, by decide +kernel, by decide +kernel⟩
theorem mX8_abstractTerm : MV yX8_abstractTerm cX8_abstractTerm 1 ((some .int)) 0 := ⟨List.mem_of_getElem? (i := 457) (by decide +kernel), List.mem_of_getElem? (i := 2) (by decide +kernel), List.mem_of_getElem? (i := 455) (by decide +kernel), List.mem_of_getElem? (i := 456) (by decide +kernel), by decide +kernel, by decide +kernel, by decide +kernel⟩
theorem mX6_wrapInAbstraction : MV yX6_wrapInAbstraction cX6_wrapInAbstraction 1 ((some .boolean)) 0 := ⟨List.mem_of_getElem? (i := 461) (by decide +kernel), List.mem_of_getElem? (i := 15) (by decide +kernel), List.mem_of_getElem? (i := 459) (by decide +kernel), List.mem_of_getElem? (i := 460) (by decide +kernel), by decide +kernel, by decide +kernel, by decide +kernel⟩
theorem mX9_abstractTerm : MV yX9_abstractTerm cX9_abstractTerm 1 ((some .int)) 0 := ⟨List.mem_of_getElem? (i := 465) (by decide +kernel), List.mem_of_getElem? (i := 5) (by decide +kernel), List.mem_of_getElem? (i := 463) (by decide +kernel), List.mem_of_getElem? (i := 464) (by decide +kernel), by decide +kernel, by decide +kernel, by decide +kernel⟩
theorem mX9_putBehind : MV yX9_putBehind cX9_putBehind 5 ((some .boolean)) 2 := ⟨List.mem_of_getElem? (i := 469) (by decide +kernel), List.mem_of_getElem? (i := 5) (by decide +kernel), List.mem_of_getElem? (i := 467) (by decide +kernel), List.mem_of_getElem? (i := 468) (by decide +kernel), by decide +kernel, by decide +kernel, by decide +kernel⟩
theorem mX8_applyTo : MV yX8_applyTo cX8_applyTo 3 ((some .int)) 1 := ⟨List.mem_of_getElem? (i := 473) (by decide +kernel), List.mem_of_getElem? (i := 2) (by decide +kernel), List.mem_of_getElem? (i := 471) (by decide +kernel), List.mem_of_getElem? (i := 472) (by decide +kernel), by decide +kernel, by decide +kernel, by decide +kernel⟩
theorem mX8_isSlot : MS yX8_isSlot cX8_isSlot 1 ((some .boolean)) 1 := ⟨List.mem_of_getElem? (i := 476) (by decide +kernel), List.mem_of_getElem? (i := 2) (by decide +kernel), List.mem_of_getElem? (i := 475) (by decide +kernel), by decide +kernel, by decide +kernel, by decide +kernel⟩
theorem mX8_slotTerm : MV yX8_slotTerm cX8_slotTerm 2 ((some (.object "SubstitutionMachine$Term"))) 1 := ⟨List.mem_of_getElem? (i := 480) (by decide +kernel), List.mem_of_getElem? (i := 2) (by decide +kernel), List.mem_of_getElem? (i := 478) (by decide +kernel), List.mem_of_getElem? (i := 479) (by decide +kernel), by decide +kernel, by decide +kernel, by decide +kernel⟩
theorem mX9_applyTo : MV yX9_applyTo cX9_applyTo 4 ((some .int)) 1 := ⟨List.mem_of_getElem? (i := 486) (by decide +kernel), List.mem_of_getElem? (i := 5) (by decide +kernel), List.mem_of_getElem? (i := 484) (by decide +kernel), List.mem_of_getElem? (i := 485) (by decide +kernel), by decide +kernel, by decide +kernel, by decide +kernel⟩
theorem mX9_takeSlot : MV yX9_takeSlot cX9_takeSlot 4 (none) 2 := ⟨List.mem_of_getElem? (i := 490) (by decide +kernel), List.mem_of_getElem? (i := 5) (by decide +kernel), List.mem_of_getElem? (i := 488) (by decide +kernel), List.mem_of_getElem? (i := 489) (by decide +kernel), by decide +kernel, by decide +kernel, by decide +kernel⟩
theorem mX8_substitute : MV yX8_substitute cX8_substitute 4 ((some .int)) 2 := ⟨List.mem_of_getElem? (i := 494) (by decide +kernel), List.mem_of_getElem? (i := 2) (by decide +kernel), List.mem_of_getElem? (i := 492) (by decide +kernel), List.mem_of_getElem? (i := 493) (by decide +kernel), by decide +kernel, by decide +kernel, by decide +kernel⟩
theorem mX5_replaceFree : MV yX5_replaceFree cX5_replaceFree 7 ((some .boolean)) 3 := ⟨List.mem_of_getElem? (i := 498) (by decide +kernel), List.mem_of_getElem? (i := 27) (by decide +kernel), List.mem_of_getElem? (i := 496) (by decide +kernel), List.mem_of_getElem? (i := 497) (by decide +kernel), by decide +kernel, by decide +kernel, by decide +kernel⟩
theorem mX9_substitute : MV yX9_substitute cX9_substitute 6 ((some .int)) 2 := ⟨List.mem_of_getElem? (i := 502) (by decide +kernel), List.mem_of_getElem? (i := 5) (by decide +kernel), List.mem_of_getElem? (i := 500) (by decide +kernel), List.mem_of_getElem? (i := 501) (by decide +kernel), by decide +kernel, by decide +kernel, by decide +kernel⟩
theorem mX8_undo : MV yX8_undo cX8_undo 1 ((some .int)) 0 := ⟨List.mem_of_getElem? (i := 507) (by decide +kernel), List.mem_of_getElem? (i := 2) (by decide +kernel), List.mem_of_getElem? (i := 505) (by decide +kernel), List.mem_of_getElem? (i := 506) (by decide +kernel), by decide +kernel, by decide +kernel, by decide +kernel⟩
theorem mX1_takeBack : MV yX1_takeBack cX1_takeBack 4 ((some .boolean)) 1 := ⟨List.mem_of_getElem? (i := 511) (by decide +kernel), List.mem_of_getElem? (i := 35) (by decide +kernel), List.mem_of_getElem? (i := 509) (by decide +kernel), List.mem_of_getElem? (i := 510) (by decide +kernel), by decide +kernel, by decide +kernel, by decide +kernel⟩
theorem mX1_count : MV yX1_count cX1_count 1 ((some .int)) 0 := ⟨List.mem_of_getElem? (i := 517) (by decide +kernel), List.mem_of_getElem? (i := 35) (by decide +kernel), List.mem_of_getElem? (i := 515) (by decide +kernel), List.mem_of_getElem? (i := 516) (by decide +kernel), by decide +kernel, by decide +kernel, by decide +kernel⟩
theorem mX9_undo : MV yX9_undo cX9_undo 2 ((some .int)) 0 := ⟨List.mem_of_getElem? (i := 521) (by decide +kernel), List.mem_of_getElem? (i := 5) (by decide +kernel), List.mem_of_getElem? (i := 519) (by decide +kernel), List.mem_of_getElem? (i := 520) (by decide +kernel), by decide +kernel, by decide +kernel, by decide +kernel⟩
theorem mX8_stepsOfRun : MV yX8_stepsOfRun cX8_stepsOfRun 3 ((some .int)) 2 := ⟨List.mem_of_getElem? (i := 525) (by decide +kernel), List.mem_of_getElem? (i := 2) (by decide +kernel), List.mem_of_getElem? (i := 523) (by decide +kernel), List.mem_of_getElem? (i := 524) (by decide +kernel), by decide +kernel, by decide +kernel, by decide +kernel⟩
theorem mX8_isPrediction : MS yX8_isPrediction cX8_isPrediction 2 ((some .boolean)) 2 := ⟨List.mem_of_getElem? (i := 528) (by decide +kernel), List.mem_of_getElem? (i := 2) (by decide +kernel), List.mem_of_getElem? (i := 527) (by decide +kernel), by decide +kernel, by decide +kernel, by decide +kernel⟩
theorem mX8_performOnCopy : MV yX8_performOnCopy cX8_performOnCopy 3 ((some .int)) 2 := ⟨List.mem_of_getElem? (i := 532) (by decide +kernel), List.mem_of_getElem? (i := 2) (by decide +kernel), List.mem_of_getElem? (i := 530) (by decide +kernel), List.mem_of_getElem? (i := 531) (by decide +kernel), by decide +kernel, by decide +kernel, by decide +kernel⟩
theorem mX9_stepsOfRun : MV yX9_stepsOfRun cX9_stepsOfRun 3 ((some .int)) 2 := ⟨List.mem_of_getElem? (i := 536) (by decide +kernel), List.mem_of_getElem? (i := 5) (by decide +kernel), List.mem_of_getElem? (i := 534) (by decide +kernel), List.mem_of_getElem? (i := 535) (by decide +kernel), by decide +kernel, by decide +kernel, by decide +kernel⟩
theorem mX8_sizeAfterRun : MV yX8_sizeAfterRun cX8_sizeAfterRun 3 ((some .int)) 2 := ⟨List.mem_of_getElem? (i := 541) (by decide +kernel), List.mem_of_getElem? (i := 2) (by decide +kernel), List.mem_of_getElem? (i := 539) (by decide +kernel), List.mem_of_getElem? (i := 540) (by decide +kernel), by decide +kernel, by decide +kernel, by decide +kernel⟩
theorem mX9_sizeAfterRun : MV yX9_sizeAfterRun cX9_sizeAfterRun 3 ((some .int)) 2 := ⟨List.mem_of_getElem? (i := 545) (by decide +kernel), List.mem_of_getElem? (i := 5) (by decide +kernel), List.mem_of_getElem? (i := 543) (by decide +kernel), List.mem_of_getElem? (i := 544) (by decide +kernel), by decide +kernel, by decide +kernel, by decide +kernel⟩
theorem mX8_normalSize : MV yX8_normalSize cX8_normalSize 1 ((some .int)) 0 := ⟨List.mem_of_getElem? (i := 549) (by decide +kernel), List.mem_of_getElem? (i := 2) (by decide +kernel), List.mem_of_getElem? (i := 547) (by decide +kernel), List.mem_of_getElem? (i := 548) (by decide +kernel), by decide +kernel, by decide +kernel, by decide +kernel⟩
theorem mX8_normaliseInto : MV yX8_normaliseInto cX8_normaliseInto 3 ((some .boolean)) 2 := ⟨List.mem_of_getElem? (i := 553) (by decide +kernel), List.mem_of_getElem? (i := 2) (by decide +kernel), List.mem_of_getElem? (i := 551) (by decide +kernel), List.mem_of_getElem? (i := 552) (by decide +kernel), by decide +kernel, by decide +kernel, by decide +kernel⟩
theorem mX9_normalSize : MV yX9_normalSize cX9_normalSize 1 ((some .int)) 0 := ⟨List.mem_of_getElem? (i := 558) (by decide +kernel), List.mem_of_getElem? (i := 5) (by decide +kernel), List.mem_of_getElem? (i := 556) (by decide +kernel), List.mem_of_getElem? (i := 557) (by decide +kernel), by decide +kernel, by decide +kernel, by decide +kernel⟩
theorem mX9_normalize : MV yX9_normalize cX9_normalize 2 ((some .boolean)) 1 := ⟨List.mem_of_getElem? (i := 562) (by decide +kernel), List.mem_of_getElem? (i := 5) (by decide +kernel), List.mem_of_getElem? (i := 560) (by decide +kernel), List.mem_of_getElem? (i := 561) (by decide +kernel), by decide +kernel, by decide +kernel, by decide +kernel⟩
theorem mX8_normalTokenAt : MV yX8_normalTokenAt cX8_normalTokenAt 2 ((some .int)) 1 := ⟨List.mem_of_getElem? (i := 566) (by decide +kernel), List.mem_of_getElem? (i := 2) (by decide +kernel), List.mem_of_getElem? (i := 564) (by decide +kernel), List.mem_of_getElem? (i := 565) (by decide +kernel), by decide +kernel, by decide +kernel, by decide +kernel⟩
theorem mX9_normalTokenAt : MV yX9_normalTokenAt cX9_normalTokenAt 2 ((some .int)) 1 := ⟨List.mem_of_getElem? (i := 570) (by decide +kernel), List.mem_of_getElem? (i := 5) (by decide +kernel), List.mem_of_getElem? (i := 568) (by decide +kernel), List.mem_of_getElem? (i := 569) (by decide +kernel), by decide +kernel, by decide +kernel, by decide +kernel⟩
theorem mX8_isEquivalent : MV yX8_isEquivalent cX8_isEquivalent 3 ((some .int)) 1 := ⟨List.mem_of_getElem? (i := 574) (by decide +kernel), List.mem_of_getElem? (i := 2) (by decide +kernel), List.mem_of_getElem? (i := 572) (by decide +kernel), List.mem_of_getElem? (i := 573) (by decide +kernel), by decide +kernel, by decide +kernel, by decide +kernel⟩
theorem mX6_hasSameTokens : MV yX6_hasSameTokens cX6_hasSameTokens 3 ((some .boolean)) 1 := ⟨List.mem_of_getElem? (i := 578) (by decide +kernel), List.mem_of_getElem? (i := 15) (by decide +kernel), List.mem_of_getElem? (i := 576) (by decide +kernel), List.mem_of_getElem? (i := 577) (by decide +kernel), by decide +kernel, by decide +kernel, by decide +kernel⟩
theorem mX9_isEquivalent : MV yX9_isEquivalent cX9_isEquivalent 4 ((some .int)) 1 := ⟨List.mem_of_getElem? (i := 582) (by decide +kernel), List.mem_of_getElem? (i := 5) (by decide +kernel), List.mem_of_getElem? (i := 580) (by decide +kernel), List.mem_of_getElem? (i := 581) (by decide +kernel), by decide +kernel, by decide +kernel, by decide +kernel⟩
theorem mX8_machineSteps : MV yX8_machineSteps cX8_machineSteps 3 ((some .int)) 2 := ⟨List.mem_of_getElem? (i := 586) (by decide +kernel), List.mem_of_getElem? (i := 2) (by decide +kernel), List.mem_of_getElem? (i := 584) (by decide +kernel), List.mem_of_getElem? (i := 585) (by decide +kernel), by decide +kernel, by decide +kernel, by decide +kernel⟩
theorem mX2_work : MV yX2_work cX2_work 5 ((some .boolean)) 2 := ⟨List.mem_of_getElem? (i := 590) (by decide +kernel), List.mem_of_getElem? (i := 31) (by decide +kernel), List.mem_of_getElem? (i := 588) (by decide +kernel), List.mem_of_getElem? (i := 589) (by decide +kernel), by decide +kernel, by decide +kernel, by decide +kernel⟩
theorem mX2_start : MV yX2_start cX2_start 3 (none) 1 := ⟨List.mem_of_getElem? (i := 597) (by decide +kernel), List.mem_of_getElem? (i := 31) (by decide +kernel), List.mem_of_getElem? (i := 595) (by decide +kernel), List.mem_of_getElem? (i := 596) (by decide +kernel), by decide +kernel, by decide +kernel, by decide +kernel⟩
theorem mX0_clear : MV yX0_clear cX0_clear 1 (none) 0 := ⟨List.mem_of_getElem? (i := 601) (by decide +kernel), List.mem_of_getElem? (i := 72) (by decide +kernel), List.mem_of_getElem? (i := 599) (by decide +kernel), List.mem_of_getElem? (i := 600) (by decide +kernel), by decide +kernel, by decide +kernel, by decide +kernel⟩
theorem mX0_add : MV yX0_add cX0_add 2 (none) 1 := ⟨List.mem_of_getElem? (i := 607) (by decide +kernel), List.mem_of_getElem? (i := 72) (by decide +kernel), List.mem_of_getElem? (i := 605) (by decide +kernel), List.mem_of_getElem? (i := 606) (by decide +kernel), by decide +kernel, by decide +kernel, by decide +kernel⟩
theorem mX0_put : MV yX0_put cX0_put 4 (none) 3 := ⟨List.mem_of_getElem? (i := 611) (by decide +kernel), List.mem_of_getElem? (i := 72) (by decide +kernel), List.mem_of_getElem? (i := 609) (by decide +kernel), List.mem_of_getElem? (i := 610) (by decide +kernel), by decide +kernel, by decide +kernel, by decide +kernel⟩
theorem mX0_length : MV yX0_length cX0_length 1 ((some .int)) 0 := ⟨List.mem_of_getElem? (i := 615) (by decide +kernel), List.mem_of_getElem? (i := 72) (by decide +kernel), List.mem_of_getElem? (i := 613) (by decide +kernel), List.mem_of_getElem? (i := 614) (by decide +kernel), by decide +kernel, by decide +kernel, by decide +kernel⟩
theorem mX2_firstPlace : MV yX2_firstPlace cX2_firstPlace 3 ((some .int)) 1 := ⟨List.mem_of_getElem? (i := 619) (by decide +kernel), List.mem_of_getElem? (i := 31) (by decide +kernel), List.mem_of_getElem? (i := 617) (by decide +kernel), List.mem_of_getElem? (i := 618) (by decide +kernel), by decide +kernel, by decide +kernel, by decide +kernel⟩
theorem mX2_ruleAt : MV yX2_ruleAt cX2_ruleAt 5 ((some .int)) 2 := ⟨List.mem_of_getElem? (i := 623) (by decide +kernel), List.mem_of_getElem? (i := 31) (by decide +kernel), List.mem_of_getElem? (i := 621) (by decide +kernel), List.mem_of_getElem? (i := 622) (by decide +kernel), by decide +kernel, by decide +kernel, by decide +kernel⟩
theorem mX0_token : MV yX0_token cX0_token 2 ((some .int)) 1 := ⟨List.mem_of_getElem? (i := 627) (by decide +kernel), List.mem_of_getElem? (i := 72) (by decide +kernel), List.mem_of_getElem? (i := 625) (by decide +kernel), List.mem_of_getElem? (i := 626) (by decide +kernel), by decide +kernel, by decide +kernel, by decide +kernel⟩
theorem mX2_rewrite : MV yX2_rewrite cX2_rewrite 4 (none) 2 := ⟨List.mem_of_getElem? (i := 631) (by decide +kernel), List.mem_of_getElem? (i := 31) (by decide +kernel), List.mem_of_getElem? (i := 629) (by decide +kernel), List.mem_of_getElem? (i := 630) (by decide +kernel), by decide +kernel, by decide +kernel, by decide +kernel⟩
theorem mX0_addRange : MV yX0_addRange cX0_addRange 5 (none) 3 := ⟨List.mem_of_getElem? (i := 635) (by decide +kernel), List.mem_of_getElem? (i := 72) (by decide +kernel), List.mem_of_getElem? (i := 633) (by decide +kernel), List.mem_of_getElem? (i := 634) (by decide +kernel), by decide +kernel, by decide +kernel, by decide +kernel⟩
theorem mX2_writeBeta : MV yX2_writeBeta cX2_writeBeta 2 (none) 1 := ⟨List.mem_of_getElem? (i := 640) (by decide +kernel), List.mem_of_getElem? (i := 31) (by decide +kernel), List.mem_of_getElem? (i := 638) (by decide +kernel), List.mem_of_getElem? (i := 639) (by decide +kernel), by decide +kernel, by decide +kernel, by decide +kernel⟩
theorem mX0_addClosure : MV yX0_addClosure cX0_addClosure 3 (none) 2 := ⟨List.mem_of_getElem? (i := 644) (by decide +kernel), List.mem_of_getElem? (i := 72) (by decide +kernel), List.mem_of_getElem? (i := 642) (by decide +kernel), List.mem_of_getElem? (i := 643) (by decide +kernel), by decide +kernel, by decide +kernel, by decide +kernel⟩
theorem mX0_behind : MV yX0_behind cX0_behind 5 ((some .int)) 2 := ⟨List.mem_of_getElem? (i := 648) (by decide +kernel), List.mem_of_getElem? (i := 72) (by decide +kernel), List.mem_of_getElem? (i := 646) (by decide +kernel), List.mem_of_getElem? (i := 647) (by decide +kernel), by decide +kernel, by decide +kernel, by decide +kernel⟩
theorem mX0_entriesAt : MV yX0_entriesAt cX0_entriesAt 2 ((some .int)) 1 := ⟨List.mem_of_getElem? (i := 653) (by decide +kernel), List.mem_of_getElem? (i := 72) (by decide +kernel), List.mem_of_getElem? (i := 651) (by decide +kernel), List.mem_of_getElem? (i := 652) (by decide +kernel), by decide +kernel, by decide +kernel, by decide +kernel⟩
theorem mX2_writeApply : MV yX2_writeApply cX2_writeApply 7 (none) 1 := ⟨List.mem_of_getElem? (i := 657) (by decide +kernel), List.mem_of_getElem? (i := 31) (by decide +kernel), List.mem_of_getElem? (i := 655) (by decide +kernel), List.mem_of_getElem? (i := 656) (by decide +kernel), by decide +kernel, by decide +kernel, by decide +kernel⟩
theorem mX0_shiftAt : MV yX0_shiftAt cX0_shiftAt 2 ((some .int)) 1 := ⟨List.mem_of_getElem? (i := 662) (by decide +kernel), List.mem_of_getElem? (i := 72) (by decide +kernel), List.mem_of_getElem? (i := 660) (by decide +kernel), List.mem_of_getElem? (i := 661) (by decide +kernel), by decide +kernel, by decide +kernel, by decide +kernel⟩
theorem mX2_writeAbstract : MV yX2_writeAbstract cX2_writeAbstract 6 (none) 1 := ⟨List.mem_of_getElem? (i := 666) (by decide +kernel), List.mem_of_getElem? (i := 31) (by decide +kernel), List.mem_of_getElem? (i := 664) (by decide +kernel), List.mem_of_getElem? (i := 665) (by decide +kernel), by decide +kernel, by decide +kernel, by decide +kernel⟩
theorem mX0_isTooLarge : MV yX0_isTooLarge cX0_isTooLarge 1 ((some .boolean)) 0 := ⟨List.mem_of_getElem? (i := 670) (by decide +kernel), List.mem_of_getElem? (i := 72) (by decide +kernel), List.mem_of_getElem? (i := 668) (by decide +kernel), List.mem_of_getElem? (i := 669) (by decide +kernel), by decide +kernel, by decide +kernel, by decide +kernel⟩
theorem mX2_writeLookup : MV yX2_writeLookup cX2_writeLookup 5 (none) 1 := ⟨List.mem_of_getElem? (i := 674) (by decide +kernel), List.mem_of_getElem? (i := 31) (by decide +kernel), List.mem_of_getElem? (i := 672) (by decide +kernel), List.mem_of_getElem? (i := 673) (by decide +kernel), by decide +kernel, by decide +kernel, by decide +kernel⟩
theorem mX2_writeMerge : MV yX2_writeMerge cX2_writeMerge 12 (none) 1 := ⟨List.mem_of_getElem? (i := 678) (by decide +kernel), List.mem_of_getElem? (i := 31) (by decide +kernel), List.mem_of_getElem? (i := 676) (by decide +kernel), List.mem_of_getElem? (i := 677) (by decide +kernel), by decide +kernel, by decide +kernel, by decide +kernel⟩
theorem mX2_applications : MV yX2_applications cX2_applications 2 ((some .int)) 1 := ⟨List.mem_of_getElem? (i := 683) (by decide +kernel), List.mem_of_getElem? (i := 31) (by decide +kernel), List.mem_of_getElem? (i := 681) (by decide +kernel), List.mem_of_getElem? (i := 682) (by decide +kernel), by decide +kernel, by decide +kernel, by decide +kernel⟩
theorem mX9_machineSteps : MV yX9_machineSteps cX9_machineSteps 3 ((some .int)) 2 := ⟨List.mem_of_getElem? (i := 687) (by decide +kernel), List.mem_of_getElem? (i := 5) (by decide +kernel), List.mem_of_getElem? (i := 685) (by decide +kernel), List.mem_of_getElem? (i := 686) (by decide +kernel), by decide +kernel, by decide +kernel, by decide +kernel⟩
theorem mX9_machine : MV yX9_machine cX9_machine 6 ((some .boolean)) 1 := ⟨List.mem_of_getElem? (i := 692) (by decide +kernel), List.mem_of_getElem? (i := 5) (by decide +kernel), List.mem_of_getElem? (i := 690) (by decide +kernel), List.mem_of_getElem? (i := 691) (by decide +kernel), by decide +kernel, by decide +kernel, by decide +kernel⟩
theorem mX9_ruleAt : MV yX9_ruleAt cX9_ruleAt 4 ((some .int)) 2 := ⟨List.mem_of_getElem? (i := 698) (by decide +kernel), List.mem_of_getElem? (i := 5) (by decide +kernel), List.mem_of_getElem? (i := 696) (by decide +kernel), List.mem_of_getElem? (i := 697) (by decide +kernel), by decide +kernel, by decide +kernel, by decide +kernel⟩
theorem mX9_apply : MV yX9_apply cX9_apply 12 (none) 2 := ⟨List.mem_of_getElem? (i := 702) (by decide +kernel), List.mem_of_getElem? (i := 5) (by decide +kernel), List.mem_of_getElem? (i := 700) (by decide +kernel), List.mem_of_getElem? (i := 701) (by decide +kernel), by decide +kernel, by decide +kernel, by decide +kernel⟩
theorem mX9_addPart : MV yX9_addPart cX9_addPart 4 (none) 2 := ⟨List.mem_of_getElem? (i := 708) (by decide +kernel), List.mem_of_getElem? (i := 5) (by decide +kernel), List.mem_of_getElem? (i := 706) (by decide +kernel), List.mem_of_getElem? (i := 707) (by decide +kernel), by decide +kernel, by decide +kernel, by decide +kernel⟩
theorem mX9_add : MV yX9_add cX9_add 2 (none) 1 := ⟨List.mem_of_getElem? (i := 712) (by decide +kernel), List.mem_of_getElem? (i := 5) (by decide +kernel), List.mem_of_getElem? (i := 710) (by decide +kernel), List.mem_of_getElem? (i := 711) (by decide +kernel), by decide +kernel, by decide +kernel, by decide +kernel⟩
theorem mX9_merge : MV yX9_merge cX9_merge 13 (none) 4 := ⟨List.mem_of_getElem? (i := 716) (by decide +kernel), List.mem_of_getElem? (i := 5) (by decide +kernel), List.mem_of_getElem? (i := 714) (by decide +kernel), List.mem_of_getElem? (i := 715) (by decide +kernel), by decide +kernel, by decide +kernel, by decide +kernel⟩
theorem mX8_machinePeak : MV yX8_machinePeak cX8_machinePeak 2 ((some .int)) 1 := ⟨List.mem_of_getElem? (i := 720) (by decide +kernel), List.mem_of_getElem? (i := 2) (by decide +kernel), List.mem_of_getElem? (i := 718) (by decide +kernel), List.mem_of_getElem? (i := 719) (by decide +kernel), by decide +kernel, by decide +kernel, by decide +kernel⟩
theorem mX2_peak : MV yX2_peak cX2_peak 1 ((some .int)) 0 := ⟨List.mem_of_getElem? (i := 724) (by decide +kernel), List.mem_of_getElem? (i := 31) (by decide +kernel), List.mem_of_getElem? (i := 722) (by decide +kernel), List.mem_of_getElem? (i := 723) (by decide +kernel), by decide +kernel, by decide +kernel, by decide +kernel⟩
theorem mX9_machinePeak : MV yX9_machinePeak cX9_machinePeak 2 ((some .int)) 1 := ⟨List.mem_of_getElem? (i := 728) (by decide +kernel), List.mem_of_getElem? (i := 5) (by decide +kernel), List.mem_of_getElem? (i := 726) (by decide +kernel), List.mem_of_getElem? (i := 727) (by decide +kernel), by decide +kernel, by decide +kernel, by decide +kernel⟩
theorem mX8_runScript : MV yX8_runScript cX8_runScript 6 ((some .int)) 2 := ⟨List.mem_of_getElem? (i := 732) (by decide +kernel), List.mem_of_getElem? (i := 2) (by decide +kernel), List.mem_of_getElem? (i := 730) (by decide +kernel), List.mem_of_getElem? (i := 731) (by decide +kernel), by decide +kernel, by decide +kernel, by decide +kernel⟩
theorem mX8_withoutLowGroups : MS yX8_withoutLowGroups cX8_withoutLowGroups 6 ((some .long)) 2 := ⟨List.mem_of_getElem? (i := 736) (by decide +kernel), List.mem_of_getElem? (i := 2) (by decide +kernel), List.mem_of_getElem? (i := 735) (by decide +kernel), by decide +kernel, by decide +kernel, by decide +kernel⟩
theorem mX8_commandSucceeds : MV yX8_commandSucceeds cX8_commandSucceeds 4 ((some .boolean)) 1 := ⟨List.mem_of_getElem? (i := 740) (by decide +kernel), List.mem_of_getElem? (i := 2) (by decide +kernel), List.mem_of_getElem? (i := 738) (by decide +kernel), List.mem_of_getElem? (i := 739) (by decide +kernel), by decide +kernel, by decide +kernel, by decide +kernel⟩
theorem mX9_runScript : MV yX9_runScript cX9_runScript 6 ((some .int)) 2 := ⟨List.mem_of_getElem? (i := 744) (by decide +kernel), List.mem_of_getElem? (i := 5) (by decide +kernel), List.mem_of_getElem? (i := 742) (by decide +kernel), List.mem_of_getElem? (i := 743) (by decide +kernel), by decide +kernel, by decide +kernel, by decide +kernel⟩
theorem mX9_thousands : MS yX9_thousands cX9_thousands 4 ((some .long)) 1 := ⟨List.mem_of_getElem? (i := 748) (by decide +kernel), List.mem_of_getElem? (i := 5) (by decide +kernel), List.mem_of_getElem? (i := 747) (by decide +kernel), by decide +kernel, by decide +kernel, by decide +kernel⟩
theorem mX9_command : MV yX9_command cX9_command 8 ((some .boolean)) 3 := ⟨List.mem_of_getElem? (i := 752) (by decide +kernel), List.mem_of_getElem? (i := 5) (by decide +kernel), List.mem_of_getElem? (i := 750) (by decide +kernel), List.mem_of_getElem? (i := 751) (by decide +kernel), by decide +kernel, by decide +kernel, by decide +kernel⟩
theorem mX8_observe : MV yX8_observe cX8_observe 3 ((some .int)) 2 := ⟨List.mem_of_getElem? (i := 756) (by decide +kernel), List.mem_of_getElem? (i := 2) (by decide +kernel), List.mem_of_getElem? (i := 754) (by decide +kernel), List.mem_of_getElem? (i := 755) (by decide +kernel), by decide +kernel, by decide +kernel, by decide +kernel⟩
theorem mX3_add : MV yX3_add cX3_add 3 (none) 2 := ⟨List.mem_of_getElem? (i := 760) (by decide +kernel), List.mem_of_getElem? (i := 43) (by decide +kernel), List.mem_of_getElem? (i := 758) (by decide +kernel), List.mem_of_getElem? (i := 759) (by decide +kernel), by decide +kernel, by decide +kernel, by decide +kernel⟩
theorem mX3_dropOldest : MV yX3_dropOldest cX3_dropOldest 2 (none) 0 := ⟨List.mem_of_getElem? (i := 764) (by decide +kernel), List.mem_of_getElem? (i := 43) (by decide +kernel), List.mem_of_getElem? (i := 762) (by decide +kernel), List.mem_of_getElem? (i := 763) (by decide +kernel), by decide +kernel, by decide +kernel, by decide +kernel⟩
theorem mX3_count : MV yX3_count cX3_count 1 ((some .int)) 0 := ⟨List.mem_of_getElem? (i := 768) (by decide +kernel), List.mem_of_getElem? (i := 43) (by decide +kernel), List.mem_of_getElem? (i := 766) (by decide +kernel), List.mem_of_getElem? (i := 767) (by decide +kernel), by decide +kernel, by decide +kernel, by decide +kernel⟩
theorem mX9_observe : MV yX9_observe cX9_observe 4 ((some .int)) 2 := ⟨List.mem_of_getElem? (i := 772) (by decide +kernel), List.mem_of_getElem? (i := 5) (by decide +kernel), List.mem_of_getElem? (i := 770) (by decide +kernel), List.mem_of_getElem? (i := 771) (by decide +kernel), by decide +kernel, by decide +kernel, by decide +kernel⟩
theorem mX8_forgetAfter : MV yX8_forgetAfter cX8_forgetAfter 2 ((some .int)) 1 := ⟨List.mem_of_getElem? (i := 777) (by decide +kernel), List.mem_of_getElem? (i := 2) (by decide +kernel), List.mem_of_getElem? (i := 775) (by decide +kernel), List.mem_of_getElem? (i := 776) (by decide +kernel), by decide +kernel, by decide +kernel, by decide +kernel⟩
theorem mX3_keepUpTo : MV yX3_keepUpTo cX3_keepUpTo 4 (none) 1 := ⟨List.mem_of_getElem? (i := 781) (by decide +kernel), List.mem_of_getElem? (i := 43) (by decide +kernel), List.mem_of_getElem? (i := 779) (by decide +kernel), List.mem_of_getElem? (i := 780) (by decide +kernel), by decide +kernel, by decide +kernel, by decide +kernel⟩
theorem mX9_forgetAfter : MV yX9_forgetAfter cX9_forgetAfter 4 ((some .int)) 1 := ⟨List.mem_of_getElem? (i := 785) (by decide +kernel), List.mem_of_getElem? (i := 5) (by decide +kernel), List.mem_of_getElem? (i := 783) (by decide +kernel), List.mem_of_getElem? (i := 784) (by decide +kernel), by decide +kernel, by decide +kernel, by decide +kernel⟩
theorem mX8_possibleStrategies : MV yX8_possibleStrategies cX8_possibleStrategies 3 ((some .int)) 0 := ⟨List.mem_of_getElem? (i := 789) (by decide +kernel), List.mem_of_getElem? (i := 2) (by decide +kernel), List.mem_of_getElem? (i := 787) (by decide +kernel), List.mem_of_getElem? (i := 788) (by decide +kernel), by decide +kernel, by decide +kernel, by decide +kernel⟩
theorem mX8_observationsHold : MV yX8_observationsHold cX8_observationsHold 4 ((some .boolean)) 1 := ⟨List.mem_of_getElem? (i := 793) (by decide +kernel), List.mem_of_getElem? (i := 2) (by decide +kernel), List.mem_of_getElem? (i := 791) (by decide +kernel), List.mem_of_getElem? (i := 792) (by decide +kernel), by decide +kernel, by decide +kernel, by decide +kernel⟩
theorem mX3_greatestLimit : MV yX3_greatestLimit cX3_greatestLimit 3 ((some .int)) 0 := ⟨List.mem_of_getElem? (i := 798) (by decide +kernel), List.mem_of_getElem? (i := 43) (by decide +kernel), List.mem_of_getElem? (i := 796) (by decide +kernel), List.mem_of_getElem? (i := 797) (by decide +kernel), by decide +kernel, by decide +kernel, by decide +kernel⟩
theorem mX3_allow : MV yX3_allow cX3_allow 4 ((some .boolean)) 2 := ⟨List.mem_of_getElem? (i := 803) (by decide +kernel), List.mem_of_getElem? (i := 43) (by decide +kernel), List.mem_of_getElem? (i := 801) (by decide +kernel), List.mem_of_getElem? (i := 802) (by decide +kernel), by decide +kernel, by decide +kernel, by decide +kernel⟩
theorem mX9_possibleStrategies : MV yX9_possibleStrategies cX9_possibleStrategies 5 ((some .int)) 0 := ⟨List.mem_of_getElem? (i := 807) (by decide +kernel), List.mem_of_getElem? (i := 5) (by decide +kernel), List.mem_of_getElem? (i := 805) (by decide +kernel), List.mem_of_getElem? (i := 806) (by decide +kernel), by decide +kernel, by decide +kernel, by decide +kernel⟩
theorem mX8_setSeed : MV yX8_setSeed cX8_setSeed 5 ((some .long)) 1 := ⟨List.mem_of_getElem? (i := 811) (by decide +kernel), List.mem_of_getElem? (i := 2) (by decide +kernel), List.mem_of_getElem? (i := 809) (by decide +kernel), List.mem_of_getElem? (i := 810) (by decide +kernel), by decide +kernel, by decide +kernel, by decide +kernel⟩
theorem mX9_setSeed : MV yX9_setSeed cX9_setSeed 5 ((some .long)) 1 := ⟨List.mem_of_getElem? (i := 815) (by decide +kernel), List.mem_of_getElem? (i := 5) (by decide +kernel), List.mem_of_getElem? (i := 813) (by decide +kernel), List.mem_of_getElem? (i := 814) (by decide +kernel), by decide +kernel, by decide +kernel, by decide +kernel⟩
theorem mX8_randomReduction : MV yX8_randomReduction cX8_randomReduction 4 ((some .int)) 1 := ⟨List.mem_of_getElem? (i := 820) (by decide +kernel), List.mem_of_getElem? (i := 2) (by decide +kernel), List.mem_of_getElem? (i := 818) (by decide +kernel), List.mem_of_getElem? (i := 819) (by decide +kernel), by decide +kernel, by decide +kernel, by decide +kernel⟩
theorem mX8_randomStepOnCopy : MV yX8_randomStepOnCopy cX8_randomStepOnCopy 3 (none) 0 := ⟨List.mem_of_getElem? (i := 824) (by decide +kernel), List.mem_of_getElem? (i := 2) (by decide +kernel), List.mem_of_getElem? (i := 822) (by decide +kernel), List.mem_of_getElem? (i := 823) (by decide +kernel), by decide +kernel, by decide +kernel, by decide +kernel⟩
theorem mX5_numberedRedex : MS yX5_numberedRedex cX5_numberedRedex 4 ((some .int)) 2 := ⟨List.mem_of_getElem? (i := 829) (by decide +kernel), List.mem_of_getElem? (i := 27) (by decide +kernel), List.mem_of_getElem? (i := 828) (by decide +kernel), by decide +kernel, by decide +kernel, by decide +kernel⟩
theorem mX9_randomReduction : MV yX9_randomReduction cX9_randomReduction 6 ((some .int)) 1 := ⟨List.mem_of_getElem? (i := 833) (by decide +kernel), List.mem_of_getElem? (i := 5) (by decide +kernel), List.mem_of_getElem? (i := 831) (by decide +kernel), List.mem_of_getElem? (i := 832) (by decide +kernel), by decide +kernel, by decide +kernel, by decide +kernel⟩
theorem mX9_redexNumber : MS yX9_redexNumber cX9_redexNumber 4 ((some .int)) 2 := ⟨List.mem_of_getElem? (i := 839) (by decide +kernel), List.mem_of_getElem? (i := 5) (by decide +kernel), List.mem_of_getElem? (i := 838) (by decide +kernel), by decide +kernel, by decide +kernel, by decide +kernel⟩
theorem mX8_save : MV yX8_save cX8_save 2 ((some .int)) 1 := ⟨List.mem_of_getElem? (i := 843) (by decide +kernel), List.mem_of_getElem? (i := 2) (by decide +kernel), List.mem_of_getElem? (i := 841) (by decide +kernel), List.mem_of_getElem? (i := 842) (by decide +kernel), by decide +kernel, by decide +kernel, by decide +kernel⟩
theorem mX9_save : MV yX9_save cX9_save 3 ((some .int)) 1 := ⟨List.mem_of_getElem? (i := 847) (by decide +kernel), List.mem_of_getElem? (i := 5) (by decide +kernel), List.mem_of_getElem? (i := 845) (by decide +kernel), List.mem_of_getElem? (i := 846) (by decide +kernel), by decide +kernel, by decide +kernel, by decide +kernel⟩
theorem mX8_restore : MV yX8_restore cX8_restore 3 ((some .int)) 1 := ⟨List.mem_of_getElem? (i := 851) (by decide +kernel), List.mem_of_getElem? (i := 2) (by decide +kernel), List.mem_of_getElem? (i := 849) (by decide +kernel), List.mem_of_getElem? (i := 850) (by decide +kernel), by decide +kernel, by decide +kernel, by decide +kernel⟩
theorem mX9_restore : MV yX9_restore cX9_restore 2 ((some .int)) 1 := ⟨List.mem_of_getElem? (i := 855) (by decide +kernel), List.mem_of_getElem? (i := 5) (by decide +kernel), List.mem_of_getElem? (i := 853) (by decide +kernel), List.mem_of_getElem? (i := 854) (by decide +kernel), by decide +kernel, by decide +kernel, by decide +kernel⟩
theorem q_min1 : Cond.static Lib.Math.min.name ∈ wsL_law := List.mem_of_getElem? (i := 250) (by decide +kernel)
theorem q_max1 : Cond.static Lib.Math.max.name ∈ wsL_law := List.mem_of_getElem? (i := 592) (by decide +kernel)
theorem q_min2 : Cond.code Lib.Math.min.name Lib.Math.min.code 2 (some .int) ∈ wsL_law := List.mem_of_getElem? (i := 252) (by decide +kernel)
theorem q_max2 : Cond.code Lib.Math.max.name Lib.Math.max.code 2 (some .int) ∈ wsL_law := List.mem_of_getElem? (i := 593) (by decide +kernel)
theorem q_math1 : Cond.initialized "java/lang/Math" ∈ wsL_law := List.mem_of_getElem? (i := 251) (by decide +kernel)
theorem q_cp1 : Cond.native arraycopyName ∈ wsL_law := List.mem_of_getElem? (i := 364) (by decide +kernel)
theorem q_cp2 : Cond.static arraycopyName ∈ wsL_law := List.mem_of_getElem? (i := 365) (by decide +kernel)
theorem q_cp3 : Cond.initialized "java/lang/System" ∈ wsL_law := List.mem_of_getElem? (i := 366) (by decide +kernel)
