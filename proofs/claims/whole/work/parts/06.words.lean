theorem q0 : Cond.selects RX10 yX10_sheetAt yX10_sheetAt ∈ big := big_of (List.mem_of_getElem? (i := 0) (by decide +kernel)) rfl
theorem q1 : Cond.selects RX10 yX10_found yX10_found ∈ big := big_of (List.mem_of_getElem? (i := 1) (by decide +kernel)) rfl
theorem q2 : Cond.selects RX4 yX4_cutQuotes yX4_cutQuotes ∈ big := big_of (List.mem_of_getElem? (i := 2) (by decide +kernel)) rfl
theorem q3 : Cond.selects RX4 yX4_findWords yX4_findWords ∈ big := big_of (List.mem_of_getElem? (i := 3) (by decide +kernel)) rfl
theorem q4 : Cond.selects RX4 yX4_beginWord yX4_beginWord ∈ big := big_of (List.mem_of_getElem? (i := 4) (by decide +kernel)) rfl
theorem q5 : Cond.selects RX4 yX4_lengthenWord yX4_lengthenWord ∈ big := big_of (List.mem_of_getElem? (i := 5) (by decide +kernel)) rfl
theorem q6 : Cond.selects RX2 yX2_featureAt yX2_featureAt ∈ big := big_of (List.mem_of_getElem? (i := 6) (by decide +kernel)) rfl
theorem q7 : Cond.selects RX0 yX0_fits yX0_fits ∈ big := big_of (List.mem_of_getElem? (i := 7) (by decide +kernel)) rfl
theorem q8 : Cond.selects RX0 yX0_hasLetters yX0_hasLetters ∈ big := big_of (List.mem_of_getElem? (i := 8) (by decide +kernel)) rfl
theorem q9 : Cond.selects RX10 yX10_textAt yX10_textAt ∈ big := big_of (List.mem_of_getElem? (i := 9) (by decide +kernel)) rfl
theorem q10 : Cond.selects RX10 yX10_readHandsFor yX10_readHandsFor ∈ big := big_of (List.mem_of_getElem? (i := 10) (by decide +kernel)) rfl
theorem q11 : Cond.selects RX10 yX10_nearestWriter yX10_nearestWriter ∈ big := big_of (List.mem_of_getElem? (i := 11) (by decide +kernel)) rfl
theorem q12 : Cond.selects RX9 yX9_begin yX9_begin ∈ big := big_of (List.mem_of_getElem? (i := 12) (by decide +kernel)) rfl
theorem q13 : Cond.selects RX9 yX9_findNearestPair yX9_findNearestPair ∈ big := big_of (List.mem_of_getElem? (i := 13) (by decide +kernel)) rfl
theorem q14 : Cond.selects RX9 yX9_joinPair yX9_joinPair ∈ big := big_of (List.mem_of_getElem? (i := 14) (by decide +kernel)) rfl
theorem q15 : Cond.selects RX10 yX10_addToShuffles yX10_addToShuffles ∈ big := big_of (List.mem_of_getElem? (i := 15) (by decide +kernel)) rfl
theorem q16 : Cond.selects RX6 yX6_takeOn yX6_takeOn ∈ big := big_of (List.mem_of_getElem? (i := 16) (by decide +kernel)) rfl
theorem q17 : Cond.selects RX6 yX6_difference yX6_difference ∈ big := big_of (List.mem_of_getElem? (i := 17) (by decide +kernel)) rfl
theorem q18 : Cond.selects RX6 yX6_takeNext yX6_takeNext ∈ big := big_of (List.mem_of_getElem? (i := 18) (by decide +kernel)) rfl
theorem q19 : Cond.selects RX10 yX10_countedOf yX10_countedOf ∈ big := big_of (List.mem_of_getElem? (i := 19) (by decide +kernel)) rfl
theorem q20 : Cond.selects RX10 yX10_textsThere yX10_textsThere ∈ big := big_of (List.mem_of_getElem? (i := 20) (by decide +kernel)) rfl
theorem q21 : Cond.selects RX10 yX10_digestText yX10_digestText ∈ big := big_of (List.mem_of_getElem? (i := 21) (by decide +kernel)) rfl
theorem q22 : Cond.selects RX11 yX11_meets yX11_meets ∈ big := big_of (List.mem_of_getElem? (i := 22) (by decide +kernel)) rfl
theorem q23 : Cond.selects RX11 yX11_looked yX11_looked ∈ big := big_of (List.mem_of_getElem? (i := 23) (by decide +kernel)) rfl
theorem q24 : Cond.selects RX11 yX11_read yX11_read ∈ big := big_of (List.mem_of_getElem? (i := 24) (by decide +kernel)) rfl
theorem q25 : Cond.selects RX11 yX11_isText yX11_isText ∈ big := big_of (List.mem_of_getElem? (i := 25) (by decide +kernel)) rfl
theorem q26 : Cond.selects RX11 yX11_tells yX11_tells ∈ big := big_of (List.mem_of_getElem? (i := 26) (by decide +kernel)) rfl
theorem q27 : Cond.selects RX11 yX11_isFeature yX11_isFeature ∈ big := big_of (List.mem_of_getElem? (i := 27) (by decide +kernel)) rfl
theorem q28 : Cond.selects RX11 yX11_askedFor yX11_askedFor ∈ big := big_of (List.mem_of_getElem? (i := 28) (by decide +kernel)) rfl
theorem q29 : Cond.selects RX11 yX11_countOf yX11_countOf ∈ big := big_of (List.mem_of_getElem? (i := 29) (by decide +kernel)) rfl
theorem q30 : Cond.selects RX11 yX11_countIn yX11_countIn ∈ big := big_of (List.mem_of_getElem? (i := 30) (by decide +kernel)) rfl
theorem q31 : Cond.selects RX11 yX11_isLike yX11_isLike ∈ big := big_of (List.mem_of_getElem? (i := 31) (by decide +kernel)) rfl
theorem q32 : Cond.selects RX11 yX11_setCounts yX11_setCounts ∈ big := big_of (List.mem_of_getElem? (i := 32) (by decide +kernel)) rfl
theorem q33 : Cond.selects RX11 yX11_rateIn yX11_rateIn ∈ big := big_of (List.mem_of_getElem? (i := 33) (by decide +kernel)) rfl
theorem q34 : Cond.selects RX11 yX11_handOf yX11_handOf ∈ big := big_of (List.mem_of_getElem? (i := 34) (by decide +kernel)) rfl
theorem q35 : Cond.selects RX11 yX11_allFeatures yX11_allFeatures ∈ big := big_of (List.mem_of_getElem? (i := 35) (by decide +kernel)) rfl
theorem q36 : Cond.selects RX11 yX11_farOf yX11_farOf ∈ big := big_of (List.mem_of_getElem? (i := 36) (by decide +kernel)) rfl
theorem q37 : Cond.selects RX11 yX11_differing yX11_differing ∈ big := big_of (List.mem_of_getElem? (i := 37) (by decide +kernel)) rfl
theorem q38 : Cond.selects RX11 yX11_nearestOf yX11_nearestOf ∈ big := big_of (List.mem_of_getElem? (i := 38) (by decide +kernel)) rfl
theorem q39 : Cond.selects RX11 yX11_windowFar yX11_windowFar ∈ big := big_of (List.mem_of_getElem? (i := 39) (by decide +kernel)) rfl
theorem q40 : Cond.selects RX11 yX11_joinTwo yX11_joinTwo ∈ big := big_of (List.mem_of_getElem? (i := 40) (by decide +kernel)) rfl
theorem q41 : Cond.selects RX11 yX11_apart yX11_apart ∈ big := big_of (List.mem_of_getElem? (i := 41) (by decide +kernel)) rfl
theorem q42 : Cond.selects RX11 yX11_tellsCount yX11_tellsCount ∈ big := big_of (List.mem_of_getElem? (i := 42) (by decide +kernel)) rfl
theorem q44 : Cond.initialized RX10 ∈ big := big_of (List.mem_of_getElem? (i := 44) (by decide +kernel)) rfl
theorem q45 : Cond.initialized RX2 ∈ big := big_of (List.mem_of_getElem? (i := 45) (by decide +kernel)) rfl
theorem q46 : Cond.initialized RX1 ∈ big := big_of (List.mem_of_getElem? (i := 46) (by decide +kernel)) rfl
theorem q47 : Cond.initialized RX7 ∈ big := big_of (List.mem_of_getElem? (i := 47) (by decide +kernel)) rfl
theorem q48 : Cond.initialized RX3 ∈ big := big_of (List.mem_of_getElem? (i := 48) (by decide +kernel)) rfl
theorem q49 : Cond.initialized RX9 ∈ big := big_of (List.mem_of_getElem? (i := 49) (by decide +kernel)) rfl
theorem q50 : Cond.initialized RX6 ∈ big := big_of (List.mem_of_getElem? (i := 50) (by decide +kernel)) rfl
theorem q51 : Cond.initialized RX4 ∈ big := big_of (List.mem_of_getElem? (i := 51) (by decide +kernel)) rfl
theorem q52 : Cond.initialized RX5 ∈ big := big_of (List.mem_of_getElem? (i := 52) (by decide +kernel)) rfl
theorem q53 : Cond.initialized RX11 ∈ big := big_of (List.mem_of_getElem? (i := 53) (by decide +kernel)) rfl
theorem q54 : Cond.initialized "java/lang/System" ∈ big := big_of (List.mem_of_getElem? (i := 54) (by decide +kernel)) rfl
theorem q55 : Cond.initialized RX8 ∈ big := big_of (List.mem_of_getElem? (i := 55) (by decide +kernel)) rfl
theorem q56 : Cond.initialized "java/lang/Math" ∈ big := big_of (List.mem_of_getElem? (i := 56) (by decide +kernel)) rfl
theorem q57 : Cond.initialized RX0 ∈ big := big_of (List.mem_of_getElem? (i := 57) (by decide +kernel)) rfl
theorem q78 : Cond.fieldLink RX2 11 "WhoseHand$Measure" "features" "[LWhoseHand$Feature;" ∈ big := big_of (List.mem_of_getElem? (i := 78) (by decide +kernel)) rfl
theorem q79 : Cond.fieldLink RX2 17 "WhoseHand$Measure" "bySign" "[Z" ∈ big := big_of (List.mem_of_getElem? (i := 79) (by decide +kernel)) rfl
theorem q80 : Cond.fieldLink RX2 21 "WhoseHand$Measure" "size" "I" ∈ big := big_of (List.mem_of_getElem? (i := 80) (by decide +kernel)) rfl
theorem q81 : Cond.fieldLinkNest RX10 241 "WhoseHand$Measure" "size" "I" "WhoseHand" ∈ nstw := nst_of (List.mem_of_getElem? (i := 81) (by decide +kernel)) rfl
theorem q82 : Cond.fieldLink RX2 93 "WhoseHand$Measure" "farnessSort" "I" ∈ big := big_of (List.mem_of_getElem? (i := 82) (by decide +kernel)) rfl
theorem q83 : Cond.fieldLinkNest RX10 205 "WhoseHand$Measure" "farnessSort" "I" "WhoseHand" ∈ nstw := nst_of (List.mem_of_getElem? (i := 83) (by decide +kernel)) rfl
theorem q108 : Cond.fieldLink RX7 9 "WhoseHand$Tally" "counts" "[I" ∈ big := big_of (List.mem_of_getElem? (i := 108) (by decide +kernel)) rfl
theorem q109 : Cond.fieldLink RX7 15 "WhoseHand$Tally" "words" "I" ∈ big := big_of (List.mem_of_getElem? (i := 109) (by decide +kernel)) rfl
theorem q110 : Cond.fieldLinkNest RX2 57 "WhoseHand$Tally" "words" "I" "WhoseHand" ∈ nstw := nst_of (List.mem_of_getElem? (i := 110) (by decide +kernel)) rfl
theorem q111 : Cond.fieldLink RX7 19 "WhoseHand$Tally" "lettersAndMarks" "I" ∈ big := big_of (List.mem_of_getElem? (i := 111) (by decide +kernel)) rfl
theorem q112 : Cond.fieldLinkNest RX2 61 "WhoseHand$Tally" "lettersAndMarks" "I" "WhoseHand" ∈ nstw := nst_of (List.mem_of_getElem? (i := 112) (by decide +kernel)) rfl
theorem q121 : Cond.fieldLink RX1 11 "WhoseHand$Hands" "rates" "[[I" ∈ big := big_of (List.mem_of_getElem? (i := 121) (by decide +kernel)) rfl
theorem q122 : Cond.fieldLink RX1 16 "WhoseHand$Hands" "there" "[Z" ∈ big := big_of (List.mem_of_getElem? (i := 122) (by decide +kernel)) rfl
theorem q123 : Cond.fieldLink RX1 23 "WhoseHand$Hands" "tally" "LWhoseHand$Tally;" ∈ big := big_of (List.mem_of_getElem? (i := 123) (by decide +kernel)) rfl
theorem q139 : Cond.fieldLink RX3 9 "WhoseHand$Parting" "firstPrices" "[I" ∈ big := big_of (List.mem_of_getElem? (i := 139) (by decide +kernel)) rfl
theorem q140 : Cond.fieldLink RX3 15 "WhoseHand$Parting" "secondPrices" "[I" ∈ big := big_of (List.mem_of_getElem? (i := 140) (by decide +kernel)) rfl
theorem q141 : Cond.fieldLink RX3 18 "WhoseHand$Parting" "firstTails" "[J" ∈ big := big_of (List.mem_of_getElem? (i := 141) (by decide +kernel)) rfl
theorem q142 : Cond.fieldLink RX3 22 "WhoseHand$Parting" "secondTails" "[J" ∈ big := big_of (List.mem_of_getElem? (i := 142) (by decide +kernel)) rfl
theorem q143 : Cond.fieldLink RX3 25 "WhoseHand$Parting" "owners" "[I" ∈ big := big_of (List.mem_of_getElem? (i := 143) (by decide +kernel)) rfl
theorem q144 : Cond.fieldLink RX3 28 "WhoseHand$Parting" "row" "[I" ∈ big := big_of (List.mem_of_getElem? (i := 144) (by decide +kernel)) rfl
theorem q145 : Cond.fieldLink RX3 34 "WhoseHand$Parting" "tally" "LWhoseHand$Tally;" ∈ big := big_of (List.mem_of_getElem? (i := 145) (by decide +kernel)) rfl
theorem q146 : Cond.fieldLink RX3 44 "WhoseHand$Parting" "windows" "I" ∈ big := big_of (List.mem_of_getElem? (i := 146) (by decide +kernel)) rfl
theorem q175 : Cond.fieldLink RX9 11 "WhoseHand$Tree" "groups" "[LWhoseHand$Tally;" ∈ big := big_of (List.mem_of_getElem? (i := 175) (by decide +kernel)) rfl
theorem q176 : Cond.fieldLink RX9 19 "WhoseHand$Tree" "rates" "[[I" ∈ big := big_of (List.mem_of_getElem? (i := 176) (by decide +kernel)) rfl
theorem q177 : Cond.fieldLink RX9 22 "WhoseHand$Tree" "there" "[Z" ∈ big := big_of (List.mem_of_getElem? (i := 177) (by decide +kernel)) rfl
theorem q178 : Cond.fieldLink RX9 26 "WhoseHand$Tree" "lesser" "[I" ∈ big := big_of (List.mem_of_getElem? (i := 178) (by decide +kernel)) rfl
theorem q179 : Cond.fieldLink RX9 30 "WhoseHand$Tree" "other" "[I" ∈ big := big_of (List.mem_of_getElem? (i := 179) (by decide +kernel)) rfl
theorem q180 : Cond.fieldLink RX9 33 "WhoseHand$Tree" "farnesses" "[I" ∈ big := big_of (List.mem_of_getElem? (i := 180) (by decide +kernel)) rfl
theorem q181 : Cond.fieldLink RX9 41 "WhoseHand$Tree" "joins" "I" ∈ big := big_of (List.mem_of_getElem? (i := 181) (by decide +kernel)) rfl
theorem q203 : Cond.fieldLink RX6 9 "WhoseHand$Shuffles" "counts" "[I" ∈ big := big_of (List.mem_of_getElem? (i := 203) (by decide +kernel)) rfl
theorem q204 : Cond.fieldLink RX6 15 "WhoseHand$Shuffles" "wholes" "[I" ∈ big := big_of (List.mem_of_getElem? (i := 204) (by decide +kernel)) rfl
theorem q205 : Cond.fieldLink RX6 18 "WhoseHand$Shuffles" "taken" "[I" ∈ big := big_of (List.mem_of_getElem? (i := 205) (by decide +kernel)) rfl
theorem q206 : Cond.fieldLink RX6 21 "WhoseHand$Shuffles" "countsOfFirst" "[I" ∈ big := big_of (List.mem_of_getElem? (i := 206) (by decide +kernel)) rfl
theorem q207 : Cond.fieldLink RX6 24 "WhoseHand$Shuffles" "wholesOfFirst" "[I" ∈ big := big_of (List.mem_of_getElem? (i := 207) (by decide +kernel)) rfl
theorem q208 : Cond.fieldLink RX6 27 "WhoseHand$Shuffles" "texts" "I" ∈ big := big_of (List.mem_of_getElem? (i := 208) (by decide +kernel)) rfl
theorem q209 : Cond.fieldLink RX6 46 "WhoseHand$Shuffles" "takes" "I" ∈ big := big_of (List.mem_of_getElem? (i := 209) (by decide +kernel)) rfl
theorem q210 : Cond.fieldLink RX6 31 "WhoseHand$Shuffles" "allCounts" "I" ∈ big := big_of (List.mem_of_getElem? (i := 210) (by decide +kernel)) rfl
theorem q211 : Cond.fieldLink RX6 34 "WhoseHand$Shuffles" "allWholes" "I" ∈ big := big_of (List.mem_of_getElem? (i := 211) (by decide +kernel)) rfl
theorem q212 : Cond.fieldLink RX6 49 "WhoseHand$Shuffles" "ways" "I" ∈ big := big_of (List.mem_of_getElem? (i := 212) (by decide +kernel)) rfl
theorem q213 : Cond.fieldLinkNest RX10 294 "WhoseHand$Shuffles" "ways" "I" "WhoseHand" ∈ nstw := nst_of (List.mem_of_getElem? (i := 213) (by decide +kernel)) rfl
theorem q241 : Cond.fieldLink RX4 9 "WhoseHand$Prose" "signs" "[B" ∈ big := big_of (List.mem_of_getElem? (i := 241) (by decide +kernel)) rfl
theorem q242 : Cond.fieldLink RX4 15 "WhoseHand$Prose" "starts" "[I" ∈ big := big_of (List.mem_of_getElem? (i := 242) (by decide +kernel)) rfl
theorem q243 : Cond.fieldLink RX4 19 "WhoseHand$Prose" "lengths" "[I" ∈ big := big_of (List.mem_of_getElem? (i := 243) (by decide +kernel)) rfl
theorem q244 : Cond.fieldLink RX4 34 "WhoseHand$Prose" "size" "I" ∈ big := big_of (List.mem_of_getElem? (i := 244) (by decide +kernel)) rfl
theorem q245 : Cond.fieldLinkNest RX3 48 "WhoseHand$Prose" "words" "I" "WhoseHand" ∈ nstw := nst_of (List.mem_of_getElem? (i := 245) (by decide +kernel)) rfl
theorem q246 : Cond.fieldLinkNest RX0 38 "WhoseHand$Prose" "words" "I" "WhoseHand" ∈ nstw := nst_of (List.mem_of_getElem? (i := 246) (by decide +kernel)) rfl
theorem q247 : Cond.fieldLink RX4 52 "WhoseHand$Prose" "words" "I" ∈ big := big_of (List.mem_of_getElem? (i := 247) (by decide +kernel)) rfl
theorem q248 : Cond.fieldLinkNest RX8 46 "WhoseHand$Prose" "words" "I" "WhoseHand" ∈ nstw := nst_of (List.mem_of_getElem? (i := 248) (by decide +kernel)) rfl
theorem q249 : Cond.fieldLinkNest RX2 52 "WhoseHand$Prose" "words" "I" "WhoseHand" ∈ nstw := nst_of (List.mem_of_getElem? (i := 249) (by decide +kernel)) rfl
theorem q250 : Cond.fieldLinkNest RX10 153 "WhoseHand$Prose" "words" "I" "WhoseHand" ∈ nstw := nst_of (List.mem_of_getElem? (i := 250) (by decide +kernel)) rfl
theorem q251 : Cond.fieldLink RX4 55 "WhoseHand$Prose" "letters" "I" ∈ big := big_of (List.mem_of_getElem? (i := 251) (by decide +kernel)) rfl
theorem q252 : Cond.fieldLinkNest RX10 202 "WhoseHand$Prose" "letters" "I" "WhoseHand" ∈ nstw := nst_of (List.mem_of_getElem? (i := 252) (by decide +kernel)) rfl
theorem q253 : Cond.fieldLink RX4 58 "WhoseHand$Prose" "lettersAndMarks" "I" ∈ big := big_of (List.mem_of_getElem? (i := 253) (by decide +kernel)) rfl
theorem q254 : Cond.fieldLinkNest RX8 49 "WhoseHand$Prose" "lettersAndMarks" "I" "WhoseHand" ∈ nstw := nst_of (List.mem_of_getElem? (i := 254) (by decide +kernel)) rfl
theorem q255 : Cond.fieldLinkNest RX2 58 "WhoseHand$Prose" "lettersAndMarks" "I" "WhoseHand" ∈ nstw := nst_of (List.mem_of_getElem? (i := 255) (by decide +kernel)) rfl
theorem q256 : Cond.fieldLink RX4 42 "WhoseHand$Prose" "quotes" "I" ∈ big := big_of (List.mem_of_getElem? (i := 256) (by decide +kernel)) rfl
theorem q257 : Cond.fieldLinkNest RX8 52 "WhoseHand$Prose" "quotes" "I" "WhoseHand" ∈ nstw := nst_of (List.mem_of_getElem? (i := 257) (by decide +kernel)) rfl
theorem q281 : Cond.fieldLink RX5 9 "WhoseHand$Sheet" "signs" "[B" ∈ big := big_of (List.mem_of_getElem? (i := 281) (by decide +kernel)) rfl
theorem q282 : Cond.fieldLink RX5 15 "WhoseHand$Sheet" "size" "I" ∈ big := big_of (List.mem_of_getElem? (i := 282) (by decide +kernel)) rfl
theorem q283 : Cond.fieldLinkNest RX4 22 "WhoseHand$Sheet" "size" "I" "WhoseHand" ∈ nstw := nst_of (List.mem_of_getElem? (i := 283) (by decide +kernel)) rfl
theorem q289 : Cond.fieldLink RX10 11 "WhoseHand" "sheets" "[LWhoseHand$Sheet;" ∈ big := big_of (List.mem_of_getElem? (i := 289) (by decide +kernel)) rfl
theorem q290 : Cond.fieldLink RX10 17 "WhoseHand" "texts" "[LWhoseHand$Text;" ∈ big := big_of (List.mem_of_getElem? (i := 290) (by decide +kernel)) rfl
theorem q291 : Cond.fieldLink RX10 24 "WhoseHand" "measure" "LWhoseHand$Measure;" ∈ big := big_of (List.mem_of_getElem? (i := 291) (by decide +kernel)) rfl
theorem q292 : Cond.fieldLink RX10 31 "WhoseHand" "hands" "LWhoseHand$Hands;" ∈ big := big_of (List.mem_of_getElem? (i := 292) (by decide +kernel)) rfl
theorem q293 : Cond.fieldLink RX10 38 "WhoseHand" "parting" "LWhoseHand$Parting;" ∈ big := big_of (List.mem_of_getElem? (i := 293) (by decide +kernel)) rfl
theorem q294 : Cond.fieldLink RX10 45 "WhoseHand" "tree" "LWhoseHand$Tree;" ∈ big := big_of (List.mem_of_getElem? (i := 294) (by decide +kernel)) rfl
theorem q295 : Cond.fieldLink RX10 52 "WhoseHand" "shuffles" "LWhoseHand$Shuffles;" ∈ big := big_of (List.mem_of_getElem? (i := 295) (by decide +kernel)) rfl
theorem q297 : Cond.fieldLink RX10 63 "WhoseHand" "rates" "[I" ∈ big := big_of (List.mem_of_getElem? (i := 297) (by decide +kernel)) rfl
theorem q298 : Cond.fieldLink RX10 67 "WhoseHand" "otherRates" "[I" ∈ big := big_of (List.mem_of_getElem? (i := 298) (by decide +kernel)) rfl
theorem q299 : Cond.fieldLink RX10 70 "WhoseHand" "findingCounts" "[I" ∈ big := big_of (List.mem_of_getElem? (i := 299) (by decide +kernel)) rfl
theorem q300 : Cond.fieldLink RX10 112 "WhoseHand" "textsEver" "I" ∈ big := big_of (List.mem_of_getElem? (i := 300) (by decide +kernel)) rfl
theorem q301 : Cond.fieldLink RX10 300 "WhoseHand" "latestFinding" "I" ∈ big := big_of (List.mem_of_getElem? (i := 301) (by decide +kernel)) rfl
theorem q302 : Cond.fieldLink RX10 272 "WhoseHand" "latestAsked" "J" ∈ big := big_of (List.mem_of_getElem? (i := 302) (by decide +kernel)) rfl
theorem q336 : Cond.methodLink RX10 74 yX10_sheetAt ∈ big := big_of (List.mem_of_getElem? (i := 336) (by decide +kernel)) rfl
theorem q338 : Cond.instanceMethod yX10_sheetAt ∈ big := big_of (List.mem_of_getElem? (i := 338) (by decide +kernel)) rfl
theorem q339 : Cond.code yX10_sheetAt cX10_sheetAt 2 (some (.object "WhoseHand$Sheet")) ∈ big := big_of (List.mem_of_getElem? (i := 339) (by decide +kernel)) rfl
theorem q340 : Cond.methodLink RX10 78 yX10_found ∈ big := big_of (List.mem_of_getElem? (i := 340) (by decide +kernel)) rfl
theorem q342 : Cond.instanceMethod yX10_found ∈ big := big_of (List.mem_of_getElem? (i := 342) (by decide +kernel)) rfl
theorem q343 : Cond.code yX10_found cX10_found 2 (some .int) ∈ big := big_of (List.mem_of_getElem? (i := 343) (by decide +kernel)) rfl
theorem q344 : Cond.methodLink RX10 82 yX5_makeBlank ∈ big := big_of (List.mem_of_getElem? (i := 344) (by decide +kernel)) rfl
theorem q345 : Cond.instanceMethod yX5_makeBlank ∈ big := big_of (List.mem_of_getElem? (i := 345) (by decide +kernel)) rfl
theorem q346 : Cond.selects RX5 yX5_makeBlank yX5_makeBlank ∈ big := big_of (List.mem_of_getElem? (i := 346) (by decide +kernel)) rfl
theorem q347 : Cond.code yX5_makeBlank cX5_makeBlank 3 (none) ∈ big := big_of (List.mem_of_getElem? (i := 347) (by decide +kernel)) rfl
theorem q352 : Cond.methodLink RX10 86 yX5_isMissing ∈ big := big_of (List.mem_of_getElem? (i := 352) (by decide +kernel)) rfl
theorem q353 : Cond.instanceMethod yX5_isMissing ∈ big := big_of (List.mem_of_getElem? (i := 353) (by decide +kernel)) rfl
theorem q354 : Cond.selects RX5 yX5_isMissing yX5_isMissing ∈ big := big_of (List.mem_of_getElem? (i := 354) (by decide +kernel)) rfl
theorem q355 : Cond.code yX5_isMissing cX5_isMissing 1 (some .boolean) ∈ big := big_of (List.mem_of_getElem? (i := 355) (by decide +kernel)) rfl
theorem q356 : Cond.methodLink RX10 90 yX5_holds ∈ big := big_of (List.mem_of_getElem? (i := 356) (by decide +kernel)) rfl
theorem q357 : Cond.instanceMethod yX5_holds ∈ big := big_of (List.mem_of_getElem? (i := 357) (by decide +kernel)) rfl
theorem q358 : Cond.selects RX5 yX5_holds yX5_holds ∈ big := big_of (List.mem_of_getElem? (i := 358) (by decide +kernel)) rfl
theorem q359 : Cond.code yX5_holds cX5_holds 3 (some .boolean) ∈ big := big_of (List.mem_of_getElem? (i := 359) (by decide +kernel)) rfl
theorem q360 : Cond.methodLink RX10 94 yX5_signAt ∈ big := big_of (List.mem_of_getElem? (i := 360) (by decide +kernel)) rfl
theorem q361 : Cond.instanceMethod yX5_signAt ∈ big := big_of (List.mem_of_getElem? (i := 361) (by decide +kernel)) rfl
theorem q362 : Cond.selects RX5 yX5_signAt yX5_signAt ∈ big := big_of (List.mem_of_getElem? (i := 362) (by decide +kernel)) rfl
theorem q363 : Cond.code yX5_signAt cX5_signAt 2 (some .int) ∈ big := big_of (List.mem_of_getElem? (i := 363) (by decide +kernel)) rfl
theorem q364 : Cond.methodLink RX10 97 yX5_put ∈ big := big_of (List.mem_of_getElem? (i := 364) (by decide +kernel)) rfl
theorem q365 : Cond.instanceMethod yX5_put ∈ big := big_of (List.mem_of_getElem? (i := 365) (by decide +kernel)) rfl
theorem q366 : Cond.selects RX5 yX5_put yX5_put ∈ big := big_of (List.mem_of_getElem? (i := 366) (by decide +kernel)) rfl
theorem q367 : Cond.code yX5_put cX5_put 3 (none) ∈ big := big_of (List.mem_of_getElem? (i := 367) (by decide +kernel)) rfl
theorem q372 : Cond.methodLink RX10 101 yX5_remove ∈ big := big_of (List.mem_of_getElem? (i := 372) (by decide +kernel)) rfl
theorem q373 : Cond.instanceMethod yX5_remove ∈ big := big_of (List.mem_of_getElem? (i := 373) (by decide +kernel)) rfl
theorem q374 : Cond.selects RX5 yX5_remove yX5_remove ∈ big := big_of (List.mem_of_getElem? (i := 374) (by decide +kernel)) rfl
theorem q375 : Cond.code yX5_remove cX5_remove 1 (none) ∈ big := big_of (List.mem_of_getElem? (i := 375) (by decide +kernel)) rfl
theorem q380 : Cond.methodLink RX10 104 yX5_bring ∈ big := big_of (List.mem_of_getElem? (i := 380) (by decide +kernel)) rfl
theorem q381 : Cond.instanceMethod yX5_bring ∈ big := big_of (List.mem_of_getElem? (i := 381) (by decide +kernel)) rfl
theorem q382 : Cond.selects RX5 yX5_bring yX5_bring ∈ big := big_of (List.mem_of_getElem? (i := 382) (by decide +kernel)) rfl
theorem q383 : Cond.code yX5_bring cX5_bring 5 (none) ∈ big := big_of (List.mem_of_getElem? (i := 383) (by decide +kernel)) rfl
theorem q384 : Cond.methodLink RX5 19 yX5_holds ∈ big := big_of (List.mem_of_getElem? (i := 384) (by decide +kernel)) rfl
theorem q385 : Cond.methodLink RX5 23 arraycopyName ∈ big := big_of (List.mem_of_getElem? (i := 385) (by decide +kernel)) rfl
theorem q386 : Cond.static arraycopyName ∈ big := big_of (List.mem_of_getElem? (i := 386) (by decide +kernel)) rfl
theorem q387 : Cond.native arraycopyName ∈ big := big_of (List.mem_of_getElem? (i := 387) (by decide +kernel)) rfl
theorem q392 : Cond.methodLink RX10 108 yX10_isWriter ∈ big := big_of (List.mem_of_getElem? (i := 392) (by decide +kernel)) rfl
theorem q393 : Cond.static yX10_isWriter ∈ big := big_of (List.mem_of_getElem? (i := 393) (by decide +kernel)) rfl
theorem q394 : Cond.code yX10_isWriter cX10_isWriter 1 (some .boolean) ∈ big := big_of (List.mem_of_getElem? (i := 394) (by decide +kernel)) rfl
theorem q404 : Cond.fieldLink RX8 25 "WhoseHand$Text" "kind" "I" ∈ big := big_of (List.mem_of_getElem? (i := 404) (by decide +kernel)) rfl
theorem q405 : Cond.fieldLinkNest RX10 147 "WhoseHand$Text" "kind" "I" "WhoseHand" ∈ nstw := nst_of (List.mem_of_getElem? (i := 405) (by decide +kernel)) rfl
theorem q406 : Cond.fieldLink RX8 29 "WhoseHand$Text" "writer" "I" ∈ big := big_of (List.mem_of_getElem? (i := 406) (by decide +kernel)) rfl
theorem q407 : Cond.fieldLinkNest RX10 144 "WhoseHand$Text" "writer" "I" "WhoseHand" ∈ nstw := nst_of (List.mem_of_getElem? (i := 407) (by decide +kernel)) rfl
theorem q409 : Cond.fieldLinkNest RX10 150 "WhoseHand$Text" "year" "I" "WhoseHand" ∈ nstw := nst_of (List.mem_of_getElem? (i := 409) (by decide +kernel)) rfl
theorem q410 : Cond.fieldLink RX8 12 "WhoseHand$Text" "prose" "LWhoseHand$Prose;" ∈ big := big_of (List.mem_of_getElem? (i := 410) (by decide +kernel)) rfl
theorem q411 : Cond.fieldLinkNest RX2 38 "WhoseHand$Text" "prose" "LWhoseHand$Prose;" "WhoseHand" ∈ nstw := nst_of (List.mem_of_getElem? (i := 411) (by decide +kernel)) rfl
theorem q412 : Cond.fieldLinkNest RX10 119 "WhoseHand$Text" "prose" "LWhoseHand$Prose;" "WhoseHand" ∈ nstw := nst_of (List.mem_of_getElem? (i := 412) (by decide +kernel)) rfl
theorem q414 : Cond.fieldLinkNest RX1 36 "WhoseHand$Text" "tally" "LWhoseHand$Tally;" "WhoseHand" ∈ nstw := nst_of (List.mem_of_getElem? (i := 414) (by decide +kernel)) rfl
theorem q415 : Cond.fieldLinkNest RX9 62 "WhoseHand$Text" "tally" "LWhoseHand$Tally;" "WhoseHand" ∈ nstw := nst_of (List.mem_of_getElem? (i := 415) (by decide +kernel)) rfl
theorem q416 : Cond.fieldLinkNest RX2 32 "WhoseHand$Text" "tally" "LWhoseHand$Tally;" "WhoseHand" ∈ nstw := nst_of (List.mem_of_getElem? (i := 416) (by decide +kernel)) rfl
theorem q417 : Cond.fieldLinkNest RX10 180 "WhoseHand$Text" "tally" "LWhoseHand$Tally;" "WhoseHand" ∈ nstw := nst_of (List.mem_of_getElem? (i := 417) (by decide +kernel)) rfl
theorem q418 : Cond.fieldLink RX8 39 "WhoseHand$Text" "withdrawn" "Z" ∈ big := big_of (List.mem_of_getElem? (i := 418) (by decide +kernel)) rfl
theorem q419 : Cond.fieldLinkNest RX9 53 "WhoseHand$Text" "withdrawn" "Z" "WhoseHand" ∈ nstw := nst_of (List.mem_of_getElem? (i := 419) (by decide +kernel)) rfl
theorem q420 : Cond.fieldLinkNest RX10 134 "WhoseHand$Text" "withdrawn" "Z" "WhoseHand" ∈ nstw := nst_of (List.mem_of_getElem? (i := 420) (by decide +kernel)) rfl
theorem q438 : Cond.methodLink RX4 28 Lib.Math.min.name ∈ big := big_of (List.mem_of_getElem? (i := 438) (by decide +kernel)) rfl
theorem q439 : Cond.static Lib.Math.min.name ∈ big := big_of (List.mem_of_getElem? (i := 439) (by decide +kernel)) rfl
theorem q440 : Cond.code Lib.Math.min.name Lib.Math.min.code 2 (some .int) ∈ big := big_of (List.mem_of_getElem? (i := 440) (by decide +kernel)) rfl
theorem q441 : Cond.methodLink RX4 35 yX4_cutQuotes ∈ big := big_of (List.mem_of_getElem? (i := 441) (by decide +kernel)) rfl
theorem q443 : Cond.instanceMethod yX4_cutQuotes ∈ big := big_of (List.mem_of_getElem? (i := 443) (by decide +kernel)) rfl
theorem q444 : Cond.code yX4_cutQuotes cX4_cutQuotes 6 (none) ∈ big := big_of (List.mem_of_getElem? (i := 444) (by decide +kernel)) rfl
theorem q445 : Cond.methodLink RX4 45 yX5_signAt ∈ big := big_of (List.mem_of_getElem? (i := 445) (by decide +kernel)) rfl
theorem q446 : Cond.methodLinkNest RX4 49 yX10_smallSign "WhoseHand" ∈ nstw := nst_of (List.mem_of_getElem? (i := 446) (by decide +kernel)) rfl
theorem q447 : Cond.static yX10_smallSign ∈ big := big_of (List.mem_of_getElem? (i := 447) (by decide +kernel)) rfl
theorem q448 : Cond.code yX10_smallSign cX10_smallSign 1 (some .int) ∈ big := big_of (List.mem_of_getElem? (i := 448) (by decide +kernel)) rfl
theorem q449 : Cond.methodLink RX4 39 yX4_findWords ∈ big := big_of (List.mem_of_getElem? (i := 449) (by decide +kernel)) rfl
theorem q451 : Cond.instanceMethod yX4_findWords ∈ big := big_of (List.mem_of_getElem? (i := 451) (by decide +kernel)) rfl
theorem q452 : Cond.code yX4_findWords cX4_findWords 4 (none) ∈ big := big_of (List.mem_of_getElem? (i := 452) (by decide +kernel)) rfl
theorem q453 : Cond.methodLinkNest RX4 61 yX10_isLetterOrMark "WhoseHand" ∈ nstw := nst_of (List.mem_of_getElem? (i := 453) (by decide +kernel)) rfl
theorem q454 : Cond.static yX10_isLetterOrMark ∈ big := big_of (List.mem_of_getElem? (i := 454) (by decide +kernel)) rfl
theorem q455 : Cond.code yX10_isLetterOrMark cX10_isLetterOrMark 1 (some .boolean) ∈ big := big_of (List.mem_of_getElem? (i := 455) (by decide +kernel)) rfl
theorem q456 : Cond.methodLinkNest RX4 65 yX10_isLetter "WhoseHand" ∈ nstw := nst_of (List.mem_of_getElem? (i := 456) (by decide +kernel)) rfl
theorem q457 : Cond.static yX10_isLetter ∈ big := big_of (List.mem_of_getElem? (i := 457) (by decide +kernel)) rfl
theorem q458 : Cond.code yX10_isLetter cX10_isLetter 1 (some .boolean) ∈ big := big_of (List.mem_of_getElem? (i := 458) (by decide +kernel)) rfl
theorem q459 : Cond.methodLink RX4 68 yX4_beginWord ∈ big := big_of (List.mem_of_getElem? (i := 459) (by decide +kernel)) rfl
theorem q461 : Cond.instanceMethod yX4_beginWord ∈ big := big_of (List.mem_of_getElem? (i := 461) (by decide +kernel)) rfl
theorem q462 : Cond.code yX4_beginWord cX4_beginWord 2 (none) ∈ big := big_of (List.mem_of_getElem? (i := 462) (by decide +kernel)) rfl
theorem q463 : Cond.methodLink RX4 72 yX4_lengthenWord ∈ big := big_of (List.mem_of_getElem? (i := 463) (by decide +kernel)) rfl
theorem q465 : Cond.instanceMethod yX4_lengthenWord ∈ big := big_of (List.mem_of_getElem? (i := 465) (by decide +kernel)) rfl
theorem q466 : Cond.code yX4_lengthenWord cX4_lengthenWord 1 (none) ∈ big := big_of (List.mem_of_getElem? (i := 466) (by decide +kernel)) rfl
theorem q471 : Cond.methodLink RX2 62 yX2_featureAt ∈ big := big_of (List.mem_of_getElem? (i := 471) (by decide +kernel)) rfl
theorem q473 : Cond.instanceMethod yX2_featureAt ∈ big := big_of (List.mem_of_getElem? (i := 473) (by decide +kernel)) rfl
theorem q474 : Cond.code yX2_featureAt cX2_featureAt 2 (some (.object "WhoseHand$Feature")) ∈ big := big_of (List.mem_of_getElem? (i := 474) (by decide +kernel)) rfl
theorem q475 : Cond.methodLink RX2 42 yX0_countIn ∈ big := big_of (List.mem_of_getElem? (i := 475) (by decide +kernel)) rfl
theorem q476 : Cond.instanceMethod yX0_countIn ∈ big := big_of (List.mem_of_getElem? (i := 476) (by decide +kernel)) rfl
theorem q477 : Cond.selects RX0 yX0_countIn yX0_countIn ∈ big := big_of (List.mem_of_getElem? (i := 477) (by decide +kernel)) rfl
theorem q478 : Cond.code yX0_countIn cX0_countIn 2 (some .int) ∈ big := big_of (List.mem_of_getElem? (i := 478) (by decide +kernel)) rfl
theorem q479 : Cond.methodLink RX0 35 yX4_countSign ∈ big := big_of (List.mem_of_getElem? (i := 479) (by decide +kernel)) rfl
theorem q480 : Cond.instanceMethod yX4_countSign ∈ big := big_of (List.mem_of_getElem? (i := 480) (by decide +kernel)) rfl
theorem q481 : Cond.selects RX4 yX4_countSign yX4_countSign ∈ big := big_of (List.mem_of_getElem? (i := 481) (by decide +kernel)) rfl
theorem q482 : Cond.code yX4_countSign cX4_countSign 4 (some .int) ∈ big := big_of (List.mem_of_getElem? (i := 482) (by decide +kernel)) rfl
theorem q483 : Cond.methodLink RX0 41 yX0_countInWords ∈ big := big_of (List.mem_of_getElem? (i := 483) (by decide +kernel)) rfl
theorem q484 : Cond.instanceMethod yX0_countInWords ∈ big := big_of (List.mem_of_getElem? (i := 484) (by decide +kernel)) rfl
theorem q485 : Cond.selects RX0 yX0_countInWords yX0_countInWords ∈ big := big_of (List.mem_of_getElem? (i := 485) (by decide +kernel)) rfl
theorem q486 : Cond.code yX0_countInWords cX0_countInWords 6 (some .int) ∈ big := big_of (List.mem_of_getElem? (i := 486) (by decide +kernel)) rfl
theorem q487 : Cond.methodLink RX0 45 yX0_fits ∈ big := big_of (List.mem_of_getElem? (i := 487) (by decide +kernel)) rfl
theorem q489 : Cond.instanceMethod yX0_fits ∈ big := big_of (List.mem_of_getElem? (i := 489) (by decide +kernel)) rfl
theorem q491 : Cond.code yX0_fits cX0_fits 4 (some .boolean) ∈ big := big_of (List.mem_of_getElem? (i := 491) (by decide +kernel)) rfl
theorem q492 : Cond.methodLink RX0 22 yX4_lengthOf ∈ big := big_of (List.mem_of_getElem? (i := 492) (by decide +kernel)) rfl
theorem q493 : Cond.instanceMethod yX4_lengthOf ∈ big := big_of (List.mem_of_getElem? (i := 493) (by decide +kernel)) rfl
theorem q494 : Cond.selects RX4 yX4_lengthOf yX4_lengthOf ∈ big := big_of (List.mem_of_getElem? (i := 494) (by decide +kernel)) rfl
theorem q495 : Cond.code yX4_lengthOf cX4_lengthOf 2 (some .int) ∈ big := big_of (List.mem_of_getElem? (i := 495) (by decide +kernel)) rfl
theorem q496 : Cond.methodLink RX0 49 Lib.Math.min.name ∈ big := big_of (List.mem_of_getElem? (i := 496) (by decide +kernel)) rfl
theorem q497 : Cond.methodLink RX0 31 yX4_letterOf ∈ big := big_of (List.mem_of_getElem? (i := 497) (by decide +kernel)) rfl
theorem q498 : Cond.instanceMethod yX4_letterOf ∈ big := big_of (List.mem_of_getElem? (i := 498) (by decide +kernel)) rfl
theorem q499 : Cond.selects RX4 yX4_letterOf yX4_letterOf ∈ big := big_of (List.mem_of_getElem? (i := 499) (by decide +kernel)) rfl
theorem q500 : Cond.code yX4_letterOf cX4_letterOf 4 (some .int) ∈ big := big_of (List.mem_of_getElem? (i := 500) (by decide +kernel)) rfl
theorem q501 : Cond.methodLink RX0 54 yX0_hasLetters ∈ big := big_of (List.mem_of_getElem? (i := 501) (by decide +kernel)) rfl
theorem q503 : Cond.instanceMethod yX0_hasLetters ∈ big := big_of (List.mem_of_getElem? (i := 503) (by decide +kernel)) rfl
theorem q504 : Cond.code yX0_hasLetters cX0_hasLetters 4 (some .boolean) ∈ big := big_of (List.mem_of_getElem? (i := 504) (by decide +kernel)) rfl
theorem q505 : Cond.methodLink RX2 46 yX7_setCount ∈ big := big_of (List.mem_of_getElem? (i := 505) (by decide +kernel)) rfl
theorem q506 : Cond.instanceMethod yX7_setCount ∈ big := big_of (List.mem_of_getElem? (i := 506) (by decide +kernel)) rfl
theorem q507 : Cond.selects RX7 yX7_setCount yX7_setCount ∈ big := big_of (List.mem_of_getElem? (i := 507) (by decide +kernel)) rfl
theorem q508 : Cond.code yX7_setCount cX7_setCount 3 (none) ∈ big := big_of (List.mem_of_getElem? (i := 508) (by decide +kernel)) rfl
theorem q513 : Cond.methodLink RX10 130 yX10_textAt ∈ big := big_of (List.mem_of_getElem? (i := 513) (by decide +kernel)) rfl
theorem q515 : Cond.instanceMethod yX10_textAt ∈ big := big_of (List.mem_of_getElem? (i := 515) (by decide +kernel)) rfl
theorem q516 : Cond.code yX10_textAt cX10_textAt 2 (some (.object "WhoseHand$Text")) ∈ big := big_of (List.mem_of_getElem? (i := 516) (by decide +kernel)) rfl
theorem q517 : Cond.methodLink RX10 138 yX8_tell ∈ big := big_of (List.mem_of_getElem? (i := 517) (by decide +kernel)) rfl
theorem q518 : Cond.instanceMethod yX8_tell ∈ big := big_of (List.mem_of_getElem? (i := 518) (by decide +kernel)) rfl
theorem q519 : Cond.selects RX8 yX8_tell yX8_tell ∈ big := big_of (List.mem_of_getElem? (i := 519) (by decide +kernel)) rfl
theorem q520 : Cond.code yX8_tell cX8_tell 2 (some .int) ∈ big := big_of (List.mem_of_getElem? (i := 520) (by decide +kernel)) rfl
theorem q525 : Cond.methodLink RX10 141 yX8_isKnown ∈ big := big_of (List.mem_of_getElem? (i := 525) (by decide +kernel)) rfl
theorem q526 : Cond.instanceMethod yX8_isKnown ∈ big := big_of (List.mem_of_getElem? (i := 526) (by decide +kernel)) rfl
theorem q527 : Cond.selects RX8 yX8_isKnown yX8_isKnown ∈ big := big_of (List.mem_of_getElem? (i := 527) (by decide +kernel)) rfl
theorem q528 : Cond.code yX8_isKnown cX8_isKnown 1 (some .boolean) ∈ big := big_of (List.mem_of_getElem? (i := 528) (by decide +kernel)) rfl
theorem q540 : Cond.methodLink RX10 325 yX10_isLetterOrMark ∈ big := big_of (List.mem_of_getElem? (i := 540) (by decide +kernel)) rfl
theorem q541 : Cond.methodLink RX10 328 yX10_isLetter ∈ big := big_of (List.mem_of_getElem? (i := 541) (by decide +kernel)) rfl
theorem q543 : Cond.instanceMethod yX2_isFull ∈ big := big_of (List.mem_of_getElem? (i := 543) (by decide +kernel)) rfl
theorem q544 : Cond.selects RX2 yX2_isFull yX2_isFull ∈ big := big_of (List.mem_of_getElem? (i := 544) (by decide +kernel)) rfl
theorem q545 : Cond.code yX2_isFull cX2_isFull 1 (some .boolean) ∈ big := big_of (List.mem_of_getElem? (i := 545) (by decide +kernel)) rfl
theorem q552 : Cond.fieldLink RX0 15 "WhoseHand$Feature" "sort" "I" ∈ big := big_of (List.mem_of_getElem? (i := 552) (by decide +kernel)) rfl
theorem q553 : Cond.fieldLinkNest RX2 29 "WhoseHand$Feature" "sort" "I" "WhoseHand" ∈ nstw := nst_of (List.mem_of_getElem? (i := 553) (by decide +kernel)) rfl
theorem q554 : Cond.fieldLink RX0 19 "WhoseHand$Feature" "value" "I" ∈ big := big_of (List.mem_of_getElem? (i := 554) (by decide +kernel)) rfl
theorem q555 : Cond.fieldLink RX0 9 "WhoseHand$Feature" "letters" "[B" ∈ big := big_of (List.mem_of_getElem? (i := 555) (by decide +kernel)) rfl
theorem q556 : Cond.fieldLink RX0 28 "WhoseHand$Feature" "length" "I" ∈ big := big_of (List.mem_of_getElem? (i := 556) (by decide +kernel)) rfl
theorem q574 : Cond.methodLink RX2 25 yX2_isFull ∈ big := big_of (List.mem_of_getElem? (i := 574) (by decide +kernel)) rfl
theorem q579 : Cond.methodLink RX10 177 yX2_has ∈ big := big_of (List.mem_of_getElem? (i := 579) (by decide +kernel)) rfl
theorem q580 : Cond.instanceMethod yX2_has ∈ big := big_of (List.mem_of_getElem? (i := 580) (by decide +kernel)) rfl
theorem q581 : Cond.selects RX2 yX2_has yX2_has ∈ big := big_of (List.mem_of_getElem? (i := 581) (by decide +kernel)) rfl
theorem q582 : Cond.code yX2_has cX2_has 2 (some .boolean) ∈ big := big_of (List.mem_of_getElem? (i := 582) (by decide +kernel)) rfl
theorem q583 : Cond.methodLink RX10 184 yX7_countOf ∈ big := big_of (List.mem_of_getElem? (i := 583) (by decide +kernel)) rfl
theorem q584 : Cond.instanceMethod yX7_countOf ∈ big := big_of (List.mem_of_getElem? (i := 584) (by decide +kernel)) rfl
theorem q585 : Cond.selects RX7 yX7_countOf yX7_countOf ∈ big := big_of (List.mem_of_getElem? (i := 585) (by decide +kernel)) rfl
theorem q586 : Cond.code yX7_countOf cX7_countOf 2 (some .int) ∈ big := big_of (List.mem_of_getElem? (i := 586) (by decide +kernel)) rfl
theorem q591 : Cond.methodLink RX10 189 yX2_rateIn ∈ big := big_of (List.mem_of_getElem? (i := 591) (by decide +kernel)) rfl
theorem q592 : Cond.instanceMethod yX2_rateIn ∈ big := big_of (List.mem_of_getElem? (i := 592) (by decide +kernel)) rfl
theorem q593 : Cond.selects RX2 yX2_rateIn yX2_rateIn ∈ big := big_of (List.mem_of_getElem? (i := 593) (by decide +kernel)) rfl
theorem q594 : Cond.code yX2_rateIn cX2_rateIn 3 (some .int) ∈ big := big_of (List.mem_of_getElem? (i := 594) (by decide +kernel)) rfl
theorem q595 : Cond.methodLink RX2 73 yX7_countOf ∈ big := big_of (List.mem_of_getElem? (i := 595) (by decide +kernel)) rfl
theorem q596 : Cond.methodLink RX2 77 yX2_wholeOf ∈ big := big_of (List.mem_of_getElem? (i := 596) (by decide +kernel)) rfl
theorem q597 : Cond.instanceMethod yX2_wholeOf ∈ big := big_of (List.mem_of_getElem? (i := 597) (by decide +kernel)) rfl
theorem q598 : Cond.selects RX2 yX2_wholeOf yX2_wholeOf ∈ big := big_of (List.mem_of_getElem? (i := 598) (by decide +kernel)) rfl
theorem q599 : Cond.code yX2_wholeOf cX2_wholeOf 3 (some .int) ∈ big := big_of (List.mem_of_getElem? (i := 599) (by decide +kernel)) rfl
theorem q600 : Cond.methodLinkNest RX2 81 yX10_thousandths "WhoseHand" ∈ nstw := nst_of (List.mem_of_getElem? (i := 600) (by decide +kernel)) rfl
theorem q601 : Cond.static yX10_thousandths ∈ big := big_of (List.mem_of_getElem? (i := 601) (by decide +kernel)) rfl
theorem q602 : Cond.code yX10_thousandths cX10_thousandths 2 (some .int) ∈ big := big_of (List.mem_of_getElem? (i := 602) (by decide +kernel)) rfl
theorem q607 : Cond.methodLink RX10 193 yX1_readWithout ∈ big := big_of (List.mem_of_getElem? (i := 607) (by decide +kernel)) rfl
theorem q608 : Cond.instanceMethod yX1_readWithout ∈ big := big_of (List.mem_of_getElem? (i := 608) (by decide +kernel)) rfl
theorem q609 : Cond.selects RX1 yX1_readWithout yX1_readWithout ∈ big := big_of (List.mem_of_getElem? (i := 609) (by decide +kernel)) rfl
theorem q610 : Cond.code yX1_readWithout cX1_readWithout 6 (none) ∈ big := big_of (List.mem_of_getElem? (i := 610) (by decide +kernel)) rfl
theorem q611 : Cond.methodLink RX1 27 yX7_clear ∈ big := big_of (List.mem_of_getElem? (i := 611) (by decide +kernel)) rfl
theorem q612 : Cond.instanceMethod yX7_clear ∈ big := big_of (List.mem_of_getElem? (i := 612) (by decide +kernel)) rfl
theorem q613 : Cond.selects RX7 yX7_clear yX7_clear ∈ big := big_of (List.mem_of_getElem? (i := 613) (by decide +kernel)) rfl
theorem q614 : Cond.code yX7_clear cX7_clear 2 (none) ∈ big := big_of (List.mem_of_getElem? (i := 614) (by decide +kernel)) rfl
theorem q615 : Cond.methodLink RX1 30 yX8_isBy ∈ big := big_of (List.mem_of_getElem? (i := 615) (by decide +kernel)) rfl
theorem q616 : Cond.instanceMethod yX8_isBy ∈ big := big_of (List.mem_of_getElem? (i := 616) (by decide +kernel)) rfl
theorem q617 : Cond.selects RX8 yX8_isBy yX8_isBy ∈ big := big_of (List.mem_of_getElem? (i := 617) (by decide +kernel)) rfl
theorem q618 : Cond.code yX8_isBy cX8_isBy 2 (some .boolean) ∈ big := big_of (List.mem_of_getElem? (i := 618) (by decide +kernel)) rfl
theorem q619 : Cond.methodLink RX8 43 yX8_isInHand ∈ big := big_of (List.mem_of_getElem? (i := 619) (by decide +kernel)) rfl
theorem q620 : Cond.instanceMethod yX8_isInHand ∈ big := big_of (List.mem_of_getElem? (i := 620) (by decide +kernel)) rfl
theorem q621 : Cond.selects RX8 yX8_isInHand yX8_isInHand ∈ big := big_of (List.mem_of_getElem? (i := 621) (by decide +kernel)) rfl
theorem q622 : Cond.code yX8_isInHand cX8_isInHand 1 (some .boolean) ∈ big := big_of (List.mem_of_getElem? (i := 622) (by decide +kernel)) rfl
theorem q623 : Cond.methodLink RX8 35 yX8_isKnown ∈ big := big_of (List.mem_of_getElem? (i := 623) (by decide +kernel)) rfl
theorem q624 : Cond.methodLink RX1 37 yX7_add ∈ big := big_of (List.mem_of_getElem? (i := 624) (by decide +kernel)) rfl
theorem q625 : Cond.instanceMethod yX7_add ∈ big := big_of (List.mem_of_getElem? (i := 625) (by decide +kernel)) rfl
theorem q626 : Cond.selects RX7 yX7_add yX7_add ∈ big := big_of (List.mem_of_getElem? (i := 626) (by decide +kernel)) rfl
theorem q627 : Cond.code yX7_add cX7_add 3 (none) ∈ big := big_of (List.mem_of_getElem? (i := 627) (by decide +kernel)) rfl
theorem q628 : Cond.methodLink RX1 41 yX2_readRates ∈ big := big_of (List.mem_of_getElem? (i := 628) (by decide +kernel)) rfl
theorem q629 : Cond.instanceMethod yX2_readRates ∈ big := big_of (List.mem_of_getElem? (i := 629) (by decide +kernel)) rfl
theorem q630 : Cond.selects RX2 yX2_readRates yX2_readRates ∈ big := big_of (List.mem_of_getElem? (i := 630) (by decide +kernel)) rfl
theorem q631 : Cond.code yX2_readRates cX2_readRates 4 (none) ∈ big := big_of (List.mem_of_getElem? (i := 631) (by decide +kernel)) rfl
theorem q632 : Cond.methodLink RX2 85 yX2_rateIn ∈ big := big_of (List.mem_of_getElem? (i := 632) (by decide +kernel)) rfl
theorem q633 : Cond.methodLink RX10 197 yX1_has ∈ big := big_of (List.mem_of_getElem? (i := 633) (by decide +kernel)) rfl
theorem q634 : Cond.instanceMethod yX1_has ∈ big := big_of (List.mem_of_getElem? (i := 634) (by decide +kernel)) rfl
theorem q635 : Cond.selects RX1 yX1_has yX1_has ∈ big := big_of (List.mem_of_getElem? (i := 635) (by decide +kernel)) rfl
theorem q636 : Cond.code yX1_has cX1_has 2 (some .boolean) ∈ big := big_of (List.mem_of_getElem? (i := 636) (by decide +kernel)) rfl
theorem q637 : Cond.methodLink RX10 198 yX1_rateOf ∈ big := big_of (List.mem_of_getElem? (i := 637) (by decide +kernel)) rfl
theorem q638 : Cond.instanceMethod yX1_rateOf ∈ big := big_of (List.mem_of_getElem? (i := 638) (by decide +kernel)) rfl
theorem q639 : Cond.selects RX1 yX1_rateOf yX1_rateOf ∈ big := big_of (List.mem_of_getElem? (i := 639) (by decide +kernel)) rfl
theorem q640 : Cond.code yX1_rateOf cX1_rateOf 3 (some .int) ∈ big := big_of (List.mem_of_getElem? (i := 640) (by decide +kernel)) rfl
theorem q641 : Cond.methodLink RX1 47 yX1_has ∈ big := big_of (List.mem_of_getElem? (i := 641) (by decide +kernel)) rfl
theorem q654 : Cond.methodLink RX10 208 yX2_readRates ∈ big := big_of (List.mem_of_getElem? (i := 654) (by decide +kernel)) rfl
theorem q655 : Cond.methodLink RX10 212 yX2_farness ∈ big := big_of (List.mem_of_getElem? (i := 655) (by decide +kernel)) rfl
theorem q656 : Cond.instanceMethod yX2_farness ∈ big := big_of (List.mem_of_getElem? (i := 656) (by decide +kernel)) rfl
theorem q657 : Cond.selects RX2 yX2_farness yX2_farness ∈ big := big_of (List.mem_of_getElem? (i := 657) (by decide +kernel)) rfl
theorem q658 : Cond.code yX2_farness cX2_farness 7 (some .int) ∈ big := big_of (List.mem_of_getElem? (i := 658) (by decide +kernel)) rfl
theorem q659 : Cond.methodLink RX2 88 Lib.Math.abs.name ∈ big := big_of (List.mem_of_getElem? (i := 659) (by decide +kernel)) rfl
theorem q660 : Cond.static Lib.Math.abs.name ∈ big := big_of (List.mem_of_getElem? (i := 660) (by decide +kernel)) rfl
theorem q661 : Cond.code Lib.Math.abs.name Lib.Math.abs.code 1 (some .int) ∈ big := big_of (List.mem_of_getElem? (i := 661) (by decide +kernel)) rfl
theorem q666 : Cond.methodLink RX10 216 yX10_readHandsFor ∈ big := big_of (List.mem_of_getElem? (i := 666) (by decide +kernel)) rfl
theorem q668 : Cond.instanceMethod yX10_readHandsFor ∈ big := big_of (List.mem_of_getElem? (i := 668) (by decide +kernel)) rfl
theorem q669 : Cond.code yX10_readHandsFor cX10_readHandsFor 3 (none) ∈ big := big_of (List.mem_of_getElem? (i := 669) (by decide +kernel)) rfl
theorem q670 : Cond.methodLink RX10 220 yX1_farnessOf ∈ big := big_of (List.mem_of_getElem? (i := 670) (by decide +kernel)) rfl
theorem q671 : Cond.instanceMethod yX1_farnessOf ∈ big := big_of (List.mem_of_getElem? (i := 671) (by decide +kernel)) rfl
theorem q672 : Cond.selects RX1 yX1_farnessOf yX1_farnessOf ∈ big := big_of (List.mem_of_getElem? (i := 672) (by decide +kernel)) rfl
theorem q673 : Cond.code yX1_farnessOf cX1_farnessOf 5 (some .int) ∈ big := big_of (List.mem_of_getElem? (i := 673) (by decide +kernel)) rfl
theorem q674 : Cond.methodLink RX1 50 yX2_farness ∈ big := big_of (List.mem_of_getElem? (i := 674) (by decide +kernel)) rfl
theorem q679 : Cond.methodLink RX10 224 yX10_nearestWriter ∈ big := big_of (List.mem_of_getElem? (i := 679) (by decide +kernel)) rfl
theorem q681 : Cond.instanceMethod yX10_nearestWriter ∈ big := big_of (List.mem_of_getElem? (i := 681) (by decide +kernel)) rfl
theorem q682 : Cond.code yX10_nearestWriter cX10_nearestWriter 3 (some .int) ∈ big := big_of (List.mem_of_getElem? (i := 682) (by decide +kernel)) rfl
theorem q683 : Cond.methodLink RX10 252 yX1_nearestTo ∈ big := big_of (List.mem_of_getElem? (i := 683) (by decide +kernel)) rfl
theorem q684 : Cond.instanceMethod yX1_nearestTo ∈ big := big_of (List.mem_of_getElem? (i := 684) (by decide +kernel)) rfl
theorem q685 : Cond.selects RX1 yX1_nearestTo yX1_nearestTo ∈ big := big_of (List.mem_of_getElem? (i := 685) (by decide +kernel)) rfl
theorem q686 : Cond.code yX1_nearestTo cX1_nearestTo 8 (some .int) ∈ big := big_of (List.mem_of_getElem? (i := 686) (by decide +kernel)) rfl
theorem q687 : Cond.methodLink RX1 54 yX1_farnessOf ∈ big := big_of (List.mem_of_getElem? (i := 687) (by decide +kernel)) rfl
theorem q692 : Cond.methodLink RX10 228 yX1_placeOf ∈ big := big_of (List.mem_of_getElem? (i := 692) (by decide +kernel)) rfl
theorem q693 : Cond.instanceMethod yX1_placeOf ∈ big := big_of (List.mem_of_getElem? (i := 693) (by decide +kernel)) rfl
theorem q694 : Cond.selects RX1 yX1_placeOf yX1_placeOf ∈ big := big_of (List.mem_of_getElem? (i := 694) (by decide +kernel)) rfl
theorem q695 : Cond.code yX1_placeOf cX1_placeOf 8 (some .int) ∈ big := big_of (List.mem_of_getElem? (i := 695) (by decide +kernel)) rfl
theorem q700 : Cond.methodLink RX10 232 yX8_isInHand ∈ big := big_of (List.mem_of_getElem? (i := 700) (by decide +kernel)) rfl
theorem q701 : Cond.methodLink RX10 235 yX10_outcome ∈ big := big_of (List.mem_of_getElem? (i := 701) (by decide +kernel)) rfl
theorem q702 : Cond.static yX10_outcome ∈ big := big_of (List.mem_of_getElem? (i := 702) (by decide +kernel)) rfl
theorem q703 : Cond.code yX10_outcome cX10_outcome 2 (some .int) ∈ big := big_of (List.mem_of_getElem? (i := 703) (by decide +kernel)) rfl
theorem q708 : Cond.methodLink RX10 238 yX8_isBy ∈ big := big_of (List.mem_of_getElem? (i := 708) (by decide +kernel)) rfl
theorem q713 : Cond.constantLong RX10 244 (1103515245) ∈ big := big_of (List.mem_of_getElem? (i := 713) (by decide +kernel)) rfl
theorem q714 : Cond.constantLong RX10 246 (12345) ∈ big := big_of (List.mem_of_getElem? (i := 714) (by decide +kernel)) rfl
theorem q715 : Cond.methodLink RX10 248 yX2_featuresOf ∈ big := big_of (List.mem_of_getElem? (i := 715) (by decide +kernel)) rfl
theorem q716 : Cond.instanceMethod yX2_featuresOf ∈ big := big_of (List.mem_of_getElem? (i := 716) (by decide +kernel)) rfl
theorem q717 : Cond.selects RX2 yX2_featuresOf yX2_featuresOf ∈ big := big_of (List.mem_of_getElem? (i := 717) (by decide +kernel)) rfl
theorem q718 : Cond.code yX2_featuresOf cX2_featuresOf 4 (some .int) ∈ big := big_of (List.mem_of_getElem? (i := 718) (by decide +kernel)) rfl
theorem q723 : Cond.constant RX10 256 (10000000) ∈ big := big_of (List.mem_of_getElem? (i := 723) (by decide +kernel)) rfl
theorem q724 : Cond.methodLink RX10 257 yX3_priceWindows ∈ big := big_of (List.mem_of_getElem? (i := 724) (by decide +kernel)) rfl
theorem q725 : Cond.instanceMethod yX3_priceWindows ∈ big := big_of (List.mem_of_getElem? (i := 725) (by decide +kernel)) rfl
theorem q726 : Cond.selects RX3 yX3_priceWindows yX3_priceWindows ∈ big := big_of (List.mem_of_getElem? (i := 726) (by decide +kernel)) rfl
theorem q727 : Cond.code yX3_priceWindows cX3_priceWindows 9 (none) ∈ big := big_of (List.mem_of_getElem? (i := 727) (by decide +kernel)) rfl
theorem q728 : Cond.methodLink RX3 38 yX2_wordFeatures ∈ big := big_of (List.mem_of_getElem? (i := 728) (by decide +kernel)) rfl
theorem q729 : Cond.instanceMethod yX2_wordFeatures ∈ big := big_of (List.mem_of_getElem? (i := 729) (by decide +kernel)) rfl
theorem q730 : Cond.selects RX2 yX2_wordFeatures yX2_wordFeatures ∈ big := big_of (List.mem_of_getElem? (i := 730) (by decide +kernel)) rfl
theorem q731 : Cond.code yX2_wordFeatures cX2_wordFeatures 3 (some .int) ∈ big := big_of (List.mem_of_getElem? (i := 731) (by decide +kernel)) rfl
theorem q732 : Cond.methodLink RX3 53 Lib.Math.min.name ∈ big := big_of (List.mem_of_getElem? (i := 732) (by decide +kernel)) rfl
theorem q733 : Cond.methodLink RX3 59 yX2_tallyWords ∈ big := big_of (List.mem_of_getElem? (i := 733) (by decide +kernel)) rfl
theorem q734 : Cond.instanceMethod yX2_tallyWords ∈ big := big_of (List.mem_of_getElem? (i := 734) (by decide +kernel)) rfl
theorem q735 : Cond.selects RX2 yX2_tallyWords yX2_tallyWords ∈ big := big_of (List.mem_of_getElem? (i := 735) (by decide +kernel)) rfl
theorem q736 : Cond.code yX2_tallyWords cX2_tallyWords 7 (none) ∈ big := big_of (List.mem_of_getElem? (i := 736) (by decide +kernel)) rfl
theorem q737 : Cond.methodLink RX2 66 yX7_clear ∈ big := big_of (List.mem_of_getElem? (i := 737) (by decide +kernel)) rfl
theorem q738 : Cond.methodLink RX2 69 yX0_countInWords ∈ big := big_of (List.mem_of_getElem? (i := 738) (by decide +kernel)) rfl
theorem q739 : Cond.methodLink RX3 63 yX2_readRates ∈ big := big_of (List.mem_of_getElem? (i := 739) (by decide +kernel)) rfl
theorem q740 : Cond.methodLink RX3 67 yX1_farnessOf ∈ big := big_of (List.mem_of_getElem? (i := 740) (by decide +kernel)) rfl
theorem q741 : Cond.methodLink RX10 261 yX3_priceTails ∈ big := big_of (List.mem_of_getElem? (i := 741) (by decide +kernel)) rfl
theorem q742 : Cond.instanceMethod yX3_priceTails ∈ big := big_of (List.mem_of_getElem? (i := 742) (by decide +kernel)) rfl
theorem q743 : Cond.selects RX3 yX3_priceTails yX3_priceTails ∈ big := big_of (List.mem_of_getElem? (i := 743) (by decide +kernel)) rfl
theorem q744 : Cond.code yX3_priceTails cX3_priceTails 7 (none) ∈ big := big_of (List.mem_of_getElem? (i := 744) (by decide +kernel)) rfl
theorem q745 : Cond.methodLink RX3 73 Lib.MathLoose.min_long.x ∈ big := big_of (List.mem_of_getElem? (i := 745) (by decide +kernel)) rfl
theorem q746 : Cond.static Lib.MathLoose.min_long.x ∈ big := big_of (List.mem_of_getElem? (i := 746) (by decide +kernel)) rfl
theorem q747 : Cond.code Lib.MathLoose.min_long.x Lib.MathLoose.min_long.code 4 (some .long) ∈ big := big_of (List.mem_of_getElem? (i := 747) (by decide +kernel)) rfl
theorem q748 : Cond.methodLink RX10 264 yX3_choose ∈ big := big_of (List.mem_of_getElem? (i := 748) (by decide +kernel)) rfl
theorem q749 : Cond.instanceMethod yX3_choose ∈ big := big_of (List.mem_of_getElem? (i := 749) (by decide +kernel)) rfl
theorem q750 : Cond.selects RX3 yX3_choose yX3_choose ∈ big := big_of (List.mem_of_getElem? (i := 750) (by decide +kernel)) rfl
theorem q751 : Cond.code yX3_choose cX3_choose 11 (some .int) ∈ big := big_of (List.mem_of_getElem? (i := 751) (by decide +kernel)) rfl
theorem q752 : Cond.methodLink RX10 268 yX3_leastPrice ∈ big := big_of (List.mem_of_getElem? (i := 752) (by decide +kernel)) rfl
theorem q753 : Cond.instanceMethod yX3_leastPrice ∈ big := big_of (List.mem_of_getElem? (i := 753) (by decide +kernel)) rfl
theorem q754 : Cond.selects RX3 yX3_leastPrice yX3_leastPrice ∈ big := big_of (List.mem_of_getElem? (i := 754) (by decide +kernel)) rfl
theorem q755 : Cond.code yX3_leastPrice cX3_leastPrice 1 (some .long) ∈ big := big_of (List.mem_of_getElem? (i := 755) (by decide +kernel)) rfl
theorem q760 : Cond.methodLink RX10 276 yX3_ownerOf ∈ big := big_of (List.mem_of_getElem? (i := 760) (by decide +kernel)) rfl
theorem q761 : Cond.instanceMethod yX3_ownerOf ∈ big := big_of (List.mem_of_getElem? (i := 761) (by decide +kernel)) rfl
theorem q762 : Cond.selects RX3 yX3_ownerOf yX3_ownerOf ∈ big := big_of (List.mem_of_getElem? (i := 762) (by decide +kernel)) rfl
theorem q763 : Cond.code yX3_ownerOf cX3_ownerOf 2 (some .int) ∈ big := big_of (List.mem_of_getElem? (i := 763) (by decide +kernel)) rfl
theorem q768 : Cond.methodLink RX10 279 yX9_grow ∈ big := big_of (List.mem_of_getElem? (i := 768) (by decide +kernel)) rfl
theorem q769 : Cond.instanceMethod yX9_grow ∈ big := big_of (List.mem_of_getElem? (i := 769) (by decide +kernel)) rfl
theorem q770 : Cond.selects RX9 yX9_grow yX9_grow ∈ big := big_of (List.mem_of_getElem? (i := 770) (by decide +kernel)) rfl
theorem q771 : Cond.code yX9_grow cX9_grow 4 (some .int) ∈ big := big_of (List.mem_of_getElem? (i := 771) (by decide +kernel)) rfl
theorem q772 : Cond.methodLink RX9 37 yX9_begin ∈ big := big_of (List.mem_of_getElem? (i := 772) (by decide +kernel)) rfl
theorem q774 : Cond.instanceMethod yX9_begin ∈ big := big_of (List.mem_of_getElem? (i := 774) (by decide +kernel)) rfl
theorem q775 : Cond.code yX9_begin cX9_begin 4 (none) ∈ big := big_of (List.mem_of_getElem? (i := 775) (by decide +kernel)) rfl
theorem q776 : Cond.methodLink RX9 59 yX7_clear ∈ big := big_of (List.mem_of_getElem? (i := 776) (by decide +kernel)) rfl
theorem q777 : Cond.methodLink RX9 66 yX7_add ∈ big := big_of (List.mem_of_getElem? (i := 777) (by decide +kernel)) rfl
theorem q778 : Cond.methodLink RX9 70 yX2_readRates ∈ big := big_of (List.mem_of_getElem? (i := 778) (by decide +kernel)) rfl
theorem q779 : Cond.methodLink RX9 45 yX9_findNearestPair ∈ big := big_of (List.mem_of_getElem? (i := 779) (by decide +kernel)) rfl
theorem q781 : Cond.instanceMethod yX9_findNearestPair ∈ big := big_of (List.mem_of_getElem? (i := 781) (by decide +kernel)) rfl
theorem q782 : Cond.code yX9_findNearestPair cX9_findNearestPair 6 (some .boolean) ∈ big := big_of (List.mem_of_getElem? (i := 782) (by decide +kernel)) rfl
theorem q783 : Cond.methodLink RX9 76 yX2_farness ∈ big := big_of (List.mem_of_getElem? (i := 783) (by decide +kernel)) rfl
theorem q784 : Cond.methodLink RX9 49 yX9_joinPair ∈ big := big_of (List.mem_of_getElem? (i := 784) (by decide +kernel)) rfl
theorem q786 : Cond.instanceMethod yX9_joinPair ∈ big := big_of (List.mem_of_getElem? (i := 786) (by decide +kernel)) rfl
theorem q787 : Cond.code yX9_joinPair cX9_joinPair 4 (none) ∈ big := big_of (List.mem_of_getElem? (i := 787) (by decide +kernel)) rfl
theorem q792 : Cond.methodLink RX10 283 yX9_tell ∈ big := big_of (List.mem_of_getElem? (i := 792) (by decide +kernel)) rfl
theorem q793 : Cond.instanceMethod yX9_tell ∈ big := big_of (List.mem_of_getElem? (i := 793) (by decide +kernel)) rfl
theorem q794 : Cond.selects RX9 yX9_tell yX9_tell ∈ big := big_of (List.mem_of_getElem? (i := 794) (by decide +kernel)) rfl
theorem q795 : Cond.code yX9_tell cX9_tell 3 (some .int) ∈ big := big_of (List.mem_of_getElem? (i := 795) (by decide +kernel)) rfl
theorem q800 : Cond.methodLink RX10 285 yX6_clear ∈ big := big_of (List.mem_of_getElem? (i := 800) (by decide +kernel)) rfl
theorem q801 : Cond.instanceMethod yX6_clear ∈ big := big_of (List.mem_of_getElem? (i := 801) (by decide +kernel)) rfl
theorem q802 : Cond.selects RX6 yX6_clear yX6_clear ∈ big := big_of (List.mem_of_getElem? (i := 802) (by decide +kernel)) rfl
theorem q803 : Cond.code yX6_clear cX6_clear 1 (none) ∈ big := big_of (List.mem_of_getElem? (i := 803) (by decide +kernel)) rfl
theorem q804 : Cond.methodLink RX10 288 yX10_addToShuffles ∈ big := big_of (List.mem_of_getElem? (i := 804) (by decide +kernel)) rfl
theorem q806 : Cond.instanceMethod yX10_addToShuffles ∈ big := big_of (List.mem_of_getElem? (i := 806) (by decide +kernel)) rfl
theorem q807 : Cond.code yX10_addToShuffles cX10_addToShuffles 6 (some .int) ∈ big := big_of (List.mem_of_getElem? (i := 807) (by decide +kernel)) rfl
theorem q808 : Cond.methodLink RX10 319 yX2_wholeOf ∈ big := big_of (List.mem_of_getElem? (i := 808) (by decide +kernel)) rfl
theorem q809 : Cond.methodLink RX10 322 yX6_add ∈ big := big_of (List.mem_of_getElem? (i := 809) (by decide +kernel)) rfl
theorem q810 : Cond.instanceMethod yX6_add ∈ big := big_of (List.mem_of_getElem? (i := 810) (by decide +kernel)) rfl
theorem q811 : Cond.selects RX6 yX6_add yX6_add ∈ big := big_of (List.mem_of_getElem? (i := 811) (by decide +kernel)) rfl
theorem q812 : Cond.code yX6_add cX6_add 3 (none) ∈ big := big_of (List.mem_of_getElem? (i := 812) (by decide +kernel)) rfl
theorem q813 : Cond.methodLink RX10 291 yX6_countAsFar ∈ big := big_of (List.mem_of_getElem? (i := 813) (by decide +kernel)) rfl
theorem q814 : Cond.instanceMethod yX6_countAsFar ∈ big := big_of (List.mem_of_getElem? (i := 814) (by decide +kernel)) rfl
theorem q815 : Cond.selects RX6 yX6_countAsFar yX6_countAsFar ∈ big := big_of (List.mem_of_getElem? (i := 815) (by decide +kernel)) rfl
theorem q816 : Cond.code yX6_countAsFar cX6_countAsFar 5 (some .int) ∈ big := big_of (List.mem_of_getElem? (i := 816) (by decide +kernel)) rfl
theorem q817 : Cond.methodLink RX6 37 Lib.Math.min.name ∈ big := big_of (List.mem_of_getElem? (i := 817) (by decide +kernel)) rfl
theorem q818 : Cond.methodLink RX6 43 Lib.Math.max.name ∈ big := big_of (List.mem_of_getElem? (i := 818) (by decide +kernel)) rfl
theorem q819 : Cond.static Lib.Math.max.name ∈ big := big_of (List.mem_of_getElem? (i := 819) (by decide +kernel)) rfl
theorem q820 : Cond.code Lib.Math.max.name Lib.Math.max.code 2 (some .int) ∈ big := big_of (List.mem_of_getElem? (i := 820) (by decide +kernel)) rfl
theorem q821 : Cond.methodLink RX6 52 yX6_takeOn ∈ big := big_of (List.mem_of_getElem? (i := 821) (by decide +kernel)) rfl
theorem q823 : Cond.instanceMethod yX6_takeOn ∈ big := big_of (List.mem_of_getElem? (i := 823) (by decide +kernel)) rfl
theorem q824 : Cond.code yX6_takeOn cX6_takeOn 5 (none) ∈ big := big_of (List.mem_of_getElem? (i := 824) (by decide +kernel)) rfl
theorem q825 : Cond.methodLink RX6 56 yX6_difference ∈ big := big_of (List.mem_of_getElem? (i := 825) (by decide +kernel)) rfl
theorem q827 : Cond.instanceMethod yX6_difference ∈ big := big_of (List.mem_of_getElem? (i := 827) (by decide +kernel)) rfl
theorem q828 : Cond.code yX6_difference cX6_difference 3 (some .int) ∈ big := big_of (List.mem_of_getElem? (i := 828) (by decide +kernel)) rfl
theorem q829 : Cond.methodLinkNest RX6 64 yX10_thousandths "WhoseHand" ∈ nstw := nst_of (List.mem_of_getElem? (i := 829) (by decide +kernel)) rfl
theorem q830 : Cond.methodLink RX6 67 Lib.Math.abs.name ∈ big := big_of (List.mem_of_getElem? (i := 830) (by decide +kernel)) rfl
theorem q831 : Cond.methodLink RX6 60 yX6_takeNext ∈ big := big_of (List.mem_of_getElem? (i := 831) (by decide +kernel)) rfl
theorem q833 : Cond.instanceMethod yX6_takeNext ∈ big := big_of (List.mem_of_getElem? (i := 833) (by decide +kernel)) rfl
theorem q834 : Cond.code yX6_takeNext cX6_takeNext 2 (some .boolean) ∈ big := big_of (List.mem_of_getElem? (i := 834) (by decide +kernel)) rfl
theorem q843 : Cond.methodLink RX10 297 yX10_countedOf ∈ big := big_of (List.mem_of_getElem? (i := 843) (by decide +kernel)) rfl
theorem q845 : Cond.instanceMethod yX10_countedOf ∈ big := big_of (List.mem_of_getElem? (i := 845) (by decide +kernel)) rfl
theorem q846 : Cond.code yX10_countedOf cX10_countedOf 2 (some .int) ∈ big := big_of (List.mem_of_getElem? (i := 846) (by decide +kernel)) rfl
theorem q847 : Cond.methodLink RX10 315 yX10_textsThere ∈ big := big_of (List.mem_of_getElem? (i := 847) (by decide +kernel)) rfl
theorem q849 : Cond.instanceMethod yX10_textsThere ∈ big := big_of (List.mem_of_getElem? (i := 849) (by decide +kernel)) rfl
theorem q850 : Cond.code yX10_textsThere cX10_textsThere 3 (some .int) ∈ big := big_of (List.mem_of_getElem? (i := 850) (by decide +kernel)) rfl
theorem q863 : Cond.constantLong RX10 303 (17) ∈ big := big_of (List.mem_of_getElem? (i := 863) (by decide +kernel)) rfl
theorem q864 : Cond.constantLong RX10 305 (31) ∈ big := big_of (List.mem_of_getElem? (i := 864) (by decide +kernel)) rfl
theorem q865 : Cond.methodLink RX10 307 yX10_digestText ∈ big := big_of (List.mem_of_getElem? (i := 865) (by decide +kernel)) rfl
theorem q867 : Cond.instanceMethod yX10_digestText ∈ big := big_of (List.mem_of_getElem? (i := 867) (by decide +kernel)) rfl
theorem q868 : Cond.code yX10_digestText cX10_digestText 7 (some .long) ∈ big := big_of (List.mem_of_getElem? (i := 868) (by decide +kernel)) rfl
theorem q869 : Cond.methodLink RX10 311 yX5_digestAfter ∈ big := big_of (List.mem_of_getElem? (i := 869) (by decide +kernel)) rfl
theorem q870 : Cond.instanceMethod yX5_digestAfter ∈ big := big_of (List.mem_of_getElem? (i := 870) (by decide +kernel)) rfl
theorem q871 : Cond.selects RX5 yX5_digestAfter yX5_digestAfter ∈ big := big_of (List.mem_of_getElem? (i := 871) (by decide +kernel)) rfl
theorem q872 : Cond.code yX5_digestAfter cX5_digestAfter 6 (some .long) ∈ big := big_of (List.mem_of_getElem? (i := 872) (by decide +kernel)) rfl
theorem q873 : Cond.constantLong RX5 29 (31) ∈ big := big_of (List.mem_of_getElem? (i := 873) (by decide +kernel)) rfl
theorem q880 : Cond.fieldLink RX11 87 "WhoseHandModel" "finding" "I" ∈ big := big_of (List.mem_of_getElem? (i := 880) (by decide +kernel)) rfl
theorem q881 : Cond.fieldLink RX11 7 "WhoseHandModel" "findings" "[I" ∈ big := big_of (List.mem_of_getElem? (i := 881) (by decide +kernel)) rfl
theorem q882 : Cond.fieldLink RX11 195 "WhoseHandModel" "asked" "J" ∈ big := big_of (List.mem_of_getElem? (i := 882) (by decide +kernel)) rfl
theorem q883 : Cond.fieldLink RX11 13 "WhoseHandModel" "sizes" "[I" ∈ big := big_of (List.mem_of_getElem? (i := 883) (by decide +kernel)) rfl
theorem q884 : Cond.fieldLink RX11 16 "WhoseHandModel" "sheets" "[I" ∈ big := big_of (List.mem_of_getElem? (i := 884) (by decide +kernel)) rfl
theorem q885 : Cond.fieldLink RX11 19 "WhoseHandModel" "moving" "[I" ∈ big := big_of (List.mem_of_getElem? (i := 885) (by decide +kernel)) rfl
theorem q886 : Cond.fieldLink RX11 115 "WhoseHandModel" "texts" "I" ∈ big := big_of (List.mem_of_getElem? (i := 886) (by decide +kernel)) rfl
theorem q887 : Cond.fieldLink RX11 22 "WhoseHandModel" "kinds" "[I" ∈ big := big_of (List.mem_of_getElem? (i := 887) (by decide +kernel)) rfl
theorem q888 : Cond.fieldLink RX11 25 "WhoseHandModel" "writers" "[I" ∈ big := big_of (List.mem_of_getElem? (i := 888) (by decide +kernel)) rfl
theorem q889 : Cond.fieldLink RX11 28 "WhoseHandModel" "years" "[I" ∈ big := big_of (List.mem_of_getElem? (i := 889) (by decide +kernel)) rfl
theorem q890 : Cond.fieldLink RX11 31 "WhoseHandModel" "isGone" "[Z" ∈ big := big_of (List.mem_of_getElem? (i := 890) (by decide +kernel)) rfl
theorem q891 : Cond.fieldLink RX11 35 "WhoseHandModel" "lengths" "[I" ∈ big := big_of (List.mem_of_getElem? (i := 891) (by decide +kernel)) rfl
theorem q892 : Cond.fieldLink RX11 38 "WhoseHandModel" "signs" "[I" ∈ big := big_of (List.mem_of_getElem? (i := 892) (by decide +kernel)) rfl
theorem q893 : Cond.fieldLink RX11 41 "WhoseHandModel" "quotes" "[I" ∈ big := big_of (List.mem_of_getElem? (i := 893) (by decide +kernel)) rfl
theorem q894 : Cond.fieldLink RX11 44 "WhoseHandModel" "marks" "[I" ∈ big := big_of (List.mem_of_getElem? (i := 894) (by decide +kernel)) rfl
theorem q895 : Cond.fieldLink RX11 47 "WhoseHandModel" "words" "[I" ∈ big := big_of (List.mem_of_getElem? (i := 895) (by decide +kernel)) rfl
theorem q896 : Cond.fieldLink RX11 50 "WhoseHandModel" "wordAt" "[I" ∈ big := big_of (List.mem_of_getElem? (i := 896) (by decide +kernel)) rfl
theorem q897 : Cond.fieldLink RX11 53 "WhoseHandModel" "wordLength" "[I" ∈ big := big_of (List.mem_of_getElem? (i := 897) (by decide +kernel)) rfl
theorem q898 : Cond.fieldLink RX11 133 "WhoseHandModel" "features" "I" ∈ big := big_of (List.mem_of_getElem? (i := 898) (by decide +kernel)) rfl
theorem q899 : Cond.fieldLink RX11 56 "WhoseHandModel" "sorts" "[I" ∈ big := big_of (List.mem_of_getElem? (i := 899) (by decide +kernel)) rfl
theorem q900 : Cond.fieldLink RX11 59 "WhoseHandModel" "values" "[I" ∈ big := big_of (List.mem_of_getElem? (i := 900) (by decide +kernel)) rfl
theorem q901 : Cond.fieldLink RX11 62 "WhoseHandModel" "likeLength" "[I" ∈ big := big_of (List.mem_of_getElem? (i := 901) (by decide +kernel)) rfl
theorem q902 : Cond.fieldLink RX11 65 "WhoseHandModel" "likeLetters" "[I" ∈ big := big_of (List.mem_of_getElem? (i := 902) (by decide +kernel)) rfl
theorem q903 : Cond.fieldLink RX11 68 "WhoseHandModel" "counted" "[I" ∈ big := big_of (List.mem_of_getElem? (i := 903) (by decide +kernel)) rfl
theorem q904 : Cond.fieldLink RX11 167 "WhoseHandModel" "sort" "I" ∈ big := big_of (List.mem_of_getElem? (i := 904) (by decide +kernel)) rfl
theorem q905 : Cond.fieldLink RX11 189 "WhoseHandModel" "windows" "I" ∈ big := big_of (List.mem_of_getElem? (i := 905) (by decide +kernel)) rfl
theorem q906 : Cond.fieldLink RX11 71 "WhoseHandModel" "windowOf" "[I" ∈ big := big_of (List.mem_of_getElem? (i := 906) (by decide +kernel)) rfl
theorem q907 : Cond.fieldLink RX11 74 "WhoseHandModel" "firstPrice" "[J" ∈ big := big_of (List.mem_of_getElem? (i := 907) (by decide +kernel)) rfl
theorem q908 : Cond.fieldLink RX11 78 "WhoseHandModel" "otherPrice" "[J" ∈ big := big_of (List.mem_of_getElem? (i := 908) (by decide +kernel)) rfl
theorem q909 : Cond.fieldLink RX11 199 "WhoseHandModel" "joins" "I" ∈ big := big_of (List.mem_of_getElem? (i := 909) (by decide +kernel)) rfl
theorem q910 : Cond.fieldLink RX11 81 "WhoseHandModel" "joinRows" "[I" ∈ big := big_of (List.mem_of_getElem? (i := 910) (by decide +kernel)) rfl
theorem q911 : Cond.fieldLink RX11 84 "WhoseHandModel" "groups" "[I" ∈ big := big_of (List.mem_of_getElem? (i := 911) (by decide +kernel)) rfl
theorem q981 : Cond.methodLink RX11 95 yX11_isSheet ∈ big := big_of (List.mem_of_getElem? (i := 981) (by decide +kernel)) rfl
theorem q982 : Cond.static yX11_isSheet ∈ big := big_of (List.mem_of_getElem? (i := 982) (by decide +kernel)) rfl
theorem q983 : Cond.code yX11_isSheet cX11_isSheet 1 (some .boolean) ∈ big := big_of (List.mem_of_getElem? (i := 983) (by decide +kernel)) rfl
theorem q984 : Cond.methodLink RX11 91 yX11_in ∈ big := big_of (List.mem_of_getElem? (i := 984) (by decide +kernel)) rfl
theorem q985 : Cond.static yX11_in ∈ big := big_of (List.mem_of_getElem? (i := 985) (by decide +kernel)) rfl
theorem q986 : Cond.code yX11_in cX11_in 3 (some .boolean) ∈ big := big_of (List.mem_of_getElem? (i := 986) (by decide +kernel)) rfl
theorem q987 : Cond.methodLink RX11 99 yX11_meets ∈ big := big_of (List.mem_of_getElem? (i := 987) (by decide +kernel)) rfl
theorem q989 : Cond.instanceMethod yX11_meets ∈ big := big_of (List.mem_of_getElem? (i := 989) (by decide +kernel)) rfl
theorem q990 : Cond.code yX11_meets cX11_meets 2 (some .int) ∈ big := big_of (List.mem_of_getElem? (i := 990) (by decide +kernel)) rfl
theorem q995 : Cond.methodLink RX11 103 yX11_looked ∈ big := big_of (List.mem_of_getElem? (i := 995) (by decide +kernel)) rfl
theorem q997 : Cond.instanceMethod yX11_looked ∈ big := big_of (List.mem_of_getElem? (i := 997) (by decide +kernel)) rfl
theorem q998 : Cond.code yX11_looked cX11_looked 2 (some .int) ∈ big := big_of (List.mem_of_getElem? (i := 998) (by decide +kernel)) rfl
theorem q1011 : Cond.methodLink RX11 118 yX11_read ∈ big := big_of (List.mem_of_getElem? (i := 1011) (by decide +kernel)) rfl
theorem q1013 : Cond.instanceMethod yX11_read ∈ big := big_of (List.mem_of_getElem? (i := 1013) (by decide +kernel)) rfl
theorem q1014 : Cond.code yX11_read cX11_read 10 (none) ∈ big := big_of (List.mem_of_getElem? (i := 1014) (by decide +kernel)) rfl
theorem q1015 : Cond.methodLink RX11 109 yX11_small ∈ big := big_of (List.mem_of_getElem? (i := 1015) (by decide +kernel)) rfl
theorem q1016 : Cond.static yX11_small ∈ big := big_of (List.mem_of_getElem? (i := 1016) (by decide +kernel)) rfl
theorem q1017 : Cond.code yX11_small cX11_small 1 (some .int) ∈ big := big_of (List.mem_of_getElem? (i := 1017) (by decide +kernel)) rfl
theorem q1018 : Cond.methodLink RX11 106 yX11_isLetter ∈ big := big_of (List.mem_of_getElem? (i := 1018) (by decide +kernel)) rfl
theorem q1019 : Cond.static yX11_isLetter ∈ big := big_of (List.mem_of_getElem? (i := 1019) (by decide +kernel)) rfl
theorem q1020 : Cond.code yX11_isLetter cX11_isLetter 1 (some .boolean) ∈ big := big_of (List.mem_of_getElem? (i := 1020) (by decide +kernel)) rfl
theorem q1021 : Cond.methodLink RX11 112 yX11_isMark ∈ big := big_of (List.mem_of_getElem? (i := 1021) (by decide +kernel)) rfl
theorem q1022 : Cond.static yX11_isMark ∈ big := big_of (List.mem_of_getElem? (i := 1022) (by decide +kernel)) rfl
theorem q1023 : Cond.code yX11_isMark cX11_isMark 1 (some .boolean) ∈ big := big_of (List.mem_of_getElem? (i := 1023) (by decide +kernel)) rfl
theorem q1028 : Cond.methodLink RX11 122 yX11_isText ∈ big := big_of (List.mem_of_getElem? (i := 1028) (by decide +kernel)) rfl
theorem q1030 : Cond.instanceMethod yX11_isText ∈ big := big_of (List.mem_of_getElem? (i := 1030) (by decide +kernel)) rfl
theorem q1031 : Cond.code yX11_isText cX11_isText 2 (some .boolean) ∈ big := big_of (List.mem_of_getElem? (i := 1031) (by decide +kernel)) rfl
theorem q1032 : Cond.methodLink RX11 125 yX11_tells ∈ big := big_of (List.mem_of_getElem? (i := 1032) (by decide +kernel)) rfl
theorem q1034 : Cond.instanceMethod yX11_tells ∈ big := big_of (List.mem_of_getElem? (i := 1034) (by decide +kernel)) rfl
theorem q1035 : Cond.code yX11_tells cX11_tells 3 (some .int) ∈ big := big_of (List.mem_of_getElem? (i := 1035) (by decide +kernel)) rfl
theorem q1048 : Cond.methodLink RX11 129 yX11_isValue ∈ big := big_of (List.mem_of_getElem? (i := 1048) (by decide +kernel)) rfl
theorem q1049 : Cond.static yX11_isValue ∈ big := big_of (List.mem_of_getElem? (i := 1049) (by decide +kernel)) rfl
theorem q1050 : Cond.code yX11_isValue cX11_isValue 2 (some .boolean) ∈ big := big_of (List.mem_of_getElem? (i := 1050) (by decide +kernel)) rfl
theorem q1055 : Cond.methodLink RX11 149 yX11_isFeature ∈ big := big_of (List.mem_of_getElem? (i := 1055) (by decide +kernel)) rfl
theorem q1057 : Cond.instanceMethod yX11_isFeature ∈ big := big_of (List.mem_of_getElem? (i := 1057) (by decide +kernel)) rfl
theorem q1058 : Cond.code yX11_isFeature cX11_isFeature 2 (some .boolean) ∈ big := big_of (List.mem_of_getElem? (i := 1058) (by decide +kernel)) rfl
theorem q1059 : Cond.methodLink RX11 152 yX11_askedFor ∈ big := big_of (List.mem_of_getElem? (i := 1059) (by decide +kernel)) rfl
theorem q1061 : Cond.instanceMethod yX11_askedFor ∈ big := big_of (List.mem_of_getElem? (i := 1061) (by decide +kernel)) rfl
theorem q1062 : Cond.code yX11_askedFor cX11_askedFor 2 (some .int) ∈ big := big_of (List.mem_of_getElem? (i := 1062) (by decide +kernel)) rfl
theorem q1063 : Cond.methodLink RX11 143 yX11_countOf ∈ big := big_of (List.mem_of_getElem? (i := 1063) (by decide +kernel)) rfl
theorem q1065 : Cond.instanceMethod yX11_countOf ∈ big := big_of (List.mem_of_getElem? (i := 1065) (by decide +kernel)) rfl
theorem q1066 : Cond.code yX11_countOf cX11_countOf 5 (some .int) ∈ big := big_of (List.mem_of_getElem? (i := 1066) (by decide +kernel)) rfl
theorem q1067 : Cond.methodLink RX11 139 yX11_countIn ∈ big := big_of (List.mem_of_getElem? (i := 1067) (by decide +kernel)) rfl
theorem q1069 : Cond.instanceMethod yX11_countIn ∈ big := big_of (List.mem_of_getElem? (i := 1069) (by decide +kernel)) rfl
theorem q1070 : Cond.code yX11_countIn cX11_countIn 7 (some .int) ∈ big := big_of (List.mem_of_getElem? (i := 1070) (by decide +kernel)) rfl
theorem q1071 : Cond.methodLink RX11 136 yX11_isLike ∈ big := big_of (List.mem_of_getElem? (i := 1071) (by decide +kernel)) rfl
theorem q1073 : Cond.instanceMethod yX11_isLike ∈ big := big_of (List.mem_of_getElem? (i := 1073) (by decide +kernel)) rfl
theorem q1074 : Cond.code yX11_isLike cX11_isLike 8 (some .boolean) ∈ big := big_of (List.mem_of_getElem? (i := 1074) (by decide +kernel)) rfl
theorem q1079 : Cond.methodLink RX11 155 yX11_setCounts ∈ big := big_of (List.mem_of_getElem? (i := 1079) (by decide +kernel)) rfl
theorem q1081 : Cond.instanceMethod yX11_setCounts ∈ big := big_of (List.mem_of_getElem? (i := 1081) (by decide +kernel)) rfl
theorem q1082 : Cond.code yX11_setCounts cX11_setCounts 3 (none) ∈ big := big_of (List.mem_of_getElem? (i := 1082) (by decide +kernel)) rfl
theorem q1083 : Cond.methodLink RX11 158 yX11_rateIn ∈ big := big_of (List.mem_of_getElem? (i := 1083) (by decide +kernel)) rfl
theorem q1085 : Cond.instanceMethod yX11_rateIn ∈ big := big_of (List.mem_of_getElem? (i := 1085) (by decide +kernel)) rfl
theorem q1086 : Cond.code yX11_rateIn cX11_rateIn 6 (some .int) ∈ big := big_of (List.mem_of_getElem? (i := 1086) (by decide +kernel)) rfl
theorem q1087 : Cond.methodLink RX11 146 yX11_has ∈ big := big_of (List.mem_of_getElem? (i := 1087) (by decide +kernel)) rfl
theorem q1088 : Cond.static yX11_has ∈ big := big_of (List.mem_of_getElem? (i := 1088) (by decide +kernel)) rfl
theorem q1089 : Cond.code yX11_has cX11_has 2 (some .boolean) ∈ big := big_of (List.mem_of_getElem? (i := 1089) (by decide +kernel)) rfl
theorem q1094 : Cond.methodLink RX11 161 yX11_isWriter ∈ big := big_of (List.mem_of_getElem? (i := 1094) (by decide +kernel)) rfl
theorem q1095 : Cond.static yX11_isWriter ∈ big := big_of (List.mem_of_getElem? (i := 1095) (by decide +kernel)) rfl
theorem q1096 : Cond.code yX11_isWriter cX11_isWriter 1 (some .boolean) ∈ big := big_of (List.mem_of_getElem? (i := 1096) (by decide +kernel)) rfl
theorem q1097 : Cond.methodLink RX11 164 yX11_handOf ∈ big := big_of (List.mem_of_getElem? (i := 1097) (by decide +kernel)) rfl
theorem q1099 : Cond.instanceMethod yX11_handOf ∈ big := big_of (List.mem_of_getElem? (i := 1099) (by decide +kernel)) rfl
theorem q1100 : Cond.code yX11_handOf cX11_handOf 5 (some .int) ∈ big := big_of (List.mem_of_getElem? (i := 1100) (by decide +kernel)) rfl
theorem q1113 : Cond.methodLink RX11 173 yX11_allFeatures ∈ big := big_of (List.mem_of_getElem? (i := 1113) (by decide +kernel)) rfl
theorem q1115 : Cond.instanceMethod yX11_allFeatures ∈ big := big_of (List.mem_of_getElem? (i := 1115) (by decide +kernel)) rfl
theorem q1116 : Cond.code yX11_allFeatures cX11_allFeatures 1 (some .int) ∈ big := big_of (List.mem_of_getElem? (i := 1116) (by decide +kernel)) rfl
theorem q1117 : Cond.methodLink RX11 177 yX11_farOf ∈ big := big_of (List.mem_of_getElem? (i := 1117) (by decide +kernel)) rfl
theorem q1119 : Cond.instanceMethod yX11_farOf ∈ big := big_of (List.mem_of_getElem? (i := 1119) (by decide +kernel)) rfl
theorem q1120 : Cond.code yX11_farOf cX11_farOf 6 (some .int) ∈ big := big_of (List.mem_of_getElem? (i := 1120) (by decide +kernel)) rfl
theorem q1121 : Cond.methodLink RX11 170 yX11_differing ∈ big := big_of (List.mem_of_getElem? (i := 1121) (by decide +kernel)) rfl
theorem q1123 : Cond.instanceMethod yX11_differing ∈ big := big_of (List.mem_of_getElem? (i := 1123) (by decide +kernel)) rfl
theorem q1124 : Cond.code yX11_differing cX11_differing 4 (some .int) ∈ big := big_of (List.mem_of_getElem? (i := 1124) (by decide +kernel)) rfl
theorem q1133 : Cond.methodLink RX11 181 yX11_nearestOf ∈ big := big_of (List.mem_of_getElem? (i := 1133) (by decide +kernel)) rfl
theorem q1135 : Cond.instanceMethod yX11_nearestOf ∈ big := big_of (List.mem_of_getElem? (i := 1135) (by decide +kernel)) rfl
theorem q1136 : Cond.code yX11_nearestOf cX11_nearestOf 8 (some .int) ∈ big := big_of (List.mem_of_getElem? (i := 1136) (by decide +kernel)) rfl
theorem q1153 : Cond.constantLong RX11 184 (1103515245) ∈ big := big_of (List.mem_of_getElem? (i := 1153) (by decide +kernel)) rfl
theorem q1154 : Cond.constantLong RX11 186 (12345) ∈ big := big_of (List.mem_of_getElem? (i := 1154) (by decide +kernel)) rfl
theorem q1159 : Cond.constant RX11 188 (10000000) ∈ big := big_of (List.mem_of_getElem? (i := 1159) (by decide +kernel)) rfl
theorem q1160 : Cond.methodLink RX11 192 yX11_windowFar ∈ big := big_of (List.mem_of_getElem? (i := 1160) (by decide +kernel)) rfl
theorem q1162 : Cond.instanceMethod yX11_windowFar ∈ big := big_of (List.mem_of_getElem? (i := 1162) (by decide +kernel)) rfl
theorem q1163 : Cond.code yX11_windowFar cX11_windowFar 8 (some .int) ∈ big := big_of (List.mem_of_getElem? (i := 1163) (by decide +kernel)) rfl
theorem q1172 : Cond.methodLink RX11 202 yX11_joinTwo ∈ big := big_of (List.mem_of_getElem? (i := 1172) (by decide +kernel)) rfl
theorem q1174 : Cond.instanceMethod yX11_joinTwo ∈ big := big_of (List.mem_of_getElem? (i := 1174) (by decide +kernel)) rfl
theorem q1175 : Cond.code yX11_joinTwo cX11_joinTwo 7 (none) ∈ big := big_of (List.mem_of_getElem? (i := 1175) (by decide +kernel)) rfl
theorem q1184 : Cond.methodLink RX11 205 yX11_bits ∈ big := big_of (List.mem_of_getElem? (i := 1184) (by decide +kernel)) rfl
theorem q1185 : Cond.static yX11_bits ∈ big := big_of (List.mem_of_getElem? (i := 1185) (by decide +kernel)) rfl
theorem q1186 : Cond.code yX11_bits cX11_bits 3 (some .int) ∈ big := big_of (List.mem_of_getElem? (i := 1186) (by decide +kernel)) rfl
theorem q1187 : Cond.methodLink RX11 208 yX11_apart ∈ big := big_of (List.mem_of_getElem? (i := 1187) (by decide +kernel)) rfl
theorem q1189 : Cond.instanceMethod yX11_apart ∈ big := big_of (List.mem_of_getElem? (i := 1189) (by decide +kernel)) rfl
theorem q1190 : Cond.code yX11_apart cX11_apart 6 (some .int) ∈ big := big_of (List.mem_of_getElem? (i := 1190) (by decide +kernel)) rfl
theorem q1199 : Cond.methodLink RX11 211 yX11_tellsCount ∈ big := big_of (List.mem_of_getElem? (i := 1199) (by decide +kernel)) rfl
theorem q1201 : Cond.instanceMethod yX11_tellsCount ∈ big := big_of (List.mem_of_getElem? (i := 1201) (by decide +kernel)) rfl
theorem q1202 : Cond.code yX11_tellsCount cX11_tellsCount 4 (some .int) ∈ big := big_of (List.mem_of_getElem? (i := 1202) (by decide +kernel)) rfl
theorem q1215 : Cond.constantLong RX11 214 (17) ∈ big := big_of (List.mem_of_getElem? (i := 1215) (by decide +kernel)) rfl
theorem q1216 : Cond.constantLong RX11 216 (31) ∈ big := big_of (List.mem_of_getElem? (i := 1216) (by decide +kernel)) rfl
