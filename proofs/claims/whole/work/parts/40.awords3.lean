theorem q395 : Cond.instantiable RX8 6 ∈ big := big_of (List.mem_of_getElem? (i := 395) (by decide +kernel)) rfl
theorem q396 : Cond.methodLink RX10 116 yX8_init ∈ big := big_of (List.mem_of_getElem? (i := 396) (by decide +kernel)) rfl
theorem q397 : Cond.instanceMethod yX8_init ∈ big := big_of (List.mem_of_getElem? (i := 397) (by decide +kernel)) rfl
theorem q398 : Cond.code yX8_init cX8_init 4 (none) ∈ big := big_of (List.mem_of_getElem? (i := 398) (by decide +kernel)) rfl
theorem q434 : Cond.methodLink RX10 122 yX4_read ∈ big := big_of (List.mem_of_getElem? (i := 434) (by decide +kernel)) rfl
theorem q435 : Cond.instanceMethod yX4_read ∈ big := big_of (List.mem_of_getElem? (i := 435) (by decide +kernel)) rfl
theorem q436 : Cond.selects RX4 yX4_read yX4_read ∈ big := big_of (List.mem_of_getElem? (i := 436) (by decide +kernel)) rfl
theorem q437 : Cond.code yX4_read cX4_read 2 (none) ∈ big := big_of (List.mem_of_getElem? (i := 437) (by decide +kernel)) rfl
theorem q467 : Cond.methodLink RX10 126 yX2_tallyText ∈ big := big_of (List.mem_of_getElem? (i := 467) (by decide +kernel)) rfl
theorem q468 : Cond.instanceMethod yX2_tallyText ∈ big := big_of (List.mem_of_getElem? (i := 468) (by decide +kernel)) rfl
theorem q469 : Cond.selects RX2 yX2_tallyText yX2_tallyText ∈ big := big_of (List.mem_of_getElem? (i := 469) (by decide +kernel)) rfl
theorem q470 : Cond.code yX2_tallyText cX2_tallyText 4 (none) ∈ big := big_of (List.mem_of_getElem? (i := 470) (by decide +kernel)) rfl
theorem q490 : Cond.instantiable RX0 4 ∈ big := big_of (List.mem_of_getElem? (i := 490) (by decide +kernel)) rfl
theorem q537 : Cond.methodLink RX10 156 yX10_isFeatureValue ∈ big := big_of (List.mem_of_getElem? (i := 537) (by decide +kernel)) rfl
theorem q538 : Cond.static yX10_isFeatureValue ∈ big := big_of (List.mem_of_getElem? (i := 538) (by decide +kernel)) rfl
theorem q539 : Cond.code yX10_isFeatureValue cX10_isFeatureValue 2 (some .boolean) ∈ big := big_of (List.mem_of_getElem? (i := 539) (by decide +kernel)) rfl
theorem q542 : Cond.methodLink RX10 159 yX2_isFull ∈ big := big_of (List.mem_of_getElem? (i := 542) (by decide +kernel)) rfl
theorem q546 : Cond.classLink RX10 162 RX0 ∈ big := big_of (List.mem_of_getElem? (i := 546) (by decide +kernel)) rfl
theorem q547 : Cond.methodLink RX10 164 yX10_smallSign ∈ big := big_of (List.mem_of_getElem? (i := 547) (by decide +kernel)) rfl
theorem q548 : Cond.methodLink RX10 167 yX0_init ∈ big := big_of (List.mem_of_getElem? (i := 548) (by decide +kernel)) rfl
theorem q549 : Cond.instanceMethod yX0_init ∈ big := big_of (List.mem_of_getElem? (i := 549) (by decide +kernel)) rfl
theorem q550 : Cond.code yX0_init cX0_init 3 (none) ∈ big := big_of (List.mem_of_getElem? (i := 550) (by decide +kernel)) rfl
theorem q566 : Cond.methodLink RX10 169 yX0_learnWord ∈ big := big_of (List.mem_of_getElem? (i := 566) (by decide +kernel)) rfl
theorem q567 : Cond.instanceMethod yX0_learnWord ∈ big := big_of (List.mem_of_getElem? (i := 567) (by decide +kernel)) rfl
theorem q568 : Cond.selects RX0 yX0_learnWord yX0_learnWord ∈ big := big_of (List.mem_of_getElem? (i := 568) (by decide +kernel)) rfl
theorem q569 : Cond.code yX0_learnWord cX0_learnWord 4 (none) ∈ big := big_of (List.mem_of_getElem? (i := 569) (by decide +kernel)) rfl
theorem q570 : Cond.methodLink RX10 173 yX2_take ∈ big := big_of (List.mem_of_getElem? (i := 570) (by decide +kernel)) rfl
theorem q571 : Cond.instanceMethod yX2_take ∈ big := big_of (List.mem_of_getElem? (i := 571) (by decide +kernel)) rfl
theorem q572 : Cond.selects RX2 yX2_take yX2_take ∈ big := big_of (List.mem_of_getElem? (i := 572) (by decide +kernel)) rfl
theorem q573 : Cond.code yX2_take cX2_take 5 (some .int) ∈ big := big_of (List.mem_of_getElem? (i := 573) (by decide +kernel)) rfl
