theorem q63 : Cond.methodLink RX10 3 Lib.objectInit ∈ big := big_of (List.mem_of_getElem? (i := 63) (by decide +kernel)) rfl
theorem q64 : Cond.instanceMethod Lib.objectInit ∈ big := big_of (List.mem_of_getElem? (i := 64) (by decide +kernel)) rfl
theorem q65 : Cond.code Lib.objectInit ⟨#[0xb1]⟩ 1 none ∈ big := big_of (List.mem_of_getElem? (i := 65) (by decide +kernel)) rfl
theorem q66 : Cond.classLink RX10 9 RX5 ∈ big := big_of (List.mem_of_getElem? (i := 66) (by decide +kernel)) rfl
theorem q68 : Cond.classLink RX10 15 RX8 ∈ big := big_of (List.mem_of_getElem? (i := 68) (by decide +kernel)) rfl
theorem q70 : Cond.classLink RX10 21 RX2 ∈ big := big_of (List.mem_of_getElem? (i := 70) (by decide +kernel)) rfl
theorem q71 : Cond.instantiable RX2 4 ∈ big := big_of (List.mem_of_getElem? (i := 71) (by decide +kernel)) rfl
theorem q72 : Cond.methodLinkNest RX10 23 yX2_init "WhoseHand" ∈ nstw := nst_of (List.mem_of_getElem? (i := 72) (by decide +kernel)) rfl
theorem q73 : Cond.instanceMethod yX2_init ∈ big := big_of (List.mem_of_getElem? (i := 73) (by decide +kernel)) rfl
theorem q74 : Cond.code yX2_init cX2_init 1 (none) ∈ big := big_of (List.mem_of_getElem? (i := 74) (by decide +kernel)) rfl
theorem q75 : Cond.methodLink RX2 3 Lib.objectInit ∈ big := big_of (List.mem_of_getElem? (i := 75) (by decide +kernel)) rfl
theorem q76 : Cond.classLink RX2 9 RX0 ∈ big := big_of (List.mem_of_getElem? (i := 76) (by decide +kernel)) rfl
theorem q93 : Cond.arrayClass .boolean ∈ big := big_of (List.mem_of_getElem? (i := 93) (by decide +kernel)) rfl
theorem q94 : Cond.classLink RX10 28 RX1 ∈ big := big_of (List.mem_of_getElem? (i := 94) (by decide +kernel)) rfl
theorem q95 : Cond.instantiable RX1 3 ∈ big := big_of (List.mem_of_getElem? (i := 95) (by decide +kernel)) rfl
theorem q96 : Cond.methodLinkNest RX10 30 yX1_init "WhoseHand" ∈ nstw := nst_of (List.mem_of_getElem? (i := 96) (by decide +kernel)) rfl
theorem q97 : Cond.instanceMethod yX1_init ∈ big := big_of (List.mem_of_getElem? (i := 97) (by decide +kernel)) rfl
theorem q98 : Cond.code yX1_init cX1_init 1 (none) ∈ big := big_of (List.mem_of_getElem? (i := 98) (by decide +kernel)) rfl
theorem q99 : Cond.methodLink RX1 3 Lib.objectInit ∈ big := big_of (List.mem_of_getElem? (i := 99) (by decide +kernel)) rfl
theorem q100 : Cond.classLink RX1 9 "[[I" ∈ big := big_of (List.mem_of_getElem? (i := 100) (by decide +kernel)) rfl
theorem q102 : Cond.classLink RX1 20 RX7 ∈ big := big_of (List.mem_of_getElem? (i := 102) (by decide +kernel)) rfl
theorem q103 : Cond.instantiable RX7 3 ∈ big := big_of (List.mem_of_getElem? (i := 103) (by decide +kernel)) rfl
theorem q104 : Cond.methodLinkNest RX1 22 yX7_init "WhoseHand" ∈ nstw := nst_of (List.mem_of_getElem? (i := 104) (by decide +kernel)) rfl
theorem q105 : Cond.instanceMethod yX7_init ∈ big := big_of (List.mem_of_getElem? (i := 105) (by decide +kernel)) rfl
theorem q106 : Cond.code yX7_init cX7_init 1 (none) ∈ big := big_of (List.mem_of_getElem? (i := 106) (by decide +kernel)) rfl
theorem q107 : Cond.methodLink RX7 3 Lib.objectInit ∈ big := big_of (List.mem_of_getElem? (i := 107) (by decide +kernel)) rfl
theorem q120 : Cond.arrayClass .int ∈ big := big_of (List.mem_of_getElem? (i := 120) (by decide +kernel)) rfl
theorem q131 : Cond.classLink RX10 35 RX3 ∈ big := big_of (List.mem_of_getElem? (i := 131) (by decide +kernel)) rfl
theorem q132 : Cond.instantiable RX3 8 ∈ big := big_of (List.mem_of_getElem? (i := 132) (by decide +kernel)) rfl
theorem q133 : Cond.methodLinkNest RX10 37 yX3_init "WhoseHand" ∈ nstw := nst_of (List.mem_of_getElem? (i := 133) (by decide +kernel)) rfl
theorem q134 : Cond.instanceMethod yX3_init ∈ big := big_of (List.mem_of_getElem? (i := 134) (by decide +kernel)) rfl
theorem q135 : Cond.code yX3_init cX3_init 1 (none) ∈ big := big_of (List.mem_of_getElem? (i := 135) (by decide +kernel)) rfl
theorem q136 : Cond.methodLink RX3 3 Lib.objectInit ∈ big := big_of (List.mem_of_getElem? (i := 136) (by decide +kernel)) rfl
theorem q137 : Cond.classLink RX3 31 RX7 ∈ big := big_of (List.mem_of_getElem? (i := 137) (by decide +kernel)) rfl
theorem q138 : Cond.methodLinkNest RX3 33 yX7_init "WhoseHand" ∈ nstw := nst_of (List.mem_of_getElem? (i := 138) (by decide +kernel)) rfl
theorem q164 : Cond.arrayClass .long ∈ big := big_of (List.mem_of_getElem? (i := 164) (by decide +kernel)) rfl
theorem q165 : Cond.classLink RX10 42 RX9 ∈ big := big_of (List.mem_of_getElem? (i := 165) (by decide +kernel)) rfl
theorem q166 : Cond.instantiable RX9 7 ∈ big := big_of (List.mem_of_getElem? (i := 166) (by decide +kernel)) rfl
theorem q167 : Cond.methodLink RX10 44 yX9_init ∈ big := big_of (List.mem_of_getElem? (i := 167) (by decide +kernel)) rfl
theorem q168 : Cond.instanceMethod yX9_init ∈ big := big_of (List.mem_of_getElem? (i := 168) (by decide +kernel)) rfl
theorem q169 : Cond.code yX9_init cX9_init 2 (none) ∈ big := big_of (List.mem_of_getElem? (i := 169) (by decide +kernel)) rfl
theorem q170 : Cond.methodLink RX9 3 Lib.objectInit ∈ big := big_of (List.mem_of_getElem? (i := 170) (by decide +kernel)) rfl
theorem q171 : Cond.classLink RX9 9 RX7 ∈ big := big_of (List.mem_of_getElem? (i := 171) (by decide +kernel)) rfl
theorem q173 : Cond.classLink RX9 17 "[[I" ∈ big := big_of (List.mem_of_getElem? (i := 173) (by decide +kernel)) rfl
theorem q174 : Cond.methodLinkNest RX9 36 yX7_init "WhoseHand" ∈ nstw := nst_of (List.mem_of_getElem? (i := 174) (by decide +kernel)) rfl
theorem q197 : Cond.classLink RX10 49 RX6 ∈ big := big_of (List.mem_of_getElem? (i := 197) (by decide +kernel)) rfl
theorem q198 : Cond.instantiable RX6 10 ∈ big := big_of (List.mem_of_getElem? (i := 198) (by decide +kernel)) rfl
theorem q199 : Cond.methodLinkNest RX10 51 yX6_init "WhoseHand" ∈ nstw := nst_of (List.mem_of_getElem? (i := 199) (by decide +kernel)) rfl
theorem q200 : Cond.instanceMethod yX6_init ∈ big := big_of (List.mem_of_getElem? (i := 200) (by decide +kernel)) rfl
theorem q201 : Cond.code yX6_init cX6_init 1 (none) ∈ big := big_of (List.mem_of_getElem? (i := 201) (by decide +kernel)) rfl
theorem q202 : Cond.methodLink RX6 3 Lib.objectInit ∈ big := big_of (List.mem_of_getElem? (i := 202) (by decide +kernel)) rfl
theorem q235 : Cond.classLink RX10 56 RX4 ∈ big := big_of (List.mem_of_getElem? (i := 235) (by decide +kernel)) rfl
theorem q236 : Cond.instantiable RX4 8 ∈ big := big_of (List.mem_of_getElem? (i := 236) (by decide +kernel)) rfl
theorem q237 : Cond.methodLinkNest RX10 58 yX4_init "WhoseHand" ∈ nstw := nst_of (List.mem_of_getElem? (i := 237) (by decide +kernel)) rfl
theorem q238 : Cond.instanceMethod yX4_init ∈ big := big_of (List.mem_of_getElem? (i := 238) (by decide +kernel)) rfl
theorem q239 : Cond.code yX4_init cX4_init 1 (none) ∈ big := big_of (List.mem_of_getElem? (i := 239) (by decide +kernel)) rfl
theorem q240 : Cond.methodLink RX4 3 Lib.objectInit ∈ big := big_of (List.mem_of_getElem? (i := 240) (by decide +kernel)) rfl
theorem q275 : Cond.arrayClass .byte ∈ big := big_of (List.mem_of_getElem? (i := 275) (by decide +kernel)) rfl
theorem q276 : Cond.instantiable RX5 2 ∈ big := big_of (List.mem_of_getElem? (i := 276) (by decide +kernel)) rfl
theorem q277 : Cond.methodLinkNest RX10 73 yX5_init "WhoseHand" ∈ nstw := nst_of (List.mem_of_getElem? (i := 277) (by decide +kernel)) rfl
theorem q278 : Cond.instanceMethod yX5_init ∈ big := big_of (List.mem_of_getElem? (i := 278) (by decide +kernel)) rfl
theorem q279 : Cond.code yX5_init cX5_init 1 (none) ∈ big := big_of (List.mem_of_getElem? (i := 279) (by decide +kernel)) rfl
theorem q280 : Cond.methodLink RX5 3 Lib.objectInit ∈ big := big_of (List.mem_of_getElem? (i := 280) (by decide +kernel)) rfl
theorem q296 : Cond.fieldLink RX10 59 "WhoseHand" "firstWord" "LWhoseHand$Prose;" ∈ big := big_of (List.mem_of_getElem? (i := 296) (by decide +kernel)) rfl
theorem q399 : Cond.methodLink RX8 3 Lib.objectInit ∈ big := big_of (List.mem_of_getElem? (i := 399) (by decide +kernel)) rfl
theorem q400 : Cond.classLink RX8 9 RX4 ∈ big := big_of (List.mem_of_getElem? (i := 400) (by decide +kernel)) rfl
theorem q401 : Cond.methodLinkNest RX8 11 yX4_init "WhoseHand" ∈ nstw := nst_of (List.mem_of_getElem? (i := 401) (by decide +kernel)) rfl
theorem q402 : Cond.classLink RX8 18 RX7 ∈ big := big_of (List.mem_of_getElem? (i := 402) (by decide +kernel)) rfl
theorem q403 : Cond.methodLinkNest RX8 20 yX7_init "WhoseHand" ∈ nstw := nst_of (List.mem_of_getElem? (i := 403) (by decide +kernel)) rfl
theorem q408 : Cond.fieldLink RX8 32 "WhoseHand$Text" "year" "I" ∈ big := big_of (List.mem_of_getElem? (i := 408) (by decide +kernel)) rfl
theorem q413 : Cond.fieldLink RX8 21 "WhoseHand$Text" "tally" "LWhoseHand$Tally;" ∈ big := big_of (List.mem_of_getElem? (i := 413) (by decide +kernel)) rfl
theorem q551 : Cond.methodLink RX0 3 Lib.objectInit ∈ big := big_of (List.mem_of_getElem? (i := 551) (by decide +kernel)) rfl
theorem q879 : Cond.methodLink RX11 1 Lib.objectInit ∈ big := big_of (List.mem_of_getElem? (i := 879) (by decide +kernel)) rfl
