def wsL_law_r1 : List Cond := [Cond.classLink RL 7 RX6, Cond.instantiable RX6 12, Cond.initialized RX6, Cond.classLink RL 10 RX7, Cond.instantiable RX7 25, Cond.initialized RX7, Cond.methodLink RL 9 yX6_init, Cond.instanceMethod yX6_init, Cond.code yX6_init cX6_init 1 none, Cond.methodLink RX6 3 objectInit, Cond.instanceMethod objectInit, Cond.code objectInit ⟨#[0xb1]⟩ 1 none, Cond.classLink RX6 9 RX5, Cond.instantiable RX5 15, Cond.initialized RX5, Cond.fieldLink RX6 12 "LeastNeed" "now" "LLeastNeed$Valley;", Cond.fieldLink RX6 16 "LeastNeed" "trial" "LLeastNeed$Valley;", Cond.fieldLink RX6 19 "LeastNeed" "images" "[LLeastNeed$Valley;", Cond.arrayClass .boolean, Cond.fieldLink RX6 23 "LeastNeed" "imageKept" "[Z", Cond.classLink RX6 27 RX2, Cond.instantiable RX2 6, Cond.initialized RX2, Cond.fieldLink RX6 30 "LeastNeed" "reader" "LLeastNeed$Reader;"]
def wsL_law_r2 : List Cond := [Cond.classLink RX6 34 RX0, Cond.instantiable RX0 5, Cond.initialized RX0, Cond.fieldLink RX6 37 "LeastNeed" "journey" "LLeastNeed$Journey;", Cond.arrayClass .int, Cond.fieldLink RX6 41 "LeastNeed" "refused" "[I", Cond.fieldLink RX6 45 "LeastNeed" "answers" "[I", Cond.fieldLink RX6 48 "LeastNeed" "order" "[I", Cond.fieldLink RX6 51 "LeastNeed" "goals" "[I", Cond.fieldLink RX6 54 "LeastNeed" "above" "J", Cond.fieldLink RX6 58 "LeastNeed" "below" "J", Cond.instanceMethod yX5_init, Cond.code yX5_init cX5_init 1 none, Cond.methodLink RX5 3 objectInit, Cond.fieldLink RX5 9 "LeastNeed$Valley" "kind" "[I", Cond.fieldLink RX5 15 "LeastNeed$Valley" "house" "[I", Cond.fieldLink RX5 18 "LeastNeed$Valley" "worn" "[I", Cond.fieldLink RX5 21 "LeastNeed$Valley" "need" "[I", Cond.fieldLink RX5 24 "LeastNeed$Valley" "thingKind" "[I", Cond.fieldLink RX5 27 "LeastNeed$Valley" "sort" "[I", Cond.fieldLink RX5 30 "LeastNeed$Valley" "owner" "[I", Cond.fieldLink RX5 33 "LeastNeed$Valley" "holder" "[I", Cond.fieldLink RX5 36 "LeastNeed$Valley" "place" "[I", Cond.classLink RX5 39 RX3]
def wsL_law_r3 : List Cond := [Cond.instantiable RX3 4, Cond.initialized RX3, Cond.fieldLink RX5 44 "LeastNeed$Valley" "notes" "LLeastNeed$Rows;", Cond.fieldLink RX5 48 "LeastNeed$Valley" "cames" "LLeastNeed$Rows;", Cond.fieldLink RX5 51 "LeastNeed$Valley" "past" "LLeastNeed$Rows;", Cond.methodLink RX5 41 yX3_init, Cond.instanceMethod yX3_init, Cond.code yX3_init cX3_init 3 none, Cond.methodLink RX3 1 objectInit, Cond.fieldLink RX3 7 "LeastNeed$Rows" "width" "I", Cond.fieldLink RX3 13 "LeastNeed$Rows" "most" "I", Cond.fieldLink RX3 16 "LeastNeed$Rows" "cells" "[I", Cond.fieldLink RX3 20 "LeastNeed$Rows" "used" "I", Cond.instanceMethod yX2_init, Cond.code yX2_init cX2_init 1 none, Cond.methodLink RX2 3 objectInit, Cond.arrayClass .char, Cond.fieldLink RX2 9 "LeastNeed$Reader" "text" "[C", Cond.fieldLink RX2 15 "LeastNeed$Reader" "numbers" "[I", Cond.instanceMethod yX0_init, Cond.code yX0_init cX0_init 1 none, Cond.methodLink RX0 3 objectInit, Cond.arrayClass .long, Cond.fieldLink RX0 9 "LeastNeed$Journey" "has" "[J"]
def wsL_law_r4 : List Cond := [Cond.fieldLink RX0 15 "LeastNeed$Journey" "lost" "[J", Cond.fieldLink RX0 18 "LeastNeed$Journey" "hasNext" "[J", Cond.fieldLink RX0 21 "LeastNeed$Journey" "lostNext" "[J", Cond.methodLink RL 12 yX7_init, Cond.instanceMethod yX7_init, Cond.code yX7_init cX7_init 1 none, Cond.methodLink RX7 1 objectInit, Cond.fieldLink RX7 7 "LeastNeedModel" "told" "[I", Cond.fieldLink RX7 13 "LeastNeedModel" "kept" "[I", Cond.fieldLink RX7 16 "LeastNeedModel" "isKept" "[Z", Cond.fieldLink RX7 20 "LeastNeedModel" "refused" "[I", Cond.fieldLink RX7 23 "LeastNeedModel" "below" "J", Cond.fieldLink RX7 27 "LeastNeedModel" "coats0" "[I", Cond.fieldLink RX7 30 "LeastNeedModel" "first" "[I", Cond.fieldLink RX7 33 "LeastNeedModel" "losses" "[I", Cond.fieldLink RX7 36 "LeastNeedModel" "behind" "[I", Cond.fieldLink RX7 39 "LeastNeedModel" "prices" "[I", Cond.fieldLink RX7 42 "LeastNeedModel" "to0" "[I", Cond.fieldLink RX7 45 "LeastNeedModel" "his" "[I", Cond.fieldLink RX7 48 "LeastNeedModel" "theirs" "[I", Cond.fieldLink RX7 51 "LeastNeedModel" "cases" "[J", Cond.fieldLink RX7 55 "LeastNeedModel" "then" "[J", Cond.fieldLink RX7 58 "LeastNeedModel" "hand" "[I", Cond.fieldLink RX7 61 "LeastNeedModel" "bytes" "[I"]
def wsL_law_r5 : List Cond := [Cond.fieldLink RX7 64 "LeastNeedModel" "anew" "[I", Cond.fieldLink RX7 67 "LeastNeedModel" "values" "[I", Cond.methodLink RX7 70 yX7_begin, Cond.static yX7_begin, Cond.code yX7_begin cX7_begin 2 none, Cond.methodLink RL 13 yX6_valley, Cond.instanceMethod yX6_valley, Cond.selects RX6 yX6_valley yX6_valley, Cond.code yX6_valley cX6_valley 2 (some .int), Cond.fieldLink RX6 61 "LeastNeed$Valley" "people" "I", Cond.methodLink RX6 65 yX5_empty, Cond.instanceMethod yX5_empty, Cond.selects RX5 yX5_empty yX5_empty, Cond.code yX5_empty cX5_empty 1 none, Cond.fieldLink RX5 54 "LeastNeed$Valley" "people" "I", Cond.fieldLink RX5 58 "LeastNeed$Valley" "things" "I", Cond.fieldLink RX5 61 "LeastNeed$Valley" "today" "I", Cond.fieldLink RX5 64 "LeastNeed$Rows" "used" "I", Cond.methodLink RL 17 yX7_valley, Cond.instanceMethod yX7_valley, Cond.selects RX7 yX7_valley yX7_valley, Cond.code yX7_valley cX7_valley 2 (some .int), Cond.methodLink RX7 74 yX7_many, Cond.instanceMethod yX7_many]
def wsL_law_r6 : List Cond := [Cond.selects RX7 yX7_many yX7_many, Cond.code yX7_many cX7_many 1 (some .int), Cond.methodLink RL 18 yX6_person, Cond.instanceMethod yX6_person, Cond.selects RX6 yX6_person yX6_person, Cond.code yX6_person cX6_person 8 (some .int), Cond.methodLink RX6 68 yX6_upTo, Cond.static yX6_upTo, Cond.code yX6_upTo cX6_upTo 2 (some .boolean), Cond.methodLink RX6 72 yX6_refusedAsBad, Cond.instanceMethod yX6_refusedAsBad, Cond.selects RX6 yX6_refusedAsBad yX6_refusedAsBad, Cond.code yX6_refusedAsBad cX6_refusedAsBad 1 (some .int), Cond.methodLink RX6 76 yX6_refusedAsFull, Cond.instanceMethod yX6_refusedAsFull, Cond.selects RX6 yX6_refusedAsFull yX6_refusedAsFull, Cond.code yX6_refusedAsFull cX6_refusedAsFull 1 (some .int), Cond.methodLink RX6 79 yX5_addPerson, Cond.instanceMethod yX5_addPerson, Cond.selects RX5 yX5_addPerson yX5_addPerson, Cond.code yX5_addPerson cX5_addPerson 7 none, Cond.methodLink RL 22 yX7_person, Cond.instanceMethod yX7_person, Cond.selects RX7 yX7_person yX7_person]
def wsL_law_r7 : List Cond := [Cond.code yX7_person cX7_person 7 (some .int), Cond.constantLong RX7 89 (5), Cond.constantLong RX7 91 (19), Cond.methodLink RX7 78 yX7_in, Cond.static yX7_in, Cond.code yX7_in cX7_in 6 (some .boolean), Cond.methodLink RX7 93 yX7_isNeed, Cond.static yX7_isNeed, Cond.code yX7_isNeed cX7_isNeed 1 (some .boolean), Cond.constantLong RX7 87 (9), Cond.methodLink RX7 97 yX7_bad, Cond.instanceMethod yX7_bad, Cond.selects RX7 yX7_bad yX7_bad, Cond.code yX7_bad cX7_bad 2 (some .int), Cond.methodLink RX7 101 yX7_full, Cond.instanceMethod yX7_full, Cond.selects RX7 yX7_full yX7_full, Cond.code yX7_full cX7_full 1 (some .int), Cond.methodLink RX7 104 yX7_layPerson, Cond.static yX7_layPerson, Cond.code yX7_layPerson cX7_layPerson 8 none, Cond.methodLink RL 23 yX6_thing, Cond.instanceMethod yX6_thing, Cond.selects RX6 yX6_thing yX6_thing]
def wsL_law_r8 : List Cond := [Cond.code yX6_thing cX6_thing 4 (some .int), Cond.fieldLink RX6 87 "LeastNeed$Valley" "things" "I", Cond.methodLink RX6 83 yX6_isPerson, Cond.instanceMethod yX6_isPerson, Cond.selects RX6 yX6_isPerson yX6_isPerson, Cond.code yX6_isPerson cX6_isPerson 2 (some .boolean), Cond.methodLink RX6 90 yX5_addThing, Cond.instanceMethod yX5_addThing, Cond.selects RX5 yX5_addThing yX5_addThing, Cond.code yX5_addThing cX5_addThing 4 none, Cond.methodLink RL 27 yX7_thing, Cond.instanceMethod yX7_thing, Cond.selects RX7 yX7_thing yX7_thing, Cond.code yX7_thing cX7_thing 4 (some .int), Cond.methodLink RX7 108 yX7_isSort, Cond.static yX7_isSort, Cond.code yX7_isSort cX7_isSort 1 (some .boolean), Cond.constantLong RX7 85 (3), Cond.methodLink RX7 111 yX7_isOne, Cond.instanceMethod yX7_isOne, Cond.selects RX7 yX7_isOne yX7_isOne, Cond.code yX7_isOne cX7_isOne 2 (some .boolean), Cond.methodLink RX7 82 yX7_manyThings, Cond.instanceMethod yX7_manyThings]
def wsL_law_r9 : List Cond := [Cond.selects RX7 yX7_manyThings yX7_manyThings, Cond.code yX7_manyThings cX7_manyThings 1 (some .int), Cond.methodLink RX7 114 yX7_layThing, Cond.static yX7_layThing, Cond.code yX7_layThing cX7_layThing 5 none, Cond.methodLink RL 28 yX6_type, Cond.instanceMethod yX6_type, Cond.selects RX6 yX6_type yX6_type, Cond.code yX6_type cX6_type 2 (some .int), Cond.fieldLink RX6 94 "LeastNeed$Reader" "length" "I", Cond.methodLink RX6 97 yX2_put, Cond.instanceMethod yX2_put, Cond.selects RX2 yX2_put yX2_put, Cond.code yX2_put cX2_put 2 none, Cond.fieldLink RX2 19 "LeastNeed$Reader" "length" "I", Cond.methodLink RL 32 yX7_type, Cond.instanceMethod yX7_type, Cond.selects RX7 yX7_type yX7_type, Cond.code yX7_type cX7_type 2 (some .int), Cond.constantLong RX7 251 (127), Cond.fieldLink RX7 253 "LeastNeedModel" "bytesLong" "I", Cond.methodLink RL 33 yX6_clear, Cond.instanceMethod yX6_clear, Cond.selects RX6 yX6_clear yX6_clear]
def wsL_law_r10 : List Cond := [Cond.code yX6_clear cX6_clear 2 (some .int), Cond.methodLink RL 36 yX7_clear, Cond.instanceMethod yX7_clear, Cond.selects RX7 yX7_clear yX7_clear, Cond.code yX7_clear cX7_clear 2 (some .int), Cond.methodLink RL 37 yX6_read, Cond.instanceMethod yX6_read, Cond.selects RX6 yX6_read yX6_read, Cond.code yX6_read cX6_read 2 (some .int), Cond.methodLink RX6 101 yX2_tell, Cond.instanceMethod yX2_tell, Cond.selects RX2 yX2_tell yX2_tell, Cond.code yX2_tell cX2_tell 4 (some .int), Cond.fieldLink RX2 28 "LeastNeed$Reader" "next" "I", Cond.fieldLink RX2 44 "LeastNeed$Reader" "start" "I", Cond.fieldLink RX2 47 "LeastNeed$Reader" "token" "I", Cond.methodLink RX2 23 yX5_empty, Cond.methodLink RX2 31 yX2_toNextToken, Cond.instanceMethod yX2_toNextToken, Cond.selects RX2 yX2_toNextToken yX2_toNextToken, Cond.code yX2_toNextToken cX2_toNextToken 1 none, Cond.methodLink RX2 103 yX2_isLetter, Cond.static yX2_isLetter, Cond.code yX2_isLetter cX2_isLetter 1 (some .boolean)]
def wsL_law_r11 : List Cond := [Cond.methodLink RX2 107 yX2_isFigure, Cond.static yX2_isFigure, Cond.code yX2_isFigure cX2_isFigure 1 (some .boolean), Cond.methodLink RX2 36 yX2_isWord, Cond.instanceMethod yX2_isWord, Cond.selects RX2 yX2_isWord yX2_isWord, Cond.code yX2_isWord cX2_isWord 3 (some .boolean), Cond.methodLink RX2 110 yJ0_length_8abf5, Cond.instanceMethod yJ0_length_8abf5, Cond.selects RJ0 yJ0_length_8abf5 yJ0_length_8abf5, Cond.initialized RJ0, Cond.code yJ0_length_8abf5 cJ0_length_8abf5 1 (some .int), Cond.fieldLink RJ0 9 "java/lang/String" "value" "[B", Cond.methodLink RJ0 335 yJ0_coder_7d493, Cond.instanceMethod yJ0_coder_7d493, Cond.selects RJ0 yJ0_coder_7d493 yJ0_coder_7d493, Cond.code yJ0_coder_7d493 cJ0_coder_7d493 1 (some .byte), Cond.fieldLink RJ0 38 "java/lang/String" "COMPACT_STRINGS" "Z", Cond.fieldLink RJ0 15 "java/lang/String" "coder" "B", Cond.methodLink RX2 115 yJ0_charAt_5068e, Cond.instanceMethod yJ0_charAt_5068e, Cond.selects RJ0 yJ0_charAt_5068e yJ0_charAt_5068e, Cond.code yJ0_charAt_5068e cJ0_charAt_5068e 2 (some .char), Cond.methodLink RJ0 492 yJ0_isLatin1_aae02]
def wsL_law_r12 : List Cond := [Cond.instanceMethod yJ0_isLatin1_aae02, Cond.selects RJ0 yJ0_isLatin1_aae02 yJ0_isLatin1_aae02, Cond.code yJ0_isLatin1_aae02 cJ0_isLatin1_aae02 1 (some .boolean), Cond.methodLink RJ0 495 yJ1_charAt_3b067, Cond.static yJ1_charAt_3b067, Cond.initialized RJ1, Cond.code yJ1_charAt_3b067 cJ1_charAt_3b067 2 (some .char), Cond.methodLink RJ1 9 yJ0_checkIndex_df160, Cond.static yJ0_checkIndex_df160, Cond.code yJ0_checkIndex_df160 cJ0_checkIndex_df160 2 none, Cond.fieldLink RJ0 1053 "jdk/internal/util/Preconditions" "SIOOBE_FORMATTER" "Ljava/util/function/BiFunction;", Cond.methodLink RJ0 1059 yJ3_checkIndex_8e157, Cond.static yJ3_checkIndex_8e157, Cond.initialized RJ3, Cond.code yJ3_checkIndex_8e157 cJ3_checkIndex_8e157 3 (some .int), Cond.methodLink RJ0 498 yJ2_charAt_3b067, Cond.static yJ2_charAt_3b067, Cond.initialized RJ2, Cond.code yJ2_charAt_3b067 cJ2_charAt_3b067 2 (some .char), Cond.methodLink RJ2 67 yJ2_checkIndex_2214a, Cond.static yJ2_checkIndex_2214a, Cond.code yJ2_checkIndex_2214a cJ2_checkIndex_2214a 2 none, Cond.methodLink RJ2 48 yJ2_length_9d52b, Cond.static yJ2_length_9d52b]
def wsL_law_r13 : List Cond := [Cond.code yJ2_length_9d52b cJ2_length_9d52b 1 (some .int), Cond.methodLink RJ2 414 yJ0_checkIndex_df160, Cond.methodLink RJ2 71 yJ2_getChar_3b067, Cond.static yJ2_getChar_3b067, Cond.code yJ2_getChar_3b067 cJ2_getChar_3b067 2 (some .char), Cond.fieldLink RJ2 44 "java/lang/StringUTF16" "$assertionsDisabled" "Z", Cond.fieldLink RJ2 59 "java/lang/StringUTF16" "HI_BYTE_SHIFT" "I", Cond.fieldLink RJ2 63 "java/lang/StringUTF16" "LO_BYTE_SHIFT" "I", Cond.methodLink RX2 40 yX2_itemEnds, Cond.instanceMethod yX2_itemEnds, Cond.selects RX2 yX2_itemEnds yX2_itemEnds, Cond.code yX2_itemEnds cX2_itemEnds 1 (some .boolean), Cond.methodLink RX2 52 yX2_personIsTold, Cond.instanceMethod yX2_personIsTold, Cond.selects RX2 yX2_personIsTold yX2_personIsTold, Cond.code yX2_personIsTold cX2_personIsTold 3 (some .boolean), Cond.fieldLink RX2 76 "LeastNeed$Valley" "people" "I", Cond.methodLink RX2 79 yX2_number, Cond.instanceMethod yX2_number, Cond.selects RX2 yX2_number yX2_number, Cond.code yX2_number cX2_number 5 (some .boolean), Cond.methodLink RX2 83 yX5_addPerson, Cond.methodLink RX2 58 yX2_coatIsTold, Cond.instanceMethod yX2_coatIsTold]
def wsL_law_r14 : List Cond := [Cond.selects RX2 yX2_coatIsTold yX2_coatIsTold, Cond.code yX2_coatIsTold cX2_coatIsTold 2 (some .boolean), Cond.fieldLink RX2 87 "LeastNeed$Valley" "worn" "[I", Cond.methodLink RX2 63 yX2_thingIsTold, Cond.instanceMethod yX2_thingIsTold, Cond.selects RX2 yX2_thingIsTold yX2_thingIsTold, Cond.code yX2_thingIsTold cX2_thingIsTold 2 (some .boolean), Cond.fieldLink RX2 90 "LeastNeed$Valley" "things" "I", Cond.methodLink RX2 93 yX5_addThing, Cond.methodLink RX2 68 yX2_lossIsTold, Cond.instanceMethod yX2_lossIsTold, Cond.selects RX2 yX2_lossIsTold yX2_lossIsTold, Cond.code yX2_lossIsTold cX2_lossIsTold 3 (some .boolean), Cond.fieldLink RX2 97 "LeastNeed$Valley" "place" "[I", Cond.methodLink RX2 73 yX2_daysAreTold, Cond.instanceMethod yX2_daysAreTold, Cond.selects RX2 yX2_daysAreTold yX2_daysAreTold, Cond.code yX2_daysAreTold cX2_daysAreTold 3 (some .boolean), Cond.methodLink RX2 100 yX5_dayGoesBy, Cond.instanceMethod yX5_dayGoesBy, Cond.selects RX5 yX5_dayGoesBy yX5_dayGoesBy, Cond.code yX5_dayGoesBy cX5_dayGoesBy 3 none, Cond.methodLink RX5 92 yX5_goesTo, Cond.instanceMethod yX5_goesTo]
def wsL_law_r15 : List Cond := [Cond.selects RX5 yX5_goesTo yX5_goesTo, Cond.code yX5_goesTo cX5_goesTo 10 (some .int), Cond.methodLink RX5 113 yX5_counted, Cond.instanceMethod yX5_counted, Cond.selects RX5 yX5_counted yX5_counted, Cond.code yX5_counted cX5_counted 9 (some .int), Cond.methodLink RX5 102 Lib.Math.abs.name, Cond.static Lib.Math.abs.name, Cond.initialized "java/lang/Math", Cond.code Lib.Math.abs.name Lib.Math.abs.code 1 (some .int), Cond.methodLink RX5 96 yX1_shown, Cond.static yX1_shown, Cond.initialized RX1, Cond.code yX1_shown cX1_shown 8 (some .int), Cond.methodLink RX5 108 yX4_counted, Cond.static yX4_counted, Cond.initialized RX4, Cond.code yX4_counted cX4_counted 5 (some .int), Cond.methodLink RX5 115 yX4_likeOnesLeaveIt, Cond.static yX4_likeOnesLeaveIt, Cond.code yX4_likeOnesLeaveIt cX4_likeOnesLeaveIt 1 (some .boolean), Cond.methodLink RX6 105 yX5_copyOf, Cond.instanceMethod yX5_copyOf, Cond.selects RX5 yX5_copyOf yX5_copyOf]
def wsL_law_r16 : List Cond := [Cond.code yX5_copyOf cX5_copyOf 2 none, Cond.static yX6_copyRow, Cond.code yX6_copyRow cX6_copyRow 2 none, Cond.methodLink RX6 284 Lib.Math.min.name, Cond.static Lib.Math.min.name, Cond.code Lib.Math.min.name Lib.Math.min.code 2 (some .int), Cond.methodLink RX6 289 arraycopyName, Cond.native arraycopyName, Cond.static arraycopyName, Cond.initialized "java/lang/System", Cond.methodLink RX5 71 yX3_copyOf, Cond.instanceMethod yX3_copyOf, Cond.selects RX3 yX3_copyOf yX3_copyOf, Cond.code yX3_copyOf cX3_copyOf 2 none, Cond.methodLink RL 40 yX7_read, Cond.instanceMethod yX7_read, Cond.selects RX7 yX7_read yX7_read, Cond.code yX7_read cX7_read 3 (some .int), Cond.fieldLink RX7 265 "LeastNeedModel" "tokenAt" "I", Cond.fieldLink RX7 271 "LeastNeedModel" "token" "I", Cond.methodLink RX7 283 yX7_lookAt, Cond.instanceMethod yX7_lookAt, Cond.selects RX7 yX7_lookAt yX7_lookAt, Cond.code yX7_lookAt cX7_lookAt 5 none]
def wsL_law_r17 : List Cond := [Cond.fieldLink RX7 268 "LeastNeedModel" "tokenLong" "I", Cond.fieldLink RX7 274 "LeastNeedModel" "value" "I", Cond.methodLink RX7 277 yX7_isSmall, Cond.static yX7_isSmall, Cond.code yX7_isSmall cX7_isSmall 1 (some .boolean), Cond.constantLong RX7 257 (97), Cond.constantLong RX7 259 (122), Cond.methodLink RX7 280 yX7_isFigure, Cond.static yX7_isFigure, Cond.code yX7_isFigure cX7_isFigure 1 (some .boolean), Cond.constantLong RX7 261 (48), Cond.constantLong RX7 263 (57), Cond.methodLink RX7 293 yX7_spells, Cond.instanceMethod yX7_spells, Cond.selects RX7 yX7_spells yX7_spells, Cond.code yX7_spells cX7_spells 10 (some .boolean), Cond.methodLink RX7 286 yX7_goBehind, Cond.instanceMethod yX7_goBehind, Cond.selects RX7 yX7_goBehind yX7_goBehind, Cond.code yX7_goBehind cX7_goBehind 1 none, Cond.methodLink RX7 313 yX7_takesItem, Cond.instanceMethod yX7_takesItem, Cond.selects RX7 yX7_takesItem yX7_takesItem, Cond.code yX7_takesItem cX7_takesItem 1 (some .boolean)]
def wsL_law_r18 : List Cond := [Cond.methodLink RX7 297 yX7_takesPerson, Cond.instanceMethod yX7_takesPerson, Cond.selects RX7 yX7_takesPerson yX7_takesPerson, Cond.code yX7_takesPerson cX7_takesPerson 1 (some .boolean), Cond.methodLink RX7 289 yX7_takes, Cond.instanceMethod yX7_takes, Cond.selects RX7 yX7_takes yX7_takes, Cond.code yX7_takes cX7_takes 4 (some .boolean), Cond.methodLink RX7 301 yX7_takesCoat, Cond.instanceMethod yX7_takesCoat, Cond.selects RX7 yX7_takesCoat yX7_takesCoat, Cond.code yX7_takesCoat cX7_takesCoat 1 (some .boolean), Cond.methodLink RX7 304 yX7_takesThing, Cond.instanceMethod yX7_takesThing, Cond.selects RX7 yX7_takesThing yX7_takesThing, Cond.code yX7_takesThing cX7_takesThing 1 (some .boolean), Cond.methodLink RX7 307 yX7_takesLose, Cond.instanceMethod yX7_takesLose, Cond.selects RX7 yX7_takesLose yX7_takesLose, Cond.code yX7_takesLose cX7_takesLose 1 (some .boolean), Cond.methodLink RX7 310 yX7_takesDays, Cond.instanceMethod yX7_takesDays, Cond.selects RX7 yX7_takesDays yX7_takesDays, Cond.code yX7_takesDays cX7_takesDays 2 (some .boolean)]
def wsL_law_r19 : List Cond := [Cond.methodLink RX7 163 yX7_goDay, Cond.instanceMethod yX7_goDay, Cond.selects RX7 yX7_goDay yX7_goDay, Cond.code yX7_goDay cX7_goDay 5 none, Cond.methodLink RX7 155 yX7_layCoats, Cond.instanceMethod yX7_layCoats, Cond.selects RX7 yX7_layCoats yX7_layCoats, Cond.code yX7_layCoats cX7_layCoats 3 none, Cond.methodLink RX7 139 yX7_comesTo, Cond.instanceMethod yX7_comesTo, Cond.selects RX7 yX7_comesTo yX7_comesTo, Cond.code yX7_comesTo cX7_comesTo 11 (some .int), Cond.constant RX7 134 (1000000), Cond.methodLink RX7 135 yX7_countsOn, Cond.instanceMethod yX7_countsOn, Cond.selects RX7 yX7_countsOn yX7_countsOn, Cond.code yX7_countsOn cX7_countsOn 8 (some .int), Cond.methodLink RX7 122 yX7_distance, Cond.static yX7_distance, Cond.code yX7_distance cX7_distance 2 (some .int), Cond.methodLink RX7 126 yX7_showsOn, Cond.instanceMethod yX7_showsOn, Cond.selects RX7 yX7_showsOn yX7_showsOn, Cond.code yX7_showsOn cX7_showsOn 5 (some .int)]
def wsL_law_r20 : List Cond := [Cond.methodLink RX7 118 yX7_showsAs, Cond.static yX7_showsAs, Cond.code yX7_showsAs cX7_showsAs 6 (some .int), Cond.methodLink RX7 130 yX7_countsAs, Cond.static yX7_countsAs, Cond.code yX7_countsAs cX7_countsAs 4 (some .int), Cond.methodLink RL 41 yX6_lose, Cond.instanceMethod yX6_lose, Cond.selects RX6 yX6_lose yX6_lose, Cond.code yX6_lose cX6_lose 2 (some .int), Cond.fieldLink RX6 112 "LeastNeed$Valley" "place" "[I", Cond.fieldLink RX6 121 "LeastNeed$Valley" "holder" "[I", Cond.methodLink RX6 109 yX6_isThing, Cond.instanceMethod yX6_isThing, Cond.selects RX6 yX6_isThing yX6_isThing, Cond.code yX6_isThing cX6_isThing 2 (some .boolean), Cond.methodLink RX6 115 yX6_refusedAsNo, Cond.instanceMethod yX6_refusedAsNo, Cond.selects RX6 yX6_refusedAsNo yX6_refusedAsNo, Cond.code yX6_refusedAsNo cX6_refusedAsNo 1 (some .int), Cond.methodLink RX6 118 yX5_keepPast, Cond.instanceMethod yX5_keepPast, Cond.selects RX5 yX5_keepPast yX5_keepPast, Cond.code yX5_keepPast cX5_keepPast 2 none]
def wsL_law_r21 : List Cond := [Cond.methodLink RX5 75 yX3_isFull, Cond.instanceMethod yX3_isFull, Cond.selects RX3 yX3_isFull yX3_isFull, Cond.code yX3_isFull cX3_isFull 1 (some .boolean), Cond.methodLink RX5 79 yX3_dropFirst, Cond.instanceMethod yX3_dropFirst, Cond.selects RX3 yX3_dropFirst yX3_dropFirst, Cond.code yX3_dropFirst cX3_dropFirst 1 none, Cond.methodLink RX3 23 arraycopyName, Cond.methodLink RX5 82 yX3_begin, Cond.instanceMethod yX3_begin, Cond.selects RX3 yX3_begin yX3_begin, Cond.code yX3_begin cX3_begin 1 none, Cond.methodLink RX5 85 yX3_put, Cond.instanceMethod yX3_put, Cond.selects RX3 yX3_put yX3_put, Cond.code yX3_put cX3_put 4 none, Cond.methodLink RL 44 yX7_lose, Cond.instanceMethod yX7_lose, Cond.selects RX7 yX7_lose yX7_lose, Cond.code yX7_lose cX7_lose 2 (some .int), Cond.methodLink RX7 143 yX7_isThing, Cond.instanceMethod yX7_isThing, Cond.selects RX7 yX7_isThing yX7_isThing]
def wsL_law_r22 : List Cond := [Cond.code yX7_isThing cX7_isThing 2 (some .boolean), Cond.methodLink RX7 146 yX7_no, Cond.instanceMethod yX7_no, Cond.selects RX7 yX7_no yX7_no, Cond.code yX7_no cX7_no 1 (some .int), Cond.methodLink RX7 149 yX7_keep, Cond.instanceMethod yX7_keep, Cond.selects RX7 yX7_keep yX7_keep, Cond.code yX7_keep cX7_keep 2 none, Cond.methodLink RL 45 yX6_back, Cond.instanceMethod yX6_back, Cond.selects RX6 yX6_back yX6_back, Cond.code yX6_back cX6_back 3 (some .int), Cond.fieldLink RX6 131 "LeastNeed$Valley" "owner" "[I", Cond.methodLink RX6 124 yX5_isAway, Cond.instanceMethod yX5_isAway, Cond.selects RX5 yX5_isAway yX5_isAway, Cond.code yX5_isAway cX5_isAway 2 (some .boolean), Cond.methodLink RX6 127 yX5_askedFor, Cond.instanceMethod yX5_askedFor, Cond.selects RX5 yX5_askedFor yX5_askedFor, Cond.code yX5_askedFor cX5_askedFor 2 (some .int), Cond.methodLink RX5 119 yX5_shown, Cond.instanceMethod yX5_shown]
def wsL_law_r23 : List Cond := [Cond.selects RX5 yX5_shown yX5_shown, Cond.code yX5_shown cX5_shown 4 (some .int), Cond.methodLink RX5 122 yX1_asked, Cond.static yX1_asked, Cond.code yX1_asked cX1_asked 4 (some .int), Cond.methodLink RX1 7 Lib.Math.max.name, Cond.static Lib.Math.max.name, Cond.code Lib.Math.max.name Lib.Math.max.code 2 (some .int), Cond.methodLink RL 48 yX7_back, Cond.instanceMethod yX7_back, Cond.selects RX7 yX7_back yX7_back, Cond.code yX7_back cX7_back 3 (some .int), Cond.methodLink RX7 158 yX7_asked, Cond.instanceMethod yX7_asked, Cond.selects RX7 yX7_asked yX7_asked, Cond.code yX7_asked cX7_asked 3 (some .int), Cond.methodLink RX7 152 yX7_asksAs, Cond.static yX7_asksAs, Cond.code yX7_asksAs cX7_asksAs 3 (some .int), Cond.methodLink RL 49 yX6_coat, Cond.instanceMethod yX6_coat, Cond.selects RX6 yX6_coat yX6_coat, Cond.code yX6_coat cX6_coat 4 (some .int), Cond.fieldLink RX6 134 "LeastNeed$Valley" "worn" "[I"]
def wsL_law_r24 : List Cond := [Cond.methodLink RL 53 yX7_coat, Cond.instanceMethod yX7_coat, Cond.selects RX7 yX7_coat yX7_coat, Cond.code yX7_coat cX7_coat 4 (some .int), Cond.methodLink RL 54 yX6_day, Cond.instanceMethod yX6_day, Cond.selects RX6 yX6_day yX6_day, Cond.code yX6_day cX6_day 3 (some .int), Cond.fieldLink RX6 137 "LeastNeed$Valley" "today" "I", Cond.methodLink RX6 140 yX5_dayGoesBy, Cond.methodLink RX6 143 yX5_howManyLie, Cond.instanceMethod yX5_howManyLie, Cond.selects RX5 yX5_howManyLie yX5_howManyLie, Cond.code yX5_howManyLie cX5_howManyLie 4 (some .int), Cond.methodLink RL 57 yX7_day, Cond.instanceMethod yX7_day, Cond.selects RX7 yX7_day yX7_day, Cond.code yX7_day cX7_day 3 (some .int), Cond.constantLong RX7 161 (99), Cond.methodLink RX7 167 yX7_manyIn, Cond.instanceMethod yX7_manyIn, Cond.selects RX7 yX7_manyIn yX7_manyIn, Cond.code yX7_manyIn cX7_manyIn 5 (some .int), Cond.methodLink RL 58 yX6_undo]
def wsL_law_r25 : List Cond := [Cond.instanceMethod yX6_undo, Cond.selects RX6 yX6_undo yX6_undo, Cond.code yX6_undo cX6_undo 1 (some .int), Cond.fieldLink RX6 146 "LeastNeed$Valley" "past" "LLeastNeed$Rows;", Cond.fieldLink RX6 150 "LeastNeed$Rows" "used" "I", Cond.methodLink RX6 155 yX5_takePast, Cond.instanceMethod yX5_takePast, Cond.selects RX5 yX5_takePast yX5_takePast, Cond.code yX5_takePast cX5_takePast 3 none, Cond.methodLink RX5 88 yX3_cell, Cond.instanceMethod yX3_cell, Cond.selects RX3 yX3_cell yX3_cell, Cond.code yX3_cell cX3_cell 4 (some .int), Cond.methodLink RL 61 yX7_undo, Cond.instanceMethod yX7_undo, Cond.selects RX7 yX7_undo yX7_undo, Cond.code yX7_undo cX7_undo 2 (some .int), Cond.methodLink RL 62 yX6_of, Cond.instanceMethod yX6_of, Cond.selects RX6 yX6_of yX6_of, Cond.code yX6_of cX6_of 3 (some .int), Cond.fieldLink RX6 158 "LeastNeed$Valley" "kind" "[I", Cond.fieldLink RX6 161 "LeastNeed$Valley" "house" "[I", Cond.fieldLink RX6 167 "LeastNeed$Valley" "need" "[I"]
def wsL_law_r26 : List Cond := [Cond.methodLink RX6 164 yX5_howManyHas, Cond.instanceMethod yX5_howManyHas, Cond.selects RX5 yX5_howManyHas yX5_howManyHas, Cond.code yX5_howManyHas cX5_howManyHas 4 (some .int), Cond.methodLink RL 65 yX7_of, Cond.instanceMethod yX7_of, Cond.selects RX7 yX7_of yX7_of, Cond.code yX7_of cX7_of 3 (some .int), Cond.constantLong RX7 171 (7), Cond.methodLink RX7 173 yX7_manyHadBy, Cond.instanceMethod yX7_manyHadBy, Cond.selects RX7 yX7_manyHadBy yX7_manyHadBy, Cond.code yX7_manyHadBy cX7_manyHadBy 4 (some .int), Cond.methodLink RL 66 yX6_about, Cond.instanceMethod yX6_about, Cond.selects RX6 yX6_about yX6_about, Cond.code yX6_about cX6_about 3 (some .int), Cond.fieldLink RX6 170 "LeastNeed$Valley" "thingKind" "[I", Cond.fieldLink RX6 173 "LeastNeed$Valley" "sort" "[I", Cond.methodLink RL 69 yX7_about, Cond.instanceMethod yX7_about, Cond.selects RX7 yX7_about yX7_about, Cond.code yX7_about cX7_about 3 (some .int), Cond.constantLong RX7 176 (4)]
def wsL_law_r27 : List Cond := [Cond.methodLink RL 70 yX6_shows, Cond.instanceMethod yX6_shows, Cond.selects RX6 yX6_shows yX6_shows, Cond.code yX6_shows cX6_shows 3 (some .int), Cond.methodLink RX6 176 yX5_shown, Cond.methodLink RL 73 yX7_shows, Cond.instanceMethod yX7_shows, Cond.selects RX7 yX7_shows yX7_shows, Cond.code yX7_shows cX7_shows 3 (some .int), Cond.methodLink RL 74 yX6_comes, Cond.instanceMethod yX6_comes, Cond.selects RX6 yX6_comes yX6_comes, Cond.code yX6_comes cX6_comes 2 (some .int), Cond.methodLink RX6 180 yX5_nextOf, Cond.instanceMethod yX5_nextOf, Cond.selects RX5 yX5_nextOf yX5_nextOf, Cond.code yX5_nextOf cX5_nextOf 3 (some .int), Cond.methodLink RL 77 yX7_comes, Cond.instanceMethod yX7_comes, Cond.selects RX7 yX7_comes yX7_comes, Cond.code yX7_comes cX7_comes 2 (some .int), Cond.methodLink RX7 178 yX7_comesNow, Cond.instanceMethod yX7_comesNow, Cond.selects RX7 yX7_comesNow yX7_comesNow]
def wsL_law_r28 : List Cond := [Cond.code yX7_comesNow cX7_comesNow 3 (some .int), Cond.methodLink RL 78 yX6_chain, Cond.instanceMethod yX6_chain, Cond.selects RX6 yX6_chain yX6_chain, Cond.code yX6_chain cX6_chain 5 (some .int), Cond.methodLink RL 81 yX7_chain, Cond.instanceMethod yX7_chain, Cond.selects RX7 yX7_chain yX7_chain, Cond.code yX7_chain cX7_chain 5 (some .int), Cond.constantLong RX7 181 (50), Cond.methodLink RL 82 yX6_ring, Cond.instanceMethod yX6_ring, Cond.selects RX6 yX6_ring yX6_ring, Cond.code yX6_ring cX6_ring 6 (some .int), Cond.methodLink RX6 184 yX6_placeIn, Cond.static yX6_placeIn, Cond.code yX6_placeIn cX6_placeIn 4 (some .int), Cond.methodLink RL 85 yX7_ring, Cond.instanceMethod yX7_ring, Cond.selects RX7 yX7_ring yX7_ring, Cond.code yX7_ring cX7_ring 6 (some .int), Cond.methodLink RL 86 yX6_send, Cond.instanceMethod yX6_send, Cond.selects RX6 yX6_send yX6_send]
def wsL_law_r29 : List Cond := [Cond.code yX6_send cX6_send 5 (some .int), Cond.fieldLink RX6 192 "LeastNeed$Journey" "losses" "I", Cond.methodLink RX6 188 yX0_fewestDays, Cond.instanceMethod yX0_fewestDays, Cond.selects RX0 yX0_fewestDays yX0_fewestDays, Cond.code yX0_fewestDays cX0_fewestDays 5 (some .int), Cond.constantLong RX0 24 (1000), Cond.fieldLink RX0 30 "LeastNeed$Journey" "losses" "I", Cond.fieldLink RX0 34 "LeastNeed$Valley" "today" "I", Cond.methodLink RX0 26 yX0_setOut, Cond.instanceMethod yX0_setOut, Cond.selects RX0 yX0_setOut yX0_setOut, Cond.code yX0_setOut cX0_setOut 7 none, Cond.fieldLink RX0 51 "LeastNeed$Valley" "place" "[I", Cond.fieldLink RX0 55 "LeastNeed$Valley" "holder" "[I", Cond.methodLink RX0 47 yX0_fill, Cond.static yX0_fill, Cond.code yX0_fill cX0_fill 4 none, Cond.methodLink RX0 39 yX0_goOnByFewest, Cond.instanceMethod yX0_goOnByFewest, Cond.selects RX0 yX0_goOnByFewest yX0_goOnByFewest, Cond.code yX0_goOnByFewest cX0_goOnByFewest 8 none, Cond.fieldLink RX0 58 "LeastNeed$Valley" "people" "I", Cond.fieldLink RX0 61 "LeastNeed$Valley" "thingKind" "[I"]
def wsL_law_r30 : List Cond := [Cond.fieldLink RX0 64 "LeastNeed$Valley" "sort" "[I", Cond.methodLink RX0 71 Lib.MathLoose.min_long.x, Cond.static Lib.MathLoose.min_long.x, Cond.code Lib.MathLoose.min_long.x Lib.MathLoose.min_long.code 4 (some .long), Cond.methodLink RX0 67 yX5_goesTo, Cond.methodLink RX0 77 yX0_takeNext, Cond.instanceMethod yX0_takeNext, Cond.selects RX0 yX0_takeNext yX0_takeNext, Cond.code yX0_takeNext cX0_takeNext 1 none, Cond.methodLink RX0 82 arraycopyName, Cond.methodLink RL 89 yX7_send, Cond.instanceMethod yX7_send, Cond.selects RX7 yX7_send yX7_send, Cond.code yX7_send cX7_send 5 (some .int), Cond.methodLink RX7 187 yX7_layStart, Cond.instanceMethod yX7_layStart, Cond.selects RX7 yX7_layStart yX7_layStart, Cond.code yX7_layStart cX7_layStart 3 none, Cond.methodLink RX7 191 yX7_goSending, Cond.instanceMethod yX7_goSending, Cond.selects RX7 yX7_goSending yX7_goSending, Cond.code yX7_goSending cX7_goSending 6 none, Cond.methodLink RX7 183 yX7_reach, Cond.instanceMethod yX7_reach]
def wsL_law_r31 : List Cond := [Cond.selects RX7 yX7_reach yX7_reach, Cond.code yX7_reach cX7_reach 3 none, Cond.methodLink RL 90 yX6_wears, Cond.instanceMethod yX6_wears, Cond.selects RX6 yX6_wears yX6_wears, Cond.code yX6_wears cX6_wears 6 (some .int), Cond.methodLink RL 93 yX7_wears, Cond.instanceMethod yX7_wears, Cond.selects RX7 yX7_wears yX7_wears, Cond.code yX7_wears cX7_wears 6 (some .int), Cond.methodLink RL 94 yX6_costs, Cond.instanceMethod yX6_costs, Cond.selects RX6 yX6_costs yX6_costs, Cond.code yX6_costs cX6_costs 3 (some .int), Cond.methodLink RL 97 yX7_costs, Cond.instanceMethod yX7_costs, Cond.selects RX7 yX7_costs yX7_costs, Cond.code yX7_costs cX7_costs 3 (some .int), Cond.methodLink RX7 194 yX7_layPrices, Cond.instanceMethod yX7_layPrices, Cond.selects RX7 yX7_layPrices yX7_layPrices, Cond.code yX7_layPrices cX7_layPrices 3 (some .int), Cond.methodLink RL 98 yX6_few, Cond.instanceMethod yX6_few]
def wsL_law_r32 : List Cond := [Cond.selects RX6 yX6_few yX6_few, Cond.code yX6_few cX6_few 5 (some .int), Cond.methodLink RX6 195 yX6_sortAsked, Cond.instanceMethod yX6_sortAsked, Cond.selects RX6 yX6_sortAsked yX6_sortAsked, Cond.code yX6_sortAsked cX6_sortAsked 5 (some .int), Cond.methodLink RL 101 yX7_few, Cond.instanceMethod yX7_few, Cond.selects RX7 yX7_few yX7_few, Cond.code yX7_few cX7_few 7 (some .int), Cond.constantLong RX7 197 (200), Cond.methodLink RX7 199 yX7_has, Cond.static yX7_has, Cond.code yX7_has cX7_has 2 (some .boolean), Cond.methodLink RX7 203 yX7_bits, Cond.static yX7_bits, Cond.code yX7_bits cX7_bits 3 (some .int), Cond.methodLink RL 102 yX6_loser, Cond.instanceMethod yX6_loser, Cond.selects RX6 yX6_loser yX6_loser, Cond.code yX6_loser cX6_loser 5 (some .int), Cond.methodLink RL 105 yX7_loser, Cond.instanceMethod yX7_loser, Cond.selects RX7 yX7_loser yX7_loser]
def wsL_law_r33 : List Cond := [Cond.code yX7_loser cX7_loser 5 (some .int), Cond.methodLink RL 106 yX6_note, Cond.instanceMethod yX6_note, Cond.selects RX6 yX6_note yX6_note, Cond.code yX6_note cX6_note 8 (some .int), Cond.fieldLink RX6 198 "LeastNeed$Valley" "notes" "LLeastNeed$Rows;", Cond.methodLink RX6 201 yX3_isFull, Cond.methodLink RX6 205 yX3_begin, Cond.methodLink RX6 208 yX3_put, Cond.methodLink RL 109 yX7_note, Cond.instanceMethod yX7_note, Cond.selects RX7 yX7_note yX7_note, Cond.code yX7_note cX7_note 8 (some .int), Cond.constantLong RX7 206 (30), Cond.methodLink RL 110 yX6_came, Cond.instanceMethod yX6_came, Cond.selects RX6 yX6_came yX6_came, Cond.code yX6_came cX6_came 6 (some .int), Cond.fieldLink RX6 211 "LeastNeed$Valley" "cames" "LLeastNeed$Rows;", Cond.methodLink RL 114 yX7_came, Cond.instanceMethod yX7_came, Cond.selects RX7 yX7_came yX7_came, Cond.code yX7_came cX7_came 6 (some .int), Cond.constantLong RX7 208 (-1)]
def wsL_law_r34 : List Cond := [Cond.methodLink RL 115 yX6_forget, Cond.instanceMethod yX6_forget, Cond.selects RX6 yX6_forget yX6_forget, Cond.code yX6_forget cX6_forget 4 (some .int), Cond.methodLink RL 118 yX7_forget, Cond.instanceMethod yX7_forget, Cond.selects RX7 yX7_forget yX7_forget, Cond.code yX7_forget cX7_forget 3 (some .int), Cond.methodLink RL 119 yX6_is, Cond.instanceMethod yX6_is, Cond.selects RX6 yX6_is yX6_is, Cond.code yX6_is cX6_is 2 (some .int), Cond.methodLink RX6 214 yX5_kindsByNotes, Cond.instanceMethod yX5_kindsByNotes, Cond.selects RX5 yX5_kindsByNotes yX5_kindsByNotes, Cond.code yX5_kindsByNotes cX5_kindsByNotes 4 (some .int), Cond.methodLink RX5 125 yX5_notesAreSo, Cond.instanceMethod yX5_notesAreSo, Cond.selects RX5 yX5_notesAreSo yX5_notesAreSo, Cond.code yX5_notesAreSo cX5_notesAreSo 5 (some .boolean), Cond.methodLink RL 122 yX7_is, Cond.instanceMethod yX7_is, Cond.selects RX7 yX7_is yX7_is, Cond.code yX7_is cX7_is 2 (some .int)]
def wsL_law_r35 : List Cond := [Cond.methodLink RX7 210 yX7_kindsOf, Cond.instanceMethod yX7_kindsOf, Cond.selects RX7 yX7_kindsOf yX7_kindsOf, Cond.code yX7_kindsOf cX7_kindsOf 7 (some .int), Cond.methodLink RL 123 yX6_watch, Cond.instanceMethod yX6_watch, Cond.selects RX6 yX6_watch yX6_watch, Cond.code yX6_watch cX6_watch 8 (some .int), Cond.methodLink RX6 217 yX1_shown, Cond.methodLink RX6 222 yX6_mostAlike, Cond.static yX6_mostAlike, Cond.code yX6_mostAlike cX6_mostAlike 6 (some .int), Cond.methodLink RL 126 yX7_watch, Cond.instanceMethod yX7_watch, Cond.selects RX7 yX7_watch yX7_watch, Cond.code yX7_watch cX7_watch 12 (some .int), Cond.methodLink RL 127 yX6_kinds, Cond.instanceMethod yX6_kinds, Cond.selects RX6 yX6_kinds yX6_kinds, Cond.code yX6_kinds cX6_kinds 2 (some .int), Cond.methodLink RX6 226 yX5_kindsByComings, Cond.instanceMethod yX5_kindsByComings, Cond.selects RX5 yX5_kindsByComings yX5_kindsByComings, Cond.code yX5_kindsByComings cX5_kindsByComings 4 (some .int)]
def wsL_law_r36 : List Cond := [Cond.methodLink RX5 129 yX5_comingsAreSo, Cond.instanceMethod yX5_comingsAreSo, Cond.selects RX5 yX5_comingsAreSo yX5_comingsAreSo, Cond.code yX5_comingsAreSo cX5_comingsAreSo 5 (some .boolean), Cond.methodLink RL 130 yX7_kinds, Cond.instanceMethod yX7_kinds, Cond.selects RX7 yX7_kinds yX7_kinds, Cond.code yX7_kinds cX7_kinds 2 (some .int), Cond.methodLink RX7 213 yX7_kindsOfThing, Cond.instanceMethod yX7_kindsOfThing, Cond.selects RX7 yX7_kindsOfThing yX7_kindsOfThing, Cond.code yX7_kindsOfThing cX7_kindsOfThing 7 (some .int), Cond.methodLink RL 131 yX6_by, Cond.instanceMethod yX6_by, Cond.selects RX6 yX6_by yX6_by, Cond.code yX6_by cX6_by 7 (some .int), Cond.methodLink RX6 229 yX5_goesTo, Cond.methodLink RL 134 yX7_by, Cond.instanceMethod yX7_by, Cond.selects RX7 yX7_by yX7_by, Cond.code yX7_by cX7_by 10 (some .int), Cond.methodLink RL 135 yX6_coats, Cond.instanceMethod yX6_coats, Cond.selects RX6 yX6_coats yX6_coats]
def wsL_law_r37 : List Cond := [Cond.code yX6_coats cX6_coats 7 (some .int), Cond.methodLink RX6 233 yX6_seeWhoGetsIt, Cond.instanceMethod yX6_seeWhoGetsIt, Cond.selects RX6 yX6_seeWhoGetsIt yX6_seeWhoGetsIt, Cond.code yX6_seeWhoGetsIt cX6_seeWhoGetsIt 5 none, Cond.methodLink RX6 236 yX6_rests, Cond.instanceMethod yX6_rests, Cond.selects RX6 yX6_rests yX6_rests, Cond.code yX6_rests cX6_rests 9 (some .boolean), Cond.methodLink RX6 281 yX6_pay, Cond.instanceMethod yX6_pay, Cond.selects RX6 yX6_pay yX6_pay, Cond.code yX6_pay cX6_pay 4 (some .int), Cond.methodLink RL 138 yX7_coats, Cond.instanceMethod yX7_coats, Cond.selects RX7 yX7_coats yX7_coats, Cond.code yX7_coats cX7_coats 8 (some .int), Cond.methodLink RX7 216 yX7_layPairs, Cond.instanceMethod yX7_layPairs, Cond.selects RX7 yX7_layPairs yX7_layPairs, Cond.code yX7_layPairs cX7_layPairs 6 none, Cond.methodLink RX7 220 yX7_rests, Cond.instanceMethod yX7_rests, Cond.selects RX7 yX7_rests yX7_rests]
def wsL_law_r38 : List Cond := [Cond.code yX7_rests cX7_rests 4 (some .boolean), Cond.methodLink RL 139 yX6_odds, Cond.instanceMethod yX6_odds, Cond.selects RX6 yX6_odds yX6_odds, Cond.code yX6_odds cX6_odds 11 (some .int), Cond.constantLong RX6 244 (10), Cond.methodLink RX6 240 yX0_chanceOfTens, Cond.instanceMethod yX0_chanceOfTens, Cond.selects RX0 yX0_chanceOfTens yX0_chanceOfTens, Cond.code yX0_chanceOfTens cX0_chanceOfTens 7 (some .long), Cond.methodLink RX0 43 yX0_goOnByChance, Cond.instanceMethod yX0_goOnByChance, Cond.selects RX0 yX0_goOnByChance yX0_goOnByChance, Cond.code yX0_goOnByChance cX0_goOnByChance 9 none, Cond.constantLong RX0 80 (10), Cond.methodLink RX6 246 yX6_commonDivisor, Cond.static yX6_commonDivisor, Cond.code yX6_commonDivisor cX6_commonDivisor 11 (some .long), Cond.methodLink RL 142 yX7_odds, Cond.instanceMethod yX7_odds, Cond.selects RX7 yX7_odds yX7_odds, Cond.code yX7_odds cX7_odds 8 (some .int), Cond.constantLong RX7 226 (10), Cond.methodLink RX7 228 yX7_goOdds]
def wsL_law_r39 : List Cond := [Cond.instanceMethod yX7_goOdds, Cond.selects RX7 yX7_goOdds yX7_goOdds, Cond.code yX7_goOdds cX7_goOdds 6 none, Cond.methodLink RX7 231 yX7_fraction, Cond.instanceMethod yX7_fraction, Cond.selects RX7 yX7_fraction yX7_fraction, Cond.code yX7_fraction cX7_fraction 11 none, Cond.fieldLink RX7 223 "LeastNeedModel" "above" "J", Cond.methodLink RL 143 yX6_years, Cond.instanceMethod yX6_years, Cond.selects RX6 yX6_years yX6_years, Cond.code yX6_years cX6_years 7 (some .int), Cond.constant RX6 250 (1000000), Cond.constantLong RX6 251 (1103515245), Cond.constantLong RX6 253 (12345), Cond.constantLong RX6 255 (2147483648), Cond.constantLong RX6 257 (65536), Cond.constantLong RX6 259 (5), Cond.methodLink RX6 261 yX5_howManyAtHome, Cond.instanceMethod yX5_howManyAtHome, Cond.selects RX5 yX5_howManyAtHome yX5_howManyAtHome, Cond.code yX5_howManyAtHome cX5_howManyAtHome 3 (some .int), Cond.methodLink RL 146 yX7_years, Cond.instanceMethod yX7_years]
def wsL_law_r40 : List Cond := [Cond.selects RX7 yX7_years yX7_years, Cond.code yX7_years cX7_years 7 (some .int), Cond.constantLong RX7 235 (999999), Cond.constantLong RX7 237 (60), Cond.constantLong RX7 239 (1103515245), Cond.constantLong RX7 241 (12345), Cond.constantLong RX7 243 (2147483648), Cond.constantLong RX7 245 (65536), Cond.methodLink RX7 247 yX7_manyAtHome, Cond.instanceMethod yX7_manyAtHome, Cond.selects RX7 yX7_manyAtHome yX7_manyAtHome, Cond.code yX7_manyAtHome cX7_manyAtHome 4 (some .int), Cond.methodLink RL 147 yX6_part, Cond.instanceMethod yX6_part, Cond.selects RX6 yX6_part yX6_part, Cond.code yX6_part cX6_part 2 (some .long), Cond.methodLink RL 151 yX7_part, Cond.instanceMethod yX7_part, Cond.selects RX7 yX7_part yX7_part, Cond.code yX7_part cX7_part 2 (some .long), Cond.methodLink RL 152 yX6_image, Cond.instanceMethod yX6_image, Cond.selects RX6 yX6_image yX6_image, Cond.code yX6_image cX6_image 2 (some .int)]
def wsL_law_r41 : List Cond := [Cond.methodLink RL 155 yX7_image, Cond.instanceMethod yX7_image, Cond.selects RX7 yX7_image yX7_image, Cond.code yX7_image cX7_image 3 (some .int), Cond.methodLink RL 156 yX6_from, Cond.instanceMethod yX6_from, Cond.selects RX6 yX6_from yX6_from, Cond.code yX6_from cX6_from 2 (some .int), Cond.methodLink RL 159 yX7_from, Cond.instanceMethod yX7_from, Cond.selects RX7 yX7_from yX7_from, Cond.code yX7_from cX7_from 3 (some .int), Cond.methodLink RL 160 yX6_status, Cond.instanceMethod yX6_status, Cond.selects RX6 yX6_status yX6_status, Cond.code yX6_status cX6_status 2 (some .int), Cond.methodLink RL 163 yX7_status, Cond.instanceMethod yX7_status, Cond.selects RX7 yX7_status yX7_status, Cond.code yX7_status cX7_status 2 (some .int), Cond.constantLong RX7 316 (2), Cond.methodLink RL 164 yX6_count, Cond.instanceMethod yX6_count, Cond.selects RX6 yX6_count yX6_count]
def wsL_law_r42 : List Cond := [Cond.code yX6_count cX6_count 2 (some .int), Cond.methodLink RX6 264 yX6_howMany, Cond.instanceMethod yX6_howMany, Cond.selects RX6 yX6_howMany yX6_howMany, Cond.code yX6_howMany cX6_howMany 2 (some .int), Cond.methodLink RL 167 yX7_count, Cond.instanceMethod yX7_count, Cond.selects RX7 yX7_count yX7_count, Cond.code yX7_count cX7_count 2 (some .int), Cond.constantLong RX7 318 (8), Cond.methodLink RX7 320 yX7_counted, Cond.instanceMethod yX7_counted, Cond.selects RX7 yX7_counted yX7_counted, Cond.code yX7_counted cX7_counted 2 (some .int), Cond.methodLink RL 168 yX6_digest, Cond.instanceMethod yX6_digest, Cond.selects RX6 yX6_digest yX6_digest, Cond.code yX6_digest cX6_digest 4 (some .long), Cond.constantLong RX6 267 (1483), Cond.constantLong RX6 269 (31), Cond.methodLink RX6 271 yX5_mixPeople, Cond.instanceMethod yX5_mixPeople, Cond.selects RX5 yX5_mixPeople yX5_mixPeople, Cond.code yX5_mixPeople cX5_mixPeople 7 (some .long)]
def wsL_law_r43 : List Cond := [Cond.constantLong RX5 132 (31), Cond.methodLink RX6 275 yX5_mixThings, Cond.instanceMethod yX5_mixThings, Cond.selects RX5 yX5_mixThings yX5_mixThings, Cond.code yX5_mixThings cX5_mixThings 6 (some .long), Cond.methodLink RX6 278 yX3_mix, Cond.instanceMethod yX3_mix, Cond.selects RX3 yX3_mix yX3_mix, Cond.code yX3_mix cX3_mix 6 (some .long), Cond.constantLong RX3 35 (31), Cond.methodLink RL 172 yX7_digest, Cond.instanceMethod yX7_digest, Cond.selects RX7 yX7_digest yX7_digest, Cond.code yX7_digest cX7_digest 4 (some .long), Cond.constantLong RX7 325 (1483), Cond.constantLong RX7 323 (31), Cond.methodLink RX7 327 yX7_sums, Cond.instanceMethod yX7_sums, Cond.selects RX7 yX7_sums yX7_sums, Cond.code yX7_sums cX7_sums 8 (some .long)]
def wsL_law : List Cond := (wsL_law_r1 ++ (wsL_law_r2 ++ (wsL_law_r3 ++ (wsL_law_r4 ++ (wsL_law_r5 ++ (wsL_law_r6 ++ (wsL_law_r7 ++ (wsL_law_r8 ++ (wsL_law_r9 ++ (wsL_law_r10 ++ (wsL_law_r11 ++ (wsL_law_r12 ++ (wsL_law_r13 ++ (wsL_law_r14 ++ (wsL_law_r15 ++ (wsL_law_r16 ++ (wsL_law_r17 ++ (wsL_law_r18 ++ (wsL_law_r19 ++ (wsL_law_r20 ++ (wsL_law_r21 ++ (wsL_law_r22 ++ (wsL_law_r23 ++ (wsL_law_r24 ++ (wsL_law_r25 ++ (wsL_law_r26 ++ (wsL_law_r27 ++ (wsL_law_r28 ++ (wsL_law_r29 ++ (wsL_law_r30 ++ (wsL_law_r31 ++ (wsL_law_r32 ++ (wsL_law_r33 ++ (wsL_law_r34 ++ (wsL_law_r35 ++ (wsL_law_r36 ++ (wsL_law_r37 ++ (wsL_law_r38 ++ (wsL_law_r39 ++ (wsL_law_r40 ++ (wsL_law_r41 ++ (wsL_law_r42 ++ wsL_law_r43)))))))))))))))))))))))))))))))))))))))))) ++ wsX60 ++ wsX70 ++ wsX50 ++ wsX20 ++ wsX00 ++ wsX30 ++ ([] : List Cond)
set_option maxRecDepth 20000 in
theorem wsL_law_in : ∀ w ∈ wsL_law, w ∈ lw_tbl := fun w h => (goodIn_p wsL_law [85, 88, 93, 99, 193, 221, 791, 795, 281, 285, 875, 879, 289, 292, 296, 300, 304, 883, 887, 891, 896, 900, 903, 308, 312, 316, 907, 910, 915, 919, 922, 320, 324, 1155, 328, 1160, 332, 336, 341, 344, 347, 352, 356, 360, 366, 370, 373, 376, 381, 384, 387, 390, 394, 404, 409, 413, 419, 424, 430, 435, 439, 443, 447, 453, 450, 456, 459, 463, 466, 469, 476, 1164, 1168, 1171, 1176, 1182, 1186, 1190, 1194, 1198, 1202, 1206, 1210, 1214, 973, 946, 977, 982, 985, 954, 957, 988, 482, 486, 490, 494, 498, 502, 507, 511, 926, 930, 934, 938, 515, 519, 523, 527, 530, 533, 942, 950, 960, 537, 964, 541, 546, 968, 992, 550, 554, 558, 996, 562, 566, 1000, 1005, 570, 1009, 574, 1014, 579, 583, 1018, 1022, 587, 1026, 591, 594, 1031, 598, 602, 607, 610, 614, 618, 622, 1035, 1039, 1043, 1047, 627, 1051, 631, 1055, 1059, 635, 639, 1063, 1067, 1070, 643, 1074, 647, 1078, 654, 1083, 658, 1088, 662, 666, 670, 1092, 1096, 674, 678, 1100, 682, 686, 690, 1104, 1108, 694, 1112, 699, 703, 707, 711, 1116, 1120, 1124, 715, 719, 723, 728, 1128, 1133, 1137, 732, 742, 1141, 1151, 746, 1218, 750, 1222, 754, 1226, 758, 1230, 762, 766, 1235, 1240, 770, 776, 781, 785, 1244, 1250] (by decide +kernel) (by decide +kernel) w h).1
theorem inlX0 : ∀ w ∈ wsX00, w ∈ wsL_law := fun _ h => List.mem_append_left _ (List.mem_append_left _ (List.mem_append_right _ h))
theorem inX0 : ∀ w ∈ wsX00, w ∈ lw_tbl := fun w h => wsL_law_in w (inlX0 w h)
theorem inX1 : ∀ w ∈ wsX10, w ∈ lw_tbl := by decide +kernel
theorem inlX2 : ∀ w ∈ wsX20, w ∈ wsL_law := fun _ h => List.mem_append_left _ (List.mem_append_left _ (List.mem_append_left _ (List.mem_append_right _ h)))
theorem inX2 : ∀ w ∈ wsX20, w ∈ lw_tbl := fun w h => wsL_law_in w (inlX2 w h)
theorem inlX3 : ∀ w ∈ wsX30, w ∈ wsL_law := fun _ h => List.mem_append_left _ (List.mem_append_right _ h)
theorem inX3 : ∀ w ∈ wsX30, w ∈ lw_tbl := fun w h => wsL_law_in w (inlX3 w h)
theorem inX4 : ∀ w ∈ wsX40, w ∈ lw_tbl := by decide +kernel
theorem inlX5 : ∀ w ∈ wsX50, w ∈ wsL_law := fun _ h => List.mem_append_left _ (List.mem_append_left _ (List.mem_append_left _ (List.mem_append_left _ (List.mem_append_right _ h))))
theorem inX5 : ∀ w ∈ wsX50, w ∈ lw_tbl := fun w h => wsL_law_in w (inlX5 w h)
theorem inlX6 : ∀ w ∈ wsX60, w ∈ wsL_law := fun _ h => List.mem_append_left _ (List.mem_append_left _ (List.mem_append_left _ (List.mem_append_left _ (List.mem_append_left _ (List.mem_append_left _ (List.mem_append_right _ h))))))
theorem inX6 : ∀ w ∈ wsX60, w ∈ lw_tbl := fun w h => wsL_law_in w (inlX6 w h)
theorem inlX7 : ∀ w ∈ wsX70, w ∈ wsL_law := fun _ h => List.mem_append_left _ (List.mem_append_left _ (List.mem_append_left _ (List.mem_append_left _ (List.mem_append_left _ (List.mem_append_right _ h)))))
theorem inX7 : ∀ w ∈ wsX70, w ∈ lw_tbl := fun w h => wsL_law_in w (inlX7 w h)
theorem inJ9 : ∀ w ∈ wsJ90, w ∈ lw_tbl := by decide +kernel
theorem inJ0 : ∀ w ∈ wsJ00, w ∈ lw_tbl := by decide +kernel
theorem inJ1 : ∀ w ∈ wsJ10, w ∈ lw_tbl := by decide +kernel
theorem inJ2 : ∀ w ∈ wsJ20, w ∈ lw_tbl := by decide +kernel
theorem inJ10 : ∀ w ∈ wsJ100, w ∈ lw_tbl := by decide +kernel
theorem inJ3 : ∀ w ∈ wsJ30, w ∈ lw_tbl := by decide +kernel
theorem dJ9_abs_0f7a4_0 : decode cJ9_abs_0f7a4 0 = .ok (.iload_n 0, 1) := by decide +kernel
theorem dJ9_abs_0f7a4_1 : decode cJ9_abs_0f7a4 1 = .ok (.ifCond .ge 8, 3) := by decide +kernel
theorem dJ9_abs_0f7a4_4 : decode cJ9_abs_0f7a4 4 = .ok (.iload_n 0, 1) := by decide +kernel
theorem dJ9_abs_0f7a4_5 : decode cJ9_abs_0f7a4 5 = .ok (.ineg, 1) := by decide +kernel
theorem dJ9_abs_0f7a4_6 : decode cJ9_abs_0f7a4 6 = .ok (.goto 4, 3) := by decide +kernel
theorem dJ9_abs_0f7a4_9 : decode cJ9_abs_0f7a4 9 = .ok (.iload_n 0, 1) := by decide +kernel
theorem dJ9_abs_0f7a4_10 : decode cJ9_abs_0f7a4 10 = .ok (.ireturn, 1) := by decide +kernel
theorem dJ9_max_7cf53_0 : decode cJ9_max_7cf53 0 = .ok (.iload_n 0, 1) := by decide +kernel
theorem dJ9_max_7cf53_1 : decode cJ9_max_7cf53 1 = .ok (.iload_n 1, 1) := by decide +kernel
theorem dJ9_max_7cf53_2 : decode cJ9_max_7cf53 2 = .ok (.if_icmp .lt 7, 3) := by decide +kernel
theorem dJ9_max_7cf53_5 : decode cJ9_max_7cf53 5 = .ok (.iload_n 0, 1) := by decide +kernel
theorem dJ9_max_7cf53_6 : decode cJ9_max_7cf53 6 = .ok (.goto 4, 3) := by decide +kernel
theorem dJ9_max_7cf53_9 : decode cJ9_max_7cf53 9 = .ok (.iload_n 1, 1) := by decide +kernel
theorem dJ9_max_7cf53_10 : decode cJ9_max_7cf53 10 = .ok (.ireturn, 1) := by decide +kernel
theorem dJ9_min_7cf53_0 : decode cJ9_min_7cf53 0 = .ok (.iload_n 0, 1) := by decide +kernel
theorem dJ9_min_7cf53_1 : decode cJ9_min_7cf53 1 = .ok (.iload_n 1, 1) := by decide +kernel
theorem dJ9_min_7cf53_2 : decode cJ9_min_7cf53 2 = .ok (.if_icmp .gt 7, 3) := by decide +kernel
theorem dJ9_min_7cf53_5 : decode cJ9_min_7cf53 5 = .ok (.iload_n 0, 1) := by decide +kernel
theorem dJ9_min_7cf53_6 : decode cJ9_min_7cf53 6 = .ok (.goto 4, 3) := by decide +kernel
theorem dJ9_min_7cf53_9 : decode cJ9_min_7cf53 9 = .ok (.iload_n 1, 1) := by decide +kernel
theorem dJ9_min_7cf53_10 : decode cJ9_min_7cf53 10 = .ok (.ireturn, 1) := by decide +kernel
theorem dJ9_min_f86c9_0 : decode cJ9_min_f86c9 0 = .ok (.lload_n 0, 1) := by decide +kernel
theorem dJ9_min_f86c9_1 : decode cJ9_min_f86c9 1 = .ok (.lload_n 2, 1) := by decide +kernel
theorem dJ9_min_f86c9_2 : decode cJ9_min_f86c9 2 = .ok (.lcmp, 1) := by decide +kernel
theorem dJ9_min_f86c9_3 : decode cJ9_min_f86c9 3 = .ok (.ifCond .gt 7, 3) := by decide +kernel
theorem dJ9_min_f86c9_6 : decode cJ9_min_f86c9 6 = .ok (.lload_n 0, 1) := by decide +kernel
theorem dJ9_min_f86c9_7 : decode cJ9_min_f86c9 7 = .ok (.goto 4, 3) := by decide +kernel
theorem dJ9_min_f86c9_10 : decode cJ9_min_f86c9 10 = .ok (.lload_n 2, 1) := by decide +kernel
theorem dJ9_min_f86c9_11 : decode cJ9_min_f86c9 11 = .ok (.lreturn, 1) := by decide +kernel
set_option maxRecDepth 20000 in
theorem ggJ0_length_8abf5_J0_coder_7d493 : GoodIn wsJ0_length_8abf5 wsJ0_coder_7d493 := goodIn_r _ [6, 7, 8] (by decide +kernel) (by decide +kernel)
set_option maxRecDepth 20000 in
theorem gJ0_length_8abf5_J0_coder_7d493 : GoodIn wsJ0_length_8abf5 (wsV RJ0 335 RJ0 yJ0_coder_7d493 wsJ0_coder_7d493) := goodIn_app (goodIn_of _ (by decide +kernel)) ggJ0_length_8abf5_J0_coder_7d493
theorem dJ0_length_8abf5_0 : decode cJ0_length_8abf5 0 = .ok (.aload_n 0, 1) := by decide +kernel
theorem dJ0_length_8abf5_1 : decode cJ0_length_8abf5 1 = .ok (.getfield 9, 3) := by decide +kernel
theorem dJ0_length_8abf5_4 : decode cJ0_length_8abf5 4 = .ok (.arraylength, 1) := by decide +kernel
theorem dJ0_length_8abf5_5 : decode cJ0_length_8abf5 5 = .ok (.aload_n 0, 1) := by decide +kernel
theorem dJ0_length_8abf5_6 : decode cJ0_length_8abf5 6 = .ok (.invokevirtual 335, 3) := by decide +kernel
theorem dJ0_length_8abf5_9 : decode cJ0_length_8abf5 9 = .ok (.ishr, 1) := by decide +kernel
theorem dJ0_length_8abf5_10 : decode cJ0_length_8abf5 10 = .ok (.ireturn, 1) := by decide +kernel
set_option maxRecDepth 20000 in
theorem ggJ0_charAt_5068e_J0_isLatin1_aae02 : GoodIn wsJ0_charAt_5068e wsJ0_isLatin1_aae02 := goodIn_r _ [6, 7, 8] (by decide +kernel) (by decide +kernel)
set_option maxRecDepth 20000 in
theorem gJ0_charAt_5068e_J0_isLatin1_aae02 : GoodIn wsJ0_charAt_5068e (wsV RJ0 492 RJ0 yJ0_isLatin1_aae02 wsJ0_isLatin1_aae02) := goodIn_app (goodIn_of _ (by decide +kernel)) ggJ0_charAt_5068e_J0_isLatin1_aae02
set_option maxRecDepth 20000 in
theorem ggJ0_charAt_5068e_J1_charAt_3b067 : GoodIn wsJ0_charAt_5068e wsJ1_charAt_3b067 := goodIn_r _ [12, 13, 14, 5, 15, 16, 17, 18, 19, 20] (by decide +kernel) (by decide +kernel)
set_option maxRecDepth 20000 in
theorem gJ0_charAt_5068e_J1_charAt_3b067 : GoodIn wsJ0_charAt_5068e (va_wsS RJ0 495 yJ1_charAt_3b067 wsJ1_charAt_3b067) := goodIn_app (goodIn_of _ (by decide +kernel)) ggJ0_charAt_5068e_J1_charAt_3b067
set_option maxRecDepth 20000 in
theorem ggJ0_charAt_5068e_J2_charAt_3b067 : GoodIn wsJ0_charAt_5068e wsJ2_charAt_3b067 := goodIn_r _ [24, 25, 26, 23, 27, 28, 29, 30, 31, 14, 5, 15, 16, 17, 18, 19, 20, 32, 33, 34, 35, 36, 37] (by decide +kernel) (by decide +kernel)
set_option maxRecDepth 20000 in
theorem gJ0_charAt_5068e_J2_charAt_3b067 : GoodIn wsJ0_charAt_5068e (va_wsS RJ0 498 yJ2_charAt_3b067 wsJ2_charAt_3b067) := goodIn_app (goodIn_of _ (by decide +kernel)) ggJ0_charAt_5068e_J2_charAt_3b067
theorem dJ0_charAt_5068e_0 : decode cJ0_charAt_5068e 0 = .ok (.aload_n 0, 1) := by decide +kernel
theorem dJ0_charAt_5068e_1 : decode cJ0_charAt_5068e 1 = .ok (.invokevirtual 492, 3) := by decide +kernel
theorem dJ0_charAt_5068e_4 : decode cJ0_charAt_5068e 4 = .ok (.ifCond .eq 12, 3) := by decide +kernel
theorem dJ0_charAt_5068e_7 : decode cJ0_charAt_5068e 7 = .ok (.aload_n 0, 1) := by decide +kernel
theorem dJ0_charAt_5068e_8 : decode cJ0_charAt_5068e 8 = .ok (.getfield 9, 3) := by decide +kernel
theorem dJ0_charAt_5068e_11 : decode cJ0_charAt_5068e 11 = .ok (.iload_n 1, 1) := by decide +kernel
theorem dJ0_charAt_5068e_12 : decode cJ0_charAt_5068e 12 = .ok (.invokestatic 495, 3) := by decide +kernel
theorem dJ0_charAt_5068e_15 : decode cJ0_charAt_5068e 15 = .ok (.ireturn, 1) := by decide +kernel
theorem dJ0_charAt_5068e_16 : decode cJ0_charAt_5068e 16 = .ok (.aload_n 0, 1) := by decide +kernel
theorem dJ0_charAt_5068e_17 : decode cJ0_charAt_5068e 17 = .ok (.getfield 9, 3) := by decide +kernel
theorem dJ0_charAt_5068e_20 : decode cJ0_charAt_5068e 20 = .ok (.iload_n 1, 1) := by decide +kernel
theorem dJ0_charAt_5068e_21 : decode cJ0_charAt_5068e 21 = .ok (.invokestatic 498, 3) := by decide +kernel
theorem dJ0_charAt_5068e_24 : decode cJ0_charAt_5068e 24 = .ok (.ireturn, 1) := by decide +kernel
theorem dJ0_coder_7d493_0 : decode cJ0_coder_7d493 0 = .ok (.getstatic 38, 3) := by decide +kernel
theorem dJ0_coder_7d493_3 : decode cJ0_coder_7d493 3 = .ok (.ifCond .eq 10, 3) := by decide +kernel
theorem dJ0_coder_7d493_6 : decode cJ0_coder_7d493 6 = .ok (.aload_n 0, 1) := by decide +kernel
theorem dJ0_coder_7d493_7 : decode cJ0_coder_7d493 7 = .ok (.getfield 15, 3) := by decide +kernel
theorem dJ0_coder_7d493_10 : decode cJ0_coder_7d493 10 = .ok (.goto 4, 3) := by decide +kernel
theorem dJ0_coder_7d493_13 : decode cJ0_coder_7d493 13 = .ok (.iconst 1, 1) := by decide +kernel
theorem dJ0_coder_7d493_14 : decode cJ0_coder_7d493 14 = .ok (.ireturn, 1) := by decide +kernel
theorem dJ0_isLatin1_aae02_0 : decode cJ0_isLatin1_aae02 0 = .ok (.getstatic 38, 3) := by decide +kernel
theorem dJ0_isLatin1_aae02_3 : decode cJ0_isLatin1_aae02 3 = .ok (.ifCond .eq 14, 3) := by decide +kernel
theorem dJ0_isLatin1_aae02_6 : decode cJ0_isLatin1_aae02 6 = .ok (.aload_n 0, 1) := by decide +kernel
theorem dJ0_isLatin1_aae02_7 : decode cJ0_isLatin1_aae02 7 = .ok (.getfield 15, 3) := by decide +kernel
theorem dJ0_isLatin1_aae02_10 : decode cJ0_isLatin1_aae02 10 = .ok (.ifCond .ne 7, 3) := by decide +kernel
theorem dJ0_isLatin1_aae02_13 : decode cJ0_isLatin1_aae02 13 = .ok (.iconst 1, 1) := by decide +kernel
theorem dJ0_isLatin1_aae02_14 : decode cJ0_isLatin1_aae02 14 = .ok (.goto 4, 3) := by decide +kernel
theorem dJ0_isLatin1_aae02_17 : decode cJ0_isLatin1_aae02 17 = .ok (.iconst 0, 1) := by decide +kernel
theorem dJ0_isLatin1_aae02_18 : decode cJ0_isLatin1_aae02 18 = .ok (.ireturn, 1) := by decide +kernel
set_option maxRecDepth 20000 in
theorem ggJ0_checkIndex_df160_J3_checkIndex_8e157 : GoodIn wsJ0_checkIndex_df160 wsJ3_checkIndex_8e157 := goodIn_r _ [5] (by decide +kernel) (by decide +kernel)
set_option maxRecDepth 20000 in
theorem gJ0_checkIndex_df160_J3_checkIndex_8e157 : GoodIn wsJ0_checkIndex_df160 (va_wsS RJ0 1059 yJ3_checkIndex_8e157 wsJ3_checkIndex_8e157) := goodIn_app (goodIn_of _ (by decide +kernel)) ggJ0_checkIndex_df160_J3_checkIndex_8e157
theorem dJ0_checkIndex_df160_0 : decode cJ0_checkIndex_df160 0 = .ok (.iload_n 0, 1) := by decide +kernel
theorem dJ0_checkIndex_df160_1 : decode cJ0_checkIndex_df160 1 = .ok (.iload_n 1, 1) := by decide +kernel
theorem dJ0_checkIndex_df160_2 : decode cJ0_checkIndex_df160 2 = .ok (.getstatic 1053, 3) := by decide +kernel
theorem dJ0_checkIndex_df160_5 : decode cJ0_checkIndex_df160 5 = .ok (.invokestatic 1059, 3) := by decide +kernel
theorem dJ0_checkIndex_df160_8 : decode cJ0_checkIndex_df160 8 = .ok (.pop, 1) := by decide +kernel
theorem dJ0_checkIndex_df160_9 : decode cJ0_checkIndex_df160 9 = .ok (.return_, 1) := by decide +kernel
set_option maxRecDepth 20000 in
theorem ggJ1_charAt_3b067_J0_checkIndex_df160 : GoodIn wsJ1_charAt_3b067 wsJ0_checkIndex_df160 := goodIn_r _ [4, 5, 6, 7, 8, 9] (by decide +kernel) (by decide +kernel)
set_option maxRecDepth 20000 in
theorem gJ1_charAt_3b067_J0_checkIndex_df160 : GoodIn wsJ1_charAt_3b067 (va_wsS RJ1 9 yJ0_checkIndex_df160 wsJ0_checkIndex_df160) := goodIn_app (goodIn_of _ (by decide +kernel)) ggJ1_charAt_3b067_J0_checkIndex_df160
theorem dJ1_charAt_3b067_0 : decode cJ1_charAt_3b067 0 = .ok (.iload_n 1, 1) := by decide +kernel
theorem dJ1_charAt_3b067_1 : decode cJ1_charAt_3b067 1 = .ok (.aload_n 0, 1) := by decide +kernel
theorem dJ1_charAt_3b067_2 : decode cJ1_charAt_3b067 2 = .ok (.arraylength, 1) := by decide +kernel
theorem dJ1_charAt_3b067_3 : decode cJ1_charAt_3b067 3 = .ok (.invokestatic 9, 3) := by decide +kernel
theorem dJ1_charAt_3b067_6 : decode cJ1_charAt_3b067 6 = .ok (.aload_n 0, 1) := by decide +kernel
theorem dJ1_charAt_3b067_7 : decode cJ1_charAt_3b067 7 = .ok (.iload_n 1, 1) := by decide +kernel
theorem dJ1_charAt_3b067_8 : decode cJ1_charAt_3b067 8 = .ok (.baload, 1) := by decide +kernel
theorem dJ1_charAt_3b067_9 : decode cJ1_charAt_3b067 9 = .ok (.sipush 255, 3) := by decide +kernel
theorem dJ1_charAt_3b067_12 : decode cJ1_charAt_3b067 12 = .ok (.iand, 1) := by decide +kernel
theorem dJ1_charAt_3b067_13 : decode cJ1_charAt_3b067 13 = .ok (.i2c, 1) := by decide +kernel
theorem dJ1_charAt_3b067_14 : decode cJ1_charAt_3b067 14 = .ok (.ireturn, 1) := by decide +kernel
set_option maxRecDepth 20000 in
theorem ggJ2_getChar_3b067_J2_length_9d52b : GoodIn wsJ2_getChar_3b067 wsJ2_length_9d52b := goodIn_r _ [7] (by decide +kernel) (by decide +kernel)
set_option maxRecDepth 20000 in
theorem gJ2_getChar_3b067_J2_length_9d52b : GoodIn wsJ2_getChar_3b067 (va_wsS RJ2 48 yJ2_length_9d52b wsJ2_length_9d52b) := goodIn_app (goodIn_of _ (by decide +kernel)) ggJ2_getChar_3b067_J2_length_9d52b
theorem dJ2_getChar_3b067_0 : decode cJ2_getChar_3b067 0 = .ok (.getstatic 44, 3) := by decide +kernel
theorem dJ2_getChar_3b067_3 : decode cJ2_getChar_3b067 3 = .ok (.ifCond .ne 25, 3) := by decide +kernel
theorem dJ2_getChar_3b067_6 : decode cJ2_getChar_3b067 6 = .ok (.iload_n 1, 1) := by decide +kernel
theorem dJ2_getChar_3b067_7 : decode cJ2_getChar_3b067 7 = .ok (.ifCond .lt 11, 3) := by decide +kernel
theorem dJ2_getChar_3b067_10 : decode cJ2_getChar_3b067 10 = .ok (.iload_n 1, 1) := by decide +kernel
theorem dJ2_getChar_3b067_11 : decode cJ2_getChar_3b067 11 = .ok (.aload_n 0, 1) := by decide +kernel
theorem dJ2_getChar_3b067_12 : decode cJ2_getChar_3b067 12 = .ok (.invokestatic 48, 3) := by decide +kernel
theorem dJ2_getChar_3b067_15 : decode cJ2_getChar_3b067 15 = .ok (.if_icmp .lt 13, 3) := by decide +kernel
theorem dJ2_getChar_3b067_18 : decode cJ2_getChar_3b067 18 = .ok (.new 52, 3) := by decide +kernel
theorem dJ2_getChar_3b067_21 : decode cJ2_getChar_3b067 21 = .ok (.dup, 1) := by decide +kernel
theorem dJ2_getChar_3b067_22 : decode cJ2_getChar_3b067 22 = .ok (.ldc 54, 2) := by decide +kernel
theorem dJ2_getChar_3b067_24 : decode cJ2_getChar_3b067 24 = .ok (.invokespecial 56, 3) := by decide +kernel
theorem dJ2_getChar_3b067_27 : decode cJ2_getChar_3b067 27 = .ok (.athrow, 1) := by decide +kernel
theorem dJ2_getChar_3b067_28 : decode cJ2_getChar_3b067 28 = .ok (.iload_n 1, 1) := by decide +kernel
theorem dJ2_getChar_3b067_29 : decode cJ2_getChar_3b067 29 = .ok (.iconst 1, 1) := by decide +kernel
theorem dJ2_getChar_3b067_30 : decode cJ2_getChar_3b067 30 = .ok (.ishl, 1) := by decide +kernel
theorem dJ2_getChar_3b067_31 : decode cJ2_getChar_3b067 31 = .ok (.istore_n 1, 1) := by decide +kernel
theorem dJ2_getChar_3b067_32 : decode cJ2_getChar_3b067 32 = .ok (.aload_n 0, 1) := by decide +kernel
theorem dJ2_getChar_3b067_33 : decode cJ2_getChar_3b067 33 = .ok (.iload_n 1, 1) := by decide +kernel
theorem dJ2_getChar_3b067_34 : decode cJ2_getChar_3b067 34 = .ok (.iinc 1 1, 3) := by decide +kernel
theorem dJ2_getChar_3b067_37 : decode cJ2_getChar_3b067 37 = .ok (.baload, 1) := by decide +kernel
theorem dJ2_getChar_3b067_38 : decode cJ2_getChar_3b067 38 = .ok (.sipush 255, 3) := by decide +kernel
theorem dJ2_getChar_3b067_41 : decode cJ2_getChar_3b067 41 = .ok (.iand, 1) := by decide +kernel
theorem dJ2_getChar_3b067_42 : decode cJ2_getChar_3b067 42 = .ok (.getstatic 59, 3) := by decide +kernel
theorem dJ2_getChar_3b067_45 : decode cJ2_getChar_3b067 45 = .ok (.ishl, 1) := by decide +kernel
theorem dJ2_getChar_3b067_46 : decode cJ2_getChar_3b067 46 = .ok (.aload_n 0, 1) := by decide +kernel
theorem dJ2_getChar_3b067_47 : decode cJ2_getChar_3b067 47 = .ok (.iload_n 1, 1) := by decide +kernel
theorem dJ2_getChar_3b067_48 : decode cJ2_getChar_3b067 48 = .ok (.baload, 1) := by decide +kernel
theorem dJ2_getChar_3b067_49 : decode cJ2_getChar_3b067 49 = .ok (.sipush 255, 3) := by decide +kernel
theorem dJ2_getChar_3b067_52 : decode cJ2_getChar_3b067 52 = .ok (.iand, 1) := by decide +kernel
theorem dJ2_getChar_3b067_53 : decode cJ2_getChar_3b067 53 = .ok (.getstatic 63, 3) := by decide +kernel
theorem dJ2_getChar_3b067_56 : decode cJ2_getChar_3b067 56 = .ok (.ishl, 1) := by decide +kernel
theorem dJ2_getChar_3b067_57 : decode cJ2_getChar_3b067 57 = .ok (.ior, 1) := by decide +kernel
theorem dJ2_getChar_3b067_58 : decode cJ2_getChar_3b067 58 = .ok (.i2c, 1) := by decide +kernel
theorem dJ2_getChar_3b067_59 : decode cJ2_getChar_3b067 59 = .ok (.ireturn, 1) := by decide +kernel
theorem dJ2_length_9d52b_0 : decode cJ2_length_9d52b 0 = .ok (.aload_n 0, 1) := by decide +kernel
theorem dJ2_length_9d52b_1 : decode cJ2_length_9d52b 1 = .ok (.arraylength, 1) := by decide +kernel
theorem dJ2_length_9d52b_2 : decode cJ2_length_9d52b 2 = .ok (.iconst 1, 1) := by decide +kernel
theorem dJ2_length_9d52b_3 : decode cJ2_length_9d52b 3 = .ok (.ishr, 1) := by decide +kernel
theorem dJ2_length_9d52b_4 : decode cJ2_length_9d52b 4 = .ok (.ireturn, 1) := by decide +kernel
set_option maxRecDepth 20000 in
theorem ggJ2_charAt_3b067_J2_checkIndex_2214a : GoodIn wsJ2_charAt_3b067 wsJ2_checkIndex_2214a := goodIn_r _ [4, 5, 6, 3, 7, 8, 9, 10, 11, 12, 13, 14, 15, 16] (by decide +kernel) (by decide +kernel)
set_option maxRecDepth 20000 in
theorem gJ2_charAt_3b067_J2_checkIndex_2214a : GoodIn wsJ2_charAt_3b067 (va_wsS RJ2 67 yJ2_checkIndex_2214a wsJ2_checkIndex_2214a) := goodIn_app (goodIn_of _ (by decide +kernel)) ggJ2_charAt_3b067_J2_checkIndex_2214a
set_option maxRecDepth 20000 in
theorem ggJ2_charAt_3b067_J2_getChar_3b067 : GoodIn wsJ2_charAt_3b067 wsJ2_getChar_3b067 := goodIn_r _ [19, 20, 21, 22, 5, 6, 3, 7] (by decide +kernel) (by decide +kernel)
set_option maxRecDepth 20000 in
theorem gJ2_charAt_3b067_J2_getChar_3b067 : GoodIn wsJ2_charAt_3b067 (va_wsS RJ2 71 yJ2_getChar_3b067 wsJ2_getChar_3b067) := goodIn_app (goodIn_of _ (by decide +kernel)) ggJ2_charAt_3b067_J2_getChar_3b067
theorem dJ2_charAt_3b067_0 : decode cJ2_charAt_3b067 0 = .ok (.iload_n 1, 1) := by decide +kernel
theorem dJ2_charAt_3b067_1 : decode cJ2_charAt_3b067 1 = .ok (.aload_n 0, 1) := by decide +kernel
theorem dJ2_charAt_3b067_2 : decode cJ2_charAt_3b067 2 = .ok (.invokestatic 67, 3) := by decide +kernel
theorem dJ2_charAt_3b067_5 : decode cJ2_charAt_3b067 5 = .ok (.aload_n 0, 1) := by decide +kernel
theorem dJ2_charAt_3b067_6 : decode cJ2_charAt_3b067 6 = .ok (.iload_n 1, 1) := by decide +kernel
theorem dJ2_charAt_3b067_7 : decode cJ2_charAt_3b067 7 = .ok (.invokestatic 71, 3) := by decide +kernel
theorem dJ2_charAt_3b067_10 : decode cJ2_charAt_3b067 10 = .ok (.ireturn, 1) := by decide +kernel
set_option maxRecDepth 20000 in
theorem ggJ2_checkIndex_2214a_J2_length_9d52b : GoodIn wsJ2_checkIndex_2214a wsJ2_length_9d52b := goodIn_r _ [4] (by decide +kernel) (by decide +kernel)
set_option maxRecDepth 20000 in
theorem gJ2_checkIndex_2214a_J2_length_9d52b : GoodIn wsJ2_checkIndex_2214a (va_wsS RJ2 48 yJ2_length_9d52b wsJ2_length_9d52b) := goodIn_app (goodIn_of _ (by decide +kernel)) ggJ2_checkIndex_2214a_J2_length_9d52b
set_option maxRecDepth 20000 in
theorem ggJ2_checkIndex_2214a_J0_checkIndex_df160 : GoodIn wsJ2_checkIndex_2214a wsJ0_checkIndex_df160 := goodIn_r _ [8, 9, 10, 11, 12, 13] (by decide +kernel) (by decide +kernel)
set_option maxRecDepth 20000 in
theorem gJ2_checkIndex_2214a_J0_checkIndex_df160 : GoodIn wsJ2_checkIndex_2214a (va_wsS RJ2 414 yJ0_checkIndex_df160 wsJ0_checkIndex_df160) := goodIn_app (goodIn_of _ (by decide +kernel)) ggJ2_checkIndex_2214a_J0_checkIndex_df160
theorem dJ2_checkIndex_2214a_0 : decode cJ2_checkIndex_2214a 0 = .ok (.iload_n 0, 1) := by decide +kernel
theorem dJ2_checkIndex_2214a_1 : decode cJ2_checkIndex_2214a 1 = .ok (.aload_n 1, 1) := by decide +kernel
theorem dJ2_checkIndex_2214a_2 : decode cJ2_checkIndex_2214a 2 = .ok (.invokestatic 48, 3) := by decide +kernel
theorem dJ2_checkIndex_2214a_5 : decode cJ2_checkIndex_2214a 5 = .ok (.invokestatic 414, 3) := by decide +kernel
theorem dJ2_checkIndex_2214a_8 : decode cJ2_checkIndex_2214a 8 = .ok (.return_, 1) := by decide +kernel
theorem dJ3_checkIndex_8e157_0 : decode cJ3_checkIndex_8e157 0 = .ok (.iload_n 0, 1) := by decide +kernel
theorem dJ3_checkIndex_8e157_1 : decode cJ3_checkIndex_8e157 1 = .ok (.ifCond .lt 8, 3) := by decide +kernel
theorem dJ3_checkIndex_8e157_4 : decode cJ3_checkIndex_8e157 4 = .ok (.iload_n 0, 1) := by decide +kernel
theorem dJ3_checkIndex_8e157_5 : decode cJ3_checkIndex_8e157 5 = .ok (.iload_n 1, 1) := by decide +kernel
theorem dJ3_checkIndex_8e157_6 : decode cJ3_checkIndex_8e157 6 = .ok (.if_icmp .lt 10, 3) := by decide +kernel
theorem dJ3_checkIndex_8e157_9 : decode cJ3_checkIndex_8e157 9 = .ok (.aload_n 2, 1) := by decide +kernel
theorem dJ3_checkIndex_8e157_10 : decode cJ3_checkIndex_8e157 10 = .ok (.iload_n 0, 1) := by decide +kernel
theorem dJ3_checkIndex_8e157_11 : decode cJ3_checkIndex_8e157 11 = .ok (.iload_n 1, 1) := by decide +kernel
theorem dJ3_checkIndex_8e157_12 : decode cJ3_checkIndex_8e157 12 = .ok (.invokestatic 95, 3) := by decide +kernel
theorem dJ3_checkIndex_8e157_15 : decode cJ3_checkIndex_8e157 15 = .ok (.athrow, 1) := by decide +kernel
theorem dJ3_checkIndex_8e157_16 : decode cJ3_checkIndex_8e157 16 = .ok (.iload_n 0, 1) := by decide +kernel
theorem dJ3_checkIndex_8e157_17 : decode cJ3_checkIndex_8e157 17 = .ok (.ireturn, 1) := by decide +kernel
set_option maxRecDepth 20000 in
theorem ggL_law_X6_init : GoodIn wsL_law wsX6_init := goodIn_r _ [8, 9, 10, 11, 12, 13, 14, 15, 16, 17, 18, 19, 20, 21, 22, 23, 24, 25, 26, 27, 28, 29, 30, 31, 32, 33, 34, 35, 36, 37, 38, 39, 40, 41, 42, 43, 44, 45, 46, 47, 48, 49, 50, 51, 52, 53, 54, 55, 56, 57, 58, 59, 60, 61, 62, 63, 64, 65, 66, 67, 68, 69, 70, 71, 72, 73, 74, 1065, 1066, 1067, 1068, 1069, 1070, 1071, 1072, 1073, 1074, 1075, 1076, 1077, 1078, 1079, 1028, 1029, 1030, 1031, 1032, 1033, 1034, 1035, 1036, 1037, 1038, 1039, 1080, 1081, 1082, 1083, 1084, 1085, 1086, 1087, 1088, 1089, 1090, 1091, 1092, 1093, 1094] (by decide +kernel) (by decide +kernel)
set_option maxRecDepth 20000 in
theorem gL_law_X6_init : GoodIn wsL_law (wsX6_init) := ggL_law_X6_init
set_option maxRecDepth 20000 in
theorem ggL_law_X7_init : GoodIn wsL_law wsX7_init := goodIn_r _ [77, 78, 10, 11, 28, 79, 80, 18, 81, 82, 83, 84, 85, 86, 87, 88, 89, 90, 91, 70, 92, 93, 94, 95, 96, 97, 98, 99, 5, 100, 1040, 1041, 1042, 1043, 1044, 1045, 1046, 1047, 1048, 1049, 1050, 1051, 1052, 1053, 1054, 1055, 1056, 1057, 1058, 1059, 1060, 1061, 1062, 1063, 1064] (by decide +kernel) (by decide +kernel)
set_option maxRecDepth 20000 in
theorem gL_law_X7_init : GoodIn wsL_law (wsX7_init) := ggL_law_X7_init
set_option maxRecDepth 20000 in
theorem ggL_law_X6_valley : GoodIn wsL_law wsX6_valley := goodIn_r _ [104, 15, 105, 106, 107, 108, 14, 109, 110, 111, 112, 50, 113, 51, 52, 1028, 1029, 1030, 1031, 1032, 1033, 1034, 1035, 1036, 1037, 1038, 1039, 1065, 1066, 1067, 1068, 1069, 1070, 1071, 1072, 1073, 1074, 1075, 1076, 1077, 1078, 1079, 1091, 1092, 1093, 1094] (by decide +kernel) (by decide +kernel)
set_option maxRecDepth 20000 in
theorem gL_law_X6_valley : GoodIn wsL_law (wsV RL 13 RX6 yX6_valley wsX6_valley) := goodIn_app (goodIn_of _ (by decide +kernel)) ggL_law_X6_valley
set_option maxRecDepth 20000 in
theorem ggL_law_X7_valley : GoodIn wsL_law wsX7_valley := goodIn_r _ [117, 79, 118, 119, 120, 5, 121, 98, 99, 100, 1040, 1041, 1042, 1043, 1044, 1045, 1046, 1047, 1048, 1049, 1050, 1051, 1052, 1053, 1054, 1055, 1056, 1057, 1058, 1059, 1060, 1061, 1062, 1063, 1064] (by decide +kernel) (by decide +kernel)
set_option maxRecDepth 20000 in
theorem gL_law_X7_valley : GoodIn wsL_law (wsV RL 17 RX7 yX7_valley wsX7_valley) := goodIn_app (goodIn_of _ (by decide +kernel)) ggL_law_X7_valley
set_option maxRecDepth 20000 in
theorem ggL_law_X6_person : GoodIn wsL_law wsX6_person := goodIn_r _ [125, 15, 105, 126, 127, 2, 128, 129, 130, 131, 132, 29, 133, 134, 135, 136, 137, 138, 139, 14, 140, 110, 38, 39, 40, 41, 52, 113, 1028, 1029, 1030, 1031, 1032, 1033, 1034, 1035, 1036, 1037, 1038, 1039, 1065, 1066, 1067, 1068, 1069, 1070, 1071, 1072, 1073, 1074, 1075, 1076, 1077, 1078, 1079, 1091, 1092, 1093, 1094] (by decide +kernel) (by decide +kernel)
set_option maxRecDepth 20000 in
theorem gL_law_X6_person : GoodIn wsL_law (wsV RL 18 RX6 yX6_person wsX6_person) := goodIn_app (goodIn_of _ (by decide +kernel)) ggL_law_X6_person
set_option maxRecDepth 20000 in
theorem ggL_law_X7_person : GoodIn wsL_law wsX7_person := goodIn_r _ [144, 145, 146, 79, 147, 148, 5, 149, 150, 151, 152, 153, 154, 155, 156, 157, 82, 118, 119, 120, 121, 158, 159, 160, 161, 162, 163, 164, 1040, 1041, 1042, 1043, 1044, 1045, 1046, 1047, 1048, 1049, 1050, 1051, 1052, 1053, 1054, 1055, 1056, 1057, 1058, 1059, 1060, 1061, 1062, 1063, 1064] (by decide +kernel) (by decide +kernel)
set_option maxRecDepth 20000 in
theorem gL_law_X7_person : GoodIn wsL_law (wsV RL 22 RX7 yX7_person wsX7_person) := goodIn_app (goodIn_of _ (by decide +kernel)) ggL_law_X7_person
set_option maxRecDepth 20000 in
theorem ggL_law_X6_thing : GoodIn wsL_law wsX6_thing := goodIn_r _ [168, 15, 169, 126, 127, 2, 128, 170, 171, 172, 173, 105, 129, 130, 131, 132, 29, 133, 134, 135, 136, 174, 175, 176, 14, 177, 111, 42, 43, 44, 45, 46, 52, 113, 1028, 1029, 1030, 1031, 1032, 1033, 1034, 1035, 1036, 1037, 1038, 1039, 1065, 1066, 1067, 1068, 1069, 1070, 1071, 1072, 1073, 1074, 1075, 1076, 1077, 1078, 1079, 1091, 1092, 1093, 1094] (by decide +kernel) (by decide +kernel)
set_option maxRecDepth 20000 in
theorem gL_law_X6_thing : GoodIn wsL_law (wsV RL 23 RX6 yX6_thing wsX6_thing) := goodIn_app (goodIn_of _ (by decide +kernel)) ggL_law_X6_thing
set_option maxRecDepth 20000 in
theorem ggL_law_X7_thing : GoodIn wsL_law wsX7_thing := goodIn_r _ [181, 145, 79, 147, 148, 5, 149, 182, 183, 184, 185, 186, 187, 188, 189, 118, 119, 120, 121, 154, 155, 156, 157, 82, 190, 191, 192, 193, 158, 159, 160, 161, 194, 195, 196, 1040, 1041, 1042, 1043, 1044, 1045, 1046, 1047, 1048, 1049, 1050, 1051, 1052, 1053, 1054, 1055, 1056, 1057, 1058, 1059, 1060, 1061, 1062, 1063, 1064] (by decide +kernel) (by decide +kernel)
set_option maxRecDepth 20000 in
theorem gL_law_X7_thing : GoodIn wsL_law (wsV RL 27 RX7 yX7_thing wsX7_thing) := goodIn_app (goodIn_of _ (by decide +kernel)) ggL_law_X7_thing
set_option maxRecDepth 20000 in
theorem ggL_law_X6_type : GoodIn wsL_law wsX6_type := goodIn_r _ [200, 23, 201, 126, 127, 2, 128, 129, 130, 131, 132, 29, 133, 134, 135, 136, 202, 203, 204, 22, 205, 206, 65, 1028, 1029, 1030, 1031, 1032, 1033, 1034, 1035, 1036, 1037, 1038, 1039, 1080, 1081, 1082, 1083, 1084, 1085] (by decide +kernel) (by decide +kernel)
set_option maxRecDepth 20000 in
theorem gL_law_X6_type : GoodIn wsL_law (wsV RL 28 RX6 yX6_type wsX6_type) := goodIn_app (goodIn_of _ (by decide +kernel)) ggL_law_X6_type
set_option maxRecDepth 20000 in
theorem ggL_law_X7_type : GoodIn wsL_law wsX7_type := goodIn_r _ [210, 211, 212, 95, 147, 148, 5, 149, 154, 155, 156, 157, 82, 158, 159, 160, 161, 1040, 1041, 1042, 1043, 1044, 1045, 1046, 1047, 1048, 1049, 1050, 1051, 1052, 1053, 1054, 1055, 1056, 1057, 1058, 1059, 1060, 1061, 1062, 1063, 1064] (by decide +kernel) (by decide +kernel)
set_option maxRecDepth 20000 in
theorem gL_law_X7_type : GoodIn wsL_law (wsV RL 32 RX7 yX7_type wsX7_type) := goodIn_app (goodIn_of _ (by decide +kernel)) ggL_law_X7_type
set_option maxRecDepth 20000 in
theorem ggL_law_X6_clear : GoodIn wsL_law wsX6_clear := goodIn_r _ [216, 23, 201, 1028, 1029, 1030, 1031, 1032, 1033, 1034, 1035, 1036, 1037, 1038, 1039, 1080, 1081, 1082, 1083, 1084, 1085] (by decide +kernel) (by decide +kernel)
set_option maxRecDepth 20000 in
theorem gL_law_X6_clear : GoodIn wsL_law (wsV RL 33 RX6 yX6_clear wsX6_clear) := goodIn_app (goodIn_of _ (by decide +kernel)) ggL_law_X6_clear
set_option maxRecDepth 20000 in
theorem ggL_law_X7_clear : GoodIn wsL_law wsX7_clear := goodIn_r _ [220, 212, 1040, 1041, 1042, 1043, 1044, 1045, 1046, 1047, 1048, 1049, 1050, 1051, 1052, 1053, 1054, 1055, 1056, 1057, 1058, 1059, 1060, 1061, 1062, 1063, 1064] (by decide +kernel) (by decide +kernel)
set_option maxRecDepth 20000 in
theorem gL_law_X7_clear : GoodIn wsL_law (wsV RL 36 RX7 yX7_clear wsX7_clear) := goodIn_app (goodIn_of _ (by decide +kernel)) ggL_law_X7_clear
set_option maxRecDepth 20000 in
theorem ggL_law_X6_read : GoodIn wsL_law wsX6_read := goodIn_r _ [224, 23, 16, 15, 225, 226, 227, 22, 228, 229, 230, 231, 232, 107, 108, 14, 109, 110, 111, 112, 50, 113, 51, 52, 233, 234, 235, 236, 206, 65, 237, 238, 239, 240, 241, 242, 243, 244, 245, 246, 247, 248, 249, 250, 251, 252, 253, 254, 255, 256, 257, 258, 259, 260, 261, 262, 263, 264, 265, 266, 267, 268, 269, 270, 271, 272, 273, 274, 275, 276, 277, 278, 279, 280, 281, 282, 283, 284, 285, 286, 287, 288, 289, 290, 291, 292, 293, 294, 295, 296, 297, 298, 299, 300, 301, 302, 303, 304, 66, 305, 306, 307, 308, 309, 138, 139, 140, 38, 39, 40, 41, 310, 311, 312, 313, 314, 315, 316, 317, 318, 319, 320, 175, 176, 177, 42, 43, 44, 45, 46, 321, 322, 323, 324, 325, 326, 327, 328, 329, 330, 331, 332, 333, 334, 335, 336, 337, 338, 339, 340, 341, 342, 343, 344, 345, 346, 347, 348, 349, 350, 351, 352, 353, 354, 355, 356, 357, 358, 359, 360, 361, 2, 362, 363, 364, 365, 366, 367, 368, 369, 370, 371, 372, 49, 373, 60, 59, 1028, 1029, 1030, 1031, 1032, 1033, 1034, 1035, 1036, 1037, 1038, 1039, 1080, 1081, 1082, 1083, 1084, 1085, 1065, 1066, 1067, 1068, 1069, 1070, 1071, 1072, 1073, 1074, 1075, 1076, 1077, 1078, 1079, 1091, 1092, 1093, 1094] (by decide +kernel) (by decide +kernel)
set_option maxRecDepth 20000 in
theorem gL_law_X6_read : GoodIn wsL_law (wsV RL 37 RX6 yX6_read wsX6_read) := goodIn_app (goodIn_of _ (by decide +kernel)) ggL_law_X6_read
set_option maxRecDepth 20000 in
theorem ggL_law_X7_read : GoodIn wsL_law wsX7_read := goodIn_r _ [377, 378, 379, 96, 79, 380, 381, 382, 5, 383, 212, 95, 384, 385, 386, 387, 388, 389, 390, 147, 148, 149, 391, 392, 393, 394, 395, 396, 397, 398, 399, 400, 401, 402, 403, 98, 99, 100, 404, 405, 406, 407, 408, 409, 410, 411, 97, 412, 413, 414, 415, 162, 163, 164, 416, 417, 418, 419, 420, 421, 422, 423, 194, 195, 196, 424, 425, 426, 427, 428, 429, 430, 431, 432, 433, 434, 435, 436, 437, 438, 439, 84, 440, 441, 442, 443, 444, 445, 446, 447, 448, 449, 450, 451, 452, 453, 454, 455, 456, 457, 458, 459, 460, 461, 1040, 1041, 1042, 1043, 1044, 1045, 1046, 1047, 1048, 1049, 1050, 1051, 1052, 1053, 1054, 1055, 1056, 1057, 1058, 1059, 1060, 1061, 1062, 1063, 1064] (by decide +kernel) (by decide +kernel)
set_option maxRecDepth 20000 in
theorem gL_law_X7_read : GoodIn wsL_law (wsV RL 40 RX7 yX7_read wsX7_read) := goodIn_app (goodIn_of _ (by decide +kernel)) ggL_law_X7_read
set_option maxRecDepth 20000 in
theorem ggL_law_X6_lose : GoodIn wsL_law wsX6_lose := goodIn_r _ [465, 15, 466, 467, 468, 469, 470, 2, 471, 169, 126, 127, 128, 129, 130, 131, 132, 29, 472, 473, 474, 475, 476, 477, 478, 14, 479, 52, 112, 40, 45, 46, 480, 481, 482, 49, 483, 60, 58, 484, 485, 486, 487, 59, 57, 488, 367, 368, 369, 489, 490, 491, 492, 493, 494, 495, 496, 1028, 1029, 1030, 1031, 1032, 1033, 1034, 1035, 1036, 1037, 1038, 1039, 1065, 1066, 1067, 1068, 1069, 1070, 1071, 1072, 1073, 1074, 1075, 1076, 1077, 1078, 1079, 1091, 1092, 1093, 1094] (by decide +kernel) (by decide +kernel)
set_option maxRecDepth 20000 in
theorem gL_law_X6_lose : GoodIn wsL_law (wsV RL 41 RX6 yX6_lose wsX6_lose) := goodIn_app (goodIn_of _ (by decide +kernel)) ggL_law_X6_lose
set_option maxRecDepth 20000 in
theorem ggL_law_X7_lose : GoodIn wsL_law wsX7_lose := goodIn_r _ [500, 79, 501, 502, 503, 5, 504, 190, 191, 192, 193, 147, 148, 149, 154, 155, 156, 157, 82, 505, 506, 507, 508, 509, 510, 511, 512, 1040, 1041, 1042, 1043, 1044, 1045, 1046, 1047, 1048, 1049, 1050, 1051, 1052, 1053, 1054, 1055, 1056, 1057, 1058, 1059, 1060, 1061, 1062, 1063, 1064] (by decide +kernel) (by decide +kernel)
set_option maxRecDepth 20000 in
theorem gL_law_X7_lose : GoodIn wsL_law (wsV RL 44 RX7 yX7_lose wsX7_lose) := goodIn_app (goodIn_of _ (by decide +kernel)) ggL_law_X7_lose
set_option maxRecDepth 20000 in
theorem ggL_law_X6_back : GoodIn wsL_law wsX6_back := goodIn_r _ [516, 15, 467, 517, 468, 469, 470, 2, 471, 169, 126, 127, 128, 129, 130, 131, 132, 29, 518, 519, 520, 14, 521, 46, 45, 44, 472, 473, 474, 475, 522, 523, 524, 525, 38, 43, 112, 526, 527, 528, 529, 41, 40, 346, 347, 348, 349, 530, 531, 532, 533, 534, 344, 535, 476, 477, 478, 479, 52, 480, 481, 482, 49, 483, 60, 58, 484, 485, 486, 487, 59, 57, 488, 367, 368, 369, 489, 490, 491, 492, 493, 494, 495, 496, 1028, 1029, 1030, 1031, 1032, 1033, 1034, 1035, 1036, 1037, 1038, 1039, 1065, 1066, 1067, 1068, 1069, 1070, 1071, 1072, 1073, 1074, 1075, 1076, 1077, 1078, 1079, 1091, 1092, 1093, 1094] (by decide +kernel) (by decide +kernel)
set_option maxRecDepth 20000 in
theorem gL_law_X6_back : GoodIn wsL_law (wsV RL 45 RX6 yX6_back wsX6_back) := goodIn_app (goodIn_of _ (by decide +kernel)) ggL_law_X6_back
set_option maxRecDepth 20000 in
theorem ggL_law_X7_back : GoodIn wsL_law wsX7_back := goodIn_r _ [539, 79, 501, 502, 503, 5, 504, 190, 191, 192, 193, 147, 148, 149, 154, 155, 156, 157, 82, 505, 506, 507, 508, 436, 437, 438, 439, 84, 540, 541, 542, 543, 452, 453, 454, 455, 456, 457, 458, 544, 545, 546, 509, 510, 511, 512, 1040, 1041, 1042, 1043, 1044, 1045, 1046, 1047, 1048, 1049, 1050, 1051, 1052, 1053, 1054, 1055, 1056, 1057, 1058, 1059, 1060, 1061, 1062, 1063, 1064] (by decide +kernel) (by decide +kernel)
set_option maxRecDepth 20000 in
theorem gL_law_X7_back : GoodIn wsL_law (wsV RL 48 RX7 yX7_back wsX7_back) := goodIn_app (goodIn_of _ (by decide +kernel)) ggL_law_X7_back
set_option maxRecDepth 20000 in
theorem ggL_law_X6_coat : GoodIn wsL_law wsX6_coat := goodIn_r _ [550, 15, 551, 170, 171, 172, 2, 173, 105, 126, 127, 128, 129, 130, 131, 132, 29, 476, 477, 478, 14, 479, 52, 112, 40, 45, 46, 480, 481, 482, 49, 483, 60, 58, 484, 485, 486, 487, 59, 57, 488, 367, 368, 369, 489, 490, 491, 492, 493, 494, 495, 496, 1028, 1029, 1030, 1031, 1032, 1033, 1034, 1035, 1036, 1037, 1038, 1039, 1065, 1066, 1067, 1068, 1069, 1070, 1071, 1072, 1073, 1074, 1075, 1076, 1077, 1078, 1079, 1091, 1092, 1093, 1094] (by decide +kernel) (by decide +kernel)
set_option maxRecDepth 20000 in
theorem gL_law_X6_coat : GoodIn wsL_law (wsV RL 49 RX6 yX6_coat wsX6_coat) := goodIn_app (goodIn_of _ (by decide +kernel)) ggL_law_X6_coat
set_option maxRecDepth 20000 in
theorem ggL_law_X7_coat : GoodIn wsL_law wsX7_coat := goodIn_r _ [555, 79, 186, 187, 188, 5, 189, 118, 119, 120, 121, 147, 148, 149, 150, 151, 152, 153, 154, 155, 156, 157, 82, 509, 510, 511, 512, 1040, 1041, 1042, 1043, 1044, 1045, 1046, 1047, 1048, 1049, 1050, 1051, 1052, 1053, 1054, 1055, 1056, 1057, 1058, 1059, 1060, 1061, 1062, 1063, 1064] (by decide +kernel) (by decide +kernel)
set_option maxRecDepth 20000 in
theorem gL_law_X7_coat : GoodIn wsL_law (wsV RL 53 RX7 yX7_coat wsX7_coat) := goodIn_app (goodIn_of _ (by decide +kernel)) ggL_law_X7_coat
set_option maxRecDepth 20000 in
theorem ggL_law_X6_day : GoodIn wsL_law wsX6_day := goodIn_r _ [559, 15, 560, 129, 130, 131, 2, 132, 29, 476, 477, 478, 14, 479, 52, 112, 40, 45, 46, 480, 481, 482, 49, 483, 60, 58, 484, 485, 486, 487, 59, 57, 488, 367, 368, 369, 489, 490, 491, 492, 493, 494, 495, 496, 561, 331, 332, 333, 111, 42, 43, 334, 335, 336, 337, 110, 338, 339, 340, 341, 38, 41, 39, 342, 343, 344, 345, 346, 347, 348, 349, 350, 351, 352, 353, 354, 355, 356, 562, 563, 564, 565, 1028, 1029, 1030, 1031, 1032, 1033, 1034, 1035, 1036, 1037, 1038, 1039, 1065, 1066, 1067, 1068, 1069, 1070, 1071, 1072, 1073, 1074, 1075, 1076, 1077, 1078, 1079, 1091, 1092, 1093, 1094] (by decide +kernel) (by decide +kernel)
set_option maxRecDepth 20000 in
theorem gL_law_X6_day : GoodIn wsL_law (wsV RL 54 RX6 yX6_day wsX6_day) := goodIn_app (goodIn_of _ (by decide +kernel)) ggL_law_X6_day
set_option maxRecDepth 20000 in
theorem ggL_law_X7_day : GoodIn wsL_law wsX7_day := goodIn_r _ [569, 570, 79, 147, 148, 5, 149, 154, 155, 156, 157, 82, 509, 510, 511, 512, 432, 433, 434, 435, 436, 437, 438, 439, 84, 440, 441, 442, 443, 444, 445, 446, 447, 448, 449, 450, 451, 452, 453, 454, 455, 456, 457, 458, 459, 460, 461, 571, 572, 573, 574, 1040, 1041, 1042, 1043, 1044, 1045, 1046, 1047, 1048, 1049, 1050, 1051, 1052, 1053, 1054, 1055, 1056, 1057, 1058, 1059, 1060, 1061, 1062, 1063, 1064] (by decide +kernel) (by decide +kernel)
set_option maxRecDepth 20000 in
theorem gL_law_X7_day : GoodIn wsL_law (wsV RL 57 RX7 yX7_day wsX7_day) := goodIn_app (goodIn_of _ (by decide +kernel)) ggL_law_X7_day
set_option maxRecDepth 20000 in
theorem ggL_law_X6_undo : GoodIn wsL_law wsX6_undo := goodIn_r _ [578, 15, 579, 580, 560, 472, 473, 474, 2, 475, 29, 581, 582, 583, 14, 584, 52, 113, 112, 40, 45, 46, 585, 586, 587, 49, 588, 57, 59, 1028, 1029, 1030, 1031, 1032, 1033, 1034, 1035, 1036, 1037, 1038, 1039, 1065, 1066, 1067, 1068, 1069, 1070, 1071, 1072, 1073, 1074, 1075, 1076, 1077, 1078, 1079, 1091, 1092, 1093, 1094] (by decide +kernel) (by decide +kernel)
set_option maxRecDepth 20000 in
theorem gL_law_X6_undo : GoodIn wsL_law (wsV RL 58 RX6 yX6_undo wsX6_undo) := goodIn_app (goodIn_of _ (by decide +kernel)) ggL_law_X6_undo
set_option maxRecDepth 20000 in
theorem ggL_law_X7_undo : GoodIn wsL_law wsX7_undo := goodIn_r _ [592, 79, 505, 506, 507, 5, 508, 82, 1040, 1041, 1042, 1043, 1044, 1045, 1046, 1047, 1048, 1049, 1050, 1051, 1052, 1053, 1054, 1055, 1056, 1057, 1058, 1059, 1060, 1061, 1062, 1063, 1064] (by decide +kernel) (by decide +kernel)
set_option maxRecDepth 20000 in
theorem gL_law_X7_undo : GoodIn wsL_law (wsV RL 61 RX7 yX7_undo wsX7_undo) := goodIn_app (goodIn_of _ (by decide +kernel)) ggL_law_X7_undo
set_option maxRecDepth 20000 in
theorem ggL_law_X6_of : GoodIn wsL_law wsX6_of := goodIn_r _ [596, 15, 597, 598, 551, 599, 170, 171, 172, 2, 173, 105, 126, 127, 128, 129, 130, 131, 132, 29, 600, 601, 602, 14, 603, 111, 46, 45, 1028, 1029, 1030, 1031, 1032, 1033, 1034, 1035, 1036, 1037, 1038, 1039, 1065, 1066, 1067, 1068, 1069, 1070, 1071, 1072, 1073, 1074, 1075, 1076, 1077, 1078, 1079] (by decide +kernel) (by decide +kernel)
set_option maxRecDepth 20000 in
theorem gL_law_X6_of : GoodIn wsL_law (wsV RL 62 RX6 yX6_of wsX6_of) := goodIn_app (goodIn_of _ (by decide +kernel)) ggL_law_X6_of
set_option maxRecDepth 20000 in
theorem ggL_law_X7_of : GoodIn wsL_law wsX7_of := goodIn_r _ [607, 608, 79, 186, 187, 188, 5, 189, 118, 119, 120, 121, 147, 148, 149, 154, 155, 156, 157, 82, 609, 610, 611, 612, 190, 191, 192, 193, 1040, 1041, 1042, 1043, 1044, 1045, 1046, 1047, 1048, 1049, 1050, 1051, 1052, 1053, 1054, 1055, 1056, 1057, 1058, 1059, 1060, 1061, 1062, 1063, 1064] (by decide +kernel) (by decide +kernel)
set_option maxRecDepth 20000 in
theorem gL_law_X7_of : GoodIn wsL_law (wsV RL 65 RX7 yX7_of wsX7_of) := goodIn_app (goodIn_of _ (by decide +kernel)) ggL_law_X7_of
set_option maxRecDepth 20000 in
theorem ggL_law_X6_about : GoodIn wsL_law wsX6_about := goodIn_r _ [616, 15, 617, 618, 517, 467, 466, 468, 469, 470, 2, 471, 169, 126, 127, 128, 129, 130, 131, 132, 29, 1028, 1029, 1030, 1031, 1032, 1033, 1034, 1035, 1036, 1037, 1038, 1039, 1065, 1066, 1067, 1068, 1069, 1070, 1071, 1072, 1073, 1074, 1075, 1076, 1077, 1078, 1079] (by decide +kernel) (by decide +kernel)
set_option maxRecDepth 20000 in
theorem gL_law_X6_about : GoodIn wsL_law (wsV RL 66 RX6 yX6_about wsX6_about) := goodIn_app (goodIn_of _ (by decide +kernel)) ggL_law_X6_about
set_option maxRecDepth 20000 in
theorem ggL_law_X7_about : GoodIn wsL_law wsX7_about := goodIn_r _ [622, 623, 79, 501, 502, 503, 5, 504, 190, 191, 192, 193, 147, 148, 149, 154, 155, 156, 157, 82, 1040, 1041, 1042, 1043, 1044, 1045, 1046, 1047, 1048, 1049, 1050, 1051, 1052, 1053, 1054, 1055, 1056, 1057, 1058, 1059, 1060, 1061, 1062, 1063, 1064] (by decide +kernel) (by decide +kernel)
set_option maxRecDepth 20000 in
theorem gL_law_X7_about : GoodIn wsL_law (wsV RL 69 RX7 yX7_about wsX7_about) := goodIn_app (goodIn_of _ (by decide +kernel)) ggL_law_X7_about
set_option maxRecDepth 20000 in
theorem ggL_law_X6_shows : GoodIn wsL_law wsX6_shows := goodIn_r _ [627, 15, 560, 170, 171, 172, 2, 173, 105, 126, 127, 128, 129, 130, 131, 132, 29, 628, 527, 528, 14, 529, 38, 41, 40, 346, 347, 348, 349, 1028, 1029, 1030, 1031, 1032, 1033, 1034, 1035, 1036, 1037, 1038, 1039, 1065, 1066, 1067, 1068, 1069, 1070, 1071, 1072, 1073, 1074, 1075, 1076, 1077, 1078, 1079] (by decide +kernel) (by decide +kernel)
set_option maxRecDepth 20000 in
theorem gL_law_X6_shows : GoodIn wsL_law (wsV RL 70 RX6 yX6_shows wsX6_shows) := goodIn_app (goodIn_of _ (by decide +kernel)) ggL_law_X6_shows
set_option maxRecDepth 20000 in
theorem ggL_law_X7_shows : GoodIn wsL_law wsX7_shows := goodIn_r _ [632, 79, 186, 187, 188, 5, 189, 118, 119, 120, 121, 147, 148, 149, 182, 183, 184, 185, 154, 155, 156, 157, 82, 436, 437, 438, 439, 84, 452, 453, 454, 455, 456, 457, 458, 1040, 1041, 1042, 1043, 1044, 1045, 1046, 1047, 1048, 1049, 1050, 1051, 1052, 1053, 1054, 1055, 1056, 1057, 1058, 1059, 1060, 1061, 1062, 1063, 1064] (by decide +kernel) (by decide +kernel)
set_option maxRecDepth 20000 in
theorem gL_law_X7_shows : GoodIn wsL_law (wsV RL 73 RX7 yX7_shows wsX7_shows) := goodIn_app (goodIn_of _ (by decide +kernel)) ggL_law_X7_shows
set_option maxRecDepth 20000 in
theorem ggL_law_X6_comes : GoodIn wsL_law wsX6_comes := goodIn_r _ [636, 15, 467, 468, 469, 470, 2, 471, 169, 126, 127, 128, 129, 130, 131, 132, 29, 637, 638, 639, 14, 640, 42, 43, 112, 334, 335, 336, 337, 110, 338, 339, 340, 341, 38, 41, 40, 39, 342, 343, 344, 345, 346, 347, 348, 349, 350, 351, 352, 353, 354, 355, 356, 1028, 1029, 1030, 1031, 1032, 1033, 1034, 1035, 1036, 1037, 1038, 1039, 1065, 1066, 1067, 1068, 1069, 1070, 1071, 1072, 1073, 1074, 1075, 1076, 1077, 1078, 1079] (by decide +kernel) (by decide +kernel)
set_option maxRecDepth 20000 in
theorem gL_law_X6_comes : GoodIn wsL_law (wsV RL 74 RX6 yX6_comes wsX6_comes) := goodIn_app (goodIn_of _ (by decide +kernel)) ggL_law_X6_comes
set_option maxRecDepth 20000 in
theorem ggL_law_X7_comes : GoodIn wsL_law wsX7_comes := goodIn_r _ [644, 79, 501, 502, 503, 5, 504, 190, 191, 192, 193, 147, 148, 149, 154, 155, 156, 157, 82, 436, 437, 438, 439, 84, 645, 646, 647, 648, 440, 441, 442, 443, 444, 445, 446, 447, 448, 449, 450, 451, 452, 453, 454, 455, 456, 457, 458, 459, 460, 461, 1040, 1041, 1042, 1043, 1044, 1045, 1046, 1047, 1048, 1049, 1050, 1051, 1052, 1053, 1054, 1055, 1056, 1057, 1058, 1059, 1060, 1061, 1062, 1063, 1064] (by decide +kernel) (by decide +kernel)
set_option maxRecDepth 20000 in
theorem gL_law_X7_comes : GoodIn wsL_law (wsV RL 77 RX7 yX7_comes wsX7_comes) := goodIn_app (goodIn_of _ (by decide +kernel)) ggL_law_X7_comes
set_option maxRecDepth 20000 in
theorem ggL_law_X6_chain : GoodIn wsL_law wsX6_chain := goodIn_r _ [652, 15, 467, 468, 469, 470, 2, 471, 169, 126, 127, 128, 129, 130, 131, 132, 29, 637, 638, 639, 14, 640, 42, 43, 112, 334, 335, 336, 337, 110, 338, 339, 340, 341, 38, 41, 40, 39, 342, 343, 344, 345, 346, 347, 348, 349, 350, 351, 352, 353, 354, 355, 356, 1028, 1029, 1030, 1031, 1032, 1033, 1034, 1035, 1036, 1037, 1038, 1039, 1065, 1066, 1067, 1068, 1069, 1070, 1071, 1072, 1073, 1074, 1075, 1076, 1077, 1078, 1079] (by decide +kernel) (by decide +kernel)
set_option maxRecDepth 20000 in
theorem gL_law_X6_chain : GoodIn wsL_law (wsV RL 78 RX6 yX6_chain wsX6_chain) := goodIn_app (goodIn_of _ (by decide +kernel)) ggL_law_X6_chain
set_option maxRecDepth 20000 in
theorem ggL_law_X7_chain : GoodIn wsL_law wsX7_chain := goodIn_r _ [656, 657, 79, 501, 502, 503, 5, 504, 190, 191, 192, 193, 147, 148, 149, 154, 155, 156, 157, 82, 436, 437, 438, 439, 84, 645, 646, 647, 648, 440, 441, 442, 443, 444, 445, 446, 447, 448, 449, 450, 451, 452, 453, 454, 455, 456, 457, 458, 459, 460, 461, 1040, 1041, 1042, 1043, 1044, 1045, 1046, 1047, 1048, 1049, 1050, 1051, 1052, 1053, 1054, 1055, 1056, 1057, 1058, 1059, 1060, 1061, 1062, 1063, 1064] (by decide +kernel) (by decide +kernel)
set_option maxRecDepth 20000 in
theorem gL_law_X7_chain : GoodIn wsL_law (wsV RL 81 RX7 yX7_chain wsX7_chain) := goodIn_app (goodIn_of _ (by decide +kernel)) ggL_law_X7_chain
set_option maxRecDepth 20000 in
theorem ggL_law_X6_ring : GoodIn wsL_law wsX6_ring := goodIn_r _ [661, 15, 467, 31, 468, 469, 470, 2, 471, 169, 126, 127, 128, 129, 130, 131, 132, 29, 637, 638, 639, 14, 640, 42, 43, 112, 334, 335, 336, 337, 110, 338, 339, 340, 341, 38, 41, 40, 39, 342, 343, 344, 345, 346, 347, 348, 349, 350, 351, 352, 353, 354, 355, 356, 662, 663, 664, 1028, 1029, 1030, 1031, 1032, 1033, 1034, 1035, 1036, 1037, 1038, 1039, 1065, 1066, 1067, 1068, 1069, 1070, 1071, 1072, 1073, 1074, 1075, 1076, 1077, 1078, 1079] (by decide +kernel) (by decide +kernel)
set_option maxRecDepth 20000 in
theorem gL_law_X6_ring : GoodIn wsL_law (wsV RL 82 RX6 yX6_ring wsX6_ring) := goodIn_app (goodIn_of _ (by decide +kernel)) ggL_law_X6_ring
set_option maxRecDepth 20000 in
theorem ggL_law_X7_ring : GoodIn wsL_law wsX7_ring := goodIn_r _ [668, 79, 85, 501, 502, 503, 5, 504, 190, 191, 192, 193, 147, 148, 149, 154, 155, 156, 157, 82, 436, 437, 438, 439, 84, 118, 119, 120, 121, 645, 646, 647, 648, 440, 441, 442, 443, 444, 445, 446, 447, 448, 449, 450, 451, 452, 453, 454, 455, 456, 457, 458, 459, 460, 461, 1040, 1041, 1042, 1043, 1044, 1045, 1046, 1047, 1048, 1049, 1050, 1051, 1052, 1053, 1054, 1055, 1056, 1057, 1058, 1059, 1060, 1061, 1062, 1063, 1064] (by decide +kernel) (by decide +kernel)
set_option maxRecDepth 20000 in
theorem gL_law_X7_ring : GoodIn wsL_law (wsV RL 85 RX7 yX7_ring wsX7_ring) := goodIn_app (goodIn_of _ (by decide +kernel)) ggL_law_X7_ring
set_option maxRecDepth 20000 in
theorem ggL_law_X6_send : GoodIn wsL_law wsX6_send := goodIn_r _ [672, 27, 15, 673, 468, 469, 470, 2, 471, 169, 126, 127, 128, 170, 171, 172, 173, 105, 129, 130, 131, 132, 29, 674, 675, 676, 26, 677, 678, 71, 679, 680, 681, 682, 683, 684, 72, 685, 686, 687, 688, 689, 690, 691, 692, 693, 73, 74, 694, 695, 696, 697, 698, 344, 699, 700, 335, 336, 14, 337, 110, 338, 339, 340, 341, 38, 41, 40, 39, 342, 343, 345, 346, 347, 348, 349, 350, 351, 352, 353, 354, 355, 356, 701, 702, 703, 704, 705, 367, 368, 369, 1028, 1029, 1030, 1031, 1032, 1033, 1034, 1035, 1036, 1037, 1038, 1039, 1086, 1087, 1088, 1089, 1090, 1065, 1066, 1067, 1068, 1069, 1070, 1071, 1072, 1073, 1074, 1075, 1076, 1077, 1078, 1079] (by decide +kernel) (by decide +kernel)
set_option maxRecDepth 20000 in
theorem gL_law_X6_send : GoodIn wsL_law (wsV RL 86 RX6 yX6_send wsX6_send) := goodIn_app (goodIn_of _ (by decide +kernel)) ggL_law_X6_send
set_option maxRecDepth 20000 in
theorem ggL_law_X7_send : GoodIn wsL_law wsX7_send := goodIn_r _ [709, 79, 86, 444, 501, 502, 503, 5, 504, 190, 191, 192, 193, 147, 148, 149, 186, 187, 188, 189, 118, 119, 120, 121, 154, 155, 156, 157, 82, 436, 437, 438, 439, 84, 710, 711, 712, 713, 714, 715, 716, 717, 87, 440, 441, 442, 443, 445, 446, 447, 448, 449, 450, 451, 452, 453, 454, 455, 456, 457, 458, 459, 460, 461, 718, 719, 720, 721, 1040, 1041, 1042, 1043, 1044, 1045, 1046, 1047, 1048, 1049, 1050, 1051, 1052, 1053, 1054, 1055, 1056, 1057, 1058, 1059, 1060, 1061, 1062, 1063, 1064] (by decide +kernel) (by decide +kernel)
set_option maxRecDepth 20000 in
theorem gL_law_X7_send : GoodIn wsL_law (wsV RL 89 RX7 yX7_send wsX7_send) := goodIn_app (goodIn_of _ (by decide +kernel)) ggL_law_X7_send
set_option maxRecDepth 20000 in
theorem ggL_law_X6_wears : GoodIn wsL_law wsX6_wears := goodIn_r _ [725, 15, 467, 16, 551, 170, 171, 172, 2, 173, 105, 126, 127, 128, 468, 469, 470, 471, 169, 129, 130, 131, 132, 29, 357, 358, 359, 14, 360, 38, 39, 40, 41, 42, 43, 44, 45, 46, 50, 51, 52, 110, 111, 112, 361, 362, 363, 364, 344, 365, 366, 367, 368, 369, 370, 371, 372, 49, 373, 60, 59, 637, 638, 639, 640, 334, 335, 336, 337, 338, 339, 340, 341, 342, 343, 345, 346, 347, 348, 349, 350, 351, 352, 353, 354, 355, 356, 1028, 1029, 1030, 1031, 1032, 1033, 1034, 1035, 1036, 1037, 1038, 1039, 1065, 1066, 1067, 1068, 1069, 1070, 1071, 1072, 1073, 1074, 1075, 1076, 1077, 1078, 1079, 1091, 1092, 1093, 1094] (by decide +kernel) (by decide +kernel)
set_option maxRecDepth 20000 in
theorem gL_law_X6_wears : GoodIn wsL_law (wsV RL 90 RX6 yX6_wears wsX6_wears) := goodIn_app (goodIn_of _ (by decide +kernel)) ggL_law_X6_wears
set_option maxRecDepth 20000 in
theorem ggL_law_X7_wears : GoodIn wsL_law wsX7_wears := goodIn_r _ [729, 79, 84, 186, 187, 188, 5, 189, 118, 119, 120, 121, 147, 148, 149, 501, 502, 503, 504, 190, 191, 192, 193, 154, 155, 156, 157, 82, 436, 437, 438, 439, 645, 646, 647, 648, 440, 441, 442, 443, 444, 445, 446, 447, 448, 449, 450, 451, 452, 453, 454, 455, 456, 457, 458, 459, 460, 461, 1040, 1041, 1042, 1043, 1044, 1045, 1046, 1047, 1048, 1049, 1050, 1051, 1052, 1053, 1054, 1055, 1056, 1057, 1058, 1059, 1060, 1061, 1062, 1063, 1064] (by decide +kernel) (by decide +kernel)
set_option maxRecDepth 20000 in
theorem gL_law_X7_wears : GoodIn wsL_law (wsV RL 93 RX7 yX7_wears wsX7_wears) := goodIn_app (goodIn_of _ (by decide +kernel)) ggL_law_X7_wears
set_option maxRecDepth 20000 in
theorem ggL_law_X6_costs : GoodIn wsL_law wsX6_costs := goodIn_r _ [733, 15, 169, 518, 519, 520, 14, 521, 46, 45, 44, 522, 523, 524, 525, 38, 43, 112, 526, 527, 528, 529, 41, 40, 346, 347, 348, 349, 530, 531, 532, 533, 534, 344, 535, 1028, 1029, 1030, 1031, 1032, 1033, 1034, 1035, 1036, 1037, 1038, 1039, 1065, 1066, 1067, 1068, 1069, 1070, 1071, 1072, 1073, 1074, 1075, 1076, 1077, 1078, 1079] (by decide +kernel) (by decide +kernel)
set_option maxRecDepth 20000 in
theorem gL_law_X6_costs : GoodIn wsL_law (wsV RL 94 RX6 yX6_costs wsX6_costs) := goodIn_app (goodIn_of _ (by decide +kernel)) ggL_law_X6_costs
set_option maxRecDepth 20000 in
theorem ggL_law_X7_costs : GoodIn wsL_law wsX7_costs := goodIn_r _ [737, 88, 738, 739, 740, 5, 741, 79, 436, 437, 438, 439, 84, 190, 191, 192, 193, 540, 541, 542, 543, 452, 453, 454, 455, 456, 457, 458, 544, 545, 546, 1040, 1041, 1042, 1043, 1044, 1045, 1046, 1047, 1048, 1049, 1050, 1051, 1052, 1053, 1054, 1055, 1056, 1057, 1058, 1059, 1060, 1061, 1062, 1063, 1064] (by decide +kernel) (by decide +kernel)
set_option maxRecDepth 20000 in
theorem gL_law_X7_costs : GoodIn wsL_law (wsV RL 97 RX7 yX7_costs wsX7_costs) := goodIn_app (goodIn_of _ (by decide +kernel)) ggL_law_X7_costs
set_option maxRecDepth 20000 in
theorem ggL_law_X6_few : GoodIn wsL_law wsX6_few := goodIn_r _ [745, 31, 126, 127, 2, 128, 129, 130, 131, 132, 29, 746, 747, 748, 749, 15, 169, 518, 519, 520, 14, 521, 46, 45, 44, 522, 523, 524, 525, 38, 43, 112, 526, 527, 528, 529, 41, 40, 346, 347, 348, 349, 530, 531, 532, 533, 534, 344, 535, 1028, 1029, 1030, 1031, 1032, 1033, 1034, 1035, 1036, 1037, 1038, 1039, 1065, 1066, 1067, 1068, 1069, 1070, 1071, 1072, 1073, 1074, 1075, 1076, 1077, 1078, 1079] (by decide +kernel) (by decide +kernel)
set_option maxRecDepth 20000 in
theorem gL_law_X6_few : GoodIn wsL_law (wsV RL 98 RX6 yX6_few wsX6_few) := goodIn_app (goodIn_of _ (by decide +kernel)) ggL_law_X6_few
set_option maxRecDepth 20000 in
theorem ggL_law_X7_few : GoodIn wsL_law wsX7_few := goodIn_r _ [753, 754, 88, 147, 148, 5, 149, 154, 155, 156, 157, 82, 738, 739, 740, 741, 79, 436, 437, 438, 439, 84, 190, 191, 192, 193, 540, 541, 542, 543, 452, 453, 454, 455, 456, 457, 458, 544, 545, 546, 755, 756, 757, 758, 759, 760, 1040, 1041, 1042, 1043, 1044, 1045, 1046, 1047, 1048, 1049, 1050, 1051, 1052, 1053, 1054, 1055, 1056, 1057, 1058, 1059, 1060, 1061, 1062, 1063, 1064] (by decide +kernel) (by decide +kernel)
set_option maxRecDepth 20000 in
theorem gL_law_X7_few : GoodIn wsL_law (wsV RL 101 RX7 yX7_few wsX7_few) := goodIn_app (goodIn_of _ (by decide +kernel)) ggL_law_X7_few
set_option maxRecDepth 20000 in
theorem ggL_law_X6_loser : GoodIn wsL_law wsX6_loser := goodIn_r _ [764, 15, 105, 468, 469, 470, 2, 471, 169, 126, 127, 128, 170, 171, 172, 173, 129, 130, 131, 132, 29, 637, 638, 639, 14, 640, 42, 43, 112, 334, 335, 336, 337, 110, 338, 339, 340, 341, 38, 41, 40, 39, 342, 343, 344, 345, 346, 347, 348, 349, 350, 351, 352, 353, 354, 355, 356, 1028, 1029, 1030, 1031, 1032, 1033, 1034, 1035, 1036, 1037, 1038, 1039, 1065, 1066, 1067, 1068, 1069, 1070, 1071, 1072, 1073, 1074, 1075, 1076, 1077, 1078, 1079] (by decide +kernel) (by decide +kernel)
set_option maxRecDepth 20000 in
theorem gL_law_X6_loser : GoodIn wsL_law (wsV RL 102 RX6 yX6_loser wsX6_loser) := goodIn_app (goodIn_of _ (by decide +kernel)) ggL_law_X6_loser
set_option maxRecDepth 20000 in
theorem ggL_law_X7_loser : GoodIn wsL_law wsX7_loser := goodIn_r _ [768, 79, 501, 502, 503, 5, 504, 190, 191, 192, 193, 147, 148, 149, 186, 187, 188, 189, 118, 119, 120, 121, 154, 155, 156, 157, 82, 436, 437, 438, 439, 84, 645, 646, 647, 648, 440, 441, 442, 443, 444, 445, 446, 447, 448, 449, 450, 451, 452, 453, 454, 455, 456, 457, 458, 459, 460, 461, 1040, 1041, 1042, 1043, 1044, 1045, 1046, 1047, 1048, 1049, 1050, 1051, 1052, 1053, 1054, 1055, 1056, 1057, 1058, 1059, 1060, 1061, 1062, 1063, 1064] (by decide +kernel) (by decide +kernel)
set_option maxRecDepth 20000 in
theorem gL_law_X7_loser : GoodIn wsL_law (wsV RL 105 RX7 yX7_loser wsX7_loser) := goodIn_app (goodIn_of _ (by decide +kernel)) ggL_law_X7_loser
set_option maxRecDepth 20000 in
theorem ggL_law_X6_note : GoodIn wsL_law wsX6_note := goodIn_r _ [772, 15, 773, 580, 170, 171, 172, 2, 173, 105, 126, 127, 128, 129, 130, 131, 132, 29, 774, 481, 482, 49, 483, 60, 58, 133, 134, 135, 136, 775, 490, 491, 492, 776, 494, 495, 496, 57, 59, 1028, 1029, 1030, 1031, 1032, 1033, 1034, 1035, 1036, 1037, 1038, 1039, 1065, 1066, 1067, 1068, 1069, 1070, 1071, 1072, 1073, 1074, 1075, 1076, 1077, 1078, 1079, 1091, 1092, 1093, 1094] (by decide +kernel) (by decide +kernel)
set_option maxRecDepth 20000 in
theorem gL_law_X6_note : GoodIn wsL_law (wsV RL 106 RX6 yX6_note wsX6_note) := goodIn_app (goodIn_of _ (by decide +kernel)) ggL_law_X6_note
set_option maxRecDepth 20000 in
theorem ggL_law_X7_note : GoodIn wsL_law wsX7_note := goodIn_r _ [780, 570, 781, 79, 186, 187, 188, 5, 189, 118, 119, 120, 121, 147, 148, 149, 150, 151, 152, 153, 182, 183, 184, 185, 154, 155, 156, 157, 82, 158, 159, 160, 161, 1040, 1041, 1042, 1043, 1044, 1045, 1046, 1047, 1048, 1049, 1050, 1051, 1052, 1053, 1054, 1055, 1056, 1057, 1058, 1059, 1060, 1061, 1062, 1063, 1064] (by decide +kernel) (by decide +kernel)
set_option maxRecDepth 20000 in
theorem gL_law_X7_note : GoodIn wsL_law (wsV RL 109 RX7 yX7_note wsX7_note) := goodIn_app (goodIn_of _ (by decide +kernel)) ggL_law_X7_note
set_option maxRecDepth 20000 in
theorem ggL_law_X6_came : GoodIn wsL_law wsX6_came := goodIn_r _ [785, 15, 786, 580, 468, 469, 470, 2, 471, 169, 126, 127, 128, 170, 171, 172, 173, 105, 129, 130, 131, 132, 29, 774, 481, 482, 49, 483, 60, 58, 133, 134, 135, 136, 775, 490, 491, 492, 776, 494, 495, 496, 57, 59, 1028, 1029, 1030, 1031, 1032, 1033, 1034, 1035, 1036, 1037, 1038, 1039, 1065, 1066, 1067, 1068, 1069, 1070, 1071, 1072, 1073, 1074, 1075, 1076, 1077, 1078, 1079, 1091, 1092, 1093, 1094] (by decide +kernel) (by decide +kernel)
set_option maxRecDepth 20000 in
theorem gL_law_X6_came : GoodIn wsL_law (wsV RL 110 RX6 yX6_came wsX6_came) := goodIn_app (goodIn_of _ (by decide +kernel)) ggL_law_X6_came
set_option maxRecDepth 20000 in
theorem ggL_law_X7_came : GoodIn wsL_law wsX7_came := goodIn_r _ [790, 570, 791, 79, 501, 502, 503, 5, 504, 190, 191, 192, 193, 147, 148, 149, 186, 187, 188, 189, 118, 119, 120, 121, 154, 155, 156, 157, 82, 158, 159, 160, 161, 1040, 1041, 1042, 1043, 1044, 1045, 1046, 1047, 1048, 1049, 1050, 1051, 1052, 1053, 1054, 1055, 1056, 1057, 1058, 1059, 1060, 1061, 1062, 1063, 1064] (by decide +kernel) (by decide +kernel)
set_option maxRecDepth 20000 in
theorem gL_law_X7_came : GoodIn wsL_law (wsV RL 114 RX7 yX7_came wsX7_came) := goodIn_app (goodIn_of _ (by decide +kernel)) ggL_law_X7_came
set_option maxRecDepth 20000 in
theorem ggL_law_X6_forget : GoodIn wsL_law wsX6_forget := goodIn_r _ [795, 15, 773, 786, 580, 126, 127, 2, 128, 129, 130, 131, 132, 29, 1028, 1029, 1030, 1031, 1032, 1033, 1034, 1035, 1036, 1037, 1038, 1039, 1065, 1066, 1067, 1068, 1069, 1070, 1071, 1072, 1073, 1074, 1075, 1076, 1077, 1078, 1079, 1091, 1092, 1093, 1094] (by decide +kernel) (by decide +kernel)
set_option maxRecDepth 20000 in
theorem gL_law_X6_forget : GoodIn wsL_law (wsV RL 115 RX6 yX6_forget wsX6_forget) := goodIn_app (goodIn_of _ (by decide +kernel)) ggL_law_X6_forget
set_option maxRecDepth 20000 in
theorem ggL_law_X7_forget : GoodIn wsL_law wsX7_forget := goodIn_r _ [799, 79, 147, 148, 5, 149, 154, 155, 156, 157, 82, 1040, 1041, 1042, 1043, 1044, 1045, 1046, 1047, 1048, 1049, 1050, 1051, 1052, 1053, 1054, 1055, 1056, 1057, 1058, 1059, 1060, 1061, 1062, 1063, 1064] (by decide +kernel) (by decide +kernel)
set_option maxRecDepth 20000 in
theorem gL_law_X7_forget : GoodIn wsL_law (wsV RL 118 RX7 yX7_forget wsX7_forget) := goodIn_app (goodIn_of _ (by decide +kernel)) ggL_law_X7_forget
set_option maxRecDepth 20000 in
theorem ggL_law_X6_is : GoodIn wsL_law wsX6_is := goodIn_r _ [803, 15, 170, 171, 172, 2, 173, 105, 126, 127, 128, 129, 130, 131, 132, 29, 804, 805, 806, 14, 807, 808, 809, 810, 811, 50, 113, 585, 586, 587, 49, 588, 57, 59, 346, 347, 348, 349, 1028, 1029, 1030, 1031, 1032, 1033, 1034, 1035, 1036, 1037, 1038, 1039, 1065, 1066, 1067, 1068, 1069, 1070, 1071, 1072, 1073, 1074, 1075, 1076, 1077, 1078, 1079, 1091, 1092, 1093, 1094] (by decide +kernel) (by decide +kernel)
set_option maxRecDepth 20000 in
theorem gL_law_X6_is : GoodIn wsL_law (wsV RL 119 RX6 yX6_is wsX6_is) := goodIn_app (goodIn_of _ (by decide +kernel)) ggL_law_X6_is
set_option maxRecDepth 20000 in
theorem ggL_law_X7_is : GoodIn wsL_law wsX7_is := goodIn_r _ [815, 186, 187, 188, 5, 189, 118, 119, 120, 121, 79, 147, 148, 149, 816, 817, 818, 819, 456, 457, 458, 154, 155, 156, 157, 82, 1040, 1041, 1042, 1043, 1044, 1045, 1046, 1047, 1048, 1049, 1050, 1051, 1052, 1053, 1054, 1055, 1056, 1057, 1058, 1059, 1060, 1061, 1062, 1063, 1064] (by decide +kernel) (by decide +kernel)
set_option maxRecDepth 20000 in
theorem gL_law_X7_is : GoodIn wsL_law (wsV RL 122 RX7 yX7_is wsX7_is) := goodIn_app (goodIn_of _ (by decide +kernel)) ggL_law_X7_is
set_option maxRecDepth 20000 in
theorem ggL_law_X6_watch : GoodIn wsL_law wsX6_watch := goodIn_r _ [823, 15, 30, 599, 551, 170, 171, 172, 2, 173, 105, 126, 127, 128, 129, 130, 131, 132, 29, 804, 805, 806, 14, 807, 808, 809, 810, 811, 50, 113, 585, 586, 587, 49, 588, 57, 59, 346, 347, 348, 349, 824, 825, 826, 827, 1028, 1029, 1030, 1031, 1032, 1033, 1034, 1035, 1036, 1037, 1038, 1039, 1065, 1066, 1067, 1068, 1069, 1070, 1071, 1072, 1073, 1074, 1075, 1076, 1077, 1078, 1079, 1091, 1092, 1093, 1094] (by decide +kernel) (by decide +kernel)
set_option maxRecDepth 20000 in
theorem gL_law_X6_watch : GoodIn wsL_law (wsV RL 123 RX6 yX6_watch wsX6_watch) := goodIn_app (goodIn_of _ (by decide +kernel)) ggL_law_X6_watch
set_option maxRecDepth 20000 in
theorem ggL_law_X7_watch : GoodIn wsL_law wsX7_watch := goodIn_r _ [831, 444, 79, 186, 187, 188, 5, 189, 118, 119, 120, 121, 147, 148, 149, 154, 155, 156, 157, 82, 816, 817, 818, 819, 456, 457, 458, 755, 756, 757, 1040, 1041, 1042, 1043, 1044, 1045, 1046, 1047, 1048, 1049, 1050, 1051, 1052, 1053, 1054, 1055, 1056, 1057, 1058, 1059, 1060, 1061, 1062, 1063, 1064] (by decide +kernel) (by decide +kernel)
set_option maxRecDepth 20000 in
theorem gL_law_X7_watch : GoodIn wsL_law (wsV RL 126 RX7 yX7_watch wsX7_watch) := goodIn_app (goodIn_of _ (by decide +kernel)) ggL_law_X7_watch
set_option maxRecDepth 20000 in
theorem ggL_law_X6_kinds : GoodIn wsL_law wsX6_kinds := goodIn_r _ [835, 15, 468, 469, 470, 2, 471, 169, 126, 127, 128, 129, 130, 131, 132, 29, 836, 837, 838, 14, 839, 840, 841, 842, 843, 51, 113, 43, 585, 586, 587, 49, 588, 57, 59, 334, 335, 336, 337, 110, 338, 339, 340, 341, 38, 41, 40, 39, 342, 343, 344, 345, 346, 347, 348, 349, 350, 351, 352, 353, 354, 355, 356, 1028, 1029, 1030, 1031, 1032, 1033, 1034, 1035, 1036, 1037, 1038, 1039, 1065, 1066, 1067, 1068, 1069, 1070, 1071, 1072, 1073, 1074, 1075, 1076, 1077, 1078, 1079, 1091, 1092, 1093, 1094] (by decide +kernel) (by decide +kernel)
set_option maxRecDepth 20000 in
theorem gL_law_X6_kinds : GoodIn wsL_law (wsV RL 127 RX6 yX6_kinds wsX6_kinds) := goodIn_app (goodIn_of _ (by decide +kernel)) ggL_law_X6_kinds
set_option maxRecDepth 20000 in
theorem ggL_law_X7_kinds : GoodIn wsL_law wsX7_kinds := goodIn_r _ [847, 501, 502, 503, 5, 504, 190, 191, 192, 193, 79, 147, 148, 149, 848, 849, 850, 851, 436, 437, 438, 439, 84, 440, 441, 442, 443, 444, 445, 446, 447, 448, 449, 450, 451, 452, 453, 454, 455, 456, 457, 458, 459, 460, 461, 154, 155, 156, 157, 82, 1040, 1041, 1042, 1043, 1044, 1045, 1046, 1047, 1048, 1049, 1050, 1051, 1052, 1053, 1054, 1055, 1056, 1057, 1058, 1059, 1060, 1061, 1062, 1063, 1064] (by decide +kernel) (by decide +kernel)
set_option maxRecDepth 20000 in
theorem gL_law_X7_kinds : GoodIn wsL_law (wsV RL 130 RX7 yX7_kinds wsX7_kinds) := goodIn_app (goodIn_of _ (by decide +kernel)) ggL_law_X7_kinds
set_option maxRecDepth 20000 in
theorem ggL_law_X6_by : GoodIn wsL_law wsX6_by := goodIn_r _ [855, 15, 105, 30, 618, 560, 468, 469, 470, 2, 471, 169, 126, 127, 128, 129, 130, 131, 132, 29, 836, 837, 838, 14, 839, 840, 841, 842, 843, 51, 113, 43, 585, 586, 587, 49, 588, 57, 59, 334, 335, 336, 337, 110, 338, 339, 340, 341, 38, 41, 40, 39, 342, 343, 344, 345, 346, 347, 348, 349, 350, 351, 352, 353, 354, 355, 356, 856, 825, 826, 827, 1028, 1029, 1030, 1031, 1032, 1033, 1034, 1035, 1036, 1037, 1038, 1039, 1065, 1066, 1067, 1068, 1069, 1070, 1071, 1072, 1073, 1074, 1075, 1076, 1077, 1078, 1079, 1091, 1092, 1093, 1094] (by decide +kernel) (by decide +kernel)
set_option maxRecDepth 20000 in
theorem gL_law_X6_by : GoodIn wsL_law (wsV RL 131 RX6 yX6_by wsX6_by) := goodIn_app (goodIn_of _ (by decide +kernel)) ggL_law_X6_by
set_option maxRecDepth 20000 in
theorem ggL_law_X7_by : GoodIn wsL_law wsX7_by := goodIn_r _ [860, 444, 89, 79, 501, 502, 503, 5, 504, 190, 191, 192, 193, 147, 148, 149, 154, 155, 156, 157, 82, 848, 849, 850, 851, 436, 437, 438, 439, 84, 440, 441, 442, 443, 445, 446, 447, 448, 449, 450, 451, 452, 453, 454, 455, 456, 457, 458, 459, 460, 461, 118, 119, 120, 121, 755, 756, 757, 1040, 1041, 1042, 1043, 1044, 1045, 1046, 1047, 1048, 1049, 1050, 1051, 1052, 1053, 1054, 1055, 1056, 1057, 1058, 1059, 1060, 1061, 1062, 1063, 1064] (by decide +kernel) (by decide +kernel)
set_option maxRecDepth 20000 in
theorem gL_law_X7_by : GoodIn wsL_law (wsV RL 134 RX7 yX7_by wsX7_by) := goodIn_app (goodIn_of _ (by decide +kernel)) ggL_law_X7_by
set_option maxRecDepth 20000 in
theorem ggL_law_X6_coats : GoodIn wsL_law wsX6_coats := goodIn_r _ [864, 468, 469, 470, 2, 471, 15, 169, 126, 127, 128, 170, 171, 172, 173, 105, 129, 130, 131, 132, 29, 865, 866, 867, 868, 16, 551, 32, 467, 357, 358, 359, 14, 360, 38, 39, 40, 41, 42, 43, 44, 45, 46, 50, 51, 52, 110, 111, 112, 361, 362, 363, 364, 344, 365, 366, 367, 368, 369, 370, 371, 372, 49, 373, 60, 59, 637, 638, 639, 640, 334, 335, 336, 337, 338, 339, 340, 341, 342, 343, 345, 346, 347, 348, 349, 350, 351, 352, 353, 354, 355, 356, 869, 870, 871, 872, 873, 874, 875, 876, 1028, 1029, 1030, 1031, 1032, 1033, 1034, 1035, 1036, 1037, 1038, 1039, 1065, 1066, 1067, 1068, 1069, 1070, 1071, 1072, 1073, 1074, 1075, 1076, 1077, 1078, 1079, 1091, 1092, 1093, 1094] (by decide +kernel) (by decide +kernel)
set_option maxRecDepth 20000 in
theorem gL_law_X6_coats : GoodIn wsL_law (wsV RL 135 RX6 yX6_coats wsX6_coats) := goodIn_app (goodIn_of _ (by decide +kernel)) ggL_law_X6_coats
set_option maxRecDepth 20000 in
theorem ggL_law_X7_coats : GoodIn wsL_law wsX7_coats := goodIn_r _ [880, 501, 502, 503, 5, 504, 190, 191, 192, 193, 79, 147, 148, 149, 186, 187, 188, 189, 118, 119, 120, 121, 154, 155, 156, 157, 82, 881, 882, 883, 884, 84, 90, 91, 436, 437, 438, 439, 645, 646, 647, 648, 440, 441, 442, 443, 444, 445, 446, 447, 448, 449, 450, 451, 452, 453, 454, 455, 456, 457, 458, 459, 460, 461, 885, 886, 887, 888, 1040, 1041, 1042, 1043, 1044, 1045, 1046, 1047, 1048, 1049, 1050, 1051, 1052, 1053, 1054, 1055, 1056, 1057, 1058, 1059, 1060, 1061, 1062, 1063, 1064] (by decide +kernel) (by decide +kernel)
set_option maxRecDepth 20000 in
theorem gL_law_X7_coats : GoodIn wsL_law (wsV RL 138 RX7 yX7_coats wsX7_coats) := goodIn_app (goodIn_of _ (by decide +kernel)) ggL_law_X7_coats
set_option maxRecDepth 20000 in
theorem ggL_law_X6_odds : GoodIn wsL_law wsX6_odds := goodIn_r _ [892, 27, 15, 893, 33, 34, 468, 469, 470, 2, 471, 169, 126, 127, 128, 170, 171, 172, 173, 105, 129, 130, 131, 132, 29, 894, 895, 896, 26, 897, 680, 71, 681, 682, 683, 684, 72, 685, 686, 687, 688, 689, 898, 899, 900, 901, 73, 74, 694, 695, 696, 902, 700, 335, 336, 14, 337, 110, 338, 339, 340, 341, 38, 41, 40, 39, 342, 343, 344, 345, 346, 347, 348, 349, 350, 351, 352, 353, 354, 355, 356, 701, 702, 703, 704, 705, 367, 368, 369, 903, 904, 905, 1028, 1029, 1030, 1031, 1032, 1033, 1034, 1035, 1036, 1037, 1038, 1039, 1065, 1066, 1067, 1068, 1069, 1070, 1071, 1072, 1073, 1074, 1075, 1076, 1077, 1078, 1079, 1086, 1087, 1088, 1089, 1090] (by decide +kernel) (by decide +kernel)
set_option maxRecDepth 20000 in
theorem gL_law_X6_odds : GoodIn wsL_law (wsV RL 139 RX6 yX6_odds wsX6_odds) := goodIn_app (goodIn_of _ (by decide +kernel)) ggL_law_X6_odds
set_option maxRecDepth 20000 in
theorem ggL_law_X7_odds : GoodIn wsL_law wsX7_odds := goodIn_r _ [909, 608, 910, 79, 92, 501, 502, 503, 5, 504, 190, 191, 192, 193, 147, 148, 149, 186, 187, 188, 189, 118, 119, 120, 121, 154, 155, 156, 157, 82, 436, 437, 438, 439, 84, 911, 912, 913, 914, 93, 440, 441, 442, 443, 444, 445, 446, 447, 448, 449, 450, 451, 452, 453, 454, 455, 456, 457, 458, 459, 460, 461, 915, 916, 917, 918, 919, 83, 1040, 1041, 1042, 1043, 1044, 1045, 1046, 1047, 1048, 1049, 1050, 1051, 1052, 1053, 1054, 1055, 1056, 1057, 1058, 1059, 1060, 1061, 1062, 1063, 1064] (by decide +kernel) (by decide +kernel)
set_option maxRecDepth 20000 in
theorem gL_law_X7_odds : GoodIn wsL_law (wsV RL 142 RX7 yX7_odds wsX7_odds) := goodIn_app (goodIn_of _ (by decide +kernel)) ggL_law_X7_odds
set_option maxRecDepth 20000 in
theorem ggL_law_X6_years : GoodIn wsL_law wsX6_years := goodIn_r _ [923, 924, 16, 15, 925, 926, 927, 928, 929, 169, 466, 126, 127, 2, 128, 129, 130, 131, 132, 29, 357, 358, 359, 14, 360, 38, 39, 40, 41, 42, 43, 44, 45, 46, 50, 51, 52, 110, 111, 112, 361, 362, 363, 364, 344, 365, 366, 367, 368, 369, 370, 371, 372, 49, 373, 60, 59, 561, 331, 332, 333, 334, 335, 336, 337, 338, 339, 340, 341, 342, 343, 345, 346, 347, 348, 349, 350, 351, 352, 353, 354, 355, 356, 930, 931, 932, 933, 1028, 1029, 1030, 1031, 1032, 1033, 1034, 1035, 1036, 1037, 1038, 1039, 1065, 1066, 1067, 1068, 1069, 1070, 1071, 1072, 1073, 1074, 1075, 1076, 1077, 1078, 1079, 1091, 1092, 1093, 1094] (by decide +kernel) (by decide +kernel)
set_option maxRecDepth 20000 in
theorem gL_law_X6_years : GoodIn wsL_law (wsV RL 143 RX6 yX6_years wsX6_years) := goodIn_app (goodIn_of _ (by decide +kernel)) ggL_law_X6_years
set_option maxRecDepth 20000 in
theorem ggL_law_X7_years : GoodIn wsL_law wsX7_years := goodIn_r _ [937, 938, 939, 94, 79, 940, 941, 942, 943, 145, 147, 148, 5, 149, 154, 155, 156, 157, 82, 501, 502, 503, 504, 190, 191, 192, 193, 432, 433, 434, 435, 436, 437, 438, 439, 84, 440, 441, 442, 443, 444, 445, 446, 447, 448, 449, 450, 451, 452, 453, 454, 455, 456, 457, 458, 459, 460, 461, 944, 945, 946, 947, 1040, 1041, 1042, 1043, 1044, 1045, 1046, 1047, 1048, 1049, 1050, 1051, 1052, 1053, 1054, 1055, 1056, 1057, 1058, 1059, 1060, 1061, 1062, 1063, 1064] (by decide +kernel) (by decide +kernel)
set_option maxRecDepth 20000 in
theorem gL_law_X7_years : GoodIn wsL_law (wsV RL 146 RX7 yX7_years wsX7_years) := goodIn_app (goodIn_of _ (by decide +kernel)) ggL_law_X7_years
set_option maxRecDepth 20000 in
theorem ggL_law_X6_part : GoodIn wsL_law wsX6_part := goodIn_r _ [951, 33, 34, 126, 127, 2, 128, 129, 130, 131, 132, 29, 1028, 1029, 1030, 1031, 1032, 1033, 1034, 1035, 1036, 1037, 1038, 1039] (by decide +kernel) (by decide +kernel)
set_option maxRecDepth 20000 in
theorem gL_law_X6_part : GoodIn wsL_law (wsV RL 147 RX6 yX6_part wsX6_part) := goodIn_app (goodIn_of _ (by decide +kernel)) ggL_law_X6_part
set_option maxRecDepth 20000 in
theorem ggL_law_X7_part : GoodIn wsL_law wsX7_part := goodIn_r _ [955, 919, 83, 154, 155, 156, 5, 157, 82, 1040, 1041, 1042, 1043, 1044, 1045, 1046, 1047, 1048, 1049, 1050, 1051, 1052, 1053, 1054, 1055, 1056, 1057, 1058, 1059, 1060, 1061, 1062, 1063, 1064] (by decide +kernel) (by decide +kernel)
set_option maxRecDepth 20000 in
theorem gL_law_X7_part : GoodIn wsL_law (wsV RL 151 RX7 yX7_part wsX7_part) := goodIn_app (goodIn_of _ (by decide +kernel)) ggL_law_X7_part
set_option maxRecDepth 20000 in
theorem ggL_law_X6_image : GoodIn wsL_law wsX6_image := goodIn_r _ [959, 17, 15, 19, 126, 127, 2, 128, 129, 130, 131, 132, 29, 357, 358, 359, 14, 360, 38, 39, 40, 41, 42, 43, 44, 45, 46, 50, 51, 52, 110, 111, 112, 361, 362, 363, 364, 344, 365, 366, 367, 368, 369, 370, 371, 372, 49, 373, 60, 59, 1028, 1029, 1030, 1031, 1032, 1033, 1034, 1035, 1036, 1037, 1038, 1039, 1065, 1066, 1067, 1068, 1069, 1070, 1071, 1072, 1073, 1074, 1075, 1076, 1077, 1078, 1079, 1091, 1092, 1093, 1094] (by decide +kernel) (by decide +kernel)
set_option maxRecDepth 20000 in
theorem gL_law_X6_image : GoodIn wsL_law (wsV RL 152 RX6 yX6_image wsX6_image) := goodIn_app (goodIn_of _ (by decide +kernel)) ggL_law_X6_image
set_option maxRecDepth 20000 in
theorem ggL_law_X7_image : GoodIn wsL_law wsX7_image := goodIn_r _ [963, 80, 79, 81, 147, 148, 5, 149, 154, 155, 156, 157, 82, 1040, 1041, 1042, 1043, 1044, 1045, 1046, 1047, 1048, 1049, 1050, 1051, 1052, 1053, 1054, 1055, 1056, 1057, 1058, 1059, 1060, 1061, 1062, 1063, 1064] (by decide +kernel) (by decide +kernel)
set_option maxRecDepth 20000 in
theorem gL_law_X7_image : GoodIn wsL_law (wsV RL 155 RX7 yX7_image wsX7_image) := goodIn_app (goodIn_of _ (by decide +kernel)) ggL_law_X7_image
set_option maxRecDepth 20000 in
theorem ggL_law_X6_from : GoodIn wsL_law wsX6_from := goodIn_r _ [967, 19, 15, 17, 126, 127, 2, 128, 129, 130, 131, 132, 29, 472, 473, 474, 475, 357, 358, 359, 14, 360, 38, 39, 40, 41, 42, 43, 44, 45, 46, 50, 51, 52, 110, 111, 112, 361, 362, 363, 364, 344, 365, 366, 367, 368, 369, 370, 371, 372, 49, 373, 60, 59, 1028, 1029, 1030, 1031, 1032, 1033, 1034, 1035, 1036, 1037, 1038, 1039, 1065, 1066, 1067, 1068, 1069, 1070, 1071, 1072, 1073, 1074, 1075, 1076, 1077, 1078, 1079, 1091, 1092, 1093, 1094] (by decide +kernel) (by decide +kernel)
set_option maxRecDepth 20000 in
theorem gL_law_X6_from : GoodIn wsL_law (wsV RL 156 RX6 yX6_from wsX6_from) := goodIn_app (goodIn_of _ (by decide +kernel)) ggL_law_X6_from
set_option maxRecDepth 20000 in
theorem ggL_law_X7_from : GoodIn wsL_law wsX7_from := goodIn_r _ [971, 81, 79, 80, 147, 148, 5, 149, 154, 155, 156, 157, 82, 505, 506, 507, 508, 1040, 1041, 1042, 1043, 1044, 1045, 1046, 1047, 1048, 1049, 1050, 1051, 1052, 1053, 1054, 1055, 1056, 1057, 1058, 1059, 1060, 1061, 1062, 1063, 1064] (by decide +kernel) (by decide +kernel)
set_option maxRecDepth 20000 in
theorem gL_law_X7_from : GoodIn wsL_law (wsV RL 159 RX7 yX7_from wsX7_from) := goodIn_app (goodIn_of _ (by decide +kernel)) ggL_law_X7_from
set_option maxRecDepth 20000 in
theorem ggL_law_X6_status : GoodIn wsL_law wsX6_status := goodIn_r _ [975, 29, 126, 127, 2, 128, 129, 130, 131, 132, 1028, 1029, 1030, 1031, 1032, 1033, 1034, 1035, 1036, 1037, 1038, 1039] (by decide +kernel) (by decide +kernel)
set_option maxRecDepth 20000 in
theorem gL_law_X6_status : GoodIn wsL_law (wsV RL 160 RX6 yX6_status wsX6_status) := goodIn_app (goodIn_of _ (by decide +kernel)) ggL_law_X6_status
set_option maxRecDepth 20000 in
theorem ggL_law_X7_status : GoodIn wsL_law wsX7_status := goodIn_r _ [979, 980, 82, 147, 148, 5, 149, 154, 155, 156, 157, 1040, 1041, 1042, 1043, 1044, 1045, 1046, 1047, 1048, 1049, 1050, 1051, 1052, 1053, 1054, 1055, 1056, 1057, 1058, 1059, 1060, 1061, 1062, 1063, 1064] (by decide +kernel) (by decide +kernel)
set_option maxRecDepth 20000 in
theorem gL_law_X7_status : GoodIn wsL_law (wsV RL 163 RX7 yX7_status wsX7_status) := goodIn_app (goodIn_of _ (by decide +kernel)) ggL_law_X7_status
set_option maxRecDepth 20000 in
theorem ggL_law_X6_count : GoodIn wsL_law wsX6_count := goodIn_r _ [984, 126, 127, 2, 128, 129, 130, 131, 132, 29, 985, 986, 987, 988, 15, 105, 169, 560, 773, 580, 786, 579, 23, 201, 562, 563, 564, 14, 565, 111, 46, 930, 931, 932, 933, 45, 44, 1028, 1029, 1030, 1031, 1032, 1033, 1034, 1035, 1036, 1037, 1038, 1039, 1065, 1066, 1067, 1068, 1069, 1070, 1071, 1072, 1073, 1074, 1075, 1076, 1077, 1078, 1079, 1091, 1092, 1093, 1094, 1080, 1081, 1082, 1083, 1084, 1085] (by decide +kernel) (by decide +kernel)
set_option maxRecDepth 20000 in
theorem gL_law_X6_count : GoodIn wsL_law (wsV RL 164 RX6 yX6_count wsX6_count) := goodIn_app (goodIn_of _ (by decide +kernel)) ggL_law_X6_count
set_option maxRecDepth 20000 in
theorem ggL_law_X7_count : GoodIn wsL_law wsX7_count := goodIn_r _ [992, 993, 147, 148, 5, 149, 994, 995, 996, 997, 79, 212, 118, 119, 120, 121, 190, 191, 192, 193, 571, 572, 573, 574, 944, 945, 946, 947, 154, 155, 156, 157, 82, 1040, 1041, 1042, 1043, 1044, 1045, 1046, 1047, 1048, 1049, 1050, 1051, 1052, 1053, 1054, 1055, 1056, 1057, 1058, 1059, 1060, 1061, 1062, 1063, 1064] (by decide +kernel) (by decide +kernel)
set_option maxRecDepth 20000 in
theorem gL_law_X7_count : GoodIn wsL_law (wsV RL 167 RX7 yX7_count wsX7_count) := goodIn_app (goodIn_of _ (by decide +kernel)) ggL_law_X7_count
set_option maxRecDepth 20000 in
theorem ggL_law_X6_digest : GoodIn wsL_law wsX6_digest := goodIn_r _ [1001, 1002, 1003, 15, 773, 786, 33, 34, 985, 986, 987, 2, 988, 105, 169, 560, 580, 579, 23, 201, 562, 563, 564, 14, 565, 111, 46, 930, 931, 932, 933, 45, 44, 1004, 1005, 1006, 1007, 110, 1008, 38, 39, 40, 41, 1009, 1010, 1011, 1012, 42, 43, 1013, 1014, 1015, 49, 1016, 60, 57, 59, 1017, 1028, 1029, 1030, 1031, 1032, 1033, 1034, 1035, 1036, 1037, 1038, 1039, 1065, 1066, 1067, 1068, 1069, 1070, 1071, 1072, 1073, 1074, 1075, 1076, 1077, 1078, 1079, 1091, 1092, 1093, 1094, 1080, 1081, 1082, 1083, 1084, 1085] (by decide +kernel) (by decide +kernel)
set_option maxRecDepth 20000 in
theorem gL_law_X6_digest : GoodIn wsL_law (wsV RL 168 RX6 yX6_digest wsX6_digest) := goodIn_app (goodIn_of _ (by decide +kernel)) ggL_law_X6_digest
set_option maxRecDepth 20000 in
theorem ggL_law_X7_digest : GoodIn wsL_law wsX7_digest := goodIn_r _ [1021, 1022, 1023, 79, 919, 83, 994, 995, 996, 5, 997, 212, 118, 119, 120, 121, 190, 191, 192, 193, 571, 572, 573, 574, 944, 945, 946, 947, 1024, 1025, 1026, 1027, 1040, 1041, 1042, 1043, 1044, 1045, 1046, 1047, 1048, 1049, 1050, 1051, 1052, 1053, 1054, 1055, 1056, 1057, 1058, 1059, 1060, 1061, 1062, 1063, 1064] (by decide +kernel) (by decide +kernel)
set_option maxRecDepth 20000 in
theorem gL_law_X7_digest : GoodIn wsL_law (wsV RL 172 RX7 yX7_digest wsX7_digest) := goodIn_app (goodIn_of _ (by decide +kernel)) ggL_law_X7_digest
theorem dL_law_0 : decode cL_law 0 = .ok (.new 7, 3) := by decide +kernel
theorem dL_law_3 : decode cL_law 3 = .ok (.dup, 1) := by decide +kernel
theorem dL_law_4 : decode cL_law 4 = .ok (.invokespecial 9, 3) := by decide +kernel
theorem dL_law_7 : decode cL_law 7 = .ok (.astore_n 1, 1) := by decide +kernel
theorem dL_law_8 : decode cL_law 8 = .ok (.new 10, 3) := by decide +kernel
theorem dL_law_11 : decode cL_law 11 = .ok (.dup, 1) := by decide +kernel
theorem dL_law_12 : decode cL_law 12 = .ok (.invokespecial 12, 3) := by decide +kernel
theorem dL_law_15 : decode cL_law 15 = .ok (.astore_n 2, 1) := by decide +kernel
theorem dL_law_16 : decode cL_law 16 = .ok (.iconst 0, 1) := by decide +kernel
theorem dL_law_17 : decode cL_law 17 = .ok (.istore_n 3, 1) := by decide +kernel
theorem dL_law_18 : decode cL_law 18 = .ok (.iload_n 3, 1) := by decide +kernel
theorem dL_law_19 : decode cL_law 19 = .ok (.aload_n 0, 1) := by decide +kernel
theorem dL_law_20 : decode cL_law 20 = .ok (.arraylength, 1) := by decide +kernel
theorem dL_law_21 : decode cL_law 21 = .ok (.bipush 7, 2) := by decide +kernel
theorem dL_law_23 : decode cL_law 23 = .ok (.isub, 1) := by decide +kernel
theorem dL_law_24 : decode cL_law 24 = .ok (.if_icmp .gt 1332, 3) := by decide +kernel
theorem dL_law_27 : decode cL_law 27 = .ok (.aload_n 0, 1) := by decide +kernel
theorem dL_law_28 : decode cL_law 28 = .ok (.iload_n 3, 1) := by decide +kernel
theorem dL_law_29 : decode cL_law 29 = .ok (.iaload, 1) := by decide +kernel
theorem dL_law_30 : decode cL_law 30 = .ok (.bipush 63, 2) := by decide +kernel
theorem dL_law_32 : decode cL_law 32 = .ok (.iand, 1) := by decide +kernel
theorem dL_law_33 : decode cL_law 33 = .ok (.tableswitch 1317 0 37 #[167, 180, 255, 298, 321, 334, 347, 370, 393, 426, 449, 462, 495, 528, 561, 584, 617, 650, 693, 736, 749, 772, 805, 880, 933, 956, 979, 1002, 1025, 1048, 1101, 1154, 1187, 1211, 1234, 1257, 1280, 1303], 167) := by decide +kernel
theorem dL_law_200 : decode cL_law 200 = .ok (.aload_n 1, 1) := by decide +kernel
theorem dL_law_201 : decode cL_law 201 = .ok (.invokevirtual 13, 3) := by decide +kernel
theorem dL_law_204 : decode cL_law 204 = .ok (.aload_n 2, 1) := by decide +kernel
theorem dL_law_205 : decode cL_law 205 = .ok (.invokevirtual 17, 3) := by decide +kernel
theorem dL_law_208 : decode cL_law 208 = .ok (.if_icmp .eq 1142, 3) := by decide +kernel
theorem dL_law_211 : decode cL_law 211 = .ok (.iconst 0, 1) := by decide +kernel
theorem dL_law_212 : decode cL_law 212 = .ok (.ireturn, 1) := by decide +kernel
theorem dL_law_213 : decode cL_law 213 = .ok (.aload_n 1, 1) := by decide +kernel
theorem dL_law_214 : decode cL_law 214 = .ok (.aload_n 0, 1) := by decide +kernel
theorem dL_law_215 : decode cL_law 215 = .ok (.iload_n 3, 1) := by decide +kernel
theorem dL_law_216 : decode cL_law 216 = .ok (.iconst 1, 1) := by decide +kernel
theorem dL_law_217 : decode cL_law 217 = .ok (.iadd, 1) := by decide +kernel
theorem dL_law_218 : decode cL_law 218 = .ok (.iaload, 1) := by decide +kernel
theorem dL_law_219 : decode cL_law 219 = .ok (.aload_n 0, 1) := by decide +kernel
theorem dL_law_220 : decode cL_law 220 = .ok (.iload_n 3, 1) := by decide +kernel
theorem dL_law_221 : decode cL_law 221 = .ok (.iconst 2, 1) := by decide +kernel
theorem dL_law_222 : decode cL_law 222 = .ok (.iadd, 1) := by decide +kernel
theorem dL_law_223 : decode cL_law 223 = .ok (.iaload, 1) := by decide +kernel
theorem dL_law_224 : decode cL_law 224 = .ok (.aload_n 0, 1) := by decide +kernel
theorem dL_law_225 : decode cL_law 225 = .ok (.iload_n 3, 1) := by decide +kernel
theorem dL_law_226 : decode cL_law 226 = .ok (.iconst 3, 1) := by decide +kernel
theorem dL_law_227 : decode cL_law 227 = .ok (.iadd, 1) := by decide +kernel
theorem dL_law_228 : decode cL_law 228 = .ok (.iaload, 1) := by decide +kernel
theorem dL_law_229 : decode cL_law 229 = .ok (.aload_n 0, 1) := by decide +kernel
theorem dL_law_230 : decode cL_law 230 = .ok (.iload_n 3, 1) := by decide +kernel
theorem dL_law_231 : decode cL_law 231 = .ok (.iconst 4, 1) := by decide +kernel
theorem dL_law_232 : decode cL_law 232 = .ok (.iadd, 1) := by decide +kernel
theorem dL_law_233 : decode cL_law 233 = .ok (.iaload, 1) := by decide +kernel
theorem dL_law_234 : decode cL_law 234 = .ok (.aload_n 0, 1) := by decide +kernel
theorem dL_law_235 : decode cL_law 235 = .ok (.iload_n 3, 1) := by decide +kernel
theorem dL_law_236 : decode cL_law 236 = .ok (.iconst 5, 1) := by decide +kernel
theorem dL_law_237 : decode cL_law 237 = .ok (.iadd, 1) := by decide +kernel
theorem dL_law_238 : decode cL_law 238 = .ok (.iaload, 1) := by decide +kernel
theorem dL_law_239 : decode cL_law 239 = .ok (.aload_n 0, 1) := by decide +kernel
theorem dL_law_240 : decode cL_law 240 = .ok (.iload_n 3, 1) := by decide +kernel
theorem dL_law_241 : decode cL_law 241 = .ok (.bipush 6, 2) := by decide +kernel
theorem dL_law_243 : decode cL_law 243 = .ok (.iadd, 1) := by decide +kernel
theorem dL_law_244 : decode cL_law 244 = .ok (.iaload, 1) := by decide +kernel
theorem dL_law_245 : decode cL_law 245 = .ok (.invokevirtual 18, 3) := by decide +kernel
theorem dL_law_248 : decode cL_law 248 = .ok (.aload_n 2, 1) := by decide +kernel
theorem dL_law_249 : decode cL_law 249 = .ok (.aload_n 0, 1) := by decide +kernel
theorem dL_law_250 : decode cL_law 250 = .ok (.iload_n 3, 1) := by decide +kernel
theorem dL_law_251 : decode cL_law 251 = .ok (.iconst 1, 1) := by decide +kernel
theorem dL_law_252 : decode cL_law 252 = .ok (.iadd, 1) := by decide +kernel
theorem dL_law_253 : decode cL_law 253 = .ok (.iaload, 1) := by decide +kernel
theorem dL_law_254 : decode cL_law 254 = .ok (.aload_n 0, 1) := by decide +kernel
theorem dL_law_255 : decode cL_law 255 = .ok (.iload_n 3, 1) := by decide +kernel
theorem dL_law_256 : decode cL_law 256 = .ok (.iconst 2, 1) := by decide +kernel
theorem dL_law_257 : decode cL_law 257 = .ok (.iadd, 1) := by decide +kernel
theorem dL_law_258 : decode cL_law 258 = .ok (.iaload, 1) := by decide +kernel
theorem dL_law_259 : decode cL_law 259 = .ok (.aload_n 0, 1) := by decide +kernel
theorem dL_law_260 : decode cL_law 260 = .ok (.iload_n 3, 1) := by decide +kernel
theorem dL_law_261 : decode cL_law 261 = .ok (.iconst 3, 1) := by decide +kernel
theorem dL_law_262 : decode cL_law 262 = .ok (.iadd, 1) := by decide +kernel
theorem dL_law_263 : decode cL_law 263 = .ok (.iaload, 1) := by decide +kernel
theorem dL_law_264 : decode cL_law 264 = .ok (.aload_n 0, 1) := by decide +kernel
theorem dL_law_265 : decode cL_law 265 = .ok (.iload_n 3, 1) := by decide +kernel
theorem dL_law_266 : decode cL_law 266 = .ok (.iconst 4, 1) := by decide +kernel
theorem dL_law_267 : decode cL_law 267 = .ok (.iadd, 1) := by decide +kernel
theorem dL_law_268 : decode cL_law 268 = .ok (.iaload, 1) := by decide +kernel
theorem dL_law_269 : decode cL_law 269 = .ok (.aload_n 0, 1) := by decide +kernel
theorem dL_law_270 : decode cL_law 270 = .ok (.iload_n 3, 1) := by decide +kernel
theorem dL_law_271 : decode cL_law 271 = .ok (.iconst 5, 1) := by decide +kernel
theorem dL_law_272 : decode cL_law 272 = .ok (.iadd, 1) := by decide +kernel
theorem dL_law_273 : decode cL_law 273 = .ok (.iaload, 1) := by decide +kernel
theorem dL_law_274 : decode cL_law 274 = .ok (.aload_n 0, 1) := by decide +kernel
theorem dL_law_275 : decode cL_law 275 = .ok (.iload_n 3, 1) := by decide +kernel
theorem dL_law_276 : decode cL_law 276 = .ok (.bipush 6, 2) := by decide +kernel
theorem dL_law_278 : decode cL_law 278 = .ok (.iadd, 1) := by decide +kernel
theorem dL_law_279 : decode cL_law 279 = .ok (.iaload, 1) := by decide +kernel
theorem dL_law_280 : decode cL_law 280 = .ok (.invokevirtual 22, 3) := by decide +kernel
theorem dL_law_283 : decode cL_law 283 = .ok (.if_icmp .eq 1067, 3) := by decide +kernel
theorem dL_law_286 : decode cL_law 286 = .ok (.iconst 0, 1) := by decide +kernel
theorem dL_law_287 : decode cL_law 287 = .ok (.ireturn, 1) := by decide +kernel
theorem dL_law_288 : decode cL_law 288 = .ok (.aload_n 1, 1) := by decide +kernel
theorem dL_law_289 : decode cL_law 289 = .ok (.aload_n 0, 1) := by decide +kernel
theorem dL_law_290 : decode cL_law 290 = .ok (.iload_n 3, 1) := by decide +kernel
theorem dL_law_291 : decode cL_law 291 = .ok (.iconst 1, 1) := by decide +kernel
theorem dL_law_292 : decode cL_law 292 = .ok (.iadd, 1) := by decide +kernel
theorem dL_law_293 : decode cL_law 293 = .ok (.iaload, 1) := by decide +kernel
theorem dL_law_294 : decode cL_law 294 = .ok (.aload_n 0, 1) := by decide +kernel
theorem dL_law_295 : decode cL_law 295 = .ok (.iload_n 3, 1) := by decide +kernel
theorem dL_law_296 : decode cL_law 296 = .ok (.iconst 2, 1) := by decide +kernel
theorem dL_law_297 : decode cL_law 297 = .ok (.iadd, 1) := by decide +kernel
theorem dL_law_298 : decode cL_law 298 = .ok (.iaload, 1) := by decide +kernel
theorem dL_law_299 : decode cL_law 299 = .ok (.aload_n 0, 1) := by decide +kernel
theorem dL_law_300 : decode cL_law 300 = .ok (.iload_n 3, 1) := by decide +kernel
theorem dL_law_301 : decode cL_law 301 = .ok (.iconst 3, 1) := by decide +kernel
theorem dL_law_302 : decode cL_law 302 = .ok (.iadd, 1) := by decide +kernel
theorem dL_law_303 : decode cL_law 303 = .ok (.iaload, 1) := by decide +kernel
theorem dL_law_304 : decode cL_law 304 = .ok (.invokevirtual 23, 3) := by decide +kernel
theorem dL_law_307 : decode cL_law 307 = .ok (.aload_n 2, 1) := by decide +kernel
theorem dL_law_308 : decode cL_law 308 = .ok (.aload_n 0, 1) := by decide +kernel
theorem dL_law_309 : decode cL_law 309 = .ok (.iload_n 3, 1) := by decide +kernel
theorem dL_law_310 : decode cL_law 310 = .ok (.iconst 1, 1) := by decide +kernel
theorem dL_law_311 : decode cL_law 311 = .ok (.iadd, 1) := by decide +kernel
theorem dL_law_312 : decode cL_law 312 = .ok (.iaload, 1) := by decide +kernel
theorem dL_law_313 : decode cL_law 313 = .ok (.aload_n 0, 1) := by decide +kernel
theorem dL_law_314 : decode cL_law 314 = .ok (.iload_n 3, 1) := by decide +kernel
theorem dL_law_315 : decode cL_law 315 = .ok (.iconst 2, 1) := by decide +kernel
theorem dL_law_316 : decode cL_law 316 = .ok (.iadd, 1) := by decide +kernel
theorem dL_law_317 : decode cL_law 317 = .ok (.iaload, 1) := by decide +kernel
theorem dL_law_318 : decode cL_law 318 = .ok (.aload_n 0, 1) := by decide +kernel
theorem dL_law_319 : decode cL_law 319 = .ok (.iload_n 3, 1) := by decide +kernel
theorem dL_law_320 : decode cL_law 320 = .ok (.iconst 3, 1) := by decide +kernel
theorem dL_law_321 : decode cL_law 321 = .ok (.iadd, 1) := by decide +kernel
theorem dL_law_322 : decode cL_law 322 = .ok (.iaload, 1) := by decide +kernel
theorem dL_law_323 : decode cL_law 323 = .ok (.invokevirtual 27, 3) := by decide +kernel
theorem dL_law_326 : decode cL_law 326 = .ok (.if_icmp .eq 1024, 3) := by decide +kernel
theorem dL_law_329 : decode cL_law 329 = .ok (.iconst 0, 1) := by decide +kernel
theorem dL_law_330 : decode cL_law 330 = .ok (.ireturn, 1) := by decide +kernel
theorem dL_law_331 : decode cL_law 331 = .ok (.aload_n 1, 1) := by decide +kernel
theorem dL_law_332 : decode cL_law 332 = .ok (.aload_n 0, 1) := by decide +kernel
theorem dL_law_333 : decode cL_law 333 = .ok (.iload_n 3, 1) := by decide +kernel
theorem dL_law_334 : decode cL_law 334 = .ok (.iconst 1, 1) := by decide +kernel
theorem dL_law_335 : decode cL_law 335 = .ok (.iadd, 1) := by decide +kernel
theorem dL_law_336 : decode cL_law 336 = .ok (.iaload, 1) := by decide +kernel
theorem dL_law_337 : decode cL_law 337 = .ok (.invokevirtual 28, 3) := by decide +kernel
theorem dL_law_340 : decode cL_law 340 = .ok (.aload_n 2, 1) := by decide +kernel
theorem dL_law_341 : decode cL_law 341 = .ok (.aload_n 0, 1) := by decide +kernel
theorem dL_law_342 : decode cL_law 342 = .ok (.iload_n 3, 1) := by decide +kernel
theorem dL_law_343 : decode cL_law 343 = .ok (.iconst 1, 1) := by decide +kernel
theorem dL_law_344 : decode cL_law 344 = .ok (.iadd, 1) := by decide +kernel
theorem dL_law_345 : decode cL_law 345 = .ok (.iaload, 1) := by decide +kernel
theorem dL_law_346 : decode cL_law 346 = .ok (.invokevirtual 32, 3) := by decide +kernel
theorem dL_law_349 : decode cL_law 349 = .ok (.if_icmp .eq 1001, 3) := by decide +kernel
theorem dL_law_352 : decode cL_law 352 = .ok (.iconst 0, 1) := by decide +kernel
theorem dL_law_353 : decode cL_law 353 = .ok (.ireturn, 1) := by decide +kernel
theorem dL_law_354 : decode cL_law 354 = .ok (.aload_n 1, 1) := by decide +kernel
theorem dL_law_355 : decode cL_law 355 = .ok (.invokevirtual 33, 3) := by decide +kernel
theorem dL_law_358 : decode cL_law 358 = .ok (.aload_n 2, 1) := by decide +kernel
theorem dL_law_359 : decode cL_law 359 = .ok (.invokevirtual 36, 3) := by decide +kernel
theorem dL_law_362 : decode cL_law 362 = .ok (.if_icmp .eq 988, 3) := by decide +kernel
theorem dL_law_365 : decode cL_law 365 = .ok (.iconst 0, 1) := by decide +kernel
theorem dL_law_366 : decode cL_law 366 = .ok (.ireturn, 1) := by decide +kernel
theorem dL_law_367 : decode cL_law 367 = .ok (.aload_n 1, 1) := by decide +kernel
theorem dL_law_368 : decode cL_law 368 = .ok (.invokevirtual 37, 3) := by decide +kernel
theorem dL_law_371 : decode cL_law 371 = .ok (.aload_n 2, 1) := by decide +kernel
theorem dL_law_372 : decode cL_law 372 = .ok (.invokevirtual 40, 3) := by decide +kernel
theorem dL_law_375 : decode cL_law 375 = .ok (.if_icmp .eq 975, 3) := by decide +kernel
theorem dL_law_378 : decode cL_law 378 = .ok (.iconst 0, 1) := by decide +kernel
theorem dL_law_379 : decode cL_law 379 = .ok (.ireturn, 1) := by decide +kernel
theorem dL_law_380 : decode cL_law 380 = .ok (.aload_n 1, 1) := by decide +kernel
theorem dL_law_381 : decode cL_law 381 = .ok (.aload_n 0, 1) := by decide +kernel
theorem dL_law_382 : decode cL_law 382 = .ok (.iload_n 3, 1) := by decide +kernel
theorem dL_law_383 : decode cL_law 383 = .ok (.iconst 1, 1) := by decide +kernel
theorem dL_law_384 : decode cL_law 384 = .ok (.iadd, 1) := by decide +kernel
theorem dL_law_385 : decode cL_law 385 = .ok (.iaload, 1) := by decide +kernel
theorem dL_law_386 : decode cL_law 386 = .ok (.invokevirtual 41, 3) := by decide +kernel
theorem dL_law_389 : decode cL_law 389 = .ok (.aload_n 2, 1) := by decide +kernel
theorem dL_law_390 : decode cL_law 390 = .ok (.aload_n 0, 1) := by decide +kernel
theorem dL_law_391 : decode cL_law 391 = .ok (.iload_n 3, 1) := by decide +kernel
theorem dL_law_392 : decode cL_law 392 = .ok (.iconst 1, 1) := by decide +kernel
theorem dL_law_393 : decode cL_law 393 = .ok (.iadd, 1) := by decide +kernel
theorem dL_law_394 : decode cL_law 394 = .ok (.iaload, 1) := by decide +kernel
theorem dL_law_395 : decode cL_law 395 = .ok (.invokevirtual 44, 3) := by decide +kernel
theorem dL_law_398 : decode cL_law 398 = .ok (.if_icmp .eq 952, 3) := by decide +kernel
theorem dL_law_401 : decode cL_law 401 = .ok (.iconst 0, 1) := by decide +kernel
theorem dL_law_402 : decode cL_law 402 = .ok (.ireturn, 1) := by decide +kernel
theorem dL_law_403 : decode cL_law 403 = .ok (.aload_n 1, 1) := by decide +kernel
theorem dL_law_404 : decode cL_law 404 = .ok (.aload_n 0, 1) := by decide +kernel
theorem dL_law_405 : decode cL_law 405 = .ok (.iload_n 3, 1) := by decide +kernel
theorem dL_law_406 : decode cL_law 406 = .ok (.iconst 1, 1) := by decide +kernel
theorem dL_law_407 : decode cL_law 407 = .ok (.iadd, 1) := by decide +kernel
theorem dL_law_408 : decode cL_law 408 = .ok (.iaload, 1) := by decide +kernel
theorem dL_law_409 : decode cL_law 409 = .ok (.invokevirtual 45, 3) := by decide +kernel
