def wsL_law_r1 : List Cond := [Cond.classLink RL 7 RX11, Cond.instantiable RX11 15, Cond.initialized RX11, Cond.classLink RL 10 RX12, Cond.instantiable RX12 37, Cond.initialized RX12, Cond.constantLong RL 13 (4294967295), Cond.methodLink RL 9 yX11_init, Cond.instanceMethod yX11_init, Cond.code yX11_init cX11_init 2 none, Cond.methodLink RX11 1 objectInit, Cond.instanceMethod objectInit, Cond.code objectInit ⟨#[0xb1]⟩ 1 none, Cond.classLink RX11 7 RX6, Cond.instantiable RX6 7, Cond.initialized RX6, Cond.fieldLink RX11 10 "LadleKings" "rules" "LLadleKings$Rules;", Cond.classLink RX11 16 RX8, Cond.instantiable RX8 9, Cond.initialized RX8, Cond.fieldLink RX11 19 "LadleKings" "state" "LLadleKings$State;", Cond.classLink RX11 23 RX9, Cond.instantiable RX9 6, Cond.initialized RX9]
def wsL_law_r2 : List Cond := [Cond.fieldLink RX11 26 "LadleKings" "tape" "LLadleKings$Tape;", Cond.classLink RX11 30 RX10, Cond.instantiable RX10 9, Cond.initialized RX10, Cond.fieldLink RX11 35 "LadleKings" "reader" "LLadleKings$TextReader;", Cond.classLink RX11 39 RX2, Cond.instantiable RX2 5, Cond.initialized RX2, Cond.fieldLink RX11 44 "LadleKings" "kitchen" "LLadleKings$Kitchen;", Cond.classLink RX11 48 RX3, Cond.instantiable RX3 4, Cond.initialized RX3, Cond.fieldLink RX11 53 "LadleKings" "luck" "LLadleKings$Luck;", Cond.classLink RX11 57 RX5, Cond.instantiable RX5 3, Cond.initialized RX5, Cond.fieldLink RX11 60 "LadleKings" "plans" "LLadleKings$Plans;", Cond.classLink RX11 64 RX0, Cond.instantiable RX0 1, Cond.initialized RX0, Cond.fieldLink RX11 67 "LadleKings" "coups" "LLadleKings$Coups;", Cond.classLink RX11 71 RX4, Cond.instantiable RX4 2, Cond.initialized RX4]
def wsL_law_r3 : List Cond := [Cond.fieldLink RX11 74 "LadleKings" "past" "LLadleKings$Past;", Cond.classLink RX11 78 RX1, Cond.instantiable RX1 9, Cond.initialized RX1, Cond.fieldLink RX11 81 "LadleKings" "fairDays" "LLadleKings$FairDays;", Cond.fieldLink RX11 85 "LadleKings" "images" "[LLadleKings$State;", Cond.arrayClass .boolean, Cond.fieldLink RX11 89 "LadleKings" "imageHeld" "[Z", Cond.classLink RX11 93 RX7, Cond.fieldLink RX11 95 "LadleKings" "sheets" "[LLadleKings$Sheet;", Cond.fieldLink RX11 99 "LadleKings" "latestFault" "I", Cond.fieldLink RX11 103 "LadleKings" "latestTear" "I", Cond.instantiable RX7 3, Cond.initialized RX7, Cond.instanceMethod yX6_init, Cond.code yX6_init cX6_init 1 none, Cond.methodLink RX6 3 objectInit, Cond.fieldLink RX6 9 "LadleKings$Rules" "seats" "I", Cond.fieldLink RX6 15 "LadleKings$Rules" "stirs" "I", Cond.arrayClass .int, Cond.fieldLink RX6 18 "LadleKings$Rules" "need" "[I", Cond.fieldLink RX6 22 "LadleKings$Rules" "kind" "[I", Cond.fieldLink RX6 25 "LadleKings$Rules" "first" "[I", Cond.fieldLink RX6 28 "LadleKings$Rules" "second" "[I"]
def wsL_law_r4 : List Cond := [Cond.fieldLink RX6 31 "LadleKings$Rules" "after" "[I", Cond.methodLink RX11 18 yX8_init, Cond.instanceMethod yX8_init, Cond.code yX8_init cX8_init 1 none, Cond.methodLink RX8 3 objectInit, Cond.fieldLink RX8 9 "LadleKings$State" "pieces" "[I", Cond.fieldLink RX8 15 "LadleKings$State" "friends" "[I", Cond.fieldLink RX8 18 "LadleKings$State" "spoons" "[I", Cond.fieldLink RX8 21 "LadleKings$State" "eaten" "[I", Cond.fieldLink RX8 24 "LadleKings$State" "seen" "[I", Cond.fieldLink RX8 27 "LadleKings$State" "seenDays" "I", Cond.fieldLink RX8 31 "LadleKings$State" "bone" "I", Cond.fieldLink RX8 34 "LadleKings$State" "king" "I", Cond.fieldLink RX8 37 "LadleKings$State" "days" "I", Cond.methodLink RX8 40 yJ7_fill_53178, Cond.static yJ7_fill_53178, Cond.initialized RJ7, Cond.code yJ7_fill_53178 cJ7_fill_53178 4 none, Cond.instanceMethod yX9_init, Cond.code yX9_init cX9_init 1 none, Cond.methodLink RX9 3 objectInit, Cond.arrayClass .byte, Cond.fieldLink RX9 9 "LadleKings$Tape" "bytes" "[B", Cond.fieldLink RX9 15 "LadleKings$Tape" "length" "I"]
def wsL_law_r5 : List Cond := [Cond.fieldLink RX9 19 "LadleKings$Tape" "at" "I", Cond.fieldLink RX9 22 "LadleKings$Tape" "token" "I", Cond.fieldLink RX9 25 "LadleKings$Tape" "start" "I", Cond.fieldLink RX9 28 "LadleKings$Tape" "value" "I", Cond.methodLink RX11 32 yX10_init, Cond.instanceMethod yX10_init, Cond.code yX10_init cX10_init 2 none, Cond.methodLink RX10 3 objectInit, Cond.classLink RX10 9 RX6, Cond.fieldLink RX10 12 "LadleKings$TextReader" "rules" "LLadleKings$Rules;", Cond.classLink RX10 18 RX8, Cond.fieldLink RX10 21 "LadleKings$TextReader" "state" "LLadleKings$State;", Cond.fieldLink RX10 25 "LadleKings$TextReader" "faultFound" "I", Cond.fieldLink RX10 29 "LadleKings$TextReader" "faultPlace" "I", Cond.fieldLink RX10 32 "LadleKings$TextReader" "lines" "I", Cond.fieldLink RX10 35 "LadleKings$TextReader" "met" "I", Cond.fieldLink RX10 38 "LadleKings$TextReader" "greatest" "I", Cond.fieldLink RX10 41 "LadleKings$TextReader" "numbers" "[I", Cond.fieldLink RX10 45 "LadleKings$TextReader" "tape" "LLadleKings$Tape;", Cond.methodLink RX10 20 yX8_init, Cond.methodLink RX11 41 yX2_init, Cond.instanceMethod yX2_init, Cond.code yX2_init cX2_init 3 none, Cond.methodLink RX2 3 objectInit]
def wsL_law_r6 : List Cond := [Cond.fieldLink RX2 9 "LadleKings$Kitchen" "places" "[I", Cond.fieldLink RX2 15 "LadleKings$Kitchen" "holders" "[I", Cond.fieldLink RX2 18 "LadleKings$Kitchen" "stirred" "[I", Cond.fieldLink RX2 21 "LadleKings$Kitchen" "rules" "LLadleKings$Rules;", Cond.fieldLink RX2 25 "LadleKings$Kitchen" "state" "LLadleKings$State;", Cond.methodLink RX11 50 yX3_init, Cond.instanceMethod yX3_init, Cond.code yX3_init cX3_init 2 none, Cond.methodLink RX3 3 objectInit, Cond.arrayClass .long, Cond.fieldLink RX3 11 "LadleKings$Luck" "rows" "[J", Cond.fieldLink RX3 15 "LadleKings$Luck" "later" "[J", Cond.fieldLink RX3 18 "LadleKings$Luck" "finds" "[J", Cond.fieldLink RX3 21 "LadleKings$Luck" "kitchen" "LLadleKings$Kitchen;", Cond.methodLink RX11 59 yX5_init, Cond.instanceMethod yX5_init, Cond.code yX5_init cX5_init 2 none, Cond.methodLink RX5 3 objectInit, Cond.fieldLink RX5 9 "LadleKings$Plans" "good" "[J", Cond.fieldLink RX5 15 "LadleKings$Plans" "row" "[I", Cond.fieldLink RX5 19 "LadleKings$Plans" "kitchen" "LLadleKings$Kitchen;", Cond.methodLink RX11 66 yX0_init, Cond.instanceMethod yX0_init, Cond.code yX0_init cX0_init 2 none]
def wsL_law_r7 : List Cond := [Cond.methodLink RX0 3 objectInit, Cond.fieldLink RX0 9 "LadleKings$Coups" "kitchen" "LLadleKings$Kitchen;", Cond.methodLink RX11 73 yX4_init, Cond.instanceMethod yX4_init, Cond.code yX4_init cX4_init 2 none, Cond.methodLink RX4 3 objectInit, Cond.fieldLink RX4 9 "LadleKings$Past" "fitting" "[I", Cond.fieldLink RX4 15 "LadleKings$Past" "kitchen" "LLadleKings$Kitchen;", Cond.methodLink RX11 80 yX1_init, Cond.instanceMethod yX1_init, Cond.code yX1_init cX1_init 2 none, Cond.methodLink RX1 3 objectInit, Cond.fieldLink RX1 11 "LadleKings$FairDays" "pots" "[I", Cond.fieldLink RX1 15 "LadleKings$FairDays" "sums" "[I", Cond.fieldLink RX1 18 "LadleKings$FairDays" "kings" "[I", Cond.fieldLink RX1 21 "LadleKings$FairDays" "bones" "[I", Cond.fieldLink RX1 24 "LadleKings$FairDays" "row" "[I", Cond.fieldLink RX1 27 "LadleKings$FairDays" "bestRow" "[I", Cond.fieldLink RX1 30 "LadleKings$FairDays" "days" "I", Cond.fieldLink RX1 34 "LadleKings$FairDays" "least" "I", Cond.fieldLink RX1 37 "LadleKings$FairDays" "kitchen" "LLadleKings$Kitchen;", Cond.instanceMethod yX7_init, Cond.code yX7_init cX7_init 1 none, Cond.methodLink RX7 3 objectInit]
def wsL_law_r8 : List Cond := [Cond.fieldLink RX7 9 "LadleKings$Sheet" "lane" "I", Cond.fieldLink RX7 15 "LadleKings$Sheet" "size" "I", Cond.fieldLink RX7 18 "LadleKings$Sheet" "cells" "[I", Cond.methodLink RL 12 yX12_init, Cond.instanceMethod yX12_init, Cond.code yX12_init cX12_init 2 none, Cond.methodLink RX12 1 objectInit, Cond.fieldLink RX12 7 "LadleKingsModel" "st" "[I", Cond.fieldLink RX12 13 "LadleKingsModel" "isKept" "[Z", Cond.fieldLink RX12 17 "LadleKingsModel" "brings" "[I", Cond.fieldLink RX12 20 "LadleKingsModel" "need" "[I", Cond.fieldLink RX12 23 "LadleKingsModel" "draft" "[I", Cond.fieldLink RX12 26 "LadleKingsModel" "dStir" "[I", Cond.fieldLink RX12 29 "LadleKingsModel" "dNeed" "[I", Cond.fieldLink RX12 32 "LadleKingsModel" "tape" "[I", Cond.fieldLink RX12 35 "LadleKingsModel" "places" "[I", Cond.fieldLink RX12 38 "LadleKingsModel" "stirred" "[I", Cond.fieldLink RX12 41 "LadleKingsModel" "ways" "[J", Cond.fieldLink RX12 45 "LadleKingsModel" "waysThen" "[J", Cond.fieldLink RX12 48 "LadleKingsModel" "stays" "[I", Cond.fieldLink RX12 51 "LadleKingsModel" "fewest" "[I", Cond.fieldLink RX12 54 "LadleKingsModel" "bowls" "[I", Cond.fieldLink RX12 57 "LadleKingsModel" "has" "[I", Cond.fieldLink RX12 60 "LadleKingsModel" "goesOn" "[I"]
def wsL_law_r9 : List Cond := [Cond.fieldLink RX12 63 "LadleKingsModel" "isThere" "[Z", Cond.fieldLink RX12 66 "LadleKingsModel" "isThereThen" "[Z", Cond.fieldLink RX12 69 "LadleKingsModel" "bestRow" "[I", Cond.fieldLink RX12 72 "LadleKingsModel" "lanes" "[I", Cond.fieldLink RX12 75 "LadleKingsModel" "sizes" "[I", Cond.fieldLink RX12 78 "LadleKingsModel" "cells" "[I", Cond.methodLink RX12 81 yX12_firstDraft, Cond.instanceMethod yX12_firstDraft, Cond.selects RX12 yX12_firstDraft yX12_firstDraft, Cond.code yX12_firstDraft cX12_firstDraft 2 none, Cond.fieldLink RX12 87 "LadleKingsModel" "dSeats" "I", Cond.fieldLink RX12 91 "LadleKingsModel" "dStirs" "I", Cond.fieldLink RX12 94 "LadleKingsModel" "told" "I", Cond.fieldLink RX12 97 "LadleKingsModel" "highest" "I", Cond.methodLink RX12 84 yX12_keepDraft, Cond.instanceMethod yX12_keepDraft, Cond.selects RX12 yX12_keepDraft yX12_keepDraft, Cond.code yX12_keepDraft cX12_keepDraft 3 none, Cond.fieldLink RX12 100 "LadleKingsModel" "seats" "I", Cond.fieldLink RX12 103 "LadleKingsModel" "stirs" "I", Cond.methodLink RX12 106 yX12_broughtTo, Cond.instanceMethod yX12_broughtTo, Cond.selects RX12 yX12_broughtTo yX12_broughtTo, Cond.code yX12_broughtTo cX12_broughtTo 5 (some .int)]
def wsL_law_r10 : List Cond := [Cond.methodLink RL 15 yX11_feed, Cond.instanceMethod yX11_feed, Cond.selects RX11 yX11_feed yX11_feed, Cond.code yX11_feed cX11_feed 3 (some .int), Cond.fieldLink RX11 111 "LadleKings$Tape" "length" "I", Cond.methodLink RX11 107 yX9_append, Cond.instanceMethod yX9_append, Cond.selects RX9 yX9_append yX9_append, Cond.code yX9_append cX9_append 4 (some .boolean), Cond.methodLink RL 19 yX12_feed, Cond.instanceMethod yX12_feed, Cond.selects RX12 yX12_feed yX12_feed, Cond.code yX12_feed cX12_feed 4 (some .int), Cond.fieldLink RX12 110 "LadleKingsModel" "taped" "I", Cond.constantLong RX12 113 (255), Cond.methodLink RL 20 yX11_end, Cond.instanceMethod yX11_end, Cond.selects RX11 yX11_end yX11_end, Cond.code yX11_end cX11_end 3 (some .int), Cond.methodLink RL 24 yX12_end, Cond.instanceMethod yX12_end, Cond.selects RX12 yX12_end yX12_end, Cond.code yX12_end cX12_end 3 (some .int), Cond.methodLink RX12 115 yX12_in]
def wsL_law_r11 : List Cond := [Cond.static yX12_in, Cond.code yX12_in cX12_in 6 (some .boolean), Cond.methodLink RL 25 yX11_text, Cond.instanceMethod yX11_text, Cond.selects RX11 yX11_text yX11_text, Cond.code yX11_text cX11_text 3 (some .int), Cond.fieldLink RX11 118 "LadleKings$TextReader" "faultFound" "I", Cond.fieldLink RX11 121 "LadleKings$TextReader" "rules" "LLadleKings$Rules;", Cond.fieldLink RX11 126 "LadleKings$TextReader" "state" "LLadleKings$State;", Cond.methodLink RX11 114 yX10_readTape, Cond.instanceMethod yX10_readTape, Cond.selects RX10 yX10_readTape yX10_readTape, Cond.code yX10_readTape cX10_readTape 3 (some .int), Cond.fieldLink RX10 56 "LadleKings$Rules" "seats" "I", Cond.fieldLink RX10 59 "LadleKings$Tape" "length" "I", Cond.methodLink RX10 49 yX10_begin, Cond.instanceMethod yX10_begin, Cond.selects RX10 yX10_begin yX10_begin, Cond.code yX10_begin cX10_begin 1 none, Cond.methodLink RX10 71 yX6_reset, Cond.instanceMethod yX6_reset, Cond.selects RX6 yX6_reset yX6_reset, Cond.code yX6_reset cX6_reset 1 none, Cond.methodLink RX6 34 yJ7_fill_53178]
def wsL_law_r12 : List Cond := [Cond.methodLink RX10 74 yX8_reset, Cond.instanceMethod yX8_reset, Cond.selects RX8 yX8_reset yX8_reset, Cond.code yX8_reset cX8_reset 1 none, Cond.methodLink RX10 75 yX9_rewind, Cond.instanceMethod yX9_rewind, Cond.selects RX9 yX9_rewind yX9_rewind, Cond.code yX9_rewind cX9_rewind 1 none, Cond.methodLink RX10 52 yX10_readLine, Cond.instanceMethod yX10_readLine, Cond.selects RX10 yX10_readLine yX10_readLine, Cond.code yX10_readLine cX10_readLine 4 (some .boolean), Cond.fieldLink RX10 81 "LadleKings$Tape" "token" "I", Cond.fieldLink RX10 92 "LadleKings$Tape" "start" "I", Cond.fieldLink RX10 95 "LadleKings$TextReader" "MOST" "[I", Cond.fieldLink RX10 98 "LadleKings$TextReader" "FEWEST" "[I", Cond.fieldLink RX10 109 "LadleKings$Tape" "value" "I", Cond.methodLink RX10 78 yX9_readToken, Cond.instanceMethod yX9_readToken, Cond.selects RX9 yX9_readToken yX9_readToken, Cond.code yX9_readToken cX9_readToken 1 none, Cond.methodLink RX9 31 yX9_isLetter, Cond.static yX9_isLetter, Cond.code yX9_isLetter cX9_isLetter 1 (some .boolean)]
def wsL_law_r13 : List Cond := [Cond.methodLink RX9 35 yX9_readName, Cond.instanceMethod yX9_readName, Cond.selects RX9 yX9_readName yX9_readName, Cond.code yX9_readName cX9_readName 1 none, Cond.methodLink RX9 38 yX9_isFigure, Cond.static yX9_isFigure, Cond.code yX9_isFigure cX9_isFigure 1 (some .boolean), Cond.methodLink RX9 41 yX9_readFigures, Cond.instanceMethod yX9_readFigures, Cond.selects RX9 yX9_readFigures yX9_readFigures, Cond.code yX9_readFigures cX9_readFigures 1 none, Cond.methodLink RX10 84 yX10_nameRead, Cond.instanceMethod yX10_nameRead, Cond.selects RX10 yX10_nameRead yX10_nameRead, Cond.code yX10_nameRead cX10_nameRead 2 (some .int), Cond.methodLink RX10 112 yX10_nameOf, Cond.static yX10_nameOf, Cond.code yX10_nameOf cX10_nameOf 1 (some (.object "java/lang/String")), Cond.methodLink RX10 116 yX9_isNamed, Cond.instanceMethod yX9_isNamed, Cond.selects RX9 yX9_isNamed yX9_isNamed, Cond.code yX9_isNamed cX9_isNamed 3 (some .boolean), Cond.methodLink RX9 44 yJ0_length_8abf5, Cond.instanceMethod yJ0_length_8abf5]
def wsL_law_r14 : List Cond := [Cond.selects RJ0 yJ0_length_8abf5 yJ0_length_8abf5, Cond.initialized RJ0, Cond.code yJ0_length_8abf5 cJ0_length_8abf5 1 (some .int), Cond.fieldLink RJ0 9 "java/lang/String" "value" "[B", Cond.methodLink RJ0 335 yJ0_coder_7d493, Cond.instanceMethod yJ0_coder_7d493, Cond.selects RJ0 yJ0_coder_7d493 yJ0_coder_7d493, Cond.code yJ0_coder_7d493 cJ0_coder_7d493 1 (some .byte), Cond.fieldLink RJ0 38 "java/lang/String" "COMPACT_STRINGS" "Z", Cond.fieldLink RJ0 15 "java/lang/String" "coder" "B", Cond.methodLink RX9 49 yJ0_charAt_5068e, Cond.instanceMethod yJ0_charAt_5068e, Cond.selects RJ0 yJ0_charAt_5068e yJ0_charAt_5068e, Cond.code yJ0_charAt_5068e cJ0_charAt_5068e 2 (some .char), Cond.methodLink RJ0 492 yJ0_isLatin1_aae02, Cond.instanceMethod yJ0_isLatin1_aae02, Cond.selects RJ0 yJ0_isLatin1_aae02 yJ0_isLatin1_aae02, Cond.code yJ0_isLatin1_aae02 cJ0_isLatin1_aae02 1 (some .boolean), Cond.methodLink RJ0 495 yJ1_charAt_3b067, Cond.static yJ1_charAt_3b067, Cond.initialized RJ1, Cond.code yJ1_charAt_3b067 cJ1_charAt_3b067 2 (some .char), Cond.methodLink RJ1 9 yJ0_checkIndex_df160, Cond.static yJ0_checkIndex_df160]
def wsL_law_r15 : List Cond := [Cond.code yJ0_checkIndex_df160 cJ0_checkIndex_df160 2 none, Cond.fieldLink RJ0 1053 "jdk/internal/util/Preconditions" "SIOOBE_FORMATTER" "Ljava/util/function/BiFunction;", Cond.methodLink RJ0 1059 yJ3_checkIndex_8e157, Cond.static yJ3_checkIndex_8e157, Cond.initialized RJ3, Cond.code yJ3_checkIndex_8e157 cJ3_checkIndex_8e157 3 (some .int), Cond.methodLink RJ0 498 yJ2_charAt_3b067, Cond.static yJ2_charAt_3b067, Cond.initialized RJ2, Cond.code yJ2_charAt_3b067 cJ2_charAt_3b067 2 (some .char), Cond.methodLink RJ2 67 yJ2_checkIndex_2214a, Cond.static yJ2_checkIndex_2214a, Cond.code yJ2_checkIndex_2214a cJ2_checkIndex_2214a 2 none, Cond.methodLink RJ2 48 yJ2_length_9d52b, Cond.static yJ2_length_9d52b, Cond.code yJ2_length_9d52b cJ2_length_9d52b 1 (some .int), Cond.methodLink RJ2 414 yJ0_checkIndex_df160, Cond.methodLink RJ2 71 yJ2_getChar_3b067, Cond.static yJ2_getChar_3b067, Cond.code yJ2_getChar_3b067 cJ2_getChar_3b067 2 (some .char), Cond.fieldLink RJ2 44 "java/lang/StringUTF16" "$assertionsDisabled" "Z", Cond.fieldLink RJ2 59 "java/lang/StringUTF16" "HI_BYTE_SHIFT" "I", Cond.fieldLink RJ2 63 "java/lang/StringUTF16" "LO_BYTE_SHIFT" "I", Cond.methodLink RX10 88 yX10_faultOfName]
def wsL_law_r16 : List Cond := [Cond.instanceMethod yX10_faultOfName, Cond.selects RX10 yX10_faultOfName yX10_faultOfName, Cond.code yX10_faultOfName cX10_faultOfName 2 (some .int), Cond.fieldLink RX10 141 "LadleKings$Rules" "stirs" "I", Cond.methodLink RX10 64 yX10_refuse, Cond.instanceMethod yX10_refuse, Cond.selects RX10 yX10_refuse yX10_refuse, Cond.code yX10_refuse cX10_refuse 3 (some .boolean), Cond.methodLink RX10 101 yX10_takeLine, Cond.instanceMethod yX10_takeLine, Cond.selects RX10 yX10_takeLine yX10_takeLine, Cond.code yX10_takeLine cX10_takeLine 5 none, Cond.fieldLink RX10 163 "LadleKings$State" "pieces" "[I", Cond.methodLink RX10 166 arraycopyName, Cond.native arraycopyName, Cond.static arraycopyName, Cond.initialized "java/lang/System", Cond.fieldLink RX10 176 "LadleKings$State" "bone" "I", Cond.fieldLink RX10 178 "LadleKings$State" "king" "I", Cond.methodLink RX10 184 Lib.Math.max.name, Cond.static Lib.Math.max.name, Cond.initialized "java/lang/Math", Cond.code Lib.Math.max.name Lib.Math.max.code 2 (some .int), Cond.fieldLink RX10 189 "LadleKings$State" "spoons" "[I"]
def wsL_law_r17 : List Cond := [Cond.fieldLink RX10 191 "LadleKings$Rules" "need" "[I", Cond.methodLink RX10 172 yX10_heed, Cond.instanceMethod yX10_heed, Cond.selects RX10 yX10_heed yX10_heed, Cond.code yX10_heed cX10_heed 2 none, Cond.methodLink RX10 180 yX8_setFriend, Cond.instanceMethod yX8_setFriend, Cond.selects RX8 yX8_setFriend yX8_setFriend, Cond.code yX8_setFriend cX8_setFriend 4 none, Cond.methodLink RX10 193 yX10_takeStir, Cond.instanceMethod yX10_takeStir, Cond.selects RX10 yX10_takeStir yX10_takeStir, Cond.code yX10_takeStir cX10_takeStir 4 none, Cond.methodLink RX10 197 yX6_addStir, Cond.instanceMethod yX6_addStir, Cond.selects RX6 yX6_addStir yX6_addStir, Cond.code yX6_addStir cX6_addStir 4 none, Cond.methodLink RX10 105 yX10_faultOfNumber, Cond.instanceMethod yX10_faultOfNumber, Cond.selects RX10 yX10_faultOfNumber yX10_faultOfNumber, Cond.code yX10_faultOfNumber cX10_faultOfNumber 6 (some .int), Cond.fieldLink RX10 144 "LadleKings$TextReader" "FIRST_LOW" "[I", Cond.fieldLink RX10 147 "LadleKings$TextReader" "LATER_LOW" "[I", Cond.fieldLink RX10 150 "LadleKings$TextReader" "FIRST_HIGH" "[I"]
def wsL_law_r18 : List Cond := [Cond.fieldLink RX10 153 "LadleKings$TextReader" "LATER_HIGH" "[I", Cond.methodLink RX10 156 yX10_isAgain, Cond.instanceMethod yX10_isAgain, Cond.selects RX10 yX10_isAgain yX10_isAgain, Cond.code yX10_isAgain cX10_isAgain 3 (some .boolean), Cond.methodLink RX10 160 yX8_isFriend, Cond.instanceMethod yX8_isFriend, Cond.selects RX8 yX8_isFriend yX8_isFriend, Cond.code yX8_isFriend cX8_isFriend 3 (some .boolean), Cond.methodLink RX10 68 yX6_workOutStirs, Cond.instanceMethod yX6_workOutStirs, Cond.selects RX6 yX6_workOutStirs yX6_workOutStirs, Cond.code yX6_workOutStirs cX6_workOutStirs 3 none, Cond.methodLink RX6 46 yX6_workOut, Cond.instanceMethod yX6_workOut, Cond.selects RX6 yX6_workOut yX6_workOut, Cond.code yX6_workOut cX6_workOut 3 (some .int), Cond.methodLink RX6 50 yX6_inRing, Cond.instanceMethod yX6_inRing, Cond.selects RX6 yX6_inRing yX6_inRing, Cond.code yX6_inRing cX6_inRing 4 (some .int), Cond.methodLink RX6 54 yX6_swapped, Cond.static yX6_swapped, Cond.code yX6_swapped cX6_swapped 3 (some .int)]
def wsL_law_r19 : List Cond := [Cond.methodLink RX6 58 yX6_lifted, Cond.static yX6_lifted, Cond.code yX6_lifted cX6_lifted 2 (some .int), Cond.methodLink RX11 122 yX6_copy, Cond.instanceMethod yX6_copy, Cond.selects RX6 yX6_copy yX6_copy, Cond.code yX6_copy cX6_copy 2 none, Cond.methodLink RX6 40 arraycopyName, Cond.methodLink RX11 127 yX8_copy, Cond.instanceMethod yX8_copy, Cond.selects RX8 yX8_copy yX8_copy, Cond.code yX8_copy cX8_copy 2 none, Cond.methodLink RX8 46 arraycopyName, Cond.methodLink RL 29 yX12_text, Cond.instanceMethod yX12_text, Cond.selects RX12 yX12_text yX12_text, Cond.code yX12_text cX12_text 2 (some .int), Cond.fieldLink RX12 119 "LadleKingsModel" "fault" "I", Cond.fieldLink RX12 128 "LadleKingsModel" "pos" "I", Cond.fieldLink RX12 147 "LadleKingsModel" "sort" "I", Cond.fieldLink RX12 125 "LadleKingsModel" "wrongAt" "I", Cond.methodLink RX12 168 yX12_nextToken, Cond.instanceMethod yX12_nextToken, Cond.selects RX12 yX12_nextToken yX12_nextToken]
def wsL_law_r20 : List Cond := [Cond.code yX12_nextToken cX12_nextToken 2 none, Cond.fieldLink RX12 122 "LadleKingsModel" "from" "I", Cond.constantLong RX12 150 (97), Cond.constantLong RX12 152 (122), Cond.constantLong RX12 154 (48), Cond.constantLong RX12 156 (57), Cond.fieldLink RX12 158 "LadleKingsModel" "value" "I", Cond.methodLink RX12 131 yX12_look, Cond.instanceMethod yX12_look, Cond.selects RX12 yX12_look yX12_look, Cond.code yX12_look cX12_look 2 (some .int), Cond.methodLink RX12 161 yX12_needs, Cond.instanceMethod yX12_needs, Cond.selects RX12 yX12_needs yX12_needs, Cond.code yX12_needs cX12_needs 3 none, Cond.methodLink RX12 200 yX12_readLine, Cond.instanceMethod yX12_readLine, Cond.selects RX12 yX12_readLine yX12_readLine, Cond.code yX12_readLine cX12_readLine 2 none, Cond.constantLong RX12 193 (4), Cond.constantLong RX12 195 (7), Cond.methodLink RX12 190 yX12_lineNow, Cond.instanceMethod yX12_lineNow, Cond.selects RX12 yX12_lineNow yX12_lineNow]
def wsL_law_r21 : List Cond := [Cond.code yX12_lineNow cX12_lineNow 1 (some .int), Cond.methodLink RX12 135 yX12_is, Cond.instanceMethod yX12_is, Cond.selects RX12 yX12_is yX12_is, Cond.code yX12_is cX12_is 5 (some .boolean), Cond.methodLink RX12 139 yX12_ends, Cond.instanceMethod yX12_ends, Cond.selects RX12 yX12_ends yX12_ends, Cond.code yX12_ends cX12_ends 4 (some .boolean), Cond.methodLink RX12 143 yX12_stirNow, Cond.instanceMethod yX12_stirNow, Cond.selects RX12 yX12_stirNow yX12_stirNow, Cond.code yX12_stirNow cX12_stirNow 1 (some .int), Cond.methodLink RX12 197 yX12_readLineOf, Cond.instanceMethod yX12_readLineOf, Cond.selects RX12 yX12_readLineOf yX12_readLineOf, Cond.code yX12_readLineOf cX12_readLineOf 3 none, Cond.methodLink RX12 177 yX12_readNumber, Cond.instanceMethod yX12_readNumber, Cond.selects RX12 yX12_readNumber yX12_readNumber, Cond.code yX12_readNumber cX12_readNumber 4 (some .int), Cond.methodLink RX12 165 yX12_looked, Cond.instanceMethod yX12_looked, Cond.selects RX12 yX12_looked yX12_looked]
def wsL_law_r22 : List Cond := [Cond.code yX12_looked cX12_looked 3 (some .int), Cond.methodLink RX12 180 yX12_readPot, Cond.instanceMethod yX12_readPot, Cond.selects RX12 yX12_readPot yX12_readPot, Cond.code yX12_readPot cX12_readPot 4 none, Cond.methodLink RX12 174 yX12_readPlace, Cond.instanceMethod yX12_readPlace, Cond.selects RX12 yX12_readPlace yX12_readPlace, Cond.code yX12_readPlace cX12_readPlace 2 (some .int), Cond.methodLink RX12 171 yX12_lookedPlace, Cond.instanceMethod yX12_lookedPlace, Cond.selects RX12 yX12_lookedPlace yX12_lookedPlace, Cond.code yX12_lookedPlace cX12_lookedPlace 2 (some .int), Cond.methodLink RX12 183 yX12_readFriend, Cond.instanceMethod yX12_readFriend, Cond.selects RX12 yX12_readFriend yX12_readFriend, Cond.code yX12_readFriend cX12_readFriend 3 none, Cond.methodLink RX12 186 yX12_readStir, Cond.instanceMethod yX12_readStir, Cond.selects RX12 yX12_readStir yX12_readStir, Cond.code yX12_readStir cX12_readStir 4 none, Cond.methodLink RL 30 yX11_fault, Cond.instanceMethod yX11_fault, Cond.selects RX11 yX11_fault yX11_fault]
def wsL_law_r23 : List Cond := [Cond.code yX11_fault cX11_fault 1 (some .int), Cond.methodLink RL 33 yX12_fault, Cond.instanceMethod yX12_fault, Cond.selects RX12 yX12_fault yX12_fault, Cond.code yX12_fault cX12_fault 1 (some .int), Cond.methodLink RL 34 yX11_rule, Cond.instanceMethod yX11_rule, Cond.selects RX11 yX11_rule yX11_rule, Cond.code yX11_rule cX11_rule 2 (some .int), Cond.fieldLink RX11 130 "LadleKings$Rules" "seats" "I", Cond.fieldLink RX11 133 "LadleKings$Rules" "stirs" "I", Cond.fieldLink RX11 136 "LadleKings$State" "king" "I", Cond.fieldLink RX11 139 "LadleKings$State" "days" "I", Cond.fieldLink RX11 142 "LadleKings$State" "bone" "I", Cond.methodLink RL 37 yX12_rule, Cond.instanceMethod yX12_rule, Cond.selects RX12 yX12_rule yX12_rule, Cond.code yX12_rule cX12_rule 2 (some .int), Cond.methodLink RL 38 yX11_pot, Cond.instanceMethod yX11_pot, Cond.selects RX11 yX11_pot yX11_pot, Cond.code yX11_pot cX11_pot 2 (some .int), Cond.fieldLink RX11 149 "LadleKings$State" "pieces" "[I", Cond.methodLink RX11 145 yX6_hasSeat]
def wsL_law_r24 : List Cond := [Cond.instanceMethod yX6_hasSeat, Cond.selects RX6 yX6_hasSeat yX6_hasSeat, Cond.code yX6_hasSeat cX6_hasSeat 2 (some .boolean), Cond.methodLink RL 41 yX12_pot, Cond.instanceMethod yX12_pot, Cond.selects RX12 yX12_pot yX12_pot, Cond.code yX12_pot cX12_pot 2 (some .int), Cond.methodLink RX12 203 yX12_isSeat, Cond.instanceMethod yX12_isSeat, Cond.selects RX12 yX12_isSeat yX12_isSeat, Cond.code yX12_isSeat cX12_isSeat 2 (some .boolean), Cond.methodLink RL 42 yX11_one, Cond.instanceMethod yX11_one, Cond.selects RX11 yX11_one yX11_one, Cond.code yX11_one cX11_one 3 (some .int), Cond.fieldLink RX11 153 "LadleKings$State" "friends" "[I", Cond.fieldLink RX11 156 "LadleKings$State" "spoons" "[I", Cond.fieldLink RX11 159 "LadleKings$Rules" "need" "[I", Cond.fieldLink RX11 162 "LadleKings$State" "eaten" "[I", Cond.methodLink RL 46 yX12_one, Cond.instanceMethod yX12_one, Cond.selects RX12 yX12_one yX12_one, Cond.code yX12_one cX12_one 3 (some .int), Cond.methodLink RL 47 yX11_stir]
def wsL_law_r25 : List Cond := [Cond.instanceMethod yX11_stir, Cond.selects RX11 yX11_stir yX11_stir, Cond.code yX11_stir cX11_stir 3 (some .int), Cond.methodLink RX11 165 yX6_hasStir, Cond.instanceMethod yX6_hasStir, Cond.selects RX6 yX6_hasStir yX6_hasStir, Cond.code yX6_hasStir cX6_hasStir 2 (some .boolean), Cond.methodLink RX11 168 yX6_placeAfter, Cond.instanceMethod yX6_placeAfter, Cond.selects RX6 yX6_placeAfter yX6_placeAfter, Cond.code yX6_placeAfter cX6_placeAfter 3 (some .int), Cond.methodLink RL 50 yX12_stir, Cond.instanceMethod yX12_stir, Cond.selects RX12 yX12_stir yX12_stir, Cond.code yX12_stir cX12_stir 3 (some .int), Cond.methodLink RX12 207 yX12_isStir, Cond.instanceMethod yX12_isStir, Cond.selects RX12 yX12_isStir yX12_isStir, Cond.code yX12_isStir cX12_isStir 2 (some .boolean), Cond.methodLink RL 51 yX11_befriend, Cond.instanceMethod yX11_befriend, Cond.selects RX11 yX11_befriend yX11_befriend, Cond.code yX11_befriend cX11_befriend 5 (some .int), Cond.methodLink RX11 172 yX8_isFriend]
def wsL_law_r26 : List Cond := [Cond.methodLink RX11 176 yX8_setFriend, Cond.methodLink RL 55 yX12_befriend, Cond.instanceMethod yX12_befriend, Cond.selects RX12 yX12_befriend yX12_befriend, Cond.code yX12_befriend cX12_befriend 5 (some .int), Cond.methodLink RL 56 yX11_spoon, Cond.instanceMethod yX11_spoon, Cond.selects RX11 yX11_spoon yX11_spoon, Cond.code yX11_spoon cX11_spoon 4 (some .int), Cond.methodLink RL 59 yX12_spoon, Cond.instanceMethod yX12_spoon, Cond.selects RX12 yX12_spoon yX12_spoon, Cond.code yX12_spoon cX12_spoon 4 (some .int), Cond.constantLong RX12 210 (9), Cond.methodLink RL 60 yX11_crown, Cond.instanceMethod yX11_crown, Cond.selects RX11 yX11_crown yX11_crown, Cond.code yX11_crown cX11_crown 3 (some .int), Cond.methodLink RL 63 yX12_crown, Cond.instanceMethod yX12_crown, Cond.selects RX12 yX12_crown yX12_crown, Cond.code yX12_crown cX12_crown 3 (some .int), Cond.methodLink RL 64 yX11_fill, Cond.instanceMethod yX11_fill]
def wsL_law_r27 : List Cond := [Cond.selects RX11 yX11_fill yX11_fill, Cond.code yX11_fill cX11_fill 4 (some .int), Cond.methodLink RL 67 yX12_fill, Cond.instanceMethod yX12_fill, Cond.selects RX12 yX12_fill yX12_fill, Cond.code yX12_fill cX12_fill 4 (some .int), Cond.methodLink RL 68 yX11_bowl, Cond.instanceMethod yX11_bowl, Cond.selects RX11 yX11_bowl yX11_bowl, Cond.code yX11_bowl cX11_bowl 4 (some .int), Cond.methodLink RX11 180 yX2_serve, Cond.instanceMethod yX2_serve, Cond.selects RX2 yX2_serve yX2_serve, Cond.code yX2_serve cX2_serve 7 none, Cond.fieldLink RX2 29 "LadleKings$Rules" "seats" "I", Cond.methodLink RX2 35 yX6_inRing, Cond.methodLink RX2 39 yX8_isFriend, Cond.methodLink RX11 184 yX2_stirPot, Cond.instanceMethod yX2_stirPot, Cond.selects RX2 yX2_stirPot yX2_stirPot, Cond.code yX2_stirPot cX2_stirPot 2 none, Cond.fieldLink RX2 49 "LadleKings$State" "pieces" "[I", Cond.methodLink RX2 52 yX6_stirInto, Cond.instanceMethod yX6_stirInto]
def wsL_law_r28 : List Cond := [Cond.selects RX6 yX6_stirInto yX6_stirInto, Cond.code yX6_stirInto cX6_stirInto 5 none, Cond.methodLink RX6 61 yX6_placeAfter, Cond.methodLink RX11 187 yX2_bowlOf, Cond.instanceMethod yX2_bowlOf, Cond.selects RX2 yX2_bowlOf yX2_bowlOf, Cond.code yX2_bowlOf cX2_bowlOf 3 (some .int), Cond.methodLink RX2 56 yX2_placeOf, Cond.instanceMethod yX2_placeOf, Cond.selects RX2 yX2_placeOf yX2_placeOf, Cond.code yX2_placeOf cX2_placeOf 3 (some .int), Cond.methodLink RL 72 yX12_bowl, Cond.instanceMethod yX12_bowl, Cond.selects RX12 yX12_bowl yX12_bowl, Cond.code yX12_bowl cX12_bowl 4 (some .int), Cond.methodLink RX12 216 yX12_findPlaces, Cond.instanceMethod yX12_findPlaces, Cond.selects RX12 yX12_findPlaces yX12_findPlaces, Cond.code yX12_findPlaces cX12_findPlaces 7 none, Cond.methodLink RX12 212 yX12_flag, Cond.static yX12_flag, Cond.code yX12_flag cX12_flag 1 (some .int), Cond.methodLink RX12 219 yX12_cameFrom, Cond.instanceMethod yX12_cameFrom]
def wsL_law_r29 : List Cond := [Cond.selects RX12 yX12_cameFrom yX12_cameFrom, Cond.code yX12_cameFrom cX12_cameFrom 4 (some .int), Cond.methodLink RL 73 yX11_ladle, Cond.instanceMethod yX11_ladle, Cond.selects RX11 yX11_ladle yX11_ladle, Cond.code yX11_ladle cX11_ladle 4 (some .int), Cond.methodLink RX11 190 yX2_placeOf, Cond.methodLink RL 76 yX12_ladle, Cond.instanceMethod yX12_ladle, Cond.selects RX12 yX12_ladle yX12_ladle, Cond.code yX12_ladle cX12_ladle 4 (some .int), Cond.methodLink RL 77 yX11_next, Cond.instanceMethod yX11_next, Cond.selects RX11 yX11_next yX11_next, Cond.code yX11_next cX11_next 3 (some .int), Cond.methodLink RX11 193 yX2_holderOf, Cond.instanceMethod yX2_holderOf, Cond.selects RX2 yX2_holderOf yX2_holderOf, Cond.code yX2_holderOf cX2_holderOf 3 (some .int), Cond.methodLink RL 80 yX12_next, Cond.instanceMethod yX12_next, Cond.selects RX12 yX12_next yX12_next, Cond.code yX12_next cX12_next 3 (some .int), Cond.methodLink RX12 222 yX12_nextBy]
def wsL_law_r30 : List Cond := [Cond.instanceMethod yX12_nextBy, Cond.selects RX12 yX12_nextBy yX12_nextBy, Cond.code yX12_nextBy cX12_nextBy 5 (some .int), Cond.methodLink RL 81 yX11_day, Cond.instanceMethod yX11_day, Cond.selects RX11 yX11_day yX11_day, Cond.code yX11_day cX11_day 2 (some .int), Cond.methodLink RX11 196 yX2_passDay, Cond.instanceMethod yX2_passDay, Cond.selects RX2 yX2_passDay yX2_passDay, Cond.code yX2_passDay cX2_passDay 4 none, Cond.fieldLink RX2 60 "LadleKings$State" "king" "I", Cond.methodLink RX2 66 arraycopyName, Cond.fieldLink RX2 72 "LadleKings$State" "bone" "I", Cond.fieldLink RX2 78 "LadleKings$State" "eaten" "[I", Cond.fieldLink RX2 87 "LadleKings$State" "days" "I", Cond.methodLink RX2 45 yX2_serve, Cond.methodLink RX2 63 yX2_stirPot, Cond.methodLink RX2 75 yX6_placeAfter, Cond.methodLink RX2 81 yX2_bowlOf, Cond.methodLink RX2 84 yX2_holderOf, Cond.methodLink RL 84 yX12_day, Cond.instanceMethod yX12_day, Cond.selects RX12 yX12_day yX12_day]
def wsL_law_r31 : List Cond := [Cond.code yX12_day cX12_day 2 (some .int), Cond.methodLink RX12 226 yX12_goesDay, Cond.instanceMethod yX12_goesDay, Cond.selects RX12 yX12_goesDay yX12_goesDay, Cond.code yX12_goesDay cX12_goesDay 4 none, Cond.methodLink RL 85 yX11_hungry, Cond.instanceMethod yX11_hungry, Cond.selects RX11 yX11_hungry yX11_hungry, Cond.code yX11_hungry cX11_hungry 3 (some .int), Cond.methodLink RL 88 yX12_hungry, Cond.instanceMethod yX12_hungry, Cond.selects RX12 yX12_hungry yX12_hungry, Cond.code yX12_hungry cX12_hungry 3 (some .int), Cond.methodLink RL 89 yX11_chance, Cond.instanceMethod yX11_chance, Cond.selects RX11 yX11_chance yX11_chance, Cond.code yX11_chance cX11_chance 4 (some .long), Cond.constantLong RX11 202 (-1), Cond.constantLong RX11 204 (-2), Cond.methodLink RX11 199 yX11_isPart, Cond.static yX11_isPart, Cond.code yX11_isPart cX11_isPart 1 (some .boolean), Cond.methodLink RX11 206 yX3_rowsToCrown, Cond.instanceMethod yX3_rowsToCrown]
def wsL_law_r32 : List Cond := [Cond.selects RX3 yX3_rowsToCrown yX3_rowsToCrown, Cond.code yX3_rowsToCrown cX3_rowsToCrown 4 (some .long), Cond.methodLink RX3 25 yX3_begin, Cond.instanceMethod yX3_begin, Cond.selects RX3 yX3_begin yX3_begin, Cond.code yX3_begin cX3_begin 1 none, Cond.fieldLink RX3 36 "LadleKings$Kitchen" "state" "LLadleKings$State;", Cond.fieldLink RX3 42 "LadleKings$State" "king" "I", Cond.fieldLink RX3 57 "LadleKings$State" "bone" "I", Cond.methodLink RX3 48 yX2_serveAllKings, Cond.instanceMethod yX2_serveAllKings, Cond.selects RX2 yX2_serveAllKings yX2_serveAllKings, Cond.code yX2_serveAllKings cX2_serveAllKings 2 none, Cond.methodLink RX3 51 yJ7_fill_d0a16, Cond.static yJ7_fill_d0a16, Cond.code yJ7_fill_d0a16 cJ7_fill_d0a16 5 none, Cond.methodLink RX3 28 yX3_goOn, Cond.instanceMethod yX3_goOn, Cond.selects RX3 yX3_goOn yX3_goOn, Cond.code yX3_goOn cX3_goOn 4 none, Cond.fieldLink RX3 60 "LadleKings$Kitchen" "rules" "LLadleKings$Rules;", Cond.fieldLink RX3 64 "LadleKings$Rules" "seats" "I", Cond.methodLink RX3 73 arraycopyName, Cond.methodLink RX3 69 yX3_goOnFrom]
def wsL_law_r33 : List Cond := [Cond.instanceMethod yX3_goOnFrom, Cond.selects RX3 yX3_goOnFrom yX3_goOnFrom, Cond.code yX3_goOnFrom cX3_goOnFrom 7 none, Cond.fieldLink RX3 79 "LadleKings$Rules" "stirs" "I", Cond.methodLink RX3 82 yX6_placeAfter, Cond.methodLink RX3 86 yX2_holderOf, Cond.methodLink RX3 32 yX3_rowsWithKing, Cond.instanceMethod yX3_rowsWithKing, Cond.selects RX3 yX3_rowsWithKing yX3_rowsWithKing, Cond.code yX3_rowsWithKing cX3_rowsWithKing 5 (some .long), Cond.methodLink RX11 210 yX3_power, Cond.static yX3_power, Cond.code yX3_power cX3_power 5 (some .long), Cond.methodLink RX11 213 yX3_part, Cond.static yX3_part, Cond.code yX3_part cX3_part 7 (some .long), Cond.methodLink RX3 89 yX3_greatestDivisor, Cond.static yX3_greatestDivisor, Cond.code yX3_greatestDivisor cX3_greatestDivisor 11 (some .long), Cond.methodLink RL 93 yX12_chance, Cond.instanceMethod yX12_chance, Cond.selects RX12 yX12_chance yX12_chance, Cond.code yX12_chance cX12_chance 7 (some .long), Cond.constantLong RX12 236 (10)]
def wsL_law_r34 : List Cond := [Cond.constantLong RX12 241 (-1), Cond.constantLong RX12 243 (-2), Cond.methodLink RX12 238 yX12_isTold, Cond.static yX12_isTold, Cond.code yX12_isTold cX12_isTold 1 (some .boolean), Cond.methodLink RX12 245 yX12_firstWays, Cond.instanceMethod yX12_firstWays, Cond.selects RX12 yX12_firstWays yX12_firstWays, Cond.code yX12_firstWays cX12_firstWays 2 none, Cond.methodLink RX12 248 yX12_nextWays, Cond.instanceMethod yX12_nextWays, Cond.selects RX12 yX12_nextWays yX12_nextWays, Cond.code yX12_nextWays cX12_nextWays 5 none, Cond.methodLink RX12 233 yX12_then, Cond.instanceMethod yX12_then, Cond.selects RX12 yX12_then yX12_then, Cond.code yX12_then cX12_then 3 (some .int), Cond.methodLink RX12 252 yX12_power, Cond.instanceMethod yX12_power, Cond.selects RX12 yX12_power yX12_power, Cond.code yX12_power cX12_power 7 (some .long), Cond.methodLink RX12 256 yX12_lowest, Cond.static yX12_lowest, Cond.code yX12_lowest cX12_lowest 7 (some .long)]
def wsL_law_r35 : List Cond := [Cond.methodLink RX12 229 yX12_common, Cond.static yX12_common, Cond.code yX12_common cX12_common 10 (some .long), Cond.methodLink RL 94 yX11_lasts, Cond.instanceMethod yX11_lasts, Cond.selects RX11 yX11_lasts yX11_lasts, Cond.code yX11_lasts cX11_lasts 3 (some .long), Cond.methodLink RX11 217 yX3_rowsOfReign, Cond.instanceMethod yX3_rowsOfReign, Cond.selects RX3 yX3_rowsOfReign yX3_rowsOfReign, Cond.code yX3_rowsOfReign cX3_rowsOfReign 3 (some .long), Cond.methodLink RL 98 yX12_lasts, Cond.instanceMethod yX12_lasts, Cond.selects RX12 yX12_lasts yX12_lasts, Cond.code yX12_lasts cX12_lasts 6 (some .long), Cond.methodLink RL 99 yX11_reign, Cond.instanceMethod yX11_reign, Cond.selects RX11 yX11_reign yX11_reign, Cond.code yX11_reign cX11_reign 4 (some .int), Cond.fieldLink RX11 228 "LadleKings$Plans" "row" "[I", Cond.methodLink RX11 221 yX11_isRowQuestion, Cond.static yX11_isRowQuestion, Cond.code yX11_isRowQuestion cX11_isRowQuestion 2 (some .boolean), Cond.methodLink RX11 224 yX5_planReign]
def wsL_law_r36 : List Cond := [Cond.instanceMethod yX5_planReign, Cond.selects RX5 yX5_planReign yX5_planReign, Cond.code yX5_planReign cX5_planReign 4 (some .int), Cond.methodLink RX5 23 yX2_serveAllKings, Cond.methodLink RX5 28 yX5_allPairs, Cond.instanceMethod yX5_allPairs, Cond.selects RX5 yX5_allPairs yX5_allPairs, Cond.code yX5_allPairs cX5_allPairs 4 (some .long), Cond.fieldLink RX5 48 "LadleKings$Kitchen" "rules" "LLadleKings$Rules;", Cond.fieldLink RX5 52 "LadleKings$Rules" "seats" "I", Cond.methodLink RX5 44 yX5_pairsOfKing, Cond.instanceMethod yX5_pairsOfKing, Cond.selects RX5 yX5_pairsOfKing yX5_pairsOfKing, Cond.code yX5_pairsOfKing cX5_pairsOfKing 5 (some .long), Cond.methodLink RX5 58 yX5_bitOf, Cond.static yX5_bitOf, Cond.code yX5_bitOf cX5_bitOf 2 (some .long), Cond.methodLink RX5 32 yX5_pairsBefore, Cond.instanceMethod yX5_pairsBefore, Cond.selects RX5 yX5_pairsBefore yX5_pairsBefore, Cond.code yX5_pairsBefore cX5_pairsBefore 8 (some .long), Cond.methodLink RX5 74 yX5_firstStirInto, Cond.instanceMethod yX5_firstStirInto, Cond.selects RX5 yX5_firstStirInto yX5_firstStirInto]
def wsL_law_r37 : List Cond := [Cond.code yX5_firstStirInto cX5_firstStirInto 9 (some .int), Cond.fieldLink RX5 78 "LadleKings$Rules" "stirs" "I", Cond.methodLink RX5 81 yX6_placeAfter, Cond.methodLink RX5 85 yX2_holderOf, Cond.methodLink RX5 36 yX5_isGoodNow, Cond.instanceMethod yX5_isGoodNow, Cond.selects RX5 yX5_isGoodNow yX5_isGoodNow, Cond.code yX5_isGoodNow cX5_isGoodNow 2 (some .boolean), Cond.fieldLink RX5 62 "LadleKings$Kitchen" "state" "LLadleKings$State;", Cond.fieldLink RX5 66 "LadleKings$State" "king" "I", Cond.fieldLink RX5 71 "LadleKings$State" "bone" "I", Cond.methodLink RX5 40 yX5_tellRow, Cond.instanceMethod yX5_tellRow, Cond.selects RX5 yX5_tellRow yX5_tellRow, Cond.code yX5_tellRow cX5_tellRow 7 none, Cond.methodLink RX5 88 yX6_hasStir, Cond.methodLink RX11 231 yX11_ofRow, Cond.static yX11_ofRow, Cond.code yX11_ofRow cX11_ofRow 3 (some .int), Cond.methodLink RL 102 yX12_reign, Cond.instanceMethod yX12_reign, Cond.selects RX12 yX12_reign yX12_reign, Cond.code yX12_reign cX12_reign 10 (some .int), Cond.constantLong RX12 263 (19)]
def wsL_law_r38 : List Cond := [Cond.methodLink RX12 265 yX12_findStays, Cond.instanceMethod yX12_findStays, Cond.selects RX12 yX12_findStays yX12_findStays, Cond.code yX12_findStays cX12_findStays 8 none, Cond.methodLink RX12 260 yX12_longestFrom, Cond.instanceMethod yX12_longestFrom, Cond.selects RX12 yX12_longestFrom yX12_longestFrom, Cond.code yX12_longestFrom cX12_longestFrom 3 (some .int), Cond.methodLink RX12 268 yX12_stateNow, Cond.instanceMethod yX12_stateNow, Cond.selects RX12 yX12_stateNow yX12_stateNow, Cond.code yX12_stateNow cX12_stateNow 1 (some .int), Cond.methodLink RL 103 yX11_raise, Cond.instanceMethod yX11_raise, Cond.selects RX11 yX11_raise yX11_raise, Cond.code yX11_raise cX11_raise 4 (some .int), Cond.methodLink RX11 235 yX5_planRaise, Cond.instanceMethod yX5_planRaise, Cond.selects RX5 yX5_planRaise yX5_planRaise, Cond.code yX5_planRaise cX5_planRaise 3 (some .int), Cond.methodLink RL 106 yX12_raise, Cond.instanceMethod yX12_raise, Cond.selects RX12 yX12_raise yX12_raise, Cond.code yX12_raise cX12_raise 8 (some .int)]
def wsL_law_r39 : List Cond := [Cond.methodLink RX12 272 yX12_findFewest, Cond.instanceMethod yX12_findFewest, Cond.selects RX12 yX12_findFewest yX12_findFewest, Cond.code yX12_findFewest cX12_findFewest 6 none, Cond.constant RX12 271 (1000000), Cond.methodLink RL 107 yX11_coup, Cond.instanceMethod yX11_coup, Cond.selects RX11 yX11_coup yX11_coup, Cond.code yX11_coup cX11_coup 5 (some .int), Cond.methodLink RX11 238 yX2_serveAllKings, Cond.methodLink RX11 241 yX0_leastLeader, Cond.instanceMethod yX0_leastLeader, Cond.selects RX0 yX0_leastLeader yX0_leastLeader, Cond.code yX0_leastLeader cX0_leastLeader 3 (some .int), Cond.fieldLink RX0 15 "LadleKings$Kitchen" "rules" "LLadleKings$Rules;", Cond.fieldLink RX0 21 "LadleKings$Rules" "seats" "I", Cond.methodLink RX0 27 yX0_canLead, Cond.instanceMethod yX0_canLead, Cond.selects RX0 yX0_canLead yX0_canLead, Cond.code yX0_canLead cX0_canLead 4 (some .boolean), Cond.methodLink RX0 31 yX0_whoRise, Cond.instanceMethod yX0_whoRise, Cond.selects RX0 yX0_whoRise yX0_whoRise, Cond.code yX0_whoRise cX0_whoRise 5 (some .int)]
def wsL_law_r40 : List Cond := [Cond.methodLink RX0 39 yX2_bowlOf, Cond.methodLink RX0 35 yX0_isEnough, Cond.instanceMethod yX0_isEnough, Cond.selects RX0 yX0_isEnough yX0_isEnough, Cond.code yX0_isEnough cX0_isEnough 5 (some .boolean), Cond.fieldLink RX0 42 "LadleKings$Kitchen" "state" "LLadleKings$State;", Cond.fieldLink RX0 46 "LadleKings$State" "spoons" "[I", Cond.methodLink RX11 244 yX0_leastBand, Cond.instanceMethod yX0_leastBand, Cond.selects RX0 yX0_leastBand yX0_leastBand, Cond.code yX0_leastBand cX0_leastBand 6 (some .int), Cond.methodLink RL 110 yX12_coup, Cond.instanceMethod yX12_coup, Cond.selects RX12 yX12_coup yX12_coup, Cond.code yX12_coup cX12_coup 5 (some .int), Cond.methodLink RX12 285 yX12_leaderBy, Cond.instanceMethod yX12_leaderBy, Cond.selects RX12 yX12_leaderBy yX12_leaderBy, Cond.code yX12_leaderBy cX12_leaderBy 4 (some .int), Cond.methodLink RX12 282 yX12_coupBy, Cond.instanceMethod yX12_coupBy, Cond.selects RX12 yX12_coupBy yX12_coupBy, Cond.code yX12_coupBy cX12_coupBy 7 (some .int), Cond.methodLink RX12 275 yX12_findBowls]
def wsL_law_r41 : List Cond := [Cond.instanceMethod yX12_findBowls, Cond.selects RX12 yX12_findBowls yX12_findBowls, Cond.code yX12_findBowls cX12_findBowls 4 none, Cond.methodLink RX12 279 yX12_spoonsOf, Cond.instanceMethod yX12_spoonsOf, Cond.selects RX12 yX12_spoonsOf yX12_spoonsOf, Cond.code yX12_spoonsOf cX12_spoonsOf 4 (some .int), Cond.methodLink RL 111 yX11_firm, Cond.instanceMethod yX11_firm, Cond.selects RX11 yX11_firm yX11_firm, Cond.code yX11_firm cX11_firm 4 (some .int), Cond.methodLink RL 114 yX12_firm, Cond.instanceMethod yX12_firm, Cond.selects RX12 yX12_firm yX12_firm, Cond.code yX12_firm cX12_firm 4 (some .int), Cond.methodLink RL 115 yX11_see, Cond.instanceMethod yX11_see, Cond.selects RX11 yX11_see yX11_see, Cond.code yX11_see cX11_see 2 (some .int), Cond.fieldLink RX11 247 "LadleKings$State" "seenDays" "I", Cond.fieldLink RX11 250 "LadleKings$State" "seen" "[I", Cond.methodLink RL 118 yX12_see, Cond.instanceMethod yX12_see, Cond.selects RX12 yX12_see yX12_see]
def wsL_law_r42 : List Cond := [Cond.code yX12_see cX12_see 2 (some .int), Cond.methodLink RL 119 yX11_forget, Cond.instanceMethod yX11_forget, Cond.selects RX11 yX11_forget yX11_forget, Cond.code yX11_forget cX11_forget 3 (some .int), Cond.methodLink RL 122 yX12_forget, Cond.instanceMethod yX12_forget, Cond.selects RX12 yX12_forget yX12_forget, Cond.code yX12_forget cX12_forget 3 (some .int), Cond.methodLink RL 123 yX11_histories, Cond.instanceMethod yX11_histories, Cond.selects RX11 yX11_histories yX11_histories, Cond.code yX11_histories cX11_histories 2 (some .int), Cond.methodLink RX11 253 yX4_howMany, Cond.instanceMethod yX4_howMany, Cond.selects RX4 yX4_howMany yX4_howMany, Cond.code yX4_howMany cX4_howMany 7 (some .int), Cond.fieldLink RX4 19 "LadleKings$Kitchen" "state" "LLadleKings$State;", Cond.fieldLink RX4 25 "LadleKings$State" "king" "I", Cond.fieldLink RX4 31 "LadleKings$State" "bone" "I", Cond.fieldLink RX4 34 "LadleKings$State" "seenDays" "I", Cond.fieldLink RX4 37 "LadleKings$State" "seen" "[I", Cond.methodLink RX4 40 yX2_serve, Cond.methodLink RX4 44 yX2_placeOf]
def wsL_law_r43 : List Cond := [Cond.methodLink RX4 48 yX4_stirsBringing, Cond.instanceMethod yX4_stirsBringing, Cond.selects RX4 yX4_stirsBringing yX4_stirsBringing, Cond.code yX4_stirsBringing cX4_stirsBringing 5 (some .int), Cond.fieldLink RX4 57 "LadleKings$Kitchen" "rules" "LLadleKings$Rules;", Cond.fieldLink RX4 61 "LadleKings$Rules" "stirs" "I", Cond.methodLink RX4 66 yX6_placeAfter, Cond.methodLink RX4 51 yJ6_bitCount_0f7a4, Cond.static yJ6_bitCount_0f7a4, Cond.initialized RJ6, Cond.code yJ6_bitCount_0f7a4 cJ6_bitCount_0f7a4 1 (some .int), Cond.constant RJ6 265 (1431655765), Cond.constant RJ6 266 (858993459), Cond.constant RJ6 267 (252645135), Cond.methodLink RX11 256 yX4_firstStirOfDay, Cond.instanceMethod yX4_firstStirOfDay, Cond.selects RX4 yX4_firstStirOfDay yX4_firstStirOfDay, Cond.code yX4_firstStirOfDay cX4_firstStirOfDay 4 (some .int), Cond.methodLink RX4 73 yX4_stirsOfDay, Cond.instanceMethod yX4_stirsOfDay, Cond.selects RX4 yX4_stirsOfDay yX4_stirsOfDay, Cond.code yX4_stirsOfDay cX4_stirsOfDay 3 (some .int), Cond.methodLink RX4 69 yX4_howMany, Cond.methodLink RL 126 yX12_histories]
def wsL_law_r44 : List Cond := [Cond.instanceMethod yX12_histories, Cond.selects RX12 yX12_histories yX12_histories, Cond.code yX12_histories cX12_histories 6 (some .int), Cond.constantLong RX12 288 (15), Cond.methodLink RX12 290 yX12_findHistories, Cond.instanceMethod yX12_findHistories, Cond.selects RX12 yX12_findHistories yX12_findHistories, Cond.code yX12_findHistories cX12_findHistories 6 none, Cond.methodLink RX12 293 yX12_canGo, Cond.instanceMethod yX12_canGo, Cond.selects RX12 yX12_canGo yX12_canGo, Cond.code yX12_canGo cX12_canGo 5 (some .boolean), Cond.methodLink RL 127 yX11_could, Cond.instanceMethod yX11_could, Cond.selects RX11 yX11_could yX11_could, Cond.code yX11_could cX11_could 2 (some .int), Cond.methodLink RX11 259 yX4_stirsOfDay, Cond.methodLink RL 130 yX12_could, Cond.instanceMethod yX12_could, Cond.selects RX12 yX12_could yX12_could, Cond.code yX12_could cX12_could 6 (some .int), Cond.methodLink RL 131 yX11_blind, Cond.instanceMethod yX11_blind, Cond.selects RX11 yX11_blind yX11_blind]
def wsL_law_r45 : List Cond := [Cond.code yX11_blind cX11_blind 4 (some .long), Cond.methodLink RX11 262 yX3_triesWithFinds, Cond.instanceMethod yX3_triesWithFinds, Cond.selects RX3 yX3_triesWithFinds yX3_triesWithFinds, Cond.code yX3_triesWithFinds cX3_triesWithFinds 6 (some .long), Cond.methodLink RL 134 yX12_blind, Cond.instanceMethod yX12_blind, Cond.selects RX12 yX12_blind yX12_blind, Cond.code yX12_blind cX12_blind 9 (some .long), Cond.constantLong RX12 296 (12), Cond.methodLink RL 135 yX11_fair, Cond.instanceMethod yX11_fair, Cond.selects RX11 yX11_fair yX11_fair, Cond.code yX11_fair cX11_fair 4 (some .int), Cond.fieldLink RX11 268 "LadleKings$FairDays" "bestRow" "[I", Cond.methodLink RX11 265 yX1_leastSpread, Cond.instanceMethod yX1_leastSpread, Cond.selects RX1 yX1_leastSpread yX1_leastSpread, Cond.code yX1_leastSpread cX1_leastSpread 5 (some .int), Cond.methodLink RX1 41 Lib.Math.min.name, Cond.static Lib.Math.min.name, Cond.code Lib.Math.min.name Lib.Math.min.code 2 (some .int), Cond.methodLink RX1 47 yX1_begin, Cond.instanceMethod yX1_begin]
def wsL_law_r46 : List Cond := [Cond.selects RX1 yX1_begin yX1_begin, Cond.code yX1_begin cX1_begin 2 none, Cond.fieldLink RX1 66 "LadleKings$Kitchen" "state" "LLadleKings$State;", Cond.fieldLink RX1 70 "LadleKings$State" "pieces" "[I", Cond.fieldLink RX1 75 "LadleKings$Kitchen" "rules" "LLadleKings$Rules;", Cond.fieldLink RX1 79 "LadleKings$Rules" "seats" "I", Cond.methodLink RX1 84 arraycopyName, Cond.fieldLink RX1 96 "LadleKings$State" "king" "I", Cond.fieldLink RX1 99 "LadleKings$State" "bone" "I", Cond.methodLink RX1 61 yX2_serveAllKings, Cond.methodLink RX1 90 yJ7_fill_53178, Cond.methodLink RX1 51 yX1_goOn, Cond.instanceMethod yX1_goOn, Cond.selects RX1 yX1_goOn yX1_goOn, Cond.code yX1_goOn cX1_goOn 7 none, Cond.methodLink RX1 102 yX6_placeAfter, Cond.methodLink RX1 105 yX2_placeOf, Cond.methodLink RX1 108 yX2_holderOf, Cond.methodLink RX1 54 yX1_weigh, Cond.instanceMethod yX1_weigh, Cond.selects RX1 yX1_weigh yX1_weigh, Cond.code yX1_weigh cX1_weigh 4 none, Cond.methodLink RX1 111 Lib.Math.max.name, Cond.methodLink RX1 57 yX1_nextRow]
def wsL_law_r47 : List Cond := [Cond.instanceMethod yX1_nextRow, Cond.selects RX1 yX1_nextRow yX1_nextRow, Cond.code yX1_nextRow cX1_nextRow 2 (some .int), Cond.fieldLink RX1 114 "LadleKings$Rules" "stirs" "I", Cond.methodLink RL 138 yX12_fair, Cond.instanceMethod yX12_fair, Cond.selects RX12 yX12_fair yX12_fair, Cond.code yX12_fair cX12_fair 8 (some .int), Cond.constantLong RX12 301 (13), Cond.methodLink RX12 303 yX12_unlikeBy, Cond.instanceMethod yX12_unlikeBy, Cond.selects RX12 yX12_unlikeBy yX12_unlikeBy, Cond.code yX12_unlikeBy cX12_unlikeBy 7 (some .int), Cond.methodLink RX12 298 yX12_copies, Cond.instanceMethod yX12_copies, Cond.selects RX12 yX12_copies yX12_copies, Cond.code yX12_copies cX12_copies 4 none, Cond.methodLink RL 139 yX11_keep, Cond.instanceMethod yX11_keep, Cond.selects RX11 yX11_keep yX11_keep, Cond.code yX11_keep cX11_keep 3 (some .int), Cond.methodLink RX11 271 yX11_isImage, Cond.static yX11_isImage, Cond.code yX11_isImage cX11_isImage 1 (some .boolean)]
def wsL_law_r48 : List Cond := [Cond.methodLink RL 142 yX12_keep, Cond.instanceMethod yX12_keep, Cond.selects RX12 yX12_keep yX12_keep, Cond.code yX12_keep cX12_keep 3 (some .int), Cond.methodLink RL 143 yX11_back, Cond.instanceMethod yX11_back, Cond.selects RX11 yX11_back yX11_back, Cond.code yX11_back cX11_back 2 (some .int), Cond.methodLink RL 146 yX12_back, Cond.instanceMethod yX12_back, Cond.selects RX12 yX12_back yX12_back, Cond.code yX12_back cX12_back 2 (some .int), Cond.methodLink RL 147 yX11_sheet, Cond.instanceMethod yX11_sheet, Cond.selects RX11 yX11_sheet yX11_sheet, Cond.code yX11_sheet cX11_sheet 4 (some .int), Cond.methodLink RX11 274 yX11_isSheet, Cond.static yX11_isSheet, Cond.code yX11_isSheet cX11_isSheet 1 (some .boolean), Cond.methodLink RX11 277 yX11_isLane, Cond.static yX11_isLane, Cond.code yX11_isLane cX11_isLane 1 (some .boolean), Cond.methodLink RX11 280 yX7_renew, Cond.instanceMethod yX7_renew]
def wsL_law_r49 : List Cond := [Cond.selects RX7 yX7_renew yX7_renew, Cond.code yX7_renew cX7_renew 3 none, Cond.methodLink RX7 22 yJ7_fill_53178, Cond.methodLink RL 150 yX12_sheet, Cond.instanceMethod yX12_sheet, Cond.selects RX12 yX12_sheet yX12_sheet, Cond.code yX12_sheet cX12_sheet 5 (some .int), Cond.methodLink RX12 310 yX12_isSheet, Cond.static yX12_isSheet, Cond.code yX12_isSheet cX12_isSheet 2 (some .boolean), Cond.constantLong RX12 306 (3), Cond.constantLong RX12 308 (2), Cond.methodLink RL 151 yX11_lay, Cond.instanceMethod yX11_lay, Cond.selects RX11 yX11_lay yX11_lay, Cond.code yX11_lay cX11_lay 6 (some .int), Cond.fieldLink RX11 284 "LadleKings$Sheet" "lane" "I", Cond.methodLink RX11 287 yX7_faultAt, Cond.instanceMethod yX7_faultAt, Cond.selects RX7 yX7_faultAt yX7_faultAt, Cond.code yX7_faultAt cX7_faultAt 3 (some .int), Cond.methodLink RX7 28 yX7_isNothing, Cond.instanceMethod yX7_isNothing, Cond.selects RX7 yX7_isNothing yX7_isNothing]
def wsL_law_r50 : List Cond := [Cond.code yX7_isNothing cX7_isNothing 1 (some .boolean), Cond.methodLink RX11 290 yX7_put, Cond.instanceMethod yX7_put, Cond.selects RX7 yX7_put yX7_put, Cond.code yX7_put cX7_put 3 none, Cond.methodLink RL 154 yX12_lay, Cond.instanceMethod yX12_lay, Cond.selects RX12 yX12_lay yX12_lay, Cond.code yX12_lay cX12_lay 4 (some .int), Cond.methodLink RL 155 yX11_read, Cond.instanceMethod yX11_read, Cond.selects RX11 yX11_read yX11_read, Cond.code yX11_read cX11_read 9 (some .int), Cond.fieldLink RX11 293 "LadleKings$Sheet" "cells" "[I", Cond.methodLink RX11 296 yX11_canPass, Cond.instanceMethod yX11_canPass, Cond.selects RX11 yX11_canPass yX11_canPass, Cond.code yX11_canPass cX11_canPass 3 (some .boolean), Cond.methodLink RL 159 yX12_read, Cond.instanceMethod yX12_read, Cond.selects RX12 yX12_read yX12_read, Cond.code yX12_read cX12_read 10 (some .int), Cond.constantLong RX12 314 (20), Cond.fieldLink RX12 319 "LadleKingsModel" "torn" "I"]
def wsL_law_r51 : List Cond := [Cond.methodLink RX12 316 yX12_day, Cond.methodLink RL 160 yX11_torn, Cond.instanceMethod yX11_torn, Cond.selects RX11 yX11_torn yX11_torn, Cond.code yX11_torn cX11_torn 1 (some .int), Cond.methodLink RL 163 yX12_torn, Cond.instanceMethod yX12_torn, Cond.selects RX12 yX12_torn yX12_torn, Cond.code yX12_torn cX12_torn 1 (some .int), Cond.methodLink RL 164 yX11_count, Cond.instanceMethod yX11_count, Cond.selects RX11 yX11_count yX11_count, Cond.code yX11_count cX11_count 2 (some .int), Cond.fieldLink RX11 303 "LadleKings$Sheet" "size" "I", Cond.methodLink RX11 299 yX7_isNothing, Cond.methodLink RX11 306 yX11_piecesInPot, Cond.instanceMethod yX11_piecesInPot, Cond.selects RX11 yX11_piecesInPot yX11_piecesInPot, Cond.code yX11_piecesInPot cX11_piecesInPot 3 (some .int), Cond.methodLink RL 167 yX12_count, Cond.instanceMethod yX12_count, Cond.selects RX12 yX12_count yX12_count, Cond.code yX12_count cX12_count 4 (some .int)]
def wsL_law : List Cond := (wsL_law_r1 ++ (wsL_law_r2 ++ (wsL_law_r3 ++ (wsL_law_r4 ++ (wsL_law_r5 ++ (wsL_law_r6 ++ (wsL_law_r7 ++ (wsL_law_r8 ++ (wsL_law_r9 ++ (wsL_law_r10 ++ (wsL_law_r11 ++ (wsL_law_r12 ++ (wsL_law_r13 ++ (wsL_law_r14 ++ (wsL_law_r15 ++ (wsL_law_r16 ++ (wsL_law_r17 ++ (wsL_law_r18 ++ (wsL_law_r19 ++ (wsL_law_r20 ++ (wsL_law_r21 ++ (wsL_law_r22 ++ (wsL_law_r23 ++ (wsL_law_r24 ++ (wsL_law_r25 ++ (wsL_law_r26 ++ (wsL_law_r27 ++ (wsL_law_r28 ++ (wsL_law_r29 ++ (wsL_law_r30 ++ (wsL_law_r31 ++ (wsL_law_r32 ++ (wsL_law_r33 ++ (wsL_law_r34 ++ (wsL_law_r35 ++ (wsL_law_r36 ++ (wsL_law_r37 ++ (wsL_law_r38 ++ (wsL_law_r39 ++ (wsL_law_r40 ++ (wsL_law_r41 ++ (wsL_law_r42 ++ (wsL_law_r43 ++ (wsL_law_r44 ++ (wsL_law_r45 ++ (wsL_law_r46 ++ (wsL_law_r47 ++ (wsL_law_r48 ++ (wsL_law_r49 ++ (wsL_law_r50 ++ wsL_law_r51)))))))))))))))))))))))))))))))))))))))))))))))))) ++ wsX110 ++ wsX120 ++ wsX60 ++ wsX80 ++ wsX90 ++ wsX100 ++ wsX20 ++ wsX30 ++ wsX50 ++ wsX00 ++ wsX40 ++ wsX10 ++ wsX70 ++ ([] : List Cond)
set_option maxRecDepth 20000 in
theorem wsL_law_r1_in : ∀ w ∈ wsL_law_r1, w ∈ lw_tbl := fun w h => (goodIn_p wsL_law_r1 [100, 103] (by decide +kernel) (by decide +kernel) w h).1
set_option maxRecDepth 20000 in
theorem wsL_law_r2_in : ∀ w ∈ wsL_law_r2, w ∈ lw_tbl := fun w h => (goodIn_p wsL_law_r2 [] (by decide +kernel) (by decide +kernel) w h).1
set_option maxRecDepth 20000 in
theorem wsL_law_r3_in : ∀ w ∈ wsL_law_r3, w ∈ lw_tbl := fun w h => (goodIn_p wsL_law_r3 [108] (by decide +kernel) (by decide +kernel) w h).1
set_option maxRecDepth 20000 in
theorem wsL_law_r4_in : ∀ w ∈ wsL_law_r4, w ∈ lw_tbl := fun w h => (goodIn_p wsL_law_r4 [152, 156, 219] (by decide +kernel) (by decide +kernel) w h).1
set_option maxRecDepth 20000 in
theorem wsL_law_r5_in : ∀ w ∈ wsL_law_r5, w ∈ lw_tbl := fun w h => (goodIn_p wsL_law_r5 [250, 291] (by decide +kernel) (by decide +kernel) w h).1
set_option maxRecDepth 20000 in
theorem wsL_law_r6_in : ∀ w ∈ wsL_law_r6, w ∈ lw_tbl := fun w h => (goodIn_p wsL_law_r6 [323, 343, 360] (by decide +kernel) (by decide +kernel) w h).1
set_option maxRecDepth 20000 in
theorem wsL_law_r7_in : ∀ w ∈ wsL_law_r7, w ∈ lw_tbl := fun w h => (goodIn_p wsL_law_r7 [370, 383, 420] (by decide +kernel) (by decide +kernel) w h).1
set_option maxRecDepth 20000 in
theorem wsL_law_r8_in : ∀ w ∈ wsL_law_r8, w ∈ lw_tbl := fun w h => (goodIn_p wsL_law_r8 [1096] (by decide +kernel) (by decide +kernel) w h).1
set_option maxRecDepth 20000 in
theorem wsL_law_r9_in : ∀ w ∈ wsL_law_r9, w ∈ lw_tbl := fun w h => (goodIn_p wsL_law_r9 [1101, 1105, 1109] (by decide +kernel) (by decide +kernel) w h).1
set_option maxRecDepth 20000 in
theorem wsL_law_r10_in : ∀ w ∈ wsL_law_r10, w ∈ lw_tbl := fun w h => (goodIn_p wsL_law_r10 [485, 489, 1225, 493, 1230] (by decide +kernel) (by decide +kernel) w h).1
set_option maxRecDepth 20000 in
theorem wsL_law_r11_in : ∀ w ∈ wsL_law_r11, w ∈ lw_tbl := fun w h => (goodIn_p wsL_law_r11 [1233, 497, 501, 505, 509] (by decide +kernel) (by decide +kernel) w h).1
set_option maxRecDepth 20000 in
theorem wsL_law_r12_in : ∀ w ∈ wsL_law_r12, w ∈ lw_tbl := fun w h => (goodIn_p wsL_law_r12 [514, 518, 522, 526, 529] (by decide +kernel) (by decide +kernel) w h).1
set_option maxRecDepth 20000 in
theorem wsL_law_r13_in : ∀ w ∈ wsL_law_r13, w ∈ lw_tbl := fun w h => (goodIn_p wsL_law_r13 [533, 536, 540, 544, 547, 562] (by decide +kernel) (by decide +kernel) w h).1
set_option maxRecDepth 20000 in
theorem wsL_law_r14_in : ∀ w ∈ wsL_law_r14, w ∈ lw_tbl := fun w h => (goodIn_p wsL_law_r14 [566, 570, 576, 580, 583] (by decide +kernel) (by decide +kernel) w h).1
set_option maxRecDepth 20000 in
theorem wsL_law_r15_in : ∀ w ∈ wsL_law_r15, w ∈ lw_tbl := fun w h => (goodIn_p wsL_law_r15 [586, 591, 594, 597, 600, 604] (by decide +kernel) (by decide +kernel) w h).1
set_option maxRecDepth 20000 in
theorem wsL_law_r16_in : ∀ w ∈ wsL_law_r16, w ∈ lw_tbl := fun w h => (goodIn_p wsL_law_r16 [614, 618, 626, 636] (by decide +kernel) (by decide +kernel) w h).1
set_option maxRecDepth 20000 in
theorem wsL_law_r17_in : ∀ w ∈ wsL_law_r17, w ∈ lw_tbl := fun w h => (goodIn_p wsL_law_r17 [633, 640, 644, 648, 652] (by decide +kernel) (by decide +kernel) w h).1
set_option maxRecDepth 20000 in
theorem wsL_law_r18_in : ∀ w ∈ wsL_law_r18, w ∈ lw_tbl := fun w h => (goodIn_p wsL_law_r18 [664, 668, 672, 676, 680, 683] (by decide +kernel) (by decide +kernel) w h).1
set_option maxRecDepth 20000 in
theorem wsL_law_r19_in : ∀ w ∈ wsL_law_r19, w ∈ lw_tbl := fun w h => (goodIn_p wsL_law_r19 [686, 690, 695, 1237] (by decide +kernel) (by decide +kernel) w h).1
set_option maxRecDepth 20000 in
theorem wsL_law_r20_in : ∀ w ∈ wsL_law_r20, w ∈ lw_tbl := fun w h => (goodIn_p wsL_law_r20 [1241, 1245, 1253, 1257] (by decide +kernel) (by decide +kernel) w h).1
set_option maxRecDepth 20000 in
theorem wsL_law_r21_in : ∀ w ∈ wsL_law_r21, w ∈ lw_tbl := fun w h => (goodIn_p wsL_law_r21 [1261, 1265, 1269, 1273, 1279, 1283] (by decide +kernel) (by decide +kernel) w h).1
set_option maxRecDepth 20000 in
theorem wsL_law_r22_in : ∀ w ∈ wsL_law_r22, w ∈ lw_tbl := fun w h => (goodIn_p wsL_law_r22 [1287, 1291, 1295, 1299, 1303, 1307] (by decide +kernel) (by decide +kernel) w h).1
set_option maxRecDepth 20000 in
theorem wsL_law_r23_in : ∀ w ∈ wsL_law_r23, w ∈ lw_tbl := fun w h => (goodIn_p wsL_law_r23 [700, 1311, 704, 1315, 708] (by decide +kernel) (by decide +kernel) w h).1
set_option maxRecDepth 20000 in
theorem wsL_law_r24_in : ∀ w ∈ wsL_law_r24, w ∈ lw_tbl := fun w h => (goodIn_p wsL_law_r24 [712, 1319, 1323, 716, 1327] (by decide +kernel) (by decide +kernel) w h).1
set_option maxRecDepth 20000 in
theorem wsL_law_r25_in : ∀ w ∈ wsL_law_r25, w ∈ lw_tbl := fun w h => (goodIn_p wsL_law_r25 [720, 724, 728, 1331, 1335, 732] (by decide +kernel) (by decide +kernel) w h).1
set_option maxRecDepth 20000 in
theorem wsL_law_r26_in : ∀ w ∈ wsL_law_r26, w ∈ lw_tbl := fun w h => (goodIn_p wsL_law_r26 [1339, 738, 1343, 742, 1348] (by decide +kernel) (by decide +kernel) w h).1
set_option maxRecDepth 20000 in
theorem wsL_law_r27_in : ∀ w ∈ wsL_law_r27, w ∈ lw_tbl := fun w h => (goodIn_p wsL_law_r27 [746, 1352, 750, 754, 760] (by decide +kernel) (by decide +kernel) w h).1
set_option maxRecDepth 20000 in
theorem wsL_law_r28_in : ∀ w ∈ wsL_law_r28, w ∈ lw_tbl := fun w h => (goodIn_p wsL_law_r28 [764, 769, 773, 1356, 1360, 1363] (by decide +kernel) (by decide +kernel) w h).1
set_option maxRecDepth 20000 in
theorem wsL_law_r29_in : ∀ w ∈ wsL_law_r29, w ∈ lw_tbl := fun w h => (goodIn_p wsL_law_r29 [1367, 777, 1371, 782, 786, 1375] (by decide +kernel) (by decide +kernel) w h).1
set_option maxRecDepth 20000 in
theorem wsL_law_r30_in : ∀ w ∈ wsL_law_r30, w ∈ lw_tbl := fun w h => (goodIn_p wsL_law_r30 [1379, 790, 794] (by decide +kernel) (by decide +kernel) w h).1
set_option maxRecDepth 20000 in
theorem wsL_law_r31_in : ∀ w ∈ wsL_law_r31, w ∈ lw_tbl := fun w h => (goodIn_p wsL_law_r31 [1383, 1387, 804, 1391, 808, 811] (by decide +kernel) (by decide +kernel) w h).1
set_option maxRecDepth 20000 in
theorem wsL_law_r32_in : ∀ w ∈ wsL_law_r32, w ∈ lw_tbl := fun w h => (goodIn_p wsL_law_r32 [817, 821, 825, 828, 832] (by decide +kernel) (by decide +kernel) w h).1
set_option maxRecDepth 20000 in
theorem wsL_law_r33_in : ∀ w ∈ wsL_law_r33, w ∈ lw_tbl := fun w h => (goodIn_p wsL_law_r33 [836, 843, 846, 849, 852, 1395] (by decide +kernel) (by decide +kernel) w h).1
set_option maxRecDepth 20000 in
theorem wsL_law_r34_in : ∀ w ∈ wsL_law_r34, w ∈ lw_tbl := fun w h => (goodIn_p wsL_law_r34 [1399, 1405, 1409, 1413, 1417, 1420] (by decide +kernel) (by decide +kernel) w h).1
set_option maxRecDepth 20000 in
theorem wsL_law_r35_in : ∀ w ∈ wsL_law_r35, w ∈ lw_tbl := fun w h => (goodIn_p wsL_law_r35 [1423, 856, 860, 1427, 864, 867] (by decide +kernel) (by decide +kernel) w h).1
set_option maxRecDepth 20000 in
theorem wsL_law_r36_in : ∀ w ∈ wsL_law_r36, w ∈ lw_tbl := fun w h => (goodIn_p wsL_law_r36 [871, 876, 880, 883, 887] (by decide +kernel) (by decide +kernel) w h).1
set_option maxRecDepth 20000 in
theorem wsL_law_r37_in : ∀ w ∈ wsL_law_r37, w ∈ lw_tbl := fun w h => (goodIn_p wsL_law_r37 [891, 897, 901, 905, 1431] (by decide +kernel) (by decide +kernel) w h).1
set_option maxRecDepth 20000 in
theorem wsL_law_r38_in : ∀ w ∈ wsL_law_r38, w ∈ lw_tbl := fun w h => (goodIn_p wsL_law_r38 [1436, 1440, 1444, 909, 913, 1448] (by decide +kernel) (by decide +kernel) w h).1
set_option maxRecDepth 20000 in
theorem wsL_law_r39_in : ∀ w ∈ wsL_law_r39, w ∈ lw_tbl := fun w h => (goodIn_p wsL_law_r39 [1452, 917, 922, 926, 930] (by decide +kernel) (by decide +kernel) w h).1
set_option maxRecDepth 20000 in
theorem wsL_law_r40_in : ∀ w ∈ wsL_law_r40, w ∈ lw_tbl := fun w h => (goodIn_p wsL_law_r40 [935, 939, 1457, 1461, 1465] (by decide +kernel) (by decide +kernel) w h).1
set_option maxRecDepth 20000 in
theorem wsL_law_r41_in : ∀ w ∈ wsL_law_r41, w ∈ lw_tbl := fun w h => (goodIn_p wsL_law_r41 [1469, 1473, 943, 1477, 947] (by decide +kernel) (by decide +kernel) w h).1
set_option maxRecDepth 20000 in
theorem wsL_law_r42_in : ∀ w ∈ wsL_law_r42, w ∈ lw_tbl := fun w h => (goodIn_p wsL_law_r42 [1481, 951, 1485, 955, 959] (by decide +kernel) (by decide +kernel) w h).1
set_option maxRecDepth 20000 in
theorem wsL_law_r43_in : ∀ w ∈ wsL_law_r43, w ∈ lw_tbl := fun w h => (goodIn_p wsL_law_r43 [965, 969, 976, 980] (by decide +kernel) (by decide +kernel) w h).1
set_option maxRecDepth 20000 in
theorem wsL_law_r44_in : ∀ w ∈ wsL_law_r44, w ∈ lw_tbl := fun w h => (goodIn_p wsL_law_r44 [1489, 1494, 1498, 985, 1502] (by decide +kernel) (by decide +kernel) w h).1
set_option maxRecDepth 20000 in
theorem wsL_law_r45_in : ∀ w ∈ wsL_law_r45, w ∈ lw_tbl := fun w h => (goodIn_p wsL_law_r45 [990, 994, 1506, 998, 1002, 1005] (by decide +kernel) (by decide +kernel) w h).1
set_option maxRecDepth 20000 in
theorem wsL_law_r46_in : ∀ w ∈ wsL_law_r46, w ∈ lw_tbl := fun w h => (goodIn_p wsL_law_r46 [1009, 1016, 1023] (by decide +kernel) (by decide +kernel) w h).1
set_option maxRecDepth 20000 in
theorem wsL_law_r47_in : ∀ w ∈ wsL_law_r47, w ∈ lw_tbl := fun w h => (goodIn_p wsL_law_r47 [1028, 1511, 1516, 1520, 1032, 1035] (by decide +kernel) (by decide +kernel) w h).1
set_option maxRecDepth 20000 in
theorem wsL_law_r48_in : ∀ w ∈ wsL_law_r48, w ∈ lw_tbl := fun w h => (goodIn_p wsL_law_r48 [1524, 1039, 1528, 1043, 1046, 1049] (by decide +kernel) (by decide +kernel) w h).1
set_option maxRecDepth 20000 in
theorem wsL_law_r49_in : ∀ w ∈ wsL_law_r49, w ∈ lw_tbl := fun w h => (goodIn_p wsL_law_r49 [1053, 1532, 1535, 1058, 1062] (by decide +kernel) (by decide +kernel) w h).1
set_option maxRecDepth 20000 in
theorem wsL_law_r50_in : ∀ w ∈ wsL_law_r50, w ∈ lw_tbl := fun w h => (goodIn_p wsL_law_r50 [1066, 1070, 1541, 1074, 1078, 1545] (by decide +kernel) (by decide +kernel) w h).1
set_option maxRecDepth 20000 in
theorem wsL_law_r51_in : ∀ w ∈ wsL_law_r51, w ∈ lw_tbl := fun w h => (goodIn_p wsL_law_r51 [1082, 1551, 1086, 1091, 1555] (by decide +kernel) (by decide +kernel) w h).1
set_option maxRecDepth 20000 in
theorem wsX110_int : ∀ w ∈ wsX110, w ∈ lw_tbl := fun w h => (goodIn_p wsX110 [] (by decide +kernel) (by decide +kernel) w h).1
set_option maxRecDepth 20000 in
theorem wsX120_int : ∀ w ∈ wsX120, w ∈ lw_tbl := fun w h => (goodIn_p wsX120 [] (by decide +kernel) (by decide +kernel) w h).1
set_option maxRecDepth 20000 in
theorem wsX60_int : ∀ w ∈ wsX60, w ∈ lw_tbl := fun w h => (goodIn_p wsX60 [] (by decide +kernel) (by decide +kernel) w h).1
set_option maxRecDepth 20000 in
theorem wsX80_int : ∀ w ∈ wsX80, w ∈ lw_tbl := fun w h => (goodIn_p wsX80 [] (by decide +kernel) (by decide +kernel) w h).1
set_option maxRecDepth 20000 in
theorem wsX90_int : ∀ w ∈ wsX90, w ∈ lw_tbl := fun w h => (goodIn_p wsX90 [] (by decide +kernel) (by decide +kernel) w h).1
set_option maxRecDepth 20000 in
theorem wsX100_int : ∀ w ∈ wsX100, w ∈ lw_tbl := fun w h => (goodIn_p wsX100 [] (by decide +kernel) (by decide +kernel) w h).1
set_option maxRecDepth 20000 in
theorem wsX20_int : ∀ w ∈ wsX20, w ∈ lw_tbl := fun w h => (goodIn_p wsX20 [] (by decide +kernel) (by decide +kernel) w h).1
set_option maxRecDepth 20000 in
theorem wsX30_int : ∀ w ∈ wsX30, w ∈ lw_tbl := fun w h => (goodIn_p wsX30 [] (by decide +kernel) (by decide +kernel) w h).1
set_option maxRecDepth 20000 in
theorem wsX50_int : ∀ w ∈ wsX50, w ∈ lw_tbl := fun w h => (goodIn_p wsX50 [] (by decide +kernel) (by decide +kernel) w h).1
set_option maxRecDepth 20000 in
theorem wsX00_int : ∀ w ∈ wsX00, w ∈ lw_tbl := fun w h => (goodIn_p wsX00 [] (by decide +kernel) (by decide +kernel) w h).1
set_option maxRecDepth 20000 in
theorem wsX40_int : ∀ w ∈ wsX40, w ∈ lw_tbl := fun w h => (goodIn_p wsX40 [] (by decide +kernel) (by decide +kernel) w h).1
set_option maxRecDepth 20000 in
theorem wsX10_int : ∀ w ∈ wsX10, w ∈ lw_tbl := fun w h => (goodIn_p wsX10 [] (by decide +kernel) (by decide +kernel) w h).1
set_option maxRecDepth 20000 in
theorem wsX70_int : ∀ w ∈ wsX70, w ∈ lw_tbl := fun w h => (goodIn_p wsX70 [] (by decide +kernel) (by decide +kernel) w h).1
theorem wsL_law_in : ∀ w ∈ wsL_law, w ∈ lw_tbl := (List.forall_mem_append.mpr ⟨(List.forall_mem_append.mpr ⟨(List.forall_mem_append.mpr ⟨(List.forall_mem_append.mpr ⟨(List.forall_mem_append.mpr ⟨(List.forall_mem_append.mpr ⟨(List.forall_mem_append.mpr ⟨(List.forall_mem_append.mpr ⟨(List.forall_mem_append.mpr ⟨(List.forall_mem_append.mpr ⟨(List.forall_mem_append.mpr ⟨(List.forall_mem_append.mpr ⟨(List.forall_mem_append.mpr ⟨(List.forall_mem_append.mpr ⟨(List.forall_mem_append.mpr ⟨wsL_law_r1_in, (List.forall_mem_append.mpr ⟨wsL_law_r2_in, (List.forall_mem_append.mpr ⟨wsL_law_r3_in, (List.forall_mem_append.mpr ⟨wsL_law_r4_in, (List.forall_mem_append.mpr ⟨wsL_law_r5_in, (List.forall_mem_append.mpr ⟨wsL_law_r6_in, (List.forall_mem_append.mpr ⟨wsL_law_r7_in, (List.forall_mem_append.mpr ⟨wsL_law_r8_in, (List.forall_mem_append.mpr ⟨wsL_law_r9_in, (List.forall_mem_append.mpr ⟨wsL_law_r10_in, (List.forall_mem_append.mpr ⟨wsL_law_r11_in, (List.forall_mem_append.mpr ⟨wsL_law_r12_in, (List.forall_mem_append.mpr ⟨wsL_law_r13_in, (List.forall_mem_append.mpr ⟨wsL_law_r14_in, (List.forall_mem_append.mpr ⟨wsL_law_r15_in, (List.forall_mem_append.mpr ⟨wsL_law_r16_in, (List.forall_mem_append.mpr ⟨wsL_law_r17_in, (List.forall_mem_append.mpr ⟨wsL_law_r18_in, (List.forall_mem_append.mpr ⟨wsL_law_r19_in, (List.forall_mem_append.mpr ⟨wsL_law_r20_in, (List.forall_mem_append.mpr ⟨wsL_law_r21_in, (List.forall_mem_append.mpr ⟨wsL_law_r22_in, (List.forall_mem_append.mpr ⟨wsL_law_r23_in, (List.forall_mem_append.mpr ⟨wsL_law_r24_in, (List.forall_mem_append.mpr ⟨wsL_law_r25_in, (List.forall_mem_append.mpr ⟨wsL_law_r26_in, (List.forall_mem_append.mpr ⟨wsL_law_r27_in, (List.forall_mem_append.mpr ⟨wsL_law_r28_in, (List.forall_mem_append.mpr ⟨wsL_law_r29_in, (List.forall_mem_append.mpr ⟨wsL_law_r30_in, (List.forall_mem_append.mpr ⟨wsL_law_r31_in, (List.forall_mem_append.mpr ⟨wsL_law_r32_in, (List.forall_mem_append.mpr ⟨wsL_law_r33_in, (List.forall_mem_append.mpr ⟨wsL_law_r34_in, (List.forall_mem_append.mpr ⟨wsL_law_r35_in, (List.forall_mem_append.mpr ⟨wsL_law_r36_in, (List.forall_mem_append.mpr ⟨wsL_law_r37_in, (List.forall_mem_append.mpr ⟨wsL_law_r38_in, (List.forall_mem_append.mpr ⟨wsL_law_r39_in, (List.forall_mem_append.mpr ⟨wsL_law_r40_in, (List.forall_mem_append.mpr ⟨wsL_law_r41_in, (List.forall_mem_append.mpr ⟨wsL_law_r42_in, (List.forall_mem_append.mpr ⟨wsL_law_r43_in, (List.forall_mem_append.mpr ⟨wsL_law_r44_in, (List.forall_mem_append.mpr ⟨wsL_law_r45_in, (List.forall_mem_append.mpr ⟨wsL_law_r46_in, (List.forall_mem_append.mpr ⟨wsL_law_r47_in, (List.forall_mem_append.mpr ⟨wsL_law_r48_in, (List.forall_mem_append.mpr ⟨wsL_law_r49_in, (List.forall_mem_append.mpr ⟨wsL_law_r50_in, wsL_law_r51_in⟩)⟩)⟩)⟩)⟩)⟩)⟩)⟩)⟩)⟩)⟩)⟩)⟩)⟩)⟩)⟩)⟩)⟩)⟩)⟩)⟩)⟩)⟩)⟩)⟩)⟩)⟩)⟩)⟩)⟩)⟩)⟩)⟩)⟩)⟩)⟩)⟩)⟩)⟩)⟩)⟩)⟩)⟩)⟩)⟩)⟩)⟩)⟩)⟩)⟩), wsX110_int⟩), wsX120_int⟩), wsX60_int⟩), wsX80_int⟩), wsX90_int⟩), wsX100_int⟩), wsX20_int⟩), wsX30_int⟩), wsX50_int⟩), wsX00_int⟩), wsX40_int⟩), wsX10_int⟩), wsX70_int⟩), fun _ h => absurd h List.not_mem_nil⟩)
theorem inlX0 : ∀ w ∈ wsX00, w ∈ wsL_law := fun _ h => List.mem_append_left _ (List.mem_append_left _ (List.mem_append_left _ (List.mem_append_left _ (List.mem_append_right _ h))))
theorem inX0 : ∀ w ∈ wsX00, w ∈ lw_tbl := fun w h => wsL_law_in w (inlX0 w h)
theorem inlX1 : ∀ w ∈ wsX10, w ∈ wsL_law := fun _ h => List.mem_append_left _ (List.mem_append_left _ (List.mem_append_right _ h))
theorem inX1 : ∀ w ∈ wsX10, w ∈ lw_tbl := fun w h => wsL_law_in w (inlX1 w h)
theorem inlX2 : ∀ w ∈ wsX20, w ∈ wsL_law := fun _ h => List.mem_append_left _ (List.mem_append_left _ (List.mem_append_left _ (List.mem_append_left _ (List.mem_append_left _ (List.mem_append_left _ (List.mem_append_left _ (List.mem_append_right _ h)))))))
theorem inX2 : ∀ w ∈ wsX20, w ∈ lw_tbl := fun w h => wsL_law_in w (inlX2 w h)
theorem inlX3 : ∀ w ∈ wsX30, w ∈ wsL_law := fun _ h => List.mem_append_left _ (List.mem_append_left _ (List.mem_append_left _ (List.mem_append_left _ (List.mem_append_left _ (List.mem_append_left _ (List.mem_append_right _ h))))))
theorem inX3 : ∀ w ∈ wsX30, w ∈ lw_tbl := fun w h => wsL_law_in w (inlX3 w h)
theorem inlX4 : ∀ w ∈ wsX40, w ∈ wsL_law := fun _ h => List.mem_append_left _ (List.mem_append_left _ (List.mem_append_left _ (List.mem_append_right _ h)))
theorem inX4 : ∀ w ∈ wsX40, w ∈ lw_tbl := fun w h => wsL_law_in w (inlX4 w h)
theorem inlX5 : ∀ w ∈ wsX50, w ∈ wsL_law := fun _ h => List.mem_append_left _ (List.mem_append_left _ (List.mem_append_left _ (List.mem_append_left _ (List.mem_append_left _ (List.mem_append_right _ h)))))
theorem inX5 : ∀ w ∈ wsX50, w ∈ lw_tbl := fun w h => wsL_law_in w (inlX5 w h)
theorem inlX6 : ∀ w ∈ wsX60, w ∈ wsL_law := fun _ h => List.mem_append_left _ (List.mem_append_left _ (List.mem_append_left _ (List.mem_append_left _ (List.mem_append_left _ (List.mem_append_left _ (List.mem_append_left _ (List.mem_append_left _ (List.mem_append_left _ (List.mem_append_left _ (List.mem_append_left _ (List.mem_append_right _ h)))))))))))
theorem inX6 : ∀ w ∈ wsX60, w ∈ lw_tbl := fun w h => wsL_law_in w (inlX6 w h)
theorem inlX7 : ∀ w ∈ wsX70, w ∈ wsL_law := fun _ h => List.mem_append_left _ (List.mem_append_right _ h)
theorem inX7 : ∀ w ∈ wsX70, w ∈ lw_tbl := fun w h => wsL_law_in w (inlX7 w h)
theorem inlX8 : ∀ w ∈ wsX80, w ∈ wsL_law := fun _ h => List.mem_append_left _ (List.mem_append_left _ (List.mem_append_left _ (List.mem_append_left _ (List.mem_append_left _ (List.mem_append_left _ (List.mem_append_left _ (List.mem_append_left _ (List.mem_append_left _ (List.mem_append_left _ (List.mem_append_right _ h))))))))))
theorem inX8 : ∀ w ∈ wsX80, w ∈ lw_tbl := fun w h => wsL_law_in w (inlX8 w h)
theorem inlX9 : ∀ w ∈ wsX90, w ∈ wsL_law := fun _ h => List.mem_append_left _ (List.mem_append_left _ (List.mem_append_left _ (List.mem_append_left _ (List.mem_append_left _ (List.mem_append_left _ (List.mem_append_left _ (List.mem_append_left _ (List.mem_append_left _ (List.mem_append_right _ h)))))))))
theorem inX9 : ∀ w ∈ wsX90, w ∈ lw_tbl := fun w h => wsL_law_in w (inlX9 w h)
theorem inlX10 : ∀ w ∈ wsX100, w ∈ wsL_law := fun _ h => List.mem_append_left _ (List.mem_append_left _ (List.mem_append_left _ (List.mem_append_left _ (List.mem_append_left _ (List.mem_append_left _ (List.mem_append_left _ (List.mem_append_left _ (List.mem_append_right _ h))))))))
theorem inX10 : ∀ w ∈ wsX100, w ∈ lw_tbl := fun w h => wsL_law_in w (inlX10 w h)
theorem inlX11 : ∀ w ∈ wsX110, w ∈ wsL_law := fun _ h => List.mem_append_left _ (List.mem_append_left _ (List.mem_append_left _ (List.mem_append_left _ (List.mem_append_left _ (List.mem_append_left _ (List.mem_append_left _ (List.mem_append_left _ (List.mem_append_left _ (List.mem_append_left _ (List.mem_append_left _ (List.mem_append_left _ (List.mem_append_left _ (List.mem_append_right _ h)))))))))))))
theorem inX11 : ∀ w ∈ wsX110, w ∈ lw_tbl := fun w h => wsL_law_in w (inlX11 w h)
theorem inlX12 : ∀ w ∈ wsX120, w ∈ wsL_law := fun _ h => List.mem_append_left _ (List.mem_append_left _ (List.mem_append_left _ (List.mem_append_left _ (List.mem_append_left _ (List.mem_append_left _ (List.mem_append_left _ (List.mem_append_left _ (List.mem_append_left _ (List.mem_append_left _ (List.mem_append_left _ (List.mem_append_left _ (List.mem_append_right _ h))))))))))))
theorem inX12 : ∀ w ∈ wsX120, w ∈ lw_tbl := fun w h => wsL_law_in w (inlX12 w h)
set_option maxRecDepth 20000 in
theorem ggL_law_X11_init : GoodIn wsL_law wsX11_init := goodIn_r _ [9, 10, 11, 12, 13, 14, 15, 16, 17, 18, 19, 20, 21, 22, 23, 24, 25, 26, 27, 28, 29, 30, 31, 32, 33, 34, 35, 36, 37, 38, 39, 40, 41, 42, 43, 44, 45, 46, 47, 48, 49, 50, 51, 52, 53, 54, 55, 56, 57, 58, 59, 60, 61, 62, 63, 64, 65, 66, 67, 68, 69, 70, 71, 72, 73, 74, 75, 76, 77, 78, 79, 80, 81, 82, 83, 84, 85, 86, 87, 88, 89, 90, 91, 92, 93, 94, 95, 96, 97, 98, 99, 100, 101, 102, 103, 104, 105, 106, 107, 108, 109, 110, 111, 112, 113, 114, 115, 116, 117, 118, 119, 120, 121, 122, 123, 124, 125, 126, 127, 128, 129, 130, 131, 132, 133, 134, 135, 136, 137, 138, 139, 140, 141, 142, 143, 144, 145, 146, 147, 148, 149, 150, 151, 152, 153, 154, 155, 156, 157, 158, 159, 160, 161, 162, 163, 164, 165, 166, 167, 168, 169, 170, 1275, 1276, 1277, 1278, 1279, 1280, 1281, 1223, 1224, 1225, 1226, 1227, 1228, 1229, 1230, 1231, 1232, 1233, 1234, 1235, 1236, 1237, 1282, 1283, 1284, 1285, 1286, 1287, 1288, 1289, 1290, 1291, 1292, 1293, 1294, 1295, 1296, 1297, 1298, 1299, 1300, 1301, 1302, 1303, 1304, 1305, 1306, 1307, 1308, 1309, 1310, 1311, 1312, 1313, 1314, 1315, 1316, 1317, 1318, 1319, 1320, 1321, 1322, 1323, 1324, 1325, 1326, 1327, 1328, 1329, 1330, 1331, 1332] (by decide +kernel) (by decide +kernel)
set_option maxRecDepth 20000 in
theorem gL_law_X11_init : GoodIn wsL_law (wsX11_init) := ggL_law_X11_init
set_option maxRecDepth 20000 in
theorem ggL_law_X12_init : GoodIn wsL_law wsX12_init := goodIn_r _ [173, 174, 11, 12, 67, 175, 54, 176, 177, 178, 179, 180, 181, 182, 183, 184, 129, 185, 186, 187, 188, 189, 190, 191, 192, 193, 194, 195, 196, 197, 198, 199, 200, 5, 201, 202, 203, 204, 205, 206, 207, 208, 209, 210, 211, 212, 213, 214, 215, 1238, 1239, 1240, 1241, 1242, 1243, 1244, 1245, 1246, 1247, 1248, 1249, 1250, 1251, 1252, 1253, 1254, 1255, 1256, 1257, 1258, 1259, 1260, 1261, 1262, 1263, 1264, 1265, 1266, 1267, 1268, 1269, 1270, 1271, 1272, 1273, 1274] (by decide +kernel) (by decide +kernel)
set_option maxRecDepth 20000 in
theorem gL_law_X12_init : GoodIn wsL_law (wsX12_init) := ggL_law_X12_init
set_option maxRecDepth 20000 in
theorem ggL_law_X11_feed : GoodIn wsL_law wsX11_feed := goodIn_r _ [219, 24, 220, 221, 222, 223, 23, 224, 95, 94, 1223, 1224, 1225, 1226, 1227, 1228, 1229, 1230, 1231, 1232, 1233, 1234, 1235, 1236, 1237, 1291, 1292, 1293, 1294, 1295, 1296] (by decide +kernel) (by decide +kernel)
set_option maxRecDepth 20000 in
theorem gL_law_X11_feed : GoodIn wsL_law (wsV RL 15 RX11 yX11_feed wsX11_feed) := goodIn_app (goodIn_of _ (by decide +kernel)) ggL_law_X11_feed
set_option maxRecDepth 20000 in
theorem ggL_law_X12_feed : GoodIn wsL_law wsX12_feed := goodIn_r _ [228, 229, 182, 230, 1238, 1239, 1240, 1241, 1242, 1243, 1244, 1245, 1246, 1247, 1248, 1249, 1250, 1251, 1252, 1253, 1254, 1255, 1256, 1257, 1258, 1259, 1260, 1261, 1262, 1263, 1264, 1265, 1266, 1267, 1268, 1269, 1270, 1271, 1272, 1273, 1274] (by decide +kernel) (by decide +kernel)
set_option maxRecDepth 20000 in
theorem gL_law_X12_feed : GoodIn wsL_law (wsV RL 19 RX12 yX12_feed wsX12_feed) := goodIn_app (goodIn_of _ (by decide +kernel)) ggL_law_X12_feed
set_option maxRecDepth 20000 in
theorem ggL_law_X11_end : GoodIn wsL_law wsX11_end := goodIn_r _ [234, 24, 220, 1223, 1224, 1225, 1226, 1227, 1228, 1229, 1230, 1231, 1232, 1233, 1234, 1235, 1236, 1237, 1291, 1292, 1293, 1294, 1295, 1296] (by decide +kernel) (by decide +kernel)
set_option maxRecDepth 20000 in
theorem gL_law_X11_end : GoodIn wsL_law (wsV RL 20 RX11 yX11_end wsX11_end) := goodIn_app (goodIn_of _ (by decide +kernel)) ggL_law_X11_end
set_option maxRecDepth 20000 in
theorem ggL_law_X12_end : GoodIn wsL_law wsX12_end := goodIn_r _ [238, 229, 239, 240, 5, 241, 1238, 1239, 1240, 1241, 1242, 1243, 1244, 1245, 1246, 1247, 1248, 1249, 1250, 1251, 1252, 1253, 1254, 1255, 1256, 1257, 1258, 1259, 1260, 1261, 1262, 1263, 1264, 1265, 1266, 1267, 1268, 1269, 1270, 1271, 1272, 1273, 1274] (by decide +kernel) (by decide +kernel)
set_option maxRecDepth 20000 in
theorem gL_law_X12_end : GoodIn wsL_law (wsV RL 24 RX12 yX12_end wsX12_end) := goodIn_app (goodIn_of _ (by decide +kernel)) ggL_law_X12_end
set_option maxRecDepth 20000 in
theorem ggL_law_X11_text : GoodIn wsL_law wsX11_text := goodIn_r _ [245, 28, 24, 220, 246, 58, 16, 247, 20, 248, 55, 249, 250, 251, 27, 252, 108, 112, 105, 253, 114, 254, 109, 110, 255, 256, 257, 258, 107, 111, 259, 260, 261, 15, 262, 65, 66, 68, 263, 87, 88, 89, 264, 265, 266, 19, 267, 77, 78, 79, 80, 82, 83, 84, 85, 86, 268, 269, 270, 23, 271, 96, 272, 273, 274, 275, 276, 277, 278, 279, 113, 280, 281, 282, 283, 284, 95, 94, 98, 97, 285, 286, 287, 288, 289, 290, 291, 292, 293, 294, 295, 296, 297, 298, 99, 299, 300, 301, 302, 303, 304, 305, 306, 307, 308, 309, 310, 311, 312, 313, 314, 315, 316, 317, 318, 319, 320, 321, 322, 323, 324, 325, 326, 327, 328, 329, 330, 331, 332, 333, 334, 335, 336, 337, 338, 339, 340, 341, 342, 343, 344, 345, 346, 347, 348, 349, 350, 351, 352, 353, 354, 355, 356, 357, 358, 359, 360, 361, 362, 363, 364, 365, 366, 367, 368, 369, 370, 371, 372, 373, 374, 375, 376, 377, 378, 379, 380, 381, 382, 383, 384, 385, 386, 387, 388, 389, 390, 391, 392, 393, 394, 395, 396, 397, 398, 399, 400, 69, 70, 71, 401, 402, 403, 404, 405, 406, 407, 408, 409, 410, 411, 412, 413, 414, 415, 416, 417, 418, 419, 420, 72, 421, 422, 423, 424, 425, 426, 427, 428, 429, 430, 431, 432, 433, 434, 435, 436, 437, 438, 439, 440, 441, 442, 443, 444, 81, 1223, 1224, 1225, 1226, 1227, 1228, 1229, 1230, 1231, 1232, 1233, 1234, 1235, 1236, 1237, 1291, 1292, 1293, 1294, 1295, 1296, 1297, 1298, 1299, 1300, 1301, 1302, 1303, 1304, 1305, 1275, 1276, 1277, 1278, 1279, 1280, 1281, 1282, 1283, 1284, 1285, 1286, 1287, 1288, 1289, 1290] (by decide +kernel) (by decide +kernel)
set_option maxRecDepth 20000 in
theorem gL_law_X11_text : GoodIn wsL_law (wsV RL 25 RX11 yX11_text wsX11_text) := goodIn_app (goodIn_of _ (by decide +kernel)) ggL_law_X11_text
set_option maxRecDepth 20000 in
theorem ggL_law_X12_text : GoodIn wsL_law wsX12_text := goodIn_r _ [448, 449, 450, 451, 205, 202, 229, 452, 198, 199, 200, 5, 201, 179, 181, 203, 204, 453, 454, 455, 456, 457, 458, 459, 460, 461, 462, 463, 464, 465, 466, 182, 239, 240, 241, 467, 468, 469, 470, 471, 472, 473, 474, 475, 476, 477, 478, 479, 480, 481, 482, 483, 484, 485, 486, 487, 488, 489, 490, 491, 492, 493, 494, 495, 496, 497, 498, 499, 500, 501, 502, 503, 504, 505, 506, 507, 508, 509, 510, 511, 512, 513, 514, 515, 516, 517, 518, 519, 520, 521, 522, 523, 524, 180, 206, 207, 208, 209, 175, 210, 211, 178, 177, 176, 212, 213, 214, 215, 1238, 1239, 1240, 1241, 1242, 1243, 1244, 1245, 1246, 1247, 1248, 1249, 1250, 1251, 1252, 1253, 1254, 1255, 1256, 1257, 1258, 1259, 1260, 1261, 1262, 1263, 1264, 1265, 1266, 1267, 1268, 1269, 1270, 1271, 1272, 1273, 1274] (by decide +kernel) (by decide +kernel)
set_option maxRecDepth 20000 in
theorem gL_law_X12_text : GoodIn wsL_law (wsV RL 29 RX12 yX12_text wsX12_text) := goodIn_app (goodIn_of _ (by decide +kernel)) ggL_law_X12_text
set_option maxRecDepth 20000 in
theorem ggL_law_X11_fault : GoodIn wsL_law wsX11_fault := goodIn_r _ [528, 58, 1223, 1224, 1225, 1226, 1227, 1228, 1229, 1230, 1231, 1232, 1233, 1234, 1235, 1236, 1237] (by decide +kernel) (by decide +kernel)
set_option maxRecDepth 20000 in
theorem gL_law_X11_fault : GoodIn wsL_law (wsV RL 30 RX11 yX11_fault wsX11_fault) := goodIn_app (goodIn_of _ (by decide +kernel)) ggL_law_X11_fault
set_option maxRecDepth 20000 in
theorem ggL_law_X12_fault : GoodIn wsL_law wsX12_fault := goodIn_r _ [532, 449, 1238, 1239, 1240, 1241, 1242, 1243, 1244, 1245, 1246, 1247, 1248, 1249, 1250, 1251, 1252, 1253, 1254, 1255, 1256, 1257, 1258, 1259, 1260, 1261, 1262, 1263, 1264, 1265, 1266, 1267, 1268, 1269, 1270, 1271, 1272, 1273, 1274] (by decide +kernel) (by decide +kernel)
set_option maxRecDepth 20000 in
theorem gL_law_X12_fault : GoodIn wsL_law (wsV RL 33 RX12 yX12_fault wsX12_fault) := goodIn_app (goodIn_of _ (by decide +kernel)) ggL_law_X12_fault
set_option maxRecDepth 20000 in
theorem ggL_law_X11_rule : GoodIn wsL_law wsX11_rule := goodIn_r _ [536, 16, 537, 538, 20, 539, 540, 541, 1223, 1224, 1225, 1226, 1227, 1228, 1229, 1230, 1231, 1232, 1233, 1234, 1235, 1236, 1237, 1275, 1276, 1277, 1278, 1279, 1280, 1281, 1282, 1283, 1284, 1285, 1286, 1287, 1288, 1289, 1290] (by decide +kernel) (by decide +kernel)
set_option maxRecDepth 20000 in
theorem gL_law_X11_rule : GoodIn wsL_law (wsV RL 34 RX11 yX11_rule wsX11_rule) := goodIn_app (goodIn_of _ (by decide +kernel)) ggL_law_X11_rule
set_option maxRecDepth 20000 in
theorem ggL_law_X12_rule : GoodIn wsL_law wsX12_rule := goodIn_r _ [545, 210, 211, 175, 1238, 1239, 1240, 1241, 1242, 1243, 1244, 1245, 1246, 1247, 1248, 1249, 1250, 1251, 1252, 1253, 1254, 1255, 1256, 1257, 1258, 1259, 1260, 1261, 1262, 1263, 1264, 1265, 1266, 1267, 1268, 1269, 1270, 1271, 1272, 1273, 1274] (by decide +kernel) (by decide +kernel)
set_option maxRecDepth 20000 in
theorem gL_law_X12_rule : GoodIn wsL_law (wsV RL 37 RX12 yX12_rule wsX12_rule) := goodIn_app (goodIn_of _ (by decide +kernel)) ggL_law_X12_rule
set_option maxRecDepth 20000 in
theorem ggL_law_X11_pot : GoodIn wsL_law wsX11_pot := goodIn_r _ [549, 16, 20, 550, 551, 552, 553, 15, 554, 65, 1223, 1224, 1225, 1226, 1227, 1228, 1229, 1230, 1231, 1232, 1233, 1234, 1235, 1236, 1237, 1282, 1283, 1284, 1285, 1286, 1287, 1288, 1289, 1290, 1275, 1276, 1277, 1278, 1279, 1280, 1281] (by decide +kernel) (by decide +kernel)
set_option maxRecDepth 20000 in
theorem gL_law_X11_pot : GoodIn wsL_law (wsV RL 38 RX11 yX11_pot wsX11_pot) := goodIn_app (goodIn_of _ (by decide +kernel)) ggL_law_X11_pot
set_option maxRecDepth 20000 in
theorem ggL_law_X12_pot : GoodIn wsL_law wsX12_pot := goodIn_r _ [558, 175, 559, 560, 561, 5, 562, 210, 239, 240, 241, 1238, 1239, 1240, 1241, 1242, 1243, 1244, 1245, 1246, 1247, 1248, 1249, 1250, 1251, 1252, 1253, 1254, 1255, 1256, 1257, 1258, 1259, 1260, 1261, 1262, 1263, 1264, 1265, 1266, 1267, 1268, 1269, 1270, 1271, 1272, 1273, 1274] (by decide +kernel) (by decide +kernel)
set_option maxRecDepth 20000 in
theorem gL_law_X12_pot : GoodIn wsL_law (wsV RL 41 RX12 yX12_pot wsX12_pot) := goodIn_app (goodIn_of _ (by decide +kernel)) ggL_law_X12_pot
set_option maxRecDepth 20000 in
theorem ggL_law_X11_one : GoodIn wsL_law wsX11_one := goodIn_r _ [566, 16, 20, 567, 568, 569, 570, 551, 552, 553, 15, 554, 65, 1223, 1224, 1225, 1226, 1227, 1228, 1229, 1230, 1231, 1232, 1233, 1234, 1235, 1236, 1237, 1282, 1283, 1284, 1285, 1286, 1287, 1288, 1289, 1290, 1275, 1276, 1277, 1278, 1279, 1280, 1281] (by decide +kernel) (by decide +kernel)
set_option maxRecDepth 20000 in
theorem gL_law_X11_one : GoodIn wsL_law (wsV RL 42 RX11 yX11_one wsX11_one) := goodIn_app (goodIn_of _ (by decide +kernel)) ggL_law_X11_one
set_option maxRecDepth 20000 in
theorem ggL_law_X12_one : GoodIn wsL_law wsX12_one := goodIn_r _ [574, 175, 178, 559, 560, 561, 5, 562, 210, 239, 240, 241, 1238, 1239, 1240, 1241, 1242, 1243, 1244, 1245, 1246, 1247, 1248, 1249, 1250, 1251, 1252, 1253, 1254, 1255, 1256, 1257, 1258, 1259, 1260, 1261, 1262, 1263, 1264, 1265, 1266, 1267, 1268, 1269, 1270, 1271, 1272, 1273, 1274] (by decide +kernel) (by decide +kernel)
set_option maxRecDepth 20000 in
theorem gL_law_X12_one : GoodIn wsL_law (wsV RL 46 RX12 yX12_one wsX12_one) := goodIn_app (goodIn_of _ (by decide +kernel)) ggL_law_X12_one
set_option maxRecDepth 20000 in
theorem ggL_law_X11_stir : GoodIn wsL_law wsX11_stir := goodIn_r _ [578, 16, 579, 580, 581, 15, 582, 66, 551, 552, 553, 554, 65, 583, 584, 585, 586, 72, 1223, 1224, 1225, 1226, 1227, 1228, 1229, 1230, 1231, 1232, 1233, 1234, 1235, 1236, 1237, 1275, 1276, 1277, 1278, 1279, 1280, 1281] (by decide +kernel) (by decide +kernel)
set_option maxRecDepth 20000 in
theorem gL_law_X11_stir : GoodIn wsL_law (wsV RL 47 RX11 yX11_stir wsX11_stir) := goodIn_app (goodIn_of _ (by decide +kernel)) ggL_law_X11_stir
set_option maxRecDepth 20000 in
theorem ggL_law_X12_stir : GoodIn wsL_law wsX12_stir := goodIn_r _ [590, 177, 591, 592, 593, 5, 594, 211, 239, 240, 241, 559, 560, 561, 562, 210, 1238, 1239, 1240, 1241, 1242, 1243, 1244, 1245, 1246, 1247, 1248, 1249, 1250, 1251, 1252, 1253, 1254, 1255, 1256, 1257, 1258, 1259, 1260, 1261, 1262, 1263, 1264, 1265, 1266, 1267, 1268, 1269, 1270, 1271, 1272, 1273, 1274] (by decide +kernel) (by decide +kernel)
set_option maxRecDepth 20000 in
theorem gL_law_X12_stir : GoodIn wsL_law (wsV RL 50 RX12 yX12_stir wsX12_stir) := goodIn_app (goodIn_of _ (by decide +kernel)) ggL_law_X12_stir
set_option maxRecDepth 20000 in
theorem ggL_law_X11_befriend : GoodIn wsL_law wsX11_befriend := goodIn_r _ [598, 16, 20, 551, 552, 553, 15, 554, 65, 599, 414, 415, 19, 416, 78, 600, 390, 391, 392, 1223, 1224, 1225, 1226, 1227, 1228, 1229, 1230, 1231, 1232, 1233, 1234, 1235, 1236, 1237, 1275, 1276, 1277, 1278, 1279, 1280, 1281, 1282, 1283, 1284, 1285, 1286, 1287, 1288, 1289, 1290] (by decide +kernel) (by decide +kernel)
set_option maxRecDepth 20000 in
theorem gL_law_X11_befriend : GoodIn wsL_law (wsV RL 51 RX11 yX11_befriend wsX11_befriend) := goodIn_app (goodIn_of _ (by decide +kernel)) ggL_law_X11_befriend
set_option maxRecDepth 20000 in
theorem ggL_law_X12_befriend : GoodIn wsL_law wsX12_befriend := goodIn_r _ [604, 175, 559, 560, 561, 5, 562, 210, 239, 240, 241, 1238, 1239, 1240, 1241, 1242, 1243, 1244, 1245, 1246, 1247, 1248, 1249, 1250, 1251, 1252, 1253, 1254, 1255, 1256, 1257, 1258, 1259, 1260, 1261, 1262, 1263, 1264, 1265, 1266, 1267, 1268, 1269, 1270, 1271, 1272, 1273, 1274] (by decide +kernel) (by decide +kernel)
set_option maxRecDepth 20000 in
theorem gL_law_X12_befriend : GoodIn wsL_law (wsV RL 55 RX12 yX12_befriend wsX12_befriend) := goodIn_app (goodIn_of _ (by decide +kernel)) ggL_law_X12_befriend
set_option maxRecDepth 20000 in
theorem ggL_law_X11_spoon : GoodIn wsL_law wsX11_spoon := goodIn_r _ [608, 16, 20, 568, 551, 552, 553, 15, 554, 65, 1223, 1224, 1225, 1226, 1227, 1228, 1229, 1230, 1231, 1232, 1233, 1234, 1235, 1236, 1237, 1282, 1283, 1284, 1285, 1286, 1287, 1288, 1289, 1290, 1275, 1276, 1277, 1278, 1279, 1280, 1281] (by decide +kernel) (by decide +kernel)
set_option maxRecDepth 20000 in
theorem gL_law_X11_spoon : GoodIn wsL_law (wsV RL 56 RX11 yX11_spoon wsX11_spoon) := goodIn_app (goodIn_of _ (by decide +kernel)) ggL_law_X11_spoon
set_option maxRecDepth 20000 in
theorem ggL_law_X12_spoon : GoodIn wsL_law wsX12_spoon := goodIn_r _ [612, 613, 175, 559, 560, 561, 5, 562, 210, 239, 240, 241, 1238, 1239, 1240, 1241, 1242, 1243, 1244, 1245, 1246, 1247, 1248, 1249, 1250, 1251, 1252, 1253, 1254, 1255, 1256, 1257, 1258, 1259, 1260, 1261, 1262, 1263, 1264, 1265, 1266, 1267, 1268, 1269, 1270, 1271, 1272, 1273, 1274] (by decide +kernel) (by decide +kernel)
set_option maxRecDepth 20000 in
theorem gL_law_X12_spoon : GoodIn wsL_law (wsV RL 59 RX12 yX12_spoon wsX12_spoon) := goodIn_app (goodIn_of _ (by decide +kernel)) ggL_law_X12_spoon
set_option maxRecDepth 20000 in
theorem ggL_law_X11_crown : GoodIn wsL_law wsX11_crown := goodIn_r _ [617, 16, 20, 539, 551, 552, 553, 15, 554, 65, 1223, 1224, 1225, 1226, 1227, 1228, 1229, 1230, 1231, 1232, 1233, 1234, 1235, 1236, 1237, 1282, 1283, 1284, 1285, 1286, 1287, 1288, 1289, 1290, 1275, 1276, 1277, 1278, 1279, 1280, 1281] (by decide +kernel) (by decide +kernel)
set_option maxRecDepth 20000 in
theorem gL_law_X11_crown : GoodIn wsL_law (wsV RL 60 RX11 yX11_crown wsX11_crown) := goodIn_app (goodIn_of _ (by decide +kernel)) ggL_law_X11_crown
set_option maxRecDepth 20000 in
theorem ggL_law_X12_crown : GoodIn wsL_law wsX12_crown := goodIn_r _ [621, 175, 559, 560, 561, 5, 562, 210, 239, 240, 241, 1238, 1239, 1240, 1241, 1242, 1243, 1244, 1245, 1246, 1247, 1248, 1249, 1250, 1251, 1252, 1253, 1254, 1255, 1256, 1257, 1258, 1259, 1260, 1261, 1262, 1263, 1264, 1265, 1266, 1267, 1268, 1269, 1270, 1271, 1272, 1273, 1274] (by decide +kernel) (by decide +kernel)
set_option maxRecDepth 20000 in
theorem gL_law_X12_crown : GoodIn wsL_law (wsV RL 63 RX12 yX12_crown wsX12_crown) := goodIn_app (goodIn_of _ (by decide +kernel)) ggL_law_X12_crown
set_option maxRecDepth 20000 in
theorem ggL_law_X11_fill : GoodIn wsL_law wsX11_fill := goodIn_r _ [625, 16, 20, 550, 551, 552, 553, 15, 554, 65, 1223, 1224, 1225, 1226, 1227, 1228, 1229, 1230, 1231, 1232, 1233, 1234, 1235, 1236, 1237, 1282, 1283, 1284, 1285, 1286, 1287, 1288, 1289, 1290, 1275, 1276, 1277, 1278, 1279, 1280, 1281] (by decide +kernel) (by decide +kernel)
set_option maxRecDepth 20000 in
theorem gL_law_X11_fill : GoodIn wsL_law (wsV RL 64 RX11 yX11_fill wsX11_fill) := goodIn_app (goodIn_of _ (by decide +kernel)) ggL_law_X11_fill
set_option maxRecDepth 20000 in
theorem ggL_law_X12_fill : GoodIn wsL_law wsX12_fill := goodIn_r _ [629, 613, 175, 559, 560, 561, 5, 562, 210, 239, 240, 241, 1238, 1239, 1240, 1241, 1242, 1243, 1244, 1245, 1246, 1247, 1248, 1249, 1250, 1251, 1252, 1253, 1254, 1255, 1256, 1257, 1258, 1259, 1260, 1261, 1262, 1263, 1264, 1265, 1266, 1267, 1268, 1269, 1270, 1271, 1272, 1273, 1274] (by decide +kernel) (by decide +kernel)
set_option maxRecDepth 20000 in
theorem gL_law_X12_fill : GoodIn wsL_law (wsV RL 67 RX12 yX12_fill wsX12_fill) := goodIn_app (goodIn_of _ (by decide +kernel)) ggL_law_X12_fill
set_option maxRecDepth 20000 in
theorem ggL_law_X11_bowl : GoodIn wsL_law wsX11_bowl := goodIn_r _ [633, 16, 32, 551, 552, 553, 15, 554, 65, 579, 580, 581, 582, 66, 634, 635, 636, 31, 637, 123, 638, 124, 120, 121, 639, 426, 427, 428, 640, 414, 415, 19, 416, 78, 641, 642, 643, 644, 645, 122, 646, 647, 648, 649, 650, 584, 585, 586, 72, 651, 652, 653, 654, 655, 656, 657, 658, 1223, 1224, 1225, 1226, 1227, 1228, 1229, 1230, 1231, 1232, 1233, 1234, 1235, 1236, 1237, 1275, 1276, 1277, 1278, 1279, 1280, 1281, 1306, 1307, 1308, 1309, 1310, 1282, 1283, 1284, 1285, 1286, 1287, 1288, 1289, 1290] (by decide +kernel) (by decide +kernel)
set_option maxRecDepth 20000 in
theorem gL_law_X11_bowl : GoodIn wsL_law (wsV RL 68 RX11 yX11_bowl wsX11_bowl) := goodIn_app (goodIn_of _ (by decide +kernel)) ggL_law_X11_bowl
set_option maxRecDepth 20000 in
theorem ggL_law_X12_bowl : GoodIn wsL_law wsX12_bowl := goodIn_r _ [662, 175, 183, 559, 560, 561, 5, 562, 210, 239, 240, 241, 591, 592, 593, 594, 211, 663, 664, 665, 666, 667, 668, 669, 670, 671, 672, 673, 177, 1238, 1239, 1240, 1241, 1242, 1243, 1244, 1245, 1246, 1247, 1248, 1249, 1250, 1251, 1252, 1253, 1254, 1255, 1256, 1257, 1258, 1259, 1260, 1261, 1262, 1263, 1264, 1265, 1266, 1267, 1268, 1269, 1270, 1271, 1272, 1273, 1274] (by decide +kernel) (by decide +kernel)
set_option maxRecDepth 20000 in
theorem gL_law_X12_bowl : GoodIn wsL_law (wsV RL 72 RX12 yX12_bowl wsX12_bowl) := goodIn_app (goodIn_of _ (by decide +kernel)) ggL_law_X12_bowl
set_option maxRecDepth 20000 in
theorem ggL_law_X11_ladle : GoodIn wsL_law wsX11_ladle := goodIn_r _ [677, 16, 32, 551, 552, 553, 15, 554, 65, 579, 580, 581, 582, 66, 634, 635, 636, 31, 637, 123, 638, 124, 120, 121, 639, 426, 427, 428, 640, 414, 415, 19, 416, 78, 678, 656, 657, 658, 1223, 1224, 1225, 1226, 1227, 1228, 1229, 1230, 1231, 1232, 1233, 1234, 1235, 1236, 1237, 1275, 1276, 1277, 1278, 1279, 1280, 1281, 1306, 1307, 1308, 1309, 1310, 1282, 1283, 1284, 1285, 1286, 1287, 1288, 1289, 1290] (by decide +kernel) (by decide +kernel)
set_option maxRecDepth 20000 in
theorem gL_law_X11_ladle : GoodIn wsL_law (wsV RL 73 RX11 yX11_ladle wsX11_ladle) := goodIn_app (goodIn_of _ (by decide +kernel)) ggL_law_X11_ladle
set_option maxRecDepth 20000 in
theorem ggL_law_X12_ladle : GoodIn wsL_law wsX12_ladle := goodIn_r _ [682, 183, 559, 560, 561, 5, 562, 210, 239, 240, 241, 591, 592, 593, 594, 211, 663, 664, 665, 666, 175, 667, 668, 669, 1238, 1239, 1240, 1241, 1242, 1243, 1244, 1245, 1246, 1247, 1248, 1249, 1250, 1251, 1252, 1253, 1254, 1255, 1256, 1257, 1258, 1259, 1260, 1261, 1262, 1263, 1264, 1265, 1266, 1267, 1268, 1269, 1270, 1271, 1272, 1273, 1274] (by decide +kernel) (by decide +kernel)
set_option maxRecDepth 20000 in
theorem gL_law_X12_ladle : GoodIn wsL_law (wsV RL 76 RX12 yX12_ladle wsX12_ladle) := goodIn_app (goodIn_of _ (by decide +kernel)) ggL_law_X12_ladle
set_option maxRecDepth 20000 in
theorem ggL_law_X11_next : GoodIn wsL_law wsX11_next := goodIn_r _ [686, 16, 32, 20, 541, 551, 552, 553, 15, 554, 65, 579, 580, 581, 582, 66, 634, 635, 636, 31, 637, 123, 638, 124, 120, 121, 639, 426, 427, 428, 640, 414, 415, 19, 416, 78, 583, 584, 585, 586, 72, 687, 688, 689, 690, 1223, 1224, 1225, 1226, 1227, 1228, 1229, 1230, 1231, 1232, 1233, 1234, 1235, 1236, 1237, 1282, 1283, 1284, 1285, 1286, 1287, 1288, 1289, 1290, 1275, 1276, 1277, 1278, 1279, 1280, 1281, 1306, 1307, 1308, 1309, 1310] (by decide +kernel) (by decide +kernel)
set_option maxRecDepth 20000 in
theorem gL_law_X11_next : GoodIn wsL_law (wsV RL 77 RX11 yX11_next wsX11_next) := goodIn_app (goodIn_of _ (by decide +kernel)) ggL_law_X11_next
set_option maxRecDepth 20000 in
theorem ggL_law_X12_next : GoodIn wsL_law wsX12_next := goodIn_r _ [694, 175, 559, 560, 561, 5, 562, 210, 239, 240, 241, 591, 592, 593, 594, 211, 695, 696, 697, 698, 183, 177, 663, 664, 665, 666, 667, 668, 669, 1238, 1239, 1240, 1241, 1242, 1243, 1244, 1245, 1246, 1247, 1248, 1249, 1250, 1251, 1252, 1253, 1254, 1255, 1256, 1257, 1258, 1259, 1260, 1261, 1262, 1263, 1264, 1265, 1266, 1267, 1268, 1269, 1270, 1271, 1272, 1273, 1274] (by decide +kernel) (by decide +kernel)
set_option maxRecDepth 20000 in
theorem gL_law_X12_next : GoodIn wsL_law (wsV RL 80 RX12 yX12_next wsX12_next) := goodIn_app (goodIn_of _ (by decide +kernel)) ggL_law_X12_next
set_option maxRecDepth 20000 in
theorem ggL_law_X11_day : GoodIn wsL_law wsX11_day := goodIn_r _ [702, 16, 20, 540, 32, 539, 579, 580, 581, 15, 582, 66, 703, 704, 705, 31, 706, 124, 707, 122, 645, 123, 638, 708, 374, 375, 376, 709, 710, 711, 712, 635, 636, 637, 120, 121, 639, 426, 427, 428, 65, 640, 414, 415, 19, 416, 78, 713, 642, 643, 644, 646, 647, 648, 649, 650, 584, 585, 586, 72, 714, 715, 652, 653, 654, 655, 656, 657, 658, 716, 688, 689, 690, 1223, 1224, 1225, 1226, 1227, 1228, 1229, 1230, 1231, 1232, 1233, 1234, 1235, 1236, 1237, 1282, 1283, 1284, 1285, 1286, 1287, 1288, 1289, 1290, 1275, 1276, 1277, 1278, 1279, 1280, 1281, 1306, 1307, 1308, 1309, 1310] (by decide +kernel) (by decide +kernel)
set_option maxRecDepth 20000 in
theorem gL_law_X11_day : GoodIn wsL_law (wsV RL 81 RX11 yX11_day wsX11_day) := goodIn_app (goodIn_of _ (by decide +kernel)) ggL_law_X11_day
set_option maxRecDepth 20000 in
theorem ggL_law_X12_day : GoodIn wsL_law wsX12_day := goodIn_r _ [720, 175, 591, 592, 593, 5, 594, 211, 239, 240, 241, 721, 722, 723, 724, 210, 184, 177, 183, 695, 696, 697, 698, 663, 664, 665, 666, 667, 668, 669, 1238, 1239, 1240, 1241, 1242, 1243, 1244, 1245, 1246, 1247, 1248, 1249, 1250, 1251, 1252, 1253, 1254, 1255, 1256, 1257, 1258, 1259, 1260, 1261, 1262, 1263, 1264, 1265, 1266, 1267, 1268, 1269, 1270, 1271, 1272, 1273, 1274] (by decide +kernel) (by decide +kernel)
set_option maxRecDepth 20000 in
theorem gL_law_X12_day : GoodIn wsL_law (wsV RL 84 RX12 yX12_day wsX12_day) := goodIn_app (goodIn_of _ (by decide +kernel)) ggL_law_X12_day
set_option maxRecDepth 20000 in
theorem ggL_law_X11_hungry : GoodIn wsL_law wsX11_hungry := goodIn_r _ [728, 16, 537, 20, 570, 569, 540, 1223, 1224, 1225, 1226, 1227, 1228, 1229, 1230, 1231, 1232, 1233, 1234, 1235, 1236, 1237, 1275, 1276, 1277, 1278, 1279, 1280, 1281, 1282, 1283, 1284, 1285, 1286, 1287, 1288, 1289, 1290] (by decide +kernel) (by decide +kernel)
set_option maxRecDepth 20000 in
theorem gL_law_X11_hungry : GoodIn wsL_law (wsV RL 85 RX11 yX11_hungry wsX11_hungry) := goodIn_app (goodIn_of _ (by decide +kernel)) ggL_law_X11_hungry
set_option maxRecDepth 20000 in
theorem ggL_law_X12_hungry : GoodIn wsL_law wsX12_hungry := goodIn_r _ [732, 210, 175, 178, 667, 668, 5, 669, 1238, 1239, 1240, 1241, 1242, 1243, 1244, 1245, 1246, 1247, 1248, 1249, 1250, 1251, 1252, 1253, 1254, 1255, 1256, 1257, 1258, 1259, 1260, 1261, 1262, 1263, 1264, 1265, 1266, 1267, 1268, 1269, 1270, 1271, 1272, 1273, 1274] (by decide +kernel) (by decide +kernel)
set_option maxRecDepth 20000 in
theorem gL_law_X12_hungry : GoodIn wsL_law (wsV RL 88 RX12 yX12_hungry wsX12_hungry) := goodIn_app (goodIn_of _ (by decide +kernel)) ggL_law_X12_hungry
set_option maxRecDepth 20000 in
theorem ggL_law_X11_chance : GoodIn wsL_law wsX11_chance := goodIn_r _ [736, 16, 737, 538, 738, 36, 551, 552, 553, 15, 554, 65, 739, 740, 2, 741, 742, 743, 744, 35, 745, 746, 747, 748, 749, 133, 130, 750, 751, 752, 753, 754, 755, 31, 756, 123, 638, 712, 635, 636, 637, 124, 120, 121, 639, 426, 427, 428, 640, 414, 415, 19, 416, 78, 757, 758, 88, 759, 760, 761, 762, 763, 131, 764, 765, 766, 374, 375, 376, 767, 768, 769, 770, 771, 772, 584, 585, 586, 72, 773, 688, 689, 690, 774, 775, 776, 777, 778, 779, 780, 781, 782, 783, 784, 785, 786, 1223, 1224, 1225, 1226, 1227, 1228, 1229, 1230, 1231, 1232, 1233, 1234, 1235, 1236, 1237, 1275, 1276, 1277, 1278, 1279, 1280, 1281, 1311, 1312, 1313, 1314, 1306, 1307, 1308, 1309, 1310, 1282, 1283, 1284, 1285, 1286, 1287, 1288, 1289, 1290] (by decide +kernel) (by decide +kernel)
set_option maxRecDepth 20000 in
theorem gL_law_X11_chance : GoodIn wsL_law (wsV RL 89 RX11 yX11_chance wsX11_chance) := goodIn_app (goodIn_of _ (by decide +kernel)) ggL_law_X11_chance
set_option maxRecDepth 20000 in
theorem ggL_law_X12_chance : GoodIn wsL_law wsX12_chance := goodIn_r _ [790, 791, 792, 211, 793, 185, 559, 560, 561, 5, 562, 210, 239, 240, 241, 794, 795, 796, 797, 798, 799, 800, 175, 801, 802, 803, 804, 186, 805, 806, 807, 808, 177, 695, 696, 697, 698, 183, 663, 664, 665, 666, 667, 668, 669, 809, 810, 811, 812, 813, 814, 815, 816, 817, 818, 1238, 1239, 1240, 1241, 1242, 1243, 1244, 1245, 1246, 1247, 1248, 1249, 1250, 1251, 1252, 1253, 1254, 1255, 1256, 1257, 1258, 1259, 1260, 1261, 1262, 1263, 1264, 1265, 1266, 1267, 1268, 1269, 1270, 1271, 1272, 1273, 1274] (by decide +kernel) (by decide +kernel)
set_option maxRecDepth 20000 in
theorem gL_law_X12_chance : GoodIn wsL_law (wsV RL 93 RX12 yX12_chance wsX12_chance) := goodIn_app (goodIn_of _ (by decide +kernel)) ggL_law_X12_chance
set_option maxRecDepth 20000 in
theorem ggL_law_X11_lasts : GoodIn wsL_law wsX11_lasts := goodIn_r _ [822, 737, 16, 538, 738, 36, 739, 740, 2, 741, 823, 824, 825, 35, 826, 133, 750, 751, 746, 747, 748, 749, 130, 752, 753, 754, 755, 31, 756, 123, 638, 712, 635, 636, 637, 124, 120, 121, 639, 426, 427, 15, 428, 65, 640, 414, 415, 19, 416, 78, 757, 758, 88, 759, 760, 761, 762, 763, 131, 764, 765, 766, 374, 375, 376, 767, 768, 769, 770, 771, 772, 584, 585, 586, 72, 773, 688, 689, 690, 774, 775, 776, 777, 778, 779, 780, 781, 782, 783, 784, 785, 786, 1223, 1224, 1225, 1226, 1227, 1228, 1229, 1230, 1231, 1232, 1233, 1234, 1235, 1236, 1237, 1275, 1276, 1277, 1278, 1279, 1280, 1281, 1311, 1312, 1313, 1314, 1306, 1307, 1308, 1309, 1310, 1282, 1283, 1284, 1285, 1286, 1287, 1288, 1289, 1290] (by decide +kernel) (by decide +kernel)
set_option maxRecDepth 20000 in
theorem gL_law_X11_lasts : GoodIn wsL_law (wsV RL 94 RX11 yX11_lasts wsX11_lasts) := goodIn_app (goodIn_of _ (by decide +kernel)) ggL_law_X11_lasts
set_option maxRecDepth 20000 in
theorem ggL_law_X12_lasts : GoodIn wsL_law wsX12_lasts := goodIn_r _ [830, 791, 792, 211, 793, 185, 239, 240, 5, 241, 794, 795, 796, 797, 798, 799, 800, 175, 801, 802, 803, 804, 186, 805, 806, 807, 808, 177, 695, 696, 697, 698, 183, 663, 664, 665, 666, 210, 667, 668, 669, 809, 810, 811, 812, 813, 814, 815, 816, 817, 818, 1238, 1239, 1240, 1241, 1242, 1243, 1244, 1245, 1246, 1247, 1248, 1249, 1250, 1251, 1252, 1253, 1254, 1255, 1256, 1257, 1258, 1259, 1260, 1261, 1262, 1263, 1264, 1265, 1266, 1267, 1268, 1269, 1270, 1271, 1272, 1273, 1274] (by decide +kernel) (by decide +kernel)
set_option maxRecDepth 20000 in
theorem gL_law_X12_lasts : GoodIn wsL_law (wsV RL 98 RX12 yX12_lasts wsX12_lasts) := goodIn_app (goodIn_of _ (by decide +kernel)) ggL_law_X12_lasts
set_option maxRecDepth 20000 in
theorem ggL_law_X11_reign : GoodIn wsL_law wsX11_reign := goodIn_r _ [834, 16, 538, 40, 835, 836, 837, 2, 838, 839, 840, 841, 39, 842, 140, 138, 843, 754, 755, 31, 756, 123, 638, 712, 635, 636, 637, 124, 120, 121, 639, 426, 427, 15, 428, 65, 640, 414, 415, 19, 416, 78, 844, 845, 846, 847, 848, 849, 850, 851, 852, 853, 854, 855, 856, 857, 858, 859, 860, 861, 862, 863, 864, 865, 866, 584, 585, 586, 72, 867, 688, 689, 690, 868, 869, 870, 871, 872, 873, 874, 875, 876, 877, 878, 139, 879, 580, 581, 582, 66, 880, 881, 882, 1223, 1224, 1225, 1226, 1227, 1228, 1229, 1230, 1231, 1232, 1233, 1234, 1235, 1236, 1237, 1275, 1276, 1277, 1278, 1279, 1280, 1281, 1315, 1316, 1317, 1306, 1307, 1308, 1309, 1310, 1282, 1283, 1284, 1285, 1286, 1287, 1288, 1289, 1290] (by decide +kernel) (by decide +kernel)
set_option maxRecDepth 20000 in
theorem gL_law_X11_reign : GoodIn wsL_law (wsV RL 99 RX11 yX11_reign wsX11_reign) := goodIn_app (goodIn_of _ (by decide +kernel)) ggL_law_X11_reign
set_option maxRecDepth 20000 in
theorem ggL_law_X12_reign : GoodIn wsL_law wsX12_reign := goodIn_r _ [886, 791, 887, 211, 239, 240, 5, 241, 888, 889, 890, 891, 187, 210, 805, 806, 807, 808, 177, 695, 696, 697, 698, 183, 663, 664, 665, 666, 175, 667, 668, 669, 892, 893, 894, 895, 896, 897, 898, 899, 1238, 1239, 1240, 1241, 1242, 1243, 1244, 1245, 1246, 1247, 1248, 1249, 1250, 1251, 1252, 1253, 1254, 1255, 1256, 1257, 1258, 1259, 1260, 1261, 1262, 1263, 1264, 1265, 1266, 1267, 1268, 1269, 1270, 1271, 1272, 1273, 1274] (by decide +kernel) (by decide +kernel)
set_option maxRecDepth 20000 in
theorem gL_law_X12_reign : GoodIn wsL_law (wsV RL 102 RX12 yX12_reign wsX12_reign) := goodIn_app (goodIn_of _ (by decide +kernel)) ggL_law_X12_reign
set_option maxRecDepth 20000 in
theorem ggL_law_X11_raise : GoodIn wsL_law wsX11_raise := goodIn_r _ [903, 16, 538, 40, 835, 551, 552, 553, 15, 554, 65, 836, 837, 2, 838, 904, 905, 906, 39, 907, 140, 138, 843, 754, 755, 31, 756, 123, 638, 712, 635, 636, 637, 124, 120, 121, 639, 426, 427, 428, 640, 414, 415, 19, 416, 78, 850, 851, 852, 853, 848, 849, 854, 855, 856, 857, 858, 859, 860, 861, 862, 863, 864, 865, 866, 584, 585, 586, 72, 867, 688, 689, 690, 868, 869, 870, 871, 872, 873, 874, 875, 876, 877, 878, 139, 879, 580, 581, 582, 66, 880, 881, 882, 1223, 1224, 1225, 1226, 1227, 1228, 1229, 1230, 1231, 1232, 1233, 1234, 1235, 1236, 1237, 1275, 1276, 1277, 1278, 1279, 1280, 1281, 1315, 1316, 1317, 1306, 1307, 1308, 1309, 1310, 1282, 1283, 1284, 1285, 1286, 1287, 1288, 1289, 1290] (by decide +kernel) (by decide +kernel)
set_option maxRecDepth 20000 in
theorem gL_law_X11_raise : GoodIn wsL_law (wsV RL 103 RX11 yX11_raise wsX11_raise) := goodIn_app (goodIn_of _ (by decide +kernel)) ggL_law_X11_raise
set_option maxRecDepth 20000 in
theorem ggL_law_X12_raise : GoodIn wsL_law wsX12_raise := goodIn_r _ [911, 791, 887, 211, 188, 559, 560, 561, 5, 562, 210, 239, 240, 241, 912, 913, 914, 915, 916, 805, 806, 807, 808, 177, 695, 696, 697, 698, 183, 663, 664, 665, 666, 175, 667, 668, 669, 896, 897, 898, 899, 1238, 1239, 1240, 1241, 1242, 1243, 1244, 1245, 1246, 1247, 1248, 1249, 1250, 1251, 1252, 1253, 1254, 1255, 1256, 1257, 1258, 1259, 1260, 1261, 1262, 1263, 1264, 1265, 1266, 1267, 1268, 1269, 1270, 1271, 1272, 1273, 1274] (by decide +kernel) (by decide +kernel)
set_option maxRecDepth 20000 in
theorem gL_law_X12_raise : GoodIn wsL_law (wsV RL 106 RX12 yX12_raise wsX12_raise) := goodIn_app (goodIn_of _ (by decide +kernel)) ggL_law_X12_raise
set_option maxRecDepth 20000 in
theorem ggL_law_X11_coup : GoodIn wsL_law wsX11_coup := goodIn_r _ [920, 16, 32, 44, 551, 552, 553, 15, 554, 65, 579, 580, 581, 582, 66, 739, 740, 2, 741, 921, 754, 755, 31, 756, 123, 638, 712, 635, 636, 637, 124, 120, 121, 639, 426, 427, 428, 640, 414, 415, 19, 416, 78, 641, 642, 643, 644, 645, 122, 646, 647, 648, 649, 650, 584, 585, 586, 72, 922, 923, 924, 43, 925, 145, 926, 927, 928, 929, 930, 931, 932, 933, 934, 935, 936, 652, 653, 654, 655, 656, 657, 658, 937, 938, 939, 940, 941, 942, 943, 944, 945, 946, 1223, 1224, 1225, 1226, 1227, 1228, 1229, 1230, 1231, 1232, 1233, 1234, 1235, 1236, 1237, 1275, 1276, 1277, 1278, 1279, 1280, 1281, 1306, 1307, 1308, 1309, 1310, 1282, 1283, 1284, 1285, 1286, 1287, 1288, 1289, 1290, 1318] (by decide +kernel) (by decide +kernel)
set_option maxRecDepth 20000 in
theorem gL_law_X11_coup : GoodIn wsL_law (wsV RL 107 RX11 yX11_coup wsX11_coup) := goodIn_app (goodIn_of _ (by decide +kernel)) ggL_law_X11_coup
set_option maxRecDepth 20000 in
theorem ggL_law_X12_coup : GoodIn wsL_law wsX12_coup := goodIn_r _ [950, 559, 560, 561, 5, 562, 210, 239, 240, 241, 591, 592, 593, 594, 211, 794, 795, 796, 951, 952, 953, 954, 955, 956, 957, 958, 190, 189, 959, 960, 961, 962, 175, 183, 663, 664, 665, 666, 667, 668, 669, 670, 671, 672, 673, 177, 963, 964, 965, 966, 1238, 1239, 1240, 1241, 1242, 1243, 1244, 1245, 1246, 1247, 1248, 1249, 1250, 1251, 1252, 1253, 1254, 1255, 1256, 1257, 1258, 1259, 1260, 1261, 1262, 1263, 1264, 1265, 1266, 1267, 1268, 1269, 1270, 1271, 1272, 1273, 1274] (by decide +kernel) (by decide +kernel)
set_option maxRecDepth 20000 in
theorem gL_law_X12_coup : GoodIn wsL_law (wsV RL 110 RX12 yX12_coup wsX12_coup) := goodIn_app (goodIn_of _ (by decide +kernel)) ggL_law_X12_coup
set_option maxRecDepth 20000 in
theorem ggL_law_X11_firm : GoodIn wsL_law wsX11_firm := goodIn_r _ [970, 16, 32, 537, 44, 579, 580, 581, 15, 582, 66, 921, 754, 755, 31, 756, 123, 638, 712, 635, 636, 637, 124, 120, 121, 639, 426, 427, 428, 65, 640, 414, 415, 19, 416, 78, 641, 642, 643, 644, 645, 122, 646, 647, 648, 649, 650, 584, 585, 586, 72, 922, 923, 924, 43, 925, 145, 926, 927, 928, 929, 930, 931, 932, 933, 934, 935, 936, 652, 653, 654, 655, 656, 657, 658, 937, 938, 939, 940, 941, 942, 1223, 1224, 1225, 1226, 1227, 1228, 1229, 1230, 1231, 1232, 1233, 1234, 1235, 1236, 1237, 1275, 1276, 1277, 1278, 1279, 1280, 1281, 1306, 1307, 1308, 1309, 1310, 1282, 1283, 1284, 1285, 1286, 1287, 1288, 1289, 1290, 1318] (by decide +kernel) (by decide +kernel)
set_option maxRecDepth 20000 in
theorem gL_law_X11_firm : GoodIn wsL_law (wsV RL 111 RX11 yX11_firm wsX11_firm) := goodIn_app (goodIn_of _ (by decide +kernel)) ggL_law_X11_firm
set_option maxRecDepth 20000 in
theorem ggL_law_X12_firm : GoodIn wsL_law wsX12_firm := goodIn_r _ [974, 210, 591, 592, 593, 5, 594, 211, 239, 240, 241, 951, 952, 953, 954, 955, 956, 957, 958, 190, 189, 959, 960, 961, 962, 175, 183, 663, 664, 665, 666, 667, 668, 669, 670, 671, 672, 673, 177, 963, 964, 965, 966, 1238, 1239, 1240, 1241, 1242, 1243, 1244, 1245, 1246, 1247, 1248, 1249, 1250, 1251, 1252, 1253, 1254, 1255, 1256, 1257, 1258, 1259, 1260, 1261, 1262, 1263, 1264, 1265, 1266, 1267, 1268, 1269, 1270, 1271, 1272, 1273, 1274] (by decide +kernel) (by decide +kernel)
set_option maxRecDepth 20000 in
theorem gL_law_X12_firm : GoodIn wsL_law (wsV RL 114 RX12 yX12_firm wsX12_firm) := goodIn_app (goodIn_of _ (by decide +kernel)) ggL_law_X12_firm
set_option maxRecDepth 20000 in
theorem ggL_law_X11_see : GoodIn wsL_law wsX11_see := goodIn_r _ [978, 16, 20, 979, 980, 551, 552, 553, 15, 554, 65, 1223, 1224, 1225, 1226, 1227, 1228, 1229, 1230, 1231, 1232, 1233, 1234, 1235, 1236, 1237, 1282, 1283, 1284, 1285, 1286, 1287, 1288, 1289, 1290, 1275, 1276, 1277, 1278, 1279, 1280, 1281] (by decide +kernel) (by decide +kernel)
set_option maxRecDepth 20000 in
theorem gL_law_X11_see : GoodIn wsL_law (wsV RL 115 RX11 yX11_see wsX11_see) := goodIn_app (goodIn_of _ (by decide +kernel)) ggL_law_X11_see
set_option maxRecDepth 20000 in
theorem ggL_law_X12_see : GoodIn wsL_law wsX12_see := goodIn_r _ [984, 175, 559, 560, 561, 5, 562, 210, 239, 240, 241, 1238, 1239, 1240, 1241, 1242, 1243, 1244, 1245, 1246, 1247, 1248, 1249, 1250, 1251, 1252, 1253, 1254, 1255, 1256, 1257, 1258, 1259, 1260, 1261, 1262, 1263, 1264, 1265, 1266, 1267, 1268, 1269, 1270, 1271, 1272, 1273, 1274] (by decide +kernel) (by decide +kernel)
set_option maxRecDepth 20000 in
theorem gL_law_X12_see : GoodIn wsL_law (wsV RL 118 RX12 yX12_see wsX12_see) := goodIn_app (goodIn_of _ (by decide +kernel)) ggL_law_X12_see
set_option maxRecDepth 20000 in
theorem ggL_law_X11_forget : GoodIn wsL_law wsX11_forget := goodIn_r _ [988, 20, 979, 1223, 1224, 1225, 1226, 1227, 1228, 1229, 1230, 1231, 1232, 1233, 1234, 1235, 1236, 1237, 1282, 1283, 1284, 1285, 1286, 1287, 1288, 1289, 1290] (by decide +kernel) (by decide +kernel)
set_option maxRecDepth 20000 in
theorem gL_law_X11_forget : GoodIn wsL_law (wsV RL 119 RX11 yX11_forget wsX11_forget) := goodIn_app (goodIn_of _ (by decide +kernel)) ggL_law_X11_forget
set_option maxRecDepth 20000 in
theorem ggL_law_X12_forget : GoodIn wsL_law wsX12_forget := goodIn_r _ [992, 175, 239, 240, 5, 241, 1238, 1239, 1240, 1241, 1242, 1243, 1244, 1245, 1246, 1247, 1248, 1249, 1250, 1251, 1252, 1253, 1254, 1255, 1256, 1257, 1258, 1259, 1260, 1261, 1262, 1263, 1264, 1265, 1266, 1267, 1268, 1269, 1270, 1271, 1272, 1273, 1274] (by decide +kernel) (by decide +kernel)
set_option maxRecDepth 20000 in
theorem gL_law_X12_forget : GoodIn wsL_law (wsV RL 122 RX12 yX12_forget wsX12_forget) := goodIn_app (goodIn_of _ (by decide +kernel)) ggL_law_X12_forget
set_option maxRecDepth 20000 in
theorem ggL_law_X11_histories : GoodIn wsL_law wsX11_histories := goodIn_r _ [996, 48, 836, 837, 2, 838, 997, 998, 999, 47, 1000, 151, 1001, 1002, 1003, 1004, 1005, 150, 1006, 635, 636, 31, 637, 123, 638, 124, 120, 121, 639, 426, 427, 15, 428, 65, 640, 414, 415, 19, 416, 78, 1007, 656, 657, 658, 1008, 1009, 1010, 1011, 1012, 1013, 1014, 584, 585, 586, 72, 1015, 1016, 1017, 1018, 1019, 1020, 1021, 1022, 1023, 1024, 1025, 1026, 1027, 1028, 1029, 1030, 1223, 1224, 1225, 1226, 1227, 1228, 1229, 1230, 1231, 1232, 1233, 1234, 1235, 1236, 1237, 1319, 1320, 1306, 1307, 1308, 1309, 1310, 1282, 1283, 1284, 1285, 1286, 1287, 1288, 1289, 1290, 1275, 1276, 1277, 1278, 1279, 1280, 1281] (by decide +kernel) (by decide +kernel)
set_option maxRecDepth 20000 in
theorem gL_law_X11_histories : GoodIn wsL_law (wsV RL 123 RX11 yX11_histories wsX11_histories) := goodIn_app (goodIn_of _ (by decide +kernel)) ggL_law_X11_histories
set_option maxRecDepth 20000 in
theorem ggL_law_X12_histories : GoodIn wsL_law wsX12_histories := goodIn_r _ [1034, 791, 1035, 191, 175, 211, 239, 240, 5, 241, 1036, 1037, 1038, 1039, 210, 805, 806, 807, 808, 177, 695, 696, 697, 698, 183, 663, 664, 665, 666, 667, 668, 669, 896, 897, 898, 899, 1040, 1041, 1042, 1043, 1238, 1239, 1240, 1241, 1242, 1243, 1244, 1245, 1246, 1247, 1248, 1249, 1250, 1251, 1252, 1253, 1254, 1255, 1256, 1257, 1258, 1259, 1260, 1261, 1262, 1263, 1264, 1265, 1266, 1267, 1268, 1269, 1270, 1271, 1272, 1273, 1274] (by decide +kernel) (by decide +kernel)
set_option maxRecDepth 20000 in
theorem gL_law_X12_histories : GoodIn wsL_law (wsV RL 126 RX12 yX12_histories wsX12_histories) := goodIn_app (goodIn_of _ (by decide +kernel)) ggL_law_X12_histories
set_option maxRecDepth 20000 in
theorem ggL_law_X11_could : GoodIn wsL_law wsX11_could := goodIn_r _ [1047, 20, 979, 48, 1048, 1027, 1028, 47, 1029, 151, 1001, 1004, 150, 1030, 998, 999, 1000, 1002, 1003, 1005, 1006, 635, 636, 31, 637, 123, 638, 124, 120, 121, 639, 426, 427, 15, 428, 65, 640, 414, 415, 19, 416, 78, 1007, 656, 657, 658, 1008, 1009, 1010, 1011, 1012, 1013, 1014, 584, 585, 586, 72, 1015, 1016, 1017, 1018, 1019, 1020, 1021, 1223, 1224, 1225, 1226, 1227, 1228, 1229, 1230, 1231, 1232, 1233, 1234, 1235, 1236, 1237, 1282, 1283, 1284, 1285, 1286, 1287, 1288, 1289, 1290, 1319, 1320, 1306, 1307, 1308, 1309, 1310, 1275, 1276, 1277, 1278, 1279, 1280, 1281] (by decide +kernel) (by decide +kernel)
set_option maxRecDepth 20000 in
theorem gL_law_X11_could : GoodIn wsL_law (wsV RL 127 RX11 yX11_could wsX11_could) := goodIn_app (goodIn_of _ (by decide +kernel)) ggL_law_X11_could
set_option maxRecDepth 20000 in
theorem ggL_law_X12_could : GoodIn wsL_law wsX12_could := goodIn_r _ [1052, 175, 192, 193, 211, 239, 240, 5, 241, 1036, 1037, 1038, 1039, 191, 210, 805, 806, 807, 808, 177, 695, 696, 697, 698, 183, 663, 664, 665, 666, 667, 668, 669, 896, 897, 898, 899, 1040, 1041, 1042, 1043, 1238, 1239, 1240, 1241, 1242, 1243, 1244, 1245, 1246, 1247, 1248, 1249, 1250, 1251, 1252, 1253, 1254, 1255, 1256, 1257, 1258, 1259, 1260, 1261, 1262, 1263, 1264, 1265, 1266, 1267, 1268, 1269, 1270, 1271, 1272, 1273, 1274] (by decide +kernel) (by decide +kernel)
set_option maxRecDepth 20000 in
theorem gL_law_X12_could : GoodIn wsL_law (wsV RL 130 RX12 yX12_could wsX12_could) := goodIn_app (goodIn_of _ (by decide +kernel)) ggL_law_X12_could
set_option maxRecDepth 20000 in
theorem ggL_law_X11_blind : GoodIn wsL_law wsX11_blind := goodIn_r _ [1056, 737, 36, 16, 537, 739, 740, 2, 741, 1057, 1058, 1059, 35, 1060, 132, 133, 764, 765, 757, 758, 88, 759, 778, 779, 780, 781, 782, 783, 784, 785, 786, 1223, 1224, 1225, 1226, 1227, 1228, 1229, 1230, 1231, 1232, 1233, 1234, 1235, 1236, 1237, 1275, 1276, 1277, 1278, 1279, 1280, 1281, 1311, 1312, 1313, 1314, 1306, 1307, 1308, 1309, 1310] (by decide +kernel) (by decide +kernel)
set_option maxRecDepth 20000 in
theorem gL_law_X11_blind : GoodIn wsL_law (wsV RL 131 RX11 yX11_blind wsX11_blind) := goodIn_app (goodIn_of _ (by decide +kernel)) ggL_law_X11_blind
set_option maxRecDepth 20000 in
theorem ggL_law_X12_blind : GoodIn wsL_law wsX12_blind := goodIn_r _ [1064, 1065, 792, 210, 239, 240, 5, 241, 794, 795, 796, 809, 810, 811, 812, 813, 814, 815, 816, 817, 818, 1238, 1239, 1240, 1241, 1242, 1243, 1244, 1245, 1246, 1247, 1248, 1249, 1250, 1251, 1252, 1253, 1254, 1255, 1256, 1257, 1258, 1259, 1260, 1261, 1262, 1263, 1264, 1265, 1266, 1267, 1268, 1269, 1270, 1271, 1272, 1273, 1274] (by decide +kernel) (by decide +kernel)
set_option maxRecDepth 20000 in
theorem gL_law_X12_blind : GoodIn wsL_law (wsV RL 134 RX12 yX12_blind wsX12_blind) := goodIn_app (goodIn_of _ (by decide +kernel)) ggL_law_X12_blind
set_option maxRecDepth 20000 in
theorem ggL_law_X11_fair : GoodIn wsL_law wsX11_fair := goodIn_r _ [1069, 16, 538, 52, 1070, 836, 837, 2, 838, 1071, 1072, 1073, 51, 1074, 1075, 1076, 381, 1077, 162, 163, 1078, 1079, 1080, 1081, 164, 1082, 1083, 156, 1084, 1085, 1086, 374, 375, 376, 157, 160, 158, 1087, 159, 1088, 1089, 754, 755, 31, 756, 123, 638, 712, 635, 636, 637, 124, 120, 121, 639, 426, 427, 15, 428, 65, 640, 414, 415, 19, 416, 78, 1090, 87, 88, 89, 1091, 1092, 1093, 1094, 1095, 584, 585, 586, 72, 1096, 656, 657, 658, 1097, 688, 689, 690, 1098, 1099, 1100, 1101, 1102, 380, 382, 161, 1103, 1104, 1105, 1106, 1107, 880, 881, 882, 1223, 1224, 1225, 1226, 1227, 1228, 1229, 1230, 1231, 1232, 1233, 1234, 1235, 1236, 1237, 1275, 1276, 1277, 1278, 1279, 1280, 1281, 1321, 1322, 1323, 1324, 1325, 1326, 1327, 1328, 1329, 1306, 1307, 1308, 1309, 1310, 1282, 1283, 1284, 1285, 1286, 1287, 1288, 1289, 1290] (by decide +kernel) (by decide +kernel)
set_option maxRecDepth 20000 in
theorem gL_law_X11_fair : GoodIn wsL_law (wsV RL 135 RX11 yX11_fair wsX11_fair) := goodIn_app (goodIn_of _ (by decide +kernel)) ggL_law_X11_fair
set_option maxRecDepth 20000 in
theorem ggL_law_X12_fair : GoodIn wsL_law wsX12_fair := goodIn_r _ [1111, 475, 791, 1112, 211, 916, 194, 239, 240, 5, 241, 809, 810, 811, 812, 1113, 1114, 1115, 1116, 210, 175, 1117, 1118, 1119, 1120, 721, 722, 723, 724, 184, 177, 183, 695, 696, 697, 698, 663, 664, 665, 666, 667, 668, 669, 1238, 1239, 1240, 1241, 1242, 1243, 1244, 1245, 1246, 1247, 1248, 1249, 1250, 1251, 1252, 1253, 1254, 1255, 1256, 1257, 1258, 1259, 1260, 1261, 1262, 1263, 1264, 1265, 1266, 1267, 1268, 1269, 1270, 1271, 1272, 1273, 1274] (by decide +kernel) (by decide +kernel)
set_option maxRecDepth 20000 in
theorem gL_law_X12_fair : GoodIn wsL_law (wsV RL 138 RX12 yX12_fair wsX12_fair) := goodIn_app (goodIn_of _ (by decide +kernel)) ggL_law_X12_fair
set_option maxRecDepth 20000 in
theorem ggL_law_X11_keep : GoodIn wsL_law wsX11_keep := goodIn_r _ [1124, 55, 53, 20, 1125, 1126, 2, 1127, 440, 441, 442, 19, 443, 77, 444, 374, 375, 376, 78, 79, 80, 81, 82, 83, 84, 85, 1223, 1224, 1225, 1226, 1227, 1228, 1229, 1230, 1231, 1232, 1233, 1234, 1235, 1236, 1237, 1282, 1283, 1284, 1285, 1286, 1287, 1288, 1289, 1290] (by decide +kernel) (by decide +kernel)
set_option maxRecDepth 20000 in
theorem gL_law_X11_keep : GoodIn wsL_law (wsV RL 139 RX11 yX11_keep wsX11_keep) := goodIn_app (goodIn_of _ (by decide +kernel)) ggL_law_X11_keep
set_option maxRecDepth 20000 in
theorem ggL_law_X12_keep : GoodIn wsL_law wsX12_keep := goodIn_r _ [1131, 176, 239, 240, 5, 241, 667, 668, 669, 1117, 1118, 1119, 1120, 175, 1238, 1239, 1240, 1241, 1242, 1243, 1244, 1245, 1246, 1247, 1248, 1249, 1250, 1251, 1252, 1253, 1254, 1255, 1256, 1257, 1258, 1259, 1260, 1261, 1262, 1263, 1264, 1265, 1266, 1267, 1268, 1269, 1270, 1271, 1272, 1273, 1274] (by decide +kernel) (by decide +kernel)
set_option maxRecDepth 20000 in
theorem gL_law_X12_keep : GoodIn wsL_law (wsV RL 142 RX12 yX12_keep wsX12_keep) := goodIn_app (goodIn_of _ (by decide +kernel)) ggL_law_X12_keep
set_option maxRecDepth 20000 in
theorem ggL_law_X11_back : GoodIn wsL_law wsX11_back := goodIn_r _ [1135, 55, 20, 53, 539, 1125, 1126, 2, 1127, 440, 441, 442, 19, 443, 77, 444, 374, 375, 376, 78, 79, 80, 81, 82, 83, 84, 85, 1223, 1224, 1225, 1226, 1227, 1228, 1229, 1230, 1231, 1232, 1233, 1234, 1235, 1236, 1237, 1282, 1283, 1284, 1285, 1286, 1287, 1288, 1289, 1290] (by decide +kernel) (by decide +kernel)
set_option maxRecDepth 20000 in
theorem gL_law_X11_back : GoodIn wsL_law (wsV RL 143 RX11 yX11_back wsX11_back) := goodIn_app (goodIn_of _ (by decide +kernel)) ggL_law_X11_back
set_option maxRecDepth 20000 in
theorem ggL_law_X12_back : GoodIn wsL_law wsX12_back := goodIn_r _ [1139, 176, 175, 239, 240, 5, 241, 1117, 1118, 1119, 1120, 1238, 1239, 1240, 1241, 1242, 1243, 1244, 1245, 1246, 1247, 1248, 1249, 1250, 1251, 1252, 1253, 1254, 1255, 1256, 1257, 1258, 1259, 1260, 1261, 1262, 1263, 1264, 1265, 1266, 1267, 1268, 1269, 1270, 1271, 1272, 1273, 1274] (by decide +kernel) (by decide +kernel)
set_option maxRecDepth 20000 in
theorem gL_law_X12_back : GoodIn wsL_law (wsV RL 146 RX12 yX12_back wsX12_back) := goodIn_app (goodIn_of _ (by decide +kernel)) ggL_law_X12_back
set_option maxRecDepth 20000 in
theorem ggL_law_X11_sheet : GoodIn wsL_law wsX11_sheet := goodIn_r _ [1143, 57, 1144, 1145, 2, 1146, 1147, 1148, 1149, 1150, 1151, 1152, 61, 1153, 168, 169, 170, 1154, 87, 88, 89, 1223, 1224, 1225, 1226, 1227, 1228, 1229, 1230, 1231, 1232, 1233, 1234, 1235, 1236, 1237, 1330, 1331, 1332] (by decide +kernel) (by decide +kernel)
set_option maxRecDepth 20000 in
theorem gL_law_X11_sheet : GoodIn wsL_law (wsV RL 147 RX11 yX11_sheet wsX11_sheet) := goodIn_app (goodIn_of _ (by decide +kernel)) ggL_law_X11_sheet
set_option maxRecDepth 20000 in
theorem ggL_law_X12_sheet : GoodIn wsL_law wsX12_sheet := goodIn_r _ [1158, 195, 196, 197, 1159, 1160, 5, 1161, 1162, 1163, 239, 240, 241, 1238, 1239, 1240, 1241, 1242, 1243, 1244, 1245, 1246, 1247, 1248, 1249, 1250, 1251, 1252, 1253, 1254, 1255, 1256, 1257, 1258, 1259, 1260, 1261, 1262, 1263, 1264, 1265, 1266, 1267, 1268, 1269, 1270, 1271, 1272, 1273, 1274] (by decide +kernel) (by decide +kernel)
set_option maxRecDepth 20000 in
theorem gL_law_X12_sheet : GoodIn wsL_law (wsV RL 150 RX12 yX12_sheet wsX12_sheet) := goodIn_app (goodIn_of _ (by decide +kernel)) ggL_law_X12_sheet
set_option maxRecDepth 20000 in
theorem ggL_law_X11_lay : GoodIn wsL_law wsX11_lay := goodIn_r _ [1167, 57, 1168, 1144, 1145, 2, 1146, 1169, 1170, 1171, 61, 1172, 168, 169, 1173, 1174, 1175, 1176, 1177, 1178, 1179, 1180, 170, 1223, 1224, 1225, 1226, 1227, 1228, 1229, 1230, 1231, 1232, 1233, 1234, 1235, 1236, 1237, 1330, 1331, 1332] (by decide +kernel) (by decide +kernel)
set_option maxRecDepth 20000 in
theorem gL_law_X11_lay : GoodIn wsL_law (wsV RL 151 RX11 yX11_lay wsX11_lay) := goodIn_app (goodIn_of _ (by decide +kernel)) ggL_law_X11_lay
set_option maxRecDepth 20000 in
theorem ggL_law_X12_lay : GoodIn wsL_law wsX12_lay := goodIn_r _ [1184, 195, 196, 197, 1159, 1160, 5, 1161, 1162, 1163, 239, 240, 241, 1238, 1239, 1240, 1241, 1242, 1243, 1244, 1245, 1246, 1247, 1248, 1249, 1250, 1251, 1252, 1253, 1254, 1255, 1256, 1257, 1258, 1259, 1260, 1261, 1262, 1263, 1264, 1265, 1266, 1267, 1268, 1269, 1270, 1271, 1272, 1273, 1274] (by decide +kernel) (by decide +kernel)
set_option maxRecDepth 20000 in
theorem gL_law_X12_lay : GoodIn wsL_law (wsV RL 154 RX12 yX12_lay wsX12_lay) := goodIn_app (goodIn_of _ (by decide +kernel)) ggL_law_X12_lay
set_option maxRecDepth 20000 in
theorem ggL_law_X11_read : GoodIn wsL_law wsX11_read := goodIn_r _ [1188, 57, 1189, 32, 59, 1144, 1145, 2, 1146, 1147, 1148, 1149, 1169, 1170, 1171, 61, 1172, 168, 169, 1173, 1174, 1175, 1176, 1190, 1191, 1192, 1193, 16, 20, 540, 579, 580, 581, 15, 582, 66, 703, 704, 705, 31, 706, 124, 707, 122, 645, 123, 638, 708, 374, 375, 376, 709, 710, 711, 712, 635, 636, 637, 120, 121, 639, 426, 427, 428, 65, 640, 414, 415, 19, 416, 78, 713, 642, 643, 644, 646, 647, 648, 649, 650, 584, 585, 586, 72, 714, 715, 652, 653, 654, 655, 656, 657, 658, 716, 688, 689, 690, 1223, 1224, 1225, 1226, 1227, 1228, 1229, 1230, 1231, 1232, 1233, 1234, 1235, 1236, 1237, 1330, 1331, 1332, 1282, 1283, 1284, 1285, 1286, 1287, 1288, 1289, 1290, 1275, 1276, 1277, 1278, 1279, 1280, 1281, 1306, 1307, 1308, 1309, 1310] (by decide +kernel) (by decide +kernel)
set_option maxRecDepth 20000 in
theorem gL_law_X11_read : GoodIn wsL_law (wsV RL 155 RX11 yX11_read wsX11_read) := goodIn_app (goodIn_of _ (by decide +kernel)) ggL_law_X11_read
set_option maxRecDepth 20000 in
theorem ggL_law_X12_read : GoodIn wsL_law wsX12_read := goodIn_r _ [1197, 1198, 195, 196, 197, 1199, 1159, 1160, 5, 1161, 1162, 1163, 239, 240, 241, 1117, 1118, 1119, 1120, 175, 1200, 718, 719, 720, 591, 592, 593, 594, 211, 721, 722, 723, 724, 210, 184, 177, 183, 695, 696, 697, 698, 663, 664, 665, 666, 667, 668, 669, 1238, 1239, 1240, 1241, 1242, 1243, 1244, 1245, 1246, 1247, 1248, 1249, 1250, 1251, 1252, 1253, 1254, 1255, 1256, 1257, 1258, 1259, 1260, 1261, 1262, 1263, 1264, 1265, 1266, 1267, 1268, 1269, 1270, 1271, 1272, 1273, 1274] (by decide +kernel) (by decide +kernel)
set_option maxRecDepth 20000 in
theorem gL_law_X12_read : GoodIn wsL_law (wsV RL 159 RX12 yX12_read wsX12_read) := goodIn_app (goodIn_of _ (by decide +kernel)) ggL_law_X12_read
set_option maxRecDepth 20000 in
theorem ggL_law_X11_torn : GoodIn wsL_law wsX11_torn := goodIn_r _ [1204, 59, 1223, 1224, 1225, 1226, 1227, 1228, 1229, 1230, 1231, 1232, 1233, 1234, 1235, 1236, 1237] (by decide +kernel) (by decide +kernel)
set_option maxRecDepth 20000 in
theorem gL_law_X11_torn : GoodIn wsL_law (wsV RL 160 RX11 yX11_torn wsX11_torn) := goodIn_app (goodIn_of _ (by decide +kernel)) ggL_law_X11_torn
set_option maxRecDepth 20000 in
theorem ggL_law_X12_torn : GoodIn wsL_law wsX12_torn := goodIn_r _ [1208, 1199, 1238, 1239, 1240, 1241, 1242, 1243, 1244, 1245, 1246, 1247, 1248, 1249, 1250, 1251, 1252, 1253, 1254, 1255, 1256, 1257, 1258, 1259, 1260, 1261, 1262, 1263, 1264, 1265, 1266, 1267, 1268, 1269, 1270, 1271, 1272, 1273, 1274] (by decide +kernel) (by decide +kernel)
set_option maxRecDepth 20000 in
theorem gL_law_X12_torn : GoodIn wsL_law (wsV RL 163 RX12 yX12_torn wsX12_torn) := goodIn_app (goodIn_of _ (by decide +kernel)) ggL_law_X12_torn
set_option maxRecDepth 20000 in
theorem ggL_law_X11_count : GoodIn wsL_law wsX11_count := goodIn_r _ [1212, 20, 979, 55, 24, 220, 57, 1213, 1214, 1174, 1175, 61, 1176, 168, 1215, 1216, 1217, 2, 1218, 16, 537, 550, 1223, 1224, 1225, 1226, 1227, 1228, 1229, 1230, 1231, 1232, 1233, 1234, 1235, 1236, 1237, 1282, 1283, 1284, 1285, 1286, 1287, 1288, 1289, 1290, 1291, 1292, 1293, 1294, 1295, 1296, 1330, 1331, 1332, 1275, 1276, 1277, 1278, 1279, 1280, 1281] (by decide +kernel) (by decide +kernel)
set_option maxRecDepth 20000 in
theorem gL_law_X11_count : GoodIn wsL_law (wsV RL 164 RX11 yX11_count wsX11_count) := goodIn_app (goodIn_of _ (by decide +kernel)) ggL_law_X11_count
set_option maxRecDepth 20000 in
theorem ggL_law_X12_count : GoodIn wsL_law wsX12_count := goodIn_r _ [1222, 210, 175, 176, 229, 195, 196, 667, 668, 5, 669, 1238, 1239, 1240, 1241, 1242, 1243, 1244, 1245, 1246, 1247, 1248, 1249, 1250, 1251, 1252, 1253, 1254, 1255, 1256, 1257, 1258, 1259, 1260, 1261, 1262, 1263, 1264, 1265, 1266, 1267, 1268, 1269, 1270, 1271, 1272, 1273, 1274] (by decide +kernel) (by decide +kernel)
set_option maxRecDepth 20000 in
theorem gL_law_X12_count : GoodIn wsL_law (wsV RL 167 RX12 yX12_count wsX12_count) := goodIn_app (goodIn_of _ (by decide +kernel)) ggL_law_X12_count
theorem dL_law_0 : decode cL_law 0 = .ok (.new 7, 3) := by decide +kernel
theorem dL_law_3 : decode cL_law 3 = .ok (.dup, 1) := by decide +kernel
theorem dL_law_4 : decode cL_law 4 = .ok (.invokespecial 9, 3) := by decide +kernel
theorem dL_law_7 : decode cL_law 7 = .ok (.astore_n 1, 1) := by decide +kernel
theorem dL_law_8 : decode cL_law 8 = .ok (.new 10, 3) := by decide +kernel
theorem dL_law_11 : decode cL_law 11 = .ok (.dup, 1) := by decide +kernel
theorem dL_law_12 : decode cL_law 12 = .ok (.invokespecial 12, 3) := by decide +kernel
theorem dL_law_15 : decode cL_law 15 = .ok (.astore_n 2, 1) := by decide +kernel
theorem dL_law_16 : decode cL_law 16 = .ok (.iconst 0, 1) := by decide +kernel
theorem dL_law_17 : decode cL_law 17 = .ok (.istore_n 3, 1) := by decide +kernel
theorem dL_law_18 : decode cL_law 18 = .ok (.iload_n 3, 1) := by decide +kernel
theorem dL_law_19 : decode cL_law 19 = .ok (.aload_n 0, 1) := by decide +kernel
theorem dL_law_20 : decode cL_law 20 = .ok (.arraylength, 1) := by decide +kernel
theorem dL_law_21 : decode cL_law 21 = .ok (.iconst 5, 1) := by decide +kernel
theorem dL_law_22 : decode cL_law 22 = .ok (.isub, 1) := by decide +kernel
theorem dL_law_23 : decode cL_law 23 = .ok (.if_icmp .gt 1292, 3) := by decide +kernel
theorem dL_law_26 : decode cL_law 26 = .ok (.aload_n 0, 1) := by decide +kernel
theorem dL_law_27 : decode cL_law 27 = .ok (.iload_n 3, 1) := by decide +kernel
theorem dL_law_28 : decode cL_law 28 = .ok (.iaload, 1) := by decide +kernel
theorem dL_law_29 : decode cL_law 29 = .ok (.bipush 63, 2) := by decide +kernel
theorem dL_law_31 : decode cL_law 31 = .ok (.iand, 1) := by decide +kernel
theorem dL_law_32 : decode cL_law 32 = .ok (.tableswitch 1277 0 35 #[160, 213, 236, 249, 262, 285, 308, 341, 374, 433, 466, 489, 522, 565, 608, 641, 664, 677, 721, 755, 788, 821, 864, 887, 910, 933, 956, 979, 1023, 1056, 1079, 1102, 1145, 1188, 1241, 1254], 160) := by decide +kernel
theorem dL_law_192 : decode cL_law 192 = .ok (.aload_n 1, 1) := by decide +kernel
theorem dL_law_193 : decode cL_law 193 = .ok (.aload_n 0, 1) := by decide +kernel
theorem dL_law_194 : decode cL_law 194 = .ok (.iload_n 3, 1) := by decide +kernel
theorem dL_law_195 : decode cL_law 195 = .ok (.iconst 1, 1) := by decide +kernel
theorem dL_law_196 : decode cL_law 196 = .ok (.iadd, 1) := by decide +kernel
theorem dL_law_197 : decode cL_law 197 = .ok (.iaload, 1) := by decide +kernel
theorem dL_law_198 : decode cL_law 198 = .ok (.i2l, 1) := by decide +kernel
theorem dL_law_199 : decode cL_law 199 = .ok (.bipush 32, 2) := by decide +kernel
theorem dL_law_201 : decode cL_law 201 = .ok (.lshl, 1) := by decide +kernel
theorem dL_law_202 : decode cL_law 202 = .ok (.aload_n 0, 1) := by decide +kernel
theorem dL_law_203 : decode cL_law 203 = .ok (.iload_n 3, 1) := by decide +kernel
theorem dL_law_204 : decode cL_law 204 = .ok (.iconst 2, 1) := by decide +kernel
theorem dL_law_205 : decode cL_law 205 = .ok (.iadd, 1) := by decide +kernel
theorem dL_law_206 : decode cL_law 206 = .ok (.iaload, 1) := by decide +kernel
theorem dL_law_207 : decode cL_law 207 = .ok (.i2l, 1) := by decide +kernel
theorem dL_law_208 : decode cL_law 208 = .ok (.ldc2_w 13, 3) := by decide +kernel
theorem dL_law_211 : decode cL_law 211 = .ok (.land, 1) := by decide +kernel
theorem dL_law_212 : decode cL_law 212 = .ok (.lor, 1) := by decide +kernel
theorem dL_law_213 : decode cL_law 213 = .ok (.invokevirtual 15, 3) := by decide +kernel
theorem dL_law_216 : decode cL_law 216 = .ok (.aload_n 2, 1) := by decide +kernel
theorem dL_law_217 : decode cL_law 217 = .ok (.aload_n 0, 1) := by decide +kernel
theorem dL_law_218 : decode cL_law 218 = .ok (.iload_n 3, 1) := by decide +kernel
theorem dL_law_219 : decode cL_law 219 = .ok (.iconst 1, 1) := by decide +kernel
theorem dL_law_220 : decode cL_law 220 = .ok (.iadd, 1) := by decide +kernel
theorem dL_law_221 : decode cL_law 221 = .ok (.iaload, 1) := by decide +kernel
theorem dL_law_222 : decode cL_law 222 = .ok (.i2l, 1) := by decide +kernel
theorem dL_law_223 : decode cL_law 223 = .ok (.bipush 32, 2) := by decide +kernel
theorem dL_law_225 : decode cL_law 225 = .ok (.lshl, 1) := by decide +kernel
theorem dL_law_226 : decode cL_law 226 = .ok (.aload_n 0, 1) := by decide +kernel
theorem dL_law_227 : decode cL_law 227 = .ok (.iload_n 3, 1) := by decide +kernel
theorem dL_law_228 : decode cL_law 228 = .ok (.iconst 2, 1) := by decide +kernel
theorem dL_law_229 : decode cL_law 229 = .ok (.iadd, 1) := by decide +kernel
theorem dL_law_230 : decode cL_law 230 = .ok (.iaload, 1) := by decide +kernel
theorem dL_law_231 : decode cL_law 231 = .ok (.i2l, 1) := by decide +kernel
theorem dL_law_232 : decode cL_law 232 = .ok (.ldc2_w 13, 3) := by decide +kernel
theorem dL_law_235 : decode cL_law 235 = .ok (.land, 1) := by decide +kernel
theorem dL_law_236 : decode cL_law 236 = .ok (.lor, 1) := by decide +kernel
theorem dL_law_237 : decode cL_law 237 = .ok (.invokevirtual 19, 3) := by decide +kernel
theorem dL_law_240 : decode cL_law 240 = .ok (.if_icmp .eq 1069, 3) := by decide +kernel
theorem dL_law_243 : decode cL_law 243 = .ok (.iconst 0, 1) := by decide +kernel
theorem dL_law_244 : decode cL_law 244 = .ok (.ireturn, 1) := by decide +kernel
theorem dL_law_245 : decode cL_law 245 = .ok (.aload_n 1, 1) := by decide +kernel
theorem dL_law_246 : decode cL_law 246 = .ok (.aload_n 0, 1) := by decide +kernel
theorem dL_law_247 : decode cL_law 247 = .ok (.iload_n 3, 1) := by decide +kernel
theorem dL_law_248 : decode cL_law 248 = .ok (.iconst 1, 1) := by decide +kernel
theorem dL_law_249 : decode cL_law 249 = .ok (.iadd, 1) := by decide +kernel
theorem dL_law_250 : decode cL_law 250 = .ok (.iaload, 1) := by decide +kernel
theorem dL_law_251 : decode cL_law 251 = .ok (.invokevirtual 20, 3) := by decide +kernel
theorem dL_law_254 : decode cL_law 254 = .ok (.aload_n 2, 1) := by decide +kernel
theorem dL_law_255 : decode cL_law 255 = .ok (.aload_n 0, 1) := by decide +kernel
theorem dL_law_256 : decode cL_law 256 = .ok (.iload_n 3, 1) := by decide +kernel
theorem dL_law_257 : decode cL_law 257 = .ok (.iconst 1, 1) := by decide +kernel
theorem dL_law_258 : decode cL_law 258 = .ok (.iadd, 1) := by decide +kernel
theorem dL_law_259 : decode cL_law 259 = .ok (.iaload, 1) := by decide +kernel
theorem dL_law_260 : decode cL_law 260 = .ok (.invokevirtual 24, 3) := by decide +kernel
theorem dL_law_263 : decode cL_law 263 = .ok (.if_icmp .eq 1046, 3) := by decide +kernel
theorem dL_law_266 : decode cL_law 266 = .ok (.iconst 0, 1) := by decide +kernel
theorem dL_law_267 : decode cL_law 267 = .ok (.ireturn, 1) := by decide +kernel
theorem dL_law_268 : decode cL_law 268 = .ok (.aload_n 1, 1) := by decide +kernel
theorem dL_law_269 : decode cL_law 269 = .ok (.invokevirtual 25, 3) := by decide +kernel
theorem dL_law_272 : decode cL_law 272 = .ok (.aload_n 2, 1) := by decide +kernel
theorem dL_law_273 : decode cL_law 273 = .ok (.invokevirtual 29, 3) := by decide +kernel
theorem dL_law_276 : decode cL_law 276 = .ok (.if_icmp .eq 1033, 3) := by decide +kernel
theorem dL_law_279 : decode cL_law 279 = .ok (.iconst 0, 1) := by decide +kernel
theorem dL_law_280 : decode cL_law 280 = .ok (.ireturn, 1) := by decide +kernel
theorem dL_law_281 : decode cL_law 281 = .ok (.aload_n 1, 1) := by decide +kernel
theorem dL_law_282 : decode cL_law 282 = .ok (.invokevirtual 30, 3) := by decide +kernel
theorem dL_law_285 : decode cL_law 285 = .ok (.aload_n 2, 1) := by decide +kernel
theorem dL_law_286 : decode cL_law 286 = .ok (.invokevirtual 33, 3) := by decide +kernel
theorem dL_law_289 : decode cL_law 289 = .ok (.if_icmp .eq 1020, 3) := by decide +kernel
theorem dL_law_292 : decode cL_law 292 = .ok (.iconst 0, 1) := by decide +kernel
theorem dL_law_293 : decode cL_law 293 = .ok (.ireturn, 1) := by decide +kernel
theorem dL_law_294 : decode cL_law 294 = .ok (.aload_n 1, 1) := by decide +kernel
theorem dL_law_295 : decode cL_law 295 = .ok (.aload_n 0, 1) := by decide +kernel
theorem dL_law_296 : decode cL_law 296 = .ok (.iload_n 3, 1) := by decide +kernel
theorem dL_law_297 : decode cL_law 297 = .ok (.iconst 1, 1) := by decide +kernel
theorem dL_law_298 : decode cL_law 298 = .ok (.iadd, 1) := by decide +kernel
theorem dL_law_299 : decode cL_law 299 = .ok (.iaload, 1) := by decide +kernel
theorem dL_law_300 : decode cL_law 300 = .ok (.invokevirtual 34, 3) := by decide +kernel
theorem dL_law_303 : decode cL_law 303 = .ok (.aload_n 2, 1) := by decide +kernel
theorem dL_law_304 : decode cL_law 304 = .ok (.aload_n 0, 1) := by decide +kernel
theorem dL_law_305 : decode cL_law 305 = .ok (.iload_n 3, 1) := by decide +kernel
theorem dL_law_306 : decode cL_law 306 = .ok (.iconst 1, 1) := by decide +kernel
theorem dL_law_307 : decode cL_law 307 = .ok (.iadd, 1) := by decide +kernel
theorem dL_law_308 : decode cL_law 308 = .ok (.iaload, 1) := by decide +kernel
theorem dL_law_309 : decode cL_law 309 = .ok (.invokevirtual 37, 3) := by decide +kernel
theorem dL_law_312 : decode cL_law 312 = .ok (.if_icmp .eq 997, 3) := by decide +kernel
theorem dL_law_315 : decode cL_law 315 = .ok (.iconst 0, 1) := by decide +kernel
theorem dL_law_316 : decode cL_law 316 = .ok (.ireturn, 1) := by decide +kernel
theorem dL_law_317 : decode cL_law 317 = .ok (.aload_n 1, 1) := by decide +kernel
theorem dL_law_318 : decode cL_law 318 = .ok (.aload_n 0, 1) := by decide +kernel
theorem dL_law_319 : decode cL_law 319 = .ok (.iload_n 3, 1) := by decide +kernel
theorem dL_law_320 : decode cL_law 320 = .ok (.iconst 1, 1) := by decide +kernel
theorem dL_law_321 : decode cL_law 321 = .ok (.iadd, 1) := by decide +kernel
theorem dL_law_322 : decode cL_law 322 = .ok (.iaload, 1) := by decide +kernel
theorem dL_law_323 : decode cL_law 323 = .ok (.invokevirtual 38, 3) := by decide +kernel
theorem dL_law_326 : decode cL_law 326 = .ok (.aload_n 2, 1) := by decide +kernel
theorem dL_law_327 : decode cL_law 327 = .ok (.aload_n 0, 1) := by decide +kernel
theorem dL_law_328 : decode cL_law 328 = .ok (.iload_n 3, 1) := by decide +kernel
theorem dL_law_329 : decode cL_law 329 = .ok (.iconst 1, 1) := by decide +kernel
theorem dL_law_330 : decode cL_law 330 = .ok (.iadd, 1) := by decide +kernel
theorem dL_law_331 : decode cL_law 331 = .ok (.iaload, 1) := by decide +kernel
theorem dL_law_332 : decode cL_law 332 = .ok (.invokevirtual 41, 3) := by decide +kernel
theorem dL_law_335 : decode cL_law 335 = .ok (.if_icmp .eq 974, 3) := by decide +kernel
theorem dL_law_338 : decode cL_law 338 = .ok (.iconst 0, 1) := by decide +kernel
theorem dL_law_339 : decode cL_law 339 = .ok (.ireturn, 1) := by decide +kernel
theorem dL_law_340 : decode cL_law 340 = .ok (.aload_n 1, 1) := by decide +kernel
theorem dL_law_341 : decode cL_law 341 = .ok (.aload_n 0, 1) := by decide +kernel
theorem dL_law_342 : decode cL_law 342 = .ok (.iload_n 3, 1) := by decide +kernel
theorem dL_law_343 : decode cL_law 343 = .ok (.iconst 1, 1) := by decide +kernel
theorem dL_law_344 : decode cL_law 344 = .ok (.iadd, 1) := by decide +kernel
theorem dL_law_345 : decode cL_law 345 = .ok (.iaload, 1) := by decide +kernel
theorem dL_law_346 : decode cL_law 346 = .ok (.aload_n 0, 1) := by decide +kernel
theorem dL_law_347 : decode cL_law 347 = .ok (.iload_n 3, 1) := by decide +kernel
theorem dL_law_348 : decode cL_law 348 = .ok (.iconst 2, 1) := by decide +kernel
theorem dL_law_349 : decode cL_law 349 = .ok (.iadd, 1) := by decide +kernel
theorem dL_law_350 : decode cL_law 350 = .ok (.iaload, 1) := by decide +kernel
theorem dL_law_351 : decode cL_law 351 = .ok (.invokevirtual 42, 3) := by decide +kernel
theorem dL_law_354 : decode cL_law 354 = .ok (.aload_n 2, 1) := by decide +kernel
theorem dL_law_355 : decode cL_law 355 = .ok (.aload_n 0, 1) := by decide +kernel
theorem dL_law_356 : decode cL_law 356 = .ok (.iload_n 3, 1) := by decide +kernel
theorem dL_law_357 : decode cL_law 357 = .ok (.iconst 1, 1) := by decide +kernel
theorem dL_law_358 : decode cL_law 358 = .ok (.iadd, 1) := by decide +kernel
theorem dL_law_359 : decode cL_law 359 = .ok (.iaload, 1) := by decide +kernel
theorem dL_law_360 : decode cL_law 360 = .ok (.aload_n 0, 1) := by decide +kernel
theorem dL_law_361 : decode cL_law 361 = .ok (.iload_n 3, 1) := by decide +kernel
theorem dL_law_362 : decode cL_law 362 = .ok (.iconst 2, 1) := by decide +kernel
theorem dL_law_363 : decode cL_law 363 = .ok (.iadd, 1) := by decide +kernel
theorem dL_law_364 : decode cL_law 364 = .ok (.iaload, 1) := by decide +kernel
theorem dL_law_365 : decode cL_law 365 = .ok (.invokevirtual 46, 3) := by decide +kernel
theorem dL_law_368 : decode cL_law 368 = .ok (.if_icmp .eq 941, 3) := by decide +kernel
theorem dL_law_371 : decode cL_law 371 = .ok (.iconst 0, 1) := by decide +kernel
theorem dL_law_372 : decode cL_law 372 = .ok (.ireturn, 1) := by decide +kernel
theorem dL_law_373 : decode cL_law 373 = .ok (.aload_n 1, 1) := by decide +kernel
theorem dL_law_374 : decode cL_law 374 = .ok (.aload_n 0, 1) := by decide +kernel
theorem dL_law_375 : decode cL_law 375 = .ok (.iload_n 3, 1) := by decide +kernel
theorem dL_law_376 : decode cL_law 376 = .ok (.iconst 1, 1) := by decide +kernel
theorem dL_law_377 : decode cL_law 377 = .ok (.iadd, 1) := by decide +kernel
theorem dL_law_378 : decode cL_law 378 = .ok (.iaload, 1) := by decide +kernel
theorem dL_law_379 : decode cL_law 379 = .ok (.aload_n 0, 1) := by decide +kernel
theorem dL_law_380 : decode cL_law 380 = .ok (.iload_n 3, 1) := by decide +kernel
theorem dL_law_381 : decode cL_law 381 = .ok (.iconst 2, 1) := by decide +kernel
theorem dL_law_382 : decode cL_law 382 = .ok (.iadd, 1) := by decide +kernel
theorem dL_law_383 : decode cL_law 383 = .ok (.iaload, 1) := by decide +kernel
theorem dL_law_384 : decode cL_law 384 = .ok (.invokevirtual 47, 3) := by decide +kernel
theorem dL_law_387 : decode cL_law 387 = .ok (.aload_n 2, 1) := by decide +kernel
theorem dL_law_388 : decode cL_law 388 = .ok (.aload_n 0, 1) := by decide +kernel
theorem dL_law_389 : decode cL_law 389 = .ok (.iload_n 3, 1) := by decide +kernel
theorem dL_law_390 : decode cL_law 390 = .ok (.iconst 1, 1) := by decide +kernel
theorem dL_law_391 : decode cL_law 391 = .ok (.iadd, 1) := by decide +kernel
theorem dL_law_392 : decode cL_law 392 = .ok (.iaload, 1) := by decide +kernel
theorem dL_law_393 : decode cL_law 393 = .ok (.aload_n 0, 1) := by decide +kernel
theorem dL_law_394 : decode cL_law 394 = .ok (.iload_n 3, 1) := by decide +kernel
theorem dL_law_395 : decode cL_law 395 = .ok (.iconst 2, 1) := by decide +kernel
theorem dL_law_396 : decode cL_law 396 = .ok (.iadd, 1) := by decide +kernel
theorem dL_law_397 : decode cL_law 397 = .ok (.iaload, 1) := by decide +kernel
theorem dL_law_398 : decode cL_law 398 = .ok (.invokevirtual 50, 3) := by decide +kernel
theorem dL_law_401 : decode cL_law 401 = .ok (.if_icmp .eq 908, 3) := by decide +kernel
theorem dL_law_404 : decode cL_law 404 = .ok (.iconst 0, 1) := by decide +kernel
theorem dL_law_405 : decode cL_law 405 = .ok (.ireturn, 1) := by decide +kernel
theorem dL_law_406 : decode cL_law 406 = .ok (.aload_n 1, 1) := by decide +kernel
theorem dL_law_407 : decode cL_law 407 = .ok (.aload_n 0, 1) := by decide +kernel
theorem dL_law_408 : decode cL_law 408 = .ok (.iload_n 3, 1) := by decide +kernel
theorem dL_law_409 : decode cL_law 409 = .ok (.iconst 1, 1) := by decide +kernel
theorem dL_law_410 : decode cL_law 410 = .ok (.iadd, 1) := by decide +kernel
theorem dL_law_411 : decode cL_law 411 = .ok (.iaload, 1) := by decide +kernel
theorem dL_law_412 : decode cL_law 412 = .ok (.aload_n 0, 1) := by decide +kernel
theorem dL_law_413 : decode cL_law 413 = .ok (.iload_n 3, 1) := by decide +kernel
theorem dL_law_414 : decode cL_law 414 = .ok (.iconst 2, 1) := by decide +kernel
theorem dL_law_415 : decode cL_law 415 = .ok (.iadd, 1) := by decide +kernel
theorem dL_law_416 : decode cL_law 416 = .ok (.iaload, 1) := by decide +kernel
theorem dL_law_417 : decode cL_law 417 = .ok (.aload_n 0, 1) := by decide +kernel
theorem dL_law_418 : decode cL_law 418 = .ok (.iload_n 3, 1) := by decide +kernel
theorem dL_law_419 : decode cL_law 419 = .ok (.iconst 3, 1) := by decide +kernel
theorem dL_law_420 : decode cL_law 420 = .ok (.iadd, 1) := by decide +kernel
theorem dL_law_421 : decode cL_law 421 = .ok (.iaload, 1) := by decide +kernel
theorem dL_law_422 : decode cL_law 422 = .ok (.ifCond .eq 7, 3) := by decide +kernel
theorem dL_law_425 : decode cL_law 425 = .ok (.iconst 1, 1) := by decide +kernel
theorem dL_law_426 : decode cL_law 426 = .ok (.goto 4, 3) := by decide +kernel
theorem dL_law_429 : decode cL_law 429 = .ok (.iconst 0, 1) := by decide +kernel
theorem dL_law_430 : decode cL_law 430 = .ok (.invokevirtual 51, 3) := by decide +kernel
theorem dL_law_433 : decode cL_law 433 = .ok (.aload_n 2, 1) := by decide +kernel
theorem dL_law_434 : decode cL_law 434 = .ok (.aload_n 0, 1) := by decide +kernel
theorem dL_law_435 : decode cL_law 435 = .ok (.iload_n 3, 1) := by decide +kernel
theorem dL_law_436 : decode cL_law 436 = .ok (.iconst 1, 1) := by decide +kernel
theorem dL_law_437 : decode cL_law 437 = .ok (.iadd, 1) := by decide +kernel
theorem dL_law_438 : decode cL_law 438 = .ok (.iaload, 1) := by decide +kernel
theorem dL_law_439 : decode cL_law 439 = .ok (.aload_n 0, 1) := by decide +kernel
theorem dL_law_440 : decode cL_law 440 = .ok (.iload_n 3, 1) := by decide +kernel
theorem dL_law_441 : decode cL_law 441 = .ok (.iconst 2, 1) := by decide +kernel
theorem dL_law_442 : decode cL_law 442 = .ok (.iadd, 1) := by decide +kernel
theorem dL_law_443 : decode cL_law 443 = .ok (.iaload, 1) := by decide +kernel
theorem dL_law_444 : decode cL_law 444 = .ok (.aload_n 0, 1) := by decide +kernel
theorem dL_law_445 : decode cL_law 445 = .ok (.iload_n 3, 1) := by decide +kernel
theorem dL_law_446 : decode cL_law 446 = .ok (.iconst 3, 1) := by decide +kernel
theorem dL_law_447 : decode cL_law 447 = .ok (.iadd, 1) := by decide +kernel
theorem dL_law_448 : decode cL_law 448 = .ok (.iaload, 1) := by decide +kernel
theorem dL_law_449 : decode cL_law 449 = .ok (.ifCond .eq 7, 3) := by decide +kernel
theorem dL_law_452 : decode cL_law 452 = .ok (.iconst 1, 1) := by decide +kernel
theorem dL_law_453 : decode cL_law 453 = .ok (.goto 4, 3) := by decide +kernel
theorem dL_law_456 : decode cL_law 456 = .ok (.iconst 0, 1) := by decide +kernel
theorem dL_law_457 : decode cL_law 457 = .ok (.invokevirtual 55, 3) := by decide +kernel
theorem dL_law_460 : decode cL_law 460 = .ok (.if_icmp .eq 849, 3) := by decide +kernel
theorem dL_law_463 : decode cL_law 463 = .ok (.iconst 0, 1) := by decide +kernel
theorem dL_law_464 : decode cL_law 464 = .ok (.ireturn, 1) := by decide +kernel
theorem dL_law_465 : decode cL_law 465 = .ok (.aload_n 1, 1) := by decide +kernel
theorem dL_law_466 : decode cL_law 466 = .ok (.aload_n 0, 1) := by decide +kernel
theorem dL_law_467 : decode cL_law 467 = .ok (.iload_n 3, 1) := by decide +kernel
theorem dL_law_468 : decode cL_law 468 = .ok (.iconst 1, 1) := by decide +kernel
theorem dL_law_469 : decode cL_law 469 = .ok (.iadd, 1) := by decide +kernel
theorem dL_law_470 : decode cL_law 470 = .ok (.iaload, 1) := by decide +kernel
theorem dL_law_471 : decode cL_law 471 = .ok (.aload_n 0, 1) := by decide +kernel
theorem dL_law_472 : decode cL_law 472 = .ok (.iload_n 3, 1) := by decide +kernel
theorem dL_law_473 : decode cL_law 473 = .ok (.iconst 2, 1) := by decide +kernel
theorem dL_law_474 : decode cL_law 474 = .ok (.iadd, 1) := by decide +kernel
theorem dL_law_475 : decode cL_law 475 = .ok (.iaload, 1) := by decide +kernel
theorem dL_law_476 : decode cL_law 476 = .ok (.invokevirtual 56, 3) := by decide +kernel
theorem dL_law_479 : decode cL_law 479 = .ok (.aload_n 2, 1) := by decide +kernel
theorem dL_law_480 : decode cL_law 480 = .ok (.aload_n 0, 1) := by decide +kernel
theorem dL_law_481 : decode cL_law 481 = .ok (.iload_n 3, 1) := by decide +kernel
theorem dL_law_482 : decode cL_law 482 = .ok (.iconst 1, 1) := by decide +kernel
theorem dL_law_483 : decode cL_law 483 = .ok (.iadd, 1) := by decide +kernel
theorem dL_law_484 : decode cL_law 484 = .ok (.iaload, 1) := by decide +kernel
theorem dL_law_485 : decode cL_law 485 = .ok (.aload_n 0, 1) := by decide +kernel
theorem dL_law_486 : decode cL_law 486 = .ok (.iload_n 3, 1) := by decide +kernel
theorem dL_law_487 : decode cL_law 487 = .ok (.iconst 2, 1) := by decide +kernel
theorem dL_law_488 : decode cL_law 488 = .ok (.iadd, 1) := by decide +kernel
theorem dL_law_489 : decode cL_law 489 = .ok (.iaload, 1) := by decide +kernel
theorem dL_law_490 : decode cL_law 490 = .ok (.invokevirtual 59, 3) := by decide +kernel
theorem dL_law_493 : decode cL_law 493 = .ok (.if_icmp .eq 816, 3) := by decide +kernel
theorem dL_law_496 : decode cL_law 496 = .ok (.iconst 0, 1) := by decide +kernel
theorem dL_law_497 : decode cL_law 497 = .ok (.ireturn, 1) := by decide +kernel
theorem dL_law_498 : decode cL_law 498 = .ok (.aload_n 1, 1) := by decide +kernel
theorem dL_law_499 : decode cL_law 499 = .ok (.aload_n 0, 1) := by decide +kernel
theorem dL_law_500 : decode cL_law 500 = .ok (.iload_n 3, 1) := by decide +kernel
theorem dL_law_501 : decode cL_law 501 = .ok (.iconst 1, 1) := by decide +kernel
theorem dL_law_502 : decode cL_law 502 = .ok (.iadd, 1) := by decide +kernel
theorem dL_law_503 : decode cL_law 503 = .ok (.iaload, 1) := by decide +kernel
theorem dL_law_504 : decode cL_law 504 = .ok (.invokevirtual 60, 3) := by decide +kernel
theorem dL_law_507 : decode cL_law 507 = .ok (.aload_n 2, 1) := by decide +kernel
theorem dL_law_508 : decode cL_law 508 = .ok (.aload_n 0, 1) := by decide +kernel
theorem dL_law_509 : decode cL_law 509 = .ok (.iload_n 3, 1) := by decide +kernel
theorem dL_law_510 : decode cL_law 510 = .ok (.iconst 1, 1) := by decide +kernel
theorem dL_law_511 : decode cL_law 511 = .ok (.iadd, 1) := by decide +kernel
theorem dL_law_512 : decode cL_law 512 = .ok (.iaload, 1) := by decide +kernel
theorem dL_law_513 : decode cL_law 513 = .ok (.invokevirtual 63, 3) := by decide +kernel
theorem dL_law_516 : decode cL_law 516 = .ok (.if_icmp .eq 793, 3) := by decide +kernel
theorem dL_law_519 : decode cL_law 519 = .ok (.iconst 0, 1) := by decide +kernel
theorem dL_law_520 : decode cL_law 520 = .ok (.ireturn, 1) := by decide +kernel
theorem dL_law_521 : decode cL_law 521 = .ok (.aload_n 1, 1) := by decide +kernel
theorem dL_law_522 : decode cL_law 522 = .ok (.aload_n 0, 1) := by decide +kernel
theorem dL_law_523 : decode cL_law 523 = .ok (.iload_n 3, 1) := by decide +kernel
theorem dL_law_524 : decode cL_law 524 = .ok (.iconst 1, 1) := by decide +kernel
theorem dL_law_525 : decode cL_law 525 = .ok (.iadd, 1) := by decide +kernel
theorem dL_law_526 : decode cL_law 526 = .ok (.iaload, 1) := by decide +kernel
theorem dL_law_527 : decode cL_law 527 = .ok (.aload_n 0, 1) := by decide +kernel
theorem dL_law_528 : decode cL_law 528 = .ok (.iload_n 3, 1) := by decide +kernel
theorem dL_law_529 : decode cL_law 529 = .ok (.iconst 2, 1) := by decide +kernel
theorem dL_law_530 : decode cL_law 530 = .ok (.iadd, 1) := by decide +kernel
theorem dL_law_531 : decode cL_law 531 = .ok (.iaload, 1) := by decide +kernel
theorem dL_law_532 : decode cL_law 532 = .ok (.invokevirtual 64, 3) := by decide +kernel
theorem dL_law_535 : decode cL_law 535 = .ok (.aload_n 2, 1) := by decide +kernel
theorem dL_law_536 : decode cL_law 536 = .ok (.aload_n 0, 1) := by decide +kernel
theorem dL_law_537 : decode cL_law 537 = .ok (.iload_n 3, 1) := by decide +kernel
theorem dL_law_538 : decode cL_law 538 = .ok (.iconst 1, 1) := by decide +kernel
theorem dL_law_539 : decode cL_law 539 = .ok (.iadd, 1) := by decide +kernel
theorem dL_law_540 : decode cL_law 540 = .ok (.iaload, 1) := by decide +kernel
theorem dL_law_541 : decode cL_law 541 = .ok (.aload_n 0, 1) := by decide +kernel
theorem dL_law_542 : decode cL_law 542 = .ok (.iload_n 3, 1) := by decide +kernel
theorem dL_law_543 : decode cL_law 543 = .ok (.iconst 2, 1) := by decide +kernel
theorem dL_law_544 : decode cL_law 544 = .ok (.iadd, 1) := by decide +kernel
theorem dL_law_545 : decode cL_law 545 = .ok (.iaload, 1) := by decide +kernel
theorem dL_law_546 : decode cL_law 546 = .ok (.invokevirtual 67, 3) := by decide +kernel
theorem dL_law_549 : decode cL_law 549 = .ok (.if_icmp .eq 760, 3) := by decide +kernel
theorem dL_law_552 : decode cL_law 552 = .ok (.iconst 0, 1) := by decide +kernel
theorem dL_law_553 : decode cL_law 553 = .ok (.ireturn, 1) := by decide +kernel
theorem dL_law_554 : decode cL_law 554 = .ok (.aload_n 1, 1) := by decide +kernel
theorem dL_law_555 : decode cL_law 555 = .ok (.aload_n 0, 1) := by decide +kernel
theorem dL_law_556 : decode cL_law 556 = .ok (.iload_n 3, 1) := by decide +kernel
theorem dL_law_557 : decode cL_law 557 = .ok (.iconst 1, 1) := by decide +kernel
theorem dL_law_558 : decode cL_law 558 = .ok (.iadd, 1) := by decide +kernel
theorem dL_law_559 : decode cL_law 559 = .ok (.iaload, 1) := by decide +kernel
theorem dL_law_560 : decode cL_law 560 = .ok (.aload_n 0, 1) := by decide +kernel
theorem dL_law_561 : decode cL_law 561 = .ok (.iload_n 3, 1) := by decide +kernel
theorem dL_law_562 : decode cL_law 562 = .ok (.iconst 2, 1) := by decide +kernel
theorem dL_law_563 : decode cL_law 563 = .ok (.iadd, 1) := by decide +kernel
theorem dL_law_564 : decode cL_law 564 = .ok (.iaload, 1) := by decide +kernel
theorem dL_law_565 : decode cL_law 565 = .ok (.aload_n 0, 1) := by decide +kernel
theorem dL_law_566 : decode cL_law 566 = .ok (.iload_n 3, 1) := by decide +kernel
theorem dL_law_567 : decode cL_law 567 = .ok (.iconst 3, 1) := by decide +kernel
theorem dL_law_568 : decode cL_law 568 = .ok (.iadd, 1) := by decide +kernel
theorem dL_law_569 : decode cL_law 569 = .ok (.iaload, 1) := by decide +kernel
theorem dL_law_570 : decode cL_law 570 = .ok (.invokevirtual 68, 3) := by decide +kernel
theorem dL_law_573 : decode cL_law 573 = .ok (.aload_n 2, 1) := by decide +kernel
theorem dL_law_574 : decode cL_law 574 = .ok (.aload_n 0, 1) := by decide +kernel
theorem dL_law_575 : decode cL_law 575 = .ok (.iload_n 3, 1) := by decide +kernel
theorem dL_law_576 : decode cL_law 576 = .ok (.iconst 1, 1) := by decide +kernel
theorem dL_law_577 : decode cL_law 577 = .ok (.iadd, 1) := by decide +kernel
theorem dL_law_578 : decode cL_law 578 = .ok (.iaload, 1) := by decide +kernel
theorem dL_law_579 : decode cL_law 579 = .ok (.aload_n 0, 1) := by decide +kernel
theorem dL_law_580 : decode cL_law 580 = .ok (.iload_n 3, 1) := by decide +kernel
theorem dL_law_581 : decode cL_law 581 = .ok (.iconst 2, 1) := by decide +kernel
theorem dL_law_582 : decode cL_law 582 = .ok (.iadd, 1) := by decide +kernel
theorem dL_law_583 : decode cL_law 583 = .ok (.iaload, 1) := by decide +kernel
theorem dL_law_584 : decode cL_law 584 = .ok (.aload_n 0, 1) := by decide +kernel
theorem dL_law_585 : decode cL_law 585 = .ok (.iload_n 3, 1) := by decide +kernel
theorem dL_law_586 : decode cL_law 586 = .ok (.iconst 3, 1) := by decide +kernel
theorem dL_law_587 : decode cL_law 587 = .ok (.iadd, 1) := by decide +kernel
theorem dL_law_588 : decode cL_law 588 = .ok (.iaload, 1) := by decide +kernel
theorem dL_law_589 : decode cL_law 589 = .ok (.invokevirtual 72, 3) := by decide +kernel
theorem dL_law_592 : decode cL_law 592 = .ok (.if_icmp .eq 717, 3) := by decide +kernel
theorem dL_law_595 : decode cL_law 595 = .ok (.iconst 0, 1) := by decide +kernel
theorem dL_law_596 : decode cL_law 596 = .ok (.ireturn, 1) := by decide +kernel
theorem dL_law_597 : decode cL_law 597 = .ok (.aload_n 1, 1) := by decide +kernel
theorem dL_law_598 : decode cL_law 598 = .ok (.aload_n 0, 1) := by decide +kernel
theorem dL_law_599 : decode cL_law 599 = .ok (.iload_n 3, 1) := by decide +kernel
theorem dL_law_600 : decode cL_law 600 = .ok (.iconst 1, 1) := by decide +kernel
theorem dL_law_601 : decode cL_law 601 = .ok (.iadd, 1) := by decide +kernel
theorem dL_law_602 : decode cL_law 602 = .ok (.iaload, 1) := by decide +kernel
theorem dL_law_603 : decode cL_law 603 = .ok (.aload_n 0, 1) := by decide +kernel
theorem dL_law_604 : decode cL_law 604 = .ok (.iload_n 3, 1) := by decide +kernel
theorem dL_law_605 : decode cL_law 605 = .ok (.iconst 2, 1) := by decide +kernel
theorem dL_law_606 : decode cL_law 606 = .ok (.iadd, 1) := by decide +kernel
theorem dL_law_607 : decode cL_law 607 = .ok (.iaload, 1) := by decide +kernel
theorem dL_law_608 : decode cL_law 608 = .ok (.aload_n 0, 1) := by decide +kernel
theorem dL_law_609 : decode cL_law 609 = .ok (.iload_n 3, 1) := by decide +kernel
theorem dL_law_610 : decode cL_law 610 = .ok (.iconst 3, 1) := by decide +kernel
theorem dL_law_611 : decode cL_law 611 = .ok (.iadd, 1) := by decide +kernel
theorem dL_law_612 : decode cL_law 612 = .ok (.iaload, 1) := by decide +kernel
theorem dL_law_613 : decode cL_law 613 = .ok (.invokevirtual 73, 3) := by decide +kernel
theorem dL_law_616 : decode cL_law 616 = .ok (.aload_n 2, 1) := by decide +kernel
theorem dL_law_617 : decode cL_law 617 = .ok (.aload_n 0, 1) := by decide +kernel
theorem dL_law_618 : decode cL_law 618 = .ok (.iload_n 3, 1) := by decide +kernel
theorem dL_law_619 : decode cL_law 619 = .ok (.iconst 1, 1) := by decide +kernel
theorem dL_law_620 : decode cL_law 620 = .ok (.iadd, 1) := by decide +kernel
theorem dL_law_621 : decode cL_law 621 = .ok (.iaload, 1) := by decide +kernel
theorem dL_law_622 : decode cL_law 622 = .ok (.aload_n 0, 1) := by decide +kernel
theorem dL_law_623 : decode cL_law 623 = .ok (.iload_n 3, 1) := by decide +kernel
theorem dL_law_624 : decode cL_law 624 = .ok (.iconst 2, 1) := by decide +kernel
theorem dL_law_625 : decode cL_law 625 = .ok (.iadd, 1) := by decide +kernel
theorem dL_law_626 : decode cL_law 626 = .ok (.iaload, 1) := by decide +kernel
theorem dL_law_627 : decode cL_law 627 = .ok (.aload_n 0, 1) := by decide +kernel
theorem dL_law_628 : decode cL_law 628 = .ok (.iload_n 3, 1) := by decide +kernel
theorem dL_law_629 : decode cL_law 629 = .ok (.iconst 3, 1) := by decide +kernel
theorem dL_law_630 : decode cL_law 630 = .ok (.iadd, 1) := by decide +kernel
theorem dL_law_631 : decode cL_law 631 = .ok (.iaload, 1) := by decide +kernel
theorem dL_law_632 : decode cL_law 632 = .ok (.invokevirtual 76, 3) := by decide +kernel
theorem dL_law_635 : decode cL_law 635 = .ok (.if_icmp .eq 674, 3) := by decide +kernel
theorem dL_law_638 : decode cL_law 638 = .ok (.iconst 0, 1) := by decide +kernel
theorem dL_law_639 : decode cL_law 639 = .ok (.ireturn, 1) := by decide +kernel
theorem dL_law_640 : decode cL_law 640 = .ok (.aload_n 1, 1) := by decide +kernel
theorem dL_law_641 : decode cL_law 641 = .ok (.aload_n 0, 1) := by decide +kernel
theorem dL_law_642 : decode cL_law 642 = .ok (.iload_n 3, 1) := by decide +kernel
theorem dL_law_643 : decode cL_law 643 = .ok (.iconst 1, 1) := by decide +kernel
theorem dL_law_644 : decode cL_law 644 = .ok (.iadd, 1) := by decide +kernel
theorem dL_law_645 : decode cL_law 645 = .ok (.iaload, 1) := by decide +kernel
theorem dL_law_646 : decode cL_law 646 = .ok (.aload_n 0, 1) := by decide +kernel
theorem dL_law_647 : decode cL_law 647 = .ok (.iload_n 3, 1) := by decide +kernel
theorem dL_law_648 : decode cL_law 648 = .ok (.iconst 2, 1) := by decide +kernel
theorem dL_law_649 : decode cL_law 649 = .ok (.iadd, 1) := by decide +kernel
theorem dL_law_650 : decode cL_law 650 = .ok (.iaload, 1) := by decide +kernel
theorem dL_law_651 : decode cL_law 651 = .ok (.invokevirtual 77, 3) := by decide +kernel
theorem dL_law_654 : decode cL_law 654 = .ok (.aload_n 2, 1) := by decide +kernel
theorem dL_law_655 : decode cL_law 655 = .ok (.aload_n 0, 1) := by decide +kernel
theorem dL_law_656 : decode cL_law 656 = .ok (.iload_n 3, 1) := by decide +kernel
theorem dL_law_657 : decode cL_law 657 = .ok (.iconst 1, 1) := by decide +kernel
theorem dL_law_658 : decode cL_law 658 = .ok (.iadd, 1) := by decide +kernel
theorem dL_law_659 : decode cL_law 659 = .ok (.iaload, 1) := by decide +kernel
theorem dL_law_660 : decode cL_law 660 = .ok (.aload_n 0, 1) := by decide +kernel
theorem dL_law_661 : decode cL_law 661 = .ok (.iload_n 3, 1) := by decide +kernel
theorem dL_law_662 : decode cL_law 662 = .ok (.iconst 2, 1) := by decide +kernel
theorem dL_law_663 : decode cL_law 663 = .ok (.iadd, 1) := by decide +kernel
theorem dL_law_664 : decode cL_law 664 = .ok (.iaload, 1) := by decide +kernel
theorem dL_law_665 : decode cL_law 665 = .ok (.invokevirtual 80, 3) := by decide +kernel
theorem dL_law_668 : decode cL_law 668 = .ok (.if_icmp .eq 641, 3) := by decide +kernel
theorem dL_law_671 : decode cL_law 671 = .ok (.iconst 0, 1) := by decide +kernel
theorem dL_law_672 : decode cL_law 672 = .ok (.ireturn, 1) := by decide +kernel
theorem dL_law_673 : decode cL_law 673 = .ok (.aload_n 1, 1) := by decide +kernel
theorem dL_law_674 : decode cL_law 674 = .ok (.aload_n 0, 1) := by decide +kernel
theorem dL_law_675 : decode cL_law 675 = .ok (.iload_n 3, 1) := by decide +kernel
theorem dL_law_676 : decode cL_law 676 = .ok (.iconst 1, 1) := by decide +kernel
theorem dL_law_677 : decode cL_law 677 = .ok (.iadd, 1) := by decide +kernel
theorem dL_law_678 : decode cL_law 678 = .ok (.iaload, 1) := by decide +kernel
theorem dL_law_679 : decode cL_law 679 = .ok (.invokevirtual 81, 3) := by decide +kernel
theorem dL_law_682 : decode cL_law 682 = .ok (.aload_n 2, 1) := by decide +kernel
theorem dL_law_683 : decode cL_law 683 = .ok (.aload_n 0, 1) := by decide +kernel
theorem dL_law_684 : decode cL_law 684 = .ok (.iload_n 3, 1) := by decide +kernel
theorem dL_law_685 : decode cL_law 685 = .ok (.iconst 1, 1) := by decide +kernel
theorem dL_law_686 : decode cL_law 686 = .ok (.iadd, 1) := by decide +kernel
theorem dL_law_687 : decode cL_law 687 = .ok (.iaload, 1) := by decide +kernel
theorem dL_law_688 : decode cL_law 688 = .ok (.invokevirtual 84, 3) := by decide +kernel
theorem dL_law_691 : decode cL_law 691 = .ok (.if_icmp .eq 618, 3) := by decide +kernel
theorem dL_law_694 : decode cL_law 694 = .ok (.iconst 0, 1) := by decide +kernel
theorem dL_law_695 : decode cL_law 695 = .ok (.ireturn, 1) := by decide +kernel
theorem dL_law_696 : decode cL_law 696 = .ok (.aload_n 1, 1) := by decide +kernel
theorem dL_law_697 : decode cL_law 697 = .ok (.invokevirtual 85, 3) := by decide +kernel
theorem dL_law_700 : decode cL_law 700 = .ok (.aload_n 2, 1) := by decide +kernel
theorem dL_law_701 : decode cL_law 701 = .ok (.invokevirtual 88, 3) := by decide +kernel
theorem dL_law_704 : decode cL_law 704 = .ok (.if_icmp .eq 605, 3) := by decide +kernel
theorem dL_law_707 : decode cL_law 707 = .ok (.iconst 0, 1) := by decide +kernel
theorem dL_law_708 : decode cL_law 708 = .ok (.ireturn, 1) := by decide +kernel
theorem dL_law_709 : decode cL_law 709 = .ok (.aload_n 1, 1) := by decide +kernel
theorem dL_law_710 : decode cL_law 710 = .ok (.aload_n 0, 1) := by decide +kernel
theorem dL_law_711 : decode cL_law 711 = .ok (.iload_n 3, 1) := by decide +kernel
theorem dL_law_712 : decode cL_law 712 = .ok (.iconst 1, 1) := by decide +kernel
theorem dL_law_713 : decode cL_law 713 = .ok (.iadd, 1) := by decide +kernel
theorem dL_law_714 : decode cL_law 714 = .ok (.iaload, 1) := by decide +kernel
theorem dL_law_715 : decode cL_law 715 = .ok (.aload_n 0, 1) := by decide +kernel
theorem dL_law_716 : decode cL_law 716 = .ok (.iload_n 3, 1) := by decide +kernel
theorem dL_law_717 : decode cL_law 717 = .ok (.iconst 2, 1) := by decide +kernel
theorem dL_law_718 : decode cL_law 718 = .ok (.iadd, 1) := by decide +kernel
theorem dL_law_719 : decode cL_law 719 = .ok (.iaload, 1) := by decide +kernel
theorem dL_law_720 : decode cL_law 720 = .ok (.aload_n 0, 1) := by decide +kernel
theorem dL_law_721 : decode cL_law 721 = .ok (.iload_n 3, 1) := by decide +kernel
theorem dL_law_722 : decode cL_law 722 = .ok (.iconst 3, 1) := by decide +kernel
theorem dL_law_723 : decode cL_law 723 = .ok (.iadd, 1) := by decide +kernel
theorem dL_law_724 : decode cL_law 724 = .ok (.iaload, 1) := by decide +kernel
theorem dL_law_725 : decode cL_law 725 = .ok (.invokevirtual 89, 3) := by decide +kernel
theorem dL_law_728 : decode cL_law 728 = .ok (.aload_n 2, 1) := by decide +kernel
theorem dL_law_729 : decode cL_law 729 = .ok (.aload_n 0, 1) := by decide +kernel
theorem dL_law_730 : decode cL_law 730 = .ok (.iload_n 3, 1) := by decide +kernel
theorem dL_law_731 : decode cL_law 731 = .ok (.iconst 1, 1) := by decide +kernel
theorem dL_law_732 : decode cL_law 732 = .ok (.iadd, 1) := by decide +kernel
theorem dL_law_733 : decode cL_law 733 = .ok (.iaload, 1) := by decide +kernel
theorem dL_law_734 : decode cL_law 734 = .ok (.aload_n 0, 1) := by decide +kernel
theorem dL_law_735 : decode cL_law 735 = .ok (.iload_n 3, 1) := by decide +kernel
theorem dL_law_736 : decode cL_law 736 = .ok (.iconst 2, 1) := by decide +kernel
theorem dL_law_737 : decode cL_law 737 = .ok (.iadd, 1) := by decide +kernel
theorem dL_law_738 : decode cL_law 738 = .ok (.iaload, 1) := by decide +kernel
theorem dL_law_739 : decode cL_law 739 = .ok (.aload_n 0, 1) := by decide +kernel
theorem dL_law_740 : decode cL_law 740 = .ok (.iload_n 3, 1) := by decide +kernel
theorem dL_law_741 : decode cL_law 741 = .ok (.iconst 3, 1) := by decide +kernel
theorem dL_law_742 : decode cL_law 742 = .ok (.iadd, 1) := by decide +kernel
theorem dL_law_743 : decode cL_law 743 = .ok (.iaload, 1) := by decide +kernel
theorem dL_law_744 : decode cL_law 744 = .ok (.invokevirtual 93, 3) := by decide +kernel
theorem dL_law_747 : decode cL_law 747 = .ok (.lcmp, 1) := by decide +kernel
theorem dL_law_748 : decode cL_law 748 = .ok (.ifCond .eq 561, 3) := by decide +kernel
theorem dL_law_751 : decode cL_law 751 = .ok (.iconst 0, 1) := by decide +kernel
theorem dL_law_752 : decode cL_law 752 = .ok (.ireturn, 1) := by decide +kernel
theorem dL_law_753 : decode cL_law 753 = .ok (.aload_n 1, 1) := by decide +kernel
theorem dL_law_754 : decode cL_law 754 = .ok (.aload_n 0, 1) := by decide +kernel
theorem dL_law_755 : decode cL_law 755 = .ok (.iload_n 3, 1) := by decide +kernel
theorem dL_law_756 : decode cL_law 756 = .ok (.iconst 1, 1) := by decide +kernel
theorem dL_law_757 : decode cL_law 757 = .ok (.iadd, 1) := by decide +kernel
theorem dL_law_758 : decode cL_law 758 = .ok (.iaload, 1) := by decide +kernel
theorem dL_law_759 : decode cL_law 759 = .ok (.aload_n 0, 1) := by decide +kernel
theorem dL_law_760 : decode cL_law 760 = .ok (.iload_n 3, 1) := by decide +kernel
theorem dL_law_761 : decode cL_law 761 = .ok (.iconst 2, 1) := by decide +kernel
theorem dL_law_762 : decode cL_law 762 = .ok (.iadd, 1) := by decide +kernel
theorem dL_law_763 : decode cL_law 763 = .ok (.iaload, 1) := by decide +kernel
theorem dL_law_764 : decode cL_law 764 = .ok (.invokevirtual 94, 3) := by decide +kernel
theorem dL_law_767 : decode cL_law 767 = .ok (.aload_n 2, 1) := by decide +kernel
theorem dL_law_768 : decode cL_law 768 = .ok (.aload_n 0, 1) := by decide +kernel
theorem dL_law_769 : decode cL_law 769 = .ok (.iload_n 3, 1) := by decide +kernel
theorem dL_law_770 : decode cL_law 770 = .ok (.iconst 1, 1) := by decide +kernel
theorem dL_law_771 : decode cL_law 771 = .ok (.iadd, 1) := by decide +kernel
theorem dL_law_772 : decode cL_law 772 = .ok (.iaload, 1) := by decide +kernel
theorem dL_law_773 : decode cL_law 773 = .ok (.aload_n 0, 1) := by decide +kernel
theorem dL_law_774 : decode cL_law 774 = .ok (.iload_n 3, 1) := by decide +kernel
theorem dL_law_775 : decode cL_law 775 = .ok (.iconst 2, 1) := by decide +kernel
theorem dL_law_776 : decode cL_law 776 = .ok (.iadd, 1) := by decide +kernel
theorem dL_law_777 : decode cL_law 777 = .ok (.iaload, 1) := by decide +kernel
theorem dL_law_778 : decode cL_law 778 = .ok (.invokevirtual 98, 3) := by decide +kernel
theorem dL_law_781 : decode cL_law 781 = .ok (.lcmp, 1) := by decide +kernel
theorem dL_law_782 : decode cL_law 782 = .ok (.ifCond .eq 527, 3) := by decide +kernel
theorem dL_law_785 : decode cL_law 785 = .ok (.iconst 0, 1) := by decide +kernel
theorem dL_law_786 : decode cL_law 786 = .ok (.ireturn, 1) := by decide +kernel
theorem dL_law_787 : decode cL_law 787 = .ok (.aload_n 1, 1) := by decide +kernel
theorem dL_law_788 : decode cL_law 788 = .ok (.aload_n 0, 1) := by decide +kernel
theorem dL_law_789 : decode cL_law 789 = .ok (.iload_n 3, 1) := by decide +kernel
theorem dL_law_790 : decode cL_law 790 = .ok (.iconst 1, 1) := by decide +kernel
theorem dL_law_791 : decode cL_law 791 = .ok (.iadd, 1) := by decide +kernel
theorem dL_law_792 : decode cL_law 792 = .ok (.iaload, 1) := by decide +kernel
theorem dL_law_793 : decode cL_law 793 = .ok (.aload_n 0, 1) := by decide +kernel
theorem dL_law_794 : decode cL_law 794 = .ok (.iload_n 3, 1) := by decide +kernel
theorem dL_law_795 : decode cL_law 795 = .ok (.iconst 2, 1) := by decide +kernel
theorem dL_law_796 : decode cL_law 796 = .ok (.iadd, 1) := by decide +kernel
theorem dL_law_797 : decode cL_law 797 = .ok (.iaload, 1) := by decide +kernel
theorem dL_law_798 : decode cL_law 798 = .ok (.invokevirtual 99, 3) := by decide +kernel
theorem dL_law_801 : decode cL_law 801 = .ok (.aload_n 2, 1) := by decide +kernel
theorem dL_law_802 : decode cL_law 802 = .ok (.aload_n 0, 1) := by decide +kernel
theorem dL_law_803 : decode cL_law 803 = .ok (.iload_n 3, 1) := by decide +kernel
theorem dL_law_804 : decode cL_law 804 = .ok (.iconst 1, 1) := by decide +kernel
theorem dL_law_805 : decode cL_law 805 = .ok (.iadd, 1) := by decide +kernel
theorem dL_law_806 : decode cL_law 806 = .ok (.iaload, 1) := by decide +kernel
theorem dL_law_807 : decode cL_law 807 = .ok (.aload_n 0, 1) := by decide +kernel
theorem dL_law_808 : decode cL_law 808 = .ok (.iload_n 3, 1) := by decide +kernel
theorem dL_law_809 : decode cL_law 809 = .ok (.iconst 2, 1) := by decide +kernel
theorem dL_law_810 : decode cL_law 810 = .ok (.iadd, 1) := by decide +kernel
theorem dL_law_811 : decode cL_law 811 = .ok (.iaload, 1) := by decide +kernel
theorem dL_law_812 : decode cL_law 812 = .ok (.invokevirtual 102, 3) := by decide +kernel
theorem dL_law_815 : decode cL_law 815 = .ok (.if_icmp .eq 494, 3) := by decide +kernel
theorem dL_law_818 : decode cL_law 818 = .ok (.iconst 0, 1) := by decide +kernel
theorem dL_law_819 : decode cL_law 819 = .ok (.ireturn, 1) := by decide +kernel
theorem dL_law_820 : decode cL_law 820 = .ok (.aload_n 1, 1) := by decide +kernel
theorem dL_law_821 : decode cL_law 821 = .ok (.aload_n 0, 1) := by decide +kernel
theorem dL_law_822 : decode cL_law 822 = .ok (.iload_n 3, 1) := by decide +kernel
theorem dL_law_823 : decode cL_law 823 = .ok (.iconst 1, 1) := by decide +kernel
theorem dL_law_824 : decode cL_law 824 = .ok (.iadd, 1) := by decide +kernel
theorem dL_law_825 : decode cL_law 825 = .ok (.iaload, 1) := by decide +kernel
theorem dL_law_826 : decode cL_law 826 = .ok (.aload_n 0, 1) := by decide +kernel
theorem dL_law_827 : decode cL_law 827 = .ok (.iload_n 3, 1) := by decide +kernel
theorem dL_law_828 : decode cL_law 828 = .ok (.iconst 2, 1) := by decide +kernel
theorem dL_law_829 : decode cL_law 829 = .ok (.iadd, 1) := by decide +kernel
theorem dL_law_830 : decode cL_law 830 = .ok (.iaload, 1) := by decide +kernel
theorem dL_law_831 : decode cL_law 831 = .ok (.invokevirtual 103, 3) := by decide +kernel
theorem dL_law_834 : decode cL_law 834 = .ok (.aload_n 2, 1) := by decide +kernel
theorem dL_law_835 : decode cL_law 835 = .ok (.aload_n 0, 1) := by decide +kernel
theorem dL_law_836 : decode cL_law 836 = .ok (.iload_n 3, 1) := by decide +kernel
theorem dL_law_837 : decode cL_law 837 = .ok (.iconst 1, 1) := by decide +kernel
theorem dL_law_838 : decode cL_law 838 = .ok (.iadd, 1) := by decide +kernel
theorem dL_law_839 : decode cL_law 839 = .ok (.iaload, 1) := by decide +kernel
theorem dL_law_840 : decode cL_law 840 = .ok (.aload_n 0, 1) := by decide +kernel
theorem dL_law_841 : decode cL_law 841 = .ok (.iload_n 3, 1) := by decide +kernel
theorem dL_law_842 : decode cL_law 842 = .ok (.iconst 2, 1) := by decide +kernel
theorem dL_law_843 : decode cL_law 843 = .ok (.iadd, 1) := by decide +kernel
theorem dL_law_844 : decode cL_law 844 = .ok (.iaload, 1) := by decide +kernel
theorem dL_law_845 : decode cL_law 845 = .ok (.invokevirtual 106, 3) := by decide +kernel
theorem dL_law_848 : decode cL_law 848 = .ok (.if_icmp .eq 461, 3) := by decide +kernel
theorem dL_law_851 : decode cL_law 851 = .ok (.iconst 0, 1) := by decide +kernel
theorem dL_law_852 : decode cL_law 852 = .ok (.ireturn, 1) := by decide +kernel
theorem dL_law_853 : decode cL_law 853 = .ok (.aload_n 1, 1) := by decide +kernel
theorem dL_law_854 : decode cL_law 854 = .ok (.aload_n 0, 1) := by decide +kernel
theorem dL_law_855 : decode cL_law 855 = .ok (.iload_n 3, 1) := by decide +kernel
theorem dL_law_856 : decode cL_law 856 = .ok (.iconst 1, 1) := by decide +kernel
theorem dL_law_857 : decode cL_law 857 = .ok (.iadd, 1) := by decide +kernel
theorem dL_law_858 : decode cL_law 858 = .ok (.iaload, 1) := by decide +kernel
theorem dL_law_859 : decode cL_law 859 = .ok (.aload_n 0, 1) := by decide +kernel
theorem dL_law_860 : decode cL_law 860 = .ok (.iload_n 3, 1) := by decide +kernel
theorem dL_law_861 : decode cL_law 861 = .ok (.iconst 2, 1) := by decide +kernel
theorem dL_law_862 : decode cL_law 862 = .ok (.iadd, 1) := by decide +kernel
theorem dL_law_863 : decode cL_law 863 = .ok (.iaload, 1) := by decide +kernel
theorem dL_law_864 : decode cL_law 864 = .ok (.aload_n 0, 1) := by decide +kernel
theorem dL_law_865 : decode cL_law 865 = .ok (.iload_n 3, 1) := by decide +kernel
theorem dL_law_866 : decode cL_law 866 = .ok (.iconst 3, 1) := by decide +kernel
theorem dL_law_867 : decode cL_law 867 = .ok (.iadd, 1) := by decide +kernel
theorem dL_law_868 : decode cL_law 868 = .ok (.iaload, 1) := by decide +kernel
theorem dL_law_869 : decode cL_law 869 = .ok (.invokevirtual 107, 3) := by decide +kernel
theorem dL_law_872 : decode cL_law 872 = .ok (.aload_n 2, 1) := by decide +kernel
theorem dL_law_873 : decode cL_law 873 = .ok (.aload_n 0, 1) := by decide +kernel
theorem dL_law_874 : decode cL_law 874 = .ok (.iload_n 3, 1) := by decide +kernel
theorem dL_law_875 : decode cL_law 875 = .ok (.iconst 1, 1) := by decide +kernel
theorem dL_law_876 : decode cL_law 876 = .ok (.iadd, 1) := by decide +kernel
theorem dL_law_877 : decode cL_law 877 = .ok (.iaload, 1) := by decide +kernel
theorem dL_law_878 : decode cL_law 878 = .ok (.aload_n 0, 1) := by decide +kernel
theorem dL_law_879 : decode cL_law 879 = .ok (.iload_n 3, 1) := by decide +kernel
theorem dL_law_880 : decode cL_law 880 = .ok (.iconst 2, 1) := by decide +kernel
theorem dL_law_881 : decode cL_law 881 = .ok (.iadd, 1) := by decide +kernel
theorem dL_law_882 : decode cL_law 882 = .ok (.iaload, 1) := by decide +kernel
theorem dL_law_883 : decode cL_law 883 = .ok (.aload_n 0, 1) := by decide +kernel
theorem dL_law_884 : decode cL_law 884 = .ok (.iload_n 3, 1) := by decide +kernel
theorem dL_law_885 : decode cL_law 885 = .ok (.iconst 3, 1) := by decide +kernel
theorem dL_law_886 : decode cL_law 886 = .ok (.iadd, 1) := by decide +kernel
theorem dL_law_887 : decode cL_law 887 = .ok (.iaload, 1) := by decide +kernel
theorem dL_law_888 : decode cL_law 888 = .ok (.invokevirtual 110, 3) := by decide +kernel
theorem dL_law_891 : decode cL_law 891 = .ok (.if_icmp .eq 418, 3) := by decide +kernel
theorem dL_law_894 : decode cL_law 894 = .ok (.iconst 0, 1) := by decide +kernel
theorem dL_law_895 : decode cL_law 895 = .ok (.ireturn, 1) := by decide +kernel
theorem dL_law_896 : decode cL_law 896 = .ok (.aload_n 1, 1) := by decide +kernel
theorem dL_law_897 : decode cL_law 897 = .ok (.aload_n 0, 1) := by decide +kernel
theorem dL_law_898 : decode cL_law 898 = .ok (.iload_n 3, 1) := by decide +kernel
theorem dL_law_899 : decode cL_law 899 = .ok (.iconst 1, 1) := by decide +kernel
theorem dL_law_900 : decode cL_law 900 = .ok (.iadd, 1) := by decide +kernel
theorem dL_law_901 : decode cL_law 901 = .ok (.iaload, 1) := by decide +kernel
theorem dL_law_902 : decode cL_law 902 = .ok (.invokevirtual 111, 3) := by decide +kernel
theorem dL_law_905 : decode cL_law 905 = .ok (.aload_n 2, 1) := by decide +kernel
theorem dL_law_906 : decode cL_law 906 = .ok (.aload_n 0, 1) := by decide +kernel
theorem dL_law_907 : decode cL_law 907 = .ok (.iload_n 3, 1) := by decide +kernel
theorem dL_law_908 : decode cL_law 908 = .ok (.iconst 1, 1) := by decide +kernel
theorem dL_law_909 : decode cL_law 909 = .ok (.iadd, 1) := by decide +kernel
theorem dL_law_910 : decode cL_law 910 = .ok (.iaload, 1) := by decide +kernel
theorem dL_law_911 : decode cL_law 911 = .ok (.invokevirtual 114, 3) := by decide +kernel
theorem dL_law_914 : decode cL_law 914 = .ok (.if_icmp .eq 395, 3) := by decide +kernel
theorem dL_law_917 : decode cL_law 917 = .ok (.iconst 0, 1) := by decide +kernel
theorem dL_law_918 : decode cL_law 918 = .ok (.ireturn, 1) := by decide +kernel
theorem dL_law_919 : decode cL_law 919 = .ok (.aload_n 1, 1) := by decide +kernel
theorem dL_law_920 : decode cL_law 920 = .ok (.aload_n 0, 1) := by decide +kernel
theorem dL_law_921 : decode cL_law 921 = .ok (.iload_n 3, 1) := by decide +kernel
theorem dL_law_922 : decode cL_law 922 = .ok (.iconst 1, 1) := by decide +kernel
theorem dL_law_923 : decode cL_law 923 = .ok (.iadd, 1) := by decide +kernel
theorem dL_law_924 : decode cL_law 924 = .ok (.iaload, 1) := by decide +kernel
theorem dL_law_925 : decode cL_law 925 = .ok (.invokevirtual 115, 3) := by decide +kernel
theorem dL_law_928 : decode cL_law 928 = .ok (.aload_n 2, 1) := by decide +kernel
theorem dL_law_929 : decode cL_law 929 = .ok (.aload_n 0, 1) := by decide +kernel
theorem dL_law_930 : decode cL_law 930 = .ok (.iload_n 3, 1) := by decide +kernel
theorem dL_law_931 : decode cL_law 931 = .ok (.iconst 1, 1) := by decide +kernel
theorem dL_law_932 : decode cL_law 932 = .ok (.iadd, 1) := by decide +kernel
theorem dL_law_933 : decode cL_law 933 = .ok (.iaload, 1) := by decide +kernel
theorem dL_law_934 : decode cL_law 934 = .ok (.invokevirtual 118, 3) := by decide +kernel
theorem dL_law_937 : decode cL_law 937 = .ok (.if_icmp .eq 372, 3) := by decide +kernel
theorem dL_law_940 : decode cL_law 940 = .ok (.iconst 0, 1) := by decide +kernel
theorem dL_law_941 : decode cL_law 941 = .ok (.ireturn, 1) := by decide +kernel
theorem dL_law_942 : decode cL_law 942 = .ok (.aload_n 1, 1) := by decide +kernel
theorem dL_law_943 : decode cL_law 943 = .ok (.aload_n 0, 1) := by decide +kernel
theorem dL_law_944 : decode cL_law 944 = .ok (.iload_n 3, 1) := by decide +kernel
theorem dL_law_945 : decode cL_law 945 = .ok (.iconst 1, 1) := by decide +kernel
theorem dL_law_946 : decode cL_law 946 = .ok (.iadd, 1) := by decide +kernel
theorem dL_law_947 : decode cL_law 947 = .ok (.iaload, 1) := by decide +kernel
theorem dL_law_948 : decode cL_law 948 = .ok (.invokevirtual 119, 3) := by decide +kernel
theorem dL_law_951 : decode cL_law 951 = .ok (.aload_n 2, 1) := by decide +kernel
theorem dL_law_952 : decode cL_law 952 = .ok (.aload_n 0, 1) := by decide +kernel
theorem dL_law_953 : decode cL_law 953 = .ok (.iload_n 3, 1) := by decide +kernel
theorem dL_law_954 : decode cL_law 954 = .ok (.iconst 1, 1) := by decide +kernel
theorem dL_law_955 : decode cL_law 955 = .ok (.iadd, 1) := by decide +kernel
theorem dL_law_956 : decode cL_law 956 = .ok (.iaload, 1) := by decide +kernel
theorem dL_law_957 : decode cL_law 957 = .ok (.invokevirtual 122, 3) := by decide +kernel
theorem dL_law_960 : decode cL_law 960 = .ok (.if_icmp .eq 349, 3) := by decide +kernel
theorem dL_law_963 : decode cL_law 963 = .ok (.iconst 0, 1) := by decide +kernel
theorem dL_law_964 : decode cL_law 964 = .ok (.ireturn, 1) := by decide +kernel
theorem dL_law_965 : decode cL_law 965 = .ok (.aload_n 1, 1) := by decide +kernel
theorem dL_law_966 : decode cL_law 966 = .ok (.aload_n 0, 1) := by decide +kernel
theorem dL_law_967 : decode cL_law 967 = .ok (.iload_n 3, 1) := by decide +kernel
theorem dL_law_968 : decode cL_law 968 = .ok (.iconst 1, 1) := by decide +kernel
theorem dL_law_969 : decode cL_law 969 = .ok (.iadd, 1) := by decide +kernel
theorem dL_law_970 : decode cL_law 970 = .ok (.iaload, 1) := by decide +kernel
theorem dL_law_971 : decode cL_law 971 = .ok (.invokevirtual 123, 3) := by decide +kernel
theorem dL_law_974 : decode cL_law 974 = .ok (.aload_n 2, 1) := by decide +kernel
theorem dL_law_975 : decode cL_law 975 = .ok (.aload_n 0, 1) := by decide +kernel
theorem dL_law_976 : decode cL_law 976 = .ok (.iload_n 3, 1) := by decide +kernel
theorem dL_law_977 : decode cL_law 977 = .ok (.iconst 1, 1) := by decide +kernel
theorem dL_law_978 : decode cL_law 978 = .ok (.iadd, 1) := by decide +kernel
theorem dL_law_979 : decode cL_law 979 = .ok (.iaload, 1) := by decide +kernel
theorem dL_law_980 : decode cL_law 980 = .ok (.invokevirtual 126, 3) := by decide +kernel
theorem dL_law_983 : decode cL_law 983 = .ok (.if_icmp .eq 326, 3) := by decide +kernel
theorem dL_law_986 : decode cL_law 986 = .ok (.iconst 0, 1) := by decide +kernel
theorem dL_law_987 : decode cL_law 987 = .ok (.ireturn, 1) := by decide +kernel
theorem dL_law_988 : decode cL_law 988 = .ok (.aload_n 1, 1) := by decide +kernel
theorem dL_law_989 : decode cL_law 989 = .ok (.aload_n 0, 1) := by decide +kernel
theorem dL_law_990 : decode cL_law 990 = .ok (.iload_n 3, 1) := by decide +kernel
theorem dL_law_991 : decode cL_law 991 = .ok (.iconst 1, 1) := by decide +kernel
theorem dL_law_992 : decode cL_law 992 = .ok (.iadd, 1) := by decide +kernel
theorem dL_law_993 : decode cL_law 993 = .ok (.iaload, 1) := by decide +kernel
theorem dL_law_994 : decode cL_law 994 = .ok (.invokevirtual 127, 3) := by decide +kernel
theorem dL_law_997 : decode cL_law 997 = .ok (.aload_n 2, 1) := by decide +kernel
theorem dL_law_998 : decode cL_law 998 = .ok (.aload_n 0, 1) := by decide +kernel
theorem dL_law_999 : decode cL_law 999 = .ok (.iload_n 3, 1) := by decide +kernel
theorem dL_law_1000 : decode cL_law 1000 = .ok (.iconst 1, 1) := by decide +kernel
theorem dL_law_1001 : decode cL_law 1001 = .ok (.iadd, 1) := by decide +kernel
theorem dL_law_1002 : decode cL_law 1002 = .ok (.iaload, 1) := by decide +kernel
theorem dL_law_1003 : decode cL_law 1003 = .ok (.invokevirtual 130, 3) := by decide +kernel
theorem dL_law_1006 : decode cL_law 1006 = .ok (.if_icmp .eq 303, 3) := by decide +kernel
theorem dL_law_1009 : decode cL_law 1009 = .ok (.iconst 0, 1) := by decide +kernel
theorem dL_law_1010 : decode cL_law 1010 = .ok (.ireturn, 1) := by decide +kernel
theorem dL_law_1011 : decode cL_law 1011 = .ok (.aload_n 1, 1) := by decide +kernel
theorem dL_law_1012 : decode cL_law 1012 = .ok (.aload_n 0, 1) := by decide +kernel
theorem dL_law_1013 : decode cL_law 1013 = .ok (.iload_n 3, 1) := by decide +kernel
theorem dL_law_1014 : decode cL_law 1014 = .ok (.iconst 1, 1) := by decide +kernel
theorem dL_law_1015 : decode cL_law 1015 = .ok (.iadd, 1) := by decide +kernel
theorem dL_law_1016 : decode cL_law 1016 = .ok (.iaload, 1) := by decide +kernel
theorem dL_law_1017 : decode cL_law 1017 = .ok (.aload_n 0, 1) := by decide +kernel
theorem dL_law_1018 : decode cL_law 1018 = .ok (.iload_n 3, 1) := by decide +kernel
theorem dL_law_1019 : decode cL_law 1019 = .ok (.iconst 2, 1) := by decide +kernel
theorem dL_law_1020 : decode cL_law 1020 = .ok (.iadd, 1) := by decide +kernel
theorem dL_law_1021 : decode cL_law 1021 = .ok (.iaload, 1) := by decide +kernel
theorem dL_law_1022 : decode cL_law 1022 = .ok (.aload_n 0, 1) := by decide +kernel
theorem dL_law_1023 : decode cL_law 1023 = .ok (.iload_n 3, 1) := by decide +kernel
theorem dL_law_1024 : decode cL_law 1024 = .ok (.iconst 3, 1) := by decide +kernel
theorem dL_law_1025 : decode cL_law 1025 = .ok (.iadd, 1) := by decide +kernel
theorem dL_law_1026 : decode cL_law 1026 = .ok (.iaload, 1) := by decide +kernel
theorem dL_law_1027 : decode cL_law 1027 = .ok (.invokevirtual 131, 3) := by decide +kernel
theorem dL_law_1030 : decode cL_law 1030 = .ok (.aload_n 2, 1) := by decide +kernel
theorem dL_law_1031 : decode cL_law 1031 = .ok (.aload_n 0, 1) := by decide +kernel
theorem dL_law_1032 : decode cL_law 1032 = .ok (.iload_n 3, 1) := by decide +kernel
theorem dL_law_1033 : decode cL_law 1033 = .ok (.iconst 1, 1) := by decide +kernel
theorem dL_law_1034 : decode cL_law 1034 = .ok (.iadd, 1) := by decide +kernel
theorem dL_law_1035 : decode cL_law 1035 = .ok (.iaload, 1) := by decide +kernel
theorem dL_law_1036 : decode cL_law 1036 = .ok (.aload_n 0, 1) := by decide +kernel
theorem dL_law_1037 : decode cL_law 1037 = .ok (.iload_n 3, 1) := by decide +kernel
theorem dL_law_1038 : decode cL_law 1038 = .ok (.iconst 2, 1) := by decide +kernel
theorem dL_law_1039 : decode cL_law 1039 = .ok (.iadd, 1) := by decide +kernel
theorem dL_law_1040 : decode cL_law 1040 = .ok (.iaload, 1) := by decide +kernel
theorem dL_law_1041 : decode cL_law 1041 = .ok (.aload_n 0, 1) := by decide +kernel
theorem dL_law_1042 : decode cL_law 1042 = .ok (.iload_n 3, 1) := by decide +kernel
theorem dL_law_1043 : decode cL_law 1043 = .ok (.iconst 3, 1) := by decide +kernel
theorem dL_law_1044 : decode cL_law 1044 = .ok (.iadd, 1) := by decide +kernel
theorem dL_law_1045 : decode cL_law 1045 = .ok (.iaload, 1) := by decide +kernel
theorem dL_law_1046 : decode cL_law 1046 = .ok (.invokevirtual 134, 3) := by decide +kernel
theorem dL_law_1049 : decode cL_law 1049 = .ok (.lcmp, 1) := by decide +kernel
theorem dL_law_1050 : decode cL_law 1050 = .ok (.ifCond .eq 259, 3) := by decide +kernel
theorem dL_law_1053 : decode cL_law 1053 = .ok (.iconst 0, 1) := by decide +kernel
theorem dL_law_1054 : decode cL_law 1054 = .ok (.ireturn, 1) := by decide +kernel
theorem dL_law_1055 : decode cL_law 1055 = .ok (.aload_n 1, 1) := by decide +kernel
theorem dL_law_1056 : decode cL_law 1056 = .ok (.aload_n 0, 1) := by decide +kernel
theorem dL_law_1057 : decode cL_law 1057 = .ok (.iload_n 3, 1) := by decide +kernel
theorem dL_law_1058 : decode cL_law 1058 = .ok (.iconst 1, 1) := by decide +kernel
theorem dL_law_1059 : decode cL_law 1059 = .ok (.iadd, 1) := by decide +kernel
theorem dL_law_1060 : decode cL_law 1060 = .ok (.iaload, 1) := by decide +kernel
theorem dL_law_1061 : decode cL_law 1061 = .ok (.aload_n 0, 1) := by decide +kernel
theorem dL_law_1062 : decode cL_law 1062 = .ok (.iload_n 3, 1) := by decide +kernel
theorem dL_law_1063 : decode cL_law 1063 = .ok (.iconst 2, 1) := by decide +kernel
theorem dL_law_1064 : decode cL_law 1064 = .ok (.iadd, 1) := by decide +kernel
theorem dL_law_1065 : decode cL_law 1065 = .ok (.iaload, 1) := by decide +kernel
theorem dL_law_1066 : decode cL_law 1066 = .ok (.invokevirtual 135, 3) := by decide +kernel
theorem dL_law_1069 : decode cL_law 1069 = .ok (.aload_n 2, 1) := by decide +kernel
theorem dL_law_1070 : decode cL_law 1070 = .ok (.aload_n 0, 1) := by decide +kernel
theorem dL_law_1071 : decode cL_law 1071 = .ok (.iload_n 3, 1) := by decide +kernel
theorem dL_law_1072 : decode cL_law 1072 = .ok (.iconst 1, 1) := by decide +kernel
theorem dL_law_1073 : decode cL_law 1073 = .ok (.iadd, 1) := by decide +kernel
theorem dL_law_1074 : decode cL_law 1074 = .ok (.iaload, 1) := by decide +kernel
theorem dL_law_1075 : decode cL_law 1075 = .ok (.aload_n 0, 1) := by decide +kernel
theorem dL_law_1076 : decode cL_law 1076 = .ok (.iload_n 3, 1) := by decide +kernel
theorem dL_law_1077 : decode cL_law 1077 = .ok (.iconst 2, 1) := by decide +kernel
theorem dL_law_1078 : decode cL_law 1078 = .ok (.iadd, 1) := by decide +kernel
theorem dL_law_1079 : decode cL_law 1079 = .ok (.iaload, 1) := by decide +kernel
theorem dL_law_1080 : decode cL_law 1080 = .ok (.invokevirtual 138, 3) := by decide +kernel
theorem dL_law_1083 : decode cL_law 1083 = .ok (.if_icmp .eq 226, 3) := by decide +kernel
theorem dL_law_1086 : decode cL_law 1086 = .ok (.iconst 0, 1) := by decide +kernel
theorem dL_law_1087 : decode cL_law 1087 = .ok (.ireturn, 1) := by decide +kernel
theorem dL_law_1088 : decode cL_law 1088 = .ok (.aload_n 1, 1) := by decide +kernel
theorem dL_law_1089 : decode cL_law 1089 = .ok (.aload_n 0, 1) := by decide +kernel
theorem dL_law_1090 : decode cL_law 1090 = .ok (.iload_n 3, 1) := by decide +kernel
theorem dL_law_1091 : decode cL_law 1091 = .ok (.iconst 1, 1) := by decide +kernel
theorem dL_law_1092 : decode cL_law 1092 = .ok (.iadd, 1) := by decide +kernel
theorem dL_law_1093 : decode cL_law 1093 = .ok (.iaload, 1) := by decide +kernel
theorem dL_law_1094 : decode cL_law 1094 = .ok (.invokevirtual 139, 3) := by decide +kernel
theorem dL_law_1097 : decode cL_law 1097 = .ok (.aload_n 2, 1) := by decide +kernel
theorem dL_law_1098 : decode cL_law 1098 = .ok (.aload_n 0, 1) := by decide +kernel
theorem dL_law_1099 : decode cL_law 1099 = .ok (.iload_n 3, 1) := by decide +kernel
theorem dL_law_1100 : decode cL_law 1100 = .ok (.iconst 1, 1) := by decide +kernel
theorem dL_law_1101 : decode cL_law 1101 = .ok (.iadd, 1) := by decide +kernel
theorem dL_law_1102 : decode cL_law 1102 = .ok (.iaload, 1) := by decide +kernel
theorem dL_law_1103 : decode cL_law 1103 = .ok (.invokevirtual 142, 3) := by decide +kernel
theorem dL_law_1106 : decode cL_law 1106 = .ok (.if_icmp .eq 203, 3) := by decide +kernel
theorem dL_law_1109 : decode cL_law 1109 = .ok (.iconst 0, 1) := by decide +kernel
theorem dL_law_1110 : decode cL_law 1110 = .ok (.ireturn, 1) := by decide +kernel
theorem dL_law_1111 : decode cL_law 1111 = .ok (.aload_n 1, 1) := by decide +kernel
theorem dL_law_1112 : decode cL_law 1112 = .ok (.aload_n 0, 1) := by decide +kernel
theorem dL_law_1113 : decode cL_law 1113 = .ok (.iload_n 3, 1) := by decide +kernel
theorem dL_law_1114 : decode cL_law 1114 = .ok (.iconst 1, 1) := by decide +kernel
theorem dL_law_1115 : decode cL_law 1115 = .ok (.iadd, 1) := by decide +kernel
theorem dL_law_1116 : decode cL_law 1116 = .ok (.iaload, 1) := by decide +kernel
theorem dL_law_1117 : decode cL_law 1117 = .ok (.invokevirtual 143, 3) := by decide +kernel
theorem dL_law_1120 : decode cL_law 1120 = .ok (.aload_n 2, 1) := by decide +kernel
theorem dL_law_1121 : decode cL_law 1121 = .ok (.aload_n 0, 1) := by decide +kernel
theorem dL_law_1122 : decode cL_law 1122 = .ok (.iload_n 3, 1) := by decide +kernel
theorem dL_law_1123 : decode cL_law 1123 = .ok (.iconst 1, 1) := by decide +kernel
theorem dL_law_1124 : decode cL_law 1124 = .ok (.iadd, 1) := by decide +kernel
theorem dL_law_1125 : decode cL_law 1125 = .ok (.iaload, 1) := by decide +kernel
theorem dL_law_1126 : decode cL_law 1126 = .ok (.invokevirtual 146, 3) := by decide +kernel
theorem dL_law_1129 : decode cL_law 1129 = .ok (.if_icmp .eq 180, 3) := by decide +kernel
theorem dL_law_1132 : decode cL_law 1132 = .ok (.iconst 0, 1) := by decide +kernel
theorem dL_law_1133 : decode cL_law 1133 = .ok (.ireturn, 1) := by decide +kernel
theorem dL_law_1134 : decode cL_law 1134 = .ok (.aload_n 1, 1) := by decide +kernel
theorem dL_law_1135 : decode cL_law 1135 = .ok (.aload_n 0, 1) := by decide +kernel
theorem dL_law_1136 : decode cL_law 1136 = .ok (.iload_n 3, 1) := by decide +kernel
theorem dL_law_1137 : decode cL_law 1137 = .ok (.iconst 1, 1) := by decide +kernel
theorem dL_law_1138 : decode cL_law 1138 = .ok (.iadd, 1) := by decide +kernel
theorem dL_law_1139 : decode cL_law 1139 = .ok (.iaload, 1) := by decide +kernel
theorem dL_law_1140 : decode cL_law 1140 = .ok (.aload_n 0, 1) := by decide +kernel
theorem dL_law_1141 : decode cL_law 1141 = .ok (.iload_n 3, 1) := by decide +kernel
theorem dL_law_1142 : decode cL_law 1142 = .ok (.iconst 2, 1) := by decide +kernel
theorem dL_law_1143 : decode cL_law 1143 = .ok (.iadd, 1) := by decide +kernel
theorem dL_law_1144 : decode cL_law 1144 = .ok (.iaload, 1) := by decide +kernel
theorem dL_law_1145 : decode cL_law 1145 = .ok (.aload_n 0, 1) := by decide +kernel
theorem dL_law_1146 : decode cL_law 1146 = .ok (.iload_n 3, 1) := by decide +kernel
theorem dL_law_1147 : decode cL_law 1147 = .ok (.iconst 3, 1) := by decide +kernel
theorem dL_law_1148 : decode cL_law 1148 = .ok (.iadd, 1) := by decide +kernel
theorem dL_law_1149 : decode cL_law 1149 = .ok (.iaload, 1) := by decide +kernel
theorem dL_law_1150 : decode cL_law 1150 = .ok (.invokevirtual 147, 3) := by decide +kernel
theorem dL_law_1153 : decode cL_law 1153 = .ok (.aload_n 2, 1) := by decide +kernel
theorem dL_law_1154 : decode cL_law 1154 = .ok (.aload_n 0, 1) := by decide +kernel
theorem dL_law_1155 : decode cL_law 1155 = .ok (.iload_n 3, 1) := by decide +kernel
theorem dL_law_1156 : decode cL_law 1156 = .ok (.iconst 1, 1) := by decide +kernel
theorem dL_law_1157 : decode cL_law 1157 = .ok (.iadd, 1) := by decide +kernel
theorem dL_law_1158 : decode cL_law 1158 = .ok (.iaload, 1) := by decide +kernel
theorem dL_law_1159 : decode cL_law 1159 = .ok (.aload_n 0, 1) := by decide +kernel
theorem dL_law_1160 : decode cL_law 1160 = .ok (.iload_n 3, 1) := by decide +kernel
theorem dL_law_1161 : decode cL_law 1161 = .ok (.iconst 2, 1) := by decide +kernel
theorem dL_law_1162 : decode cL_law 1162 = .ok (.iadd, 1) := by decide +kernel
theorem dL_law_1163 : decode cL_law 1163 = .ok (.iaload, 1) := by decide +kernel
theorem dL_law_1164 : decode cL_law 1164 = .ok (.aload_n 0, 1) := by decide +kernel
theorem dL_law_1165 : decode cL_law 1165 = .ok (.iload_n 3, 1) := by decide +kernel
theorem dL_law_1166 : decode cL_law 1166 = .ok (.iconst 3, 1) := by decide +kernel
theorem dL_law_1167 : decode cL_law 1167 = .ok (.iadd, 1) := by decide +kernel
theorem dL_law_1168 : decode cL_law 1168 = .ok (.iaload, 1) := by decide +kernel
theorem dL_law_1169 : decode cL_law 1169 = .ok (.invokevirtual 150, 3) := by decide +kernel
theorem dL_law_1172 : decode cL_law 1172 = .ok (.if_icmp .eq 137, 3) := by decide +kernel
theorem dL_law_1175 : decode cL_law 1175 = .ok (.iconst 0, 1) := by decide +kernel
theorem dL_law_1176 : decode cL_law 1176 = .ok (.ireturn, 1) := by decide +kernel
theorem dL_law_1177 : decode cL_law 1177 = .ok (.aload_n 1, 1) := by decide +kernel
theorem dL_law_1178 : decode cL_law 1178 = .ok (.aload_n 0, 1) := by decide +kernel
theorem dL_law_1179 : decode cL_law 1179 = .ok (.iload_n 3, 1) := by decide +kernel
theorem dL_law_1180 : decode cL_law 1180 = .ok (.iconst 1, 1) := by decide +kernel
theorem dL_law_1181 : decode cL_law 1181 = .ok (.iadd, 1) := by decide +kernel
theorem dL_law_1182 : decode cL_law 1182 = .ok (.iaload, 1) := by decide +kernel
theorem dL_law_1183 : decode cL_law 1183 = .ok (.aload_n 0, 1) := by decide +kernel
theorem dL_law_1184 : decode cL_law 1184 = .ok (.iload_n 3, 1) := by decide +kernel
theorem dL_law_1185 : decode cL_law 1185 = .ok (.iconst 2, 1) := by decide +kernel
theorem dL_law_1186 : decode cL_law 1186 = .ok (.iadd, 1) := by decide +kernel
theorem dL_law_1187 : decode cL_law 1187 = .ok (.iaload, 1) := by decide +kernel
theorem dL_law_1188 : decode cL_law 1188 = .ok (.aload_n 0, 1) := by decide +kernel
theorem dL_law_1189 : decode cL_law 1189 = .ok (.iload_n 3, 1) := by decide +kernel
theorem dL_law_1190 : decode cL_law 1190 = .ok (.iconst 3, 1) := by decide +kernel
theorem dL_law_1191 : decode cL_law 1191 = .ok (.iadd, 1) := by decide +kernel
theorem dL_law_1192 : decode cL_law 1192 = .ok (.iaload, 1) := by decide +kernel
theorem dL_law_1193 : decode cL_law 1193 = .ok (.invokevirtual 151, 3) := by decide +kernel
theorem dL_law_1196 : decode cL_law 1196 = .ok (.aload_n 2, 1) := by decide +kernel
theorem dL_law_1197 : decode cL_law 1197 = .ok (.aload_n 0, 1) := by decide +kernel
theorem dL_law_1198 : decode cL_law 1198 = .ok (.iload_n 3, 1) := by decide +kernel
theorem dL_law_1199 : decode cL_law 1199 = .ok (.iconst 1, 1) := by decide +kernel
theorem dL_law_1200 : decode cL_law 1200 = .ok (.iadd, 1) := by decide +kernel
theorem dL_law_1201 : decode cL_law 1201 = .ok (.iaload, 1) := by decide +kernel
theorem dL_law_1202 : decode cL_law 1202 = .ok (.aload_n 0, 1) := by decide +kernel
theorem dL_law_1203 : decode cL_law 1203 = .ok (.iload_n 3, 1) := by decide +kernel
theorem dL_law_1204 : decode cL_law 1204 = .ok (.iconst 2, 1) := by decide +kernel
theorem dL_law_1205 : decode cL_law 1205 = .ok (.iadd, 1) := by decide +kernel
theorem dL_law_1206 : decode cL_law 1206 = .ok (.iaload, 1) := by decide +kernel
theorem dL_law_1207 : decode cL_law 1207 = .ok (.aload_n 0, 1) := by decide +kernel
theorem dL_law_1208 : decode cL_law 1208 = .ok (.iload_n 3, 1) := by decide +kernel
theorem dL_law_1209 : decode cL_law 1209 = .ok (.iconst 3, 1) := by decide +kernel
theorem dL_law_1210 : decode cL_law 1210 = .ok (.iadd, 1) := by decide +kernel
theorem dL_law_1211 : decode cL_law 1211 = .ok (.iaload, 1) := by decide +kernel
theorem dL_law_1212 : decode cL_law 1212 = .ok (.invokevirtual 154, 3) := by decide +kernel
theorem dL_law_1215 : decode cL_law 1215 = .ok (.if_icmp .eq 94, 3) := by decide +kernel
theorem dL_law_1218 : decode cL_law 1218 = .ok (.iconst 0, 1) := by decide +kernel
theorem dL_law_1219 : decode cL_law 1219 = .ok (.ireturn, 1) := by decide +kernel
theorem dL_law_1220 : decode cL_law 1220 = .ok (.aload_n 1, 1) := by decide +kernel
theorem dL_law_1221 : decode cL_law 1221 = .ok (.aload_n 0, 1) := by decide +kernel
theorem dL_law_1222 : decode cL_law 1222 = .ok (.iload_n 3, 1) := by decide +kernel
theorem dL_law_1223 : decode cL_law 1223 = .ok (.iconst 1, 1) := by decide +kernel
theorem dL_law_1224 : decode cL_law 1224 = .ok (.iadd, 1) := by decide +kernel
theorem dL_law_1225 : decode cL_law 1225 = .ok (.iaload, 1) := by decide +kernel
theorem dL_law_1226 : decode cL_law 1226 = .ok (.aload_n 0, 1) := by decide +kernel
theorem dL_law_1227 : decode cL_law 1227 = .ok (.iload_n 3, 1) := by decide +kernel
theorem dL_law_1228 : decode cL_law 1228 = .ok (.iconst 2, 1) := by decide +kernel
theorem dL_law_1229 : decode cL_law 1229 = .ok (.iadd, 1) := by decide +kernel
theorem dL_law_1230 : decode cL_law 1230 = .ok (.iaload, 1) := by decide +kernel
theorem dL_law_1231 : decode cL_law 1231 = .ok (.aload_n 0, 1) := by decide +kernel
theorem dL_law_1232 : decode cL_law 1232 = .ok (.iload_n 3, 1) := by decide +kernel
theorem dL_law_1233 : decode cL_law 1233 = .ok (.iconst 3, 1) := by decide +kernel
theorem dL_law_1234 : decode cL_law 1234 = .ok (.iadd, 1) := by decide +kernel
theorem dL_law_1235 : decode cL_law 1235 = .ok (.iaload, 1) := by decide +kernel
theorem dL_law_1236 : decode cL_law 1236 = .ok (.aload_n 0, 1) := by decide +kernel
theorem dL_law_1237 : decode cL_law 1237 = .ok (.iload_n 3, 1) := by decide +kernel
theorem dL_law_1238 : decode cL_law 1238 = .ok (.iconst 4, 1) := by decide +kernel
theorem dL_law_1239 : decode cL_law 1239 = .ok (.iadd, 1) := by decide +kernel
theorem dL_law_1240 : decode cL_law 1240 = .ok (.iaload, 1) := by decide +kernel
theorem dL_law_1241 : decode cL_law 1241 = .ok (.invokevirtual 155, 3) := by decide +kernel
theorem dL_law_1244 : decode cL_law 1244 = .ok (.aload_n 2, 1) := by decide +kernel
theorem dL_law_1245 : decode cL_law 1245 = .ok (.aload_n 0, 1) := by decide +kernel
theorem dL_law_1246 : decode cL_law 1246 = .ok (.iload_n 3, 1) := by decide +kernel
theorem dL_law_1247 : decode cL_law 1247 = .ok (.iconst 1, 1) := by decide +kernel
theorem dL_law_1248 : decode cL_law 1248 = .ok (.iadd, 1) := by decide +kernel
theorem dL_law_1249 : decode cL_law 1249 = .ok (.iaload, 1) := by decide +kernel
theorem dL_law_1250 : decode cL_law 1250 = .ok (.aload_n 0, 1) := by decide +kernel
theorem dL_law_1251 : decode cL_law 1251 = .ok (.iload_n 3, 1) := by decide +kernel
theorem dL_law_1252 : decode cL_law 1252 = .ok (.iconst 2, 1) := by decide +kernel
theorem dL_law_1253 : decode cL_law 1253 = .ok (.iadd, 1) := by decide +kernel
theorem dL_law_1254 : decode cL_law 1254 = .ok (.iaload, 1) := by decide +kernel
theorem dL_law_1255 : decode cL_law 1255 = .ok (.aload_n 0, 1) := by decide +kernel
theorem dL_law_1256 : decode cL_law 1256 = .ok (.iload_n 3, 1) := by decide +kernel
theorem dL_law_1257 : decode cL_law 1257 = .ok (.iconst 3, 1) := by decide +kernel
theorem dL_law_1258 : decode cL_law 1258 = .ok (.iadd, 1) := by decide +kernel
theorem dL_law_1259 : decode cL_law 1259 = .ok (.iaload, 1) := by decide +kernel
theorem dL_law_1260 : decode cL_law 1260 = .ok (.aload_n 0, 1) := by decide +kernel
theorem dL_law_1261 : decode cL_law 1261 = .ok (.iload_n 3, 1) := by decide +kernel
theorem dL_law_1262 : decode cL_law 1262 = .ok (.iconst 4, 1) := by decide +kernel
theorem dL_law_1263 : decode cL_law 1263 = .ok (.iadd, 1) := by decide +kernel
theorem dL_law_1264 : decode cL_law 1264 = .ok (.iaload, 1) := by decide +kernel
theorem dL_law_1265 : decode cL_law 1265 = .ok (.invokevirtual 159, 3) := by decide +kernel
theorem dL_law_1268 : decode cL_law 1268 = .ok (.if_icmp .eq 41, 3) := by decide +kernel
theorem dL_law_1271 : decode cL_law 1271 = .ok (.iconst 0, 1) := by decide +kernel
theorem dL_law_1272 : decode cL_law 1272 = .ok (.ireturn, 1) := by decide +kernel
theorem dL_law_1273 : decode cL_law 1273 = .ok (.aload_n 1, 1) := by decide +kernel
theorem dL_law_1274 : decode cL_law 1274 = .ok (.invokevirtual 160, 3) := by decide +kernel
theorem dL_law_1277 : decode cL_law 1277 = .ok (.aload_n 2, 1) := by decide +kernel
theorem dL_law_1278 : decode cL_law 1278 = .ok (.invokevirtual 163, 3) := by decide +kernel
theorem dL_law_1281 : decode cL_law 1281 = .ok (.if_icmp .eq 28, 3) := by decide +kernel
theorem dL_law_1284 : decode cL_law 1284 = .ok (.iconst 0, 1) := by decide +kernel
theorem dL_law_1285 : decode cL_law 1285 = .ok (.ireturn, 1) := by decide +kernel
theorem dL_law_1286 : decode cL_law 1286 = .ok (.aload_n 1, 1) := by decide +kernel
theorem dL_law_1287 : decode cL_law 1287 = .ok (.aload_n 0, 1) := by decide +kernel
theorem dL_law_1288 : decode cL_law 1288 = .ok (.iload_n 3, 1) := by decide +kernel
theorem dL_law_1289 : decode cL_law 1289 = .ok (.iconst 1, 1) := by decide +kernel
theorem dL_law_1290 : decode cL_law 1290 = .ok (.iadd, 1) := by decide +kernel
theorem dL_law_1291 : decode cL_law 1291 = .ok (.iaload, 1) := by decide +kernel
theorem dL_law_1292 : decode cL_law 1292 = .ok (.invokevirtual 164, 3) := by decide +kernel
theorem dL_law_1295 : decode cL_law 1295 = .ok (.aload_n 2, 1) := by decide +kernel
theorem dL_law_1296 : decode cL_law 1296 = .ok (.aload_n 0, 1) := by decide +kernel
theorem dL_law_1297 : decode cL_law 1297 = .ok (.iload_n 3, 1) := by decide +kernel
theorem dL_law_1298 : decode cL_law 1298 = .ok (.iconst 1, 1) := by decide +kernel
theorem dL_law_1299 : decode cL_law 1299 = .ok (.iadd, 1) := by decide +kernel
theorem dL_law_1300 : decode cL_law 1300 = .ok (.iaload, 1) := by decide +kernel
theorem dL_law_1301 : decode cL_law 1301 = .ok (.invokevirtual 167, 3) := by decide +kernel
theorem dL_law_1304 : decode cL_law 1304 = .ok (.if_icmp .eq 5, 3) := by decide +kernel
theorem dL_law_1307 : decode cL_law 1307 = .ok (.iconst 0, 1) := by decide +kernel
theorem dL_law_1308 : decode cL_law 1308 = .ok (.ireturn, 1) := by decide +kernel
theorem dL_law_1309 : decode cL_law 1309 = .ok (.iinc 3 5, 3) := by decide +kernel
theorem dL_law_1312 : decode cL_law 1312 = .ok (.goto (-1294), 3) := by decide +kernel
theorem dL_law_1315 : decode cL_law 1315 = .ok (.iconst 1, 1) := by decide +kernel
theorem dL_law_1316 : decode cL_law 1316 = .ok (.ireturn, 1) := by decide +kernel
