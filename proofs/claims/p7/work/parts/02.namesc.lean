def wsL_law_r13 : List Cond := [Cond.methodLink RX7 101 yX7_passSign, Cond.instanceMethod yX7_passSign, Cond.selects RX7 yX7_passSign yX7_passSign, Cond.code yX7_passSign cX7_passSign 1 none, Cond.methodLink RX7 47 yX7_isItem, Cond.instanceMethod yX7_isItem, Cond.selects RX7 yX7_isItem yX7_isItem, Cond.code yX7_isItem cX7_isItem 4 (some .boolean), Cond.methodLink RX7 54 yX7_wordHere, Cond.instanceMethod yX7_wordHere, Cond.selects RX7 yX7_wordHere yX7_wordHere, Cond.code yX7_wordHere cX7_wordHere 1 (some .int), Cond.methodLink RX7 67 yX7_isWord, Cond.instanceMethod yX7_isWord, Cond.selects RX7 yX7_isWord yX7_isWord, Cond.code yX7_isWord cX7_isWord 3 (some .boolean), Cond.methodLink RX7 77 yJ0_length_8abf5, Cond.instanceMethod yJ0_length_8abf5, Cond.selects RJ0 yJ0_length_8abf5 yJ0_length_8abf5, Cond.initialized RJ0, Cond.code yJ0_length_8abf5 cJ0_length_8abf5 1 (some .int), Cond.fieldLink RJ0 9 "java/lang/String" "value" "[B", Cond.methodLink RJ0 335 yJ0_coder_7d493, Cond.instanceMethod yJ0_coder_7d493]
def wsL_law_r14 : List Cond := [Cond.selects RJ0 yJ0_coder_7d493 yJ0_coder_7d493, Cond.code yJ0_coder_7d493 cJ0_coder_7d493 1 (some .byte), Cond.fieldLink RJ0 38 "java/lang/String" "COMPACT_STRINGS" "Z", Cond.fieldLink RJ0 15 "java/lang/String" "coder" "B", Cond.methodLink RX7 81 yJ0_charAt_5068e, Cond.instanceMethod yJ0_charAt_5068e, Cond.selects RJ0 yJ0_charAt_5068e yJ0_charAt_5068e, Cond.code yJ0_charAt_5068e cJ0_charAt_5068e 2 (some .char), Cond.methodLink RJ0 492 yJ0_isLatin1_aae02, Cond.instanceMethod yJ0_isLatin1_aae02, Cond.selects RJ0 yJ0_isLatin1_aae02 yJ0_isLatin1_aae02, Cond.code yJ0_isLatin1_aae02 cJ0_isLatin1_aae02 1 (some .boolean), Cond.methodLink RJ0 495 yJ1_charAt_3b067, Cond.static yJ1_charAt_3b067, Cond.initialized RJ1, Cond.code yJ1_charAt_3b067 cJ1_charAt_3b067 2 (some .char), Cond.methodLink RJ1 9 yJ0_checkIndex_df160, Cond.static yJ0_checkIndex_df160, Cond.code yJ0_checkIndex_df160 cJ0_checkIndex_df160 2 none, Cond.fieldLink RJ0 1053 "jdk/internal/util/Preconditions" "SIOOBE_FORMATTER" "Ljava/util/function/BiFunction;", Cond.methodLink RJ0 1059 yJ3_checkIndex_8e157, Cond.static yJ3_checkIndex_8e157, Cond.initialized RJ3, Cond.code yJ3_checkIndex_8e157 cJ3_checkIndex_8e157 3 (some .int)]
def wsL_law_r15 : List Cond := [Cond.methodLink RJ0 498 yJ2_charAt_3b067, Cond.static yJ2_charAt_3b067, Cond.initialized RJ2, Cond.code yJ2_charAt_3b067 cJ2_charAt_3b067 2 (some .char), Cond.methodLink RJ2 67 yJ2_checkIndex_2214a, Cond.static yJ2_checkIndex_2214a, Cond.code yJ2_checkIndex_2214a cJ2_checkIndex_2214a 2 none, Cond.methodLink RJ2 48 yJ2_length_9d52b, Cond.static yJ2_length_9d52b, Cond.code yJ2_length_9d52b cJ2_length_9d52b 1 (some .int), Cond.methodLink RJ2 414 yJ0_checkIndex_df160, Cond.methodLink RJ2 71 yJ2_getChar_3b067, Cond.static yJ2_getChar_3b067, Cond.code yJ2_getChar_3b067 cJ2_getChar_3b067 2 (some .char), Cond.fieldLink RJ2 44 "java/lang/StringUTF16" "$assertionsDisabled" "Z", Cond.fieldLink RJ2 59 "java/lang/StringUTF16" "HI_BYTE_SHIFT" "I", Cond.fieldLink RJ2 63 "java/lang/StringUTF16" "LO_BYTE_SHIFT" "I", Cond.methodLink RX7 58 yX7_takes, Cond.instanceMethod yX7_takes, Cond.selects RX7 yX7_takes yX7_takes, Cond.code yX7_takes cX7_takes 5 (some .boolean), Cond.methodLink RX10 143 yX4_gather, Cond.instanceMethod yX4_gather, Cond.selects RX4 yX4_gather yX4_gather]
def wsL_law_r16 : List Cond := [Cond.code yX4_gather cX4_gather 6 (some .int), Cond.methodLink RX4 103 yX4_share, Cond.instanceMethod yX4_share, Cond.selects RX4 yX4_share yX4_share, Cond.code yX4_share cX4_share 4 (some .int), Cond.methodLink RX4 95 yX4_crowd, Cond.instanceMethod yX4_crowd, Cond.selects RX4 yX4_crowd yX4_crowd, Cond.code yX4_crowd cX4_crowd 5 (some .int), Cond.methodLink RX4 99 yX4_shows, Cond.instanceMethod yX4_shows, Cond.selects RX4 yX4_shows yX4_shows, Cond.code yX4_shows cX4_shows 4 (some .int), Cond.methodLink RX4 89 ⟨"GleanDusk$Plain", "sight", "(III)I"⟩, Cond.sameMethod "GleanDusk$Plain" "GleanDusk$Plain" "sight" "(III)I", Cond.instanceMethod ⟨"GleanDusk$Plain", "sight", "(III)I"⟩, Cond.selects RX2 ⟨"GleanDusk$Plain", "sight", "(III)I"⟩ yX2_sight, Cond.instanceMethod yX2_sight, Cond.code yX2_sight cX2_sight 4 (some .int), Cond.methodLink RX2 7 Lib.Math.max.name, Cond.static Lib.Math.max.name, Cond.initialized "java/lang/Math", Cond.code Lib.Math.max.name Lib.Math.max.code 2 (some .int), Cond.methodLink RX2 13 yX8_sight]
def wsL_law_r17 : List Cond := [Cond.sameMethod "GleanDusk$West" "GleanDusk$West" "sight" "(III)I", Cond.superclass RX2 RX8, Cond.instanceMethod yX8_sight, Cond.code yX8_sight cX8_sight 5 (some .int), Cond.methodLink RX8 7 yX5_sight, Cond.superclass RX8 RX5, Cond.instanceMethod yX5_sight, Cond.code yX5_sight cX5_sight 4 (some .int), Cond.methodLink RX5 7 Lib.Math.max.name, Cond.selects RX3 ⟨"GleanDusk$Plain", "sight", "(III)I"⟩ yX3_sight, Cond.instanceMethod yX3_sight, Cond.code yX3_sight cX3_sight 4 (some .int), Cond.methodLink RX3 7 yX9_sight, Cond.sameMethod "GleanDusk$Wood" "GleanDusk$Wood" "sight" "(III)I", Cond.superclass RX3 RX9, Cond.instanceMethod yX9_sight, Cond.code yX9_sight cX9_sight 4 (some .int), Cond.methodLink RX9 7 yX5_sight, Cond.superclass RX9 RX5, Cond.methodLink RX4 89 yX5_sight, Cond.selects RX5 yX5_sight yX5_sight, Cond.selects RX6 ⟨"GleanDusk$Plain", "sight", "(III)I"⟩ yX6_sight, Cond.instanceMethod yX6_sight, Cond.code yX6_sight cX6_sight 4 (some .int)]
def wsL_law_r18 : List Cond := [Cond.methodLink RX6 11 Lib.Math.min.name, Cond.static Lib.Math.min.name, Cond.code Lib.Math.min.name Lib.Math.min.code 2 (some .int), Cond.methodLink RX6 7 yX5_sight, Cond.superclass RX6 RX5, Cond.selects RX8 ⟨"GleanDusk$Plain", "sight", "(III)I"⟩ yX8_sight, Cond.selects RX9 ⟨"GleanDusk$Plain", "sight", "(III)I"⟩ yX9_sight, Cond.methodLink RX4 106 yX4_give, Cond.instanceMethod yX4_give, Cond.selects RX4 yX4_give yX4_give, Cond.code yX4_give cX4_give 6 (some .int), Cond.methodLink RX4 109 Lib.Math.min.name, Cond.methodLink RX4 115 Lib.Math.max.name, Cond.methodLink RL 39 yX11_read, Cond.instanceMethod yX11_read, Cond.selects RX11 yX11_read yX11_read, Cond.code yX11_read cX11_read 3 (some .int), Cond.fieldLink RX11 222 "GleanDuskModel" "tokenAt" "I", Cond.fieldLink RX11 228 "GleanDuskModel" "token" "I", Cond.methodLink RX11 240 yX11_lookAt, Cond.instanceMethod yX11_lookAt, Cond.selects RX11 yX11_lookAt yX11_lookAt, Cond.code yX11_lookAt cX11_lookAt 5 none, Cond.fieldLink RX11 225 "GleanDuskModel" "tokenLong" "I"]
def wsL_law_r19 : List Cond := [Cond.fieldLink RX11 231 "GleanDuskModel" "value" "I", Cond.methodLink RX11 234 yX11_isSmall, Cond.static yX11_isSmall, Cond.code yX11_isSmall cX11_isSmall 1 (some .boolean), Cond.constantLong RX11 214 (97), Cond.constantLong RX11 216 (122), Cond.methodLink RX11 237 yX11_isFigure, Cond.static yX11_isFigure, Cond.code yX11_isFigure cX11_isFigure 1 (some .boolean), Cond.constantLong RX11 218 (48), Cond.constantLong RX11 220 (57), Cond.methodLink RX11 268 yX11_takesParish, Cond.instanceMethod yX11_takesParish, Cond.selects RX11 yX11_takesParish yX11_takesParish, Cond.code yX11_takesParish cX11_takesParish 1 (some .boolean), Cond.methodLink RX11 247 yX11_spells, Cond.instanceMethod yX11_spells, Cond.selects RX11 yX11_spells yX11_spells, Cond.code yX11_spells cX11_spells 10 (some .boolean), Cond.methodLink RX11 244 yX11_goBehind, Cond.instanceMethod yX11_goBehind, Cond.selects RX11 yX11_goBehind yX11_goBehind, Cond.code yX11_goBehind cX11_goBehind 1 none, Cond.methodLink RX11 251 yX11_takes]
def wsL_law_r20 : List Cond := [Cond.instanceMethod yX11_takes, Cond.selects RX11 yX11_takes yX11_takes, Cond.code yX11_takes cX11_takes 4 (some .boolean), Cond.methodLink RX11 271 yX11_takesItem, Cond.instanceMethod yX11_takesItem, Cond.selects RX11 yX11_takesItem yX11_takesItem, Cond.code yX11_takesItem cX11_takesItem 1 (some .boolean), Cond.methodLink RX11 255 yX11_takesField, Cond.instanceMethod yX11_takesField, Cond.selects RX11 yX11_takesField yX11_takesField, Cond.code yX11_takesField cX11_takesField 1 (some .boolean), Cond.methodLink RX11 259 yX11_takesGlean, Cond.instanceMethod yX11_takesGlean, Cond.selects RX11 yX11_takesGlean yX11_takesGlean, Cond.code yX11_takesGlean cX11_takesGlean 3 (some .boolean), Cond.methodLink RX11 125 yX11_goStep, Cond.static yX11_goStep, Cond.code yX11_goStep cX11_goStep 7 (some .int), Cond.methodLink RX11 110 yX11_manyOn, Cond.static yX11_manyOn, Cond.code yX11_manyOn cX11_manyOn 4 (some .int), Cond.methodLink RX11 106 yX11_seenOn, Cond.static yX11_seenOn, Cond.code yX11_seenOn cX11_seenOn 3 (some .int)]
def wsL_law_r21 : List Cond := [Cond.methodLink RX11 102 yX11_seenAs, Cond.static yX11_seenAs, Cond.code yX11_seenAs cX11_seenAs 5 (some .int), Cond.methodLink RX11 95 yX11_plainly, Cond.static yX11_plainly, Cond.code yX11_plainly cX11_plainly 4 (some .int), Cond.methodLink RX11 99 yX11_westerly, Cond.static yX11_westerly, Cond.code yX11_westerly cX11_westerly 3 (some .int), Cond.methodLink RX11 262 yX11_isGleanerWord, Cond.instanceMethod yX11_isGleanerWord, Cond.selects RX11 yX11_isGleanerWord yX11_isGleanerWord, Cond.code yX11_isGleanerWord cX11_isGleanerWord 3 (some .boolean), Cond.methodLink RX11 265 yX11_takesGleaner, Cond.instanceMethod yX11_takesGleaner, Cond.selects RX11 yX11_takesGleaner yX11_takesGleaner, Cond.code yX11_takesGleaner cX11_takesGleaner 1 (some .boolean), Cond.methodLink RL 40 yX10_glean, Cond.instanceMethod yX10_glean, Cond.selects RX10 yX10_glean yX10_glean, Cond.code yX10_glean cX10_glean 2 (some .int), Cond.fieldLink RX10 151 "GleanDusk$Dusk" "step" "I", Cond.methodLink RX10 154 yX10_refuseNo, Cond.instanceMethod yX10_refuseNo]
def wsL_law_r22 : List Cond := [Cond.selects RX10 yX10_refuseNo yX10_refuseNo, Cond.code yX10_refuseNo cX10_refuseNo 1 (some .int), Cond.methodLink RX10 157 yX4_remember, Cond.instanceMethod yX4_remember, Cond.selects RX4 yX4_remember yX4_remember, Cond.code yX4_remember cX4_remember 1 none, Cond.methodLink RX4 86 yX4_dropOldest, Cond.instanceMethod yX4_dropOldest, Cond.selects RX4 yX4_dropOldest yX4_dropOldest, Cond.code yX4_dropOldest cX4_dropOldest 3 none, Cond.methodLink RX4 69 yX1_become, Cond.instanceMethod yX1_become, Cond.selects RX1 yX1_become yX1_become, Cond.code yX1_become cX1_become 2 none, Cond.methodLink RX1 21 arraycopyName, Cond.native arraycopyName, Cond.static arraycopyName, Cond.initialized "java/lang/System", Cond.fieldLink RX1 27 "GleanDusk$Dusk" "step" "I", Cond.fieldLink RX1 31 "GleanDusk$Dusk" "cloud" "I", Cond.fieldLink RX1 34 "GleanDusk$Dusk" "number" "I", Cond.methodLink RL 43 yX11_glean, Cond.instanceMethod yX11_glean, Cond.selects RX11 yX11_glean yX11_glean]
def wsL_law_r23 : List Cond := [Cond.code yX11_glean cX11_glean 4 (some .int), Cond.constantLong RX11 117 (12), Cond.methodLink RX11 119 yX11_no, Cond.instanceMethod yX11_no, Cond.selects RX11 yX11_no yX11_no, Cond.code yX11_no cX11_no 1 (some .int), Cond.methodLink RX11 122 yX11_keep, Cond.instanceMethod yX11_keep, Cond.selects RX11 yX11_keep yX11_keep, Cond.code yX11_keep cX11_keep 2 none, Cond.methodLink RL 44 yX10_night, Cond.instanceMethod yX10_night, Cond.selects RX10 yX10_night yX10_night, Cond.code yX10_night cX10_night 1 (some .int), Cond.fieldLink RX10 164 "GleanDusk$Dusk" "number" "I", Cond.methodLink RX10 160 yX4_fade, Cond.instanceMethod yX4_fade, Cond.selects RX4 yX4_fade yX4_fade, Cond.code yX4_fade cX4_fade 3 none, Cond.static yX10_faded, Cond.code yX10_faded cX10_faded 1 (some .int), Cond.methodLink RL 47 yX11_night, Cond.instanceMethod yX11_night, Cond.selects RX11 yX11_night yX11_night]
def wsL_law_r24 : List Cond := [Cond.code yX11_night cX11_night 1 (some .int), Cond.methodLink RX11 129 yX11_goNight, Cond.static yX11_goNight, Cond.code yX11_goNight cX11_goNight 3 none, Cond.methodLink RX11 114 yX11_fadedBy, Cond.static yX11_fadedBy, Cond.code yX11_fadedBy cX11_fadedBy 1 (some .int), Cond.methodLink RL 48 yX10_goes, Cond.instanceMethod yX10_goes, Cond.selects RX10 yX10_goes yX10_goes, Cond.code yX10_goes cX10_goes 4 (some .int), Cond.fieldLink RX10 170 "GleanDusk$Dusk" "at" "[I", Cond.methodLink RX10 167 yX4_hasGleaner, Cond.instanceMethod yX4_hasGleaner, Cond.selects RX4 yX4_hasGleaner yX4_hasGleaner, Cond.code yX4_hasGleaner cX4_hasGleaner 2 (some .boolean), Cond.methodLink RL 51 yX11_goes, Cond.instanceMethod yX11_goes, Cond.selects RX11 yX11_goes yX11_goes, Cond.code yX11_goes cX11_goes 4 (some .int), Cond.methodLink RX11 133 yX11_isGleaner, Cond.instanceMethod yX11_isGleaner, Cond.selects RX11 yX11_isGleaner yX11_isGleaner, Cond.code yX11_isGleaner cX11_isGleaner 2 (some .boolean)]
def wsL_law_r25 : List Cond := [Cond.methodLink RL 52 yX10_cloud, Cond.instanceMethod yX10_cloud, Cond.selects RX10 yX10_cloud yX10_cloud, Cond.code yX10_cloud cX10_cloud 3 (some .int), Cond.fieldLink RX10 173 "GleanDusk$Dusk" "cloud" "I", Cond.methodLink RL 55 yX11_cloud, Cond.instanceMethod yX11_cloud, Cond.selects RX11 yX11_cloud yX11_cloud, Cond.code yX11_cloud cX11_cloud 3 (some .int), Cond.methodLink RL 56 yX10_undo, Cond.instanceMethod yX10_undo, Cond.selects RX10 yX10_undo yX10_undo, Cond.code yX10_undo cX10_undo 1 (some .int), Cond.fieldLink RX10 176 "GleanDusk$Parish" "undoable" "I", Cond.methodLink RX10 179 yX4_goBack, Cond.instanceMethod yX4_goBack, Cond.selects RX4 yX4_goBack yX4_goBack, Cond.code yX4_goBack cX4_goBack 1 none, Cond.methodLink RL 59 yX11_undo, Cond.instanceMethod yX11_undo, Cond.selects RX11 yX11_undo yX11_undo, Cond.code yX11_undo cX11_undo 2 (some .int), Cond.methodLink RL 60 yX10_of, Cond.instanceMethod yX10_of]
def wsL_law_r26 : List Cond := [Cond.selects RX10 yX10_of yX10_of, Cond.code yX10_of cX10_of 3 (some .int), Cond.fieldLink RX10 182 "GleanDusk$Parish" "kind" "[I", Cond.fieldLink RX10 185 "GleanDusk$Dusk" "light" "[I", Cond.methodLink RX10 188 yX4_whoIsOn, Cond.instanceMethod yX4_whoIsOn, Cond.selects RX4 yX4_whoIsOn yX4_whoIsOn, Cond.code yX4_whoIsOn cX4_whoIsOn 4 (some .int), Cond.methodLink RL 63 yX11_of, Cond.instanceMethod yX11_of, Cond.selects RX11 yX11_of yX11_of, Cond.code yX11_of cX11_of 3 (some .int), Cond.constantLong RX11 136 (2), Cond.methodLink RX11 138 yX11_whoIsOn, Cond.instanceMethod yX11_whoIsOn, Cond.selects RX11 yX11_whoIsOn yX11_whoIsOn, Cond.code yX11_whoIsOn cX11_whoIsOn 4 (some .int), Cond.methodLink RL 64 yX10_about, Cond.instanceMethod yX10_about, Cond.selects RX10 yX10_about yX10_about, Cond.code yX10_about cX10_about 3 (some .int), Cond.fieldLink RX10 191 "GleanDusk$Dusk" "store" "[I", Cond.methodLink RX10 194 yX4_share, Cond.methodLink RL 67 yX11_about]
def wsL_law_r27 : List Cond := [Cond.instanceMethod yX11_about, Cond.selects RX11 yX11_about yX11_about, Cond.code yX11_about cX11_about 3 (some .int), Cond.methodLink RX11 141 yX11_getsOne, Cond.static yX11_getsOne, Cond.code yX11_getsOne cX11_getsOne 2 (some .int), Cond.methodLink RL 68 yX10_seen, Cond.instanceMethod yX10_seen, Cond.selects RX10 yX10_seen yX10_seen, Cond.code yX10_seen cX10_seen 3 (some .int), Cond.methodLink RX10 197 yX4_shows, Cond.methodLink RL 71 yX11_seen, Cond.instanceMethod yX11_seen, Cond.selects RX11 yX11_seen yX11_seen, Cond.code yX11_seen cX11_seen 3 (some .int), Cond.methodLink RX11 144 yX11_isStep, Cond.static yX11_isStep, Cond.code yX11_isStep cX11_isStep 1 (some .boolean), Cond.constantLong RX11 63 (11), Cond.methodLink RL 72 yX10_then, Cond.instanceMethod yX10_then, Cond.selects RX10 yX10_then yX10_then, Cond.code yX10_then cX10_then 3 (some .int), Cond.methodLink RX10 204 Lib.Math.min.name]
def wsL_law_r28 : List Cond := [Cond.methodLink RX10 201 yX1_become, Cond.methodLink RL 75 yX11_then, Cond.instanceMethod yX11_then, Cond.selects RX11 yX11_then yX11_then, Cond.code yX11_then cX11_then 5 (some .int), Cond.methodLink RX11 147 yX11_layHand, Cond.instanceMethod yX11_layHand, Cond.selects RX11 yX11_layHand yX11_layHand, Cond.code yX11_layHand cX11_layHand 2 none, Cond.methodLink RL 76 yX10_round, Cond.instanceMethod yX10_round, Cond.selects RX10 yX10_round yX10_round, Cond.code yX10_round cX10_round 4 (some .int), Cond.fieldLink RX10 218 "GleanDusk$Best" "most" "I", Cond.fieldLink RX10 221 "GleanDusk$Best" "first" "[I", Cond.methodLink RX10 209 yX10_refuseTen, Cond.instanceMethod yX10_refuseTen, Cond.selects RX10 yX10_refuseTen yX10_refuseTen, Cond.code yX10_refuseTen cX10_refuseTen 1 (some .int), Cond.methodLink RX10 212 yX0_begin, Cond.instanceMethod yX0_begin, Cond.selects RX0 yX0_begin yX0_begin, Cond.code yX0_begin cX0_begin 1 none, Cond.fieldLink RX0 18 "GleanDusk$Best" "most" "I"]
def wsL_law_r29 : List Cond := [Cond.methodLink RX10 214 yX10_roam, Cond.instanceMethod yX10_roam, Cond.selects RX10 yX10_roam yX10_roam, Cond.code yX10_roam cX10_roam 6 none, Cond.fieldLink RX10 309 "GleanDusk$Best" "row" "[I", Cond.methodLink RX10 305 yX0_offer, Cond.instanceMethod yX0_offer, Cond.selects RX0 yX0_offer yX0_offer, Cond.code yX0_offer cX0_offer 3 none, Cond.methodLink RX0 22 Lib.Math.min.name, Cond.methodLink RX0 28 arraycopyName, Cond.methodLink RX10 312 yX10_stay, Cond.instanceMethod yX10_stay, Cond.selects RX10 yX10_stay yX10_stay, Cond.code yX10_stay cX10_stay 7 none, Cond.methodLink RX10 315 Lib.Math.max.name, Cond.methodLink RL 80 yX11_round, Cond.instanceMethod yX11_round, Cond.selects RX11 yX11_round yX11_round, Cond.code yX11_round cX11_round 8 (some .int), Cond.constantLong RX11 153 (6), Cond.methodLink RX11 150 yX11_powerOfThree, Cond.static yX11_powerOfThree, Cond.code yX11_powerOfThree cX11_powerOfThree 3 (some .int)]
def wsL_law_r30 : List Cond := [Cond.methodLink RX11 155 yX11_roundBy, Cond.instanceMethod yX11_roundBy, Cond.selects RX11 yX11_roundBy yX11_roundBy, Cond.code yX11_roundBy cX11_roundBy 10 (some .int), Cond.methodLink RL 81 yX10_places, Cond.instanceMethod yX10_places, Cond.selects RX10 yX10_places yX10_places, Cond.code yX10_places cX10_places 3 (some .int), Cond.methodLink RX10 222 yX10_showAll, Cond.instanceMethod yX10_showAll, Cond.selects RX10 yX10_showAll yX10_showAll, Cond.code yX10_showAll cX10_showAll 3 none, Cond.methodLink RX10 225 yX10_settle, Cond.instanceMethod yX10_settle, Cond.selects RX10 yX10_settle yX10_settle, Cond.code yX10_settle cX10_settle 5 none, Cond.methodLink RX10 318 yX10_allGet, Cond.instanceMethod yX10_allGet, Cond.selects RX10 yX10_allGet yX10_allGet, Cond.code yX10_allGet cX10_allGet 3 (some .int), Cond.methodLink RX10 321 yX10_poorestGets, Cond.instanceMethod yX10_poorestGets, Cond.selects RX10 yX10_poorestGets yX10_poorestGets, Cond.code yX10_poorestGets cX10_poorestGets 3 (some .int)]
def wsL_law_r31 : List Cond := [Cond.constant RX10 324 (2147483647), Cond.methodLink RL 84 yX11_places, Cond.instanceMethod yX11_places, Cond.selects RX11 yX11_places yX11_places, Cond.code yX11_places cX11_places 8 (some .int), Cond.constantLong RX11 159 (-1), Cond.methodLink RX11 161 yX11_placesBy, Cond.instanceMethod yX11_placesBy, Cond.selects RX11 yX11_placesBy yX11_placesBy, Cond.code yX11_placesBy cX11_placesBy 8 (some .int), Cond.constant RX11 158 (1000000), Cond.methodLink RL 85 yX10_which, Cond.instanceMethod yX10_which, Cond.selects RX10 yX10_which yX10_which, Cond.code yX10_which cX10_which 4 (some .int), Cond.methodLink RL 88 yX11_which, Cond.instanceMethod yX11_which, Cond.selects RX11 yX11_which yX11_which, Cond.code yX11_which cX11_which 4 (some .int), Cond.methodLink RL 89 yX10_lasts, Cond.instanceMethod yX10_lasts, Cond.selects RX10 yX10_lasts yX10_lasts, Cond.code yX10_lasts cX10_lasts 5 (some .int), Cond.methodLink RX10 229 yX10_faded]
def wsL_law_r32 : List Cond := [Cond.methodLink RL 92 yX11_lasts, Cond.instanceMethod yX11_lasts, Cond.selects RX11 yX11_lasts yX11_lasts, Cond.code yX11_lasts cX11_lasts 5 (some .int), Cond.constantLong RX11 165 (999), Cond.methodLink RL 93 yX10_enough, Cond.instanceMethod yX10_enough, Cond.selects RX10 yX10_enough yX10_enough, Cond.code yX10_enough cX10_enough 5 (some .int), Cond.methodLink RX10 232 yJ6_bitCount_0f7a4, Cond.static yJ6_bitCount_0f7a4, Cond.initialized RJ6, Cond.code yJ6_bitCount_0f7a4 cJ6_bitCount_0f7a4 1 (some .int), Cond.constant RJ6 265 (1431655765), Cond.constant RJ6 266 (858993459), Cond.constant RJ6 267 (252645135), Cond.methodLink RX10 237 yX4_storesOf, Cond.instanceMethod yX4_storesOf, Cond.selects RX4 yX4_storesOf yX4_storesOf, Cond.code yX4_storesOf cX4_storesOf 4 (some .int), Cond.methodLink RL 96 yX11_enough, Cond.instanceMethod yX11_enough, Cond.selects RX11 yX11_enough yX11_enough, Cond.code yX11_enough cX11_enough 6 (some .int)]
def wsL_law_r33 : List Cond := [Cond.methodLink RX11 167 yX11_has, Cond.static yX11_has, Cond.code yX11_has cX11_has 2 (some .boolean), Cond.methodLink RX11 171 yX11_bits, Cond.static yX11_bits, Cond.code yX11_bits cX11_bits 3 (some .int), Cond.methodLink RL 97 yX10_missed, Cond.instanceMethod yX10_missed, Cond.selects RX10 yX10_missed yX10_missed, Cond.code yX10_missed cX10_missed 5 (some .int), Cond.fieldLink RX10 240 "GleanDusk$Parish" "missedCount" "I", Cond.methodLink RX10 243 yX4_addMissed, Cond.instanceMethod yX4_addMissed, Cond.selects RX4 yX4_addMissed yX4_addMissed, Cond.code yX4_addMissed cX4_addMissed 6 (some .int), Cond.methodLink RL 101 yX11_missed, Cond.instanceMethod yX11_missed, Cond.selects RX11 yX11_missed yX11_missed, Cond.code yX11_missed cX11_missed 6 (some .int), Cond.methodLink RL 102 yX10_clouds, Cond.instanceMethod yX10_clouds, Cond.selects RX10 yX10_clouds yX10_clouds, Cond.code yX10_clouds cX10_clouds 3 (some .int), Cond.methodLink RX10 247 yX4_missedFit]
def wsL_law_r34 : List Cond := [Cond.instanceMethod yX4_missedFit, Cond.selects RX4 yX4_missedFit yX4_missedFit, Cond.code yX4_missedFit cX4_missedFit 4 (some .boolean), Cond.methodLink RL 105 yX11_clouds, Cond.instanceMethod yX11_clouds, Cond.selects RX11 yX11_clouds yX11_clouds, Cond.code yX11_clouds cX11_clouds 6 (some .int), Cond.methodLink RL 106 yX10_note, Cond.instanceMethod yX10_note, Cond.selects RX10 yX10_note yX10_note, Cond.code yX10_note cX10_note 6 (some .int), Cond.fieldLink RX10 250 "GleanDusk$Parish" "noteCount" "I", Cond.methodLink RX10 253 yX4_addNote, Cond.instanceMethod yX4_addNote, Cond.selects RX4 yX4_addNote yX4_addNote, Cond.code yX4_addNote cX4_addNote 7 (some .int), Cond.methodLink RL 110 yX11_note, Cond.instanceMethod yX11_note, Cond.selects RX11 yX11_note yX11_note, Cond.code yX11_note cX11_note 7 (some .int), Cond.constantLong RX11 174 (99), Cond.methodLink RL 111 yX10_forget, Cond.instanceMethod yX10_forget, Cond.selects RX10 yX10_forget yX10_forget]
def wsL_law_r35 : List Cond := [Cond.code yX10_forget cX10_forget 3 (some .int), Cond.methodLink RL 114 yX11_forget, Cond.instanceMethod yX11_forget, Cond.selects RX11 yX11_forget yX11_forget, Cond.code yX11_forget cX11_forget 3 (some .int), Cond.methodLink RL 115 yX10_is, Cond.instanceMethod yX10_is, Cond.selects RX10 yX10_is yX10_is, Cond.code yX10_is cX10_is 2 (some .int), Cond.methodLink RX10 257 yX4_kindsThatFit, Cond.instanceMethod yX4_kindsThatFit, Cond.selects RX4 yX4_kindsThatFit yX4_kindsThatFit, Cond.code yX4_kindsThatFit cX4_kindsThatFit 4 (some .int), Cond.methodLink RX4 122 yX4_notesFit, Cond.instanceMethod yX4_notesFit, Cond.selects RX4 yX4_notesFit yX4_notesFit, Cond.code yX4_notesFit cX4_notesFit 5 (some .boolean), Cond.methodLink RL 118 yX11_is, Cond.instanceMethod yX11_is, Cond.selects RX11 yX11_is yX11_is, Cond.code yX11_is cX11_is 2 (some .int), Cond.methodLink RX11 176 yX11_kindsOf, Cond.instanceMethod yX11_kindsOf, Cond.selects RX11 yX11_kindsOf yX11_kindsOf]
def wsL_law_r36 : List Cond := [Cond.code yX11_kindsOf cX11_kindsOf 7 (some .int), Cond.methodLink RL 119 yX10_look, Cond.instanceMethod yX10_look, Cond.selects RX10 yX10_look yX10_look, Cond.code yX10_look cX10_look 8 (some .int), Cond.methodLink RX10 260 yX10_mostAlike, Cond.instanceMethod yX10_mostAlike, Cond.selects RX10 yX10_mostAlike yX10_mostAlike, Cond.code yX10_mostAlike cX10_mostAlike 10 (some .int), Cond.methodLink RX10 325 ⟨"GleanDusk$Plain", "sight", "(III)I"⟩, Cond.methodLink RX10 325 yX5_sight, Cond.methodLink RL 122 yX11_look, Cond.instanceMethod yX11_look, Cond.selects RX11 yX11_look yX11_look, Cond.code yX11_look cX11_look 11 (some .int), Cond.methodLink RL 123 yX10_two, Cond.instanceMethod yX10_two, Cond.selects RX10 yX10_two yX10_two, Cond.code yX10_two cX10_two 7 (some .int), Cond.methodLink RX10 263 yX10_staysPut, Cond.instanceMethod yX10_staysPut, Cond.selects RX10 yX10_staysPut yX10_staysPut, Cond.code yX10_staysPut cX10_staysPut 6 (some .boolean), Cond.methodLink RX10 329 yX10_worth]
def wsL_law_r37 : List Cond := [Cond.instanceMethod yX10_worth, Cond.selects RX10 yX10_worth yX10_worth, Cond.code yX10_worth cX10_worth 5 (some .int), Cond.methodLink RX10 332 Lib.Math.abs.name, Cond.static Lib.Math.abs.name, Cond.code Lib.Math.abs.name Lib.Math.abs.code 1 (some .int), Cond.methodLink RL 126 yX11_two, Cond.instanceMethod yX11_two, Cond.selects RX11 yX11_two yX11_two, Cond.code yX11_two cX11_two 8 (some .int), Cond.methodLink RX11 185 yX11_rests, Cond.instanceMethod yX11_rests, Cond.selects RX11 yX11_rests yX11_rests, Cond.code yX11_rests cX11_rests 7 (some .boolean), Cond.methodLink RX11 182 yX11_hasBy, Cond.instanceMethod yX11_hasBy, Cond.selects RX11 yX11_hasBy yX11_hasBy, Cond.code yX11_hasBy cX11_hasBy 5 (some .int), Cond.methodLink RX11 179 yX11_distance, Cond.static yX11_distance, Cond.code yX11_distance cX11_distance 2 (some .int), Cond.methodLink RL 127 yX10_rains, Cond.instanceMethod yX10_rains, Cond.selects RX10 yX10_rains yX10_rains]
def wsL_law_r38 : List Cond := [Cond.code yX10_rains cX10_rains 7 (some .int), Cond.methodLink RX10 266 yX10_commonDivisor, Cond.static yX10_commonDivisor, Cond.code yX10_commonDivisor cX10_commonDivisor 6 (some .int), Cond.methodLink RL 130 yX11_rains, Cond.instanceMethod yX11_rains, Cond.selects RX11 yX11_rains yX11_rains, Cond.code yX11_rains cX11_rains 3 (some .int), Cond.constantLong RX11 192 (10), Cond.methodLink RX11 194 yX11_fraction, Cond.instanceMethod yX11_fraction, Cond.selects RX11 yX11_fraction yX11_fraction, Cond.code yX11_fraction cX11_fraction 11 none, Cond.fieldLink RX11 189 "GleanDuskModel" "above" "J", Cond.methodLink RL 131 yX10_summers, Cond.instanceMethod yX10_summers, Cond.selects RX10 yX10_summers yX10_summers, Cond.code yX10_summers cX10_summers 7 (some .int), Cond.constant RX10 269 (1000000), Cond.constantLong RX10 270 (1103515245), Cond.constantLong RX10 272 (12345), Cond.constantLong RX10 274 (2147483648), Cond.constantLong RX10 276 (65536), Cond.constantLong RX10 278 (10)]
def wsL_law_r39 : List Cond := [Cond.methodLink RL 134 yX11_summers, Cond.instanceMethod yX11_summers, Cond.selects RX11 yX11_summers yX11_summers, Cond.code yX11_summers cX11_summers 7 (some .int), Cond.constantLong RX11 198 (999999), Cond.constantLong RX11 200 (1103515245), Cond.constantLong RX11 202 (12345), Cond.constantLong RX11 204 (2147483648), Cond.constantLong RX11 206 (65536), Cond.methodLink RL 135 yX10_part, Cond.instanceMethod yX10_part, Cond.selects RX10 yX10_part yX10_part, Cond.code yX10_part cX10_part 2 (some .long), Cond.methodLink RL 139 yX11_part, Cond.instanceMethod yX11_part, Cond.selects RX11 yX11_part yX11_part, Cond.code yX11_part cX11_part 2 (some .long), Cond.methodLink RL 140 yX10_image, Cond.instanceMethod yX10_image, Cond.selects RX10 yX10_image yX10_image, Cond.code yX10_image cX10_image 2 (some .int), Cond.methodLink RX10 280 yX4_become, Cond.instanceMethod yX4_become, Cond.selects RX4 yX4_become yX4_become]
def wsL_law_r40 : List Cond := [Cond.code yX4_become cX4_become 3 none, Cond.methodLink RX4 63 arraycopyName, Cond.methodLink RL 143 yX11_image, Cond.instanceMethod yX11_image, Cond.selects RX11 yX11_image yX11_image, Cond.code yX11_image cX11_image 3 (some .int), Cond.methodLink RL 144 yX10_from, Cond.instanceMethod yX10_from, Cond.selects RX10 yX10_from yX10_from, Cond.code yX10_from cX10_from 2 (some .int), Cond.methodLink RL 147 yX11_from, Cond.instanceMethod yX11_from, Cond.selects RX11 yX11_from yX11_from, Cond.code yX11_from cX11_from 3 (some .int), Cond.methodLink RL 148 yX10_status, Cond.instanceMethod yX10_status, Cond.selects RX10 yX10_status yX10_status, Cond.code yX10_status cX10_status 2 (some .int), Cond.methodLink RL 151 yX11_status, Cond.instanceMethod yX11_status, Cond.selects RX11 yX11_status yX11_status, Cond.code yX11_status cX11_status 2 (some .int), Cond.methodLink RL 152 yX10_count, Cond.instanceMethod yX10_count]
def wsL_law_r41 : List Cond := [Cond.selects RX10 yX10_count yX10_count, Cond.code yX10_count cX10_count 2 (some .int), Cond.methodLink RX10 283 yX10_howMany, Cond.instanceMethod yX10_howMany, Cond.selects RX10 yX10_howMany yX10_howMany, Cond.code yX10_howMany cX10_howMany 2 (some .int), Cond.methodLink RL 155 yX11_count, Cond.instanceMethod yX11_count, Cond.selects RX11 yX11_count yX11_count, Cond.code yX11_count cX11_count 2 (some .int), Cond.constantLong RX11 274 (8), Cond.methodLink RX11 276 yX11_counted, Cond.instanceMethod yX11_counted, Cond.selects RX11 yX11_counted yX11_counted, Cond.code yX11_counted cX11_counted 2 (some .int), Cond.methodLink RL 156 yX10_digest, Cond.instanceMethod yX10_digest, Cond.selects RX10 yX10_digest yX10_digest, Cond.code yX10_digest cX10_digest 4 (some .long), Cond.constantLong RX10 286 (1451), Cond.fieldLink RX10 292 "GleanDusk$Parish" "missed" "[[I", Cond.fieldLink RX10 300 "GleanDusk$Parish" "notes" "[[I", Cond.methodLink RX10 288 yX10_mix, Cond.static yX10_mix]
def wsL_law_r42 : List Cond := [Cond.code yX10_mix cX10_mix 4 (some .long), Cond.constantLong RX10 303 (31), Cond.methodLink RX10 296 yX10_mixRow, Cond.static yX10_mixRow, Cond.code yX10_mixRow cX10_mixRow 9 (some .long), Cond.methodLink RL 160 yX11_digest, Cond.instanceMethod yX11_digest, Cond.selects RX11 yX11_digest yX11_digest, Cond.code yX11_digest cX11_digest 4 (some .long), Cond.constantLong RX11 281 (1451), Cond.constantLong RX11 279 (31), Cond.methodLink RX11 283 yX11_sums, Cond.instanceMethod yX11_sums, Cond.selects RX11 yX11_sums yX11_sums, Cond.code yX11_sums cX11_sums 8 (some .long)]
def wsL_law : List Cond := (wsL_law_r1 ++ (wsL_law_r2 ++ (wsL_law_r3 ++ (wsL_law_r4 ++ (wsL_law_r5 ++ (wsL_law_r6 ++ (wsL_law_r7 ++ (wsL_law_r8 ++ (wsL_law_r9 ++ (wsL_law_r10 ++ (wsL_law_r11 ++ (wsL_law_r12 ++ (wsL_law_r13 ++ (wsL_law_r14 ++ (wsL_law_r15 ++ (wsL_law_r16 ++ (wsL_law_r17 ++ (wsL_law_r18 ++ (wsL_law_r19 ++ (wsL_law_r20 ++ (wsL_law_r21 ++ (wsL_law_r22 ++ (wsL_law_r23 ++ (wsL_law_r24 ++ (wsL_law_r25 ++ (wsL_law_r26 ++ (wsL_law_r27 ++ (wsL_law_r28 ++ (wsL_law_r29 ++ (wsL_law_r30 ++ (wsL_law_r31 ++ (wsL_law_r32 ++ (wsL_law_r33 ++ (wsL_law_r34 ++ (wsL_law_r35 ++ (wsL_law_r36 ++ (wsL_law_r37 ++ (wsL_law_r38 ++ (wsL_law_r39 ++ (wsL_law_r40 ++ (wsL_law_r41 ++ wsL_law_r42))))))))))))))))))))))))))))))))))))))))) ++ wsX100 ++ wsX110 ++ wsX50 ++ wsX80 ++ wsX90 ++ wsX60 ++ wsX20 ++ wsX30 ++ wsX40 ++ wsX70 ++ wsX10 ++ wsX00 ++ ([] : List Cond)
theorem inJ6 : ∀ w ∈ wsJ60, w ∈ lw_tbl := by decide +kernel
theorem inJ9 : ∀ w ∈ wsJ90, w ∈ lw_tbl := by decide +kernel
theorem inJ0 : ∀ w ∈ wsJ00, w ∈ lw_tbl := by decide +kernel
theorem inJ1 : ∀ w ∈ wsJ10, w ∈ lw_tbl := by decide +kernel
theorem inJ2 : ∀ w ∈ wsJ20, w ∈ lw_tbl := by decide +kernel
theorem inJ10 : ∀ w ∈ wsJ100, w ∈ lw_tbl := by decide +kernel
theorem inJ3 : ∀ w ∈ wsJ30, w ∈ lw_tbl := by decide +kernel
theorem dX0_init_0 : decode cX0_init 0 = .ok (.aload_n 0, 1) := by decide +kernel
theorem dX0_init_1 : decode cX0_init 1 = .ok (.invokespecial 3, 3) := by decide +kernel
theorem dX0_init_4 : decode cX0_init 4 = .ok (.aload_n 0, 1) := by decide +kernel
theorem dX0_init_5 : decode cX0_init 5 = .ok (.bipush 6, 2) := by decide +kernel
theorem dX0_init_7 : decode cX0_init 7 = .ok (.newarray .int, 2) := by decide +kernel
theorem dX0_init_9 : decode cX0_init 9 = .ok (.putfield 9, 3) := by decide +kernel
theorem dX0_init_12 : decode cX0_init 12 = .ok (.aload_n 0, 1) := by decide +kernel
theorem dX0_init_13 : decode cX0_init 13 = .ok (.bipush 6, 2) := by decide +kernel
theorem dX0_init_15 : decode cX0_init 15 = .ok (.newarray .int, 2) := by decide +kernel
theorem dX0_init_17 : decode cX0_init 17 = .ok (.putfield 15, 3) := by decide +kernel
theorem dX0_init_20 : decode cX0_init 20 = .ok (.return_, 1) := by decide +kernel
theorem dX0_begin_0 : decode cX0_begin 0 = .ok (.aload_n 0, 1) := by decide +kernel
theorem dX0_begin_1 : decode cX0_begin 1 = .ok (.iconst (-1), 1) := by decide +kernel
theorem dX0_begin_2 : decode cX0_begin 2 = .ok (.putfield 18, 3) := by decide +kernel
theorem dX0_begin_5 : decode cX0_begin 5 = .ok (.return_, 1) := by decide +kernel
theorem dX0_offer_0 : decode cX0_offer 0 = .ok (.iload_n 1, 1) := by decide +kernel
theorem dX0_offer_1 : decode cX0_offer 1 = .ok (.aload_n 0, 1) := by decide +kernel
theorem dX0_offer_2 : decode cX0_offer 2 = .ok (.getfield 18, 3) := by decide +kernel
theorem dX0_offer_5 : decode cX0_offer 5 = .ok (.if_icmp .gt 4, 3) := by decide +kernel
theorem dX0_offer_8 : decode cX0_offer 8 = .ok (.return_, 1) := by decide +kernel
theorem dX0_offer_9 : decode cX0_offer 9 = .ok (.aload_n 0, 1) := by decide +kernel
theorem dX0_offer_10 : decode cX0_offer 10 = .ok (.iload_n 1, 1) := by decide +kernel
theorem dX0_offer_11 : decode cX0_offer 11 = .ok (.putfield 18, 3) := by decide +kernel
theorem dX0_offer_14 : decode cX0_offer 14 = .ok (.aload_n 0, 1) := by decide +kernel
theorem dX0_offer_15 : decode cX0_offer 15 = .ok (.getfield 9, 3) := by decide +kernel
theorem dX0_offer_18 : decode cX0_offer 18 = .ok (.iconst 0, 1) := by decide +kernel
theorem dX0_offer_19 : decode cX0_offer 19 = .ok (.aload_n 0, 1) := by decide +kernel
theorem dX0_offer_20 : decode cX0_offer 20 = .ok (.getfield 15, 3) := by decide +kernel
theorem dX0_offer_23 : decode cX0_offer 23 = .ok (.iconst 0, 1) := by decide +kernel
theorem dX0_offer_24 : decode cX0_offer 24 = .ok (.iload_n 2, 1) := by decide +kernel
theorem dX0_offer_25 : decode cX0_offer 25 = .ok (.bipush 6, 2) := by decide +kernel
theorem dX0_offer_27 : decode cX0_offer 27 = .ok (.invokestatic 22, 3) := by decide +kernel
theorem dX0_offer_30 : decode cX0_offer 30 = .ok (.invokestatic 28, 3) := by decide +kernel
theorem dX0_offer_33 : decode cX0_offer 33 = .ok (.return_, 1) := by decide +kernel
theorem dX1_init_0 : decode cX1_init 0 = .ok (.aload_n 0, 1) := by decide +kernel
theorem dX1_init_1 : decode cX1_init 1 = .ok (.invokespecial 3, 3) := by decide +kernel
theorem dX1_init_4 : decode cX1_init 4 = .ok (.aload_n 0, 1) := by decide +kernel
theorem dX1_init_5 : decode cX1_init 5 = .ok (.bipush 6, 2) := by decide +kernel
theorem dX1_init_7 : decode cX1_init 7 = .ok (.newarray .int, 2) := by decide +kernel
theorem dX1_init_9 : decode cX1_init 9 = .ok (.putfield 9, 3) := by decide +kernel
theorem dX1_init_12 : decode cX1_init 12 = .ok (.aload_n 0, 1) := by decide +kernel
theorem dX1_init_13 : decode cX1_init 13 = .ok (.iconst 5, 1) := by decide +kernel
theorem dX1_init_14 : decode cX1_init 14 = .ok (.newarray .int, 2) := by decide +kernel
theorem dX1_init_16 : decode cX1_init 16 = .ok (.putfield 15, 3) := by decide +kernel
theorem dX1_init_19 : decode cX1_init 19 = .ok (.aload_n 0, 1) := by decide +kernel
theorem dX1_init_20 : decode cX1_init 20 = .ok (.iconst 5, 1) := by decide +kernel
theorem dX1_init_21 : decode cX1_init 21 = .ok (.newarray .int, 2) := by decide +kernel
theorem dX1_init_23 : decode cX1_init 23 = .ok (.putfield 18, 3) := by decide +kernel
theorem dX1_init_26 : decode cX1_init 26 = .ok (.return_, 1) := by decide +kernel
theorem dX1_become_0 : decode cX1_become 0 = .ok (.aload_n 1, 1) := by decide +kernel
theorem dX1_become_1 : decode cX1_become 1 = .ok (.getfield 9, 3) := by decide +kernel
theorem dX1_become_4 : decode cX1_become 4 = .ok (.iconst 0, 1) := by decide +kernel
theorem dX1_become_5 : decode cX1_become 5 = .ok (.aload_n 0, 1) := by decide +kernel
theorem dX1_become_6 : decode cX1_become 6 = .ok (.getfield 9, 3) := by decide +kernel
theorem dX1_become_9 : decode cX1_become 9 = .ok (.iconst 0, 1) := by decide +kernel
theorem dX1_become_10 : decode cX1_become 10 = .ok (.bipush 6, 2) := by decide +kernel
theorem dX1_become_12 : decode cX1_become 12 = .ok (.invokestatic 21, 3) := by decide +kernel
theorem dX1_become_15 : decode cX1_become 15 = .ok (.aload_n 1, 1) := by decide +kernel
theorem dX1_become_16 : decode cX1_become 16 = .ok (.getfield 15, 3) := by decide +kernel
theorem dX1_become_19 : decode cX1_become 19 = .ok (.iconst 0, 1) := by decide +kernel
theorem dX1_become_20 : decode cX1_become 20 = .ok (.aload_n 0, 1) := by decide +kernel
theorem dX1_become_21 : decode cX1_become 21 = .ok (.getfield 15, 3) := by decide +kernel
theorem dX1_become_24 : decode cX1_become 24 = .ok (.iconst 0, 1) := by decide +kernel
theorem dX1_become_25 : decode cX1_become 25 = .ok (.iconst 5, 1) := by decide +kernel
theorem dX1_become_26 : decode cX1_become 26 = .ok (.invokestatic 21, 3) := by decide +kernel
theorem dX1_become_29 : decode cX1_become 29 = .ok (.aload_n 1, 1) := by decide +kernel
theorem dX1_become_30 : decode cX1_become 30 = .ok (.getfield 18, 3) := by decide +kernel
theorem dX1_become_33 : decode cX1_become 33 = .ok (.iconst 0, 1) := by decide +kernel
theorem dX1_become_34 : decode cX1_become 34 = .ok (.aload_n 0, 1) := by decide +kernel
theorem dX1_become_35 : decode cX1_become 35 = .ok (.getfield 18, 3) := by decide +kernel
theorem dX1_become_38 : decode cX1_become 38 = .ok (.iconst 0, 1) := by decide +kernel
theorem dX1_become_39 : decode cX1_become 39 = .ok (.iconst 5, 1) := by decide +kernel
theorem dX1_become_40 : decode cX1_become 40 = .ok (.invokestatic 21, 3) := by decide +kernel
theorem dX1_become_43 : decode cX1_become 43 = .ok (.aload_n 0, 1) := by decide +kernel
theorem dX1_become_44 : decode cX1_become 44 = .ok (.aload_n 1, 1) := by decide +kernel
theorem dX1_become_45 : decode cX1_become 45 = .ok (.getfield 27, 3) := by decide +kernel
theorem dX1_become_48 : decode cX1_become 48 = .ok (.putfield 27, 3) := by decide +kernel
theorem dX1_become_51 : decode cX1_become 51 = .ok (.aload_n 0, 1) := by decide +kernel
theorem dX1_become_52 : decode cX1_become 52 = .ok (.aload_n 1, 1) := by decide +kernel
theorem dX1_become_53 : decode cX1_become 53 = .ok (.getfield 31, 3) := by decide +kernel
theorem dX1_become_56 : decode cX1_become 56 = .ok (.putfield 31, 3) := by decide +kernel
theorem dX1_become_59 : decode cX1_become 59 = .ok (.aload_n 0, 1) := by decide +kernel
theorem dX1_become_60 : decode cX1_become 60 = .ok (.aload_n 1, 1) := by decide +kernel
theorem dX1_become_61 : decode cX1_become 61 = .ok (.getfield 34, 3) := by decide +kernel
theorem dX1_become_64 : decode cX1_become 64 = .ok (.putfield 34, 3) := by decide +kernel
theorem dX1_become_67 : decode cX1_become 67 = .ok (.return_, 1) := by decide +kernel
set_option maxRecDepth 20000 in
theorem gw_wsX8_init : wsX8_init.all goodWord = true := by decide +kernel
set_option maxRecDepth 20000 in
theorem ggX2_init_X8_init : GoodIn wsX2_init wsX8_init := goodIn_r _ [3, 4, 5, 6, 7, 8, 9] rfl gw_wsX8_init
set_option maxRecDepth 20000 in
theorem gX2_init_X8_init_n1 : GoodIn wsX2_init (wsX8_init) := ggX2_init_X8_init
theorem dX2_init_0 : decode cX2_init 0 = .ok (.aload_n 0, 1) := by decide +kernel
theorem dX2_init_1 : decode cX2_init 1 = .ok (.invokespecial 1, 3) := by decide +kernel
theorem dX2_init_4 : decode cX2_init 4 = .ok (.return_, 1) := by decide +kernel
set_option maxRecDepth 20000 in
theorem gw_wsX8_sight : wsX8_sight.all goodWord = true := by decide +kernel
set_option maxRecDepth 20000 in
theorem ggX2_sight_X8_sight : GoodIn wsX2_sight wsX8_sight := goodIn_r _ [10, 11, 12, 13, 14, 15, 16, 17, 2, 3, 4] rfl gw_wsX8_sight
set_option maxRecDepth 20000 in
theorem gX2_sight_X8_sight_s13 : GoodIn wsX2_sight (va_wsSU RX2 13 yX8_sight wsX8_sight) := goodIn_app (goodIn_of _ (by decide +kernel)) ggX2_sight_X8_sight
theorem dX2_sight_0 : decode cX2_sight 0 = .ok (.aload_n 0, 1) := by decide +kernel
theorem dX2_sight_1 : decode cX2_sight 1 = .ok (.iload_n 1, 1) := by decide +kernel
theorem dX2_sight_2 : decode cX2_sight 2 = .ok (.iload_n 2, 1) := by decide +kernel
theorem dX2_sight_3 : decode cX2_sight 3 = .ok (.iconst 0, 1) := by decide +kernel
theorem dX2_sight_4 : decode cX2_sight 4 = .ok (.iload_n 3, 1) := by decide +kernel
theorem dX2_sight_5 : decode cX2_sight 5 = .ok (.iconst 3, 1) := by decide +kernel
theorem dX2_sight_6 : decode cX2_sight 6 = .ok (.isub, 1) := by decide +kernel
theorem dX2_sight_7 : decode cX2_sight 7 = .ok (.invokestatic 7, 3) := by decide +kernel
theorem dX2_sight_10 : decode cX2_sight 10 = .ok (.invokespecial 13, 3) := by decide +kernel
theorem dX2_sight_13 : decode cX2_sight 13 = .ok (.ireturn, 1) := by decide +kernel
set_option maxRecDepth 20000 in
theorem gw_wsX9_init : wsX9_init.all goodWord = true := by decide +kernel
set_option maxRecDepth 20000 in
theorem ggX3_init_X9_init : GoodIn wsX3_init wsX9_init := goodIn_r _ [3, 4, 5, 6, 7, 8, 9] rfl gw_wsX9_init
set_option maxRecDepth 20000 in
theorem gX3_init_X9_init_n1 : GoodIn wsX3_init (wsX9_init) := ggX3_init_X9_init
theorem dX3_init_0 : decode cX3_init 0 = .ok (.aload_n 0, 1) := by decide +kernel
theorem dX3_init_1 : decode cX3_init 1 = .ok (.invokespecial 1, 3) := by decide +kernel
theorem dX3_init_4 : decode cX3_init 4 = .ok (.return_, 1) := by decide +kernel
set_option maxRecDepth 20000 in
theorem gw_wsX9_sight : wsX9_sight.all goodWord = true := by decide +kernel
set_option maxRecDepth 20000 in
theorem ggX3_sight_X9_sight : GoodIn wsX3_sight wsX9_sight := goodIn_r _ [6, 7, 8, 9, 10, 11, 12, 13, 14, 15, 16] rfl gw_wsX9_sight
set_option maxRecDepth 20000 in
theorem gX3_sight_X9_sight_s7 : GoodIn wsX3_sight (va_wsSU RX3 7 yX9_sight wsX9_sight) := goodIn_app (goodIn_of _ (by decide +kernel)) ggX3_sight_X9_sight
theorem dX3_sight_0 : decode cX3_sight 0 = .ok (.iload_n 1, 1) := by decide +kernel
theorem dX3_sight_1 : decode cX3_sight 1 = .ok (.bipush 8, 2) := by decide +kernel
theorem dX3_sight_3 : decode cX3_sight 3 = .ok (.if_icmp .lt 7, 3) := by decide +kernel
theorem dX3_sight_6 : decode cX3_sight 6 = .ok (.iconst 0, 1) := by decide +kernel
theorem dX3_sight_7 : decode cX3_sight 7 = .ok (.goto 10, 3) := by decide +kernel
theorem dX3_sight_10 : decode cX3_sight 10 = .ok (.aload_n 0, 1) := by decide +kernel
theorem dX3_sight_11 : decode cX3_sight 11 = .ok (.iload_n 1, 1) := by decide +kernel
theorem dX3_sight_12 : decode cX3_sight 12 = .ok (.iload_n 2, 1) := by decide +kernel
theorem dX3_sight_13 : decode cX3_sight 13 = .ok (.iload_n 3, 1) := by decide +kernel
theorem dX3_sight_14 : decode cX3_sight 14 = .ok (.invokespecial 7, 3) := by decide +kernel
theorem dX3_sight_17 : decode cX3_sight 17 = .ok (.ireturn, 1) := by decide +kernel
set_option maxRecDepth 20000 in
theorem gw_wsX1_init : wsX1_init.all goodWord = true := by decide +kernel
set_option maxRecDepth 20000 in
theorem ggX4_init_X1_init : GoodIn wsX4_init wsX1_init := goodIn_r _ [16, 17, 2, 3, 4, 18, 19, 20, 32, 33, 34, 35, 36, 37] rfl gw_wsX1_init
set_option maxRecDepth 20000 in
theorem gX4_init_X1_init_n17 : GoodIn wsX4_init (wsX1_init) := ggX4_init_X1_init
theorem dX4_init_0 : decode cX4_init 0 = .ok (.aload_n 0, 1) := by decide +kernel
theorem dX4_init_1 : decode cX4_init 1 = .ok (.invokespecial 3, 3) := by decide +kernel
theorem dX4_init_4 : decode cX4_init 4 = .ok (.aload_n 0, 1) := by decide +kernel
theorem dX4_init_5 : decode cX4_init 5 = .ok (.bipush 6, 2) := by decide +kernel
theorem dX4_init_7 : decode cX4_init 7 = .ok (.newarray .int, 2) := by decide +kernel
theorem dX4_init_9 : decode cX4_init 9 = .ok (.putfield 9, 3) := by decide +kernel
theorem dX4_init_12 : decode cX4_init 12 = .ok (.aload_n 0, 1) := by decide +kernel
theorem dX4_init_13 : decode cX4_init 13 = .ok (.new 15, 3) := by decide +kernel
theorem dX4_init_16 : decode cX4_init 16 = .ok (.dup, 1) := by decide +kernel
theorem dX4_init_17 : decode cX4_init 17 = .ok (.invokespecial 17, 3) := by decide +kernel
theorem dX4_init_20 : decode cX4_init 20 = .ok (.putfield 18, 3) := by decide +kernel
theorem dX4_init_23 : decode cX4_init 23 = .ok (.aload_n 0, 1) := by decide +kernel
theorem dX4_init_24 : decode cX4_init 24 = .ok (.bipush 8, 2) := by decide +kernel
theorem dX4_init_26 : decode cX4_init 26 = .ok (.anewarray 15, 3) := by decide +kernel
theorem dX4_init_29 : decode cX4_init 29 = .ok (.putfield 22, 3) := by decide +kernel
theorem dX4_init_32 : decode cX4_init 32 = .ok (.aload_n 0, 1) := by decide +kernel
theorem dX4_init_33 : decode cX4_init 33 = .ok (.iconst 4, 1) := by decide +kernel
theorem dX4_init_34 : decode cX4_init 34 = .ok (.iconst 4, 1) := by decide +kernel
theorem dX4_init_35 : decode cX4_init 35 = .ok (.multianewarray 26 2, 4) := by decide +kernel
theorem dX4_init_39 : decode cX4_init 39 = .ok (.putfield 28, 3) := by decide +kernel
theorem dX4_init_42 : decode cX4_init 42 = .ok (.aload_n 0, 1) := by decide +kernel
theorem dX4_init_43 : decode cX4_init 43 = .ok (.bipush 6, 2) := by decide +kernel
theorem dX4_init_45 : decode cX4_init 45 = .ok (.iconst 5, 1) := by decide +kernel
theorem dX4_init_46 : decode cX4_init 46 = .ok (.multianewarray 26 2, 4) := by decide +kernel
theorem dX4_init_50 : decode cX4_init 50 = .ok (.putfield 31, 3) := by decide +kernel
theorem dX4_init_53 : decode cX4_init 53 = .ok (.aload_n 0, 1) := by decide +kernel
theorem dX4_init_54 : decode cX4_init 54 = .ok (.aload_n 1, 1) := by decide +kernel
theorem dX4_init_55 : decode cX4_init 55 = .ok (.putfield 34, 3) := by decide +kernel
theorem dX4_init_58 : decode cX4_init 58 = .ok (.iconst 0, 1) := by decide +kernel
theorem dX4_init_59 : decode cX4_init 59 = .ok (.istore_n 2, 1) := by decide +kernel
theorem dX4_init_60 : decode cX4_init 60 = .ok (.iload_n 2, 1) := by decide +kernel
theorem dX4_init_61 : decode cX4_init 61 = .ok (.bipush 8, 2) := by decide +kernel
theorem dX4_init_63 : decode cX4_init 63 = .ok (.if_icmp .ge 22, 3) := by decide +kernel
theorem dX4_init_66 : decode cX4_init 66 = .ok (.aload_n 0, 1) := by decide +kernel
theorem dX4_init_67 : decode cX4_init 67 = .ok (.getfield 22, 3) := by decide +kernel
theorem dX4_init_70 : decode cX4_init 70 = .ok (.iload_n 2, 1) := by decide +kernel
theorem dX4_init_71 : decode cX4_init 71 = .ok (.new 15, 3) := by decide +kernel
theorem dX4_init_74 : decode cX4_init 74 = .ok (.dup, 1) := by decide +kernel
theorem dX4_init_75 : decode cX4_init 75 = .ok (.invokespecial 17, 3) := by decide +kernel
theorem dX4_init_78 : decode cX4_init 78 = .ok (.aastore, 1) := by decide +kernel
theorem dX4_init_79 : decode cX4_init 79 = .ok (.iinc 2 1, 3) := by decide +kernel
theorem dX4_init_82 : decode cX4_init 82 = .ok (.goto (-22), 3) := by decide +kernel
theorem dX4_init_85 : decode cX4_init 85 = .ok (.return_, 1) := by decide +kernel
theorem dX4_begin_0 : decode cX4_begin 0 = .ok (.aload_n 0, 1) := by decide +kernel
theorem dX4_begin_1 : decode cX4_begin 1 = .ok (.iconst 0, 1) := by decide +kernel
theorem dX4_begin_2 : decode cX4_begin 2 = .ok (.putfield 38, 3) := by decide +kernel
theorem dX4_begin_5 : decode cX4_begin 5 = .ok (.aload_n 0, 1) := by decide +kernel
theorem dX4_begin_6 : decode cX4_begin 6 = .ok (.iconst 0, 1) := by decide +kernel
theorem dX4_begin_7 : decode cX4_begin 7 = .ok (.putfield 42, 3) := by decide +kernel
theorem dX4_begin_10 : decode cX4_begin 10 = .ok (.aload_n 0, 1) := by decide +kernel
theorem dX4_begin_11 : decode cX4_begin 11 = .ok (.iconst 0, 1) := by decide +kernel
theorem dX4_begin_12 : decode cX4_begin 12 = .ok (.putfield 45, 3) := by decide +kernel
theorem dX4_begin_15 : decode cX4_begin 15 = .ok (.aload_n 0, 1) := by decide +kernel
theorem dX4_begin_16 : decode cX4_begin 16 = .ok (.iconst 0, 1) := by decide +kernel
theorem dX4_begin_17 : decode cX4_begin 17 = .ok (.putfield 48, 3) := by decide +kernel
theorem dX4_begin_20 : decode cX4_begin 20 = .ok (.aload_n 0, 1) := by decide +kernel
theorem dX4_begin_21 : decode cX4_begin 21 = .ok (.iconst 0, 1) := by decide +kernel
theorem dX4_begin_22 : decode cX4_begin 22 = .ok (.putfield 51, 3) := by decide +kernel
theorem dX4_begin_25 : decode cX4_begin 25 = .ok (.aload_n 0, 1) := by decide +kernel
theorem dX4_begin_26 : decode cX4_begin 26 = .ok (.getfield 18, 3) := by decide +kernel
theorem dX4_begin_29 : decode cX4_begin 29 = .ok (.iconst 0, 1) := by decide +kernel
theorem dX4_begin_30 : decode cX4_begin 30 = .ok (.putfield 54, 3) := by decide +kernel
theorem dX4_begin_33 : decode cX4_begin 33 = .ok (.aload_n 0, 1) := by decide +kernel
theorem dX4_begin_34 : decode cX4_begin 34 = .ok (.getfield 18, 3) := by decide +kernel
theorem dX4_begin_37 : decode cX4_begin 37 = .ok (.iload_n 1, 1) := by decide +kernel
theorem dX4_begin_38 : decode cX4_begin 38 = .ok (.putfield 57, 3) := by decide +kernel
theorem dX4_begin_41 : decode cX4_begin 41 = .ok (.aload_n 0, 1) := by decide +kernel
theorem dX4_begin_42 : decode cX4_begin 42 = .ok (.getfield 18, 3) := by decide +kernel
theorem dX4_begin_45 : decode cX4_begin 45 = .ok (.iconst 0, 1) := by decide +kernel
theorem dX4_begin_46 : decode cX4_begin 46 = .ok (.putfield 60, 3) := by decide +kernel
theorem dX4_begin_49 : decode cX4_begin 49 = .ok (.return_, 1) := by decide +kernel
set_option maxRecDepth 20000 in
theorem gw_wsX1_become : wsX1_become.all goodWord = true := by decide +kernel
set_option maxRecDepth 20000 in
theorem ggX4_become_X1_become : GoodIn wsX4_become wsX1_become := goodIn_r _ [19, 20, 21, 3, 4, 5, 22, 23, 24, 25, 26, 38, 39, 40, 41, 42, 43] rfl gw_wsX1_become
set_option maxRecDepth 20000 in
theorem gX4_become_X1_become : GoodIn wsX4_become (wsV RX4 69 RX1 yX1_become wsX1_become) := goodIn_app (goodIn_r _ [15, 16, 17, 18] (by exact rfl) (by decide +kernel)) ggX4_become_X1_become
theorem dX4_become_0 : decode cX4_become 0 = .ok (.aload_n 1, 1) := by decide +kernel
theorem dX4_become_1 : decode cX4_become 1 = .ok (.getfield 9, 3) := by decide +kernel
theorem dX4_become_4 : decode cX4_become 4 = .ok (.iconst 0, 1) := by decide +kernel
theorem dX4_become_5 : decode cX4_become 5 = .ok (.aload_n 0, 1) := by decide +kernel
theorem dX4_become_6 : decode cX4_become 6 = .ok (.getfield 9, 3) := by decide +kernel
theorem dX4_become_9 : decode cX4_become 9 = .ok (.iconst 0, 1) := by decide +kernel
theorem dX4_become_10 : decode cX4_become 10 = .ok (.bipush 6, 2) := by decide +kernel
theorem dX4_become_12 : decode cX4_become 12 = .ok (.invokestatic 63, 3) := by decide +kernel
theorem dX4_become_15 : decode cX4_become 15 = .ok (.aload_n 0, 1) := by decide +kernel
theorem dX4_become_16 : decode cX4_become 16 = .ok (.getfield 18, 3) := by decide +kernel
theorem dX4_become_19 : decode cX4_become 19 = .ok (.aload_n 1, 1) := by decide +kernel
theorem dX4_become_20 : decode cX4_become 20 = .ok (.getfield 18, 3) := by decide +kernel
theorem dX4_become_23 : decode cX4_become 23 = .ok (.invokevirtual 69, 3) := by decide +kernel
theorem dX4_become_26 : decode cX4_become 26 = .ok (.iconst 0, 1) := by decide +kernel
theorem dX4_become_27 : decode cX4_become 27 = .ok (.istore_n 2, 1) := by decide +kernel
theorem dX4_become_28 : decode cX4_become 28 = .ok (.iload_n 2, 1) := by decide +kernel
theorem dX4_become_29 : decode cX4_become 29 = .ok (.aload_n 1, 1) := by decide +kernel
theorem dX4_become_30 : decode cX4_become 30 = .ok (.getfield 45, 3) := by decide +kernel
theorem dX4_become_33 : decode cX4_become 33 = .ok (.if_icmp .ge 24, 3) := by decide +kernel
theorem dX4_become_36 : decode cX4_become 36 = .ok (.aload_n 0, 1) := by decide +kernel
theorem dX4_become_37 : decode cX4_become 37 = .ok (.getfield 22, 3) := by decide +kernel
theorem dX4_become_40 : decode cX4_become 40 = .ok (.iload_n 2, 1) := by decide +kernel
theorem dX4_become_41 : decode cX4_become 41 = .ok (.aaload, 1) := by decide +kernel
theorem dX4_become_42 : decode cX4_become 42 = .ok (.aload_n 1, 1) := by decide +kernel
theorem dX4_become_43 : decode cX4_become 43 = .ok (.getfield 22, 3) := by decide +kernel
theorem dX4_become_46 : decode cX4_become 46 = .ok (.iload_n 2, 1) := by decide +kernel
theorem dX4_become_47 : decode cX4_become 47 = .ok (.aaload, 1) := by decide +kernel
theorem dX4_become_48 : decode cX4_become 48 = .ok (.invokevirtual 69, 3) := by decide +kernel
theorem dX4_become_51 : decode cX4_become 51 = .ok (.iinc 2 1, 3) := by decide +kernel
theorem dX4_become_54 : decode cX4_become 54 = .ok (.goto (-26), 3) := by decide +kernel
theorem dX4_become_57 : decode cX4_become 57 = .ok (.iconst 0, 1) := by decide +kernel
theorem dX4_become_58 : decode cX4_become 58 = .ok (.istore_n 2, 1) := by decide +kernel
theorem dX4_become_59 : decode cX4_become 59 = .ok (.iload_n 2, 1) := by decide +kernel
theorem dX4_become_60 : decode cX4_become 60 = .ok (.aload_n 1, 1) := by decide +kernel
theorem dX4_become_61 : decode cX4_become 61 = .ok (.getfield 48, 3) := by decide +kernel
theorem dX4_become_64 : decode cX4_become 64 = .ok (.if_icmp .ge 27, 3) := by decide +kernel
theorem dX4_become_67 : decode cX4_become 67 = .ok (.aload_n 1, 1) := by decide +kernel
theorem dX4_become_68 : decode cX4_become 68 = .ok (.getfield 28, 3) := by decide +kernel
theorem dX4_become_71 : decode cX4_become 71 = .ok (.iload_n 2, 1) := by decide +kernel
theorem dX4_become_72 : decode cX4_become 72 = .ok (.aaload, 1) := by decide +kernel
theorem dX4_become_73 : decode cX4_become 73 = .ok (.iconst 0, 1) := by decide +kernel
theorem dX4_become_74 : decode cX4_become 74 = .ok (.aload_n 0, 1) := by decide +kernel
theorem dX4_become_75 : decode cX4_become 75 = .ok (.getfield 28, 3) := by decide +kernel
theorem dX4_become_78 : decode cX4_become 78 = .ok (.iload_n 2, 1) := by decide +kernel
theorem dX4_become_79 : decode cX4_become 79 = .ok (.aaload, 1) := by decide +kernel
theorem dX4_become_80 : decode cX4_become 80 = .ok (.iconst 0, 1) := by decide +kernel
theorem dX4_become_81 : decode cX4_become 81 = .ok (.iconst 4, 1) := by decide +kernel
theorem dX4_become_82 : decode cX4_become 82 = .ok (.invokestatic 63, 3) := by decide +kernel
theorem dX4_become_85 : decode cX4_become 85 = .ok (.iinc 2 1, 3) := by decide +kernel
theorem dX4_become_88 : decode cX4_become 88 = .ok (.goto (-29), 3) := by decide +kernel
theorem dX4_become_91 : decode cX4_become 91 = .ok (.iconst 0, 1) := by decide +kernel
theorem dX4_become_92 : decode cX4_become 92 = .ok (.istore_n 2, 1) := by decide +kernel
theorem dX4_become_93 : decode cX4_become 93 = .ok (.iload_n 2, 1) := by decide +kernel
theorem dX4_become_94 : decode cX4_become 94 = .ok (.aload_n 1, 1) := by decide +kernel
theorem dX4_become_95 : decode cX4_become 95 = .ok (.getfield 51, 3) := by decide +kernel
theorem dX4_become_98 : decode cX4_become 98 = .ok (.if_icmp .ge 27, 3) := by decide +kernel
theorem dX4_become_101 : decode cX4_become 101 = .ok (.aload_n 1, 1) := by decide +kernel
theorem dX4_become_102 : decode cX4_become 102 = .ok (.getfield 31, 3) := by decide +kernel
theorem dX4_become_105 : decode cX4_become 105 = .ok (.iload_n 2, 1) := by decide +kernel
theorem dX4_become_106 : decode cX4_become 106 = .ok (.aaload, 1) := by decide +kernel
theorem dX4_become_107 : decode cX4_become 107 = .ok (.iconst 0, 1) := by decide +kernel
theorem dX4_become_108 : decode cX4_become 108 = .ok (.aload_n 0, 1) := by decide +kernel
theorem dX4_become_109 : decode cX4_become 109 = .ok (.getfield 31, 3) := by decide +kernel
theorem dX4_become_112 : decode cX4_become 112 = .ok (.iload_n 2, 1) := by decide +kernel
theorem dX4_become_113 : decode cX4_become 113 = .ok (.aaload, 1) := by decide +kernel
theorem dX4_become_114 : decode cX4_become 114 = .ok (.iconst 0, 1) := by decide +kernel
theorem dX4_become_115 : decode cX4_become 115 = .ok (.iconst 5, 1) := by decide +kernel
theorem dX4_become_116 : decode cX4_become 116 = .ok (.invokestatic 63, 3) := by decide +kernel
theorem dX4_become_119 : decode cX4_become 119 = .ok (.iinc 2 1, 3) := by decide +kernel
theorem dX4_become_122 : decode cX4_become 122 = .ok (.goto (-29), 3) := by decide +kernel
theorem dX4_become_125 : decode cX4_become 125 = .ok (.aload_n 0, 1) := by decide +kernel
theorem dX4_become_126 : decode cX4_become 126 = .ok (.aload_n 1, 1) := by decide +kernel
theorem dX4_become_127 : decode cX4_become 127 = .ok (.getfield 38, 3) := by decide +kernel
theorem dX4_become_130 : decode cX4_become 130 = .ok (.putfield 38, 3) := by decide +kernel
theorem dX4_become_133 : decode cX4_become 133 = .ok (.aload_n 0, 1) := by decide +kernel
theorem dX4_become_134 : decode cX4_become 134 = .ok (.aload_n 1, 1) := by decide +kernel
theorem dX4_become_135 : decode cX4_become 135 = .ok (.getfield 42, 3) := by decide +kernel
theorem dX4_become_138 : decode cX4_become 138 = .ok (.putfield 42, 3) := by decide +kernel
theorem dX4_become_141 : decode cX4_become 141 = .ok (.aload_n 0, 1) := by decide +kernel
theorem dX4_become_142 : decode cX4_become 142 = .ok (.aload_n 1, 1) := by decide +kernel
theorem dX4_become_143 : decode cX4_become 143 = .ok (.getfield 45, 3) := by decide +kernel
theorem dX4_become_146 : decode cX4_become 146 = .ok (.putfield 45, 3) := by decide +kernel
theorem dX4_become_149 : decode cX4_become 149 = .ok (.aload_n 0, 1) := by decide +kernel
theorem dX4_become_150 : decode cX4_become 150 = .ok (.aload_n 1, 1) := by decide +kernel
theorem dX4_become_151 : decode cX4_become 151 = .ok (.getfield 48, 3) := by decide +kernel
theorem dX4_become_154 : decode cX4_become 154 = .ok (.putfield 48, 3) := by decide +kernel
theorem dX4_become_157 : decode cX4_become 157 = .ok (.aload_n 0, 1) := by decide +kernel
theorem dX4_become_158 : decode cX4_become 158 = .ok (.aload_n 1, 1) := by decide +kernel
theorem dX4_become_159 : decode cX4_become 159 = .ok (.getfield 51, 3) := by decide +kernel
theorem dX4_become_162 : decode cX4_become 162 = .ok (.putfield 51, 3) := by decide +kernel
theorem dX4_become_165 : decode cX4_become 165 = .ok (.return_, 1) := by decide +kernel
set_option maxRecDepth 20000 in
theorem gw_wsX10_isBelow : wsX10_isBelow.all goodWord = true := by decide +kernel
set_option maxRecDepth 20000 in
theorem ggX4_hasField_X10_isBelow : GoodIn wsX4_hasField wsX10_isBelow := goodIn_r _ [4] rfl gw_wsX10_isBelow
set_option maxRecDepth 20000 in
theorem gX4_hasField_X10_isBelow_n73 : GoodIn wsX4_hasField (wsX10_isBelow) := ggX4_hasField_X10_isBelow
theorem dX4_hasField_0 : decode cX4_hasField 0 = .ok (.iload_n 1, 1) := by decide +kernel
theorem dX4_hasField_1 : decode cX4_hasField 1 = .ok (.aload_n 0, 1) := by decide +kernel
theorem dX4_hasField_2 : decode cX4_hasField 2 = .ok (.getfield 38, 3) := by decide +kernel
theorem dX4_hasField_5 : decode cX4_hasField 5 = .ok (.invokestatic 73, 3) := by decide +kernel
theorem dX4_hasField_8 : decode cX4_hasField 8 = .ok (.ireturn, 1) := by decide +kernel
set_option maxRecDepth 20000 in
theorem ggX4_hasGleaner_X10_isBelow : GoodIn wsX4_hasGleaner wsX10_isBelow := goodIn_r _ [4] rfl gw_wsX10_isBelow
set_option maxRecDepth 20000 in
theorem gX4_hasGleaner_X10_isBelow_n73 : GoodIn wsX4_hasGleaner (wsX10_isBelow) := ggX4_hasGleaner_X10_isBelow
theorem dX4_hasGleaner_0 : decode cX4_hasGleaner 0 = .ok (.iload_n 1, 1) := by decide +kernel
theorem dX4_hasGleaner_1 : decode cX4_hasGleaner 1 = .ok (.aload_n 0, 1) := by decide +kernel
theorem dX4_hasGleaner_2 : decode cX4_hasGleaner 2 = .ok (.getfield 42, 3) := by decide +kernel
theorem dX4_hasGleaner_5 : decode cX4_hasGleaner 5 = .ok (.invokestatic 73, 3) := by decide +kernel
theorem dX4_hasGleaner_8 : decode cX4_hasGleaner 8 = .ok (.ireturn, 1) := by decide +kernel
theorem dX4_addField_0 : decode cX4_addField 0 = .ok (.aload_n 0, 1) := by decide +kernel
theorem dX4_addField_1 : decode cX4_addField 1 = .ok (.getfield 9, 3) := by decide +kernel
theorem dX4_addField_4 : decode cX4_addField 4 = .ok (.aload_n 0, 1) := by decide +kernel
theorem dX4_addField_5 : decode cX4_addField 5 = .ok (.getfield 38, 3) := by decide +kernel
theorem dX4_addField_8 : decode cX4_addField 8 = .ok (.iload_n 1, 1) := by decide +kernel
theorem dX4_addField_9 : decode cX4_addField 9 = .ok (.iastore, 1) := by decide +kernel
theorem dX4_addField_10 : decode cX4_addField 10 = .ok (.aload_n 0, 1) := by decide +kernel
theorem dX4_addField_11 : decode cX4_addField 11 = .ok (.getfield 18, 3) := by decide +kernel
theorem dX4_addField_14 : decode cX4_addField 14 = .ok (.getfield 77, 3) := by decide +kernel
theorem dX4_addField_17 : decode cX4_addField 17 = .ok (.aload_n 0, 1) := by decide +kernel
theorem dX4_addField_18 : decode cX4_addField 18 = .ok (.getfield 38, 3) := by decide +kernel
theorem dX4_addField_21 : decode cX4_addField 21 = .ok (.iload_n 2, 1) := by decide +kernel
theorem dX4_addField_22 : decode cX4_addField 22 = .ok (.iastore, 1) := by decide +kernel
theorem dX4_addField_23 : decode cX4_addField 23 = .ok (.aload_n 0, 1) := by decide +kernel
theorem dX4_addField_24 : decode cX4_addField 24 = .ok (.iconst 0, 1) := by decide +kernel
theorem dX4_addField_25 : decode cX4_addField 25 = .ok (.putfield 45, 3) := by decide +kernel
theorem dX4_addField_28 : decode cX4_addField 28 = .ok (.aload_n 0, 1) := by decide +kernel
theorem dX4_addField_29 : decode cX4_addField 29 = .ok (.dup, 1) := by decide +kernel
theorem dX4_addField_30 : decode cX4_addField 30 = .ok (.getfield 38, 3) := by decide +kernel
theorem dX4_addField_33 : decode cX4_addField 33 = .ok (.dup_x1, 1) := by decide +kernel
theorem dX4_addField_34 : decode cX4_addField 34 = .ok (.iconst 1, 1) := by decide +kernel
theorem dX4_addField_35 : decode cX4_addField 35 = .ok (.iadd, 1) := by decide +kernel
theorem dX4_addField_36 : decode cX4_addField 36 = .ok (.putfield 38, 3) := by decide +kernel
theorem dX4_addField_39 : decode cX4_addField 39 = .ok (.ireturn, 1) := by decide +kernel
theorem dX4_addGleaner_0 : decode cX4_addGleaner 0 = .ok (.aload_n 0, 1) := by decide +kernel
theorem dX4_addGleaner_1 : decode cX4_addGleaner 1 = .ok (.getfield 18, 3) := by decide +kernel
theorem dX4_addGleaner_4 : decode cX4_addGleaner 4 = .ok (.getfield 80, 3) := by decide +kernel
theorem dX4_addGleaner_7 : decode cX4_addGleaner 7 = .ok (.aload_n 0, 1) := by decide +kernel
theorem dX4_addGleaner_8 : decode cX4_addGleaner 8 = .ok (.getfield 42, 3) := by decide +kernel
theorem dX4_addGleaner_11 : decode cX4_addGleaner 11 = .ok (.iload_n 1, 1) := by decide +kernel
theorem dX4_addGleaner_12 : decode cX4_addGleaner 12 = .ok (.iastore, 1) := by decide +kernel
theorem dX4_addGleaner_13 : decode cX4_addGleaner 13 = .ok (.aload_n 0, 1) := by decide +kernel
theorem dX4_addGleaner_14 : decode cX4_addGleaner 14 = .ok (.getfield 18, 3) := by decide +kernel
theorem dX4_addGleaner_17 : decode cX4_addGleaner 17 = .ok (.getfield 83, 3) := by decide +kernel
theorem dX4_addGleaner_20 : decode cX4_addGleaner 20 = .ok (.aload_n 0, 1) := by decide +kernel
theorem dX4_addGleaner_21 : decode cX4_addGleaner 21 = .ok (.getfield 42, 3) := by decide +kernel
theorem dX4_addGleaner_24 : decode cX4_addGleaner 24 = .ok (.iconst 0, 1) := by decide +kernel
theorem dX4_addGleaner_25 : decode cX4_addGleaner 25 = .ok (.iastore, 1) := by decide +kernel
theorem dX4_addGleaner_26 : decode cX4_addGleaner 26 = .ok (.aload_n 0, 1) := by decide +kernel
theorem dX4_addGleaner_27 : decode cX4_addGleaner 27 = .ok (.iconst 0, 1) := by decide +kernel
theorem dX4_addGleaner_28 : decode cX4_addGleaner 28 = .ok (.putfield 45, 3) := by decide +kernel
theorem dX4_addGleaner_31 : decode cX4_addGleaner 31 = .ok (.aload_n 0, 1) := by decide +kernel
theorem dX4_addGleaner_32 : decode cX4_addGleaner 32 = .ok (.dup, 1) := by decide +kernel
theorem dX4_addGleaner_33 : decode cX4_addGleaner 33 = .ok (.getfield 42, 3) := by decide +kernel
theorem dX4_addGleaner_36 : decode cX4_addGleaner 36 = .ok (.dup_x1, 1) := by decide +kernel
theorem dX4_addGleaner_37 : decode cX4_addGleaner 37 = .ok (.iconst 1, 1) := by decide +kernel
theorem dX4_addGleaner_38 : decode cX4_addGleaner 38 = .ok (.iadd, 1) := by decide +kernel
theorem dX4_addGleaner_39 : decode cX4_addGleaner 39 = .ok (.putfield 42, 3) := by decide +kernel
theorem dX4_addGleaner_42 : decode cX4_addGleaner 42 = .ok (.ireturn, 1) := by decide +kernel
theorem dX4_addMissed_0 : decode cX4_addMissed 0 = .ok (.aload_n 0, 1) := by decide +kernel
theorem dX4_addMissed_1 : decode cX4_addMissed 1 = .ok (.getfield 28, 3) := by decide +kernel
theorem dX4_addMissed_4 : decode cX4_addMissed 4 = .ok (.aload_n 0, 1) := by decide +kernel
theorem dX4_addMissed_5 : decode cX4_addMissed 5 = .ok (.getfield 48, 3) := by decide +kernel
theorem dX4_addMissed_8 : decode cX4_addMissed 8 = .ok (.aaload, 1) := by decide +kernel
theorem dX4_addMissed_9 : decode cX4_addMissed 9 = .ok (.astore 5, 2) := by decide +kernel
theorem dX4_addMissed_11 : decode cX4_addMissed 11 = .ok (.aload 5, 2) := by decide +kernel
theorem dX4_addMissed_13 : decode cX4_addMissed 13 = .ok (.iconst 0, 1) := by decide +kernel
theorem dX4_addMissed_14 : decode cX4_addMissed 14 = .ok (.iload_n 1, 1) := by decide +kernel
theorem dX4_addMissed_15 : decode cX4_addMissed 15 = .ok (.iastore, 1) := by decide +kernel
theorem dX4_addMissed_16 : decode cX4_addMissed 16 = .ok (.aload 5, 2) := by decide +kernel
theorem dX4_addMissed_18 : decode cX4_addMissed 18 = .ok (.iconst 1, 1) := by decide +kernel
theorem dX4_addMissed_19 : decode cX4_addMissed 19 = .ok (.iload_n 2, 1) := by decide +kernel
theorem dX4_addMissed_20 : decode cX4_addMissed 20 = .ok (.iastore, 1) := by decide +kernel
theorem dX4_addMissed_21 : decode cX4_addMissed 21 = .ok (.aload 5, 2) := by decide +kernel
theorem dX4_addMissed_23 : decode cX4_addMissed 23 = .ok (.iconst 2, 1) := by decide +kernel
theorem dX4_addMissed_24 : decode cX4_addMissed 24 = .ok (.iload_n 3, 1) := by decide +kernel
theorem dX4_addMissed_25 : decode cX4_addMissed 25 = .ok (.iastore, 1) := by decide +kernel
theorem dX4_addMissed_26 : decode cX4_addMissed 26 = .ok (.aload 5, 2) := by decide +kernel
theorem dX4_addMissed_28 : decode cX4_addMissed 28 = .ok (.iconst 3, 1) := by decide +kernel
theorem dX4_addMissed_29 : decode cX4_addMissed 29 = .ok (.iload 4, 2) := by decide +kernel
theorem dX4_addMissed_31 : decode cX4_addMissed 31 = .ok (.iastore, 1) := by decide +kernel
theorem dX4_addMissed_32 : decode cX4_addMissed 32 = .ok (.aload_n 0, 1) := by decide +kernel
theorem dX4_addMissed_33 : decode cX4_addMissed 33 = .ok (.dup, 1) := by decide +kernel
theorem dX4_addMissed_34 : decode cX4_addMissed 34 = .ok (.getfield 48, 3) := by decide +kernel
theorem dX4_addMissed_37 : decode cX4_addMissed 37 = .ok (.iconst 1, 1) := by decide +kernel
theorem dX4_addMissed_38 : decode cX4_addMissed 38 = .ok (.iadd, 1) := by decide +kernel
theorem dX4_addMissed_39 : decode cX4_addMissed 39 = .ok (.dup_x1, 1) := by decide +kernel
theorem dX4_addMissed_40 : decode cX4_addMissed 40 = .ok (.putfield 48, 3) := by decide +kernel
theorem dX4_addMissed_43 : decode cX4_addMissed 43 = .ok (.ireturn, 1) := by decide +kernel
theorem dX4_addNote_0 : decode cX4_addNote 0 = .ok (.aload_n 0, 1) := by decide +kernel
theorem dX4_addNote_1 : decode cX4_addNote 1 = .ok (.getfield 31, 3) := by decide +kernel
theorem dX4_addNote_4 : decode cX4_addNote 4 = .ok (.aload_n 0, 1) := by decide +kernel
theorem dX4_addNote_5 : decode cX4_addNote 5 = .ok (.getfield 51, 3) := by decide +kernel
theorem dX4_addNote_8 : decode cX4_addNote 8 = .ok (.aaload, 1) := by decide +kernel
theorem dX4_addNote_9 : decode cX4_addNote 9 = .ok (.astore 6, 2) := by decide +kernel
theorem dX4_addNote_11 : decode cX4_addNote 11 = .ok (.aload 6, 2) := by decide +kernel
theorem dX4_addNote_13 : decode cX4_addNote 13 = .ok (.iconst 0, 1) := by decide +kernel
theorem dX4_addNote_14 : decode cX4_addNote 14 = .ok (.iload_n 1, 1) := by decide +kernel
theorem dX4_addNote_15 : decode cX4_addNote 15 = .ok (.iastore, 1) := by decide +kernel
theorem dX4_addNote_16 : decode cX4_addNote 16 = .ok (.aload 6, 2) := by decide +kernel
theorem dX4_addNote_18 : decode cX4_addNote 18 = .ok (.iconst 1, 1) := by decide +kernel
theorem dX4_addNote_19 : decode cX4_addNote 19 = .ok (.iload_n 2, 1) := by decide +kernel
theorem dX4_addNote_20 : decode cX4_addNote 20 = .ok (.iastore, 1) := by decide +kernel
theorem dX4_addNote_21 : decode cX4_addNote 21 = .ok (.aload 6, 2) := by decide +kernel
theorem dX4_addNote_23 : decode cX4_addNote 23 = .ok (.iconst 2, 1) := by decide +kernel
theorem dX4_addNote_24 : decode cX4_addNote 24 = .ok (.iload_n 3, 1) := by decide +kernel
theorem dX4_addNote_25 : decode cX4_addNote 25 = .ok (.iastore, 1) := by decide +kernel
theorem dX4_addNote_26 : decode cX4_addNote 26 = .ok (.aload 6, 2) := by decide +kernel
theorem dX4_addNote_28 : decode cX4_addNote 28 = .ok (.iconst 3, 1) := by decide +kernel
theorem dX4_addNote_29 : decode cX4_addNote 29 = .ok (.iload 4, 2) := by decide +kernel
theorem dX4_addNote_31 : decode cX4_addNote 31 = .ok (.iastore, 1) := by decide +kernel
theorem dX4_addNote_32 : decode cX4_addNote 32 = .ok (.aload 6, 2) := by decide +kernel
theorem dX4_addNote_34 : decode cX4_addNote 34 = .ok (.iconst 4, 1) := by decide +kernel
theorem dX4_addNote_35 : decode cX4_addNote 35 = .ok (.iload 5, 2) := by decide +kernel
theorem dX4_addNote_37 : decode cX4_addNote 37 = .ok (.iastore, 1) := by decide +kernel
theorem dX4_addNote_38 : decode cX4_addNote 38 = .ok (.aload_n 0, 1) := by decide +kernel
theorem dX4_addNote_39 : decode cX4_addNote 39 = .ok (.dup, 1) := by decide +kernel
theorem dX4_addNote_40 : decode cX4_addNote 40 = .ok (.getfield 51, 3) := by decide +kernel
theorem dX4_addNote_43 : decode cX4_addNote 43 = .ok (.iconst 1, 1) := by decide +kernel
theorem dX4_addNote_44 : decode cX4_addNote 44 = .ok (.iadd, 1) := by decide +kernel
theorem dX4_addNote_45 : decode cX4_addNote 45 = .ok (.dup_x1, 1) := by decide +kernel
theorem dX4_addNote_46 : decode cX4_addNote 46 = .ok (.putfield 51, 3) := by decide +kernel
theorem dX4_addNote_49 : decode cX4_addNote 49 = .ok (.ireturn, 1) := by decide +kernel
set_option maxRecDepth 20000 in
theorem gw_wsX4_dropOldest : wsX4_dropOldest.all goodWord = true := by decide +kernel
set_option maxRecDepth 20000 in
theorem ggX4_remember_X4_dropOldest : GoodIn wsX4_remember wsX4_dropOldest := goodIn_r _ [8, 2, 1, 24, 25, 26, 27, 28, 29, 30, 31, 32, 33, 34] rfl gw_wsX4_dropOldest
set_option maxRecDepth 20000 in
theorem gX4_remember_X4_dropOldest : GoodIn wsX4_remember (wsV RX4 86 RX4 yX4_dropOldest wsX4_dropOldest) := goodIn_app (goodIn_r _ [4, 5, 6, 7] (by exact rfl) (by decide +kernel)) ggX4_remember_X4_dropOldest
set_option maxRecDepth 20000 in
theorem ggX4_remember_X1_become : GoodIn wsX4_remember wsX1_become := goodIn_r _ [13, 14, 15, 16, 17, 18, 19, 20, 21, 22, 23, 35, 36, 37, 38, 39, 40] rfl gw_wsX1_become
set_option maxRecDepth 20000 in
theorem gX4_remember_X1_become : GoodIn wsX4_remember (wsV RX4 69 RX1 yX1_become wsX1_become) := goodIn_app (goodIn_r _ [9, 10, 11, 12] (by exact rfl) (by decide +kernel)) ggX4_remember_X1_become
theorem dX4_remember_0 : decode cX4_remember 0 = .ok (.aload_n 0, 1) := by decide +kernel
theorem dX4_remember_1 : decode cX4_remember 1 = .ok (.getfield 45, 3) := by decide +kernel
theorem dX4_remember_4 : decode cX4_remember 4 = .ok (.bipush 8, 2) := by decide +kernel
theorem dX4_remember_6 : decode cX4_remember 6 = .ok (.if_icmp .lt 7, 3) := by decide +kernel
theorem dX4_remember_9 : decode cX4_remember 9 = .ok (.aload_n 0, 1) := by decide +kernel
theorem dX4_remember_10 : decode cX4_remember 10 = .ok (.invokevirtual 86, 3) := by decide +kernel
theorem dX4_remember_13 : decode cX4_remember 13 = .ok (.aload_n 0, 1) := by decide +kernel
theorem dX4_remember_14 : decode cX4_remember 14 = .ok (.getfield 22, 3) := by decide +kernel
theorem dX4_remember_17 : decode cX4_remember 17 = .ok (.aload_n 0, 1) := by decide +kernel
theorem dX4_remember_18 : decode cX4_remember 18 = .ok (.getfield 45, 3) := by decide +kernel
theorem dX4_remember_21 : decode cX4_remember 21 = .ok (.aaload, 1) := by decide +kernel
theorem dX4_remember_22 : decode cX4_remember 22 = .ok (.aload_n 0, 1) := by decide +kernel
theorem dX4_remember_23 : decode cX4_remember 23 = .ok (.getfield 18, 3) := by decide +kernel
theorem dX4_remember_26 : decode cX4_remember 26 = .ok (.invokevirtual 69, 3) := by decide +kernel
theorem dX4_remember_29 : decode cX4_remember 29 = .ok (.aload_n 0, 1) := by decide +kernel
theorem dX4_remember_30 : decode cX4_remember 30 = .ok (.dup, 1) := by decide +kernel
theorem dX4_remember_31 : decode cX4_remember 31 = .ok (.getfield 45, 3) := by decide +kernel
theorem dX4_remember_34 : decode cX4_remember 34 = .ok (.iconst 1, 1) := by decide +kernel
theorem dX4_remember_35 : decode cX4_remember 35 = .ok (.iadd, 1) := by decide +kernel
theorem dX4_remember_36 : decode cX4_remember 36 = .ok (.putfield 45, 3) := by decide +kernel
theorem dX4_remember_39 : decode cX4_remember 39 = .ok (.return_, 1) := by decide +kernel
theorem dX4_dropOldest_0 : decode cX4_dropOldest 0 = .ok (.aload_n 0, 1) := by decide +kernel
theorem dX4_dropOldest_1 : decode cX4_dropOldest 1 = .ok (.getfield 22, 3) := by decide +kernel
theorem dX4_dropOldest_4 : decode cX4_dropOldest 4 = .ok (.iconst 0, 1) := by decide +kernel
theorem dX4_dropOldest_5 : decode cX4_dropOldest 5 = .ok (.aaload, 1) := by decide +kernel
theorem dX4_dropOldest_6 : decode cX4_dropOldest 6 = .ok (.astore_n 1, 1) := by decide +kernel
theorem dX4_dropOldest_7 : decode cX4_dropOldest 7 = .ok (.iconst 1, 1) := by decide +kernel
theorem dX4_dropOldest_8 : decode cX4_dropOldest 8 = .ok (.istore_n 2, 1) := by decide +kernel
theorem dX4_dropOldest_9 : decode cX4_dropOldest 9 = .ok (.iload_n 2, 1) := by decide +kernel
theorem dX4_dropOldest_10 : decode cX4_dropOldest 10 = .ok (.bipush 8, 2) := by decide +kernel
theorem dX4_dropOldest_12 : decode cX4_dropOldest 12 = .ok (.if_icmp .ge 23, 3) := by decide +kernel
theorem dX4_dropOldest_15 : decode cX4_dropOldest 15 = .ok (.aload_n 0, 1) := by decide +kernel
theorem dX4_dropOldest_16 : decode cX4_dropOldest 16 = .ok (.getfield 22, 3) := by decide +kernel
theorem dX4_dropOldest_19 : decode cX4_dropOldest 19 = .ok (.iload_n 2, 1) := by decide +kernel
theorem dX4_dropOldest_20 : decode cX4_dropOldest 20 = .ok (.iconst 1, 1) := by decide +kernel
theorem dX4_dropOldest_21 : decode cX4_dropOldest 21 = .ok (.isub, 1) := by decide +kernel
theorem dX4_dropOldest_22 : decode cX4_dropOldest 22 = .ok (.aload_n 0, 1) := by decide +kernel
theorem dX4_dropOldest_23 : decode cX4_dropOldest 23 = .ok (.getfield 22, 3) := by decide +kernel
theorem dX4_dropOldest_26 : decode cX4_dropOldest 26 = .ok (.iload_n 2, 1) := by decide +kernel
theorem dX4_dropOldest_27 : decode cX4_dropOldest 27 = .ok (.aaload, 1) := by decide +kernel
theorem dX4_dropOldest_28 : decode cX4_dropOldest 28 = .ok (.aastore, 1) := by decide +kernel
theorem dX4_dropOldest_29 : decode cX4_dropOldest 29 = .ok (.iinc 2 1, 3) := by decide +kernel
theorem dX4_dropOldest_32 : decode cX4_dropOldest 32 = .ok (.goto (-23), 3) := by decide +kernel
theorem dX4_dropOldest_35 : decode cX4_dropOldest 35 = .ok (.aload_n 0, 1) := by decide +kernel
theorem dX4_dropOldest_36 : decode cX4_dropOldest 36 = .ok (.getfield 22, 3) := by decide +kernel
theorem dX4_dropOldest_39 : decode cX4_dropOldest 39 = .ok (.bipush 7, 2) := by decide +kernel
theorem dX4_dropOldest_41 : decode cX4_dropOldest 41 = .ok (.aload_n 1, 1) := by decide +kernel
theorem dX4_dropOldest_42 : decode cX4_dropOldest 42 = .ok (.aastore, 1) := by decide +kernel
theorem dX4_dropOldest_43 : decode cX4_dropOldest 43 = .ok (.aload_n 0, 1) := by decide +kernel
theorem dX4_dropOldest_44 : decode cX4_dropOldest 44 = .ok (.dup, 1) := by decide +kernel
theorem dX4_dropOldest_45 : decode cX4_dropOldest 45 = .ok (.getfield 45, 3) := by decide +kernel
theorem dX4_dropOldest_48 : decode cX4_dropOldest 48 = .ok (.iconst 1, 1) := by decide +kernel
theorem dX4_dropOldest_49 : decode cX4_dropOldest 49 = .ok (.isub, 1) := by decide +kernel
theorem dX4_dropOldest_50 : decode cX4_dropOldest 50 = .ok (.putfield 45, 3) := by decide +kernel
theorem dX4_dropOldest_53 : decode cX4_dropOldest 53 = .ok (.return_, 1) := by decide +kernel
set_option maxRecDepth 20000 in
theorem ggX4_goBack_X1_become : GoodIn wsX4_goBack wsX1_become := goodIn_r _ [8, 9, 10, 11, 12, 13, 14, 15, 16, 17, 18, 30, 31, 32, 33, 34, 35] rfl gw_wsX1_become
set_option maxRecDepth 20000 in
theorem gX4_goBack_X1_become : GoodIn wsX4_goBack (wsV RX4 69 RX1 yX1_become wsX1_become) := goodIn_app (goodIn_r _ [4, 5, 6, 7] (by exact rfl) (by decide +kernel)) ggX4_goBack_X1_become
theorem dX4_goBack_0 : decode cX4_goBack 0 = .ok (.aload_n 0, 1) := by decide +kernel
theorem dX4_goBack_1 : decode cX4_goBack 1 = .ok (.dup, 1) := by decide +kernel
theorem dX4_goBack_2 : decode cX4_goBack 2 = .ok (.getfield 45, 3) := by decide +kernel
theorem dX4_goBack_5 : decode cX4_goBack 5 = .ok (.iconst 1, 1) := by decide +kernel
theorem dX4_goBack_6 : decode cX4_goBack 6 = .ok (.isub, 1) := by decide +kernel
theorem dX4_goBack_7 : decode cX4_goBack 7 = .ok (.putfield 45, 3) := by decide +kernel
theorem dX4_goBack_10 : decode cX4_goBack 10 = .ok (.aload_n 0, 1) := by decide +kernel
theorem dX4_goBack_11 : decode cX4_goBack 11 = .ok (.getfield 18, 3) := by decide +kernel
theorem dX4_goBack_14 : decode cX4_goBack 14 = .ok (.aload_n 0, 1) := by decide +kernel
theorem dX4_goBack_15 : decode cX4_goBack 15 = .ok (.getfield 22, 3) := by decide +kernel
theorem dX4_goBack_18 : decode cX4_goBack 18 = .ok (.aload_n 0, 1) := by decide +kernel
theorem dX4_goBack_19 : decode cX4_goBack 19 = .ok (.getfield 45, 3) := by decide +kernel
theorem dX4_goBack_22 : decode cX4_goBack 22 = .ok (.aaload, 1) := by decide +kernel
theorem dX4_goBack_23 : decode cX4_goBack 23 = .ok (.invokevirtual 69, 3) := by decide +kernel
theorem dX4_goBack_26 : decode cX4_goBack 26 = .ok (.return_, 1) := by decide +kernel
set_option maxRecDepth 20000 in
theorem gw_wsX2_sight : wsX2_sight.all goodWord = true := by decide +kernel
set_option maxRecDepth 20000 in
theorem ggX4_shows_X2_sight : GoodIn wsX4_shows wsX2_sight := goodIn_r _ [11, 12, 13, 14, 15, 16, 17, 18, 19, 20, 21, 22, 6, 23, 24, 25, 26, 27] rfl gw_wsX2_sight
set_option maxRecDepth 20000 in
theorem gX4_shows_X2_sight_u89X2 : GoodIn wsX4_shows (va_wsO RX4 89 RX2 "GleanDusk$Plain" ⟨"GleanDusk$Plain", "sight", "(III)I"⟩ yX2_sight wsX2_sight) := goodIn_app (goodIn_of _ (by decide +kernel)) ggX4_shows_X2_sight
set_option maxRecDepth 20000 in
theorem gw_wsX3_sight : wsX3_sight.all goodWord = true := by decide +kernel
set_option maxRecDepth 20000 in
theorem ggX4_shows_X3_sight : GoodIn wsX4_shows wsX3_sight := goodIn_r _ [31, 32, 33, 34, 35, 36, 37, 38, 6, 39, 24, 25, 26, 27, 13, 14, 15] rfl gw_wsX3_sight
set_option maxRecDepth 20000 in
theorem gX4_shows_X3_sight_u89X3 : GoodIn wsX4_shows (va_wsO RX4 89 RX3 "GleanDusk$Plain" ⟨"GleanDusk$Plain", "sight", "(III)I"⟩ yX3_sight wsX3_sight) := goodIn_app (goodIn_of _ (by decide +kernel)) ggX4_shows_X3_sight
set_option maxRecDepth 20000 in
theorem gw_wsX5_sight : wsX5_sight.all goodWord = true := by decide +kernel
set_option maxRecDepth 20000 in
theorem ggX4_shows_X5_sight : GoodIn wsX4_shows wsX5_sight := goodIn_r _ [26, 27, 13, 14, 15] rfl gw_wsX5_sight
set_option maxRecDepth 20000 in
theorem gX4_shows_X5_sight : GoodIn wsX4_shows (wsV RX4 89 RX5 yX5_sight wsX5_sight) := goodIn_app (goodIn_r _ [40, 24, 41, 25] (by exact rfl) (by decide +kernel)) ggX4_shows_X5_sight
set_option maxRecDepth 20000 in
theorem gw_wsX6_sight : wsX6_sight.all goodWord = true := by decide +kernel
set_option maxRecDepth 20000 in
theorem ggX4_shows_X6_sight : GoodIn wsX4_shows wsX6_sight := goodIn_r _ [45, 46, 47, 14, 48, 49, 6, 50, 24, 25, 26, 27, 13, 15] rfl gw_wsX6_sight
set_option maxRecDepth 20000 in
theorem gX4_shows_X6_sight_u89X6 : GoodIn wsX4_shows (va_wsO RX4 89 RX6 "GleanDusk$Plain" ⟨"GleanDusk$Plain", "sight", "(III)I"⟩ yX6_sight wsX6_sight) := goodIn_app (goodIn_of _ (by decide +kernel)) ggX4_shows_X6_sight
set_option maxRecDepth 20000 in
theorem ggX4_shows_X8_sight : GoodIn wsX4_shows wsX8_sight := goodIn_r _ [21, 22, 6, 23, 24, 25, 26, 27, 13, 14, 15] rfl gw_wsX8_sight
set_option maxRecDepth 20000 in
theorem gX4_shows_X8_sight_u89X8 : GoodIn wsX4_shows (va_wsO RX4 89 RX8 "GleanDusk$Plain" ⟨"GleanDusk$Plain", "sight", "(III)I"⟩ yX8_sight wsX8_sight) := goodIn_app (goodIn_of _ (by decide +kernel)) ggX4_shows_X8_sight
set_option maxRecDepth 20000 in
theorem ggX4_shows_X9_sight : GoodIn wsX4_shows wsX9_sight := goodIn_r _ [37, 38, 6, 39, 24, 25, 26, 27, 13, 14, 15] rfl gw_wsX9_sight
set_option maxRecDepth 20000 in
theorem gX4_shows_X9_sight_u89X9 : GoodIn wsX4_shows (va_wsO RX4 89 RX9 "GleanDusk$Plain" ⟨"GleanDusk$Plain", "sight", "(III)I"⟩ yX9_sight wsX9_sight) := goodIn_app (goodIn_of _ (by decide +kernel)) ggX4_shows_X9_sight
theorem dX4_shows_0 : decode cX4_shows 0 = .ok (.iload_n 3, 1) := by decide +kernel
theorem dX4_shows_1 : decode cX4_shows 1 = .ok (.bipush 12, 2) := by decide +kernel
theorem dX4_shows_3 : decode cX4_shows 3 = .ok (.if_icmp .lt 7, 3) := by decide +kernel
theorem dX4_shows_6 : decode cX4_shows 6 = .ok (.iconst 0, 1) := by decide +kernel
theorem dX4_shows_7 : decode cX4_shows 7 = .ok (.goto 28, 3) := by decide +kernel
theorem dX4_shows_10 : decode cX4_shows 10 = .ok (.aload_n 0, 1) := by decide +kernel
theorem dX4_shows_11 : decode cX4_shows 11 = .ok (.getfield 34, 3) := by decide +kernel
theorem dX4_shows_14 : decode cX4_shows 14 = .ok (.aload_n 0, 1) := by decide +kernel
theorem dX4_shows_15 : decode cX4_shows 15 = .ok (.getfield 9, 3) := by decide +kernel
theorem dX4_shows_18 : decode cX4_shows 18 = .ok (.iload_n 2, 1) := by decide +kernel
theorem dX4_shows_19 : decode cX4_shows 19 = .ok (.iaload, 1) := by decide +kernel
theorem dX4_shows_20 : decode cX4_shows 20 = .ok (.aaload, 1) := by decide +kernel
theorem dX4_shows_21 : decode cX4_shows 21 = .ok (.iload_n 3, 1) := by decide +kernel
theorem dX4_shows_22 : decode cX4_shows 22 = .ok (.aload_n 1, 1) := by decide +kernel
theorem dX4_shows_23 : decode cX4_shows 23 = .ok (.getfield 77, 3) := by decide +kernel
theorem dX4_shows_26 : decode cX4_shows 26 = .ok (.iload_n 2, 1) := by decide +kernel
theorem dX4_shows_27 : decode cX4_shows 27 = .ok (.iaload, 1) := by decide +kernel
theorem dX4_shows_28 : decode cX4_shows 28 = .ok (.aload_n 1, 1) := by decide +kernel
theorem dX4_shows_29 : decode cX4_shows 29 = .ok (.getfield 57, 3) := by decide +kernel
theorem dX4_shows_32 : decode cX4_shows 32 = .ok (.invokevirtual 89, 3) := by decide +kernel
theorem dX4_shows_35 : decode cX4_shows 35 = .ok (.ireturn, 1) := by decide +kernel
theorem dX4_crowd_0 : decode cX4_crowd 0 = .ok (.iconst 0, 1) := by decide +kernel
theorem dX4_crowd_1 : decode cX4_crowd 1 = .ok (.istore_n 3, 1) := by decide +kernel
theorem dX4_crowd_2 : decode cX4_crowd 2 = .ok (.iconst 0, 1) := by decide +kernel
theorem dX4_crowd_3 : decode cX4_crowd 3 = .ok (.istore 4, 2) := by decide +kernel
theorem dX4_crowd_5 : decode cX4_crowd 5 = .ok (.iload 4, 2) := by decide +kernel
theorem dX4_crowd_7 : decode cX4_crowd 7 = .ok (.aload_n 0, 1) := by decide +kernel
theorem dX4_crowd_8 : decode cX4_crowd 8 = .ok (.getfield 42, 3) := by decide +kernel
theorem dX4_crowd_11 : decode cX4_crowd 11 = .ok (.if_icmp .ge 23, 3) := by decide +kernel
theorem dX4_crowd_14 : decode cX4_crowd 14 = .ok (.aload_n 1, 1) := by decide +kernel
theorem dX4_crowd_15 : decode cX4_crowd 15 = .ok (.getfield 80, 3) := by decide +kernel
theorem dX4_crowd_18 : decode cX4_crowd 18 = .ok (.iload 4, 2) := by decide +kernel
theorem dX4_crowd_20 : decode cX4_crowd 20 = .ok (.iaload, 1) := by decide +kernel
theorem dX4_crowd_21 : decode cX4_crowd 21 = .ok (.iload_n 2, 1) := by decide +kernel
theorem dX4_crowd_22 : decode cX4_crowd 22 = .ok (.if_icmp .ne 6, 3) := by decide +kernel
theorem dX4_crowd_25 : decode cX4_crowd 25 = .ok (.iinc 3 1, 3) := by decide +kernel
theorem dX4_crowd_28 : decode cX4_crowd 28 = .ok (.iinc 4 1, 3) := by decide +kernel
theorem dX4_crowd_31 : decode cX4_crowd 31 = .ok (.goto (-26), 3) := by decide +kernel
theorem dX4_crowd_34 : decode cX4_crowd 34 = .ok (.iload_n 3, 1) := by decide +kernel
theorem dX4_crowd_35 : decode cX4_crowd 35 = .ok (.ireturn, 1) := by decide +kernel
set_option maxRecDepth 20000 in
theorem gw_wsX4_crowd : wsX4_crowd.all goodWord = true := by decide +kernel
set_option maxRecDepth 20000 in
theorem ggX4_share_X4_crowd : GoodIn wsX4_share wsX4_crowd := goodIn_r _ [6, 7, 8, 71, 72, 73, 74, 75, 76, 77, 78, 79, 80, 81, 65, 66, 67, 68, 69, 70] rfl gw_wsX4_crowd
set_option maxRecDepth 20000 in
theorem gX4_share_X4_crowd : GoodIn wsX4_share (wsV RX4 95 RX4 yX4_crowd wsX4_crowd) := goodIn_app (goodIn_r _ [2, 3, 4, 5] (by exact rfl) (by decide +kernel)) ggX4_share_X4_crowd
set_option maxRecDepth 20000 in
theorem gw_wsX4_shows : wsX4_shows.all goodWord = true := by decide +kernel
set_option maxRecDepth 20000 in
theorem ggX4_share_X4_shows : GoodIn wsX4_share wsX4_shows := goodIn_r _ [12, 13, 14, 15, 16, 17, 18, 19, 20, 21, 22, 23, 24, 25, 26, 27, 28, 29, 30, 31, 32, 33, 34, 35, 36, 37, 38, 39, 40, 41, 42, 43, 44, 45, 46, 47, 48, 49, 50, 51, 52, 53, 54, 55, 56, 57, 58, 59, 60, 61, 62, 63, 64, 71, 72, 73, 74, 75, 76, 77, 78, 79, 80, 81, 65, 66, 67, 68, 69, 70] rfl gw_wsX4_shows
set_option maxRecDepth 20000 in
theorem gX4_share_X4_shows : GoodIn wsX4_share (wsV RX4 99 RX4 yX4_shows wsX4_shows) := goodIn_app (goodIn_r _ [9, 10, 11, 5] (by exact rfl) (by decide +kernel)) ggX4_share_X4_shows
theorem dX4_share_0 : decode cX4_share 0 = .ok (.aload_n 0, 1) := by decide +kernel
theorem dX4_share_1 : decode cX4_share 1 = .ok (.aload_n 1, 1) := by decide +kernel
theorem dX4_share_2 : decode cX4_share 2 = .ok (.iload_n 2, 1) := by decide +kernel
theorem dX4_share_3 : decode cX4_share 3 = .ok (.invokevirtual 95, 3) := by decide +kernel
theorem dX4_share_6 : decode cX4_share 6 = .ok (.istore_n 3, 1) := by decide +kernel
theorem dX4_share_7 : decode cX4_share 7 = .ok (.iload_n 3, 1) := by decide +kernel
theorem dX4_share_8 : decode cX4_share 8 = .ok (.ifCond .ne 7, 3) := by decide +kernel
theorem dX4_share_11 : decode cX4_share 11 = .ok (.iconst 0, 1) := by decide +kernel
theorem dX4_share_12 : decode cX4_share 12 = .ok (.goto 15, 3) := by decide +kernel
theorem dX4_share_15 : decode cX4_share 15 = .ok (.aload_n 0, 1) := by decide +kernel
theorem dX4_share_16 : decode cX4_share 16 = .ok (.aload_n 1, 1) := by decide +kernel
theorem dX4_share_17 : decode cX4_share 17 = .ok (.iload_n 2, 1) := by decide +kernel
theorem dX4_share_18 : decode cX4_share 18 = .ok (.aload_n 1, 1) := by decide +kernel
theorem dX4_share_19 : decode cX4_share 19 = .ok (.getfield 54, 3) := by decide +kernel
theorem dX4_share_22 : decode cX4_share 22 = .ok (.invokevirtual 99, 3) := by decide +kernel
theorem dX4_share_25 : decode cX4_share 25 = .ok (.iload_n 3, 1) := by decide +kernel
theorem dX4_share_26 : decode cX4_share 26 = .ok (.idiv, 1) := by decide +kernel
theorem dX4_share_27 : decode cX4_share 27 = .ok (.ireturn, 1) := by decide +kernel
set_option maxRecDepth 20000 in
theorem gw_wsX4_share : wsX4_share.all goodWord = true := by decide +kernel
set_option maxRecDepth 20000 in
theorem ggX4_gather_X4_share : GoodIn wsX4_gather wsX4_share := goodIn_r _ [7, 2, 8, 9, 10, 6, 11, 12, 13, 14, 15, 16, 17, 18, 19, 20, 21, 22, 23, 24, 25, 26, 27, 28, 29, 30, 31, 32, 33, 34, 35, 36, 37, 38, 39, 40, 41, 42, 43, 44, 45, 46, 47, 48, 49, 50, 51, 52, 53, 54, 55, 56, 57, 58, 59, 60, 61, 62, 63, 64, 65, 66, 67, 68, 69, 88, 89, 90, 91, 92, 93, 77, 78, 79, 80, 81, 82, 83, 84, 85, 86, 87] rfl gw_wsX4_share
set_option maxRecDepth 20000 in
theorem gX4_gather_X4_share : GoodIn wsX4_gather (wsV RX4 103 RX4 yX4_share wsX4_share) := goodIn_app (goodIn_r _ [3, 4, 5, 6] (by exact rfl) (by decide +kernel)) ggX4_gather_X4_share
set_option maxRecDepth 20000 in
theorem gw_wsX4_give : wsX4_give.all goodWord = true := by decide +kernel
set_option maxRecDepth 20000 in
theorem ggX4_gather_X4_give : GoodIn wsX4_gather wsX4_give := goodIn_r _ [73, 12, 13, 74, 75, 64, 31, 65, 20, 76, 30, 32, 77, 78, 79, 80, 81, 82, 83, 84, 85, 86, 87, 88, 89, 90, 91, 92, 93] rfl gw_wsX4_give
set_option maxRecDepth 20000 in
theorem gX4_gather_X4_give : GoodIn wsX4_gather (wsV RX4 106 RX4 yX4_give wsX4_give) := goodIn_app (goodIn_r _ [70, 71, 72, 6] (by exact rfl) (by decide +kernel)) ggX4_gather_X4_give
theorem dX4_gather_0 : decode cX4_gather 0 = .ok (.iconst 0, 1) := by decide +kernel
theorem dX4_gather_1 : decode cX4_gather 1 = .ok (.istore_n 3, 1) := by decide +kernel
theorem dX4_gather_2 : decode cX4_gather 2 = .ok (.iconst 0, 1) := by decide +kernel
theorem dX4_gather_3 : decode cX4_gather 3 = .ok (.istore 4, 2) := by decide +kernel
theorem dX4_gather_5 : decode cX4_gather 5 = .ok (.iload 4, 2) := by decide +kernel
theorem dX4_gather_7 : decode cX4_gather 7 = .ok (.iload_n 2, 1) := by decide +kernel
theorem dX4_gather_8 : decode cX4_gather 8 = .ok (.if_icmp .ge 54, 3) := by decide +kernel
theorem dX4_gather_11 : decode cX4_gather 11 = .ok (.iconst 0, 1) := by decide +kernel
theorem dX4_gather_12 : decode cX4_gather 12 = .ok (.istore 5, 2) := by decide +kernel
theorem dX4_gather_14 : decode cX4_gather 14 = .ok (.iload 5, 2) := by decide +kernel
theorem dX4_gather_16 : decode cX4_gather 16 = .ok (.aload_n 0, 1) := by decide +kernel
theorem dX4_gather_17 : decode cX4_gather 17 = .ok (.getfield 38, 3) := by decide +kernel
theorem dX4_gather_20 : decode cX4_gather 20 = .ok (.if_icmp .ge 26, 3) := by decide +kernel
theorem dX4_gather_23 : decode cX4_gather 23 = .ok (.iload_n 3, 1) := by decide +kernel
theorem dX4_gather_24 : decode cX4_gather 24 = .ok (.aload_n 0, 1) := by decide +kernel
theorem dX4_gather_25 : decode cX4_gather 25 = .ok (.aload_n 1, 1) := by decide +kernel
theorem dX4_gather_26 : decode cX4_gather 26 = .ok (.iload 5, 2) := by decide +kernel
theorem dX4_gather_28 : decode cX4_gather 28 = .ok (.aload_n 0, 1) := by decide +kernel
theorem dX4_gather_29 : decode cX4_gather 29 = .ok (.aload_n 1, 1) := by decide +kernel
theorem dX4_gather_30 : decode cX4_gather 30 = .ok (.iload 5, 2) := by decide +kernel
theorem dX4_gather_32 : decode cX4_gather 32 = .ok (.invokevirtual 103, 3) := by decide +kernel
theorem dX4_gather_35 : decode cX4_gather 35 = .ok (.invokevirtual 106, 3) := by decide +kernel
theorem dX4_gather_38 : decode cX4_gather 38 = .ok (.iadd, 1) := by decide +kernel
theorem dX4_gather_39 : decode cX4_gather 39 = .ok (.istore_n 3, 1) := by decide +kernel
theorem dX4_gather_40 : decode cX4_gather 40 = .ok (.iinc 5 1, 3) := by decide +kernel
theorem dX4_gather_43 : decode cX4_gather 43 = .ok (.goto (-29), 3) := by decide +kernel
theorem dX4_gather_46 : decode cX4_gather 46 = .ok (.aload_n 1, 1) := by decide +kernel
theorem dX4_gather_47 : decode cX4_gather 47 = .ok (.dup, 1) := by decide +kernel
theorem dX4_gather_48 : decode cX4_gather 48 = .ok (.getfield 54, 3) := by decide +kernel
theorem dX4_gather_51 : decode cX4_gather 51 = .ok (.iconst 1, 1) := by decide +kernel
theorem dX4_gather_52 : decode cX4_gather 52 = .ok (.iadd, 1) := by decide +kernel
theorem dX4_gather_53 : decode cX4_gather 53 = .ok (.putfield 54, 3) := by decide +kernel
theorem dX4_gather_56 : decode cX4_gather 56 = .ok (.iinc 4 1, 3) := by decide +kernel
theorem dX4_gather_59 : decode cX4_gather 59 = .ok (.goto (-54), 3) := by decide +kernel
theorem dX4_gather_62 : decode cX4_gather 62 = .ok (.iload_n 3, 1) := by decide +kernel
theorem dX4_gather_63 : decode cX4_gather 63 = .ok (.ireturn, 1) := by decide +kernel
theorem dX4_give_0 : decode cX4_give 0 = .ok (.iconst 0, 1) := by decide +kernel
theorem dX4_give_1 : decode cX4_give 1 = .ok (.istore 4, 2) := by decide +kernel
theorem dX4_give_3 : decode cX4_give 3 = .ok (.iconst 0, 1) := by decide +kernel
theorem dX4_give_4 : decode cX4_give 4 = .ok (.istore 5, 2) := by decide +kernel
theorem dX4_give_6 : decode cX4_give 6 = .ok (.iload 5, 2) := by decide +kernel
theorem dX4_give_8 : decode cX4_give 8 = .ok (.aload_n 0, 1) := by decide +kernel
theorem dX4_give_9 : decode cX4_give 9 = .ok (.getfield 42, 3) := by decide +kernel
theorem dX4_give_12 : decode cX4_give 12 = .ok (.if_icmp .ge 51, 3) := by decide +kernel
theorem dX4_give_15 : decode cX4_give 15 = .ok (.aload_n 1, 1) := by decide +kernel
theorem dX4_give_16 : decode cX4_give 16 = .ok (.getfield 80, 3) := by decide +kernel
theorem dX4_give_19 : decode cX4_give 19 = .ok (.iload 5, 2) := by decide +kernel
theorem dX4_give_21 : decode cX4_give 21 = .ok (.iaload, 1) := by decide +kernel
theorem dX4_give_22 : decode cX4_give 22 = .ok (.iload_n 2, 1) := by decide +kernel
theorem dX4_give_23 : decode cX4_give 23 = .ok (.if_icmp .eq 6, 3) := by decide +kernel
theorem dX4_give_26 : decode cX4_give 26 = .ok (.goto 31, 3) := by decide +kernel
theorem dX4_give_29 : decode cX4_give 29 = .ok (.aload_n 1, 1) := by decide +kernel
theorem dX4_give_30 : decode cX4_give 30 = .ok (.getfield 83, 3) := by decide +kernel
theorem dX4_give_33 : decode cX4_give 33 = .ok (.iload 5, 2) := by decide +kernel
theorem dX4_give_35 : decode cX4_give 35 = .ok (.sipush 999, 3) := by decide +kernel
theorem dX4_give_38 : decode cX4_give 38 = .ok (.aload_n 1, 1) := by decide +kernel
theorem dX4_give_39 : decode cX4_give 39 = .ok (.getfield 83, 3) := by decide +kernel
theorem dX4_give_42 : decode cX4_give 42 = .ok (.iload 5, 2) := by decide +kernel
theorem dX4_give_44 : decode cX4_give 44 = .ok (.iaload, 1) := by decide +kernel
theorem dX4_give_45 : decode cX4_give 45 = .ok (.iload_n 3, 1) := by decide +kernel
theorem dX4_give_46 : decode cX4_give 46 = .ok (.iadd, 1) := by decide +kernel
theorem dX4_give_47 : decode cX4_give 47 = .ok (.invokestatic 109, 3) := by decide +kernel
theorem dX4_give_50 : decode cX4_give 50 = .ok (.iastore, 1) := by decide +kernel
theorem dX4_give_51 : decode cX4_give 51 = .ok (.iload 4, 2) := by decide +kernel
theorem dX4_give_53 : decode cX4_give 53 = .ok (.iload_n 3, 1) := by decide +kernel
theorem dX4_give_54 : decode cX4_give 54 = .ok (.iadd, 1) := by decide +kernel
theorem dX4_give_55 : decode cX4_give 55 = .ok (.istore 4, 2) := by decide +kernel
theorem dX4_give_57 : decode cX4_give 57 = .ok (.iinc 5 1, 3) := by decide +kernel
theorem dX4_give_60 : decode cX4_give 60 = .ok (.goto (-54), 3) := by decide +kernel
theorem dX4_give_63 : decode cX4_give 63 = .ok (.aload_n 1, 1) := by decide +kernel
theorem dX4_give_64 : decode cX4_give 64 = .ok (.getfield 77, 3) := by decide +kernel
theorem dX4_give_67 : decode cX4_give 67 = .ok (.iload_n 2, 1) := by decide +kernel
theorem dX4_give_68 : decode cX4_give 68 = .ok (.iconst 0, 1) := by decide +kernel
theorem dX4_give_69 : decode cX4_give 69 = .ok (.aload_n 1, 1) := by decide +kernel
theorem dX4_give_70 : decode cX4_give 70 = .ok (.getfield 77, 3) := by decide +kernel
theorem dX4_give_73 : decode cX4_give 73 = .ok (.iload_n 2, 1) := by decide +kernel
theorem dX4_give_74 : decode cX4_give 74 = .ok (.iaload, 1) := by decide +kernel
theorem dX4_give_75 : decode cX4_give 75 = .ok (.iload 4, 2) := by decide +kernel
theorem dX4_give_77 : decode cX4_give 77 = .ok (.isub, 1) := by decide +kernel
theorem dX4_give_78 : decode cX4_give 78 = .ok (.invokestatic 115, 3) := by decide +kernel
theorem dX4_give_81 : decode cX4_give 81 = .ok (.iastore, 1) := by decide +kernel
theorem dX4_give_82 : decode cX4_give 82 = .ok (.iload 4, 2) := by decide +kernel
theorem dX4_give_84 : decode cX4_give 84 = .ok (.ireturn, 1) := by decide +kernel
set_option maxRecDepth 20000 in
theorem gw_wsX10_faded : wsX10_faded.all goodWord = true := by decide +kernel
set_option maxRecDepth 20000 in
theorem ggX4_fade_X10_faded : GoodIn wsX4_fade wsX10_faded := goodIn_r _ [13] rfl gw_wsX10_faded
set_option maxRecDepth 20000 in
theorem gX4_fade_X10_faded_n118 : GoodIn wsX4_fade (wsX10_faded) := ggX4_fade_X10_faded
theorem dX4_fade_0 : decode cX4_fade 0 = .ok (.iconst 0, 1) := by decide +kernel
theorem dX4_fade_1 : decode cX4_fade 1 = .ok (.istore_n 2, 1) := by decide +kernel
theorem dX4_fade_2 : decode cX4_fade 2 = .ok (.iload_n 2, 1) := by decide +kernel
theorem dX4_fade_3 : decode cX4_fade 3 = .ok (.aload_n 0, 1) := by decide +kernel
theorem dX4_fade_4 : decode cX4_fade 4 = .ok (.getfield 42, 3) := by decide +kernel
theorem dX4_fade_7 : decode cX4_fade 7 = .ok (.if_icmp .ge 24, 3) := by decide +kernel
theorem dX4_fade_10 : decode cX4_fade 10 = .ok (.aload_n 1, 1) := by decide +kernel
theorem dX4_fade_11 : decode cX4_fade 11 = .ok (.getfield 83, 3) := by decide +kernel
theorem dX4_fade_14 : decode cX4_fade 14 = .ok (.iload_n 2, 1) := by decide +kernel
theorem dX4_fade_15 : decode cX4_fade 15 = .ok (.aload_n 1, 1) := by decide +kernel
theorem dX4_fade_16 : decode cX4_fade 16 = .ok (.getfield 83, 3) := by decide +kernel
theorem dX4_fade_19 : decode cX4_fade 19 = .ok (.iload_n 2, 1) := by decide +kernel
theorem dX4_fade_20 : decode cX4_fade 20 = .ok (.iaload, 1) := by decide +kernel
theorem dX4_fade_21 : decode cX4_fade 21 = .ok (.invokestatic 118, 3) := by decide +kernel
theorem dX4_fade_24 : decode cX4_fade 24 = .ok (.iastore, 1) := by decide +kernel
theorem dX4_fade_25 : decode cX4_fade 25 = .ok (.iinc 2 1, 3) := by decide +kernel
theorem dX4_fade_28 : decode cX4_fade 28 = .ok (.goto (-26), 3) := by decide +kernel
theorem dX4_fade_31 : decode cX4_fade 31 = .ok (.iconst 0, 1) := by decide +kernel
theorem dX4_fade_32 : decode cX4_fade 32 = .ok (.istore_n 2, 1) := by decide +kernel
theorem dX4_fade_33 : decode cX4_fade 33 = .ok (.iload_n 2, 1) := by decide +kernel
theorem dX4_fade_34 : decode cX4_fade 34 = .ok (.aload_n 0, 1) := by decide +kernel
theorem dX4_fade_35 : decode cX4_fade 35 = .ok (.getfield 38, 3) := by decide +kernel
theorem dX4_fade_38 : decode cX4_fade 38 = .ok (.if_icmp .ge 29, 3) := by decide +kernel
theorem dX4_fade_41 : decode cX4_fade 41 = .ok (.aload_n 1, 1) := by decide +kernel
theorem dX4_fade_42 : decode cX4_fade 42 = .ok (.getfield 77, 3) := by decide +kernel
theorem dX4_fade_45 : decode cX4_fade 45 = .ok (.iload_n 2, 1) := by decide +kernel
theorem dX4_fade_46 : decode cX4_fade 46 = .ok (.bipush 60, 2) := by decide +kernel
theorem dX4_fade_48 : decode cX4_fade 48 = .ok (.aload_n 1, 1) := by decide +kernel
theorem dX4_fade_49 : decode cX4_fade 49 = .ok (.getfield 77, 3) := by decide +kernel
theorem dX4_fade_52 : decode cX4_fade 52 = .ok (.iload_n 2, 1) := by decide +kernel
theorem dX4_fade_53 : decode cX4_fade 53 = .ok (.iaload, 1) := by decide +kernel
theorem dX4_fade_54 : decode cX4_fade 54 = .ok (.bipush 20, 2) := by decide +kernel
theorem dX4_fade_56 : decode cX4_fade 56 = .ok (.iadd, 1) := by decide +kernel
theorem dX4_fade_57 : decode cX4_fade 57 = .ok (.invokestatic 109, 3) := by decide +kernel
theorem dX4_fade_60 : decode cX4_fade 60 = .ok (.iastore, 1) := by decide +kernel
theorem dX4_fade_61 : decode cX4_fade 61 = .ok (.iinc 2 1, 3) := by decide +kernel
theorem dX4_fade_64 : decode cX4_fade 64 = .ok (.goto (-31), 3) := by decide +kernel
theorem dX4_fade_67 : decode cX4_fade 67 = .ok (.aload_n 1, 1) := by decide +kernel
theorem dX4_fade_68 : decode cX4_fade 68 = .ok (.sipush 999, 3) := by decide +kernel
theorem dX4_fade_71 : decode cX4_fade 71 = .ok (.aload_n 1, 1) := by decide +kernel
theorem dX4_fade_72 : decode cX4_fade 72 = .ok (.getfield 60, 3) := by decide +kernel
theorem dX4_fade_75 : decode cX4_fade 75 = .ok (.iconst 1, 1) := by decide +kernel
theorem dX4_fade_76 : decode cX4_fade 76 = .ok (.iadd, 1) := by decide +kernel
theorem dX4_fade_77 : decode cX4_fade 77 = .ok (.invokestatic 109, 3) := by decide +kernel
theorem dX4_fade_80 : decode cX4_fade 80 = .ok (.putfield 60, 3) := by decide +kernel
theorem dX4_fade_83 : decode cX4_fade 83 = .ok (.aload_n 1, 1) := by decide +kernel
theorem dX4_fade_84 : decode cX4_fade 84 = .ok (.iconst 0, 1) := by decide +kernel
theorem dX4_fade_85 : decode cX4_fade 85 = .ok (.putfield 54, 3) := by decide +kernel
theorem dX4_fade_88 : decode cX4_fade 88 = .ok (.return_, 1) := by decide +kernel
theorem dX4_whoIsOn_0 : decode cX4_whoIsOn 0 = .ok (.iconst 0, 1) := by decide +kernel
theorem dX4_whoIsOn_1 : decode cX4_whoIsOn 1 = .ok (.istore_n 2, 1) := by decide +kernel
theorem dX4_whoIsOn_2 : decode cX4_whoIsOn 2 = .ok (.iconst 0, 1) := by decide +kernel
theorem dX4_whoIsOn_3 : decode cX4_whoIsOn 3 = .ok (.istore_n 3, 1) := by decide +kernel
theorem dX4_whoIsOn_4 : decode cX4_whoIsOn 4 = .ok (.iload_n 3, 1) := by decide +kernel
theorem dX4_whoIsOn_5 : decode cX4_whoIsOn 5 = .ok (.aload_n 0, 1) := by decide +kernel
theorem dX4_whoIsOn_6 : decode cX4_whoIsOn 6 = .ok (.getfield 42, 3) := by decide +kernel
theorem dX4_whoIsOn_9 : decode cX4_whoIsOn 9 = .ok (.if_icmp .ge 28, 3) := by decide +kernel
theorem dX4_whoIsOn_12 : decode cX4_whoIsOn 12 = .ok (.aload_n 0, 1) := by decide +kernel
theorem dX4_whoIsOn_13 : decode cX4_whoIsOn 13 = .ok (.getfield 18, 3) := by decide +kernel
theorem dX4_whoIsOn_16 : decode cX4_whoIsOn 16 = .ok (.getfield 80, 3) := by decide +kernel
theorem dX4_whoIsOn_19 : decode cX4_whoIsOn 19 = .ok (.iload_n 3, 1) := by decide +kernel
theorem dX4_whoIsOn_20 : decode cX4_whoIsOn 20 = .ok (.iaload, 1) := by decide +kernel
theorem dX4_whoIsOn_21 : decode cX4_whoIsOn 21 = .ok (.iload_n 1, 1) := by decide +kernel
theorem dX4_whoIsOn_22 : decode cX4_whoIsOn 22 = .ok (.if_icmp .ne 9, 3) := by decide +kernel
theorem dX4_whoIsOn_25 : decode cX4_whoIsOn 25 = .ok (.iload_n 2, 1) := by decide +kernel
theorem dX4_whoIsOn_26 : decode cX4_whoIsOn 26 = .ok (.iconst 1, 1) := by decide +kernel
theorem dX4_whoIsOn_27 : decode cX4_whoIsOn 27 = .ok (.iload_n 3, 1) := by decide +kernel
theorem dX4_whoIsOn_28 : decode cX4_whoIsOn 28 = .ok (.ishl, 1) := by decide +kernel
theorem dX4_whoIsOn_29 : decode cX4_whoIsOn 29 = .ok (.ior, 1) := by decide +kernel
theorem dX4_whoIsOn_30 : decode cX4_whoIsOn 30 = .ok (.istore_n 2, 1) := by decide +kernel
theorem dX4_whoIsOn_31 : decode cX4_whoIsOn 31 = .ok (.iinc 3 1, 3) := by decide +kernel
theorem dX4_whoIsOn_34 : decode cX4_whoIsOn 34 = .ok (.goto (-30), 3) := by decide +kernel
theorem dX4_whoIsOn_37 : decode cX4_whoIsOn 37 = .ok (.iload_n 2, 1) := by decide +kernel
theorem dX4_whoIsOn_38 : decode cX4_whoIsOn 38 = .ok (.ireturn, 1) := by decide +kernel
theorem dX4_storesOf_0 : decode cX4_storesOf 0 = .ok (.iconst 0, 1) := by decide +kernel
theorem dX4_storesOf_1 : decode cX4_storesOf 1 = .ok (.istore_n 2, 1) := by decide +kernel
theorem dX4_storesOf_2 : decode cX4_storesOf 2 = .ok (.iconst 0, 1) := by decide +kernel
theorem dX4_storesOf_3 : decode cX4_storesOf 3 = .ok (.istore_n 3, 1) := by decide +kernel
theorem dX4_storesOf_4 : decode cX4_storesOf 4 = .ok (.iload_n 3, 1) := by decide +kernel
theorem dX4_storesOf_5 : decode cX4_storesOf 5 = .ok (.aload_n 0, 1) := by decide +kernel
theorem dX4_storesOf_6 : decode cX4_storesOf 6 = .ok (.getfield 42, 3) := by decide +kernel
theorem dX4_storesOf_9 : decode cX4_storesOf 9 = .ok (.if_icmp .ge 30, 3) := by decide +kernel
theorem dX4_storesOf_12 : decode cX4_storesOf 12 = .ok (.iload_n 1, 1) := by decide +kernel
theorem dX4_storesOf_13 : decode cX4_storesOf 13 = .ok (.iload_n 3, 1) := by decide +kernel
theorem dX4_storesOf_14 : decode cX4_storesOf 14 = .ok (.ishr, 1) := by decide +kernel
theorem dX4_storesOf_15 : decode cX4_storesOf 15 = .ok (.iconst 1, 1) := by decide +kernel
theorem dX4_storesOf_16 : decode cX4_storesOf 16 = .ok (.iand, 1) := by decide +kernel
theorem dX4_storesOf_17 : decode cX4_storesOf 17 = .ok (.iconst 1, 1) := by decide +kernel
theorem dX4_storesOf_18 : decode cX4_storesOf 18 = .ok (.if_icmp .ne 15, 3) := by decide +kernel
theorem dX4_storesOf_21 : decode cX4_storesOf 21 = .ok (.iload_n 2, 1) := by decide +kernel
theorem dX4_storesOf_22 : decode cX4_storesOf 22 = .ok (.aload_n 0, 1) := by decide +kernel
theorem dX4_storesOf_23 : decode cX4_storesOf 23 = .ok (.getfield 18, 3) := by decide +kernel
theorem dX4_storesOf_26 : decode cX4_storesOf 26 = .ok (.getfield 83, 3) := by decide +kernel
theorem dX4_storesOf_29 : decode cX4_storesOf 29 = .ok (.iload_n 3, 1) := by decide +kernel
theorem dX4_storesOf_30 : decode cX4_storesOf 30 = .ok (.iaload, 1) := by decide +kernel
theorem dX4_storesOf_31 : decode cX4_storesOf 31 = .ok (.iadd, 1) := by decide +kernel
theorem dX4_storesOf_32 : decode cX4_storesOf 32 = .ok (.istore_n 2, 1) := by decide +kernel
theorem dX4_storesOf_33 : decode cX4_storesOf 33 = .ok (.iinc 3 1, 3) := by decide +kernel
theorem dX4_storesOf_36 : decode cX4_storesOf 36 = .ok (.goto (-32), 3) := by decide +kernel
theorem dX4_storesOf_39 : decode cX4_storesOf 39 = .ok (.iload_n 2, 1) := by decide +kernel
theorem dX4_storesOf_40 : decode cX4_storesOf 40 = .ok (.ireturn, 1) := by decide +kernel
set_option maxRecDepth 20000 in
theorem ggX4_missedFit_X2_sight : GoodIn wsX4_missedFit wsX2_sight := goodIn_r _ [11, 12, 13, 14, 15, 16, 17, 18, 19, 20, 21, 22, 6, 23, 24, 25, 26, 27] rfl gw_wsX2_sight
set_option maxRecDepth 20000 in
theorem gX4_missedFit_X2_sight_u89X2 : GoodIn wsX4_missedFit (va_wsO RX4 89 RX2 "GleanDusk$Plain" ⟨"GleanDusk$Plain", "sight", "(III)I"⟩ yX2_sight wsX2_sight) := goodIn_app (goodIn_of _ (by decide +kernel)) ggX4_missedFit_X2_sight
set_option maxRecDepth 20000 in
theorem ggX4_missedFit_X3_sight : GoodIn wsX4_missedFit wsX3_sight := goodIn_r _ [31, 32, 33, 34, 35, 36, 37, 38, 6, 39, 24, 25, 26, 27, 13, 14, 15] rfl gw_wsX3_sight
set_option maxRecDepth 20000 in
theorem gX4_missedFit_X3_sight_u89X3 : GoodIn wsX4_missedFit (va_wsO RX4 89 RX3 "GleanDusk$Plain" ⟨"GleanDusk$Plain", "sight", "(III)I"⟩ yX3_sight wsX3_sight) := goodIn_app (goodIn_of _ (by decide +kernel)) ggX4_missedFit_X3_sight
set_option maxRecDepth 20000 in
theorem ggX4_missedFit_X5_sight : GoodIn wsX4_missedFit wsX5_sight := goodIn_r _ [26, 27, 13, 14, 15] rfl gw_wsX5_sight
set_option maxRecDepth 20000 in
theorem gX4_missedFit_X5_sight : GoodIn wsX4_missedFit (wsV RX4 89 RX5 yX5_sight wsX5_sight) := goodIn_app (goodIn_r _ [40, 24, 41, 25] (by exact rfl) (by decide +kernel)) ggX4_missedFit_X5_sight
set_option maxRecDepth 20000 in
theorem ggX4_missedFit_X6_sight : GoodIn wsX4_missedFit wsX6_sight := goodIn_r _ [45, 46, 47, 14, 48, 49, 6, 50, 24, 25, 26, 27, 13, 15] rfl gw_wsX6_sight
set_option maxRecDepth 20000 in
theorem gX4_missedFit_X6_sight_u89X6 : GoodIn wsX4_missedFit (va_wsO RX4 89 RX6 "GleanDusk$Plain" ⟨"GleanDusk$Plain", "sight", "(III)I"⟩ yX6_sight wsX6_sight) := goodIn_app (goodIn_of _ (by decide +kernel)) ggX4_missedFit_X6_sight
set_option maxRecDepth 20000 in
theorem ggX4_missedFit_X8_sight : GoodIn wsX4_missedFit wsX8_sight := goodIn_r _ [21, 22, 6, 23, 24, 25, 26, 27, 13, 14, 15] rfl gw_wsX8_sight
set_option maxRecDepth 20000 in
theorem gX4_missedFit_X8_sight_u89X8 : GoodIn wsX4_missedFit (va_wsO RX4 89 RX8 "GleanDusk$Plain" ⟨"GleanDusk$Plain", "sight", "(III)I"⟩ yX8_sight wsX8_sight) := goodIn_app (goodIn_of _ (by decide +kernel)) ggX4_missedFit_X8_sight
set_option maxRecDepth 20000 in
theorem ggX4_missedFit_X9_sight : GoodIn wsX4_missedFit wsX9_sight := goodIn_r _ [37, 38, 6, 39, 24, 25, 26, 27, 13, 14, 15] rfl gw_wsX9_sight
set_option maxRecDepth 20000 in
theorem gX4_missedFit_X9_sight_u89X9 : GoodIn wsX4_missedFit (va_wsO RX4 89 RX9 "GleanDusk$Plain" ⟨"GleanDusk$Plain", "sight", "(III)I"⟩ yX9_sight wsX9_sight) := goodIn_app (goodIn_of _ (by decide +kernel)) ggX4_missedFit_X9_sight
theorem dX4_missedFit_0 : decode cX4_missedFit 0 = .ok (.iconst 0, 1) := by decide +kernel
theorem dX4_missedFit_1 : decode cX4_missedFit 1 = .ok (.istore_n 2, 1) := by decide +kernel
theorem dX4_missedFit_2 : decode cX4_missedFit 2 = .ok (.iload_n 2, 1) := by decide +kernel
theorem dX4_missedFit_3 : decode cX4_missedFit 3 = .ok (.aload_n 0, 1) := by decide +kernel
theorem dX4_missedFit_4 : decode cX4_missedFit 4 = .ok (.getfield 48, 3) := by decide +kernel
theorem dX4_missedFit_7 : decode cX4_missedFit 7 = .ok (.if_icmp .ge 47, 3) := by decide +kernel
theorem dX4_missedFit_10 : decode cX4_missedFit 10 = .ok (.aload_n 0, 1) := by decide +kernel
theorem dX4_missedFit_11 : decode cX4_missedFit 11 = .ok (.getfield 28, 3) := by decide +kernel
theorem dX4_missedFit_14 : decode cX4_missedFit 14 = .ok (.iload_n 2, 1) := by decide +kernel
theorem dX4_missedFit_15 : decode cX4_missedFit 15 = .ok (.aaload, 1) := by decide +kernel
theorem dX4_missedFit_16 : decode cX4_missedFit 16 = .ok (.astore_n 3, 1) := by decide +kernel
theorem dX4_missedFit_17 : decode cX4_missedFit 17 = .ok (.aload_n 0, 1) := by decide +kernel
theorem dX4_missedFit_18 : decode cX4_missedFit 18 = .ok (.getfield 34, 3) := by decide +kernel
theorem dX4_missedFit_21 : decode cX4_missedFit 21 = .ok (.aload_n 0, 1) := by decide +kernel
theorem dX4_missedFit_22 : decode cX4_missedFit 22 = .ok (.getfield 9, 3) := by decide +kernel
theorem dX4_missedFit_25 : decode cX4_missedFit 25 = .ok (.aload_n 3, 1) := by decide +kernel
theorem dX4_missedFit_26 : decode cX4_missedFit 26 = .ok (.iconst 0, 1) := by decide +kernel
theorem dX4_missedFit_27 : decode cX4_missedFit 27 = .ok (.iaload, 1) := by decide +kernel
theorem dX4_missedFit_28 : decode cX4_missedFit 28 = .ok (.iaload, 1) := by decide +kernel
theorem dX4_missedFit_29 : decode cX4_missedFit 29 = .ok (.aaload, 1) := by decide +kernel
theorem dX4_missedFit_30 : decode cX4_missedFit 30 = .ok (.aload_n 3, 1) := by decide +kernel
theorem dX4_missedFit_31 : decode cX4_missedFit 31 = .ok (.iconst 1, 1) := by decide +kernel
theorem dX4_missedFit_32 : decode cX4_missedFit 32 = .ok (.iaload, 1) := by decide +kernel
theorem dX4_missedFit_33 : decode cX4_missedFit 33 = .ok (.aload_n 3, 1) := by decide +kernel
theorem dX4_missedFit_34 : decode cX4_missedFit 34 = .ok (.iconst 2, 1) := by decide +kernel
theorem dX4_missedFit_35 : decode cX4_missedFit 35 = .ok (.iaload, 1) := by decide +kernel
theorem dX4_missedFit_36 : decode cX4_missedFit 36 = .ok (.iload_n 1, 1) := by decide +kernel
theorem dX4_missedFit_37 : decode cX4_missedFit 37 = .ok (.invokevirtual 89, 3) := by decide +kernel
theorem dX4_missedFit_40 : decode cX4_missedFit 40 = .ok (.aload_n 3, 1) := by decide +kernel
theorem dX4_missedFit_41 : decode cX4_missedFit 41 = .ok (.iconst 3, 1) := by decide +kernel
theorem dX4_missedFit_42 : decode cX4_missedFit 42 = .ok (.iaload, 1) := by decide +kernel
theorem dX4_missedFit_43 : decode cX4_missedFit 43 = .ok (.if_icmp .eq 5, 3) := by decide +kernel
theorem dX4_missedFit_46 : decode cX4_missedFit 46 = .ok (.iconst 0, 1) := by decide +kernel
theorem dX4_missedFit_47 : decode cX4_missedFit 47 = .ok (.ireturn, 1) := by decide +kernel
theorem dX4_missedFit_48 : decode cX4_missedFit 48 = .ok (.iinc 2 1, 3) := by decide +kernel
theorem dX4_missedFit_51 : decode cX4_missedFit 51 = .ok (.goto (-49), 3) := by decide +kernel
theorem dX4_missedFit_54 : decode cX4_missedFit 54 = .ok (.iconst 1, 1) := by decide +kernel
theorem dX4_missedFit_55 : decode cX4_missedFit 55 = .ok (.ireturn, 1) := by decide +kernel
set_option maxRecDepth 20000 in
theorem gw_wsX4_notesFit : wsX4_notesFit.all goodWord = true := by decide +kernel
set_option maxRecDepth 20000 in
theorem ggX4_kindsThatFit_X4_notesFit : GoodIn wsX4_kindsThatFit wsX4_notesFit := goodIn_r _ [6, 7, 8, 9, 10, 11, 12, 13, 14, 15, 16, 17, 18, 19, 20, 21, 22, 23, 24, 25, 26, 27, 28, 29, 30, 31, 32, 33, 34, 35, 36, 37, 38, 39, 40, 41, 42, 43, 44, 45, 46, 47, 48, 49, 50, 51, 52, 53, 54, 55, 56, 57, 58, 59, 60, 61, 62, 63, 64, 65, 66, 67] rfl gw_wsX4_notesFit
set_option maxRecDepth 20000 in
theorem gX4_kindsThatFit_X4_notesFit : GoodIn wsX4_kindsThatFit (wsV RX4 122 RX4 yX4_notesFit wsX4_notesFit) := goodIn_app (goodIn_r _ [2, 3, 4, 5] (by exact rfl) (by decide +kernel)) ggX4_kindsThatFit_X4_notesFit
theorem dX4_kindsThatFit_0 : decode cX4_kindsThatFit 0 = .ok (.iconst 0, 1) := by decide +kernel
theorem dX4_kindsThatFit_1 : decode cX4_kindsThatFit 1 = .ok (.istore_n 2, 1) := by decide +kernel
theorem dX4_kindsThatFit_2 : decode cX4_kindsThatFit 2 = .ok (.iconst 0, 1) := by decide +kernel
theorem dX4_kindsThatFit_3 : decode cX4_kindsThatFit 3 = .ok (.istore_n 3, 1) := by decide +kernel
theorem dX4_kindsThatFit_4 : decode cX4_kindsThatFit 4 = .ok (.iload_n 3, 1) := by decide +kernel
theorem dX4_kindsThatFit_5 : decode cX4_kindsThatFit 5 = .ok (.bipush 6, 2) := by decide +kernel
theorem dX4_kindsThatFit_7 : decode cX4_kindsThatFit 7 = .ok (.if_icmp .ge 29, 3) := by decide +kernel
theorem dX4_kindsThatFit_10 : decode cX4_kindsThatFit 10 = .ok (.aload_n 0, 1) := by decide +kernel
theorem dX4_kindsThatFit_11 : decode cX4_kindsThatFit 11 = .ok (.iload_n 1, 1) := by decide +kernel
theorem dX4_kindsThatFit_12 : decode cX4_kindsThatFit 12 = .ok (.aload_n 0, 1) := by decide +kernel
theorem dX4_kindsThatFit_13 : decode cX4_kindsThatFit 13 = .ok (.getfield 34, 3) := by decide +kernel
theorem dX4_kindsThatFit_16 : decode cX4_kindsThatFit 16 = .ok (.iload_n 3, 1) := by decide +kernel
theorem dX4_kindsThatFit_17 : decode cX4_kindsThatFit 17 = .ok (.aaload, 1) := by decide +kernel
theorem dX4_kindsThatFit_18 : decode cX4_kindsThatFit 18 = .ok (.invokevirtual 122, 3) := by decide +kernel
theorem dX4_kindsThatFit_21 : decode cX4_kindsThatFit 21 = .ok (.ifCond .eq 9, 3) := by decide +kernel
theorem dX4_kindsThatFit_24 : decode cX4_kindsThatFit 24 = .ok (.iload_n 2, 1) := by decide +kernel
theorem dX4_kindsThatFit_25 : decode cX4_kindsThatFit 25 = .ok (.iconst 1, 1) := by decide +kernel
theorem dX4_kindsThatFit_26 : decode cX4_kindsThatFit 26 = .ok (.iload_n 3, 1) := by decide +kernel
theorem dX4_kindsThatFit_27 : decode cX4_kindsThatFit 27 = .ok (.ishl, 1) := by decide +kernel
theorem dX4_kindsThatFit_28 : decode cX4_kindsThatFit 28 = .ok (.ior, 1) := by decide +kernel
theorem dX4_kindsThatFit_29 : decode cX4_kindsThatFit 29 = .ok (.istore_n 2, 1) := by decide +kernel
theorem dX4_kindsThatFit_30 : decode cX4_kindsThatFit 30 = .ok (.iinc 3 1, 3) := by decide +kernel
theorem dX4_kindsThatFit_33 : decode cX4_kindsThatFit 33 = .ok (.goto (-29), 3) := by decide +kernel
theorem dX4_kindsThatFit_36 : decode cX4_kindsThatFit 36 = .ok (.iload_n 2, 1) := by decide +kernel
theorem dX4_kindsThatFit_37 : decode cX4_kindsThatFit 37 = .ok (.ireturn, 1) := by decide +kernel
set_option maxRecDepth 20000 in
theorem ggX4_notesFit_X2_sight : GoodIn wsX4_notesFit wsX2_sight := goodIn_r _ [9, 10, 11, 12, 13, 14, 15, 16, 17, 18, 19, 20, 4, 21, 22, 23, 24, 25] rfl gw_wsX2_sight
set_option maxRecDepth 20000 in
theorem gX4_notesFit_X2_sight_u89X2 : GoodIn wsX4_notesFit (va_wsO RX4 89 RX2 "GleanDusk$Plain" ⟨"GleanDusk$Plain", "sight", "(III)I"⟩ yX2_sight wsX2_sight) := goodIn_app (goodIn_of _ (by decide +kernel)) ggX4_notesFit_X2_sight
set_option maxRecDepth 20000 in
theorem ggX4_notesFit_X3_sight : GoodIn wsX4_notesFit wsX3_sight := goodIn_r _ [29, 30, 31, 32, 33, 34, 35, 36, 4, 37, 22, 23, 24, 25, 11, 12, 13] rfl gw_wsX3_sight
set_option maxRecDepth 20000 in
theorem gX4_notesFit_X3_sight_u89X3 : GoodIn wsX4_notesFit (va_wsO RX4 89 RX3 "GleanDusk$Plain" ⟨"GleanDusk$Plain", "sight", "(III)I"⟩ yX3_sight wsX3_sight) := goodIn_app (goodIn_of _ (by decide +kernel)) ggX4_notesFit_X3_sight
set_option maxRecDepth 20000 in
theorem ggX4_notesFit_X5_sight : GoodIn wsX4_notesFit wsX5_sight := goodIn_r _ [24, 25, 11, 12, 13] rfl gw_wsX5_sight
set_option maxRecDepth 20000 in
theorem gX4_notesFit_X5_sight : GoodIn wsX4_notesFit (wsV RX4 89 RX5 yX5_sight wsX5_sight) := goodIn_app (goodIn_r _ [38, 22, 39, 23] (by exact rfl) (by decide +kernel)) ggX4_notesFit_X5_sight
set_option maxRecDepth 20000 in
theorem ggX4_notesFit_X6_sight : GoodIn wsX4_notesFit wsX6_sight := goodIn_r _ [43, 44, 45, 12, 46, 47, 4, 48, 22, 23, 24, 25, 11, 13] rfl gw_wsX6_sight
set_option maxRecDepth 20000 in
theorem gX4_notesFit_X6_sight_u89X6 : GoodIn wsX4_notesFit (va_wsO RX4 89 RX6 "GleanDusk$Plain" ⟨"GleanDusk$Plain", "sight", "(III)I"⟩ yX6_sight wsX6_sight) := goodIn_app (goodIn_of _ (by decide +kernel)) ggX4_notesFit_X6_sight
set_option maxRecDepth 20000 in
theorem ggX4_notesFit_X8_sight : GoodIn wsX4_notesFit wsX8_sight := goodIn_r _ [19, 20, 4, 21, 22, 23, 24, 25, 11, 12, 13] rfl gw_wsX8_sight
set_option maxRecDepth 20000 in
theorem gX4_notesFit_X8_sight_u89X8 : GoodIn wsX4_notesFit (va_wsO RX4 89 RX8 "GleanDusk$Plain" ⟨"GleanDusk$Plain", "sight", "(III)I"⟩ yX8_sight wsX8_sight) := goodIn_app (goodIn_of _ (by decide +kernel)) ggX4_notesFit_X8_sight
set_option maxRecDepth 20000 in
theorem ggX4_notesFit_X9_sight : GoodIn wsX4_notesFit wsX9_sight := goodIn_r _ [35, 36, 4, 37, 22, 23, 24, 25, 11, 12, 13] rfl gw_wsX9_sight
set_option maxRecDepth 20000 in
theorem gX4_notesFit_X9_sight_u89X9 : GoodIn wsX4_notesFit (va_wsO RX4 89 RX9 "GleanDusk$Plain" ⟨"GleanDusk$Plain", "sight", "(III)I"⟩ yX9_sight wsX9_sight) := goodIn_app (goodIn_of _ (by decide +kernel)) ggX4_notesFit_X9_sight
theorem dX4_notesFit_0 : decode cX4_notesFit 0 = .ok (.iconst 0, 1) := by decide +kernel
theorem dX4_notesFit_1 : decode cX4_notesFit 1 = .ok (.istore_n 3, 1) := by decide +kernel
theorem dX4_notesFit_2 : decode cX4_notesFit 2 = .ok (.iload_n 3, 1) := by decide +kernel
theorem dX4_notesFit_3 : decode cX4_notesFit 3 = .ok (.aload_n 0, 1) := by decide +kernel
theorem dX4_notesFit_4 : decode cX4_notesFit 4 = .ok (.getfield 51, 3) := by decide +kernel
theorem dX4_notesFit_7 : decode cX4_notesFit 7 = .ok (.if_icmp .ge 50, 3) := by decide +kernel
theorem dX4_notesFit_10 : decode cX4_notesFit 10 = .ok (.aload_n 0, 1) := by decide +kernel
theorem dX4_notesFit_11 : decode cX4_notesFit 11 = .ok (.getfield 31, 3) := by decide +kernel
theorem dX4_notesFit_14 : decode cX4_notesFit 14 = .ok (.iload_n 3, 1) := by decide +kernel
theorem dX4_notesFit_15 : decode cX4_notesFit 15 = .ok (.aaload, 1) := by decide +kernel
theorem dX4_notesFit_16 : decode cX4_notesFit 16 = .ok (.astore 4, 2) := by decide +kernel
theorem dX4_notesFit_18 : decode cX4_notesFit 18 = .ok (.aload 4, 2) := by decide +kernel
theorem dX4_notesFit_20 : decode cX4_notesFit 20 = .ok (.iconst 0, 1) := by decide +kernel
theorem dX4_notesFit_21 : decode cX4_notesFit 21 = .ok (.iaload, 1) := by decide +kernel
theorem dX4_notesFit_22 : decode cX4_notesFit 22 = .ok (.iload_n 1, 1) := by decide +kernel
theorem dX4_notesFit_23 : decode cX4_notesFit 23 = .ok (.if_icmp .ne 28, 3) := by decide +kernel
theorem dX4_notesFit_26 : decode cX4_notesFit 26 = .ok (.aload_n 2, 1) := by decide +kernel
theorem dX4_notesFit_27 : decode cX4_notesFit 27 = .ok (.aload 4, 2) := by decide +kernel
theorem dX4_notesFit_29 : decode cX4_notesFit 29 = .ok (.iconst 1, 1) := by decide +kernel
theorem dX4_notesFit_30 : decode cX4_notesFit 30 = .ok (.iaload, 1) := by decide +kernel
theorem dX4_notesFit_31 : decode cX4_notesFit 31 = .ok (.aload 4, 2) := by decide +kernel
theorem dX4_notesFit_33 : decode cX4_notesFit 33 = .ok (.iconst 2, 1) := by decide +kernel
theorem dX4_notesFit_34 : decode cX4_notesFit 34 = .ok (.iaload, 1) := by decide +kernel
theorem dX4_notesFit_35 : decode cX4_notesFit 35 = .ok (.aload 4, 2) := by decide +kernel
theorem dX4_notesFit_37 : decode cX4_notesFit 37 = .ok (.iconst 3, 1) := by decide +kernel
theorem dX4_notesFit_38 : decode cX4_notesFit 38 = .ok (.iaload, 1) := by decide +kernel
theorem dX4_notesFit_39 : decode cX4_notesFit 39 = .ok (.invokevirtual 89, 3) := by decide +kernel
theorem dX4_notesFit_42 : decode cX4_notesFit 42 = .ok (.aload 4, 2) := by decide +kernel
theorem dX4_notesFit_44 : decode cX4_notesFit 44 = .ok (.iconst 4, 1) := by decide +kernel
theorem dX4_notesFit_45 : decode cX4_notesFit 45 = .ok (.iaload, 1) := by decide +kernel
theorem dX4_notesFit_46 : decode cX4_notesFit 46 = .ok (.if_icmp .eq 5, 3) := by decide +kernel
theorem dX4_notesFit_49 : decode cX4_notesFit 49 = .ok (.iconst 0, 1) := by decide +kernel
theorem dX4_notesFit_50 : decode cX4_notesFit 50 = .ok (.ireturn, 1) := by decide +kernel
theorem dX4_notesFit_51 : decode cX4_notesFit 51 = .ok (.iinc 3 1, 3) := by decide +kernel
theorem dX4_notesFit_54 : decode cX4_notesFit 54 = .ok (.goto (-52), 3) := by decide +kernel
theorem dX4_notesFit_57 : decode cX4_notesFit 57 = .ok (.iconst 1, 1) := by decide +kernel
theorem dX4_notesFit_58 : decode cX4_notesFit 58 = .ok (.ireturn, 1) := by decide +kernel
theorem dX5_init_0 : decode cX5_init 0 = .ok (.aload_n 0, 1) := by decide +kernel
theorem dX5_init_1 : decode cX5_init 1 = .ok (.invokespecial 1, 3) := by decide +kernel
theorem dX5_init_4 : decode cX5_init 4 = .ok (.return_, 1) := by decide +kernel
theorem dX5_sight_0 : decode cX5_sight 0 = .ok (.iconst 0, 1) := by decide +kernel
theorem dX5_sight_1 : decode cX5_sight 1 = .ok (.iload_n 2, 1) := by decide +kernel
theorem dX5_sight_2 : decode cX5_sight 2 = .ok (.iconst 2, 1) := by decide +kernel
theorem dX5_sight_3 : decode cX5_sight 3 = .ok (.iload_n 1, 1) := by decide +kernel
theorem dX5_sight_4 : decode cX5_sight 4 = .ok (.imul, 1) := by decide +kernel
theorem dX5_sight_5 : decode cX5_sight 5 = .ok (.isub, 1) := by decide +kernel
theorem dX5_sight_6 : decode cX5_sight 6 = .ok (.iload_n 3, 1) := by decide +kernel
theorem dX5_sight_7 : decode cX5_sight 7 = .ok (.isub, 1) := by decide +kernel
theorem dX5_sight_8 : decode cX5_sight 8 = .ok (.invokestatic 7, 3) := by decide +kernel
theorem dX5_sight_11 : decode cX5_sight 11 = .ok (.ireturn, 1) := by decide +kernel
set_option maxRecDepth 20000 in
theorem gw_wsX5_init : wsX5_init.all goodWord = true := by decide +kernel
set_option maxRecDepth 20000 in
theorem ggX6_init_X5_init : GoodIn wsX6_init wsX5_init := goodIn_r _ [3, 4, 5, 6] rfl gw_wsX5_init
set_option maxRecDepth 20000 in
theorem gX6_init_X5_init_n1 : GoodIn wsX6_init (wsX5_init) := ggX6_init_X5_init
theorem dX6_init_0 : decode cX6_init 0 = .ok (.aload_n 0, 1) := by decide +kernel
theorem dX6_init_1 : decode cX6_init 1 = .ok (.invokespecial 1, 3) := by decide +kernel
theorem dX6_init_4 : decode cX6_init 4 = .ok (.return_, 1) := by decide +kernel
set_option maxRecDepth 20000 in
theorem ggX6_sight_X5_sight : GoodIn wsX6_sight wsX5_sight := goodIn_r _ [10, 11, 12, 3, 13] rfl gw_wsX5_sight
set_option maxRecDepth 20000 in
theorem gX6_sight_X5_sight_s7 : GoodIn wsX6_sight (va_wsSU RX6 7 yX5_sight wsX5_sight) := goodIn_app (goodIn_of _ (by decide +kernel)) ggX6_sight_X5_sight
theorem dX6_sight_0 : decode cX6_sight 0 = .ok (.iload_n 2, 1) := by decide +kernel
theorem dX6_sight_1 : decode cX6_sight 1 = .ok (.aload_n 0, 1) := by decide +kernel
theorem dX6_sight_2 : decode cX6_sight 2 = .ok (.iload_n 1, 1) := by decide +kernel
theorem dX6_sight_3 : decode cX6_sight 3 = .ok (.iload_n 2, 1) := by decide +kernel
theorem dX6_sight_4 : decode cX6_sight 4 = .ok (.iload_n 3, 1) := by decide +kernel
theorem dX6_sight_5 : decode cX6_sight 5 = .ok (.invokespecial 7, 3) := by decide +kernel
theorem dX6_sight_8 : decode cX6_sight 8 = .ok (.iload_n 3, 1) := by decide +kernel
theorem dX6_sight_9 : decode cX6_sight 9 = .ok (.iadd, 1) := by decide +kernel
theorem dX6_sight_10 : decode cX6_sight 10 = .ok (.invokestatic 11, 3) := by decide +kernel
theorem dX6_sight_13 : decode cX6_sight 13 = .ok (.ireturn, 1) := by decide +kernel
theorem dX7_init_0 : decode cX7_init 0 = .ok (.aload_n 0, 1) := by decide +kernel
theorem dX7_init_1 : decode cX7_init 1 = .ok (.invokespecial 3, 3) := by decide +kernel
theorem dX7_init_4 : decode cX7_init 4 = .ok (.aload_n 0, 1) := by decide +kernel
theorem dX7_init_5 : decode cX7_init 5 = .ok (.sipush 150, 3) := by decide +kernel
theorem dX7_init_8 : decode cX7_init 8 = .ok (.newarray .byte, 2) := by decide +kernel
theorem dX7_init_10 : decode cX7_init 10 = .ok (.putfield 9, 3) := by decide +kernel
theorem dX7_init_13 : decode cX7_init 13 = .ok (.aload_n 0, 1) := by decide +kernel
theorem dX7_init_14 : decode cX7_init 14 = .ok (.bipush 25, 2) := by decide +kernel
theorem dX7_init_16 : decode cX7_init 16 = .ok (.newarray .int, 2) := by decide +kernel
theorem dX7_init_18 : decode cX7_init 18 = .ok (.putfield 15, 3) := by decide +kernel
theorem dX7_init_21 : decode cX7_init 21 = .ok (.aload_n 0, 1) := by decide +kernel
theorem dX7_init_22 : decode cX7_init 22 = .ok (.bipush 25, 2) := by decide +kernel
theorem dX7_init_24 : decode cX7_init 24 = .ok (.newarray .int, 2) := by decide +kernel
theorem dX7_init_26 : decode cX7_init 26 = .ok (.putfield 19, 3) := by decide +kernel
theorem dX7_init_29 : decode cX7_init 29 = .ok (.aload_n 0, 1) := by decide +kernel
theorem dX7_init_30 : decode cX7_init 30 = .ok (.bipush 25, 2) := by decide +kernel
theorem dX7_init_32 : decode cX7_init 32 = .ok (.newarray .int, 2) := by decide +kernel
theorem dX7_init_34 : decode cX7_init 34 = .ok (.putfield 22, 3) := by decide +kernel
theorem dX7_init_37 : decode cX7_init 37 = .ok (.return_, 1) := by decide +kernel
theorem dX7_append_0 : decode cX7_append 0 = .ok (.aload_n 0, 1) := by decide +kernel
theorem dX7_append_1 : decode cX7_append 1 = .ok (.getfield 9, 3) := by decide +kernel
theorem dX7_append_4 : decode cX7_append 4 = .ok (.aload_n 0, 1) := by decide +kernel
theorem dX7_append_5 : decode cX7_append 5 = .ok (.getfield 25, 3) := by decide +kernel
theorem dX7_append_8 : decode cX7_append 8 = .ok (.iload_n 1, 1) := by decide +kernel
theorem dX7_append_9 : decode cX7_append 9 = .ok (.i2b, 1) := by decide +kernel
theorem dX7_append_10 : decode cX7_append 10 = .ok (.bastore, 1) := by decide +kernel
theorem dX7_append_11 : decode cX7_append 11 = .ok (.aload_n 0, 1) := by decide +kernel
theorem dX7_append_12 : decode cX7_append 12 = .ok (.dup, 1) := by decide +kernel
theorem dX7_append_13 : decode cX7_append 13 = .ok (.getfield 25, 3) := by decide +kernel
theorem dX7_append_16 : decode cX7_append 16 = .ok (.iconst 1, 1) := by decide +kernel
theorem dX7_append_17 : decode cX7_append 17 = .ok (.iadd, 1) := by decide +kernel
theorem dX7_append_18 : decode cX7_append 18 = .ok (.dup_x1, 1) := by decide +kernel
theorem dX7_append_19 : decode cX7_append 19 = .ok (.putfield 25, 3) := by decide +kernel
theorem dX7_append_22 : decode cX7_append 22 = .ok (.ireturn, 1) := by decide +kernel
set_option maxRecDepth 20000 in
theorem gw_wsX7_advance : wsX7_advance.all goodWord = true := by decide +kernel
set_option maxRecDepth 20000 in
theorem ggX7_parse_X7_advance : GoodIn wsX7_parse wsX7_advance := goodIn_r _ [11, 1, 6, 12, 13, 5, 14, 15, 10, 16, 17, 18, 19, 20, 21, 22, 23, 24, 25, 26, 27, 28, 29, 30, 31, 32, 104, 105, 106, 107, 108, 109, 110, 111, 112, 113, 114, 115] rfl gw_wsX7_advance
set_option maxRecDepth 20000 in
theorem gX7_parse_X7_advance : GoodIn wsX7_parse (wsV RX7 41 RX7 yX7_advance wsX7_advance) := goodIn_app (goodIn_r _ [7, 8, 9, 10] (by exact rfl) (by decide +kernel)) ggX7_parse_X7_advance
set_option maxRecDepth 20000 in
theorem gw_wsX7_isItem : wsX7_isItem.all goodWord = true := by decide +kernel
set_option maxRecDepth 20000 in
theorem ggX7_parse_X7_isItem : GoodIn wsX7_parse wsX7_isItem := goodIn_r _ [36, 37, 38, 2, 39, 3, 4, 28, 40, 41, 42, 10, 43, 5, 44, 45, 46, 47, 1, 6, 13, 48, 49, 50, 51, 52, 53, 54, 55, 56, 57, 58, 59, 60, 61, 62, 63, 64, 65, 66, 67, 68, 69, 70, 71, 72, 73, 74, 75, 76, 77, 78, 79, 80, 81, 82, 83, 84, 85, 86, 87, 88, 89, 90, 91, 92, 93, 94, 95, 96, 97, 98, 99, 100, 7, 8, 9, 11, 12, 14, 15, 16, 17, 18, 19, 20, 21, 22, 23, 24, 25, 26, 27, 29, 30, 31, 32, 101, 102, 103, 104, 105, 106, 107, 108, 109, 110, 111, 112, 113, 114, 115] rfl gw_wsX7_isItem
set_option maxRecDepth 20000 in
theorem gX7_parse_X7_isItem : GoodIn wsX7_parse (wsV RX7 47 RX7 yX7_isItem wsX7_isItem) := goodIn_app (goodIn_r _ [33, 34, 35, 10] (by exact rfl) (by decide +kernel)) ggX7_parse_X7_isItem
theorem dX7_parse_0 : decode cX7_parse 0 = .ok (.aload_n 0, 1) := by decide +kernel
theorem dX7_parse_1 : decode cX7_parse 1 = .ok (.iconst 0, 1) := by decide +kernel
theorem dX7_parse_2 : decode cX7_parse 2 = .ok (.putfield 29, 3) := by decide +kernel
theorem dX7_parse_5 : decode cX7_parse 5 = .ok (.aload_n 0, 1) := by decide +kernel
theorem dX7_parse_6 : decode cX7_parse 6 = .ok (.iconst 0, 1) := by decide +kernel
theorem dX7_parse_7 : decode cX7_parse 7 = .ok (.putfield 32, 3) := by decide +kernel
theorem dX7_parse_10 : decode cX7_parse 10 = .ok (.aload_n 0, 1) := by decide +kernel
theorem dX7_parse_11 : decode cX7_parse 11 = .ok (.iconst 0, 1) := by decide +kernel
theorem dX7_parse_12 : decode cX7_parse 12 = .ok (.putfield 35, 3) := by decide +kernel
theorem dX7_parse_15 : decode cX7_parse 15 = .ok (.aload_n 0, 1) := by decide +kernel
theorem dX7_parse_16 : decode cX7_parse 16 = .ok (.bipush 12, 2) := by decide +kernel
theorem dX7_parse_18 : decode cX7_parse 18 = .ok (.putfield 38, 3) := by decide +kernel
theorem dX7_parse_21 : decode cX7_parse 21 = .ok (.iconst 0, 1) := by decide +kernel
theorem dX7_parse_22 : decode cX7_parse 22 = .ok (.istore_n 1, 1) := by decide +kernel
theorem dX7_parse_23 : decode cX7_parse 23 = .ok (.iload_n 1, 1) := by decide +kernel
theorem dX7_parse_24 : decode cX7_parse 24 = .ok (.bipush 25, 2) := by decide +kernel
theorem dX7_parse_26 : decode cX7_parse 26 = .ok (.if_icmp .ge 52, 3) := by decide +kernel
theorem dX7_parse_29 : decode cX7_parse 29 = .ok (.aload_n 0, 1) := by decide +kernel
theorem dX7_parse_30 : decode cX7_parse 30 = .ok (.invokevirtual 41, 3) := by decide +kernel
theorem dX7_parse_33 : decode cX7_parse 33 = .ok (.aload_n 0, 1) := by decide +kernel
theorem dX7_parse_34 : decode cX7_parse 34 = .ok (.getfield 44, 3) := by decide +kernel
theorem dX7_parse_37 : decode cX7_parse 37 = .ok (.ifCond .ne 9, 3) := by decide +kernel
theorem dX7_parse_40 : decode cX7_parse 40 = .ok (.iload_n 1, 1) := by decide +kernel
theorem dX7_parse_41 : decode cX7_parse 41 = .ok (.ifCond .le 5, 3) := by decide +kernel
theorem dX7_parse_44 : decode cX7_parse 44 = .ok (.iload_n 1, 1) := by decide +kernel
theorem dX7_parse_45 : decode cX7_parse 45 = .ok (.ireturn, 1) := by decide +kernel
theorem dX7_parse_46 : decode cX7_parse 46 = .ok (.aload_n 0, 1) := by decide +kernel
theorem dX7_parse_47 : decode cX7_parse 47 = .ok (.iload_n 1, 1) := by decide +kernel
theorem dX7_parse_48 : decode cX7_parse 48 = .ok (.invokevirtual 47, 3) := by decide +kernel
theorem dX7_parse_51 : decode cX7_parse 51 = .ok (.ifCond .ne 6, 3) := by decide +kernel
theorem dX7_parse_54 : decode cX7_parse 54 = .ok (.goto 24, 3) := by decide +kernel
theorem dX7_parse_57 : decode cX7_parse 57 = .ok (.aload_n 0, 1) := by decide +kernel
theorem dX7_parse_58 : decode cX7_parse 58 = .ok (.invokevirtual 41, 3) := by decide +kernel
theorem dX7_parse_61 : decode cX7_parse 61 = .ok (.aload_n 0, 1) := by decide +kernel
theorem dX7_parse_62 : decode cX7_parse 62 = .ok (.getfield 44, 3) := by decide +kernel
theorem dX7_parse_65 : decode cX7_parse 65 = .ok (.iconst 3, 1) := by decide +kernel
theorem dX7_parse_66 : decode cX7_parse 66 = .ok (.if_icmp .eq 6, 3) := by decide +kernel
theorem dX7_parse_69 : decode cX7_parse 69 = .ok (.goto 9, 3) := by decide +kernel
theorem dX7_parse_72 : decode cX7_parse 72 = .ok (.iinc 1 1, 3) := by decide +kernel
theorem dX7_parse_75 : decode cX7_parse 75 = .ok (.goto (-52), 3) := by decide +kernel
theorem dX7_parse_78 : decode cX7_parse 78 = .ok (.bipush (-10), 2) := by decide +kernel
theorem dX7_parse_80 : decode cX7_parse 80 = .ok (.aload_n 0, 1) := by decide +kernel
theorem dX7_parse_81 : decode cX7_parse 81 = .ok (.getfield 51, 3) := by decide +kernel
theorem dX7_parse_84 : decode cX7_parse 84 = .ok (.isub, 1) := by decide +kernel
theorem dX7_parse_85 : decode cX7_parse 85 = .ok (.ireturn, 1) := by decide +kernel
set_option maxRecDepth 20000 in
theorem gw_wsX7_wordHere : wsX7_wordHere.all goodWord = true := by decide +kernel
set_option maxRecDepth 20000 in
theorem ggX7_isItem_X7_wordHere : GoodIn wsX7_isItem wsX7_wordHere := goodIn_r _ [12, 13, 14, 15, 16, 11, 17, 18, 19, 20, 21, 22, 23, 24, 25, 26, 27, 28, 29, 30, 31, 32, 33, 34, 35, 36, 37, 38, 39, 40, 41, 42, 43, 44, 45, 46, 47, 48, 49, 50, 51, 52, 53, 54, 55, 56, 57, 58, 59, 60, 61, 62, 63, 64, 65, 66, 67, 68, 69, 100, 101, 102, 103, 104, 105, 106, 107, 108, 109, 110, 111] rfl gw_wsX7_wordHere
set_option maxRecDepth 20000 in
theorem gX7_isItem_X7_wordHere : GoodIn wsX7_isItem (wsV RX7 54 RX7 yX7_wordHere wsX7_wordHere) := goodIn_app (goodIn_r _ [8, 9, 10, 11] (by exact rfl) (by decide +kernel)) ggX7_isItem_X7_wordHere
set_option maxRecDepth 20000 in
theorem gw_wsX7_takes : wsX7_takes.all goodWord = true := by decide +kernel
set_option maxRecDepth 20000 in
theorem ggX7_isItem_X7_takes : GoodIn wsX7_isItem wsX7_takes := goodIn_r _ [73, 13, 7, 74, 75, 76, 11, 77, 18, 19, 78, 20, 79, 80, 81, 82, 83, 84, 85, 86, 87, 88, 89, 90, 91, 92, 93, 94, 95, 96, 97, 98, 99, 100, 101, 102, 103, 104, 105, 106, 107, 108, 109, 110, 111] rfl gw_wsX7_takes
set_option maxRecDepth 20000 in
theorem gX7_isItem_X7_takes : GoodIn wsX7_isItem (wsV RX7 58 RX7 yX7_takes wsX7_takes) := goodIn_app (goodIn_r _ [70, 71, 72, 11] (by exact rfl) (by decide +kernel)) ggX7_isItem_X7_takes
theorem dX7_isItem_0 : decode cX7_isItem 0 = .ok (.aload_n 0, 1) := by decide +kernel
theorem dX7_isItem_1 : decode cX7_isItem 1 = .ok (.invokevirtual 54, 3) := by decide +kernel
theorem dX7_isItem_4 : decode cX7_isItem 4 = .ok (.istore_n 2, 1) := by decide +kernel
theorem dX7_isItem_5 : decode cX7_isItem 5 = .ok (.iload_n 2, 1) := by decide +kernel
theorem dX7_isItem_6 : decode cX7_isItem 6 = .ok (.iconst (-1), 1) := by decide +kernel
theorem dX7_isItem_7 : decode cX7_isItem 7 = .ok (.if_icmp .eq 24, 3) := by decide +kernel
theorem dX7_isItem_10 : decode cX7_isItem 10 = .ok (.iload_n 2, 1) := by decide +kernel
theorem dX7_isItem_11 : decode cX7_isItem 11 = .ok (.ifCond .ne 7, 3) := by decide +kernel
theorem dX7_isItem_14 : decode cX7_isItem 14 = .ok (.iconst 1, 1) := by decide +kernel
theorem dX7_isItem_15 : decode cX7_isItem 15 = .ok (.goto 4, 3) := by decide +kernel
theorem dX7_isItem_18 : decode cX7_isItem 18 = .ok (.iconst 0, 1) := by decide +kernel
theorem dX7_isItem_19 : decode cX7_isItem 19 = .ok (.iload_n 1, 1) := by decide +kernel
theorem dX7_isItem_20 : decode cX7_isItem 20 = .ok (.ifCond .ne 7, 3) := by decide +kernel
theorem dX7_isItem_23 : decode cX7_isItem 23 = .ok (.iconst 1, 1) := by decide +kernel
theorem dX7_isItem_24 : decode cX7_isItem 24 = .ok (.goto 4, 3) := by decide +kernel
theorem dX7_isItem_27 : decode cX7_isItem 27 = .ok (.iconst 0, 1) := by decide +kernel
theorem dX7_isItem_28 : decode cX7_isItem 28 = .ok (.if_icmp .eq 5, 3) := by decide +kernel
theorem dX7_isItem_31 : decode cX7_isItem 31 = .ok (.iconst 0, 1) := by decide +kernel
theorem dX7_isItem_32 : decode cX7_isItem 32 = .ok (.ireturn, 1) := by decide +kernel
theorem dX7_isItem_33 : decode cX7_isItem 33 = .ok (.aload_n 0, 1) := by decide +kernel
theorem dX7_isItem_34 : decode cX7_isItem 34 = .ok (.getfield 15, 3) := by decide +kernel
theorem dX7_isItem_37 : decode cX7_isItem 37 = .ok (.iload_n 1, 1) := by decide +kernel
theorem dX7_isItem_38 : decode cX7_isItem 38 = .ok (.iload_n 2, 1) := by decide +kernel
theorem dX7_isItem_39 : decode cX7_isItem 39 = .ok (.iastore, 1) := by decide +kernel
theorem dX7_isItem_40 : decode cX7_isItem 40 = .ok (.iload_n 2, 1) := by decide +kernel
theorem dX7_isItem_41 : decode cX7_isItem 41 = .ok (.tableswitch 137 0 2 #[27, 40, 94], 27) := by decide +kernel
theorem dX7_isItem_68 : decode cX7_isItem 68 = .ok (.aload_n 0, 1) := by decide +kernel
theorem dX7_isItem_69 : decode cX7_isItem 69 = .ok (.aload_n 0, 1) := by decide +kernel
theorem dX7_isItem_70 : decode cX7_isItem 70 = .ok (.getfield 19, 3) := by decide +kernel
theorem dX7_isItem_73 : decode cX7_isItem 73 = .ok (.iload_n 1, 1) := by decide +kernel
theorem dX7_isItem_74 : decode cX7_isItem 74 = .ok (.iconst 0, 1) := by decide +kernel
theorem dX7_isItem_75 : decode cX7_isItem 75 = .ok (.bipush 9, 2) := by decide +kernel
theorem dX7_isItem_77 : decode cX7_isItem 77 = .ok (.invokevirtual 58, 3) := by decide +kernel
theorem dX7_isItem_80 : decode cX7_isItem 80 = .ok (.ireturn, 1) := by decide +kernel
theorem dX7_isItem_81 : decode cX7_isItem 81 = .ok (.aload_n 0, 1) := by decide +kernel
theorem dX7_isItem_82 : decode cX7_isItem 82 = .ok (.dup, 1) := by decide +kernel
theorem dX7_isItem_83 : decode cX7_isItem 83 = .ok (.getfield 32, 3) := by decide +kernel
theorem dX7_isItem_86 : decode cX7_isItem 86 = .ok (.iconst 1, 1) := by decide +kernel
theorem dX7_isItem_87 : decode cX7_isItem 87 = .ok (.iadd, 1) := by decide +kernel
theorem dX7_isItem_88 : decode cX7_isItem 88 = .ok (.putfield 32, 3) := by decide +kernel
theorem dX7_isItem_91 : decode cX7_isItem 91 = .ok (.aload_n 0, 1) := by decide +kernel
theorem dX7_isItem_92 : decode cX7_isItem 92 = .ok (.getfield 32, 3) := by decide +kernel
theorem dX7_isItem_95 : decode cX7_isItem 95 = .ok (.bipush 6, 2) := by decide +kernel
theorem dX7_isItem_97 : decode cX7_isItem 97 = .ok (.if_icmp .gt 36, 3) := by decide +kernel
theorem dX7_isItem_100 : decode cX7_isItem 100 = .ok (.aload_n 0, 1) := by decide +kernel
theorem dX7_isItem_101 : decode cX7_isItem 101 = .ok (.aload_n 0, 1) := by decide +kernel
theorem dX7_isItem_102 : decode cX7_isItem 102 = .ok (.getfield 19, 3) := by decide +kernel
theorem dX7_isItem_105 : decode cX7_isItem 105 = .ok (.iload_n 1, 1) := by decide +kernel
theorem dX7_isItem_106 : decode cX7_isItem 106 = .ok (.iconst 0, 1) := by decide +kernel
theorem dX7_isItem_107 : decode cX7_isItem 107 = .ok (.iconst 5, 1) := by decide +kernel
theorem dX7_isItem_108 : decode cX7_isItem 108 = .ok (.invokevirtual 58, 3) := by decide +kernel
theorem dX7_isItem_111 : decode cX7_isItem 111 = .ok (.ifCond .eq 22, 3) := by decide +kernel
theorem dX7_isItem_114 : decode cX7_isItem 114 = .ok (.aload_n 0, 1) := by decide +kernel
theorem dX7_isItem_115 : decode cX7_isItem 115 = .ok (.aload_n 0, 1) := by decide +kernel
theorem dX7_isItem_116 : decode cX7_isItem 116 = .ok (.getfield 22, 3) := by decide +kernel
theorem dX7_isItem_119 : decode cX7_isItem 119 = .ok (.iload_n 1, 1) := by decide +kernel
theorem dX7_isItem_120 : decode cX7_isItem 120 = .ok (.iconst 0, 1) := by decide +kernel
theorem dX7_isItem_121 : decode cX7_isItem 121 = .ok (.bipush 60, 2) := by decide +kernel
theorem dX7_isItem_123 : decode cX7_isItem 123 = .ok (.invokevirtual 58, 3) := by decide +kernel
theorem dX7_isItem_126 : decode cX7_isItem 126 = .ok (.ifCond .eq 7, 3) := by decide +kernel
theorem dX7_isItem_129 : decode cX7_isItem 129 = .ok (.iconst 1, 1) := by decide +kernel
theorem dX7_isItem_130 : decode cX7_isItem 130 = .ok (.goto 4, 3) := by decide +kernel
theorem dX7_isItem_133 : decode cX7_isItem 133 = .ok (.iconst 0, 1) := by decide +kernel
theorem dX7_isItem_134 : decode cX7_isItem 134 = .ok (.ireturn, 1) := by decide +kernel
theorem dX7_isItem_135 : decode cX7_isItem 135 = .ok (.aload_n 0, 1) := by decide +kernel
theorem dX7_isItem_136 : decode cX7_isItem 136 = .ok (.dup, 1) := by decide +kernel
theorem dX7_isItem_137 : decode cX7_isItem 137 = .ok (.getfield 35, 3) := by decide +kernel
theorem dX7_isItem_140 : decode cX7_isItem 140 = .ok (.iconst 1, 1) := by decide +kernel
theorem dX7_isItem_141 : decode cX7_isItem 141 = .ok (.iadd, 1) := by decide +kernel
theorem dX7_isItem_142 : decode cX7_isItem 142 = .ok (.putfield 35, 3) := by decide +kernel
theorem dX7_isItem_145 : decode cX7_isItem 145 = .ok (.aload_n 0, 1) := by decide +kernel
theorem dX7_isItem_146 : decode cX7_isItem 146 = .ok (.getfield 35, 3) := by decide +kernel
theorem dX7_isItem_149 : decode cX7_isItem 149 = .ok (.iconst 5, 1) := by decide +kernel
theorem dX7_isItem_150 : decode cX7_isItem 150 = .ok (.if_icmp .gt 26, 3) := by decide +kernel
theorem dX7_isItem_153 : decode cX7_isItem 153 = .ok (.aload_n 0, 1) := by decide +kernel
theorem dX7_isItem_154 : decode cX7_isItem 154 = .ok (.aload_n 0, 1) := by decide +kernel
theorem dX7_isItem_155 : decode cX7_isItem 155 = .ok (.getfield 19, 3) := by decide +kernel
theorem dX7_isItem_158 : decode cX7_isItem 158 = .ok (.iload_n 1, 1) := by decide +kernel
theorem dX7_isItem_159 : decode cX7_isItem 159 = .ok (.iconst 0, 1) := by decide +kernel
theorem dX7_isItem_160 : decode cX7_isItem 160 = .ok (.aload_n 0, 1) := by decide +kernel
theorem dX7_isItem_161 : decode cX7_isItem 161 = .ok (.getfield 32, 3) := by decide +kernel
theorem dX7_isItem_164 : decode cX7_isItem 164 = .ok (.iconst 1, 1) := by decide +kernel
theorem dX7_isItem_165 : decode cX7_isItem 165 = .ok (.isub, 1) := by decide +kernel
theorem dX7_isItem_166 : decode cX7_isItem 166 = .ok (.invokevirtual 58, 3) := by decide +kernel
theorem dX7_isItem_169 : decode cX7_isItem 169 = .ok (.ifCond .eq 7, 3) := by decide +kernel
theorem dX7_isItem_172 : decode cX7_isItem 172 = .ok (.iconst 1, 1) := by decide +kernel
theorem dX7_isItem_173 : decode cX7_isItem 173 = .ok (.goto 4, 3) := by decide +kernel
theorem dX7_isItem_176 : decode cX7_isItem 176 = .ok (.iconst 0, 1) := by decide +kernel
theorem dX7_isItem_177 : decode cX7_isItem 177 = .ok (.ireturn, 1) := by decide +kernel
theorem dX7_isItem_178 : decode cX7_isItem 178 = .ok (.aload_n 0, 1) := by decide +kernel
theorem dX7_isItem_179 : decode cX7_isItem 179 = .ok (.aload_n 0, 1) := by decide +kernel
theorem dX7_isItem_180 : decode cX7_isItem 180 = .ok (.getfield 19, 3) := by decide +kernel
theorem dX7_isItem_183 : decode cX7_isItem 183 = .ok (.iload_n 1, 1) := by decide +kernel
theorem dX7_isItem_184 : decode cX7_isItem 184 = .ok (.iconst 1, 1) := by decide +kernel
theorem dX7_isItem_185 : decode cX7_isItem 185 = .ok (.aload_n 0, 1) := by decide +kernel
theorem dX7_isItem_186 : decode cX7_isItem 186 = .ok (.getfield 38, 3) := by decide +kernel
theorem dX7_isItem_189 : decode cX7_isItem 189 = .ok (.invokevirtual 58, 3) := by decide +kernel
theorem dX7_isItem_192 : decode cX7_isItem 192 = .ok (.istore_n 3, 1) := by decide +kernel
theorem dX7_isItem_193 : decode cX7_isItem 193 = .ok (.iload_n 3, 1) := by decide +kernel
theorem dX7_isItem_194 : decode cX7_isItem 194 = .ok (.ifCond .eq 16, 3) := by decide +kernel
theorem dX7_isItem_197 : decode cX7_isItem 197 = .ok (.aload_n 0, 1) := by decide +kernel
theorem dX7_isItem_198 : decode cX7_isItem 198 = .ok (.dup, 1) := by decide +kernel
theorem dX7_isItem_199 : decode cX7_isItem 199 = .ok (.getfield 38, 3) := by decide +kernel
theorem dX7_isItem_202 : decode cX7_isItem 202 = .ok (.aload_n 0, 1) := by decide +kernel
theorem dX7_isItem_203 : decode cX7_isItem 203 = .ok (.getfield 62, 3) := by decide +kernel
theorem dX7_isItem_206 : decode cX7_isItem 206 = .ok (.isub, 1) := by decide +kernel
theorem dX7_isItem_207 : decode cX7_isItem 207 = .ok (.putfield 38, 3) := by decide +kernel
theorem dX7_isItem_210 : decode cX7_isItem 210 = .ok (.iload_n 3, 1) := by decide +kernel
theorem dX7_isItem_211 : decode cX7_isItem 211 = .ok (.ireturn, 1) := by decide +kernel
set_option maxRecDepth 20000 in
theorem gw_wsX7_isWord : wsX7_isWord.all goodWord = true := by decide +kernel
set_option maxRecDepth 20000 in
theorem ggX7_wordHere_X7_isWord : GoodIn wsX7_wordHere wsX7_isWord := goodIn_r _ [6, 7, 8, 9, 10, 11, 12, 13, 14, 15, 16, 17, 18, 19, 20, 21, 22, 23, 24, 25, 26, 27, 28, 29, 30, 31, 32, 33, 34, 35, 36, 37, 38, 39, 40, 41, 42, 43, 44, 45, 46, 47, 48, 49, 50, 51, 52, 53, 54, 55, 56, 57, 58, 59, 60, 61, 62, 63, 64, 65, 66, 67, 68, 69, 70] rfl gw_wsX7_isWord
set_option maxRecDepth 20000 in
theorem gX7_wordHere_X7_isWord : GoodIn wsX7_wordHere (wsV RX7 67 RX7 yX7_isWord wsX7_isWord) := goodIn_app (goodIn_r _ [2, 3, 4, 5] (by exact rfl) (by decide +kernel)) ggX7_wordHere_X7_isWord
theorem dX7_wordHere_0 : decode cX7_wordHere 0 = .ok (.aload_n 0, 1) := by decide +kernel
theorem dX7_wordHere_1 : decode cX7_wordHere 1 = .ok (.getfield 44, 3) := by decide +kernel
theorem dX7_wordHere_4 : decode cX7_wordHere 4 = .ok (.iconst 1, 1) := by decide +kernel
theorem dX7_wordHere_5 : decode cX7_wordHere 5 = .ok (.if_icmp .eq 5, 3) := by decide +kernel
theorem dX7_wordHere_8 : decode cX7_wordHere 8 = .ok (.iconst (-1), 1) := by decide +kernel
theorem dX7_wordHere_9 : decode cX7_wordHere 9 = .ok (.ireturn, 1) := by decide +kernel
theorem dX7_wordHere_10 : decode cX7_wordHere 10 = .ok (.aload_n 0, 1) := by decide +kernel
theorem dX7_wordHere_11 : decode cX7_wordHere 11 = .ok (.ldc 65, 2) := by decide +kernel
theorem dX7_wordHere_13 : decode cX7_wordHere 13 = .ok (.invokevirtual 67, 3) := by decide +kernel
theorem dX7_wordHere_16 : decode cX7_wordHere 16 = .ok (.ifCond .eq 5, 3) := by decide +kernel
theorem dX7_wordHere_19 : decode cX7_wordHere 19 = .ok (.iconst 0, 1) := by decide +kernel
theorem dX7_wordHere_20 : decode cX7_wordHere 20 = .ok (.ireturn, 1) := by decide +kernel
theorem dX7_wordHere_21 : decode cX7_wordHere 21 = .ok (.aload_n 0, 1) := by decide +kernel
theorem dX7_wordHere_22 : decode cX7_wordHere 22 = .ok (.ldc 71, 2) := by decide +kernel
theorem dX7_wordHere_24 : decode cX7_wordHere 24 = .ok (.invokevirtual 67, 3) := by decide +kernel
theorem dX7_wordHere_27 : decode cX7_wordHere 27 = .ok (.ifCond .eq 5, 3) := by decide +kernel
theorem dX7_wordHere_30 : decode cX7_wordHere 30 = .ok (.iconst 1, 1) := by decide +kernel
theorem dX7_wordHere_31 : decode cX7_wordHere 31 = .ok (.ireturn, 1) := by decide +kernel
theorem dX7_wordHere_32 : decode cX7_wordHere 32 = .ok (.aload_n 0, 1) := by decide +kernel
theorem dX7_wordHere_33 : decode cX7_wordHere 33 = .ok (.ldc 73, 2) := by decide +kernel
theorem dX7_wordHere_35 : decode cX7_wordHere 35 = .ok (.invokevirtual 67, 3) := by decide +kernel
theorem dX7_wordHere_38 : decode cX7_wordHere 38 = .ok (.ifCond .eq 5, 3) := by decide +kernel
theorem dX7_wordHere_41 : decode cX7_wordHere 41 = .ok (.iconst 2, 1) := by decide +kernel
theorem dX7_wordHere_42 : decode cX7_wordHere 42 = .ok (.ireturn, 1) := by decide +kernel
theorem dX7_wordHere_43 : decode cX7_wordHere 43 = .ok (.aload_n 0, 1) := by decide +kernel
theorem dX7_wordHere_44 : decode cX7_wordHere 44 = .ok (.ldc 75, 2) := by decide +kernel
theorem dX7_wordHere_46 : decode cX7_wordHere 46 = .ok (.invokevirtual 67, 3) := by decide +kernel
theorem dX7_wordHere_49 : decode cX7_wordHere 49 = .ok (.ifCond .eq 7, 3) := by decide +kernel
theorem dX7_wordHere_52 : decode cX7_wordHere 52 = .ok (.iconst 3, 1) := by decide +kernel
theorem dX7_wordHere_53 : decode cX7_wordHere 53 = .ok (.goto 4, 3) := by decide +kernel
theorem dX7_wordHere_56 : decode cX7_wordHere 56 = .ok (.iconst (-1), 1) := by decide +kernel
theorem dX7_wordHere_57 : decode cX7_wordHere 57 = .ok (.ireturn, 1) := by decide +kernel
set_option maxRecDepth 20000 in
theorem gw_wsJ0_length_8abf5 : wsJ0_length_8abf5.all goodWord = true := by decide +kernel
set_option maxRecDepth 20000 in
theorem ggX7_isWord_J0_length_8abf5 : GoodIn wsX7_isWord wsJ0_length_8abf5 := goodIn_r _ [8, 9, 10, 11, 12, 7, 13, 14, 15] rfl gw_wsJ0_length_8abf5
set_option maxRecDepth 20000 in
theorem gX7_isWord_J0_length_8abf5 : GoodIn wsX7_isWord (wsV RX7 77 RJ0 yJ0_length_8abf5 wsJ0_length_8abf5) := goodIn_app (goodIn_r _ [4, 5, 6, 7] (by exact rfl) (by decide +kernel)) ggX7_isWord_J0_length_8abf5
set_option maxRecDepth 20000 in
theorem gw_wsJ0_charAt_5068e : wsJ0_charAt_5068e.all goodWord = true := by decide +kernel
set_option maxRecDepth 20000 in
theorem ggX7_isWord_J0_charAt_5068e : GoodIn wsX7_isWord wsJ0_charAt_5068e := goodIn_r _ [19, 9, 20, 21, 22, 7, 23, 14, 15, 24, 25, 26, 27, 28, 29, 30, 31, 32, 33, 34, 35, 36, 37, 38, 39, 40, 41, 42, 43, 44, 45, 46, 47, 48, 49, 50, 51, 52] rfl gw_wsJ0_charAt_5068e
set_option maxRecDepth 20000 in
theorem gX7_isWord_J0_charAt_5068e : GoodIn wsX7_isWord (wsV RX7 81 RJ0 yJ0_charAt_5068e wsJ0_charAt_5068e) := goodIn_app (goodIn_r _ [16, 17, 18, 7] (by exact rfl) (by decide +kernel)) ggX7_isWord_J0_charAt_5068e
theorem dX7_isWord_0 : decode cX7_isWord 0 = .ok (.aload_n 0, 1) := by decide +kernel
theorem dX7_isWord_1 : decode cX7_isWord 1 = .ok (.getfield 29, 3) := by decide +kernel
theorem dX7_isWord_4 : decode cX7_isWord 4 = .ok (.aload_n 0, 1) := by decide +kernel
theorem dX7_isWord_5 : decode cX7_isWord 5 = .ok (.getfield 51, 3) := by decide +kernel
theorem dX7_isWord_8 : decode cX7_isWord 8 = .ok (.isub, 1) := by decide +kernel
theorem dX7_isWord_9 : decode cX7_isWord 9 = .ok (.aload_n 1, 1) := by decide +kernel
theorem dX7_isWord_10 : decode cX7_isWord 10 = .ok (.invokevirtual 77, 3) := by decide +kernel
theorem dX7_isWord_13 : decode cX7_isWord 13 = .ok (.if_icmp .eq 5, 3) := by decide +kernel
theorem dX7_isWord_16 : decode cX7_isWord 16 = .ok (.iconst 0, 1) := by decide +kernel
theorem dX7_isWord_17 : decode cX7_isWord 17 = .ok (.ireturn, 1) := by decide +kernel
theorem dX7_isWord_18 : decode cX7_isWord 18 = .ok (.iconst 0, 1) := by decide +kernel
theorem dX7_isWord_19 : decode cX7_isWord 19 = .ok (.istore_n 2, 1) := by decide +kernel
theorem dX7_isWord_20 : decode cX7_isWord 20 = .ok (.iload_n 2, 1) := by decide +kernel
theorem dX7_isWord_21 : decode cX7_isWord 21 = .ok (.aload_n 1, 1) := by decide +kernel
theorem dX7_isWord_22 : decode cX7_isWord 22 = .ok (.invokevirtual 77, 3) := by decide +kernel
theorem dX7_isWord_25 : decode cX7_isWord 25 = .ok (.if_icmp .ge 30, 3) := by decide +kernel
theorem dX7_isWord_28 : decode cX7_isWord 28 = .ok (.aload_n 0, 1) := by decide +kernel
theorem dX7_isWord_29 : decode cX7_isWord 29 = .ok (.getfield 9, 3) := by decide +kernel
theorem dX7_isWord_32 : decode cX7_isWord 32 = .ok (.aload_n 0, 1) := by decide +kernel
theorem dX7_isWord_33 : decode cX7_isWord 33 = .ok (.getfield 51, 3) := by decide +kernel
theorem dX7_isWord_36 : decode cX7_isWord 36 = .ok (.iload_n 2, 1) := by decide +kernel
theorem dX7_isWord_37 : decode cX7_isWord 37 = .ok (.iadd, 1) := by decide +kernel
theorem dX7_isWord_38 : decode cX7_isWord 38 = .ok (.baload, 1) := by decide +kernel
theorem dX7_isWord_39 : decode cX7_isWord 39 = .ok (.aload_n 1, 1) := by decide +kernel
theorem dX7_isWord_40 : decode cX7_isWord 40 = .ok (.iload_n 2, 1) := by decide +kernel
theorem dX7_isWord_41 : decode cX7_isWord 41 = .ok (.invokevirtual 81, 3) := by decide +kernel
theorem dX7_isWord_44 : decode cX7_isWord 44 = .ok (.if_icmp .eq 5, 3) := by decide +kernel
theorem dX7_isWord_47 : decode cX7_isWord 47 = .ok (.iconst 0, 1) := by decide +kernel
theorem dX7_isWord_48 : decode cX7_isWord 48 = .ok (.ireturn, 1) := by decide +kernel
theorem dX7_isWord_49 : decode cX7_isWord 49 = .ok (.iinc 2 1, 3) := by decide +kernel
theorem dX7_isWord_52 : decode cX7_isWord 52 = .ok (.goto (-32), 3) := by decide +kernel
theorem dX7_isWord_55 : decode cX7_isWord 55 = .ok (.iconst 1, 1) := by decide +kernel
theorem dX7_isWord_56 : decode cX7_isWord 56 = .ok (.ireturn, 1) := by decide +kernel
set_option maxRecDepth 20000 in
theorem ggX7_takes_X7_advance : GoodIn wsX7_takes wsX7_advance := goodIn_r _ [7, 8, 9, 10, 11, 1, 12, 13, 6, 14, 15, 16, 17, 18, 19, 20, 21, 22, 23, 24, 25, 2, 26, 27, 28, 29, 33, 34, 35, 36, 37, 38, 39, 40, 41, 42, 43, 44] rfl gw_wsX7_advance
set_option maxRecDepth 20000 in
theorem gX7_takes_X7_advance : GoodIn wsX7_takes (wsV RX7 41 RX7 yX7_advance wsX7_advance) := goodIn_app (goodIn_r _ [3, 4, 5, 6] (by exact rfl) (by decide +kernel)) ggX7_takes_X7_advance
set_option maxRecDepth 20000 in
theorem gw_wsX10_isIn : wsX10_isIn.all goodWord = true := by decide +kernel
set_option maxRecDepth 20000 in
theorem ggX7_takes_X10_isIn : GoodIn wsX7_takes wsX10_isIn := goodIn_r _ [32] rfl gw_wsX10_isIn
set_option maxRecDepth 20000 in
theorem gX7_takes_X10_isIn_n85 : GoodIn wsX7_takes (wsX10_isIn) := ggX7_takes_X10_isIn
theorem dX7_takes_0 : decode cX7_takes 0 = .ok (.aload_n 0, 1) := by decide +kernel
theorem dX7_takes_1 : decode cX7_takes 1 = .ok (.invokevirtual 41, 3) := by decide +kernel
theorem dX7_takes_4 : decode cX7_takes 4 = .ok (.aload_n 0, 1) := by decide +kernel
theorem dX7_takes_5 : decode cX7_takes 5 = .ok (.getfield 44, 3) := by decide +kernel
theorem dX7_takes_8 : decode cX7_takes 8 = .ok (.iconst 2, 1) := by decide +kernel
