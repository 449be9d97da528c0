def wsL_law_r30 : List Cond := [Cond.fieldLink RX9 241 "PromiseMindModel" "cap" "I", Cond.methodLink RX9 247 yX9_finds, Cond.instanceMethod yX9_finds, Cond.selects RX9 yX9_finds yX9_finds, Cond.code yX9_finds cX9_finds 7 (some .boolean), Cond.methodLink RX9 244 yX9_room, Cond.instanceMethod yX9_room, Cond.selects RX9 yX9_room yX9_room, Cond.code yX9_room cX9_room 4 (some .int), Cond.methodLink RX9 250 yX9_goesOne, Cond.instanceMethod yX9_goesOne, Cond.selects RX9 yX9_goesOne yX9_goesOne, Cond.code yX9_goesOne cX9_goesOne 4 none, Cond.methodLink RL 94 yX8_late, Cond.instanceMethod yX8_late, Cond.selects RX8 yX8_late yX8_late, Cond.code yX8_late cX8_late 1 (some .int), Cond.methodLink RL 97 yX9_late, Cond.instanceMethod yX9_late, Cond.selects RX9 yX9_late yX9_late, Cond.code yX9_late cX9_late 1 (some .int), Cond.methodLink RL 98 yX8_kept, Cond.instanceMethod yX8_kept, Cond.selects RX8 yX8_kept yX8_kept]
def wsL_law_r31 : List Cond := [Cond.code yX8_kept cX8_kept 6 (some .int), Cond.methodLink RL 101 yX9_kept, Cond.instanceMethod yX9_kept, Cond.selects RX9 yX9_kept yX9_kept, Cond.code yX9_kept cX9_kept 2 (some .int), Cond.methodLink RL 102 yX8_why, Cond.instanceMethod yX8_why, Cond.selects RX8 yX8_why yX8_why, Cond.code yX8_why cX8_why 5 (some .int), Cond.methodLink RX8 245 yX8_isAhead, Cond.instanceMethod yX8_isAhead, Cond.selects RX8 yX8_isAhead yX8_isAhead, Cond.code yX8_isAhead cX8_isAhead 4 (some .boolean), Cond.methodLink RL 105 yX9_why, Cond.instanceMethod yX9_why, Cond.selects RX9 yX9_why yX9_why, Cond.code yX9_why cX9_why 2 (some .int), Cond.methodLink RL 106 yX8_ledger, Cond.instanceMethod yX8_ledger, Cond.selects RX8 yX8_ledger yX8_ledger, Cond.code yX8_ledger cX8_ledger 3 (some .int), Cond.methodLink RX8 248 yX8_printLedger, Cond.instanceMethod yX8_printLedger, Cond.selects RX8 yX8_printLedger yX8_printLedger]
def wsL_law_r32 : List Cond := [Cond.code yX8_printLedger cX8_printLedger 4 none, Cond.methodLink RX8 322 yX3_clear, Cond.instanceMethod yX3_clear, Cond.selects RX3 yX3_clear yX3_clear, Cond.code yX3_clear cX3_clear 1 none, Cond.fieldLink RX3 15 "PromiseMind$Print" "size" "I", Cond.methodLink RX8 323 yX3_number, Cond.instanceMethod yX3_number, Cond.selects RX3 yX3_number yX3_number, Cond.code yX3_number cX3_number 2 none, Cond.methodLink RX3 19 yX3_sign, Cond.instanceMethod yX3_sign, Cond.selects RX3 yX3_sign yX3_sign, Cond.code yX3_sign cX3_sign 2 none, Cond.methodLink RX8 327 yX3_sign, Cond.methodLink RX8 332 yX3_word, Cond.instanceMethod yX3_word, Cond.selects RX3 yX3_word yX3_word, Cond.code yX3_word cX3_word 3 none, Cond.methodLink RX3 23 yJ0_length_8abf5, Cond.instanceMethod yJ0_length_8abf5, Cond.selects RJ0 yJ0_length_8abf5 yJ0_length_8abf5, Cond.initialized RJ0, Cond.code yJ0_length_8abf5 cJ0_length_8abf5 1 (some .int)]
def wsL_law_r33 : List Cond := [Cond.fieldLink RJ0 9 "java/lang/String" "value" "[B", Cond.methodLink RJ0 335 yJ0_coder_7d493, Cond.instanceMethod yJ0_coder_7d493, Cond.selects RJ0 yJ0_coder_7d493 yJ0_coder_7d493, Cond.code yJ0_coder_7d493 cJ0_coder_7d493 1 (some .byte), Cond.fieldLink RJ0 38 "java/lang/String" "COMPACT_STRINGS" "Z", Cond.fieldLink RJ0 15 "java/lang/String" "coder" "B", Cond.methodLink RX3 29 yJ0_charAt_5068e, Cond.instanceMethod yJ0_charAt_5068e, Cond.selects RJ0 yJ0_charAt_5068e yJ0_charAt_5068e, Cond.code yJ0_charAt_5068e cJ0_charAt_5068e 2 (some .char), Cond.methodLink RJ0 492 yJ0_isLatin1_aae02, Cond.instanceMethod yJ0_isLatin1_aae02, Cond.selects RJ0 yJ0_isLatin1_aae02 yJ0_isLatin1_aae02, Cond.code yJ0_isLatin1_aae02 cJ0_isLatin1_aae02 1 (some .boolean), Cond.methodLink RJ0 495 yJ1_charAt_3b067, Cond.static yJ1_charAt_3b067, Cond.initialized RJ1, Cond.code yJ1_charAt_3b067 cJ1_charAt_3b067 2 (some .char), Cond.methodLink RJ1 9 yJ0_checkIndex_df160, Cond.static yJ0_checkIndex_df160, Cond.code yJ0_checkIndex_df160 cJ0_checkIndex_df160 2 none, Cond.fieldLink RJ0 1053 "jdk/internal/util/Preconditions" "SIOOBE_FORMATTER" "Ljava/util/function/BiFunction;", Cond.methodLink RJ0 1059 yJ3_checkIndex_8e157]
def wsL_law_r34 : List Cond := [Cond.static yJ3_checkIndex_8e157, Cond.initialized RJ3, Cond.code yJ3_checkIndex_8e157 cJ3_checkIndex_8e157 3 (some .int), Cond.methodLink RJ0 498 yJ2_charAt_3b067, Cond.static yJ2_charAt_3b067, Cond.initialized RJ2, Cond.code yJ2_charAt_3b067 cJ2_charAt_3b067 2 (some .char), Cond.methodLink RJ2 67 yJ2_checkIndex_2214a, Cond.static yJ2_checkIndex_2214a, Cond.code yJ2_checkIndex_2214a cJ2_checkIndex_2214a 2 none, Cond.methodLink RJ2 48 yJ2_length_9d52b, Cond.static yJ2_length_9d52b, Cond.code yJ2_length_9d52b cJ2_length_9d52b 1 (some .int), Cond.methodLink RJ2 414 yJ0_checkIndex_df160, Cond.methodLink RJ2 71 yJ2_getChar_3b067, Cond.static yJ2_getChar_3b067, Cond.code yJ2_getChar_3b067 cJ2_getChar_3b067 2 (some .char), Cond.fieldLink RJ2 44 "java/lang/StringUTF16" "$assertionsDisabled" "Z", Cond.fieldLink RJ2 59 "java/lang/StringUTF16" "HI_BYTE_SHIFT" "I", Cond.fieldLink RJ2 63 "java/lang/StringUTF16" "LO_BYTE_SHIFT" "I", Cond.methodLink RX8 253 yX3_signAt, Cond.instanceMethod yX3_signAt, Cond.selects RX3 yX3_signAt yX3_signAt, Cond.code yX3_signAt cX3_signAt 2 (some .int)]
def wsL_law_r35 : List Cond := [Cond.methodLink RL 109 yX9_ledger, Cond.instanceMethod yX9_ledger, Cond.selects RX9 yX9_ledger yX9_ledger, Cond.code yX9_ledger cX9_ledger 5 (some .int), Cond.classLink RX9 268 RJ4, Cond.instantiable RJ4 4, Cond.initialized RJ4, Cond.methodLink RX9 270 yJ4_init_da8c8, Cond.instanceMethod yJ4_init_da8c8, Cond.code yJ4_init_da8c8 cJ4_init_da8c8 1 none, Cond.methodLink RJ4 1 yJ5_init_d00df, Cond.instanceMethod yJ5_init_d00df, Cond.initialized RJ5, Cond.code yJ5_init_d00df cJ5_init_d00df 2 none, Cond.methodLink RJ5 3 objectInit, Cond.fieldLink RJ5 18 "java/lang/String" "COMPACT_STRINGS" "Z", Cond.arrayClass .byte, Cond.fieldLink RJ5 15 "java/lang/AbstractStringBuilder" "value" "[B", Cond.fieldLink RJ5 22 "java/lang/AbstractStringBuilder" "coder" "B", Cond.methodLink RJ5 26 yJ2_newBytesFor_77867, Cond.static yJ2_newBytesFor_77867, Cond.code yJ2_newBytesFor_77867 cJ2_newBytesFor_77867 1 (some (.array .byte)), Cond.methodLink RJ2 11 yJ2_newBytesLength_0f7a4, Cond.static yJ2_newBytesLength_0f7a4]
def wsL_law_r36 : List Cond := [Cond.code yJ2_newBytesLength_0f7a4 cJ2_newBytesLength_0f7a4 1 (some .int), Cond.constant RJ2 20 (1073741823), Cond.methodLink RX9 271 yJ4_append_bf812, Cond.instanceMethod yJ4_append_bf812, Cond.selects RJ4 yJ4_append_bf812 yJ4_append_bf812, Cond.code yJ4_append_bf812 cJ4_append_bf812 2 (some (.object "java/lang/StringBuilder")), Cond.methodLink RJ4 53 yJ5_append_c97b9, Cond.sameMethod "java/lang/AbstractStringBuilder" "java/lang/AbstractStringBuilder" "append" "(I)Ljava/lang/AbstractStringBuilder;", Cond.superclass RJ4 RJ5, Cond.instanceMethod yJ5_append_c97b9, Cond.code yJ5_append_c97b9 cJ5_append_c97b9 4 (some (.object "java/lang/AbstractStringBuilder")), Cond.fieldLink RJ5 79 "java/lang/AbstractStringBuilder" "count" "I", Cond.methodLink RJ5 245 yJ6_stringSize_0f7a4, Cond.static yJ6_stringSize_0f7a4, Cond.code yJ6_stringSize_0f7a4 cJ6_stringSize_0f7a4 4 (some .int), Cond.methodLink RJ5 100 ⟨"java/lang/AbstractStringBuilder", "ensureCapacityInternal", "(I)V"⟩, Cond.sameMethod "java/lang/AbstractStringBuilder" "java/lang/AbstractStringBuilder" "ensureCapacityInternal" "(I)V", Cond.selects RJ4 ⟨"java/lang/AbstractStringBuilder", "ensureCapacityInternal", "(I)V"⟩ yJ5_ensureCapacityInternal_d00df, Cond.instanceMethod yJ5_ensureCapacityInternal_d00df, Cond.code yJ5_ensureCapacityInternal_d00df cJ5_ensureCapacityInternal_d00df 3 none, Cond.methodLink RJ5 104 ⟨"java/lang/AbstractStringBuilder", "newCapacity", "(I)I"⟩, Cond.sameMethod "java/lang/AbstractStringBuilder" "java/lang/AbstractStringBuilder" "newCapacity" "(I)I", Cond.selects RJ4 ⟨"java/lang/AbstractStringBuilder", "newCapacity", "(I)I"⟩ yJ5_newCapacity_0f7a4, Cond.instanceMethod yJ5_newCapacity_0f7a4]
def wsL_law_r37 : List Cond := [Cond.code yJ5_newCapacity_0f7a4 cJ5_newCapacity_0f7a4 6 (some .int), Cond.constant RJ5 39 (2147483647), Cond.methodLink RJ5 114 yJ8_newLength_cabcc, Cond.static yJ8_newLength_cabcc, Cond.initialized RJ8, Cond.code yJ8_newLength_cabcc cJ8_newLength_cabcc 4 (some .int), Cond.methodLink RJ8 194 Lib.Math.max.name, Cond.constant RJ8 200 (2147483639), Cond.methodLink RJ8 201 yJ8_hugeLength_7cf53, Cond.static yJ8_hugeLength_7cf53, Cond.code yJ8_hugeLength_7cf53 cJ8_hugeLength_7cf53 3 (some .int), Cond.methodLink RJ5 108 yJ7_copyOf_9075b, Cond.static yJ7_copyOf_9075b, Cond.code yJ7_copyOf_9075b cJ7_copyOf_9075b 3 (some (.array .byte)), Cond.methodLink RJ7 310 ⟨"[B", "clone", "()Ljava/lang/Object;"⟩, Cond.sameMethod "[B" "java/lang/Object" "clone" "()Ljava/lang/Object;", Cond.native ⟨"java/lang/Object", "clone", "()Ljava/lang/Object;"⟩, Cond.instanceMethod ⟨"java/lang/Object", "clone", "()Ljava/lang/Object;"⟩, Cond.selects "[B" ⟨"[B", "clone", "()Ljava/lang/Object;"⟩ ⟨"java/lang/Object", "clone", "()Ljava/lang/Object;"⟩, Cond.classLink RJ7 311 "[B", Cond.methodLink RJ7 304 Lib.Math.min.name, Cond.methodLink RJ7 150 arraycopyName, Cond.methodLink RJ5 83 ⟨"java/lang/AbstractStringBuilder", "isLatin1", "()Z"⟩, Cond.sameMethod "java/lang/AbstractStringBuilder" "java/lang/AbstractStringBuilder" "isLatin1" "()Z"]
def wsL_law_r38 : List Cond := [Cond.selects RJ4 ⟨"java/lang/AbstractStringBuilder", "isLatin1", "()Z"⟩ yJ5_isLatin1_aae02, Cond.instanceMethod yJ5_isLatin1_aae02, Cond.code yJ5_isLatin1_aae02 cJ5_isLatin1_aae02 1 (some .boolean), Cond.methodLink RJ5 248 yJ6_getChars_ba4f3, Cond.static yJ6_getChars_ba4f3, Cond.code yJ6_getChars_ba4f3 cJ6_getChars_ba4f3 7 (some .int), Cond.fieldLink RJ6 83 "java/lang/Integer" "DigitOnes" "[B", Cond.fieldLink RJ6 87 "java/lang/Integer" "DigitTens" "[B", Cond.methodLink RJ5 251 yJ2_getChars_46870, Cond.static yJ2_getChars_46870, Cond.code yJ2_getChars_46870 cJ2_getChars_46870 5 (some .int), Cond.methodLink RJ2 96 yJ2_checkBoundsBeginEnd_d044e, Cond.static yJ2_checkBoundsBeginEnd_d044e, Cond.code yJ2_checkBoundsBeginEnd_d044e cJ2_checkBoundsBeginEnd_d044e 3 none, Cond.methodLink RJ2 241 yJ0_checkBoundsBeginEnd_23922, Cond.static yJ0_checkBoundsBeginEnd_23922, Cond.code yJ0_checkBoundsBeginEnd_23922 cJ0_checkBoundsBeginEnd_23922 3 none, Cond.methodLink RJ0 1062 yJ3_checkFromToIndex_8c36e, Cond.static yJ3_checkFromToIndex_8c36e, Cond.code yJ3_checkFromToIndex_8c36e cJ3_checkFromToIndex_8c36e 4 (some .int), Cond.methodLink RJ2 393 yJ2_getChars_ba4f3, Cond.static yJ2_getChars_ba4f3, Cond.code yJ2_getChars_ba4f3 cJ2_getChars_ba4f3 7 (some .int), Cond.fieldLink RJ2 403 "java/lang/Integer" "DigitOnes" "[B"]
def wsL_law_r39 : List Cond := [Cond.fieldLink RJ2 407 "java/lang/Integer" "DigitTens" "[B", Cond.methodLink RJ2 111 yJ2_putChar_b72d1, Cond.static yJ2_putChar_b72d1, Cond.code yJ2_putChar_b72d1 cJ2_putChar_b72d1 3 none, Cond.methodLink RX9 275 yJ4_append_cf468, Cond.instanceMethod yJ4_append_cf468, Cond.selects RJ4 yJ4_append_cf468 yJ4_append_cf468, Cond.code yJ4_append_cf468 cJ4_append_cf468 2 (some (.object "java/lang/StringBuilder")), Cond.methodLink RJ4 50 yJ5_append_3fe6f, Cond.sameMethod "java/lang/AbstractStringBuilder" "java/lang/AbstractStringBuilder" "append" "(C)Ljava/lang/AbstractStringBuilder;", Cond.instanceMethod yJ5_append_3fe6f, Cond.code yJ5_append_3fe6f cJ5_append_3fe6f 2 (some (.object "java/lang/AbstractStringBuilder")), Cond.methodLink RJ5 191 yJ1_canEncode_fc78d, Cond.static yJ1_canEncode_fc78d, Cond.code yJ1_canEncode_fc78d cJ1_canEncode_fc78d 1 (some .boolean), Cond.methodLink RJ5 195 ⟨"java/lang/AbstractStringBuilder", "inflate", "()V"⟩, Cond.sameMethod "java/lang/AbstractStringBuilder" "java/lang/AbstractStringBuilder" "inflate" "()V", Cond.selects RJ4 ⟨"java/lang/AbstractStringBuilder", "inflate", "()V"⟩ yJ5_inflate_da8c8, Cond.instanceMethod yJ5_inflate_da8c8, Cond.code yJ5_inflate_da8c8 cJ5_inflate_da8c8 2 none, Cond.methodLink RJ5 125 yJ1_inflate_0e8fd, Cond.static yJ1_inflate_0e8fd, Cond.code yJ1_inflate_0e8fd cJ1_inflate_0e8fd 5 none, Cond.methodLink RJ1 240 yJ2_inflate_0e8fd]
def wsL_law_r40 : List Cond := [Cond.static yJ2_inflate_0e8fd, Cond.code yJ2_inflate_0e8fd cJ2_inflate_0e8fd 6 none, Cond.methodLink RJ2 173 yJ2_checkBoundsOffCount_d044e, Cond.static yJ2_checkBoundsOffCount_d044e, Cond.code yJ2_checkBoundsOffCount_d044e cJ2_checkBoundsOffCount_d044e 3 none, Cond.methodLink RJ2 419 yJ0_checkBoundsOffCount_cabcc, Cond.static yJ0_checkBoundsOffCount_cabcc, Cond.code yJ0_checkBoundsOffCount_cabcc cJ0_checkBoundsOffCount_cabcc 3 (some .int), Cond.methodLink RJ0 1065 yJ3_checkFromIndexSize_8c36e, Cond.static yJ3_checkFromIndexSize_8c36e, Cond.code yJ3_checkFromIndexSize_8c36e cJ3_checkFromIndexSize_8c36e 4 (some .int), Cond.methodLink RJ5 197 yJ2_putCharSB_b72d1, Cond.static yJ2_putCharSB_b72d1, Cond.code yJ2_putCharSB_b72d1 cJ2_putCharSB_b72d1 3 none, Cond.methodLink RX9 286 yJ4_append_15ec4, Cond.instanceMethod yJ4_append_15ec4, Cond.selects RJ4 yJ4_append_15ec4 yJ4_append_15ec4, Cond.code yJ4_append_15ec4 cJ4_append_15ec4 2 (some (.object "java/lang/StringBuilder")), Cond.methodLink RJ4 29 yJ5_append_cf1ce, Cond.sameMethod "java/lang/AbstractStringBuilder" "java/lang/AbstractStringBuilder" "append" "(Ljava/lang/String;)Ljava/lang/AbstractStringBuilder;", Cond.instanceMethod yJ5_append_cf1ce, Cond.code yJ5_append_cf1ce cJ5_append_cf1ce 3 (some (.object "java/lang/AbstractStringBuilder")), Cond.methodLink RJ5 204 ⟨"java/lang/AbstractStringBuilder", "appendNull", "()Ljava/lang/AbstractStringBuilder;"⟩, Cond.sameMethod "java/lang/AbstractStringBuilder" "java/lang/AbstractStringBuilder" "appendNull" "()Ljava/lang/AbstractStringBuilder;"]
def wsL_law_r41 : List Cond := [Cond.selects RJ4 ⟨"java/lang/AbstractStringBuilder", "appendNull", "()Ljava/lang/AbstractStringBuilder;"⟩ yJ5_appendNull_278bc, Cond.instanceMethod yJ5_appendNull_278bc, Cond.code yJ5_appendNull_278bc cJ5_appendNull_278bc 3 (some (.object "java/lang/AbstractStringBuilder")), Cond.methodLink RJ5 226 yJ2_putCharsAt_cd4e5, Cond.static yJ2_putCharsAt_cd4e5, Cond.code yJ2_putCharsAt_cd4e5 cJ2_putCharsAt_cd4e5 7 (some .int), Cond.methodLink RJ5 32 yJ0_length_8abf5, Cond.methodLink RJ5 208 ⟨"java/lang/AbstractStringBuilder", "putStringAt", "(ILjava/lang/String;)V"⟩, Cond.sameMethod "java/lang/AbstractStringBuilder" "java/lang/AbstractStringBuilder" "putStringAt" "(ILjava/lang/String;)V", Cond.selects RJ4 ⟨"java/lang/AbstractStringBuilder", "putStringAt", "(ILjava/lang/String;)V"⟩ yJ5_putStringAt_47b60, Cond.instanceMethod yJ5_putStringAt_47b60, Cond.code yJ5_putStringAt_47b60 cJ5_putStringAt_47b60 3 none, Cond.methodLink RJ5 397 ⟨"java/lang/AbstractStringBuilder", "inflateIfNeededFor", "(Ljava/lang/String;)V"⟩, Cond.sameMethod "java/lang/AbstractStringBuilder" "java/lang/AbstractStringBuilder" "inflateIfNeededFor" "(Ljava/lang/String;)V", Cond.selects RJ4 ⟨"java/lang/AbstractStringBuilder", "inflateIfNeededFor", "(Ljava/lang/String;)V"⟩ yJ5_inflateIfNeededFor_a7421, Cond.instanceMethod yJ5_inflateIfNeededFor_a7421, Cond.code yJ5_inflateIfNeededFor_a7421 cJ5_inflateIfNeededFor_a7421 2 none, Cond.methodLink RJ5 40 yJ0_coder_7d493, Cond.methodLink RJ5 399 yJ0_getBytes_840e7, Cond.instanceMethod yJ0_getBytes_840e7, Cond.selects RJ0 yJ0_getBytes_840e7 yJ0_getBytes_840e7, Cond.code yJ0_getBytes_840e7 cJ0_getBytes_840e7 4 none, Cond.methodLink RJ0 212 arraycopyName, Cond.methodLink RJ0 106 yJ1_inflate_0e8fd]
def wsL_law_r42 : List Cond := [Cond.methodLink RX9 289 yJ4_length_8abf5, Cond.instanceMethod yJ4_length_8abf5, Cond.selects RJ4 yJ4_length_8abf5 yJ4_length_8abf5, Cond.code yJ4_length_8abf5 cJ4_length_8abf5 1 (some .int), Cond.methodLink RJ4 343 yJ5_length_8abf5, Cond.sameMethod "java/lang/AbstractStringBuilder" "java/lang/AbstractStringBuilder" "length" "()I", Cond.instanceMethod yJ5_length_8abf5, Cond.code yJ5_length_8abf5 cJ5_length_8abf5 1 (some .int), Cond.methodLink RX9 292 yJ4_charAt_5068e, Cond.instanceMethod yJ4_charAt_5068e, Cond.selects RJ4 yJ4_charAt_5068e yJ4_charAt_5068e, Cond.code yJ4_charAt_5068e cJ4_charAt_5068e 2 (some .char), Cond.methodLink RJ4 329 yJ5_charAt_5068e, Cond.sameMethod "java/lang/AbstractStringBuilder" "java/lang/AbstractStringBuilder" "charAt" "(I)C", Cond.instanceMethod yJ5_charAt_5068e, Cond.code yJ5_charAt_5068e cJ5_charAt_5068e 5 (some .char), Cond.methodLink RJ5 138 Lib.Math.min.name, Cond.methodLink RJ5 144 yJ0_checkIndex_df160, Cond.methodLink RJ5 148 yJ2_getChar_3b067, Cond.methodLink RL 110 yX8_row, Cond.instanceMethod yX8_row, Cond.selects RX8 yX8_row yX8_row, Cond.code yX8_row cX8_row 3 (some .int), Cond.methodLink RX8 256 yX4_has]
def wsL_law_r43 : List Cond := [Cond.instanceMethod yX4_has, Cond.selects RX4 yX4_has yX4_has, Cond.code yX4_has cX4_has 2 (some .boolean), Cond.methodLink RX8 259 yX4_lay, Cond.instanceMethod yX4_lay, Cond.selects RX4 yX4_lay yX4_lay, Cond.code yX4_lay cX4_lay 4 none, Cond.methodLink RX4 29 Lib.Math.min.name, Cond.methodLink RX4 25 yX4_has, Cond.methodLink RL 113 yX9_row, Cond.instanceMethod yX9_row, Cond.selects RX9 yX9_row yX9_row, Cond.code yX9_row cX9_row 4 (some .int), Cond.methodLink RX9 296 yX9_isShelf, Cond.static yX9_isShelf, Cond.code yX9_isShelf cX9_isShelf 1 (some .boolean), Cond.methodLink RL 116 yX8_put, Cond.instanceMethod yX8_put, Cond.selects RX8 yX8_put yX8_put, Cond.code yX8_put cX8_put 5 (some .int), Cond.methodLink RX8 261 yX4_isEmpty, Cond.instanceMethod yX4_isEmpty, Cond.selects RX4 yX4_isEmpty yX4_isEmpty, Cond.code yX4_isEmpty cX4_isEmpty 2 (some .boolean)]
def wsL_law_r44 : List Cond := [Cond.methodLink RX8 264 yX4_hasPlace, Cond.instanceMethod yX4_hasPlace, Cond.selects RX4 yX4_hasPlace yX4_hasPlace, Cond.code yX4_hasPlace cX4_hasPlace 3 (some .boolean), Cond.methodLink RX8 267 yX4_write, Cond.instanceMethod yX4_write, Cond.selects RX4 yX4_write yX4_write, Cond.code yX4_write cX4_write 5 none, Cond.methodLink RX4 35 yX4_hasPlace, Cond.methodLink RL 120 yX9_put, Cond.instanceMethod yX9_put, Cond.selects RX9 yX9_put yX9_put, Cond.code yX9_put cX9_put 5 (some .int), Cond.methodLink RL 121 yX8_get, Cond.instanceMethod yX8_get, Cond.selects RX8 yX8_get yX8_get, Cond.code yX8_get cX8_get 3 (some .long), Cond.constantLong RX8 275 (-9223372036854775808), Cond.methodLink RX8 271 yX4_read, Cond.instanceMethod yX4_read, Cond.selects RX4 yX4_read yX4_read, Cond.code yX4_read cX4_read 3 (some .long), Cond.methodLink RL 125 yX9_get, Cond.instanceMethod yX9_get]
def wsL_law_r45 : List Cond := [Cond.selects RX9 yX9_get yX9_get, Cond.code yX9_get cX9_get 3 (some .long), Cond.constantLong RX9 301 (-9223372036854775808), Cond.methodLink RL 126 yX8_from, Cond.instanceMethod yX8_from, Cond.selects RX8 yX8_from yX8_from, Cond.code yX8_from cX8_from 9 (some .int), Cond.constantLong RX8 277 (99), Cond.methodLink RL 129 yX9_from, Cond.instanceMethod yX9_from, Cond.selects RX9 yX9_from yX9_from, Cond.code yX9_from cX9_from 8 (some .int), Cond.constantLong RX9 303 (99), Cond.methodLink RL 130 yX8_lefts, Cond.instanceMethod yX8_lefts, Cond.selects RX8 yX8_lefts yX8_lefts, Cond.code yX8_lefts cX8_lefts 4 (some .int), Cond.methodLink RL 133 yX9_lefts, Cond.instanceMethod yX9_lefts, Cond.selects RX9 yX9_lefts yX9_lefts, Cond.code yX9_lefts cX9_lefts 4 (some .int), Cond.methodLink RL 134 yX8_undo, Cond.instanceMethod yX8_undo, Cond.selects RX8 yX8_undo yX8_undo]
def wsL_law_r46 : List Cond := [Cond.code yX8_undo cX8_undo 1 (some .int), Cond.methodLink RX8 282 yX2_stepBy, Cond.instanceMethod yX2_stepBy, Cond.selects RX2 yX2_stepBy yX2_stepBy, Cond.code yX2_stepBy cX2_stepBy 2 (some (.object "PromiseMind$State")), Cond.methodLink RX2 32 Lib.Math.min.name, Cond.methodLink RX2 38 Lib.Math.max.name, Cond.methodLink RX8 286 yX8_layStepBack, Cond.instanceMethod yX8_layStepBack, Cond.selects RX8 yX8_layStepBack yX8_layStepBack, Cond.code yX8_layStepBack cX8_layStepBack 3 none, Cond.methodLink RX8 304 yX8_layBack, Cond.instanceMethod yX8_layBack, Cond.selects RX8 yX8_layBack yX8_layBack, Cond.code yX8_layBack cX8_layBack 3 none, Cond.methodLink RX8 293 yX5_copyOf, Cond.methodLink RL 137 yX9_undo, Cond.instanceMethod yX9_undo, Cond.selects RX9 yX9_undo yX9_undo, Cond.code yX9_undo cX9_undo 1 (some .int), Cond.methodLink RX9 101 yX9_laysBack, Cond.instanceMethod yX9_laysBack, Cond.selects RX9 yX9_laysBack yX9_laysBack, Cond.code yX9_laysBack cX9_laysBack 4 none]
def wsL_law_r47 : List Cond := [Cond.methodLink RL 138 yX8_redo, Cond.instanceMethod yX8_redo, Cond.selects RX8 yX8_redo yX8_redo, Cond.code yX8_redo cX8_redo 1 (some .int), Cond.methodLink RL 141 yX9_redo, Cond.instanceMethod yX9_redo, Cond.selects RX9 yX9_redo yX9_redo, Cond.code yX9_redo cX9_redo 1 (some .int), Cond.methodLink RL 142 yX8_image, Cond.instanceMethod yX8_image, Cond.selects RX8 yX8_image yX8_image, Cond.code yX8_image cX8_image 1 (some .int), Cond.fieldLink RX8 297 "PromiseMind" "pictured" "Z", Cond.methodLink RL 145 yX9_image, Cond.instanceMethod yX9_image, Cond.selects RX9 yX9_image yX9_image, Cond.code yX9_image cX9_image 1 (some .int), Cond.methodLink RL 146 yX8_back, Cond.instanceMethod yX8_back, Cond.selects RX8 yX8_back yX8_back, Cond.code yX8_back cX8_back 1 (some .int), Cond.methodLink RX8 307 yX2_startFrom, Cond.instanceMethod yX2_startFrom, Cond.selects RX2 yX2_startFrom yX2_startFrom]
def wsL_law_r48 : List Cond := [Cond.code yX2_startFrom cX2_startFrom 3 none, Cond.methodLink RL 149 yX9_back, Cond.instanceMethod yX9_back, Cond.selects RX9 yX9_back yX9_back, Cond.code yX9_back cX9_back 2 (some .int), Cond.methodLink RL 150 yX8_count, Cond.instanceMethod yX8_count, Cond.selects RX8 yX8_count yX8_count, Cond.code yX8_count cX8_count 2 (some .int), Cond.methodLink RL 153 yX9_count, Cond.instanceMethod yX9_count, Cond.selects RX9 yX9_count yX9_count, Cond.code yX9_count cX9_count 2 (some .int)]
def wsL_law : List Cond := (wsL_law_r1 ++ (wsL_law_r2 ++ (wsL_law_r3 ++ (wsL_law_r4 ++ (wsL_law_r5 ++ (wsL_law_r6 ++ (wsL_law_r7 ++ (wsL_law_r8 ++ (wsL_law_r9 ++ (wsL_law_r10 ++ (wsL_law_r11 ++ (wsL_law_r12 ++ (wsL_law_r13 ++ (wsL_law_r14 ++ (wsL_law_r15 ++ (wsL_law_r16 ++ (wsL_law_r17 ++ (wsL_law_r18 ++ (wsL_law_r19 ++ (wsL_law_r20 ++ (wsL_law_r21 ++ (wsL_law_r22 ++ (wsL_law_r23 ++ (wsL_law_r24 ++ (wsL_law_r25 ++ (wsL_law_r26 ++ (wsL_law_r27 ++ (wsL_law_r28 ++ (wsL_law_r29 ++ (wsL_law_r30 ++ (wsL_law_r31 ++ (wsL_law_r32 ++ (wsL_law_r33 ++ (wsL_law_r34 ++ (wsL_law_r35 ++ (wsL_law_r36 ++ (wsL_law_r37 ++ (wsL_law_r38 ++ (wsL_law_r39 ++ (wsL_law_r40 ++ (wsL_law_r41 ++ (wsL_law_r42 ++ (wsL_law_r43 ++ (wsL_law_r44 ++ (wsL_law_r45 ++ (wsL_law_r46 ++ (wsL_law_r47 ++ wsL_law_r48))))))))))))))))))))))))))))))))))))))))))))))) ++ wsX80 ++ wsX90 ++ wsX00 ++ wsX50 ++ wsX20 ++ wsX70 ++ wsX60 ++ wsX10 ++ wsX40 ++ wsX30 ++ wsJ40 ++ ([] : List Cond)
theorem inJx145de : ∀ w ∈ wsJx145de0, w ∈ lw_tbl := by decide +kernel
theorem inJx2cfe8 : ∀ w ∈ wsJx2cfe80, w ∈ lw_tbl := by decide +kernel
theorem inJx9f9b0 : ∀ w ∈ wsJx9f9b00, w ∈ lw_tbl := by decide +kernel
theorem inJx8e188 : ∀ w ∈ wsJx8e1880, w ∈ lw_tbl := by decide +kernel
theorem inJxb160c : ∀ w ∈ wsJxb160c0, w ∈ lw_tbl := by decide +kernel
theorem inJxd2413 : ∀ w ∈ wsJxd24130, w ∈ lw_tbl := by decide +kernel
theorem inJxfd54e : ∀ w ∈ wsJxfd54e0, w ∈ lw_tbl := by decide +kernel
theorem inJx3cf43 : ∀ w ∈ wsJx3cf430, w ∈ lw_tbl := by decide +kernel
theorem dX0_init_0 : decode cX0_init 0 = .ok (.aload_n 0, 1) := by decide +kernel
theorem dX0_init_1 : decode cX0_init 1 = .ok (.invokespecial 3, 3) := by decide +kernel
theorem dX0_init_4 : decode cX0_init 4 = .ok (.aload_n 0, 1) := by decide +kernel
theorem dX0_init_5 : decode cX0_init 5 = .ok (.bipush 24, 2) := by decide +kernel
theorem dX0_init_7 : decode cX0_init 7 = .ok (.newarray .int, 2) := by decide +kernel
theorem dX0_init_9 : decode cX0_init 9 = .ok (.putfield 9, 3) := by decide +kernel
theorem dX0_init_12 : decode cX0_init 12 = .ok (.aload_n 0, 1) := by decide +kernel
theorem dX0_init_13 : decode cX0_init 13 = .ok (.bipush 24, 2) := by decide +kernel
theorem dX0_init_15 : decode cX0_init 15 = .ok (.newarray .int, 2) := by decide +kernel
theorem dX0_init_17 : decode cX0_init 17 = .ok (.putfield 15, 3) := by decide +kernel
theorem dX0_init_20 : decode cX0_init 20 = .ok (.aload_n 0, 1) := by decide +kernel
theorem dX0_init_21 : decode cX0_init 21 = .ok (.bipush 24, 2) := by decide +kernel
theorem dX0_init_23 : decode cX0_init 23 = .ok (.newarray .int, 2) := by decide +kernel
theorem dX0_init_25 : decode cX0_init 25 = .ok (.putfield 18, 3) := by decide +kernel
theorem dX0_init_28 : decode cX0_init 28 = .ok (.aload_n 0, 1) := by decide +kernel
theorem dX0_init_29 : decode cX0_init 29 = .ok (.bipush 24, 2) := by decide +kernel
theorem dX0_init_31 : decode cX0_init 31 = .ok (.newarray .int, 2) := by decide +kernel
theorem dX0_init_33 : decode cX0_init 33 = .ok (.putfield 21, 3) := by decide +kernel
theorem dX0_init_36 : decode cX0_init 36 = .ok (.aload_n 0, 1) := by decide +kernel
theorem dX0_init_37 : decode cX0_init 37 = .ok (.bipush 24, 2) := by decide +kernel
theorem dX0_init_39 : decode cX0_init 39 = .ok (.newarray .int, 2) := by decide +kernel
theorem dX0_init_41 : decode cX0_init 41 = .ok (.putfield 24, 3) := by decide +kernel
theorem dX0_init_44 : decode cX0_init 44 = .ok (.return_, 1) := by decide +kernel
theorem dX1_init_0 : decode cX1_init 0 = .ok (.aload_n 0, 1) := by decide +kernel
theorem dX1_init_1 : decode cX1_init 1 = .ok (.invokespecial 3, 3) := by decide +kernel
theorem dX1_init_4 : decode cX1_init 4 = .ok (.aload_n 0, 1) := by decide +kernel
theorem dX1_init_5 : decode cX1_init 5 = .ok (.bipush 8, 2) := by decide +kernel
theorem dX1_init_7 : decode cX1_init 7 = .ok (.newarray .int, 2) := by decide +kernel
theorem dX1_init_9 : decode cX1_init 9 = .ok (.putfield 9, 3) := by decide +kernel
theorem dX1_init_12 : decode cX1_init 12 = .ok (.aload_n 0, 1) := by decide +kernel
theorem dX1_init_13 : decode cX1_init 13 = .ok (.sipush 256, 3) := by decide +kernel
theorem dX1_init_16 : decode cX1_init 16 = .ok (.newarray .int, 2) := by decide +kernel
theorem dX1_init_18 : decode cX1_init 18 = .ok (.putfield 15, 3) := by decide +kernel
theorem dX1_init_21 : decode cX1_init 21 = .ok (.aload_n 0, 1) := by decide +kernel
theorem dX1_init_22 : decode cX1_init 22 = .ok (.sipush 256, 3) := by decide +kernel
theorem dX1_init_25 : decode cX1_init 25 = .ok (.newarray .int, 2) := by decide +kernel
theorem dX1_init_27 : decode cX1_init 27 = .ok (.putfield 18, 3) := by decide +kernel
theorem dX1_init_30 : decode cX1_init 30 = .ok (.aload_n 0, 1) := by decide +kernel
theorem dX1_init_31 : decode cX1_init 31 = .ok (.bipush 39, 2) := by decide +kernel
theorem dX1_init_33 : decode cX1_init 33 = .ok (.newarray .int, 2) := by decide +kernel
theorem dX1_init_35 : decode cX1_init 35 = .ok (.putfield 21, 3) := by decide +kernel
theorem dX1_init_38 : decode cX1_init 38 = .ok (.aload_n 0, 1) := by decide +kernel
theorem dX1_init_39 : decode cX1_init 39 = .ok (.iconst 4, 1) := by decide +kernel
theorem dX1_init_40 : decode cX1_init 40 = .ok (.newarray .int, 2) := by decide +kernel
theorem dX1_init_42 : decode cX1_init 42 = .ok (.putfield 24, 3) := by decide +kernel
theorem dX1_init_45 : decode cX1_init 45 = .ok (.return_, 1) := by decide +kernel
set_option maxRecDepth 20000 in
theorem ggX1_pick_J7_fill_53178 : GoodIn wsX1_pick wsJ7_fill_53178 := goodIn_r _ [8] (by decide +kernel) (by decide +kernel)
set_option maxRecDepth 20000 in
theorem gX1_pick_J7_fill_53178 : GoodIn wsX1_pick (va_wsS RX1 31 yJ7_fill_53178 wsJ7_fill_53178) := goodIn_app (goodIn_of _ (by decide +kernel)) ggX1_pick_J7_fill_53178
set_option maxRecDepth 20000 in
theorem ggX1_pick_X8_bit : GoodIn wsX1_pick wsX8_bit := goodIn_r _ [11] (by decide +kernel) (by decide +kernel)
set_option maxRecDepth 20000 in
theorem gX1_pick_X8_bit_n40 : GoodIn wsX1_pick (wsX8_bit) := ggX1_pick_X8_bit
set_option maxRecDepth 20000 in
theorem ggX1_pick_X8_startOf : GoodIn wsX1_pick wsX8_startOf := goodIn_r _ [13] (by decide +kernel) (by decide +kernel)
set_option maxRecDepth 20000 in
theorem gX1_pick_X8_startOf_n52 : GoodIn wsX1_pick (wsX8_startOf) := ggX1_pick_X8_startOf
theorem dX1_pick_0 : decode cX1_pick 0 = .ok (.aload_n 0, 1) := by decide +kernel
theorem dX1_pick_1 : decode cX1_pick 1 = .ok (.iconst 0, 1) := by decide +kernel
theorem dX1_pick_2 : decode cX1_pick 2 = .ok (.putfield 27, 3) := by decide +kernel
theorem dX1_pick_5 : decode cX1_pick 5 = .ok (.aload_n 0, 1) := by decide +kernel
theorem dX1_pick_6 : decode cX1_pick 6 = .ok (.getfield 21, 3) := by decide +kernel
theorem dX1_pick_9 : decode cX1_pick 9 = .ok (.iconst 0, 1) := by decide +kernel
theorem dX1_pick_10 : decode cX1_pick 10 = .ok (.invokestatic 31, 3) := by decide +kernel
theorem dX1_pick_13 : decode cX1_pick 13 = .ok (.iconst 0, 1) := by decide +kernel
theorem dX1_pick_14 : decode cX1_pick 14 = .ok (.istore 4, 2) := by decide +kernel
theorem dX1_pick_16 : decode cX1_pick 16 = .ok (.iload 4, 2) := by decide +kernel
theorem dX1_pick_18 : decode cX1_pick 18 = .ok (.aload_n 1, 1) := by decide +kernel
theorem dX1_pick_19 : decode cX1_pick 19 = .ok (.getfield 37, 3) := by decide +kernel
theorem dX1_pick_22 : decode cX1_pick 22 = .ok (.if_icmp .ge 127, 3) := by decide +kernel
theorem dX1_pick_25 : decode cX1_pick 25 = .ok (.aload_n 0, 1) := by decide +kernel
theorem dX1_pick_26 : decode cX1_pick 26 = .ok (.getfield 27, 3) := by decide +kernel
theorem dX1_pick_29 : decode cX1_pick 29 = .ok (.bipush 8, 2) := by decide +kernel
theorem dX1_pick_31 : decode cX1_pick 31 = .ok (.if_icmp .ge 118, 3) := by decide +kernel
theorem dX1_pick_34 : decode cX1_pick 34 = .ok (.iload_n 3, 1) := by decide +kernel
theorem dX1_pick_35 : decode cX1_pick 35 = .ok (.iload 4, 2) := by decide +kernel
theorem dX1_pick_37 : decode cX1_pick 37 = .ok (.invokestatic 40, 3) := by decide +kernel
theorem dX1_pick_40 : decode cX1_pick 40 = .ok (.iand, 1) := by decide +kernel
theorem dX1_pick_41 : decode cX1_pick 41 = .ok (.ifCond .ne 6, 3) := by decide +kernel
theorem dX1_pick_44 : decode cX1_pick 44 = .ok (.goto 99, 3) := by decide +kernel
theorem dX1_pick_47 : decode cX1_pick 47 = .ok (.iconst 0, 1) := by decide +kernel
theorem dX1_pick_48 : decode cX1_pick 48 = .ok (.istore 5, 2) := by decide +kernel
theorem dX1_pick_50 : decode cX1_pick 50 = .ok (.iload 5, 2) := by decide +kernel
theorem dX1_pick_52 : decode cX1_pick 52 = .ok (.iconst 3, 1) := by decide +kernel
theorem dX1_pick_53 : decode cX1_pick 53 = .ok (.if_icmp .ge 69, 3) := by decide +kernel
theorem dX1_pick_56 : decode cX1_pick 56 = .ok (.aload_n 1, 1) := by decide +kernel
theorem dX1_pick_57 : decode cX1_pick 57 = .ok (.getfield 44, 3) := by decide +kernel
theorem dX1_pick_60 : decode cX1_pick 60 = .ok (.iload 4, 2) := by decide +kernel
theorem dX1_pick_62 : decode cX1_pick 62 = .ok (.iaload, 1) := by decide +kernel
theorem dX1_pick_63 : decode cX1_pick 63 = .ok (.iload 5, 2) := by decide +kernel
theorem dX1_pick_65 : decode cX1_pick 65 = .ok (.aload_n 2, 1) := by decide +kernel
theorem dX1_pick_66 : decode cX1_pick 66 = .ok (.getfield 47, 3) := by decide +kernel
theorem dX1_pick_69 : decode cX1_pick 69 = .ok (.iload 4, 2) := by decide +kernel
theorem dX1_pick_71 : decode cX1_pick 71 = .ok (.iaload, 1) := by decide +kernel
theorem dX1_pick_72 : decode cX1_pick 72 = .ok (.invokestatic 52, 3) := by decide +kernel
theorem dX1_pick_75 : decode cX1_pick 75 = .ok (.istore 6, 2) := by decide +kernel
theorem dX1_pick_77 : decode cX1_pick 77 = .ok (.iload 6, 2) := by decide +kernel
theorem dX1_pick_79 : decode cX1_pick 79 = .ok (.istore 7, 2) := by decide +kernel
theorem dX1_pick_81 : decode cX1_pick 81 = .ok (.iload 7, 2) := by decide +kernel
theorem dX1_pick_83 : decode cX1_pick 83 = .ok (.bipush 13, 2) := by decide +kernel
theorem dX1_pick_85 : decode cX1_pick 85 = .ok (.if_icmp .ge 31, 3) := by decide +kernel
theorem dX1_pick_88 : decode cX1_pick 88 = .ok (.aload_n 0, 1) := by decide +kernel
theorem dX1_pick_89 : decode cX1_pick 89 = .ok (.getfield 21, 3) := by decide +kernel
theorem dX1_pick_92 : decode cX1_pick 92 = .ok (.iload 5, 2) := by decide +kernel
theorem dX1_pick_94 : decode cX1_pick 94 = .ok (.bipush 13, 2) := by decide +kernel
theorem dX1_pick_96 : decode cX1_pick 96 = .ok (.imul, 1) := by decide +kernel
theorem dX1_pick_97 : decode cX1_pick 97 = .ok (.iload 7, 2) := by decide +kernel
theorem dX1_pick_99 : decode cX1_pick 99 = .ok (.iadd, 1) := by decide +kernel
theorem dX1_pick_100 : decode cX1_pick 100 = .ok (.dup2, 1) := by decide +kernel
theorem dX1_pick_101 : decode cX1_pick 101 = .ok (.iaload, 1) := by decide +kernel
theorem dX1_pick_102 : decode cX1_pick 102 = .ok (.iconst 1, 1) := by decide +kernel
theorem dX1_pick_103 : decode cX1_pick 103 = .ok (.aload_n 0, 1) := by decide +kernel
theorem dX1_pick_104 : decode cX1_pick 104 = .ok (.getfield 27, 3) := by decide +kernel
theorem dX1_pick_107 : decode cX1_pick 107 = .ok (.ishl, 1) := by decide +kernel
theorem dX1_pick_108 : decode cX1_pick 108 = .ok (.ior, 1) := by decide +kernel
theorem dX1_pick_109 : decode cX1_pick 109 = .ok (.iastore, 1) := by decide +kernel
theorem dX1_pick_110 : decode cX1_pick 110 = .ok (.iinc 7 1, 3) := by decide +kernel
theorem dX1_pick_113 : decode cX1_pick 113 = .ok (.goto (-32), 3) := by decide +kernel
theorem dX1_pick_116 : decode cX1_pick 116 = .ok (.iinc 5 1, 3) := by decide +kernel
theorem dX1_pick_119 : decode cX1_pick 119 = .ok (.goto (-69), 3) := by decide +kernel
theorem dX1_pick_122 : decode cX1_pick 122 = .ok (.aload_n 0, 1) := by decide +kernel
theorem dX1_pick_123 : decode cX1_pick 123 = .ok (.getfield 9, 3) := by decide +kernel
theorem dX1_pick_126 : decode cX1_pick 126 = .ok (.aload_n 0, 1) := by decide +kernel
theorem dX1_pick_127 : decode cX1_pick 127 = .ok (.getfield 27, 3) := by decide +kernel
theorem dX1_pick_130 : decode cX1_pick 130 = .ok (.iload 4, 2) := by decide +kernel
theorem dX1_pick_132 : decode cX1_pick 132 = .ok (.iastore, 1) := by decide +kernel
theorem dX1_pick_133 : decode cX1_pick 133 = .ok (.aload_n 0, 1) := by decide +kernel
theorem dX1_pick_134 : decode cX1_pick 134 = .ok (.dup, 1) := by decide +kernel
theorem dX1_pick_135 : decode cX1_pick 135 = .ok (.getfield 27, 3) := by decide +kernel
theorem dX1_pick_138 : decode cX1_pick 138 = .ok (.iconst 1, 1) := by decide +kernel
theorem dX1_pick_139 : decode cX1_pick 139 = .ok (.iadd, 1) := by decide +kernel
theorem dX1_pick_140 : decode cX1_pick 140 = .ok (.putfield 27, 3) := by decide +kernel
theorem dX1_pick_143 : decode cX1_pick 143 = .ok (.iinc 4 1, 3) := by decide +kernel
theorem dX1_pick_146 : decode cX1_pick 146 = .ok (.goto (-130), 3) := by decide +kernel
theorem dX1_pick_149 : decode cX1_pick 149 = .ok (.iconst 0, 1) := by decide +kernel
theorem dX1_pick_150 : decode cX1_pick 150 = .ok (.istore 4, 2) := by decide +kernel
theorem dX1_pick_152 : decode cX1_pick 152 = .ok (.iload 4, 2) := by decide +kernel
theorem dX1_pick_154 : decode cX1_pick 154 = .ok (.sipush 256, 3) := by decide +kernel
theorem dX1_pick_157 : decode cX1_pick 157 = .ok (.if_icmp .ge 67, 3) := by decide +kernel
theorem dX1_pick_160 : decode cX1_pick 160 = .ok (.aload_n 0, 1) := by decide +kernel
theorem dX1_pick_161 : decode cX1_pick 161 = .ok (.getfield 15, 3) := by decide +kernel
theorem dX1_pick_164 : decode cX1_pick 164 = .ok (.iload 4, 2) := by decide +kernel
theorem dX1_pick_166 : decode cX1_pick 166 = .ok (.iconst 0, 1) := by decide +kernel
theorem dX1_pick_167 : decode cX1_pick 167 = .ok (.iastore, 1) := by decide +kernel
theorem dX1_pick_168 : decode cX1_pick 168 = .ok (.iconst 0, 1) := by decide +kernel
theorem dX1_pick_169 : decode cX1_pick 169 = .ok (.istore 5, 2) := by decide +kernel
theorem dX1_pick_171 : decode cX1_pick 171 = .ok (.iload 5, 2) := by decide +kernel
theorem dX1_pick_173 : decode cX1_pick 173 = .ok (.aload_n 0, 1) := by decide +kernel
theorem dX1_pick_174 : decode cX1_pick 174 = .ok (.getfield 27, 3) := by decide +kernel
theorem dX1_pick_177 : decode cX1_pick 177 = .ok (.if_icmp .ge 41, 3) := by decide +kernel
theorem dX1_pick_180 : decode cX1_pick 180 = .ok (.iload 4, 2) := by decide +kernel
theorem dX1_pick_182 : decode cX1_pick 182 = .ok (.iload 5, 2) := by decide +kernel
theorem dX1_pick_184 : decode cX1_pick 184 = .ok (.ishr, 1) := by decide +kernel
theorem dX1_pick_185 : decode cX1_pick 185 = .ok (.iconst 1, 1) := by decide +kernel
theorem dX1_pick_186 : decode cX1_pick 186 = .ok (.iand, 1) := by decide +kernel
theorem dX1_pick_187 : decode cX1_pick 187 = .ok (.ifCond .eq 25, 3) := by decide +kernel
theorem dX1_pick_190 : decode cX1_pick 190 = .ok (.aload_n 0, 1) := by decide +kernel
theorem dX1_pick_191 : decode cX1_pick 191 = .ok (.getfield 15, 3) := by decide +kernel
theorem dX1_pick_194 : decode cX1_pick 194 = .ok (.iload 4, 2) := by decide +kernel
theorem dX1_pick_196 : decode cX1_pick 196 = .ok (.dup2, 1) := by decide +kernel
theorem dX1_pick_197 : decode cX1_pick 197 = .ok (.iaload, 1) := by decide +kernel
theorem dX1_pick_198 : decode cX1_pick 198 = .ok (.aload_n 1, 1) := by decide +kernel
theorem dX1_pick_199 : decode cX1_pick 199 = .ok (.getfield 56, 3) := by decide +kernel
theorem dX1_pick_202 : decode cX1_pick 202 = .ok (.aload_n 0, 1) := by decide +kernel
theorem dX1_pick_203 : decode cX1_pick 203 = .ok (.getfield 9, 3) := by decide +kernel
theorem dX1_pick_206 : decode cX1_pick 206 = .ok (.iload 5, 2) := by decide +kernel
theorem dX1_pick_208 : decode cX1_pick 208 = .ok (.iaload, 1) := by decide +kernel
theorem dX1_pick_209 : decode cX1_pick 209 = .ok (.iaload, 1) := by decide +kernel
theorem dX1_pick_210 : decode cX1_pick 210 = .ok (.iadd, 1) := by decide +kernel
theorem dX1_pick_211 : decode cX1_pick 211 = .ok (.iastore, 1) := by decide +kernel
theorem dX1_pick_212 : decode cX1_pick 212 = .ok (.iinc 5 1, 3) := by decide +kernel
theorem dX1_pick_215 : decode cX1_pick 215 = .ok (.goto (-44), 3) := by decide +kernel
theorem dX1_pick_218 : decode cX1_pick 218 = .ok (.iinc 4 1, 3) := by decide +kernel
theorem dX1_pick_221 : decode cX1_pick 221 = .ok (.goto (-69), 3) := by decide +kernel
theorem dX1_pick_224 : decode cX1_pick 224 = .ok (.return_, 1) := by decide +kernel
set_option maxRecDepth 20000 in
theorem ggX1_tighten_J7_fill_53178 : GoodIn wsX1_tighten wsJ7_fill_53178 := goodIn_r _ [11] (by decide +kernel) (by decide +kernel)
set_option maxRecDepth 20000 in
theorem gX1_tighten_J7_fill_53178 : GoodIn wsX1_tighten (va_wsS RX1 31 yJ7_fill_53178 wsJ7_fill_53178) := goodIn_app (goodIn_of _ (by decide +kernel)) ggX1_tighten_J7_fill_53178
theorem dX1_tighten_0 : decode cX1_tighten 0 = .ok (.aload_n 0, 1) := by decide +kernel
theorem dX1_tighten_1 : decode cX1_tighten 1 = .ok (.getfield 18, 3) := by decide +kernel
theorem dX1_tighten_4 : decode cX1_tighten 4 = .ok (.ldc 59, 2) := by decide +kernel
theorem dX1_tighten_6 : decode cX1_tighten 6 = .ok (.invokestatic 31, 3) := by decide +kernel
theorem dX1_tighten_9 : decode cX1_tighten 9 = .ok (.iconst 0, 1) := by decide +kernel
theorem dX1_tighten_10 : decode cX1_tighten 10 = .ok (.istore_n 2, 1) := by decide +kernel
theorem dX1_tighten_11 : decode cX1_tighten 11 = .ok (.iconst 0, 1) := by decide +kernel
theorem dX1_tighten_12 : decode cX1_tighten 12 = .ok (.istore_n 3, 1) := by decide +kernel
theorem dX1_tighten_13 : decode cX1_tighten 13 = .ok (.iload_n 3, 1) := by decide +kernel
theorem dX1_tighten_14 : decode cX1_tighten 14 = .ok (.bipush 13, 2) := by decide +kernel
theorem dX1_tighten_16 : decode cX1_tighten 16 = .ok (.if_icmp .ge 101, 3) := by decide +kernel
theorem dX1_tighten_19 : decode cX1_tighten 19 = .ok (.iconst 0, 1) := by decide +kernel
theorem dX1_tighten_20 : decode cX1_tighten 20 = .ok (.istore 4, 2) := by decide +kernel
theorem dX1_tighten_22 : decode cX1_tighten 22 = .ok (.iload 4, 2) := by decide +kernel
theorem dX1_tighten_24 : decode cX1_tighten 24 = .ok (.bipush 13, 2) := by decide +kernel
theorem dX1_tighten_26 : decode cX1_tighten 26 = .ok (.if_icmp .ge 85, 3) := by decide +kernel
theorem dX1_tighten_29 : decode cX1_tighten 29 = .ok (.aload_n 0, 1) := by decide +kernel
theorem dX1_tighten_30 : decode cX1_tighten 30 = .ok (.getfield 21, 3) := by decide +kernel
theorem dX1_tighten_33 : decode cX1_tighten 33 = .ok (.iload_n 3, 1) := by decide +kernel
theorem dX1_tighten_34 : decode cX1_tighten 34 = .ok (.iaload, 1) := by decide +kernel
theorem dX1_tighten_35 : decode cX1_tighten 35 = .ok (.aload_n 0, 1) := by decide +kernel
theorem dX1_tighten_36 : decode cX1_tighten 36 = .ok (.getfield 21, 3) := by decide +kernel
theorem dX1_tighten_39 : decode cX1_tighten 39 = .ok (.bipush 13, 2) := by decide +kernel
theorem dX1_tighten_41 : decode cX1_tighten 41 = .ok (.iload 4, 2) := by decide +kernel
theorem dX1_tighten_43 : decode cX1_tighten 43 = .ok (.iadd, 1) := by decide +kernel
theorem dX1_tighten_44 : decode cX1_tighten 44 = .ok (.iaload, 1) := by decide +kernel
theorem dX1_tighten_45 : decode cX1_tighten 45 = .ok (.iand, 1) := by decide +kernel
theorem dX1_tighten_46 : decode cX1_tighten 46 = .ok (.istore 5, 2) := by decide +kernel
theorem dX1_tighten_48 : decode cX1_tighten 48 = .ok (.iconst 0, 1) := by decide +kernel
theorem dX1_tighten_49 : decode cX1_tighten 49 = .ok (.istore 6, 2) := by decide +kernel
theorem dX1_tighten_51 : decode cX1_tighten 51 = .ok (.iload 6, 2) := by decide +kernel
theorem dX1_tighten_53 : decode cX1_tighten 53 = .ok (.bipush 13, 2) := by decide +kernel
theorem dX1_tighten_55 : decode cX1_tighten 55 = .ok (.if_icmp .ge 50, 3) := by decide +kernel
theorem dX1_tighten_58 : decode cX1_tighten 58 = .ok (.iload 5, 2) := by decide +kernel
theorem dX1_tighten_60 : decode cX1_tighten 60 = .ok (.aload_n 0, 1) := by decide +kernel
theorem dX1_tighten_61 : decode cX1_tighten 61 = .ok (.getfield 21, 3) := by decide +kernel
theorem dX1_tighten_64 : decode cX1_tighten 64 = .ok (.bipush 26, 2) := by decide +kernel
theorem dX1_tighten_66 : decode cX1_tighten 66 = .ok (.iload 6, 2) := by decide +kernel
theorem dX1_tighten_68 : decode cX1_tighten 68 = .ok (.iadd, 1) := by decide +kernel
theorem dX1_tighten_69 : decode cX1_tighten 69 = .ok (.iaload, 1) := by decide +kernel
theorem dX1_tighten_70 : decode cX1_tighten 70 = .ok (.iand, 1) := by decide +kernel
theorem dX1_tighten_71 : decode cX1_tighten 71 = .ok (.istore 7, 2) := by decide +kernel
theorem dX1_tighten_73 : decode cX1_tighten 73 = .ok (.aload_n 0, 1) := by decide +kernel
theorem dX1_tighten_74 : decode cX1_tighten 74 = .ok (.getfield 18, 3) := by decide +kernel
theorem dX1_tighten_77 : decode cX1_tighten 77 = .ok (.iload 7, 2) := by decide +kernel
theorem dX1_tighten_79 : decode cX1_tighten 79 = .ok (.aload_n 0, 1) := by decide +kernel
theorem dX1_tighten_80 : decode cX1_tighten 80 = .ok (.getfield 18, 3) := by decide +kernel
theorem dX1_tighten_83 : decode cX1_tighten 83 = .ok (.iload 7, 2) := by decide +kernel
theorem dX1_tighten_85 : decode cX1_tighten 85 = .ok (.iaload, 1) := by decide +kernel
theorem dX1_tighten_86 : decode cX1_tighten 86 = .ok (.aload_n 1, 1) := by decide +kernel
theorem dX1_tighten_87 : decode cX1_tighten 87 = .ok (.getfield 60, 3) := by decide +kernel
theorem dX1_tighten_90 : decode cX1_tighten 90 = .ok (.iload_n 2, 1) := by decide +kernel
theorem dX1_tighten_91 : decode cX1_tighten 91 = .ok (.iaload, 1) := by decide +kernel
theorem dX1_tighten_92 : decode cX1_tighten 92 = .ok (.invokestatic 65, 3) := by decide +kernel
theorem dX1_tighten_95 : decode cX1_tighten 95 = .ok (.iastore, 1) := by decide +kernel
theorem dX1_tighten_96 : decode cX1_tighten 96 = .ok (.iinc 2 1, 3) := by decide +kernel
theorem dX1_tighten_99 : decode cX1_tighten 99 = .ok (.iinc 6 1, 3) := by decide +kernel
theorem dX1_tighten_102 : decode cX1_tighten 102 = .ok (.goto (-51), 3) := by decide +kernel
theorem dX1_tighten_105 : decode cX1_tighten 105 = .ok (.iinc 4 1, 3) := by decide +kernel
theorem dX1_tighten_108 : decode cX1_tighten 108 = .ok (.goto (-86), 3) := by decide +kernel
theorem dX1_tighten_111 : decode cX1_tighten 111 = .ok (.iinc 3 1, 3) := by decide +kernel
theorem dX1_tighten_114 : decode cX1_tighten 114 = .ok (.goto (-101), 3) := by decide +kernel
theorem dX1_tighten_117 : decode cX1_tighten 117 = .ok (.return_, 1) := by decide +kernel
set_option maxRecDepth 20000 in
theorem ggX1_seek_X1_haveRoom : GoodIn wsX1_seek wsX1_haveRoom := goodIn_r _ [8, 9, 2, 10, 11, 12, 13, 14, 20, 21, 22, 23, 24, 25, 26, 27, 28, 29, 30, 31, 32] (by decide +kernel) (by decide +kernel)
set_option maxRecDepth 20000 in
theorem gX1_seek_X1_haveRoom : GoodIn wsX1_seek (wsV RX1 74 RX1 yX1_haveRoom wsX1_haveRoom) := goodIn_app (goodIn_of _ (by decide +kernel)) ggX1_seek_X1_haveRoom
set_option maxRecDepth 20000 in
theorem ggX1_seek_X1_areMet : GoodIn wsX1_seek wsX1_areMet := goodIn_r _ [18, 3, 19, 20, 21, 22, 23, 24, 25, 26] (by decide +kernel) (by decide +kernel)
set_option maxRecDepth 20000 in
theorem gX1_seek_X1_areMet : GoodIn wsX1_seek (wsV RX1 78 RX1 yX1_areMet wsX1_areMet) := goodIn_app (goodIn_of _ (by decide +kernel)) ggX1_seek_X1_areMet
theorem dX1_seek_0 : decode cX1_seek 0 = .ok (.aload_n 0, 1) := by decide +kernel
theorem dX1_seek_1 : decode cX1_seek 1 = .ok (.iconst 0, 1) := by decide +kernel
theorem dX1_seek_2 : decode cX1_seek 2 = .ok (.putfield 71, 3) := by decide +kernel
theorem dX1_seek_5 : decode cX1_seek 5 = .ok (.iconst 1, 1) := by decide +kernel
theorem dX1_seek_6 : decode cX1_seek 6 = .ok (.istore_n 3, 1) := by decide +kernel
theorem dX1_seek_7 : decode cX1_seek 7 = .ok (.iload_n 3, 1) := by decide +kernel
theorem dX1_seek_8 : decode cX1_seek 8 = .ok (.iconst 1, 1) := by decide +kernel
theorem dX1_seek_9 : decode cX1_seek 9 = .ok (.aload_n 0, 1) := by decide +kernel
theorem dX1_seek_10 : decode cX1_seek 10 = .ok (.getfield 27, 3) := by decide +kernel
theorem dX1_seek_13 : decode cX1_seek 13 = .ok (.ishl, 1) := by decide +kernel
theorem dX1_seek_14 : decode cX1_seek 14 = .ok (.if_icmp .ge 50, 3) := by decide +kernel
theorem dX1_seek_17 : decode cX1_seek 17 = .ok (.aload_n 0, 1) := by decide +kernel
theorem dX1_seek_18 : decode cX1_seek 18 = .ok (.getfield 15, 3) := by decide +kernel
theorem dX1_seek_21 : decode cX1_seek 21 = .ok (.iload_n 3, 1) := by decide +kernel
theorem dX1_seek_22 : decode cX1_seek 22 = .ok (.iaload, 1) := by decide +kernel
theorem dX1_seek_23 : decode cX1_seek 23 = .ok (.aload_n 0, 1) := by decide +kernel
theorem dX1_seek_24 : decode cX1_seek 24 = .ok (.getfield 15, 3) := by decide +kernel
theorem dX1_seek_27 : decode cX1_seek 27 = .ok (.aload_n 0, 1) := by decide +kernel
theorem dX1_seek_28 : decode cX1_seek 28 = .ok (.getfield 71, 3) := by decide +kernel
theorem dX1_seek_31 : decode cX1_seek 31 = .ok (.iaload, 1) := by decide +kernel
theorem dX1_seek_32 : decode cX1_seek 32 = .ok (.if_icmp .le 26, 3) := by decide +kernel
theorem dX1_seek_35 : decode cX1_seek 35 = .ok (.aload_n 0, 1) := by decide +kernel
theorem dX1_seek_36 : decode cX1_seek 36 = .ok (.aload_n 1, 1) := by decide +kernel
theorem dX1_seek_37 : decode cX1_seek 37 = .ok (.aload_n 2, 1) := by decide +kernel
theorem dX1_seek_38 : decode cX1_seek 38 = .ok (.iload_n 3, 1) := by decide +kernel
theorem dX1_seek_39 : decode cX1_seek 39 = .ok (.invokevirtual 74, 3) := by decide +kernel
theorem dX1_seek_42 : decode cX1_seek 42 = .ok (.ifCond .eq 16, 3) := by decide +kernel
theorem dX1_seek_45 : decode cX1_seek 45 = .ok (.aload_n 0, 1) := by decide +kernel
theorem dX1_seek_46 : decode cX1_seek 46 = .ok (.iload_n 3, 1) := by decide +kernel
theorem dX1_seek_47 : decode cX1_seek 47 = .ok (.invokevirtual 78, 3) := by decide +kernel
theorem dX1_seek_50 : decode cX1_seek 50 = .ok (.ifCond .eq 8, 3) := by decide +kernel
theorem dX1_seek_53 : decode cX1_seek 53 = .ok (.aload_n 0, 1) := by decide +kernel
theorem dX1_seek_54 : decode cX1_seek 54 = .ok (.iload_n 3, 1) := by decide +kernel
theorem dX1_seek_55 : decode cX1_seek 55 = .ok (.putfield 71, 3) := by decide +kernel
theorem dX1_seek_58 : decode cX1_seek 58 = .ok (.iinc 3 1, 3) := by decide +kernel
theorem dX1_seek_61 : decode cX1_seek 61 = .ok (.goto (-54), 3) := by decide +kernel
theorem dX1_seek_64 : decode cX1_seek 64 = .ok (.return_, 1) := by decide +kernel
set_option maxRecDepth 20000 in
theorem ggX1_haveRoom_J7_fill_53178 : GoodIn wsX1_haveRoom wsJ7_fill_53178 := goodIn_r _ [7] (by decide +kernel) (by decide +kernel)
set_option maxRecDepth 20000 in
theorem gX1_haveRoom_J7_fill_53178 : GoodIn wsX1_haveRoom (va_wsS RX1 31 yJ7_fill_53178 wsJ7_fill_53178) := goodIn_app (goodIn_of _ (by decide +kernel)) ggX1_haveRoom_J7_fill_53178
theorem dX1_haveRoom_0 : decode cX1_haveRoom 0 = .ok (.aload_n 0, 1) := by decide +kernel
theorem dX1_haveRoom_1 : decode cX1_haveRoom 1 = .ok (.getfield 24, 3) := by decide +kernel
theorem dX1_haveRoom_4 : decode cX1_haveRoom 4 = .ok (.iconst 0, 1) := by decide +kernel
theorem dX1_haveRoom_5 : decode cX1_haveRoom 5 = .ok (.invokestatic 31, 3) := by decide +kernel
theorem dX1_haveRoom_8 : decode cX1_haveRoom 8 = .ok (.iconst 0, 1) := by decide +kernel
theorem dX1_haveRoom_9 : decode cX1_haveRoom 9 = .ok (.istore 4, 2) := by decide +kernel
theorem dX1_haveRoom_11 : decode cX1_haveRoom 11 = .ok (.iload 4, 2) := by decide +kernel
theorem dX1_haveRoom_13 : decode cX1_haveRoom 13 = .ok (.aload_n 0, 1) := by decide +kernel
theorem dX1_haveRoom_14 : decode cX1_haveRoom 14 = .ok (.getfield 27, 3) := by decide +kernel
theorem dX1_haveRoom_17 : decode cX1_haveRoom 17 = .ok (.if_icmp .ge 50, 3) := by decide +kernel
theorem dX1_haveRoom_20 : decode cX1_haveRoom 20 = .ok (.iload_n 3, 1) := by decide +kernel
theorem dX1_haveRoom_21 : decode cX1_haveRoom 21 = .ok (.iload 4, 2) := by decide +kernel
theorem dX1_haveRoom_23 : decode cX1_haveRoom 23 = .ok (.ishr, 1) := by decide +kernel
theorem dX1_haveRoom_24 : decode cX1_haveRoom 24 = .ok (.iconst 1, 1) := by decide +kernel
theorem dX1_haveRoom_25 : decode cX1_haveRoom 25 = .ok (.iand, 1) := by decide +kernel
theorem dX1_haveRoom_26 : decode cX1_haveRoom 26 = .ok (.ifCond .eq 35, 3) := by decide +kernel
theorem dX1_haveRoom_29 : decode cX1_haveRoom 29 = .ok (.aload_n 0, 1) := by decide +kernel
theorem dX1_haveRoom_30 : decode cX1_haveRoom 30 = .ok (.getfield 24, 3) := by decide +kernel
theorem dX1_haveRoom_33 : decode cX1_haveRoom 33 = .ok (.aload_n 1, 1) := by decide +kernel
theorem dX1_haveRoom_34 : decode cX1_haveRoom 34 = .ok (.getfield 82, 3) := by decide +kernel
theorem dX1_haveRoom_37 : decode cX1_haveRoom 37 = .ok (.aload_n 0, 1) := by decide +kernel
theorem dX1_haveRoom_38 : decode cX1_haveRoom 38 = .ok (.getfield 9, 3) := by decide +kernel
theorem dX1_haveRoom_41 : decode cX1_haveRoom 41 = .ok (.iload 4, 2) := by decide +kernel
theorem dX1_haveRoom_43 : decode cX1_haveRoom 43 = .ok (.iaload, 1) := by decide +kernel
theorem dX1_haveRoom_44 : decode cX1_haveRoom 44 = .ok (.iaload, 1) := by decide +kernel
theorem dX1_haveRoom_45 : decode cX1_haveRoom 45 = .ok (.dup2, 1) := by decide +kernel
theorem dX1_haveRoom_46 : decode cX1_haveRoom 46 = .ok (.iaload, 1) := by decide +kernel
theorem dX1_haveRoom_47 : decode cX1_haveRoom 47 = .ok (.aload_n 1, 1) := by decide +kernel
theorem dX1_haveRoom_48 : decode cX1_haveRoom 48 = .ok (.getfield 56, 3) := by decide +kernel
theorem dX1_haveRoom_51 : decode cX1_haveRoom 51 = .ok (.aload_n 0, 1) := by decide +kernel
theorem dX1_haveRoom_52 : decode cX1_haveRoom 52 = .ok (.getfield 9, 3) := by decide +kernel
theorem dX1_haveRoom_55 : decode cX1_haveRoom 55 = .ok (.iload 4, 2) := by decide +kernel
theorem dX1_haveRoom_57 : decode cX1_haveRoom 57 = .ok (.iaload, 1) := by decide +kernel
theorem dX1_haveRoom_58 : decode cX1_haveRoom 58 = .ok (.iaload, 1) := by decide +kernel
theorem dX1_haveRoom_59 : decode cX1_haveRoom 59 = .ok (.iadd, 1) := by decide +kernel
theorem dX1_haveRoom_60 : decode cX1_haveRoom 60 = .ok (.iastore, 1) := by decide +kernel
theorem dX1_haveRoom_61 : decode cX1_haveRoom 61 = .ok (.iinc 4 1, 3) := by decide +kernel
theorem dX1_haveRoom_64 : decode cX1_haveRoom 64 = .ok (.goto (-53), 3) := by decide +kernel
theorem dX1_haveRoom_67 : decode cX1_haveRoom 67 = .ok (.iconst 0, 1) := by decide +kernel
theorem dX1_haveRoom_68 : decode cX1_haveRoom 68 = .ok (.istore 4, 2) := by decide +kernel
theorem dX1_haveRoom_70 : decode cX1_haveRoom 70 = .ok (.iload 4, 2) := by decide +kernel
theorem dX1_haveRoom_72 : decode cX1_haveRoom 72 = .ok (.iconst 4, 1) := by decide +kernel
theorem dX1_haveRoom_73 : decode cX1_haveRoom 73 = .ok (.if_icmp .ge 35, 3) := by decide +kernel
theorem dX1_haveRoom_76 : decode cX1_haveRoom 76 = .ok (.aload_n 0, 1) := by decide +kernel
theorem dX1_haveRoom_77 : decode cX1_haveRoom 77 = .ok (.getfield 24, 3) := by decide +kernel
theorem dX1_haveRoom_80 : decode cX1_haveRoom 80 = .ok (.iload 4, 2) := by decide +kernel
theorem dX1_haveRoom_82 : decode cX1_haveRoom 82 = .ok (.iaload, 1) := by decide +kernel
theorem dX1_haveRoom_83 : decode cX1_haveRoom 83 = .ok (.ifCond .le 19, 3) := by decide +kernel
theorem dX1_haveRoom_86 : decode cX1_haveRoom 86 = .ok (.aload_n 0, 1) := by decide +kernel
theorem dX1_haveRoom_87 : decode cX1_haveRoom 87 = .ok (.getfield 24, 3) := by decide +kernel
theorem dX1_haveRoom_90 : decode cX1_haveRoom 90 = .ok (.iload 4, 2) := by decide +kernel
theorem dX1_haveRoom_92 : decode cX1_haveRoom 92 = .ok (.iaload, 1) := by decide +kernel
theorem dX1_haveRoom_93 : decode cX1_haveRoom 93 = .ok (.aload_n 2, 1) := by decide +kernel
theorem dX1_haveRoom_94 : decode cX1_haveRoom 94 = .ok (.iload 4, 2) := by decide +kernel
theorem dX1_haveRoom_96 : decode cX1_haveRoom 96 = .ok (.iaload, 1) := by decide +kernel
theorem dX1_haveRoom_97 : decode cX1_haveRoom 97 = .ok (.if_icmp .le 5, 3) := by decide +kernel
theorem dX1_haveRoom_100 : decode cX1_haveRoom 100 = .ok (.iconst 0, 1) := by decide +kernel
theorem dX1_haveRoom_101 : decode cX1_haveRoom 101 = .ok (.ireturn, 1) := by decide +kernel
theorem dX1_haveRoom_102 : decode cX1_haveRoom 102 = .ok (.iinc 4 1, 3) := by decide +kernel
theorem dX1_haveRoom_105 : decode cX1_haveRoom 105 = .ok (.goto (-35), 3) := by decide +kernel
theorem dX1_haveRoom_108 : decode cX1_haveRoom 108 = .ok (.iconst 1, 1) := by decide +kernel
theorem dX1_haveRoom_109 : decode cX1_haveRoom 109 = .ok (.ireturn, 1) := by decide +kernel
theorem dX1_areMet_0 : decode cX1_areMet 0 = .ok (.iconst 0, 1) := by decide +kernel
theorem dX1_areMet_1 : decode cX1_areMet 1 = .ok (.istore_n 2, 1) := by decide +kernel
theorem dX1_areMet_2 : decode cX1_areMet 2 = .ok (.iload_n 2, 1) := by decide +kernel
theorem dX1_areMet_3 : decode cX1_areMet 3 = .ok (.sipush 256, 3) := by decide +kernel
theorem dX1_areMet_6 : decode cX1_areMet 6 = .ok (.if_icmp .ge 28, 3) := by decide +kernel
theorem dX1_areMet_9 : decode cX1_areMet 9 = .ok (.aload_n 0, 1) := by decide +kernel
theorem dX1_areMet_10 : decode cX1_areMet 10 = .ok (.getfield 15, 3) := by decide +kernel
theorem dX1_areMet_13 : decode cX1_areMet 13 = .ok (.iload_n 1, 1) := by decide +kernel
theorem dX1_areMet_14 : decode cX1_areMet 14 = .ok (.iload_n 2, 1) := by decide +kernel
theorem dX1_areMet_15 : decode cX1_areMet 15 = .ok (.iand, 1) := by decide +kernel
theorem dX1_areMet_16 : decode cX1_areMet 16 = .ok (.iaload, 1) := by decide +kernel
theorem dX1_areMet_17 : decode cX1_areMet 17 = .ok (.aload_n 0, 1) := by decide +kernel
theorem dX1_areMet_18 : decode cX1_areMet 18 = .ok (.getfield 18, 3) := by decide +kernel
theorem dX1_areMet_21 : decode cX1_areMet 21 = .ok (.iload_n 2, 1) := by decide +kernel
theorem dX1_areMet_22 : decode cX1_areMet 22 = .ok (.iaload, 1) := by decide +kernel
theorem dX1_areMet_23 : decode cX1_areMet 23 = .ok (.if_icmp .le 5, 3) := by decide +kernel
theorem dX1_areMet_26 : decode cX1_areMet 26 = .ok (.iconst 0, 1) := by decide +kernel
theorem dX1_areMet_27 : decode cX1_areMet 27 = .ok (.ireturn, 1) := by decide +kernel
theorem dX1_areMet_28 : decode cX1_areMet 28 = .ok (.iinc 2 1, 3) := by decide +kernel
theorem dX1_areMet_31 : decode cX1_areMet 31 = .ok (.goto (-29), 3) := by decide +kernel
theorem dX1_areMet_34 : decode cX1_areMet 34 = .ok (.iconst 1, 1) := by decide +kernel
theorem dX1_areMet_35 : decode cX1_areMet 35 = .ok (.ireturn, 1) := by decide +kernel
set_option maxRecDepth 20000 in
theorem ggX2_init_X5_init : GoodIn wsX2_init wsX5_init := goodIn_r _ [10, 11, 2, 3, 12, 13, 14, 15, 16, 17, 18, 19, 20, 24, 25, 26, 27, 28] (by decide +kernel) (by decide +kernel)
set_option maxRecDepth 20000 in
theorem gX2_init_X5_init : GoodIn wsX2_init (wsX5_init) := ggX2_init_X5_init
theorem dX2_init_0 : decode cX2_init 0 = .ok (.aload_n 0, 1) := by decide +kernel
theorem dX2_init_1 : decode cX2_init 1 = .ok (.invokespecial 3, 3) := by decide +kernel
theorem dX2_init_4 : decode cX2_init 4 = .ok (.aload_n 0, 1) := by decide +kernel
theorem dX2_init_5 : decode cX2_init 5 = .ok (.bipush 13, 2) := by decide +kernel
theorem dX2_init_7 : decode cX2_init 7 = .ok (.anewarray 9, 3) := by decide +kernel
theorem dX2_init_10 : decode cX2_init 10 = .ok (.putfield 11, 3) := by decide +kernel
theorem dX2_init_13 : decode cX2_init 13 = .ok (.iconst 0, 1) := by decide +kernel
theorem dX2_init_14 : decode cX2_init 14 = .ok (.istore_n 1, 1) := by decide +kernel
theorem dX2_init_15 : decode cX2_init 15 = .ok (.iload_n 1, 1) := by decide +kernel
theorem dX2_init_16 : decode cX2_init 16 = .ok (.aload_n 0, 1) := by decide +kernel
theorem dX2_init_17 : decode cX2_init 17 = .ok (.getfield 11, 3) := by decide +kernel
theorem dX2_init_20 : decode cX2_init 20 = .ok (.arraylength, 1) := by decide +kernel
theorem dX2_init_21 : decode cX2_init 21 = .ok (.if_icmp .ge 22, 3) := by decide +kernel
theorem dX2_init_24 : decode cX2_init 24 = .ok (.aload_n 0, 1) := by decide +kernel
theorem dX2_init_25 : decode cX2_init 25 = .ok (.getfield 11, 3) := by decide +kernel
theorem dX2_init_28 : decode cX2_init 28 = .ok (.iload_n 1, 1) := by decide +kernel
theorem dX2_init_29 : decode cX2_init 29 = .ok (.new 9, 3) := by decide +kernel
theorem dX2_init_32 : decode cX2_init 32 = .ok (.dup, 1) := by decide +kernel
theorem dX2_init_33 : decode cX2_init 33 = .ok (.invokespecial 17, 3) := by decide +kernel
theorem dX2_init_36 : decode cX2_init 36 = .ok (.aastore, 1) := by decide +kernel
theorem dX2_init_37 : decode cX2_init 37 = .ok (.iinc 1 1, 3) := by decide +kernel
theorem dX2_init_40 : decode cX2_init 40 = .ok (.goto (-25), 3) := by decide +kernel
theorem dX2_init_43 : decode cX2_init 43 = .ok (.return_, 1) := by decide +kernel
set_option maxRecDepth 20000 in
theorem ggX2_note_X2_dropFirst : GoodIn wsX2_note wsX2_dropFirst := goodIn_r _ [8, 3, 30, 31, 32] (by decide +kernel) (by decide +kernel)
set_option maxRecDepth 20000 in
theorem gX2_note_X2_dropFirst : GoodIn wsX2_note (wsV RX2 22 RX2 yX2_dropFirst wsX2_dropFirst) := goodIn_app (goodIn_of _ (by decide +kernel)) ggX2_note_X2_dropFirst
set_option maxRecDepth 20000 in
theorem ggX2_note_X5_copyOf : GoodIn wsX2_note wsX5_copyOf := goodIn_r _ [13, 14, 15, 16, 17, 18, 19, 20, 21, 22, 23, 24, 25, 26, 27, 28, 29, 33, 34, 35, 36, 37] (by decide +kernel) (by decide +kernel)
set_option maxRecDepth 20000 in
theorem gX2_note_X5_copyOf : GoodIn wsX2_note (wsV RX2 28 RX5 yX5_copyOf wsX5_copyOf) := goodIn_app (goodIn_of _ (by decide +kernel)) ggX2_note_X5_copyOf
theorem dX2_note_0 : decode cX2_note 0 = .ok (.aload_n 0, 1) := by decide +kernel
theorem dX2_note_1 : decode cX2_note 1 = .ok (.getfield 18, 3) := by decide +kernel
theorem dX2_note_4 : decode cX2_note 4 = .ok (.bipush 12, 2) := by decide +kernel
theorem dX2_note_6 : decode cX2_note 6 = .ok (.if_icmp .ge 16, 3) := by decide +kernel
theorem dX2_note_9 : decode cX2_note 9 = .ok (.aload_n 0, 1) := by decide +kernel
theorem dX2_note_10 : decode cX2_note 10 = .ok (.dup, 1) := by decide +kernel
theorem dX2_note_11 : decode cX2_note 11 = .ok (.getfield 18, 3) := by decide +kernel
theorem dX2_note_14 : decode cX2_note 14 = .ok (.iconst 1, 1) := by decide +kernel
theorem dX2_note_15 : decode cX2_note 15 = .ok (.iadd, 1) := by decide +kernel
theorem dX2_note_16 : decode cX2_note 16 = .ok (.putfield 18, 3) := by decide +kernel
theorem dX2_note_19 : decode cX2_note 19 = .ok (.goto 7, 3) := by decide +kernel
theorem dX2_note_22 : decode cX2_note 22 = .ok (.aload_n 0, 1) := by decide +kernel
theorem dX2_note_23 : decode cX2_note 23 = .ok (.invokevirtual 22, 3) := by decide +kernel
theorem dX2_note_26 : decode cX2_note 26 = .ok (.aload_n 0, 1) := by decide +kernel
theorem dX2_note_27 : decode cX2_note 27 = .ok (.iconst 0, 1) := by decide +kernel
theorem dX2_note_28 : decode cX2_note 28 = .ok (.putfield 25, 3) := by decide +kernel
theorem dX2_note_31 : decode cX2_note 31 = .ok (.aload_n 0, 1) := by decide +kernel
theorem dX2_note_32 : decode cX2_note 32 = .ok (.getfield 11, 3) := by decide +kernel
theorem dX2_note_35 : decode cX2_note 35 = .ok (.aload_n 0, 1) := by decide +kernel
theorem dX2_note_36 : decode cX2_note 36 = .ok (.getfield 18, 3) := by decide +kernel
theorem dX2_note_39 : decode cX2_note 39 = .ok (.aaload, 1) := by decide +kernel
theorem dX2_note_40 : decode cX2_note 40 = .ok (.aload_n 1, 1) := by decide +kernel
theorem dX2_note_41 : decode cX2_note 41 = .ok (.iload_n 2, 1) := by decide +kernel
theorem dX2_note_42 : decode cX2_note 42 = .ok (.invokevirtual 28, 3) := by decide +kernel
theorem dX2_note_45 : decode cX2_note 45 = .ok (.return_, 1) := by decide +kernel
theorem dX2_stepBy_0 : decode cX2_stepBy 0 = .ok (.aload_n 0, 1) := by decide +kernel
theorem dX2_stepBy_1 : decode cX2_stepBy 1 = .ok (.iconst 0, 1) := by decide +kernel
theorem dX2_stepBy_2 : decode cX2_stepBy 2 = .ok (.bipush 12, 2) := by decide +kernel
theorem dX2_stepBy_4 : decode cX2_stepBy 4 = .ok (.aload_n 0, 1) := by decide +kernel
theorem dX2_stepBy_5 : decode cX2_stepBy 5 = .ok (.getfield 18, 3) := by decide +kernel
theorem dX2_stepBy_8 : decode cX2_stepBy 8 = .ok (.iload_n 1, 1) := by decide +kernel
theorem dX2_stepBy_9 : decode cX2_stepBy 9 = .ok (.iadd, 1) := by decide +kernel
theorem dX2_stepBy_10 : decode cX2_stepBy 10 = .ok (.invokestatic 32, 3) := by decide +kernel
theorem dX2_stepBy_13 : decode cX2_stepBy 13 = .ok (.invokestatic 38, 3) := by decide +kernel
theorem dX2_stepBy_16 : decode cX2_stepBy 16 = .ok (.putfield 18, 3) := by decide +kernel
theorem dX2_stepBy_19 : decode cX2_stepBy 19 = .ok (.aload_n 0, 1) := by decide +kernel
theorem dX2_stepBy_20 : decode cX2_stepBy 20 = .ok (.dup, 1) := by decide +kernel
theorem dX2_stepBy_21 : decode cX2_stepBy 21 = .ok (.getfield 25, 3) := by decide +kernel
theorem dX2_stepBy_24 : decode cX2_stepBy 24 = .ok (.iload_n 1, 1) := by decide +kernel
theorem dX2_stepBy_25 : decode cX2_stepBy 25 = .ok (.isub, 1) := by decide +kernel
theorem dX2_stepBy_26 : decode cX2_stepBy 26 = .ok (.putfield 25, 3) := by decide +kernel
theorem dX2_stepBy_29 : decode cX2_stepBy 29 = .ok (.aload_n 0, 1) := by decide +kernel
theorem dX2_stepBy_30 : decode cX2_stepBy 30 = .ok (.getfield 11, 3) := by decide +kernel
theorem dX2_stepBy_33 : decode cX2_stepBy 33 = .ok (.aload_n 0, 1) := by decide +kernel
theorem dX2_stepBy_34 : decode cX2_stepBy 34 = .ok (.getfield 18, 3) := by decide +kernel
theorem dX2_stepBy_37 : decode cX2_stepBy 37 = .ok (.aaload, 1) := by decide +kernel
theorem dX2_stepBy_38 : decode cX2_stepBy 38 = .ok (.areturn, 1) := by decide +kernel
set_option maxRecDepth 20000 in
theorem ggX2_startFrom_X5_copyOf : GoodIn wsX2_startFrom wsX5_copyOf := goodIn_r _ [8, 9, 10, 11, 12, 13, 14, 15, 16, 17, 18, 19, 20, 21, 22, 23, 24, 28, 29, 30, 31, 32] (by decide +kernel) (by decide +kernel)
set_option maxRecDepth 20000 in
theorem gX2_startFrom_X5_copyOf : GoodIn wsX2_startFrom (wsV RX2 28 RX5 yX5_copyOf wsX5_copyOf) := goodIn_app (goodIn_of _ (by decide +kernel)) ggX2_startFrom_X5_copyOf
theorem dX2_startFrom_0 : decode cX2_startFrom 0 = .ok (.aload_n 0, 1) := by decide +kernel
theorem dX2_startFrom_1 : decode cX2_startFrom 1 = .ok (.iconst 0, 1) := by decide +kernel
theorem dX2_startFrom_2 : decode cX2_startFrom 2 = .ok (.putfield 18, 3) := by decide +kernel
theorem dX2_startFrom_5 : decode cX2_startFrom 5 = .ok (.aload_n 0, 1) := by decide +kernel
theorem dX2_startFrom_6 : decode cX2_startFrom 6 = .ok (.iconst 0, 1) := by decide +kernel
theorem dX2_startFrom_7 : decode cX2_startFrom 7 = .ok (.putfield 25, 3) := by decide +kernel
theorem dX2_startFrom_10 : decode cX2_startFrom 10 = .ok (.aload_n 0, 1) := by decide +kernel
theorem dX2_startFrom_11 : decode cX2_startFrom 11 = .ok (.getfield 11, 3) := by decide +kernel
theorem dX2_startFrom_14 : decode cX2_startFrom 14 = .ok (.iconst 0, 1) := by decide +kernel
theorem dX2_startFrom_15 : decode cX2_startFrom 15 = .ok (.aaload, 1) := by decide +kernel
theorem dX2_startFrom_16 : decode cX2_startFrom 16 = .ok (.aload_n 1, 1) := by decide +kernel
theorem dX2_startFrom_17 : decode cX2_startFrom 17 = .ok (.iload_n 2, 1) := by decide +kernel
theorem dX2_startFrom_18 : decode cX2_startFrom 18 = .ok (.invokevirtual 28, 3) := by decide +kernel
theorem dX2_startFrom_21 : decode cX2_startFrom 21 = .ok (.return_, 1) := by decide +kernel
theorem dX2_dropFirst_0 : decode cX2_dropFirst 0 = .ok (.aload_n 0, 1) := by decide +kernel
theorem dX2_dropFirst_1 : decode cX2_dropFirst 1 = .ok (.getfield 11, 3) := by decide +kernel
theorem dX2_dropFirst_4 : decode cX2_dropFirst 4 = .ok (.iconst 0, 1) := by decide +kernel
theorem dX2_dropFirst_5 : decode cX2_dropFirst 5 = .ok (.aaload, 1) := by decide +kernel
theorem dX2_dropFirst_6 : decode cX2_dropFirst 6 = .ok (.astore_n 1, 1) := by decide +kernel
theorem dX2_dropFirst_7 : decode cX2_dropFirst 7 = .ok (.iconst 1, 1) := by decide +kernel
theorem dX2_dropFirst_8 : decode cX2_dropFirst 8 = .ok (.istore_n 2, 1) := by decide +kernel
theorem dX2_dropFirst_9 : decode cX2_dropFirst 9 = .ok (.iload_n 2, 1) := by decide +kernel
theorem dX2_dropFirst_10 : decode cX2_dropFirst 10 = .ok (.aload_n 0, 1) := by decide +kernel
theorem dX2_dropFirst_11 : decode cX2_dropFirst 11 = .ok (.getfield 11, 3) := by decide +kernel
theorem dX2_dropFirst_14 : decode cX2_dropFirst 14 = .ok (.arraylength, 1) := by decide +kernel
theorem dX2_dropFirst_15 : decode cX2_dropFirst 15 = .ok (.if_icmp .ge 23, 3) := by decide +kernel
theorem dX2_dropFirst_18 : decode cX2_dropFirst 18 = .ok (.aload_n 0, 1) := by decide +kernel
theorem dX2_dropFirst_19 : decode cX2_dropFirst 19 = .ok (.getfield 11, 3) := by decide +kernel
theorem dX2_dropFirst_22 : decode cX2_dropFirst 22 = .ok (.iload_n 2, 1) := by decide +kernel
theorem dX2_dropFirst_23 : decode cX2_dropFirst 23 = .ok (.iconst 1, 1) := by decide +kernel
theorem dX2_dropFirst_24 : decode cX2_dropFirst 24 = .ok (.isub, 1) := by decide +kernel
theorem dX2_dropFirst_25 : decode cX2_dropFirst 25 = .ok (.aload_n 0, 1) := by decide +kernel
theorem dX2_dropFirst_26 : decode cX2_dropFirst 26 = .ok (.getfield 11, 3) := by decide +kernel
theorem dX2_dropFirst_29 : decode cX2_dropFirst 29 = .ok (.iload_n 2, 1) := by decide +kernel
theorem dX2_dropFirst_30 : decode cX2_dropFirst 30 = .ok (.aaload, 1) := by decide +kernel
theorem dX2_dropFirst_31 : decode cX2_dropFirst 31 = .ok (.aastore, 1) := by decide +kernel
theorem dX2_dropFirst_32 : decode cX2_dropFirst 32 = .ok (.iinc 2 1, 3) := by decide +kernel
theorem dX2_dropFirst_35 : decode cX2_dropFirst 35 = .ok (.goto (-26), 3) := by decide +kernel
theorem dX2_dropFirst_38 : decode cX2_dropFirst 38 = .ok (.aload_n 0, 1) := by decide +kernel
theorem dX2_dropFirst_39 : decode cX2_dropFirst 39 = .ok (.getfield 11, 3) := by decide +kernel
theorem dX2_dropFirst_42 : decode cX2_dropFirst 42 = .ok (.aload_n 0, 1) := by decide +kernel
theorem dX2_dropFirst_43 : decode cX2_dropFirst 43 = .ok (.getfield 11, 3) := by decide +kernel
theorem dX2_dropFirst_46 : decode cX2_dropFirst 46 = .ok (.arraylength, 1) := by decide +kernel
theorem dX2_dropFirst_47 : decode cX2_dropFirst 47 = .ok (.iconst 1, 1) := by decide +kernel
theorem dX2_dropFirst_48 : decode cX2_dropFirst 48 = .ok (.isub, 1) := by decide +kernel
theorem dX2_dropFirst_49 : decode cX2_dropFirst 49 = .ok (.aload_n 1, 1) := by decide +kernel
theorem dX2_dropFirst_50 : decode cX2_dropFirst 50 = .ok (.aastore, 1) := by decide +kernel
theorem dX2_dropFirst_51 : decode cX2_dropFirst 51 = .ok (.return_, 1) := by decide +kernel
theorem dX3_init_0 : decode cX3_init 0 = .ok (.aload_n 0, 1) := by decide +kernel
theorem dX3_init_1 : decode cX3_init 1 = .ok (.invokespecial 3, 3) := by decide +kernel
theorem dX3_init_4 : decode cX3_init 4 = .ok (.aload_n 0, 1) := by decide +kernel
theorem dX3_init_5 : decode cX3_init 5 = .ok (.bipush 32, 2) := by decide +kernel
theorem dX3_init_7 : decode cX3_init 7 = .ok (.newarray .char, 2) := by decide +kernel
theorem dX3_init_9 : decode cX3_init 9 = .ok (.putfield 9, 3) := by decide +kernel
theorem dX3_init_12 : decode cX3_init 12 = .ok (.return_, 1) := by decide +kernel
theorem dX3_clear_0 : decode cX3_clear 0 = .ok (.aload_n 0, 1) := by decide +kernel
theorem dX3_clear_1 : decode cX3_clear 1 = .ok (.iconst 0, 1) := by decide +kernel
theorem dX3_clear_2 : decode cX3_clear 2 = .ok (.putfield 15, 3) := by decide +kernel
theorem dX3_clear_5 : decode cX3_clear 5 = .ok (.return_, 1) := by decide +kernel
theorem dX3_sign_0 : decode cX3_sign 0 = .ok (.aload_n 0, 1) := by decide +kernel
theorem dX3_sign_1 : decode cX3_sign 1 = .ok (.getfield 15, 3) := by decide +kernel
theorem dX3_sign_4 : decode cX3_sign 4 = .ok (.bipush 32, 2) := by decide +kernel
theorem dX3_sign_6 : decode cX3_sign 6 = .ok (.if_icmp .lt 4, 3) := by decide +kernel
theorem dX3_sign_9 : decode cX3_sign 9 = .ok (.return_, 1) := by decide +kernel
theorem dX3_sign_10 : decode cX3_sign 10 = .ok (.aload_n 0, 1) := by decide +kernel
theorem dX3_sign_11 : decode cX3_sign 11 = .ok (.getfield 9, 3) := by decide +kernel
theorem dX3_sign_14 : decode cX3_sign 14 = .ok (.aload_n 0, 1) := by decide +kernel
theorem dX3_sign_15 : decode cX3_sign 15 = .ok (.getfield 15, 3) := by decide +kernel
theorem dX3_sign_18 : decode cX3_sign 18 = .ok (.iload_n 1, 1) := by decide +kernel
theorem dX3_sign_19 : decode cX3_sign 19 = .ok (.castore, 1) := by decide +kernel
theorem dX3_sign_20 : decode cX3_sign 20 = .ok (.aload_n 0, 1) := by decide +kernel
theorem dX3_sign_21 : decode cX3_sign 21 = .ok (.dup, 1) := by decide +kernel
theorem dX3_sign_22 : decode cX3_sign 22 = .ok (.getfield 15, 3) := by decide +kernel
theorem dX3_sign_25 : decode cX3_sign 25 = .ok (.iconst 1, 1) := by decide +kernel
theorem dX3_sign_26 : decode cX3_sign 26 = .ok (.iadd, 1) := by decide +kernel
theorem dX3_sign_27 : decode cX3_sign 27 = .ok (.putfield 15, 3) := by decide +kernel
theorem dX3_sign_30 : decode cX3_sign 30 = .ok (.return_, 1) := by decide +kernel
set_option maxRecDepth 20000 in
theorem ggX3_number_X3_sign : GoodIn wsX3_number wsX3_sign := goodIn_r _ [5, 6, 7, 8, 9] (by decide +kernel) (by decide +kernel)
set_option maxRecDepth 20000 in
theorem gX3_number_X3_sign : GoodIn wsX3_number (wsV RX3 19 RX3 yX3_sign wsX3_sign) := goodIn_app (goodIn_of _ (by decide +kernel)) ggX3_number_X3_sign
theorem dX3_number_0 : decode cX3_number 0 = .ok (.iload_n 1, 1) := by decide +kernel
theorem dX3_number_1 : decode cX3_number 1 = .ok (.bipush 10, 2) := by decide +kernel
theorem dX3_number_3 : decode cX3_number 3 = .ok (.if_icmp .lt 15, 3) := by decide +kernel
theorem dX3_number_6 : decode cX3_number 6 = .ok (.aload_n 0, 1) := by decide +kernel
theorem dX3_number_7 : decode cX3_number 7 = .ok (.bipush 48, 2) := by decide +kernel
theorem dX3_number_9 : decode cX3_number 9 = .ok (.iload_n 1, 1) := by decide +kernel
theorem dX3_number_10 : decode cX3_number 10 = .ok (.bipush 10, 2) := by decide +kernel
theorem dX3_number_12 : decode cX3_number 12 = .ok (.idiv, 1) := by decide +kernel
theorem dX3_number_13 : decode cX3_number 13 = .ok (.iadd, 1) := by decide +kernel
theorem dX3_number_14 : decode cX3_number 14 = .ok (.i2c, 1) := by decide +kernel
theorem dX3_number_15 : decode cX3_number 15 = .ok (.invokevirtual 19, 3) := by decide +kernel
theorem dX3_number_18 : decode cX3_number 18 = .ok (.aload_n 0, 1) := by decide +kernel
theorem dX3_number_19 : decode cX3_number 19 = .ok (.bipush 48, 2) := by decide +kernel
theorem dX3_number_21 : decode cX3_number 21 = .ok (.iload_n 1, 1) := by decide +kernel
theorem dX3_number_22 : decode cX3_number 22 = .ok (.bipush 10, 2) := by decide +kernel
theorem dX3_number_24 : decode cX3_number 24 = .ok (.irem, 1) := by decide +kernel
theorem dX3_number_25 : decode cX3_number 25 = .ok (.iadd, 1) := by decide +kernel
theorem dX3_number_26 : decode cX3_number 26 = .ok (.i2c, 1) := by decide +kernel
theorem dX3_number_27 : decode cX3_number 27 = .ok (.invokevirtual 19, 3) := by decide +kernel
theorem dX3_number_30 : decode cX3_number 30 = .ok (.return_, 1) := by decide +kernel
set_option maxRecDepth 20000 in
theorem ggX3_word_J0_length_8abf5 : GoodIn wsX3_word wsJ0_length_8abf5 := goodIn_r _ [5, 6, 7, 8, 9, 4, 10, 11, 12] (by decide +kernel) (by decide +kernel)
set_option maxRecDepth 20000 in
theorem gX3_word_J0_length_8abf5 : GoodIn wsX3_word (wsV RX3 23 RJ0 yJ0_length_8abf5 wsJ0_length_8abf5) := goodIn_app (goodIn_of _ (by decide +kernel)) ggX3_word_J0_length_8abf5
set_option maxRecDepth 20000 in
theorem ggX3_word_J0_charAt_5068e : GoodIn wsX3_word wsJ0_charAt_5068e := goodIn_r _ [16, 6, 17, 18, 19, 4, 20, 11, 12, 21, 22, 23, 24, 25, 26, 27, 28, 29, 30, 31, 32, 33, 34, 35, 36, 37, 38, 39, 40, 41, 42, 43, 44, 45, 46, 47, 48, 49] (by decide +kernel) (by decide +kernel)
set_option maxRecDepth 20000 in
theorem gX3_word_J0_charAt_5068e : GoodIn wsX3_word (wsV RX3 29 RJ0 yJ0_charAt_5068e wsJ0_charAt_5068e) := goodIn_app (goodIn_of _ (by decide +kernel)) ggX3_word_J0_charAt_5068e
set_option maxRecDepth 20000 in
theorem ggX3_word_X3_sign : GoodIn wsX3_word wsX3_sign := goodIn_r _ [54, 55, 56, 57, 58] (by decide +kernel) (by decide +kernel)
set_option maxRecDepth 20000 in
theorem gX3_word_X3_sign : GoodIn wsX3_word (wsV RX3 19 RX3 yX3_sign wsX3_sign) := goodIn_app (goodIn_of _ (by decide +kernel)) ggX3_word_X3_sign
theorem dX3_word_0 : decode cX3_word 0 = .ok (.iconst 0, 1) := by decide +kernel
theorem dX3_word_1 : decode cX3_word 1 = .ok (.istore_n 2, 1) := by decide +kernel
theorem dX3_word_2 : decode cX3_word 2 = .ok (.iload_n 2, 1) := by decide +kernel
theorem dX3_word_3 : decode cX3_word 3 = .ok (.aload_n 1, 1) := by decide +kernel
theorem dX3_word_4 : decode cX3_word 4 = .ok (.invokevirtual 23, 3) := by decide +kernel
theorem dX3_word_7 : decode cX3_word 7 = .ok (.if_icmp .ge 18, 3) := by decide +kernel
theorem dX3_word_10 : decode cX3_word 10 = .ok (.aload_n 0, 1) := by decide +kernel
theorem dX3_word_11 : decode cX3_word 11 = .ok (.aload_n 1, 1) := by decide +kernel
theorem dX3_word_12 : decode cX3_word 12 = .ok (.iload_n 2, 1) := by decide +kernel
theorem dX3_word_13 : decode cX3_word 13 = .ok (.invokevirtual 29, 3) := by decide +kernel
theorem dX3_word_16 : decode cX3_word 16 = .ok (.invokevirtual 19, 3) := by decide +kernel
theorem dX3_word_19 : decode cX3_word 19 = .ok (.iinc 2 1, 3) := by decide +kernel
theorem dX3_word_22 : decode cX3_word 22 = .ok (.goto (-20), 3) := by decide +kernel
theorem dX3_word_25 : decode cX3_word 25 = .ok (.return_, 1) := by decide +kernel
theorem dX3_signAt_0 : decode cX3_signAt 0 = .ok (.iload_n 1, 1) := by decide +kernel
theorem dX3_signAt_1 : decode cX3_signAt 1 = .ok (.ifCond .lt 26, 3) := by decide +kernel
theorem dX3_signAt_4 : decode cX3_signAt 4 = .ok (.iload_n 1, 1) := by decide +kernel
theorem dX3_signAt_5 : decode cX3_signAt 5 = .ok (.aload_n 0, 1) := by decide +kernel
theorem dX3_signAt_6 : decode cX3_signAt 6 = .ok (.getfield 15, 3) := by decide +kernel
theorem dX3_signAt_9 : decode cX3_signAt 9 = .ok (.if_icmp .ge 18, 3) := by decide +kernel
theorem dX3_signAt_12 : decode cX3_signAt 12 = .ok (.iload_n 1, 1) := by decide +kernel
theorem dX3_signAt_13 : decode cX3_signAt 13 = .ok (.bipush 32, 2) := by decide +kernel
theorem dX3_signAt_15 : decode cX3_signAt 15 = .ok (.if_icmp .ge 12, 3) := by decide +kernel
theorem dX3_signAt_18 : decode cX3_signAt 18 = .ok (.aload_n 0, 1) := by decide +kernel
theorem dX3_signAt_19 : decode cX3_signAt 19 = .ok (.getfield 9, 3) := by decide +kernel
theorem dX3_signAt_22 : decode cX3_signAt 22 = .ok (.iload_n 1, 1) := by decide +kernel
theorem dX3_signAt_23 : decode cX3_signAt 23 = .ok (.caload, 1) := by decide +kernel
theorem dX3_signAt_24 : decode cX3_signAt 24 = .ok (.goto 4, 3) := by decide +kernel
theorem dX3_signAt_27 : decode cX3_signAt 27 = .ok (.iconst 0, 1) := by decide +kernel
theorem dX3_signAt_28 : decode cX3_signAt 28 = .ok (.ireturn, 1) := by decide +kernel
set_option maxRecDepth 20000 in
theorem ggX4_init_J7_fill_53178 : GoodIn wsX4_init wsJ7_fill_53178 := goodIn_r _ [11] (by decide +kernel) (by decide +kernel)
set_option maxRecDepth 20000 in
theorem gX4_init_J7_fill_53178 : GoodIn wsX4_init (va_wsS RX4 19 yJ7_fill_53178 wsJ7_fill_53178) := goodIn_app (goodIn_of _ (by decide +kernel)) ggX4_init_J7_fill_53178
theorem dX4_init_0 : decode cX4_init 0 = .ok (.aload_n 0, 1) := by decide +kernel
theorem dX4_init_1 : decode cX4_init 1 = .ok (.invokespecial 3, 3) := by decide +kernel
theorem dX4_init_4 : decode cX4_init 4 = .ok (.aload_n 0, 1) := by decide +kernel
theorem dX4_init_5 : decode cX4_init 5 = .ok (.bipush 96, 2) := by decide +kernel
theorem dX4_init_7 : decode cX4_init 7 = .ok (.newarray .long, 2) := by decide +kernel
theorem dX4_init_9 : decode cX4_init 9 = .ok (.putfield 9, 3) := by decide +kernel
theorem dX4_init_12 : decode cX4_init 12 = .ok (.aload_n 0, 1) := by decide +kernel
theorem dX4_init_13 : decode cX4_init 13 = .ok (.iconst 4, 1) := by decide +kernel
theorem dX4_init_14 : decode cX4_init 14 = .ok (.newarray .int, 2) := by decide +kernel
theorem dX4_init_16 : decode cX4_init 16 = .ok (.putfield 15, 3) := by decide +kernel
theorem dX4_init_19 : decode cX4_init 19 = .ok (.aload_n 0, 1) := by decide +kernel
theorem dX4_init_20 : decode cX4_init 20 = .ok (.getfield 15, 3) := by decide +kernel
theorem dX4_init_23 : decode cX4_init 23 = .ok (.iconst (-1), 1) := by decide +kernel
theorem dX4_init_24 : decode cX4_init 24 = .ok (.invokestatic 19, 3) := by decide +kernel
theorem dX4_init_27 : decode cX4_init 27 = .ok (.return_, 1) := by decide +kernel
theorem dX4_has_0 : decode cX4_has 0 = .ok (.iload_n 1, 1) := by decide +kernel
theorem dX4_has_1 : decode cX4_has 1 = .ok (.ifCond .lt 12, 3) := by decide +kernel
theorem dX4_has_4 : decode cX4_has 4 = .ok (.iload_n 1, 1) := by decide +kernel
theorem dX4_has_5 : decode cX4_has 5 = .ok (.iconst 4, 1) := by decide +kernel
theorem dX4_has_6 : decode cX4_has 6 = .ok (.if_icmp .ge 7, 3) := by decide +kernel
theorem dX4_has_9 : decode cX4_has 9 = .ok (.iconst 1, 1) := by decide +kernel
theorem dX4_has_10 : decode cX4_has 10 = .ok (.goto 4, 3) := by decide +kernel
theorem dX4_has_13 : decode cX4_has 13 = .ok (.iconst 0, 1) := by decide +kernel
theorem dX4_has_14 : decode cX4_has 14 = .ok (.ireturn, 1) := by decide +kernel
set_option maxRecDepth 20000 in
theorem ggX4_isEmpty_X4_has : GoodIn wsX4_isEmpty wsX4_has := goodIn_r _ [6] (by decide +kernel) (by decide +kernel)
set_option maxRecDepth 20000 in
theorem gX4_isEmpty_X4_has : GoodIn wsX4_isEmpty (wsV RX4 25 RX4 yX4_has wsX4_has) := goodIn_app (goodIn_of _ (by decide +kernel)) ggX4_isEmpty_X4_has
theorem dX4_isEmpty_0 : decode cX4_isEmpty 0 = .ok (.aload_n 0, 1) := by decide +kernel
theorem dX4_isEmpty_1 : decode cX4_isEmpty 1 = .ok (.iload_n 1, 1) := by decide +kernel
theorem dX4_isEmpty_2 : decode cX4_isEmpty 2 = .ok (.invokevirtual 25, 3) := by decide +kernel
theorem dX4_isEmpty_5 : decode cX4_isEmpty 5 = .ok (.ifCond .eq 16, 3) := by decide +kernel
theorem dX4_isEmpty_8 : decode cX4_isEmpty 8 = .ok (.aload_n 0, 1) := by decide +kernel
theorem dX4_isEmpty_9 : decode cX4_isEmpty 9 = .ok (.getfield 15, 3) := by decide +kernel
theorem dX4_isEmpty_12 : decode cX4_isEmpty 12 = .ok (.iload_n 1, 1) := by decide +kernel
theorem dX4_isEmpty_13 : decode cX4_isEmpty 13 = .ok (.iaload, 1) := by decide +kernel
theorem dX4_isEmpty_14 : decode cX4_isEmpty 14 = .ok (.ifCond .ge 7, 3) := by decide +kernel
theorem dX4_isEmpty_17 : decode cX4_isEmpty 17 = .ok (.iconst 1, 1) := by decide +kernel
theorem dX4_isEmpty_18 : decode cX4_isEmpty 18 = .ok (.goto 4, 3) := by decide +kernel
theorem dX4_isEmpty_21 : decode cX4_isEmpty 21 = .ok (.iconst 0, 1) := by decide +kernel
theorem dX4_isEmpty_22 : decode cX4_isEmpty 22 = .ok (.ireturn, 1) := by decide +kernel
set_option maxRecDepth 20000 in
theorem ggX4_hasPlace_X4_has : GoodIn wsX4_hasPlace wsX4_has := goodIn_r _ [6] (by decide +kernel) (by decide +kernel)
set_option maxRecDepth 20000 in
theorem gX4_hasPlace_X4_has : GoodIn wsX4_hasPlace (wsV RX4 25 RX4 yX4_has wsX4_has) := goodIn_app (goodIn_of _ (by decide +kernel)) ggX4_hasPlace_X4_has
theorem dX4_hasPlace_0 : decode cX4_hasPlace 0 = .ok (.aload_n 0, 1) := by decide +kernel
theorem dX4_hasPlace_1 : decode cX4_hasPlace 1 = .ok (.iload_n 1, 1) := by decide +kernel
theorem dX4_hasPlace_2 : decode cX4_hasPlace 2 = .ok (.invokevirtual 25, 3) := by decide +kernel
theorem dX4_hasPlace_5 : decode cX4_hasPlace 5 = .ok (.ifCond .eq 21, 3) := by decide +kernel
theorem dX4_hasPlace_8 : decode cX4_hasPlace 8 = .ok (.iload_n 2, 1) := by decide +kernel
theorem dX4_hasPlace_9 : decode cX4_hasPlace 9 = .ok (.ifCond .lt 17, 3) := by decide +kernel
theorem dX4_hasPlace_12 : decode cX4_hasPlace 12 = .ok (.iload_n 2, 1) := by decide +kernel
theorem dX4_hasPlace_13 : decode cX4_hasPlace 13 = .ok (.aload_n 0, 1) := by decide +kernel
theorem dX4_hasPlace_14 : decode cX4_hasPlace 14 = .ok (.getfield 15, 3) := by decide +kernel
theorem dX4_hasPlace_17 : decode cX4_hasPlace 17 = .ok (.iload_n 1, 1) := by decide +kernel
theorem dX4_hasPlace_18 : decode cX4_hasPlace 18 = .ok (.iaload, 1) := by decide +kernel
theorem dX4_hasPlace_19 : decode cX4_hasPlace 19 = .ok (.if_icmp .ge 7, 3) := by decide +kernel
theorem dX4_hasPlace_22 : decode cX4_hasPlace 22 = .ok (.iconst 1, 1) := by decide +kernel
theorem dX4_hasPlace_23 : decode cX4_hasPlace 23 = .ok (.goto 4, 3) := by decide +kernel
theorem dX4_hasPlace_26 : decode cX4_hasPlace 26 = .ok (.iconst 0, 1) := by decide +kernel
theorem dX4_hasPlace_27 : decode cX4_hasPlace 27 = .ok (.ireturn, 1) := by decide +kernel
set_option maxRecDepth 20000 in
theorem ggX4_lay_X4_has : GoodIn wsX4_lay wsX4_has := goodIn_r _ [11] (by decide +kernel) (by decide +kernel)
set_option maxRecDepth 20000 in
theorem gX4_lay_X4_has : GoodIn wsX4_lay (wsV RX4 25 RX4 yX4_has wsX4_has) := goodIn_app (goodIn_of _ (by decide +kernel)) ggX4_lay_X4_has
theorem dX4_lay_0 : decode cX4_lay 0 = .ok (.aload_n 0, 1) := by decide +kernel
theorem dX4_lay_1 : decode cX4_lay 1 = .ok (.iload_n 1, 1) := by decide +kernel
theorem dX4_lay_2 : decode cX4_lay 2 = .ok (.invokevirtual 25, 3) := by decide +kernel
theorem dX4_lay_5 : decode cX4_lay 5 = .ok (.ifCond .ne 4, 3) := by decide +kernel
theorem dX4_lay_8 : decode cX4_lay 8 = .ok (.return_, 1) := by decide +kernel
theorem dX4_lay_9 : decode cX4_lay 9 = .ok (.aload_n 0, 1) := by decide +kernel
theorem dX4_lay_10 : decode cX4_lay 10 = .ok (.getfield 15, 3) := by decide +kernel
theorem dX4_lay_13 : decode cX4_lay 13 = .ok (.iload_n 1, 1) := by decide +kernel
theorem dX4_lay_14 : decode cX4_lay 14 = .ok (.iload_n 2, 1) := by decide +kernel
theorem dX4_lay_15 : decode cX4_lay 15 = .ok (.bipush 24, 2) := by decide +kernel
theorem dX4_lay_17 : decode cX4_lay 17 = .ok (.invokestatic 29, 3) := by decide +kernel
theorem dX4_lay_20 : decode cX4_lay 20 = .ok (.iastore, 1) := by decide +kernel
theorem dX4_lay_21 : decode cX4_lay 21 = .ok (.iconst 0, 1) := by decide +kernel
theorem dX4_lay_22 : decode cX4_lay 22 = .ok (.istore_n 3, 1) := by decide +kernel
theorem dX4_lay_23 : decode cX4_lay 23 = .ok (.iload_n 3, 1) := by decide +kernel
theorem dX4_lay_24 : decode cX4_lay 24 = .ok (.bipush 24, 2) := by decide +kernel
theorem dX4_lay_26 : decode cX4_lay 26 = .ok (.if_icmp .ge 21, 3) := by decide +kernel
theorem dX4_lay_29 : decode cX4_lay 29 = .ok (.aload_n 0, 1) := by decide +kernel
theorem dX4_lay_30 : decode cX4_lay 30 = .ok (.getfield 9, 3) := by decide +kernel
theorem dX4_lay_33 : decode cX4_lay 33 = .ok (.iload_n 1, 1) := by decide +kernel
theorem dX4_lay_34 : decode cX4_lay 34 = .ok (.bipush 24, 2) := by decide +kernel
theorem dX4_lay_36 : decode cX4_lay 36 = .ok (.imul, 1) := by decide +kernel
theorem dX4_lay_37 : decode cX4_lay 37 = .ok (.iload_n 3, 1) := by decide +kernel
theorem dX4_lay_38 : decode cX4_lay 38 = .ok (.iadd, 1) := by decide +kernel
theorem dX4_lay_39 : decode cX4_lay 39 = .ok (.lconst 0, 1) := by decide +kernel
theorem dX4_lay_40 : decode cX4_lay 40 = .ok (.lastore, 1) := by decide +kernel
theorem dX4_lay_41 : decode cX4_lay 41 = .ok (.iinc 3 1, 3) := by decide +kernel
theorem dX4_lay_44 : decode cX4_lay 44 = .ok (.goto (-21), 3) := by decide +kernel
theorem dX4_lay_47 : decode cX4_lay 47 = .ok (.return_, 1) := by decide +kernel
set_option maxRecDepth 20000 in
theorem ggX4_read_X4_hasPlace : GoodIn wsX4_read wsX4_hasPlace := goodIn_r _ [6, 7, 8, 9, 10, 5, 11, 12, 13] (by decide +kernel) (by decide +kernel)
set_option maxRecDepth 20000 in
theorem gX4_read_X4_hasPlace : GoodIn wsX4_read (wsV RX4 35 RX4 yX4_hasPlace wsX4_hasPlace) := goodIn_app (goodIn_of _ (by decide +kernel)) ggX4_read_X4_hasPlace
theorem dX4_read_0 : decode cX4_read 0 = .ok (.aload_n 0, 1) := by decide +kernel
theorem dX4_read_1 : decode cX4_read 1 = .ok (.iload_n 1, 1) := by decide +kernel
theorem dX4_read_2 : decode cX4_read 2 = .ok (.iload_n 2, 1) := by decide +kernel
theorem dX4_read_3 : decode cX4_read 3 = .ok (.invokevirtual 35, 3) := by decide +kernel
theorem dX4_read_6 : decode cX4_read 6 = .ok (.ifCond .eq 17, 3) := by decide +kernel
theorem dX4_read_9 : decode cX4_read 9 = .ok (.aload_n 0, 1) := by decide +kernel
theorem dX4_read_10 : decode cX4_read 10 = .ok (.getfield 9, 3) := by decide +kernel
theorem dX4_read_13 : decode cX4_read 13 = .ok (.iload_n 1, 1) := by decide +kernel
theorem dX4_read_14 : decode cX4_read 14 = .ok (.bipush 24, 2) := by decide +kernel
theorem dX4_read_16 : decode cX4_read 16 = .ok (.imul, 1) := by decide +kernel
theorem dX4_read_17 : decode cX4_read 17 = .ok (.iload_n 2, 1) := by decide +kernel
theorem dX4_read_18 : decode cX4_read 18 = .ok (.iadd, 1) := by decide +kernel
theorem dX4_read_19 : decode cX4_read 19 = .ok (.laload, 1) := by decide +kernel
theorem dX4_read_20 : decode cX4_read 20 = .ok (.goto 4, 3) := by decide +kernel
theorem dX4_read_23 : decode cX4_read 23 = .ok (.lconst 0, 1) := by decide +kernel
theorem dX4_read_24 : decode cX4_read 24 = .ok (.lreturn, 1) := by decide +kernel
set_option maxRecDepth 20000 in
theorem ggX4_write_X4_hasPlace : GoodIn wsX4_write wsX4_hasPlace := goodIn_r _ [6, 7, 8, 9, 10, 5, 11, 12, 13] (by decide +kernel) (by decide +kernel)
set_option maxRecDepth 20000 in
theorem gX4_write_X4_hasPlace : GoodIn wsX4_write (wsV RX4 35 RX4 yX4_hasPlace wsX4_hasPlace) := goodIn_app (goodIn_of _ (by decide +kernel)) ggX4_write_X4_hasPlace
theorem dX4_write_0 : decode cX4_write 0 = .ok (.aload_n 0, 1) := by decide +kernel
theorem dX4_write_1 : decode cX4_write 1 = .ok (.iload_n 1, 1) := by decide +kernel
theorem dX4_write_2 : decode cX4_write 2 = .ok (.iload_n 2, 1) := by decide +kernel
theorem dX4_write_3 : decode cX4_write 3 = .ok (.invokevirtual 35, 3) := by decide +kernel
theorem dX4_write_6 : decode cX4_write 6 = .ok (.ifCond .eq 15, 3) := by decide +kernel
theorem dX4_write_9 : decode cX4_write 9 = .ok (.aload_n 0, 1) := by decide +kernel
theorem dX4_write_10 : decode cX4_write 10 = .ok (.getfield 9, 3) := by decide +kernel
theorem dX4_write_13 : decode cX4_write 13 = .ok (.iload_n 1, 1) := by decide +kernel
theorem dX4_write_14 : decode cX4_write 14 = .ok (.bipush 24, 2) := by decide +kernel
theorem dX4_write_16 : decode cX4_write 16 = .ok (.imul, 1) := by decide +kernel
theorem dX4_write_17 : decode cX4_write 17 = .ok (.iload_n 2, 1) := by decide +kernel
theorem dX4_write_18 : decode cX4_write 18 = .ok (.iadd, 1) := by decide +kernel
theorem dX4_write_19 : decode cX4_write 19 = .ok (.lload_n 3, 1) := by decide +kernel
theorem dX4_write_20 : decode cX4_write 20 = .ok (.lastore, 1) := by decide +kernel
theorem dX4_write_21 : decode cX4_write 21 = .ok (.return_, 1) := by decide +kernel
set_option maxRecDepth 20000 in
theorem ggX5_init_J7_fill_53178 : GoodIn wsX5_init wsJ7_fill_53178 := goodIn_r _ [12] (by decide +kernel) (by decide +kernel)
set_option maxRecDepth 20000 in
theorem gX5_init_J7_fill_53178 : GoodIn wsX5_init (va_wsS RX5 24 yJ7_fill_53178 wsJ7_fill_53178) := goodIn_app (goodIn_of _ (by decide +kernel)) ggX5_init_J7_fill_53178
theorem dX5_init_0 : decode cX5_init 0 = .ok (.aload_n 0, 1) := by decide +kernel
theorem dX5_init_1 : decode cX5_init 1 = .ok (.invokespecial 3, 3) := by decide +kernel
theorem dX5_init_4 : decode cX5_init 4 = .ok (.aload_n 0, 1) := by decide +kernel
theorem dX5_init_5 : decode cX5_init 5 = .ok (.bipush 36, 2) := by decide +kernel
theorem dX5_init_7 : decode cX5_init 7 = .ok (.newarray .int, 2) := by decide +kernel
theorem dX5_init_9 : decode cX5_init 9 = .ok (.putfield 9, 3) := by decide +kernel
theorem dX5_init_12 : decode cX5_init 12 = .ok (.aload_n 0, 1) := by decide +kernel
theorem dX5_init_13 : decode cX5_init 13 = .ok (.iconst 4, 1) := by decide +kernel
theorem dX5_init_14 : decode cX5_init 14 = .ok (.newarray .int, 2) := by decide +kernel
theorem dX5_init_16 : decode cX5_init 16 = .ok (.putfield 15, 3) := by decide +kernel
theorem dX5_init_19 : decode cX5_init 19 = .ok (.aload_n 0, 1) := by decide +kernel
theorem dX5_init_20 : decode cX5_init 20 = .ok (.bipush 24, 2) := by decide +kernel
theorem dX5_init_22 : decode cX5_init 22 = .ok (.newarray .int, 2) := by decide +kernel
theorem dX5_init_24 : decode cX5_init 24 = .ok (.putfield 18, 3) := by decide +kernel
theorem dX5_init_27 : decode cX5_init 27 = .ok (.aload_n 0, 1) := by decide +kernel
theorem dX5_init_28 : decode cX5_init 28 = .ok (.bipush 24, 2) := by decide +kernel
theorem dX5_init_30 : decode cX5_init 30 = .ok (.newarray .int, 2) := by decide +kernel
theorem dX5_init_32 : decode cX5_init 32 = .ok (.putfield 21, 3) := by decide +kernel
theorem dX5_init_35 : decode cX5_init 35 = .ok (.aload_n 0, 1) := by decide +kernel
theorem dX5_init_36 : decode cX5_init 36 = .ok (.getfield 15, 3) := by decide +kernel
theorem dX5_init_39 : decode cX5_init 39 = .ok (.bipush 100, 2) := by decide +kernel
theorem dX5_init_41 : decode cX5_init 41 = .ok (.invokestatic 24, 3) := by decide +kernel
theorem dX5_init_44 : decode cX5_init 44 = .ok (.return_, 1) := by decide +kernel
theorem dX5_copyOf_0 : decode cX5_copyOf 0 = .ok (.aload_n 0, 1) := by decide +kernel
theorem dX5_copyOf_1 : decode cX5_copyOf 1 = .ok (.iconst 0, 1) := by decide +kernel
theorem dX5_copyOf_2 : decode cX5_copyOf 2 = .ok (.iload_n 2, 1) := by decide +kernel
theorem dX5_copyOf_3 : decode cX5_copyOf 3 = .ok (.bipush 24, 2) := by decide +kernel
theorem dX5_copyOf_5 : decode cX5_copyOf 5 = .ok (.invokestatic 30, 3) := by decide +kernel
theorem dX5_copyOf_8 : decode cX5_copyOf 8 = .ok (.invokestatic 36, 3) := by decide +kernel
theorem dX5_copyOf_11 : decode cX5_copyOf 11 = .ok (.putfield 39, 3) := by decide +kernel
theorem dX5_copyOf_14 : decode cX5_copyOf 14 = .ok (.aload_n 1, 1) := by decide +kernel
theorem dX5_copyOf_15 : decode cX5_copyOf 15 = .ok (.getfield 9, 3) := by decide +kernel
theorem dX5_copyOf_18 : decode cX5_copyOf 18 = .ok (.iconst 0, 1) := by decide +kernel
theorem dX5_copyOf_19 : decode cX5_copyOf 19 = .ok (.aload_n 0, 1) := by decide +kernel
theorem dX5_copyOf_20 : decode cX5_copyOf 20 = .ok (.getfield 9, 3) := by decide +kernel
theorem dX5_copyOf_23 : decode cX5_copyOf 23 = .ok (.iconst 0, 1) := by decide +kernel
theorem dX5_copyOf_24 : decode cX5_copyOf 24 = .ok (.aload_n 0, 1) := by decide +kernel
theorem dX5_copyOf_25 : decode cX5_copyOf 25 = .ok (.getfield 9, 3) := by decide +kernel
theorem dX5_copyOf_28 : decode cX5_copyOf 28 = .ok (.arraylength, 1) := by decide +kernel
theorem dX5_copyOf_29 : decode cX5_copyOf 29 = .ok (.invokestatic 43, 3) := by decide +kernel
theorem dX5_copyOf_32 : decode cX5_copyOf 32 = .ok (.aload_n 1, 1) := by decide +kernel
theorem dX5_copyOf_33 : decode cX5_copyOf 33 = .ok (.getfield 15, 3) := by decide +kernel
theorem dX5_copyOf_36 : decode cX5_copyOf 36 = .ok (.iconst 0, 1) := by decide +kernel
theorem dX5_copyOf_37 : decode cX5_copyOf 37 = .ok (.aload_n 0, 1) := by decide +kernel
theorem dX5_copyOf_38 : decode cX5_copyOf 38 = .ok (.getfield 15, 3) := by decide +kernel
theorem dX5_copyOf_41 : decode cX5_copyOf 41 = .ok (.iconst 0, 1) := by decide +kernel
theorem dX5_copyOf_42 : decode cX5_copyOf 42 = .ok (.aload_n 0, 1) := by decide +kernel
theorem dX5_copyOf_43 : decode cX5_copyOf 43 = .ok (.getfield 15, 3) := by decide +kernel
theorem dX5_copyOf_46 : decode cX5_copyOf 46 = .ok (.arraylength, 1) := by decide +kernel
theorem dX5_copyOf_47 : decode cX5_copyOf 47 = .ok (.invokestatic 43, 3) := by decide +kernel
theorem dX5_copyOf_50 : decode cX5_copyOf 50 = .ok (.aload_n 1, 1) := by decide +kernel
theorem dX5_copyOf_51 : decode cX5_copyOf 51 = .ok (.getfield 18, 3) := by decide +kernel
theorem dX5_copyOf_54 : decode cX5_copyOf 54 = .ok (.iconst 0, 1) := by decide +kernel
theorem dX5_copyOf_55 : decode cX5_copyOf 55 = .ok (.aload_n 0, 1) := by decide +kernel
theorem dX5_copyOf_56 : decode cX5_copyOf 56 = .ok (.getfield 18, 3) := by decide +kernel
theorem dX5_copyOf_59 : decode cX5_copyOf 59 = .ok (.iconst 0, 1) := by decide +kernel
theorem dX5_copyOf_60 : decode cX5_copyOf 60 = .ok (.aload_n 0, 1) := by decide +kernel
theorem dX5_copyOf_61 : decode cX5_copyOf 61 = .ok (.getfield 39, 3) := by decide +kernel
theorem dX5_copyOf_64 : decode cX5_copyOf 64 = .ok (.invokestatic 43, 3) := by decide +kernel
theorem dX5_copyOf_67 : decode cX5_copyOf 67 = .ok (.aload_n 1, 1) := by decide +kernel
theorem dX5_copyOf_68 : decode cX5_copyOf 68 = .ok (.getfield 21, 3) := by decide +kernel
theorem dX5_copyOf_71 : decode cX5_copyOf 71 = .ok (.iconst 0, 1) := by decide +kernel
theorem dX5_copyOf_72 : decode cX5_copyOf 72 = .ok (.aload_n 0, 1) := by decide +kernel
theorem dX5_copyOf_73 : decode cX5_copyOf 73 = .ok (.getfield 21, 3) := by decide +kernel
theorem dX5_copyOf_76 : decode cX5_copyOf 76 = .ok (.iconst 0, 1) := by decide +kernel
theorem dX5_copyOf_77 : decode cX5_copyOf 77 = .ok (.aload_n 0, 1) := by decide +kernel
theorem dX5_copyOf_78 : decode cX5_copyOf 78 = .ok (.getfield 39, 3) := by decide +kernel
theorem dX5_copyOf_81 : decode cX5_copyOf 81 = .ok (.invokestatic 43, 3) := by decide +kernel
theorem dX5_copyOf_84 : decode cX5_copyOf 84 = .ok (.return_, 1) := by decide +kernel
theorem dX6_init_0 : decode cX6_init 0 = .ok (.aload_n 0, 1) := by decide +kernel
theorem dX6_init_1 : decode cX6_init 1 = .ok (.invokespecial 3, 3) := by decide +kernel
theorem dX6_init_4 : decode cX6_init 4 = .ok (.aload_n 0, 1) := by decide +kernel
theorem dX6_init_5 : decode cX6_init 5 = .ok (.sipush 2197, 3) := by decide +kernel
theorem dX6_init_8 : decode cX6_init 8 = .ok (.newarray .int, 2) := by decide +kernel
theorem dX6_init_10 : decode cX6_init 10 = .ok (.putfield 9, 3) := by decide +kernel
theorem dX6_init_13 : decode cX6_init 13 = .ok (.aload_n 0, 1) := by decide +kernel
theorem dX6_init_14 : decode cX6_init 14 = .ok (.bipush 39, 2) := by decide +kernel
theorem dX6_init_16 : decode cX6_init 16 = .ok (.newarray .int, 2) := by decide +kernel
theorem dX6_init_18 : decode cX6_init 18 = .ok (.putfield 15, 3) := by decide +kernel
theorem dX6_init_21 : decode cX6_init 21 = .ok (.return_, 1) := by decide +kernel
set_option maxRecDepth 20000 in
theorem ggX6_lay_X6_sumSupplies : GoodIn wsX6_lay wsX6_sumSupplies := goodIn_r _ [7, 2, 24, 25, 32, 33, 34, 35, 36] (by decide +kernel) (by decide +kernel)
set_option maxRecDepth 20000 in
theorem gX6_lay_X6_sumSupplies : GoodIn wsX6_lay (wsV RX6 18 RX6 yX6_sumSupplies wsX6_sumSupplies) := goodIn_app (goodIn_of _ (by decide +kernel)) ggX6_lay_X6_sumSupplies
set_option maxRecDepth 20000 in
theorem ggX6_lay_J7_fill_53178 : GoodIn wsX6_lay wsJ7_fill_53178 := goodIn_r _ [11] (by decide +kernel) (by decide +kernel)
set_option maxRecDepth 20000 in
theorem gX6_lay_J7_fill_53178 : GoodIn wsX6_lay (va_wsS RX6 22 yJ7_fill_53178 wsJ7_fill_53178) := goodIn_app (goodIn_of _ (by decide +kernel)) ggX6_lay_J7_fill_53178
set_option maxRecDepth 20000 in
theorem ggX6_lay_X8_bit : GoodIn wsX6_lay wsX8_bit := goodIn_r _ [14] (by decide +kernel) (by decide +kernel)
set_option maxRecDepth 20000 in
theorem gX6_lay_X8_bit_n34 : GoodIn wsX6_lay (wsX8_bit) := ggX6_lay_X8_bit
set_option maxRecDepth 20000 in
theorem ggX6_lay_X6_corner : GoodIn wsX6_lay wsX6_corner := goodIn_r _ [17, 18, 13, 19] (by decide +kernel) (by decide +kernel)
set_option maxRecDepth 20000 in
theorem gX6_lay_X6_corner : GoodIn wsX6_lay (va_wsS RX6 46 yX6_corner wsX6_corner) := goodIn_app (goodIn_of _ (by decide +kernel)) ggX6_lay_X6_corner
set_option maxRecDepth 20000 in
theorem ggX6_lay_X6_spread : GoodIn wsX6_lay wsX6_spread := goodIn_r _ [23, 1, 24, 25] (by decide +kernel) (by decide +kernel)
set_option maxRecDepth 20000 in
theorem gX6_lay_X6_spread : GoodIn wsX6_lay (wsV RX6 53 RX6 yX6_spread wsX6_spread) := goodIn_app (goodIn_of _ (by decide +kernel)) ggX6_lay_X6_spread
theorem dX6_lay_0 : decode cX6_lay 0 = .ok (.aload_n 0, 1) := by decide +kernel
theorem dX6_lay_1 : decode cX6_lay 1 = .ok (.aload_n 2, 1) := by decide +kernel
theorem dX6_lay_2 : decode cX6_lay 2 = .ok (.invokevirtual 18, 3) := by decide +kernel
theorem dX6_lay_5 : decode cX6_lay 5 = .ok (.aload_n 0, 1) := by decide +kernel
theorem dX6_lay_6 : decode cX6_lay 6 = .ok (.getfield 9, 3) := by decide +kernel
theorem dX6_lay_9 : decode cX6_lay 9 = .ok (.iconst 0, 1) := by decide +kernel
theorem dX6_lay_10 : decode cX6_lay 10 = .ok (.invokestatic 22, 3) := by decide +kernel
theorem dX6_lay_13 : decode cX6_lay 13 = .ok (.iload_n 3, 1) := by decide +kernel
theorem dX6_lay_14 : decode cX6_lay 14 = .ok (.ifCond .eq 67, 3) := by decide +kernel
theorem dX6_lay_17 : decode cX6_lay 17 = .ok (.iconst 0, 1) := by decide +kernel
theorem dX6_lay_18 : decode cX6_lay 18 = .ok (.istore 4, 2) := by decide +kernel
theorem dX6_lay_20 : decode cX6_lay 20 = .ok (.iload 4, 2) := by decide +kernel
theorem dX6_lay_22 : decode cX6_lay 22 = .ok (.aload_n 1, 1) := by decide +kernel
theorem dX6_lay_23 : decode cX6_lay 23 = .ok (.getfield 28, 3) := by decide +kernel
theorem dX6_lay_26 : decode cX6_lay 26 = .ok (.if_icmp .ge 51, 3) := by decide +kernel
theorem dX6_lay_29 : decode cX6_lay 29 = .ok (.iload_n 3, 1) := by decide +kernel
theorem dX6_lay_30 : decode cX6_lay 30 = .ok (.iload 4, 2) := by decide +kernel
theorem dX6_lay_32 : decode cX6_lay 32 = .ok (.invokestatic 34, 3) := by decide +kernel
theorem dX6_lay_35 : decode cX6_lay 35 = .ok (.iand, 1) := by decide +kernel
theorem dX6_lay_36 : decode cX6_lay 36 = .ok (.ifCond .eq 35, 3) := by decide +kernel
theorem dX6_lay_39 : decode cX6_lay 39 = .ok (.aload_n 0, 1) := by decide +kernel
theorem dX6_lay_40 : decode cX6_lay 40 = .ok (.getfield 9, 3) := by decide +kernel
theorem dX6_lay_43 : decode cX6_lay 43 = .ok (.aload_n 1, 1) := by decide +kernel
theorem dX6_lay_44 : decode cX6_lay 44 = .ok (.getfield 38, 3) := by decide +kernel
theorem dX6_lay_47 : decode cX6_lay 47 = .ok (.iload 4, 2) := by decide +kernel
theorem dX6_lay_49 : decode cX6_lay 49 = .ok (.iaload, 1) := by decide +kernel
theorem dX6_lay_50 : decode cX6_lay 50 = .ok (.aload_n 2, 1) := by decide +kernel
theorem dX6_lay_51 : decode cX6_lay 51 = .ok (.getfield 41, 3) := by decide +kernel
theorem dX6_lay_54 : decode cX6_lay 54 = .ok (.iload 4, 2) := by decide +kernel
theorem dX6_lay_56 : decode cX6_lay 56 = .ok (.iaload, 1) := by decide +kernel
theorem dX6_lay_57 : decode cX6_lay 57 = .ok (.invokestatic 46, 3) := by decide +kernel
theorem dX6_lay_60 : decode cX6_lay 60 = .ok (.dup2, 1) := by decide +kernel
theorem dX6_lay_61 : decode cX6_lay 61 = .ok (.iaload, 1) := by decide +kernel
theorem dX6_lay_62 : decode cX6_lay 62 = .ok (.aload_n 1, 1) := by decide +kernel
theorem dX6_lay_63 : decode cX6_lay 63 = .ok (.getfield 50, 3) := by decide +kernel
theorem dX6_lay_66 : decode cX6_lay 66 = .ok (.iload 4, 2) := by decide +kernel
theorem dX6_lay_68 : decode cX6_lay 68 = .ok (.iaload, 1) := by decide +kernel
theorem dX6_lay_69 : decode cX6_lay 69 = .ok (.isub, 1) := by decide +kernel
theorem dX6_lay_70 : decode cX6_lay 70 = .ok (.iastore, 1) := by decide +kernel
theorem dX6_lay_71 : decode cX6_lay 71 = .ok (.iinc 4 1, 3) := by decide +kernel
theorem dX6_lay_74 : decode cX6_lay 74 = .ok (.goto (-54), 3) := by decide +kernel
theorem dX6_lay_77 : decode cX6_lay 77 = .ok (.aload_n 0, 1) := by decide +kernel
theorem dX6_lay_78 : decode cX6_lay 78 = .ok (.invokevirtual 53, 3) := by decide +kernel
theorem dX6_lay_81 : decode cX6_lay 81 = .ok (.iconst 0, 1) := by decide +kernel
theorem dX6_lay_82 : decode cX6_lay 82 = .ok (.istore 4, 2) := by decide +kernel
theorem dX6_lay_84 : decode cX6_lay 84 = .ok (.iconst 0, 1) := by decide +kernel
theorem dX6_lay_85 : decode cX6_lay 85 = .ok (.istore 5, 2) := by decide +kernel
theorem dX6_lay_87 : decode cX6_lay 87 = .ok (.iload 5, 2) := by decide +kernel
theorem dX6_lay_89 : decode cX6_lay 89 = .ok (.bipush 13, 2) := by decide +kernel
theorem dX6_lay_91 : decode cX6_lay 91 = .ok (.if_icmp .ge 87, 3) := by decide +kernel
theorem dX6_lay_94 : decode cX6_lay 94 = .ok (.iconst 0, 1) := by decide +kernel
theorem dX6_lay_95 : decode cX6_lay 95 = .ok (.istore 6, 2) := by decide +kernel
theorem dX6_lay_97 : decode cX6_lay 97 = .ok (.iload 6, 2) := by decide +kernel
theorem dX6_lay_99 : decode cX6_lay 99 = .ok (.bipush 13, 2) := by decide +kernel
theorem dX6_lay_101 : decode cX6_lay 101 = .ok (.if_icmp .ge 71, 3) := by decide +kernel
theorem dX6_lay_104 : decode cX6_lay 104 = .ok (.aload_n 0, 1) := by decide +kernel
theorem dX6_lay_105 : decode cX6_lay 105 = .ok (.getfield 15, 3) := by decide +kernel
theorem dX6_lay_108 : decode cX6_lay 108 = .ok (.iload 5, 2) := by decide +kernel
theorem dX6_lay_110 : decode cX6_lay 110 = .ok (.iaload, 1) := by decide +kernel
theorem dX6_lay_111 : decode cX6_lay 111 = .ok (.aload_n 0, 1) := by decide +kernel
theorem dX6_lay_112 : decode cX6_lay 112 = .ok (.getfield 15, 3) := by decide +kernel
theorem dX6_lay_115 : decode cX6_lay 115 = .ok (.bipush 13, 2) := by decide +kernel
theorem dX6_lay_117 : decode cX6_lay 117 = .ok (.iload 6, 2) := by decide +kernel
theorem dX6_lay_119 : decode cX6_lay 119 = .ok (.iadd, 1) := by decide +kernel
theorem dX6_lay_120 : decode cX6_lay 120 = .ok (.iaload, 1) := by decide +kernel
theorem dX6_lay_121 : decode cX6_lay 121 = .ok (.iadd, 1) := by decide +kernel
theorem dX6_lay_122 : decode cX6_lay 122 = .ok (.istore 7, 2) := by decide +kernel
theorem dX6_lay_124 : decode cX6_lay 124 = .ok (.iconst 0, 1) := by decide +kernel
theorem dX6_lay_125 : decode cX6_lay 125 = .ok (.istore 8, 2) := by decide +kernel
theorem dX6_lay_127 : decode cX6_lay 127 = .ok (.iload 8, 2) := by decide +kernel
theorem dX6_lay_129 : decode cX6_lay 129 = .ok (.bipush 13, 2) := by decide +kernel
theorem dX6_lay_131 : decode cX6_lay 131 = .ok (.if_icmp .ge 35, 3) := by decide +kernel
theorem dX6_lay_134 : decode cX6_lay 134 = .ok (.aload_n 0, 1) := by decide +kernel
theorem dX6_lay_135 : decode cX6_lay 135 = .ok (.getfield 9, 3) := by decide +kernel
theorem dX6_lay_138 : decode cX6_lay 138 = .ok (.iload 4, 2) := by decide +kernel
theorem dX6_lay_140 : decode cX6_lay 140 = .ok (.dup2, 1) := by decide +kernel
theorem dX6_lay_141 : decode cX6_lay 141 = .ok (.iaload, 1) := by decide +kernel
theorem dX6_lay_142 : decode cX6_lay 142 = .ok (.iload 7, 2) := by decide +kernel
theorem dX6_lay_144 : decode cX6_lay 144 = .ok (.aload_n 0, 1) := by decide +kernel
theorem dX6_lay_145 : decode cX6_lay 145 = .ok (.getfield 15, 3) := by decide +kernel
theorem dX6_lay_148 : decode cX6_lay 148 = .ok (.bipush 26, 2) := by decide +kernel
theorem dX6_lay_150 : decode cX6_lay 150 = .ok (.iload 8, 2) := by decide +kernel
theorem dX6_lay_152 : decode cX6_lay 152 = .ok (.iadd, 1) := by decide +kernel
theorem dX6_lay_153 : decode cX6_lay 153 = .ok (.iaload, 1) := by decide +kernel
theorem dX6_lay_154 : decode cX6_lay 154 = .ok (.iadd, 1) := by decide +kernel
theorem dX6_lay_155 : decode cX6_lay 155 = .ok (.iadd, 1) := by decide +kernel
theorem dX6_lay_156 : decode cX6_lay 156 = .ok (.iastore, 1) := by decide +kernel
theorem dX6_lay_157 : decode cX6_lay 157 = .ok (.iinc 4 1, 3) := by decide +kernel
theorem dX6_lay_160 : decode cX6_lay 160 = .ok (.iinc 8 1, 3) := by decide +kernel
theorem dX6_lay_163 : decode cX6_lay 163 = .ok (.goto (-36), 3) := by decide +kernel
theorem dX6_lay_166 : decode cX6_lay 166 = .ok (.iinc 6 1, 3) := by decide +kernel
theorem dX6_lay_169 : decode cX6_lay 169 = .ok (.goto (-72), 3) := by decide +kernel
theorem dX6_lay_172 : decode cX6_lay 172 = .ok (.iinc 5 1, 3) := by decide +kernel
theorem dX6_lay_175 : decode cX6_lay 175 = .ok (.goto (-88), 3) := by decide +kernel
theorem dX6_lay_178 : decode cX6_lay 178 = .ok (.return_, 1) := by decide +kernel
set_option maxRecDepth 20000 in
theorem ggX6_take_X8_startOf : GoodIn wsX6_take wsX8_startOf := goodIn_r _ [4] (by decide +kernel) (by decide +kernel)
set_option maxRecDepth 20000 in
theorem gX6_take_X8_startOf_n56 : GoodIn wsX6_take (wsX8_startOf) := ggX6_take_X8_startOf
theorem dX6_take_0 : decode cX6_take 0 = .ok (.iload_n 1, 1) := by decide +kernel
theorem dX6_take_1 : decode cX6_take 1 = .ok (.iconst 0, 1) := by decide +kernel
theorem dX6_take_2 : decode cX6_take 2 = .ok (.iload_n 2, 1) := by decide +kernel
theorem dX6_take_3 : decode cX6_take 3 = .ok (.invokestatic 56, 3) := by decide +kernel
theorem dX6_take_6 : decode cX6_take 6 = .ok (.istore 4, 2) := by decide +kernel
theorem dX6_take_8 : decode cX6_take 8 = .ok (.iload 4, 2) := by decide +kernel
theorem dX6_take_10 : decode cX6_take 10 = .ok (.bipush 13, 2) := by decide +kernel
theorem dX6_take_12 : decode cX6_take 12 = .ok (.if_icmp .ge 79, 3) := by decide +kernel
theorem dX6_take_15 : decode cX6_take 15 = .ok (.iload_n 1, 1) := by decide +kernel
theorem dX6_take_16 : decode cX6_take 16 = .ok (.iconst 1, 1) := by decide +kernel
theorem dX6_take_17 : decode cX6_take 17 = .ok (.iload_n 2, 1) := by decide +kernel
theorem dX6_take_18 : decode cX6_take 18 = .ok (.invokestatic 56, 3) := by decide +kernel
theorem dX6_take_21 : decode cX6_take 21 = .ok (.istore 5, 2) := by decide +kernel
theorem dX6_take_23 : decode cX6_take 23 = .ok (.iload 5, 2) := by decide +kernel
theorem dX6_take_25 : decode cX6_take 25 = .ok (.bipush 13, 2) := by decide +kernel
theorem dX6_take_27 : decode cX6_take 27 = .ok (.if_icmp .ge 58, 3) := by decide +kernel
theorem dX6_take_30 : decode cX6_take 30 = .ok (.iload 4, 2) := by decide +kernel
theorem dX6_take_32 : decode cX6_take 32 = .ok (.sipush 169, 3) := by decide +kernel
theorem dX6_take_35 : decode cX6_take 35 = .ok (.imul, 1) := by decide +kernel
theorem dX6_take_36 : decode cX6_take 36 = .ok (.iload 5, 2) := by decide +kernel
theorem dX6_take_38 : decode cX6_take 38 = .ok (.bipush 13, 2) := by decide +kernel
theorem dX6_take_40 : decode cX6_take 40 = .ok (.imul, 1) := by decide +kernel
theorem dX6_take_41 : decode cX6_take 41 = .ok (.iadd, 1) := by decide +kernel
theorem dX6_take_42 : decode cX6_take 42 = .ok (.istore 6, 2) := by decide +kernel
theorem dX6_take_44 : decode cX6_take 44 = .ok (.iload_n 1, 1) := by decide +kernel
theorem dX6_take_45 : decode cX6_take 45 = .ok (.iconst 2, 1) := by decide +kernel
theorem dX6_take_46 : decode cX6_take 46 = .ok (.iload_n 2, 1) := by decide +kernel
theorem dX6_take_47 : decode cX6_take 47 = .ok (.invokestatic 56, 3) := by decide +kernel
theorem dX6_take_50 : decode cX6_take 50 = .ok (.istore 7, 2) := by decide +kernel
theorem dX6_take_52 : decode cX6_take 52 = .ok (.iload 7, 2) := by decide +kernel
theorem dX6_take_54 : decode cX6_take 54 = .ok (.bipush 13, 2) := by decide +kernel
theorem dX6_take_56 : decode cX6_take 56 = .ok (.if_icmp .ge 23, 3) := by decide +kernel
theorem dX6_take_59 : decode cX6_take 59 = .ok (.aload_n 0, 1) := by decide +kernel
theorem dX6_take_60 : decode cX6_take 60 = .ok (.getfield 9, 3) := by decide +kernel
theorem dX6_take_63 : decode cX6_take 63 = .ok (.iload 6, 2) := by decide +kernel
theorem dX6_take_65 : decode cX6_take 65 = .ok (.iload 7, 2) := by decide +kernel
theorem dX6_take_67 : decode cX6_take 67 = .ok (.iadd, 1) := by decide +kernel
theorem dX6_take_68 : decode cX6_take 68 = .ok (.dup2, 1) := by decide +kernel
theorem dX6_take_69 : decode cX6_take 69 = .ok (.iaload, 1) := by decide +kernel
theorem dX6_take_70 : decode cX6_take 70 = .ok (.iload_n 3, 1) := by decide +kernel
theorem dX6_take_71 : decode cX6_take 71 = .ok (.isub, 1) := by decide +kernel
theorem dX6_take_72 : decode cX6_take 72 = .ok (.iastore, 1) := by decide +kernel
theorem dX6_take_73 : decode cX6_take 73 = .ok (.iinc 7 1, 3) := by decide +kernel
theorem dX6_take_76 : decode cX6_take 76 = .ok (.goto (-24), 3) := by decide +kernel
theorem dX6_take_79 : decode cX6_take 79 = .ok (.iinc 5 1, 3) := by decide +kernel
theorem dX6_take_82 : decode cX6_take 82 = .ok (.goto (-59), 3) := by decide +kernel
theorem dX6_take_85 : decode cX6_take 85 = .ok (.iinc 4 1, 3) := by decide +kernel
theorem dX6_take_88 : decode cX6_take 88 = .ok (.goto (-80), 3) := by decide +kernel
theorem dX6_take_91 : decode cX6_take 91 = .ok (.return_, 1) := by decide +kernel
set_option maxRecDepth 20000 in
theorem ggX6_least_X8_startOf : GoodIn wsX6_least wsX8_startOf := goodIn_r _ [8] (by decide +kernel) (by decide +kernel)
set_option maxRecDepth 20000 in
theorem gX6_least_X8_startOf_n56 : GoodIn wsX6_least (wsX8_startOf) := ggX6_least_X8_startOf
theorem dX6_least_0 : decode cX6_least 0 = .ok (.aload_n 0, 1) := by decide +kernel
theorem dX6_least_1 : decode cX6_least 1 = .ok (.getfield 9, 3) := by decide +kernel
theorem dX6_least_4 : decode cX6_least 4 = .ok (.sipush 2196, 3) := by decide +kernel
theorem dX6_least_7 : decode cX6_least 7 = .ok (.iaload, 1) := by decide +kernel
theorem dX6_least_8 : decode cX6_least 8 = .ok (.istore_n 3, 1) := by decide +kernel
theorem dX6_least_9 : decode cX6_least 9 = .ok (.iload_n 1, 1) := by decide +kernel
theorem dX6_least_10 : decode cX6_least 10 = .ok (.iconst 0, 1) := by decide +kernel
theorem dX6_least_11 : decode cX6_least 11 = .ok (.iload_n 2, 1) := by decide +kernel
theorem dX6_least_12 : decode cX6_least 12 = .ok (.invokestatic 56, 3) := by decide +kernel
theorem dX6_least_15 : decode cX6_least 15 = .ok (.istore 4, 2) := by decide +kernel
theorem dX6_least_17 : decode cX6_least 17 = .ok (.iload 4, 2) := by decide +kernel
theorem dX6_least_19 : decode cX6_least 19 = .ok (.bipush 13, 2) := by decide +kernel
theorem dX6_least_21 : decode cX6_least 21 = .ok (.if_icmp .ge 80, 3) := by decide +kernel
theorem dX6_least_24 : decode cX6_least 24 = .ok (.iload_n 1, 1) := by decide +kernel
theorem dX6_least_25 : decode cX6_least 25 = .ok (.iconst 1, 1) := by decide +kernel
theorem dX6_least_26 : decode cX6_least 26 = .ok (.iload_n 2, 1) := by decide +kernel
theorem dX6_least_27 : decode cX6_least 27 = .ok (.invokestatic 56, 3) := by decide +kernel
theorem dX6_least_30 : decode cX6_least 30 = .ok (.istore 5, 2) := by decide +kernel
theorem dX6_least_32 : decode cX6_least 32 = .ok (.iload 5, 2) := by decide +kernel
theorem dX6_least_34 : decode cX6_least 34 = .ok (.bipush 13, 2) := by decide +kernel
theorem dX6_least_36 : decode cX6_least 36 = .ok (.if_icmp .ge 59, 3) := by decide +kernel
theorem dX6_least_39 : decode cX6_least 39 = .ok (.iload 4, 2) := by decide +kernel
theorem dX6_least_41 : decode cX6_least 41 = .ok (.sipush 169, 3) := by decide +kernel
theorem dX6_least_44 : decode cX6_least 44 = .ok (.imul, 1) := by decide +kernel
theorem dX6_least_45 : decode cX6_least 45 = .ok (.iload 5, 2) := by decide +kernel
theorem dX6_least_47 : decode cX6_least 47 = .ok (.bipush 13, 2) := by decide +kernel
theorem dX6_least_49 : decode cX6_least 49 = .ok (.imul, 1) := by decide +kernel
theorem dX6_least_50 : decode cX6_least 50 = .ok (.iadd, 1) := by decide +kernel
theorem dX6_least_51 : decode cX6_least 51 = .ok (.istore 6, 2) := by decide +kernel
theorem dX6_least_53 : decode cX6_least 53 = .ok (.iload_n 1, 1) := by decide +kernel
theorem dX6_least_54 : decode cX6_least 54 = .ok (.iconst 2, 1) := by decide +kernel
theorem dX6_least_55 : decode cX6_least 55 = .ok (.iload_n 2, 1) := by decide +kernel
theorem dX6_least_56 : decode cX6_least 56 = .ok (.invokestatic 56, 3) := by decide +kernel
theorem dX6_least_59 : decode cX6_least 59 = .ok (.istore 7, 2) := by decide +kernel
theorem dX6_least_61 : decode cX6_least 61 = .ok (.iload 7, 2) := by decide +kernel
theorem dX6_least_63 : decode cX6_least 63 = .ok (.bipush 13, 2) := by decide +kernel
theorem dX6_least_65 : decode cX6_least 65 = .ok (.if_icmp .ge 24, 3) := by decide +kernel
theorem dX6_least_68 : decode cX6_least 68 = .ok (.iload_n 3, 1) := by decide +kernel
theorem dX6_least_69 : decode cX6_least 69 = .ok (.aload_n 0, 1) := by decide +kernel
theorem dX6_least_70 : decode cX6_least 70 = .ok (.getfield 9, 3) := by decide +kernel
theorem dX6_least_73 : decode cX6_least 73 = .ok (.iload 6, 2) := by decide +kernel
theorem dX6_least_75 : decode cX6_least 75 = .ok (.iload 7, 2) := by decide +kernel
theorem dX6_least_77 : decode cX6_least 77 = .ok (.iadd, 1) := by decide +kernel
theorem dX6_least_78 : decode cX6_least 78 = .ok (.iaload, 1) := by decide +kernel
theorem dX6_least_79 : decode cX6_least 79 = .ok (.invokestatic 60, 3) := by decide +kernel
theorem dX6_least_82 : decode cX6_least 82 = .ok (.istore_n 3, 1) := by decide +kernel
theorem dX6_least_83 : decode cX6_least 83 = .ok (.iinc 7 1, 3) := by decide +kernel
theorem dX6_least_86 : decode cX6_least 86 = .ok (.goto (-25), 3) := by decide +kernel
theorem dX6_least_89 : decode cX6_least 89 = .ok (.iinc 5 1, 3) := by decide +kernel
theorem dX6_least_92 : decode cX6_least 92 = .ok (.goto (-60), 3) := by decide +kernel
theorem dX6_least_95 : decode cX6_least 95 = .ok (.iinc 4 1, 3) := by decide +kernel
theorem dX6_least_98 : decode cX6_least 98 = .ok (.goto (-81), 3) := by decide +kernel
theorem dX6_least_101 : decode cX6_least 101 = .ok (.iload_n 3, 1) := by decide +kernel
theorem dX6_least_102 : decode cX6_least 102 = .ok (.ireturn, 1) := by decide +kernel
theorem dX6_tightest_0 : decode cX6_tightest 0 = .ok (.iconst 0, 1) := by decide +kernel
theorem dX6_tightest_1 : decode cX6_tightest 1 = .ok (.istore_n 1, 1) := by decide +kernel
theorem dX6_tightest_2 : decode cX6_tightest 2 = .ok (.iconst 1, 1) := by decide +kernel
theorem dX6_tightest_3 : decode cX6_tightest 3 = .ok (.istore_n 2, 1) := by decide +kernel
theorem dX6_tightest_4 : decode cX6_tightest 4 = .ok (.iload_n 2, 1) := by decide +kernel
theorem dX6_tightest_5 : decode cX6_tightest 5 = .ok (.sipush 2197, 3) := by decide +kernel
theorem dX6_tightest_8 : decode cX6_tightest 8 = .ok (.if_icmp .ge 26, 3) := by decide +kernel
theorem dX6_tightest_11 : decode cX6_tightest 11 = .ok (.aload_n 0, 1) := by decide +kernel
theorem dX6_tightest_12 : decode cX6_tightest 12 = .ok (.getfield 9, 3) := by decide +kernel
theorem dX6_tightest_15 : decode cX6_tightest 15 = .ok (.iload_n 2, 1) := by decide +kernel
theorem dX6_tightest_16 : decode cX6_tightest 16 = .ok (.iaload, 1) := by decide +kernel
theorem dX6_tightest_17 : decode cX6_tightest 17 = .ok (.aload_n 0, 1) := by decide +kernel
theorem dX6_tightest_18 : decode cX6_tightest 18 = .ok (.getfield 9, 3) := by decide +kernel
theorem dX6_tightest_21 : decode cX6_tightest 21 = .ok (.iload_n 1, 1) := by decide +kernel
theorem dX6_tightest_22 : decode cX6_tightest 22 = .ok (.iaload, 1) := by decide +kernel
theorem dX6_tightest_23 : decode cX6_tightest 23 = .ok (.if_icmp .ge 5, 3) := by decide +kernel
theorem dX6_tightest_26 : decode cX6_tightest 26 = .ok (.iload_n 2, 1) := by decide +kernel
theorem dX6_tightest_27 : decode cX6_tightest 27 = .ok (.istore_n 1, 1) := by decide +kernel
theorem dX6_tightest_28 : decode cX6_tightest 28 = .ok (.iinc 2 1, 3) := by decide +kernel
theorem dX6_tightest_31 : decode cX6_tightest 31 = .ok (.goto (-27), 3) := by decide +kernel
theorem dX6_tightest_34 : decode cX6_tightest 34 = .ok (.iload_n 1, 1) := by decide +kernel
theorem dX6_tightest_35 : decode cX6_tightest 35 = .ok (.ireturn, 1) := by decide +kernel
theorem dX6_leftIn_0 : decode cX6_leftIn 0 = .ok (.iload_n 1, 1) := by decide +kernel
theorem dX6_leftIn_1 : decode cX6_leftIn 1 = .ok (.ifCond .lt 19, 3) := by decide +kernel
theorem dX6_leftIn_4 : decode cX6_leftIn 4 = .ok (.iload_n 1, 1) := by decide +kernel
theorem dX6_leftIn_5 : decode cX6_leftIn 5 = .ok (.sipush 2197, 3) := by decide +kernel
theorem dX6_leftIn_8 : decode cX6_leftIn 8 = .ok (.if_icmp .ge 12, 3) := by decide +kernel
theorem dX6_leftIn_11 : decode cX6_leftIn 11 = .ok (.aload_n 0, 1) := by decide +kernel
theorem dX6_leftIn_12 : decode cX6_leftIn 12 = .ok (.getfield 9, 3) := by decide +kernel
theorem dX6_leftIn_15 : decode cX6_leftIn 15 = .ok (.iload_n 1, 1) := by decide +kernel
theorem dX6_leftIn_16 : decode cX6_leftIn 16 = .ok (.iaload, 1) := by decide +kernel
theorem dX6_leftIn_17 : decode cX6_leftIn 17 = .ok (.goto 4, 3) := by decide +kernel
theorem dX6_leftIn_20 : decode cX6_leftIn 20 = .ok (.iconst 0, 1) := by decide +kernel
theorem dX6_leftIn_21 : decode cX6_leftIn 21 = .ok (.ireturn, 1) := by decide +kernel
set_option maxRecDepth 20000 in
theorem ggX6_leastWithout_X8_startOf : GoodIn wsX6_leastWithout wsX8_startOf := goodIn_r _ [8] (by decide +kernel) (by decide +kernel)
set_option maxRecDepth 20000 in
theorem gX6_leastWithout_X8_startOf_n56 : GoodIn wsX6_leastWithout (wsX8_startOf) := ggX6_leastWithout_X8_startOf
set_option maxRecDepth 20000 in
theorem ggX6_leastWithout_X6_numberOf : GoodIn wsX6_leastWithout wsX6_numberOf := goodIn_r _ [12] (by decide +kernel) (by decide +kernel)
set_option maxRecDepth 20000 in
theorem gX6_leastWithout_X6_numberOf : GoodIn wsX6_leastWithout (va_wsS RX6 65 yX6_numberOf wsX6_numberOf) := goodIn_app (goodIn_of _ (by decide +kernel)) ggX6_leastWithout_X6_numberOf
theorem dX6_leastWithout_0 : decode cX6_leastWithout 0 = .ok (.iload_n 1, 1) := by decide +kernel
theorem dX6_leastWithout_1 : decode cX6_leastWithout 1 = .ok (.iconst 0, 1) := by decide +kernel
theorem dX6_leastWithout_2 : decode cX6_leastWithout 2 = .ok (.iload_n 2, 1) := by decide +kernel
theorem dX6_leastWithout_3 : decode cX6_leastWithout 3 = .ok (.invokestatic 56, 3) := by decide +kernel
theorem dX6_leastWithout_6 : decode cX6_leastWithout 6 = .ok (.istore 5, 2) := by decide +kernel
theorem dX6_leastWithout_8 : decode cX6_leastWithout 8 = .ok (.iload_n 1, 1) := by decide +kernel
theorem dX6_leastWithout_9 : decode cX6_leastWithout 9 = .ok (.iconst 1, 1) := by decide +kernel
theorem dX6_leastWithout_10 : decode cX6_leastWithout 10 = .ok (.iload_n 2, 1) := by decide +kernel
theorem dX6_leastWithout_11 : decode cX6_leastWithout 11 = .ok (.invokestatic 56, 3) := by decide +kernel
theorem dX6_leastWithout_14 : decode cX6_leastWithout 14 = .ok (.istore 6, 2) := by decide +kernel
theorem dX6_leastWithout_16 : decode cX6_leastWithout 16 = .ok (.iload_n 1, 1) := by decide +kernel
theorem dX6_leastWithout_17 : decode cX6_leastWithout 17 = .ok (.iconst 2, 1) := by decide +kernel
theorem dX6_leastWithout_18 : decode cX6_leastWithout 18 = .ok (.iload_n 2, 1) := by decide +kernel
theorem dX6_leastWithout_19 : decode cX6_leastWithout 19 = .ok (.invokestatic 56, 3) := by decide +kernel
theorem dX6_leastWithout_22 : decode cX6_leastWithout 22 = .ok (.istore 7, 2) := by decide +kernel
theorem dX6_leastWithout_24 : decode cX6_leastWithout 24 = .ok (.bipush 99, 2) := by decide +kernel
theorem dX6_leastWithout_26 : decode cX6_leastWithout 26 = .ok (.istore 8, 2) := by decide +kernel
theorem dX6_leastWithout_28 : decode cX6_leastWithout 28 = .ok (.iconst 0, 1) := by decide +kernel
theorem dX6_leastWithout_29 : decode cX6_leastWithout 29 = .ok (.istore 9, 2) := by decide +kernel
theorem dX6_leastWithout_31 : decode cX6_leastWithout 31 = .ok (.iconst 0, 1) := by decide +kernel
theorem dX6_leastWithout_32 : decode cX6_leastWithout 32 = .ok (.istore 10, 2) := by decide +kernel
theorem dX6_leastWithout_34 : decode cX6_leastWithout 34 = .ok (.iload 10, 2) := by decide +kernel
theorem dX6_leastWithout_36 : decode cX6_leastWithout 36 = .ok (.bipush 13, 2) := by decide +kernel
theorem dX6_leastWithout_38 : decode cX6_leastWithout 38 = .ok (.if_icmp .ge 106, 3) := by decide +kernel
theorem dX6_leastWithout_41 : decode cX6_leastWithout 41 = .ok (.iconst 0, 1) := by decide +kernel
theorem dX6_leastWithout_42 : decode cX6_leastWithout 42 = .ok (.istore 11, 2) := by decide +kernel
theorem dX6_leastWithout_44 : decode cX6_leastWithout 44 = .ok (.iload 11, 2) := by decide +kernel
theorem dX6_leastWithout_46 : decode cX6_leastWithout 46 = .ok (.bipush 13, 2) := by decide +kernel
theorem dX6_leastWithout_48 : decode cX6_leastWithout 48 = .ok (.if_icmp .ge 90, 3) := by decide +kernel
theorem dX6_leastWithout_51 : decode cX6_leastWithout 51 = .ok (.iconst 0, 1) := by decide +kernel
theorem dX6_leastWithout_52 : decode cX6_leastWithout 52 = .ok (.istore 12, 2) := by decide +kernel
theorem dX6_leastWithout_54 : decode cX6_leastWithout 54 = .ok (.iload 12, 2) := by decide +kernel
theorem dX6_leastWithout_56 : decode cX6_leastWithout 56 = .ok (.bipush 13, 2) := by decide +kernel
theorem dX6_leastWithout_58 : decode cX6_leastWithout 58 = .ok (.if_icmp .ge 74, 3) := by decide +kernel
theorem dX6_leastWithout_61 : decode cX6_leastWithout 61 = .ok (.iload 10, 2) := by decide +kernel
theorem dX6_leastWithout_63 : decode cX6_leastWithout 63 = .ok (.iload 5, 2) := by decide +kernel
theorem dX6_leastWithout_65 : decode cX6_leastWithout 65 = .ok (.if_icmp .lt 21, 3) := by decide +kernel
theorem dX6_leastWithout_68 : decode cX6_leastWithout 68 = .ok (.iload 11, 2) := by decide +kernel
theorem dX6_leastWithout_70 : decode cX6_leastWithout 70 = .ok (.iload 6, 2) := by decide +kernel
theorem dX6_leastWithout_72 : decode cX6_leastWithout 72 = .ok (.if_icmp .lt 14, 3) := by decide +kernel
theorem dX6_leastWithout_75 : decode cX6_leastWithout 75 = .ok (.iload 12, 2) := by decide +kernel
theorem dX6_leastWithout_77 : decode cX6_leastWithout 77 = .ok (.iload 7, 2) := by decide +kernel
theorem dX6_leastWithout_79 : decode cX6_leastWithout 79 = .ok (.if_icmp .lt 7, 3) := by decide +kernel
theorem dX6_leastWithout_82 : decode cX6_leastWithout 82 = .ok (.iconst 1, 1) := by decide +kernel
theorem dX6_leastWithout_83 : decode cX6_leastWithout 83 = .ok (.goto 4, 3) := by decide +kernel
theorem dX6_leastWithout_86 : decode cX6_leastWithout 86 = .ok (.iconst 0, 1) := by decide +kernel
theorem dX6_leastWithout_87 : decode cX6_leastWithout 87 = .ok (.istore 13, 2) := by decide +kernel
theorem dX6_leastWithout_89 : decode cX6_leastWithout 89 = .ok (.iload 13, 2) := by decide +kernel
theorem dX6_leastWithout_91 : decode cX6_leastWithout 91 = .ok (.ifCond .ne 32, 3) := by decide +kernel
theorem dX6_leastWithout_94 : decode cX6_leastWithout 94 = .ok (.iload_n 3, 1) := by decide +kernel
theorem dX6_leastWithout_95 : decode cX6_leastWithout 95 = .ok (.iload 10, 2) := by decide +kernel
theorem dX6_leastWithout_97 : decode cX6_leastWithout 97 = .ok (.iload 11, 2) := by decide +kernel
theorem dX6_leastWithout_99 : decode cX6_leastWithout 99 = .ok (.iload 12, 2) := by decide +kernel
theorem dX6_leastWithout_101 : decode cX6_leastWithout 101 = .ok (.invokestatic 65, 3) := by decide +kernel
theorem dX6_leastWithout_104 : decode cX6_leastWithout 104 = .ok (.iload 4, 2) := by decide +kernel
theorem dX6_leastWithout_106 : decode cX6_leastWithout 106 = .ok (.if_icmp .le 17, 3) := by decide +kernel
theorem dX6_leastWithout_109 : decode cX6_leastWithout 109 = .ok (.iload 8, 2) := by decide +kernel
theorem dX6_leastWithout_111 : decode cX6_leastWithout 111 = .ok (.aload_n 0, 1) := by decide +kernel
theorem dX6_leastWithout_112 : decode cX6_leastWithout 112 = .ok (.getfield 9, 3) := by decide +kernel
theorem dX6_leastWithout_115 : decode cX6_leastWithout 115 = .ok (.iload 9, 2) := by decide +kernel
theorem dX6_leastWithout_117 : decode cX6_leastWithout 117 = .ok (.iaload, 1) := by decide +kernel
theorem dX6_leastWithout_118 : decode cX6_leastWithout 118 = .ok (.invokestatic 60, 3) := by decide +kernel
theorem dX6_leastWithout_121 : decode cX6_leastWithout 121 = .ok (.istore 8, 2) := by decide +kernel
theorem dX6_leastWithout_123 : decode cX6_leastWithout 123 = .ok (.iinc 9 1, 3) := by decide +kernel
theorem dX6_leastWithout_126 : decode cX6_leastWithout 126 = .ok (.iinc 12 1, 3) := by decide +kernel
theorem dX6_leastWithout_129 : decode cX6_leastWithout 129 = .ok (.goto (-75), 3) := by decide +kernel
theorem dX6_leastWithout_132 : decode cX6_leastWithout 132 = .ok (.iinc 11 1, 3) := by decide +kernel
theorem dX6_leastWithout_135 : decode cX6_leastWithout 135 = .ok (.goto (-91), 3) := by decide +kernel
theorem dX6_leastWithout_138 : decode cX6_leastWithout 138 = .ok (.iinc 10 1, 3) := by decide +kernel
theorem dX6_leastWithout_141 : decode cX6_leastWithout 141 = .ok (.goto (-107), 3) := by decide +kernel
theorem dX6_leastWithout_144 : decode cX6_leastWithout 144 = .ok (.iload 8, 2) := by decide +kernel
theorem dX6_leastWithout_146 : decode cX6_leastWithout 146 = .ok (.ireturn, 1) := by decide +kernel
set_option maxRecDepth 20000 in
theorem ggX6_needOf_X8_startOf : GoodIn wsX6_needOf wsX8_startOf := goodIn_r _ [8] (by decide +kernel) (by decide +kernel)
set_option maxRecDepth 20000 in
theorem gX6_needOf_X8_startOf_n56 : GoodIn wsX6_needOf (wsX8_startOf) := ggX6_needOf_X8_startOf
set_option maxRecDepth 20000 in
theorem ggX6_needOf_X6_suppliesTo : GoodIn wsX6_needOf wsX6_suppliesTo := goodIn_r _ [13, 14, 18, 19] (by decide +kernel) (by decide +kernel)
set_option maxRecDepth 20000 in
theorem gX6_needOf_X6_suppliesTo : GoodIn wsX6_needOf (wsV RX6 69 RX6 yX6_suppliesTo wsX6_suppliesTo) := goodIn_app (goodIn_of _ (by decide +kernel)) ggX6_needOf_X6_suppliesTo
set_option maxRecDepth 20000 in
theorem ggX6_needOf_X6_numberOf : GoodIn wsX6_needOf wsX6_numberOf := goodIn_r _ [17] (by decide +kernel) (by decide +kernel)
set_option maxRecDepth 20000 in
theorem gX6_needOf_X6_numberOf : GoodIn wsX6_needOf (va_wsS RX6 65 yX6_numberOf wsX6_numberOf) := goodIn_app (goodIn_of _ (by decide +kernel)) ggX6_needOf_X6_numberOf
theorem dX6_needOf_0 : decode cX6_needOf 0 = .ok (.iload_n 1, 1) := by decide +kernel
theorem dX6_needOf_1 : decode cX6_needOf 1 = .ok (.iconst 0, 1) := by decide +kernel
theorem dX6_needOf_2 : decode cX6_needOf 2 = .ok (.iload_n 2, 1) := by decide +kernel
theorem dX6_needOf_3 : decode cX6_needOf 3 = .ok (.invokestatic 56, 3) := by decide +kernel
theorem dX6_needOf_6 : decode cX6_needOf 6 = .ok (.istore 5, 2) := by decide +kernel
theorem dX6_needOf_8 : decode cX6_needOf 8 = .ok (.iload_n 1, 1) := by decide +kernel
theorem dX6_needOf_9 : decode cX6_needOf 9 = .ok (.iconst 1, 1) := by decide +kernel
theorem dX6_needOf_10 : decode cX6_needOf 10 = .ok (.iload_n 2, 1) := by decide +kernel
theorem dX6_needOf_11 : decode cX6_needOf 11 = .ok (.invokestatic 56, 3) := by decide +kernel
theorem dX6_needOf_14 : decode cX6_needOf 14 = .ok (.istore 6, 2) := by decide +kernel
theorem dX6_needOf_16 : decode cX6_needOf 16 = .ok (.iload_n 1, 1) := by decide +kernel
theorem dX6_needOf_17 : decode cX6_needOf 17 = .ok (.iconst 2, 1) := by decide +kernel
theorem dX6_needOf_18 : decode cX6_needOf 18 = .ok (.iload_n 2, 1) := by decide +kernel
theorem dX6_needOf_19 : decode cX6_needOf 19 = .ok (.invokestatic 56, 3) := by decide +kernel
theorem dX6_needOf_22 : decode cX6_needOf 22 = .ok (.istore 7, 2) := by decide +kernel
theorem dX6_needOf_24 : decode cX6_needOf 24 = .ok (.aload_n 0, 1) := by decide +kernel
theorem dX6_needOf_25 : decode cX6_needOf 25 = .ok (.bipush 12, 2) := by decide +kernel
theorem dX6_needOf_27 : decode cX6_needOf 27 = .ok (.bipush 12, 2) := by decide +kernel
theorem dX6_needOf_29 : decode cX6_needOf 29 = .ok (.bipush 12, 2) := by decide +kernel
theorem dX6_needOf_31 : decode cX6_needOf 31 = .ok (.invokevirtual 69, 3) := by decide +kernel
theorem dX6_needOf_34 : decode cX6_needOf 34 = .ok (.ineg, 1) := by decide +kernel
theorem dX6_needOf_35 : decode cX6_needOf 35 = .ok (.istore 8, 2) := by decide +kernel
theorem dX6_needOf_37 : decode cX6_needOf 37 = .ok (.iconst 0, 1) := by decide +kernel
theorem dX6_needOf_38 : decode cX6_needOf 38 = .ok (.istore 9, 2) := by decide +kernel
theorem dX6_needOf_40 : decode cX6_needOf 40 = .ok (.iconst 0, 1) := by decide +kernel
theorem dX6_needOf_41 : decode cX6_needOf 41 = .ok (.istore 10, 2) := by decide +kernel
theorem dX6_needOf_43 : decode cX6_needOf 43 = .ok (.iload 10, 2) := by decide +kernel
theorem dX6_needOf_45 : decode cX6_needOf 45 = .ok (.bipush 13, 2) := by decide +kernel
theorem dX6_needOf_47 : decode cX6_needOf 47 = .ok (.if_icmp .ge 114, 3) := by decide +kernel
theorem dX6_needOf_50 : decode cX6_needOf 50 = .ok (.iconst 0, 1) := by decide +kernel
theorem dX6_needOf_51 : decode cX6_needOf 51 = .ok (.istore 11, 2) := by decide +kernel
theorem dX6_needOf_53 : decode cX6_needOf 53 = .ok (.iload 11, 2) := by decide +kernel
theorem dX6_needOf_55 : decode cX6_needOf 55 = .ok (.bipush 13, 2) := by decide +kernel
theorem dX6_needOf_57 : decode cX6_needOf 57 = .ok (.if_icmp .ge 98, 3) := by decide +kernel
theorem dX6_needOf_60 : decode cX6_needOf 60 = .ok (.iconst 0, 1) := by decide +kernel
theorem dX6_needOf_61 : decode cX6_needOf 61 = .ok (.istore 12, 2) := by decide +kernel
theorem dX6_needOf_63 : decode cX6_needOf 63 = .ok (.iload 12, 2) := by decide +kernel
theorem dX6_needOf_65 : decode cX6_needOf 65 = .ok (.bipush 13, 2) := by decide +kernel
theorem dX6_needOf_67 : decode cX6_needOf 67 = .ok (.if_icmp .ge 82, 3) := by decide +kernel
theorem dX6_needOf_70 : decode cX6_needOf 70 = .ok (.iload_n 3, 1) := by decide +kernel
theorem dX6_needOf_71 : decode cX6_needOf 71 = .ok (.iload 10, 2) := by decide +kernel
theorem dX6_needOf_73 : decode cX6_needOf 73 = .ok (.iload 11, 2) := by decide +kernel
theorem dX6_needOf_75 : decode cX6_needOf 75 = .ok (.iload 12, 2) := by decide +kernel
theorem dX6_needOf_77 : decode cX6_needOf 77 = .ok (.invokestatic 65, 3) := by decide +kernel
theorem dX6_needOf_80 : decode cX6_needOf 80 = .ok (.iload 4, 2) := by decide +kernel
theorem dX6_needOf_82 : decode cX6_needOf 82 = .ok (.if_icmp .gt 58, 3) := by decide +kernel
theorem dX6_needOf_85 : decode cX6_needOf 85 = .ok (.aload_n 0, 1) := by decide +kernel
theorem dX6_needOf_86 : decode cX6_needOf 86 = .ok (.iload 10, 2) := by decide +kernel
theorem dX6_needOf_88 : decode cX6_needOf 88 = .ok (.iload 5, 2) := by decide +kernel
theorem dX6_needOf_90 : decode cX6_needOf 90 = .ok (.invokestatic 72, 3) := by decide +kernel
theorem dX6_needOf_93 : decode cX6_needOf 93 = .ok (.iload 11, 2) := by decide +kernel
theorem dX6_needOf_95 : decode cX6_needOf 95 = .ok (.iload 6, 2) := by decide +kernel
theorem dX6_needOf_97 : decode cX6_needOf 97 = .ok (.invokestatic 72, 3) := by decide +kernel
theorem dX6_needOf_100 : decode cX6_needOf 100 = .ok (.iload 12, 2) := by decide +kernel
theorem dX6_needOf_102 : decode cX6_needOf 102 = .ok (.iload 7, 2) := by decide +kernel
theorem dX6_needOf_104 : decode cX6_needOf 104 = .ok (.invokestatic 72, 3) := by decide +kernel
theorem dX6_needOf_107 : decode cX6_needOf 107 = .ok (.invokevirtual 69, 3) := by decide +kernel
theorem dX6_needOf_110 : decode cX6_needOf 110 = .ok (.istore 13, 2) := by decide +kernel
theorem dX6_needOf_112 : decode cX6_needOf 112 = .ok (.iload 8, 2) := by decide +kernel
theorem dX6_needOf_114 : decode cX6_needOf 114 = .ok (.aload_n 0, 1) := by decide +kernel
theorem dX6_needOf_115 : decode cX6_needOf 115 = .ok (.iload 10, 2) := by decide +kernel
theorem dX6_needOf_117 : decode cX6_needOf 117 = .ok (.iload 11, 2) := by decide +kernel
theorem dX6_needOf_119 : decode cX6_needOf 119 = .ok (.iload 12, 2) := by decide +kernel
theorem dX6_needOf_121 : decode cX6_needOf 121 = .ok (.invokevirtual 69, 3) := by decide +kernel
theorem dX6_needOf_124 : decode cX6_needOf 124 = .ok (.aload_n 0, 1) := by decide +kernel
theorem dX6_needOf_125 : decode cX6_needOf 125 = .ok (.getfield 9, 3) := by decide +kernel
theorem dX6_needOf_128 : decode cX6_needOf 128 = .ok (.iload 9, 2) := by decide +kernel
theorem dX6_needOf_130 : decode cX6_needOf 130 = .ok (.iaload, 1) := by decide +kernel
theorem dX6_needOf_131 : decode cX6_needOf 131 = .ok (.isub, 1) := by decide +kernel
theorem dX6_needOf_132 : decode cX6_needOf 132 = .ok (.iload 13, 2) := by decide +kernel
theorem dX6_needOf_134 : decode cX6_needOf 134 = .ok (.isub, 1) := by decide +kernel
theorem dX6_needOf_135 : decode cX6_needOf 135 = .ok (.invokestatic 72, 3) := by decide +kernel
theorem dX6_needOf_138 : decode cX6_needOf 138 = .ok (.istore 8, 2) := by decide +kernel
theorem dX6_needOf_140 : decode cX6_needOf 140 = .ok (.iinc 9 1, 3) := by decide +kernel
theorem dX6_needOf_143 : decode cX6_needOf 143 = .ok (.iinc 12 1, 3) := by decide +kernel
theorem dX6_needOf_146 : decode cX6_needOf 146 = .ok (.goto (-83), 3) := by decide +kernel
theorem dX6_needOf_149 : decode cX6_needOf 149 = .ok (.iinc 11 1, 3) := by decide +kernel
theorem dX6_needOf_152 : decode cX6_needOf 152 = .ok (.goto (-99), 3) := by decide +kernel
theorem dX6_needOf_155 : decode cX6_needOf 155 = .ok (.iinc 10 1, 3) := by decide +kernel
theorem dX6_needOf_158 : decode cX6_needOf 158 = .ok (.goto (-115), 3) := by decide +kernel
theorem dX6_needOf_161 : decode cX6_needOf 161 = .ok (.iload 8, 2) := by decide +kernel
theorem dX6_needOf_163 : decode cX6_needOf 163 = .ok (.ireturn, 1) := by decide +kernel
theorem dX6_suppliesTo_0 : decode cX6_suppliesTo 0 = .ok (.aload_n 0, 1) := by decide +kernel
theorem dX6_suppliesTo_1 : decode cX6_suppliesTo 1 = .ok (.getfield 15, 3) := by decide +kernel
theorem dX6_suppliesTo_4 : decode cX6_suppliesTo 4 = .ok (.iload_n 1, 1) := by decide +kernel
theorem dX6_suppliesTo_5 : decode cX6_suppliesTo 5 = .ok (.iaload, 1) := by decide +kernel
theorem dX6_suppliesTo_6 : decode cX6_suppliesTo 6 = .ok (.aload_n 0, 1) := by decide +kernel
theorem dX6_suppliesTo_7 : decode cX6_suppliesTo 7 = .ok (.getfield 15, 3) := by decide +kernel
theorem dX6_suppliesTo_10 : decode cX6_suppliesTo 10 = .ok (.bipush 13, 2) := by decide +kernel
theorem dX6_suppliesTo_12 : decode cX6_suppliesTo 12 = .ok (.iload_n 2, 1) := by decide +kernel
theorem dX6_suppliesTo_13 : decode cX6_suppliesTo 13 = .ok (.iadd, 1) := by decide +kernel
theorem dX6_suppliesTo_14 : decode cX6_suppliesTo 14 = .ok (.iaload, 1) := by decide +kernel
theorem dX6_suppliesTo_15 : decode cX6_suppliesTo 15 = .ok (.iadd, 1) := by decide +kernel
theorem dX6_suppliesTo_16 : decode cX6_suppliesTo 16 = .ok (.aload_n 0, 1) := by decide +kernel
theorem dX6_suppliesTo_17 : decode cX6_suppliesTo 17 = .ok (.getfield 15, 3) := by decide +kernel
theorem dX6_suppliesTo_20 : decode cX6_suppliesTo 20 = .ok (.bipush 26, 2) := by decide +kernel
theorem dX6_suppliesTo_22 : decode cX6_suppliesTo 22 = .ok (.iload_n 3, 1) := by decide +kernel
theorem dX6_suppliesTo_23 : decode cX6_suppliesTo 23 = .ok (.iadd, 1) := by decide +kernel
theorem dX6_suppliesTo_24 : decode cX6_suppliesTo 24 = .ok (.iaload, 1) := by decide +kernel
theorem dX6_suppliesTo_25 : decode cX6_suppliesTo 25 = .ok (.iadd, 1) := by decide +kernel
theorem dX6_suppliesTo_26 : decode cX6_suppliesTo 26 = .ok (.ireturn, 1) := by decide +kernel
theorem dX6_numberOf_0 : decode cX6_numberOf 0 = .ok (.iload_n 0, 1) := by decide +kernel
theorem dX6_numberOf_1 : decode cX6_numberOf 1 = .ok (.ifCond .ne 7, 3) := by decide +kernel
theorem dX6_numberOf_4 : decode cX6_numberOf 4 = .ok (.iload_n 1, 1) := by decide +kernel
theorem dX6_numberOf_5 : decode cX6_numberOf 5 = .ok (.goto 13, 3) := by decide +kernel
theorem dX6_numberOf_8 : decode cX6_numberOf 8 = .ok (.iload_n 0, 1) := by decide +kernel
theorem dX6_numberOf_9 : decode cX6_numberOf 9 = .ok (.iconst 1, 1) := by decide +kernel
theorem dX6_numberOf_10 : decode cX6_numberOf 10 = .ok (.if_icmp .ne 7, 3) := by decide +kernel
theorem dX6_numberOf_13 : decode cX6_numberOf 13 = .ok (.iload_n 2, 1) := by decide +kernel
theorem dX6_numberOf_14 : decode cX6_numberOf 14 = .ok (.goto 4, 3) := by decide +kernel
theorem dX6_numberOf_17 : decode cX6_numberOf 17 = .ok (.iload_n 3, 1) := by decide +kernel
theorem dX6_numberOf_18 : decode cX6_numberOf 18 = .ok (.ireturn, 1) := by decide +kernel
set_option maxRecDepth 20000 in
theorem ggX6_corner_X8_startOf : GoodIn wsX6_corner wsX8_startOf := goodIn_r _ [3] (by decide +kernel) (by decide +kernel)
set_option maxRecDepth 20000 in
theorem gX6_corner_X8_startOf_n56 : GoodIn wsX6_corner (wsX8_startOf) := ggX6_corner_X8_startOf
theorem dX6_corner_0 : decode cX6_corner 0 = .ok (.iload_n 0, 1) := by decide +kernel
theorem dX6_corner_1 : decode cX6_corner 1 = .ok (.iconst 0, 1) := by decide +kernel
theorem dX6_corner_2 : decode cX6_corner 2 = .ok (.iload_n 1, 1) := by decide +kernel
theorem dX6_corner_3 : decode cX6_corner 3 = .ok (.invokestatic 56, 3) := by decide +kernel
theorem dX6_corner_6 : decode cX6_corner 6 = .ok (.sipush 169, 3) := by decide +kernel
theorem dX6_corner_9 : decode cX6_corner 9 = .ok (.imul, 1) := by decide +kernel
theorem dX6_corner_10 : decode cX6_corner 10 = .ok (.iload_n 0, 1) := by decide +kernel
theorem dX6_corner_11 : decode cX6_corner 11 = .ok (.iconst 1, 1) := by decide +kernel
theorem dX6_corner_12 : decode cX6_corner 12 = .ok (.iload_n 1, 1) := by decide +kernel
theorem dX6_corner_13 : decode cX6_corner 13 = .ok (.invokestatic 56, 3) := by decide +kernel
theorem dX6_corner_16 : decode cX6_corner 16 = .ok (.bipush 13, 2) := by decide +kernel
theorem dX6_corner_18 : decode cX6_corner 18 = .ok (.imul, 1) := by decide +kernel
theorem dX6_corner_19 : decode cX6_corner 19 = .ok (.iadd, 1) := by decide +kernel
theorem dX6_corner_20 : decode cX6_corner 20 = .ok (.iload_n 0, 1) := by decide +kernel
theorem dX6_corner_21 : decode cX6_corner 21 = .ok (.iconst 2, 1) := by decide +kernel
theorem dX6_corner_22 : decode cX6_corner 22 = .ok (.iload_n 1, 1) := by decide +kernel
theorem dX6_corner_23 : decode cX6_corner 23 = .ok (.invokestatic 56, 3) := by decide +kernel
theorem dX6_corner_26 : decode cX6_corner 26 = .ok (.iadd, 1) := by decide +kernel
theorem dX6_corner_27 : decode cX6_corner 27 = .ok (.ireturn, 1) := by decide +kernel
theorem dX6_sumSupplies_0 : decode cX6_sumSupplies 0 = .ok (.iconst 0, 1) := by decide +kernel
theorem dX6_sumSupplies_1 : decode cX6_sumSupplies 1 = .ok (.istore_n 2, 1) := by decide +kernel
theorem dX6_sumSupplies_2 : decode cX6_sumSupplies 2 = .ok (.iload_n 2, 1) := by decide +kernel
theorem dX6_sumSupplies_3 : decode cX6_sumSupplies 3 = .ok (.iconst 3, 1) := by decide +kernel
theorem dX6_sumSupplies_4 : decode cX6_sumSupplies 4 = .ok (.if_icmp .ge 68, 3) := by decide +kernel
theorem dX6_sumSupplies_7 : decode cX6_sumSupplies 7 = .ok (.iconst 0, 1) := by decide +kernel
theorem dX6_sumSupplies_8 : decode cX6_sumSupplies 8 = .ok (.istore_n 3, 1) := by decide +kernel
theorem dX6_sumSupplies_9 : decode cX6_sumSupplies 9 = .ok (.iconst 0, 1) := by decide +kernel
theorem dX6_sumSupplies_10 : decode cX6_sumSupplies 10 = .ok (.istore 4, 2) := by decide +kernel
theorem dX6_sumSupplies_12 : decode cX6_sumSupplies 12 = .ok (.iload 4, 2) := by decide +kernel
theorem dX6_sumSupplies_14 : decode cX6_sumSupplies 14 = .ok (.bipush 12, 2) := by decide +kernel
theorem dX6_sumSupplies_16 : decode cX6_sumSupplies 16 = .ok (.if_icmp .ge 37, 3) := by decide +kernel
theorem dX6_sumSupplies_19 : decode cX6_sumSupplies 19 = .ok (.aload_n 0, 1) := by decide +kernel
theorem dX6_sumSupplies_20 : decode cX6_sumSupplies 20 = .ok (.getfield 15, 3) := by decide +kernel
theorem dX6_sumSupplies_23 : decode cX6_sumSupplies 23 = .ok (.iload_n 2, 1) := by decide +kernel
theorem dX6_sumSupplies_24 : decode cX6_sumSupplies 24 = .ok (.bipush 13, 2) := by decide +kernel
theorem dX6_sumSupplies_26 : decode cX6_sumSupplies 26 = .ok (.imul, 1) := by decide +kernel
theorem dX6_sumSupplies_27 : decode cX6_sumSupplies 27 = .ok (.iload 4, 2) := by decide +kernel
theorem dX6_sumSupplies_29 : decode cX6_sumSupplies 29 = .ok (.iadd, 1) := by decide +kernel
theorem dX6_sumSupplies_30 : decode cX6_sumSupplies 30 = .ok (.iload_n 3, 1) := by decide +kernel
theorem dX6_sumSupplies_31 : decode cX6_sumSupplies 31 = .ok (.iastore, 1) := by decide +kernel
theorem dX6_sumSupplies_32 : decode cX6_sumSupplies 32 = .ok (.iload_n 3, 1) := by decide +kernel
theorem dX6_sumSupplies_33 : decode cX6_sumSupplies 33 = .ok (.aload_n 1, 1) := by decide +kernel
theorem dX6_sumSupplies_34 : decode cX6_sumSupplies 34 = .ok (.getfield 75, 3) := by decide +kernel
theorem dX6_sumSupplies_37 : decode cX6_sumSupplies 37 = .ok (.iload_n 2, 1) := by decide +kernel
theorem dX6_sumSupplies_38 : decode cX6_sumSupplies 38 = .ok (.bipush 12, 2) := by decide +kernel
theorem dX6_sumSupplies_40 : decode cX6_sumSupplies 40 = .ok (.imul, 1) := by decide +kernel
theorem dX6_sumSupplies_41 : decode cX6_sumSupplies 41 = .ok (.iload 4, 2) := by decide +kernel
theorem dX6_sumSupplies_43 : decode cX6_sumSupplies 43 = .ok (.iadd, 1) := by decide +kernel
theorem dX6_sumSupplies_44 : decode cX6_sumSupplies 44 = .ok (.iaload, 1) := by decide +kernel
theorem dX6_sumSupplies_45 : decode cX6_sumSupplies 45 = .ok (.iadd, 1) := by decide +kernel
theorem dX6_sumSupplies_46 : decode cX6_sumSupplies 46 = .ok (.istore_n 3, 1) := by decide +kernel
theorem dX6_sumSupplies_47 : decode cX6_sumSupplies 47 = .ok (.iinc 4 1, 3) := by decide +kernel
theorem dX6_sumSupplies_50 : decode cX6_sumSupplies 50 = .ok (.goto (-38), 3) := by decide +kernel
theorem dX6_sumSupplies_53 : decode cX6_sumSupplies 53 = .ok (.aload_n 0, 1) := by decide +kernel
theorem dX6_sumSupplies_54 : decode cX6_sumSupplies 54 = .ok (.getfield 15, 3) := by decide +kernel
theorem dX6_sumSupplies_57 : decode cX6_sumSupplies 57 = .ok (.iload_n 2, 1) := by decide +kernel
theorem dX6_sumSupplies_58 : decode cX6_sumSupplies 58 = .ok (.bipush 13, 2) := by decide +kernel
theorem dX6_sumSupplies_60 : decode cX6_sumSupplies 60 = .ok (.imul, 1) := by decide +kernel
theorem dX6_sumSupplies_61 : decode cX6_sumSupplies 61 = .ok (.bipush 12, 2) := by decide +kernel
theorem dX6_sumSupplies_63 : decode cX6_sumSupplies 63 = .ok (.iadd, 1) := by decide +kernel
theorem dX6_sumSupplies_64 : decode cX6_sumSupplies 64 = .ok (.iload_n 3, 1) := by decide +kernel
theorem dX6_sumSupplies_65 : decode cX6_sumSupplies 65 = .ok (.iastore, 1) := by decide +kernel
theorem dX6_sumSupplies_66 : decode cX6_sumSupplies 66 = .ok (.iinc 2 1, 3) := by decide +kernel
theorem dX6_sumSupplies_69 : decode cX6_sumSupplies 69 = .ok (.goto (-67), 3) := by decide +kernel
theorem dX6_sumSupplies_72 : decode cX6_sumSupplies 72 = .ok (.return_, 1) := by decide +kernel
theorem dX6_spread_0 : decode cX6_spread 0 = .ok (.sipush 169, 3) := by decide +kernel
theorem dX6_spread_3 : decode cX6_spread 3 = .ok (.istore_n 1, 1) := by decide +kernel
theorem dX6_spread_4 : decode cX6_spread 4 = .ok (.iload_n 1, 1) := by decide +kernel
theorem dX6_spread_5 : decode cX6_spread 5 = .ok (.sipush 2197, 3) := by decide +kernel
theorem dX6_spread_8 : decode cX6_spread 8 = .ok (.if_icmp .ge 28, 3) := by decide +kernel
theorem dX6_spread_11 : decode cX6_spread 11 = .ok (.aload_n 0, 1) := by decide +kernel
theorem dX6_spread_12 : decode cX6_spread 12 = .ok (.getfield 9, 3) := by decide +kernel
theorem dX6_spread_15 : decode cX6_spread 15 = .ok (.iload_n 1, 1) := by decide +kernel
theorem dX6_spread_16 : decode cX6_spread 16 = .ok (.dup2, 1) := by decide +kernel
theorem dX6_spread_17 : decode cX6_spread 17 = .ok (.iaload, 1) := by decide +kernel
theorem dX6_spread_18 : decode cX6_spread 18 = .ok (.aload_n 0, 1) := by decide +kernel
theorem dX6_spread_19 : decode cX6_spread 19 = .ok (.getfield 9, 3) := by decide +kernel
theorem dX6_spread_22 : decode cX6_spread 22 = .ok (.iload_n 1, 1) := by decide +kernel
theorem dX6_spread_23 : decode cX6_spread 23 = .ok (.sipush 169, 3) := by decide +kernel
theorem dX6_spread_26 : decode cX6_spread 26 = .ok (.isub, 1) := by decide +kernel
theorem dX6_spread_27 : decode cX6_spread 27 = .ok (.iaload, 1) := by decide +kernel
theorem dX6_spread_28 : decode cX6_spread 28 = .ok (.iadd, 1) := by decide +kernel
theorem dX6_spread_29 : decode cX6_spread 29 = .ok (.iastore, 1) := by decide +kernel
theorem dX6_spread_30 : decode cX6_spread 30 = .ok (.iinc 1 1, 3) := by decide +kernel
theorem dX6_spread_33 : decode cX6_spread 33 = .ok (.goto (-29), 3) := by decide +kernel
theorem dX6_spread_36 : decode cX6_spread 36 = .ok (.iconst 0, 1) := by decide +kernel
theorem dX6_spread_37 : decode cX6_spread 37 = .ok (.istore_n 1, 1) := by decide +kernel
theorem dX6_spread_38 : decode cX6_spread 38 = .ok (.iload_n 1, 1) := by decide +kernel
theorem dX6_spread_39 : decode cX6_spread 39 = .ok (.sipush 2197, 3) := by decide +kernel
theorem dX6_spread_42 : decode cX6_spread 42 = .ok (.if_icmp .ge 50, 3) := by decide +kernel
theorem dX6_spread_45 : decode cX6_spread 45 = .ok (.bipush 13, 2) := by decide +kernel
theorem dX6_spread_47 : decode cX6_spread 47 = .ok (.istore_n 2, 1) := by decide +kernel
theorem dX6_spread_48 : decode cX6_spread 48 = .ok (.iload_n 2, 1) := by decide +kernel
theorem dX6_spread_49 : decode cX6_spread 49 = .ok (.sipush 169, 3) := by decide +kernel
theorem dX6_spread_52 : decode cX6_spread 52 = .ok (.if_icmp .ge 31, 3) := by decide +kernel
theorem dX6_spread_55 : decode cX6_spread 55 = .ok (.aload_n 0, 1) := by decide +kernel
theorem dX6_spread_56 : decode cX6_spread 56 = .ok (.getfield 9, 3) := by decide +kernel
theorem dX6_spread_59 : decode cX6_spread 59 = .ok (.iload_n 1, 1) := by decide +kernel
theorem dX6_spread_60 : decode cX6_spread 60 = .ok (.iload_n 2, 1) := by decide +kernel
theorem dX6_spread_61 : decode cX6_spread 61 = .ok (.iadd, 1) := by decide +kernel
theorem dX6_spread_62 : decode cX6_spread 62 = .ok (.dup2, 1) := by decide +kernel
theorem dX6_spread_63 : decode cX6_spread 63 = .ok (.iaload, 1) := by decide +kernel
theorem dX6_spread_64 : decode cX6_spread 64 = .ok (.aload_n 0, 1) := by decide +kernel
theorem dX6_spread_65 : decode cX6_spread 65 = .ok (.getfield 9, 3) := by decide +kernel
theorem dX6_spread_68 : decode cX6_spread 68 = .ok (.iload_n 1, 1) := by decide +kernel
theorem dX6_spread_69 : decode cX6_spread 69 = .ok (.iload_n 2, 1) := by decide +kernel
theorem dX6_spread_70 : decode cX6_spread 70 = .ok (.iadd, 1) := by decide +kernel
theorem dX6_spread_71 : decode cX6_spread 71 = .ok (.bipush 13, 2) := by decide +kernel
theorem dX6_spread_73 : decode cX6_spread 73 = .ok (.isub, 1) := by decide +kernel
theorem dX6_spread_74 : decode cX6_spread 74 = .ok (.iaload, 1) := by decide +kernel
theorem dX6_spread_75 : decode cX6_spread 75 = .ok (.iadd, 1) := by decide +kernel
theorem dX6_spread_76 : decode cX6_spread 76 = .ok (.iastore, 1) := by decide +kernel
theorem dX6_spread_77 : decode cX6_spread 77 = .ok (.iinc 2 1, 3) := by decide +kernel
theorem dX6_spread_80 : decode cX6_spread 80 = .ok (.goto (-32), 3) := by decide +kernel
theorem dX6_spread_83 : decode cX6_spread 83 = .ok (.iinc 1 169, 6) := by decide +kernel
theorem dX6_spread_89 : decode cX6_spread 89 = .ok (.goto (-51), 3) := by decide +kernel
theorem dX6_spread_92 : decode cX6_spread 92 = .ok (.iconst 0, 1) := by decide +kernel
theorem dX6_spread_93 : decode cX6_spread 93 = .ok (.istore_n 1, 1) := by decide +kernel
theorem dX6_spread_94 : decode cX6_spread 94 = .ok (.iload_n 1, 1) := by decide +kernel
theorem dX6_spread_95 : decode cX6_spread 95 = .ok (.sipush 2197, 3) := by decide +kernel
theorem dX6_spread_98 : decode cX6_spread 98 = .ok (.if_icmp .ge 44, 3) := by decide +kernel
theorem dX6_spread_101 : decode cX6_spread 101 = .ok (.iconst 1, 1) := by decide +kernel
theorem dX6_spread_102 : decode cX6_spread 102 = .ok (.istore_n 2, 1) := by decide +kernel
theorem dX6_spread_103 : decode cX6_spread 103 = .ok (.iload_n 2, 1) := by decide +kernel
theorem dX6_spread_104 : decode cX6_spread 104 = .ok (.bipush 13, 2) := by decide +kernel
theorem dX6_spread_106 : decode cX6_spread 106 = .ok (.if_icmp .ge 30, 3) := by decide +kernel
theorem dX6_spread_109 : decode cX6_spread 109 = .ok (.aload_n 0, 1) := by decide +kernel
theorem dX6_spread_110 : decode cX6_spread 110 = .ok (.getfield 9, 3) := by decide +kernel
theorem dX6_spread_113 : decode cX6_spread 113 = .ok (.iload_n 1, 1) := by decide +kernel
theorem dX6_spread_114 : decode cX6_spread 114 = .ok (.iload_n 2, 1) := by decide +kernel
theorem dX6_spread_115 : decode cX6_spread 115 = .ok (.iadd, 1) := by decide +kernel
theorem dX6_spread_116 : decode cX6_spread 116 = .ok (.dup2, 1) := by decide +kernel
theorem dX6_spread_117 : decode cX6_spread 117 = .ok (.iaload, 1) := by decide +kernel
theorem dX6_spread_118 : decode cX6_spread 118 = .ok (.aload_n 0, 1) := by decide +kernel
theorem dX6_spread_119 : decode cX6_spread 119 = .ok (.getfield 9, 3) := by decide +kernel
theorem dX6_spread_122 : decode cX6_spread 122 = .ok (.iload_n 1, 1) := by decide +kernel
theorem dX6_spread_123 : decode cX6_spread 123 = .ok (.iload_n 2, 1) := by decide +kernel
theorem dX6_spread_124 : decode cX6_spread 124 = .ok (.iadd, 1) := by decide +kernel
theorem dX6_spread_125 : decode cX6_spread 125 = .ok (.iconst 1, 1) := by decide +kernel
theorem dX6_spread_126 : decode cX6_spread 126 = .ok (.isub, 1) := by decide +kernel
theorem dX6_spread_127 : decode cX6_spread 127 = .ok (.iaload, 1) := by decide +kernel
theorem dX6_spread_128 : decode cX6_spread 128 = .ok (.iadd, 1) := by decide +kernel
theorem dX6_spread_129 : decode cX6_spread 129 = .ok (.iastore, 1) := by decide +kernel
theorem dX6_spread_130 : decode cX6_spread 130 = .ok (.iinc 2 1, 3) := by decide +kernel
theorem dX6_spread_133 : decode cX6_spread 133 = .ok (.goto (-30), 3) := by decide +kernel
theorem dX6_spread_136 : decode cX6_spread 136 = .ok (.iinc 1 13, 3) := by decide +kernel
theorem dX6_spread_139 : decode cX6_spread 139 = .ok (.goto (-45), 3) := by decide +kernel
theorem dX6_spread_142 : decode cX6_spread 142 = .ok (.return_, 1) := by decide +kernel
theorem dX7_init_0 : decode cX7_init 0 = .ok (.aload_n 0, 1) := by decide +kernel
theorem dX7_init_1 : decode cX7_init 1 = .ok (.invokespecial 3, 3) := by decide +kernel
theorem dX7_init_4 : decode cX7_init 4 = .ok (.aload_n 0, 1) := by decide +kernel
theorem dX7_init_5 : decode cX7_init 5 = .ok (.bipush 100, 2) := by decide +kernel
theorem dX7_init_7 : decode cX7_init 7 = .ok (.newarray .char, 2) := by decide +kernel
theorem dX7_init_9 : decode cX7_init 9 = .ok (.putfield 9, 3) := by decide +kernel
theorem dX7_init_12 : decode cX7_init 12 = .ok (.return_, 1) := by decide +kernel
theorem dX7_isFull_0 : decode cX7_isFull 0 = .ok (.aload_n 0, 1) := by decide +kernel
theorem dX7_isFull_1 : decode cX7_isFull 1 = .ok (.getfield 15, 3) := by decide +kernel
theorem dX7_isFull_4 : decode cX7_isFull 4 = .ok (.bipush 100, 2) := by decide +kernel
theorem dX7_isFull_6 : decode cX7_isFull 6 = .ok (.if_icmp .lt 7, 3) := by decide +kernel
theorem dX7_isFull_9 : decode cX7_isFull 9 = .ok (.iconst 1, 1) := by decide +kernel
theorem dX7_isFull_10 : decode cX7_isFull 10 = .ok (.goto 4, 3) := by decide +kernel
theorem dX7_isFull_13 : decode cX7_isFull 13 = .ok (.iconst 0, 1) := by decide +kernel
theorem dX7_isFull_14 : decode cX7_isFull 14 = .ok (.ireturn, 1) := by decide +kernel
set_option maxRecDepth 20000 in
theorem ggX7_append_X7_isFull : GoodIn wsX7_append wsX7_isFull := goodIn_r _ [7, 2, 8, 9, 10, 11] (by decide +kernel) (by decide +kernel)
set_option maxRecDepth 20000 in
theorem gX7_append_X7_isFull : GoodIn wsX7_append (wsV RX7 19 RX7 yX7_isFull wsX7_isFull) := goodIn_app (goodIn_of _ (by decide +kernel)) ggX7_append_X7_isFull
theorem dX7_append_0 : decode cX7_append 0 = .ok (.aload_n 0, 1) := by decide +kernel
theorem dX7_append_1 : decode cX7_append 1 = .ok (.invokevirtual 19, 3) := by decide +kernel
theorem dX7_append_4 : decode cX7_append 4 = .ok (.ifCond .eq 4, 3) := by decide +kernel
theorem dX7_append_7 : decode cX7_append 7 = .ok (.return_, 1) := by decide +kernel
theorem dX7_append_8 : decode cX7_append 8 = .ok (.aload_n 0, 1) := by decide +kernel
theorem dX7_append_9 : decode cX7_append 9 = .ok (.getfield 9, 3) := by decide +kernel
theorem dX7_append_12 : decode cX7_append 12 = .ok (.aload_n 0, 1) := by decide +kernel
theorem dX7_append_13 : decode cX7_append 13 = .ok (.getfield 15, 3) := by decide +kernel
theorem dX7_append_16 : decode cX7_append 16 = .ok (.iload_n 1, 1) := by decide +kernel
theorem dX7_append_17 : decode cX7_append 17 = .ok (.castore, 1) := by decide +kernel
theorem dX7_append_18 : decode cX7_append 18 = .ok (.aload_n 0, 1) := by decide +kernel
theorem dX7_append_19 : decode cX7_append 19 = .ok (.dup, 1) := by decide +kernel
theorem dX7_append_20 : decode cX7_append 20 = .ok (.getfield 15, 3) := by decide +kernel
theorem dX7_append_23 : decode cX7_append 23 = .ok (.iconst 1, 1) := by decide +kernel
theorem dX7_append_24 : decode cX7_append 24 = .ok (.iadd, 1) := by decide +kernel
theorem dX7_append_25 : decode cX7_append 25 = .ok (.putfield 15, 3) := by decide +kernel
theorem dX7_append_28 : decode cX7_append 28 = .ok (.return_, 1) := by decide +kernel
theorem dX7_clear_0 : decode cX7_clear 0 = .ok (.aload_n 0, 1) := by decide +kernel
theorem dX7_clear_1 : decode cX7_clear 1 = .ok (.iconst 0, 1) := by decide +kernel
theorem dX7_clear_2 : decode cX7_clear 2 = .ok (.putfield 15, 3) := by decide +kernel
theorem dX7_clear_5 : decode cX7_clear 5 = .ok (.return_, 1) := by decide +kernel
set_option maxRecDepth 20000 in
theorem ggX7_readInto_X7_readLine : GoodIn wsX7_readInto wsX7_readLine := goodIn_r _ [8, 2, 1, 9, 10, 11, 7, 12, 13, 14, 15, 16, 3, 17, 18, 19, 20, 21, 22, 23, 24, 25, 26, 27, 28, 29, 30, 31, 32, 37, 38, 39, 40, 41, 42, 33, 34, 35, 36] (by decide +kernel) (by decide +kernel)
set_option maxRecDepth 20000 in
theorem gX7_readInto_X7_readLine : GoodIn wsX7_readInto (wsV RX7 32 RX7 yX7_readLine wsX7_readLine) := goodIn_app (goodIn_of _ (by decide +kernel)) ggX7_readInto_X7_readLine
set_option maxRecDepth 20000 in
theorem ggX7_readInto_X7_skip : GoodIn wsX7_readInto wsX7_skip := goodIn_r _ [28, 1, 13, 14, 15, 7, 16, 3, 17, 33, 34, 35, 36] (by decide +kernel) (by decide +kernel)
set_option maxRecDepth 20000 in
theorem gX7_readInto_X7_skip : GoodIn wsX7_readInto (wsV RX7 36 RX7 yX7_skip wsX7_skip) := goodIn_app (goodIn_of _ (by decide +kernel)) ggX7_readInto_X7_skip
theorem dX7_readInto_0 : decode cX7_readInto 0 = .ok (.aload_n 0, 1) := by decide +kernel
theorem dX7_readInto_1 : decode cX7_readInto 1 = .ok (.iconst 0, 1) := by decide +kernel
theorem dX7_readInto_2 : decode cX7_readInto 2 = .ok (.putfield 23, 3) := by decide +kernel
theorem dX7_readInto_5 : decode cX7_readInto 5 = .ok (.aload_n 0, 1) := by decide +kernel
theorem dX7_readInto_6 : decode cX7_readInto 6 = .ok (.iconst (-1), 1) := by decide +kernel
theorem dX7_readInto_7 : decode cX7_readInto 7 = .ok (.putfield 26, 3) := by decide +kernel
theorem dX7_readInto_10 : decode cX7_readInto 10 = .ok (.aload_n 1, 1) := by decide +kernel
theorem dX7_readInto_11 : decode cX7_readInto 11 = .ok (.getfield 29, 3) := by decide +kernel
theorem dX7_readInto_14 : decode cX7_readInto 14 = .ok (.istore_n 2, 1) := by decide +kernel
theorem dX7_readInto_15 : decode cX7_readInto 15 = .ok (.iload_n 2, 1) := by decide +kernel
theorem dX7_readInto_16 : decode cX7_readInto 16 = .ok (.bipush 24, 2) := by decide +kernel
theorem dX7_readInto_18 : decode cX7_readInto 18 = .ok (.if_icmp .ge 61, 3) := by decide +kernel
theorem dX7_readInto_21 : decode cX7_readInto 21 = .ok (.aload_n 0, 1) := by decide +kernel
theorem dX7_readInto_22 : decode cX7_readInto 22 = .ok (.aload_n 1, 1) := by decide +kernel
theorem dX7_readInto_23 : decode cX7_readInto 23 = .ok (.iload_n 2, 1) := by decide +kernel
theorem dX7_readInto_24 : decode cX7_readInto 24 = .ok (.invokevirtual 32, 3) := by decide +kernel
theorem dX7_readInto_27 : decode cX7_readInto 27 = .ok (.aload_n 0, 1) := by decide +kernel
theorem dX7_readInto_28 : decode cX7_readInto 28 = .ok (.getfield 26, 3) := by decide +kernel
theorem dX7_readInto_31 : decode cX7_readInto 31 = .ok (.ifCond .lt 8, 3) := by decide +kernel
theorem dX7_readInto_34 : decode cX7_readInto 34 = .ok (.aload_n 0, 1) := by decide +kernel
theorem dX7_readInto_35 : decode cX7_readInto 35 = .ok (.getfield 26, 3) := by decide +kernel
theorem dX7_readInto_38 : decode cX7_readInto 38 = .ok (.ireturn, 1) := by decide +kernel
theorem dX7_readInto_39 : decode cX7_readInto 39 = .ok (.aload_n 0, 1) := by decide +kernel
theorem dX7_readInto_40 : decode cX7_readInto 40 = .ok (.getfield 23, 3) := by decide +kernel
theorem dX7_readInto_43 : decode cX7_readInto 43 = .ok (.aload_n 0, 1) := by decide +kernel
theorem dX7_readInto_44 : decode cX7_readInto 44 = .ok (.getfield 15, 3) := by decide +kernel
theorem dX7_readInto_47 : decode cX7_readInto 47 = .ok (.if_icmp .lt 12, 3) := by decide +kernel
theorem dX7_readInto_50 : decode cX7_readInto 50 = .ok (.aload_n 1, 1) := by decide +kernel
theorem dX7_readInto_51 : decode cX7_readInto 51 = .ok (.iload_n 2, 1) := by decide +kernel
theorem dX7_readInto_52 : decode cX7_readInto 52 = .ok (.iconst 1, 1) := by decide +kernel
theorem dX7_readInto_53 : decode cX7_readInto 53 = .ok (.iadd, 1) := by decide +kernel
theorem dX7_readInto_54 : decode cX7_readInto 54 = .ok (.putfield 29, 3) := by decide +kernel
theorem dX7_readInto_57 : decode cX7_readInto 57 = .ok (.iconst (-1), 1) := by decide +kernel
theorem dX7_readInto_58 : decode cX7_readInto 58 = .ok (.ireturn, 1) := by decide +kernel
theorem dX7_readInto_59 : decode cX7_readInto 59 = .ok (.aload_n 0, 1) := by decide +kernel
theorem dX7_readInto_60 : decode cX7_readInto 60 = .ok (.bipush 59, 2) := by decide +kernel
theorem dX7_readInto_62 : decode cX7_readInto 62 = .ok (.invokevirtual 36, 3) := by decide +kernel
theorem dX7_readInto_65 : decode cX7_readInto 65 = .ok (.ifCond .ne 8, 3) := by decide +kernel
theorem dX7_readInto_68 : decode cX7_readInto 68 = .ok (.aload_n 0, 1) := by decide +kernel
theorem dX7_readInto_69 : decode cX7_readInto 69 = .ok (.getfield 23, 3) := by decide +kernel
theorem dX7_readInto_72 : decode cX7_readInto 72 = .ok (.ireturn, 1) := by decide +kernel
theorem dX7_readInto_73 : decode cX7_readInto 73 = .ok (.iinc 2 1, 3) := by decide +kernel
theorem dX7_readInto_76 : decode cX7_readInto 76 = .ok (.goto (-61), 3) := by decide +kernel
theorem dX7_readInto_79 : decode cX7_readInto 79 = .ok (.aload_n 0, 1) := by decide +kernel
theorem dX7_readInto_80 : decode cX7_readInto 80 = .ok (.getfield 23, 3) := by decide +kernel
theorem dX7_readInto_83 : decode cX7_readInto 83 = .ok (.ireturn, 1) := by decide +kernel
set_option maxRecDepth 20000 in
theorem ggX7_readLine_X7_readNumber : GoodIn wsX7_readLine wsX7_readNumber := goodIn_r _ [7, 2, 1, 8, 9, 10, 6, 11, 12, 13, 14, 15, 16, 35, 36, 37, 38] (by decide +kernel) (by decide +kernel)
set_option maxRecDepth 20000 in
theorem gX7_readLine_X7_readNumber : GoodIn wsX7_readLine (wsV RX7 44 RX7 yX7_readNumber wsX7_readNumber) := goodIn_app (goodIn_of _ (by decide +kernel)) ggX7_readLine_X7_readNumber
set_option maxRecDepth 20000 in
theorem ggX7_readLine_X7_readItems : GoodIn wsX7_readLine wsX7_readItems := goodIn_r _ [20, 2, 12, 1, 8, 9, 10, 6, 11, 13, 35, 36, 37, 38] (by decide +kernel) (by decide +kernel)
set_option maxRecDepth 20000 in
theorem gX7_readLine_X7_readItems : GoodIn wsX7_readLine (wsV RX7 51 RX7 yX7_readItems wsX7_readItems) := goodIn_app (goodIn_of _ (by decide +kernel)) ggX7_readLine_X7_readItems
set_option maxRecDepth 20000 in
theorem ggX7_readLine_X7_skip : GoodIn wsX7_readLine wsX7_skip := goodIn_r _ [24, 2, 8, 9, 10, 6, 11, 12, 13, 35, 36, 37, 38] (by decide +kernel) (by decide +kernel)
set_option maxRecDepth 20000 in
theorem gX7_readLine_X7_skip : GoodIn wsX7_readLine (wsV RX7 36 RX7 yX7_skip wsX7_skip) := goodIn_app (goodIn_of _ (by decide +kernel)) ggX7_readLine_X7_skip
set_option maxRecDepth 20000 in
theorem ggX7_readLine_X7_readMarked : GoodIn wsX7_readLine wsX7_readMarked := goodIn_r _ [28, 2, 1, 21, 22, 23, 6, 24, 8, 9, 10, 11, 12, 13, 14, 15, 16, 35, 36, 37, 38] (by decide +kernel) (by decide +kernel)
set_option maxRecDepth 20000 in
theorem gX7_readLine_X7_readMarked : GoodIn wsX7_readLine (wsV RX7 61 RX7 yX7_readMarked wsX7_readMarked) := goodIn_app (goodIn_of _ (by decide +kernel)) ggX7_readLine_X7_readMarked
theorem dX7_readLine_0 : decode cX7_readLine 0 = .ok (.aload_n 1, 1) := by decide +kernel
theorem dX7_readLine_1 : decode cX7_readLine 1 = .ok (.getfield 40, 3) := by decide +kernel
theorem dX7_readLine_4 : decode cX7_readLine 4 = .ok (.iload_n 2, 1) := by decide +kernel
theorem dX7_readLine_5 : decode cX7_readLine 5 = .ok (.aload_n 0, 1) := by decide +kernel
theorem dX7_readLine_6 : decode cX7_readLine 6 = .ok (.iconst 1, 1) := by decide +kernel
theorem dX7_readLine_7 : decode cX7_readLine 7 = .ok (.bipush 60, 2) := by decide +kernel
theorem dX7_readLine_9 : decode cX7_readLine 9 = .ok (.invokevirtual 44, 3) := by decide +kernel
theorem dX7_readLine_12 : decode cX7_readLine 12 = .ok (.iastore, 1) := by decide +kernel
theorem dX7_readLine_13 : decode cX7_readLine 13 = .ok (.aload_n 0, 1) := by decide +kernel
theorem dX7_readLine_14 : decode cX7_readLine 14 = .ok (.getfield 26, 3) := by decide +kernel
theorem dX7_readLine_17 : decode cX7_readLine 17 = .ok (.ifCond .ge 13, 3) := by decide +kernel
theorem dX7_readLine_20 : decode cX7_readLine 20 = .ok (.aload_n 1, 1) := by decide +kernel
theorem dX7_readLine_21 : decode cX7_readLine 21 = .ok (.getfield 48, 3) := by decide +kernel
theorem dX7_readLine_24 : decode cX7_readLine 24 = .ok (.iload_n 2, 1) := by decide +kernel
theorem dX7_readLine_25 : decode cX7_readLine 25 = .ok (.aload_n 0, 1) := by decide +kernel
theorem dX7_readLine_26 : decode cX7_readLine 26 = .ok (.invokevirtual 51, 3) := by decide +kernel
theorem dX7_readLine_29 : decode cX7_readLine 29 = .ok (.iastore, 1) := by decide +kernel
theorem dX7_readLine_30 : decode cX7_readLine 30 = .ok (.aload_n 0, 1) := by decide +kernel
theorem dX7_readLine_31 : decode cX7_readLine 31 = .ok (.getfield 26, 3) := by decide +kernel
theorem dX7_readLine_34 : decode cX7_readLine 34 = .ok (.ifCond .ge 20, 3) := by decide +kernel
theorem dX7_readLine_37 : decode cX7_readLine 37 = .ok (.aload_n 0, 1) := by decide +kernel
theorem dX7_readLine_38 : decode cX7_readLine 38 = .ok (.bipush 64, 2) := by decide +kernel
theorem dX7_readLine_40 : decode cX7_readLine 40 = .ok (.invokevirtual 36, 3) := by decide +kernel
theorem dX7_readLine_43 : decode cX7_readLine 43 = .ok (.ifCond .ne 11, 3) := by decide +kernel
theorem dX7_readLine_46 : decode cX7_readLine 46 = .ok (.aload_n 0, 1) := by decide +kernel
theorem dX7_readLine_47 : decode cX7_readLine 47 = .ok (.aload_n 0, 1) := by decide +kernel
theorem dX7_readLine_48 : decode cX7_readLine 48 = .ok (.getfield 23, 3) := by decide +kernel
theorem dX7_readLine_51 : decode cX7_readLine 51 = .ok (.putfield 26, 3) := by decide +kernel
theorem dX7_readLine_54 : decode cX7_readLine 54 = .ok (.aload_n 0, 1) := by decide +kernel
theorem dX7_readLine_55 : decode cX7_readLine 55 = .ok (.getfield 26, 3) := by decide +kernel
theorem dX7_readLine_58 : decode cX7_readLine 58 = .ok (.ifCond .ge 16, 3) := by decide +kernel
theorem dX7_readLine_61 : decode cX7_readLine 61 = .ok (.aload_n 1, 1) := by decide +kernel
theorem dX7_readLine_62 : decode cX7_readLine 62 = .ok (.getfield 55, 3) := by decide +kernel
theorem dX7_readLine_65 : decode cX7_readLine 65 = .ok (.iload_n 2, 1) := by decide +kernel
theorem dX7_readLine_66 : decode cX7_readLine 66 = .ok (.aload_n 0, 1) := by decide +kernel
theorem dX7_readLine_67 : decode cX7_readLine 67 = .ok (.iconst 0, 1) := by decide +kernel
theorem dX7_readLine_68 : decode cX7_readLine 68 = .ok (.bipush 11, 2) := by decide +kernel
theorem dX7_readLine_70 : decode cX7_readLine 70 = .ok (.invokevirtual 44, 3) := by decide +kernel
theorem dX7_readLine_73 : decode cX7_readLine 73 = .ok (.iastore, 1) := by decide +kernel
theorem dX7_readLine_74 : decode cX7_readLine 74 = .ok (.aload_n 0, 1) := by decide +kernel
theorem dX7_readLine_75 : decode cX7_readLine 75 = .ok (.getfield 26, 3) := by decide +kernel
theorem dX7_readLine_78 : decode cX7_readLine 78 = .ok (.ifCond .ge 16, 3) := by decide +kernel
theorem dX7_readLine_81 : decode cX7_readLine 81 = .ok (.aload_n 1, 1) := by decide +kernel
theorem dX7_readLine_82 : decode cX7_readLine 82 = .ok (.getfield 58, 3) := by decide +kernel
theorem dX7_readLine_85 : decode cX7_readLine 85 = .ok (.iload_n 2, 1) := by decide +kernel
theorem dX7_readLine_86 : decode cX7_readLine 86 = .ok (.aload_n 0, 1) := by decide +kernel
theorem dX7_readLine_87 : decode cX7_readLine 87 = .ok (.bipush 103, 2) := by decide +kernel
theorem dX7_readLine_89 : decode cX7_readLine 89 = .ok (.iconst 3, 1) := by decide +kernel
theorem dX7_readLine_90 : decode cX7_readLine 90 = .ok (.invokevirtual 61, 3) := by decide +kernel
theorem dX7_readLine_93 : decode cX7_readLine 93 = .ok (.iastore, 1) := by decide +kernel
theorem dX7_readLine_94 : decode cX7_readLine 94 = .ok (.aload_n 0, 1) := by decide +kernel
theorem dX7_readLine_95 : decode cX7_readLine 95 = .ok (.getfield 26, 3) := by decide +kernel
theorem dX7_readLine_98 : decode cX7_readLine 98 = .ok (.ifCond .ge 17, 3) := by decide +kernel
theorem dX7_readLine_101 : decode cX7_readLine 101 = .ok (.aload_n 1, 1) := by decide +kernel
theorem dX7_readLine_102 : decode cX7_readLine 102 = .ok (.getfield 65, 3) := by decide +kernel
theorem dX7_readLine_105 : decode cX7_readLine 105 = .ok (.iload_n 2, 1) := by decide +kernel
theorem dX7_readLine_106 : decode cX7_readLine 106 = .ok (.aload_n 0, 1) := by decide +kernel
theorem dX7_readLine_107 : decode cX7_readLine 107 = .ok (.bipush 114, 2) := by decide +kernel
theorem dX7_readLine_109 : decode cX7_readLine 109 = .ok (.bipush 9, 2) := by decide +kernel
theorem dX7_readLine_111 : decode cX7_readLine 111 = .ok (.invokevirtual 61, 3) := by decide +kernel
theorem dX7_readLine_114 : decode cX7_readLine 114 = .ok (.iastore, 1) := by decide +kernel
theorem dX7_readLine_115 : decode cX7_readLine 115 = .ok (.return_, 1) := by decide +kernel
set_option maxRecDepth 20000 in
theorem ggX7_readNumber_X7_sign : GoodIn wsX7_readNumber wsX7_sign := goodIn_r _ [7, 1, 8, 9, 13, 14, 15, 16] (by decide +kernel) (by decide +kernel)
set_option maxRecDepth 20000 in
theorem gX7_readNumber_X7_sign : GoodIn wsX7_readNumber (wsV RX7 68 RX7 yX7_sign wsX7_sign) := goodIn_app (goodIn_of _ (by decide +kernel)) ggX7_readNumber_X7_sign
set_option maxRecDepth 20000 in
theorem ggX7_readNumber_X7_isFigure : GoodIn wsX7_readNumber wsX7_isFigure := goodIn_r _ [12] (by decide +kernel) (by decide +kernel)
set_option maxRecDepth 20000 in
theorem gX7_readNumber_X7_isFigure : GoodIn wsX7_readNumber (va_wsS RX7 72 yX7_isFigure wsX7_isFigure) := goodIn_app (goodIn_of _ (by decide +kernel)) ggX7_readNumber_X7_isFigure
theorem dX7_readNumber_0 : decode cX7_readNumber 0 = .ok (.aload_n 0, 1) := by decide +kernel
theorem dX7_readNumber_1 : decode cX7_readNumber 1 = .ok (.getfield 23, 3) := by decide +kernel
theorem dX7_readNumber_4 : decode cX7_readNumber 4 = .ok (.istore_n 3, 1) := by decide +kernel
theorem dX7_readNumber_5 : decode cX7_readNumber 5 = .ok (.iconst 0, 1) := by decide +kernel
theorem dX7_readNumber_6 : decode cX7_readNumber 6 = .ok (.istore 4, 2) := by decide +kernel
theorem dX7_readNumber_8 : decode cX7_readNumber 8 = .ok (.aload_n 0, 1) := by decide +kernel
theorem dX7_readNumber_9 : decode cX7_readNumber 9 = .ok (.getfield 23, 3) := by decide +kernel
theorem dX7_readNumber_12 : decode cX7_readNumber 12 = .ok (.iload_n 3, 1) := by decide +kernel
theorem dX7_readNumber_13 : decode cX7_readNumber 13 = .ok (.iconst 2, 1) := by decide +kernel
theorem dX7_readNumber_14 : decode cX7_readNumber 14 = .ok (.iadd, 1) := by decide +kernel
theorem dX7_readNumber_15 : decode cX7_readNumber 15 = .ok (.if_icmp .ge 41, 3) := by decide +kernel
theorem dX7_readNumber_18 : decode cX7_readNumber 18 = .ok (.aload_n 0, 1) := by decide +kernel
theorem dX7_readNumber_19 : decode cX7_readNumber 19 = .ok (.invokevirtual 68, 3) := by decide +kernel
theorem dX7_readNumber_22 : decode cX7_readNumber 22 = .ok (.invokestatic 72, 3) := by decide +kernel
theorem dX7_readNumber_25 : decode cX7_readNumber 25 = .ok (.ifCond .eq 31, 3) := by decide +kernel
theorem dX7_readNumber_28 : decode cX7_readNumber 28 = .ok (.iload 4, 2) := by decide +kernel
theorem dX7_readNumber_30 : decode cX7_readNumber 30 = .ok (.bipush 10, 2) := by decide +kernel
theorem dX7_readNumber_32 : decode cX7_readNumber 32 = .ok (.imul, 1) := by decide +kernel
theorem dX7_readNumber_33 : decode cX7_readNumber 33 = .ok (.aload_n 0, 1) := by decide +kernel
theorem dX7_readNumber_34 : decode cX7_readNumber 34 = .ok (.invokevirtual 68, 3) := by decide +kernel
theorem dX7_readNumber_37 : decode cX7_readNumber 37 = .ok (.iadd, 1) := by decide +kernel
theorem dX7_readNumber_38 : decode cX7_readNumber 38 = .ok (.bipush 48, 2) := by decide +kernel
theorem dX7_readNumber_40 : decode cX7_readNumber 40 = .ok (.isub, 1) := by decide +kernel
theorem dX7_readNumber_41 : decode cX7_readNumber 41 = .ok (.istore 4, 2) := by decide +kernel
theorem dX7_readNumber_43 : decode cX7_readNumber 43 = .ok (.aload_n 0, 1) := by decide +kernel
theorem dX7_readNumber_44 : decode cX7_readNumber 44 = .ok (.dup, 1) := by decide +kernel
theorem dX7_readNumber_45 : decode cX7_readNumber 45 = .ok (.getfield 23, 3) := by decide +kernel
theorem dX7_readNumber_48 : decode cX7_readNumber 48 = .ok (.iconst 1, 1) := by decide +kernel
theorem dX7_readNumber_49 : decode cX7_readNumber 49 = .ok (.iadd, 1) := by decide +kernel
theorem dX7_readNumber_50 : decode cX7_readNumber 50 = .ok (.putfield 23, 3) := by decide +kernel
theorem dX7_readNumber_53 : decode cX7_readNumber 53 = .ok (.goto (-45), 3) := by decide +kernel
theorem dX7_readNumber_56 : decode cX7_readNumber 56 = .ok (.aload_n 0, 1) := by decide +kernel
theorem dX7_readNumber_57 : decode cX7_readNumber 57 = .ok (.getfield 23, 3) := by decide +kernel
theorem dX7_readNumber_60 : decode cX7_readNumber 60 = .ok (.iload_n 3, 1) := by decide +kernel
theorem dX7_readNumber_61 : decode cX7_readNumber 61 = .ok (.if_icmp .eq 15, 3) := by decide +kernel
theorem dX7_readNumber_64 : decode cX7_readNumber 64 = .ok (.iload 4, 2) := by decide +kernel
theorem dX7_readNumber_66 : decode cX7_readNumber 66 = .ok (.iload_n 1, 1) := by decide +kernel
theorem dX7_readNumber_67 : decode cX7_readNumber 67 = .ok (.if_icmp .lt 9, 3) := by decide +kernel
theorem dX7_readNumber_70 : decode cX7_readNumber 70 = .ok (.iload 4, 2) := by decide +kernel
theorem dX7_readNumber_72 : decode cX7_readNumber 72 = .ok (.iload_n 2, 1) := by decide +kernel
theorem dX7_readNumber_73 : decode cX7_readNumber 73 = .ok (.if_icmp .le 8, 3) := by decide +kernel
theorem dX7_readNumber_76 : decode cX7_readNumber 76 = .ok (.aload_n 0, 1) := by decide +kernel
theorem dX7_readNumber_77 : decode cX7_readNumber 77 = .ok (.iload_n 3, 1) := by decide +kernel
theorem dX7_readNumber_78 : decode cX7_readNumber 78 = .ok (.putfield 26, 3) := by decide +kernel
theorem dX7_readNumber_81 : decode cX7_readNumber 81 = .ok (.iload 4, 2) := by decide +kernel
theorem dX7_readNumber_83 : decode cX7_readNumber 83 = .ok (.ireturn, 1) := by decide +kernel
set_option maxRecDepth 20000 in
theorem ggX7_readItems_X7_sign : GoodIn wsX7_readItems wsX7_sign := goodIn_r _ [8, 1, 2, 9, 10, 11, 12, 13] (by decide +kernel) (by decide +kernel)
set_option maxRecDepth 20000 in
theorem gX7_readItems_X7_sign : GoodIn wsX7_readItems (wsV RX7 68 RX7 yX7_sign wsX7_sign) := goodIn_app (goodIn_of _ (by decide +kernel)) ggX7_readItems_X7_sign
theorem dX7_readItems_0 : decode cX7_readItems 0 = .ok (.iconst 0, 1) := by decide +kernel
theorem dX7_readItems_1 : decode cX7_readItems 1 = .ok (.istore_n 1, 1) := by decide +kernel
theorem dX7_readItems_2 : decode cX7_readItems 2 = .ok (.aload_n 0, 1) := by decide +kernel
theorem dX7_readItems_3 : decode cX7_readItems 3 = .ok (.getfield 23, 3) := by decide +kernel
theorem dX7_readItems_6 : decode cX7_readItems 6 = .ok (.aload_n 0, 1) := by decide +kernel
theorem dX7_readItems_7 : decode cX7_readItems 7 = .ok (.getfield 15, 3) := by decide +kernel
theorem dX7_readItems_10 : decode cX7_readItems 10 = .ok (.if_icmp .ge 64, 3) := by decide +kernel
theorem dX7_readItems_13 : decode cX7_readItems 13 = .ok (.aload_n 0, 1) := by decide +kernel
theorem dX7_readItems_14 : decode cX7_readItems 14 = .ok (.invokevirtual 68, 3) := by decide +kernel
theorem dX7_readItems_17 : decode cX7_readItems 17 = .ok (.bipush 97, 2) := by decide +kernel
theorem dX7_readItems_19 : decode cX7_readItems 19 = .ok (.if_icmp .lt 55, 3) := by decide +kernel
theorem dX7_readItems_22 : decode cX7_readItems 22 = .ok (.aload_n 0, 1) := by decide +kernel
theorem dX7_readItems_23 : decode cX7_readItems 23 = .ok (.invokevirtual 68, 3) := by decide +kernel
theorem dX7_readItems_26 : decode cX7_readItems 26 = .ok (.bipush 100, 2) := by decide +kernel
theorem dX7_readItems_28 : decode cX7_readItems 28 = .ok (.if_icmp .ge 46, 3) := by decide +kernel
theorem dX7_readItems_31 : decode cX7_readItems 31 = .ok (.iconst 1, 1) := by decide +kernel
theorem dX7_readItems_32 : decode cX7_readItems 32 = .ok (.aload_n 0, 1) := by decide +kernel
theorem dX7_readItems_33 : decode cX7_readItems 33 = .ok (.invokevirtual 68, 3) := by decide +kernel
theorem dX7_readItems_36 : decode cX7_readItems 36 = .ok (.bipush 97, 2) := by decide +kernel
theorem dX7_readItems_38 : decode cX7_readItems 38 = .ok (.isub, 1) := by decide +kernel
theorem dX7_readItems_39 : decode cX7_readItems 39 = .ok (.ishl, 1) := by decide +kernel
theorem dX7_readItems_40 : decode cX7_readItems 40 = .ok (.istore_n 2, 1) := by decide +kernel
theorem dX7_readItems_41 : decode cX7_readItems 41 = .ok (.iload_n 1, 1) := by decide +kernel
theorem dX7_readItems_42 : decode cX7_readItems 42 = .ok (.iload_n 2, 1) := by decide +kernel
theorem dX7_readItems_43 : decode cX7_readItems 43 = .ok (.iand, 1) := by decide +kernel
theorem dX7_readItems_44 : decode cX7_readItems 44 = .ok (.ifCond .eq 13, 3) := by decide +kernel
theorem dX7_readItems_47 : decode cX7_readItems 47 = .ok (.aload_n 0, 1) := by decide +kernel
theorem dX7_readItems_48 : decode cX7_readItems 48 = .ok (.aload_n 0, 1) := by decide +kernel
theorem dX7_readItems_49 : decode cX7_readItems 49 = .ok (.getfield 23, 3) := by decide +kernel
theorem dX7_readItems_52 : decode cX7_readItems 52 = .ok (.putfield 26, 3) := by decide +kernel
theorem dX7_readItems_55 : decode cX7_readItems 55 = .ok (.iload_n 1, 1) := by decide +kernel
theorem dX7_readItems_56 : decode cX7_readItems 56 = .ok (.ireturn, 1) := by decide +kernel
theorem dX7_readItems_57 : decode cX7_readItems 57 = .ok (.iload_n 1, 1) := by decide +kernel
theorem dX7_readItems_58 : decode cX7_readItems 58 = .ok (.iload_n 2, 1) := by decide +kernel
theorem dX7_readItems_59 : decode cX7_readItems 59 = .ok (.ior, 1) := by decide +kernel
theorem dX7_readItems_60 : decode cX7_readItems 60 = .ok (.istore_n 1, 1) := by decide +kernel
theorem dX7_readItems_61 : decode cX7_readItems 61 = .ok (.aload_n 0, 1) := by decide +kernel
theorem dX7_readItems_62 : decode cX7_readItems 62 = .ok (.dup, 1) := by decide +kernel
theorem dX7_readItems_63 : decode cX7_readItems 63 = .ok (.getfield 23, 3) := by decide +kernel
theorem dX7_readItems_66 : decode cX7_readItems 66 = .ok (.iconst 1, 1) := by decide +kernel
theorem dX7_readItems_67 : decode cX7_readItems 67 = .ok (.iadd, 1) := by decide +kernel
theorem dX7_readItems_68 : decode cX7_readItems 68 = .ok (.putfield 23, 3) := by decide +kernel
theorem dX7_readItems_71 : decode cX7_readItems 71 = .ok (.goto (-69), 3) := by decide +kernel
theorem dX7_readItems_74 : decode cX7_readItems 74 = .ok (.iload_n 1, 1) := by decide +kernel
theorem dX7_readItems_75 : decode cX7_readItems 75 = .ok (.ifCond .ne 11, 3) := by decide +kernel
theorem dX7_readItems_78 : decode cX7_readItems 78 = .ok (.aload_n 0, 1) := by decide +kernel
theorem dX7_readItems_79 : decode cX7_readItems 79 = .ok (.aload_n 0, 1) := by decide +kernel
theorem dX7_readItems_80 : decode cX7_readItems 80 = .ok (.getfield 23, 3) := by decide +kernel
theorem dX7_readItems_83 : decode cX7_readItems 83 = .ok (.putfield 26, 3) := by decide +kernel
theorem dX7_readItems_86 : decode cX7_readItems 86 = .ok (.iload_n 1, 1) := by decide +kernel
theorem dX7_readItems_87 : decode cX7_readItems 87 = .ok (.ireturn, 1) := by decide +kernel
set_option maxRecDepth 20000 in
theorem ggX7_readMarked_X7_skip : GoodIn wsX7_readMarked wsX7_skip := goodIn_r _ [7, 1, 8, 9, 10, 6, 11, 12, 13, 17, 18, 19, 20] (by decide +kernel) (by decide +kernel)
set_option maxRecDepth 20000 in
theorem gX7_readMarked_X7_skip : GoodIn wsX7_readMarked (wsV RX7 36 RX7 yX7_skip wsX7_skip) := goodIn_app (goodIn_of _ (by decide +kernel)) ggX7_readMarked_X7_skip
set_option maxRecDepth 20000 in
theorem ggX7_readMarked_X7_sign : GoodIn wsX7_readMarked wsX7_sign := goodIn_r _ [11, 1, 12, 13, 17, 18, 19, 20] (by decide +kernel) (by decide +kernel)
set_option maxRecDepth 20000 in
theorem gX7_readMarked_X7_sign : GoodIn wsX7_readMarked (wsV RX7 68 RX7 yX7_sign wsX7_sign) := goodIn_app (goodIn_of _ (by decide +kernel)) ggX7_readMarked_X7_sign
set_option maxRecDepth 20000 in
theorem ggX7_readMarked_X7_isFigure : GoodIn wsX7_readMarked wsX7_isFigure := goodIn_r _ [16] (by decide +kernel) (by decide +kernel)
set_option maxRecDepth 20000 in
theorem gX7_readMarked_X7_isFigure : GoodIn wsX7_readMarked (va_wsS RX7 72 yX7_isFigure wsX7_isFigure) := goodIn_app (goodIn_of _ (by decide +kernel)) ggX7_readMarked_X7_isFigure
theorem dX7_readMarked_0 : decode cX7_readMarked 0 = .ok (.aload_n 0, 1) := by decide +kernel
theorem dX7_readMarked_1 : decode cX7_readMarked 1 = .ok (.iload_n 1, 1) := by decide +kernel
theorem dX7_readMarked_2 : decode cX7_readMarked 2 = .ok (.invokevirtual 36, 3) := by decide +kernel
theorem dX7_readMarked_5 : decode cX7_readMarked 5 = .ok (.ifCond .ne 5, 3) := by decide +kernel
theorem dX7_readMarked_8 : decode cX7_readMarked 8 = .ok (.iconst 0, 1) := by decide +kernel
theorem dX7_readMarked_9 : decode cX7_readMarked 9 = .ok (.ireturn, 1) := by decide +kernel
theorem dX7_readMarked_10 : decode cX7_readMarked 10 = .ok (.aload_n 0, 1) := by decide +kernel
theorem dX7_readMarked_11 : decode cX7_readMarked 11 = .ok (.invokevirtual 68, 3) := by decide +kernel
theorem dX7_readMarked_14 : decode cX7_readMarked 14 = .ok (.bipush 48, 2) := by decide +kernel
theorem dX7_readMarked_16 : decode cX7_readMarked 16 = .ok (.isub, 1) := by decide +kernel
theorem dX7_readMarked_17 : decode cX7_readMarked 17 = .ok (.istore_n 3, 1) := by decide +kernel
theorem dX7_readMarked_18 : decode cX7_readMarked 18 = .ok (.aload_n 0, 1) := by decide +kernel
theorem dX7_readMarked_19 : decode cX7_readMarked 19 = .ok (.invokevirtual 68, 3) := by decide +kernel
theorem dX7_readMarked_22 : decode cX7_readMarked 22 = .ok (.invokestatic 72, 3) := by decide +kernel
theorem dX7_readMarked_25 : decode cX7_readMarked 25 = .ok (.ifCond .eq 8, 3) := by decide +kernel
theorem dX7_readMarked_28 : decode cX7_readMarked 28 = .ok (.iload_n 3, 1) := by decide +kernel
theorem dX7_readMarked_29 : decode cX7_readMarked 29 = .ok (.iload_n 2, 1) := by decide +kernel
theorem dX7_readMarked_30 : decode cX7_readMarked 30 = .ok (.if_icmp .le 13, 3) := by decide +kernel
theorem dX7_readMarked_33 : decode cX7_readMarked 33 = .ok (.aload_n 0, 1) := by decide +kernel
theorem dX7_readMarked_34 : decode cX7_readMarked 34 = .ok (.aload_n 0, 1) := by decide +kernel
theorem dX7_readMarked_35 : decode cX7_readMarked 35 = .ok (.getfield 23, 3) := by decide +kernel
theorem dX7_readMarked_38 : decode cX7_readMarked 38 = .ok (.putfield 26, 3) := by decide +kernel
theorem dX7_readMarked_41 : decode cX7_readMarked 41 = .ok (.iconst 0, 1) := by decide +kernel
theorem dX7_readMarked_42 : decode cX7_readMarked 42 = .ok (.ireturn, 1) := by decide +kernel
theorem dX7_readMarked_43 : decode cX7_readMarked 43 = .ok (.aload_n 0, 1) := by decide +kernel
theorem dX7_readMarked_44 : decode cX7_readMarked 44 = .ok (.dup, 1) := by decide +kernel
theorem dX7_readMarked_45 : decode cX7_readMarked 45 = .ok (.getfield 23, 3) := by decide +kernel
theorem dX7_readMarked_48 : decode cX7_readMarked 48 = .ok (.iconst 1, 1) := by decide +kernel
theorem dX7_readMarked_49 : decode cX7_readMarked 49 = .ok (.iadd, 1) := by decide +kernel
theorem dX7_readMarked_50 : decode cX7_readMarked 50 = .ok (.putfield 23, 3) := by decide +kernel
theorem dX7_readMarked_53 : decode cX7_readMarked 53 = .ok (.iload_n 3, 1) := by decide +kernel
theorem dX7_readMarked_54 : decode cX7_readMarked 54 = .ok (.ireturn, 1) := by decide +kernel
theorem dX7_sign_0 : decode cX7_sign 0 = .ok (.aload_n 0, 1) := by decide +kernel
theorem dX7_sign_1 : decode cX7_sign 1 = .ok (.getfield 23, 3) := by decide +kernel
theorem dX7_sign_4 : decode cX7_sign 4 = .ok (.aload_n 0, 1) := by decide +kernel
theorem dX7_sign_5 : decode cX7_sign 5 = .ok (.getfield 15, 3) := by decide +kernel
theorem dX7_sign_8 : decode cX7_sign 8 = .ok (.if_icmp .ge 24, 3) := by decide +kernel
theorem dX7_sign_11 : decode cX7_sign 11 = .ok (.aload_n 0, 1) := by decide +kernel
theorem dX7_sign_12 : decode cX7_sign 12 = .ok (.getfield 23, 3) := by decide +kernel
theorem dX7_sign_15 : decode cX7_sign 15 = .ok (.bipush 100, 2) := by decide +kernel
theorem dX7_sign_17 : decode cX7_sign 17 = .ok (.if_icmp .ge 15, 3) := by decide +kernel
theorem dX7_sign_20 : decode cX7_sign 20 = .ok (.aload_n 0, 1) := by decide +kernel
theorem dX7_sign_21 : decode cX7_sign 21 = .ok (.getfield 9, 3) := by decide +kernel
theorem dX7_sign_24 : decode cX7_sign 24 = .ok (.aload_n 0, 1) := by decide +kernel
theorem dX7_sign_25 : decode cX7_sign 25 = .ok (.getfield 23, 3) := by decide +kernel
theorem dX7_sign_28 : decode cX7_sign 28 = .ok (.caload, 1) := by decide +kernel
theorem dX7_sign_29 : decode cX7_sign 29 = .ok (.goto 4, 3) := by decide +kernel
theorem dX7_sign_32 : decode cX7_sign 32 = .ok (.iconst 0, 1) := by decide +kernel
theorem dX7_sign_33 : decode cX7_sign 33 = .ok (.ireturn, 1) := by decide +kernel
set_option maxRecDepth 20000 in
theorem ggX7_skip_X7_sign : GoodIn wsX7_skip wsX7_sign := goodIn_r _ [6, 1, 7, 8, 9, 10, 11, 12] (by decide +kernel) (by decide +kernel)
set_option maxRecDepth 20000 in
theorem gX7_skip_X7_sign : GoodIn wsX7_skip (wsV RX7 68 RX7 yX7_sign wsX7_sign) := goodIn_app (goodIn_of _ (by decide +kernel)) ggX7_skip_X7_sign
theorem dX7_skip_0 : decode cX7_skip 0 = .ok (.aload_n 0, 1) := by decide +kernel
theorem dX7_skip_1 : decode cX7_skip 1 = .ok (.invokevirtual 68, 3) := by decide +kernel
theorem dX7_skip_4 : decode cX7_skip 4 = .ok (.iload_n 1, 1) := by decide +kernel
theorem dX7_skip_5 : decode cX7_skip 5 = .ok (.if_icmp .eq 5, 3) := by decide +kernel
theorem dX7_skip_8 : decode cX7_skip 8 = .ok (.iconst 0, 1) := by decide +kernel
theorem dX7_skip_9 : decode cX7_skip 9 = .ok (.ireturn, 1) := by decide +kernel
theorem dX7_skip_10 : decode cX7_skip 10 = .ok (.aload_n 0, 1) := by decide +kernel
theorem dX7_skip_11 : decode cX7_skip 11 = .ok (.dup, 1) := by decide +kernel
theorem dX7_skip_12 : decode cX7_skip 12 = .ok (.getfield 23, 3) := by decide +kernel
theorem dX7_skip_15 : decode cX7_skip 15 = .ok (.iconst 1, 1) := by decide +kernel
theorem dX7_skip_16 : decode cX7_skip 16 = .ok (.iadd, 1) := by decide +kernel
theorem dX7_skip_17 : decode cX7_skip 17 = .ok (.putfield 23, 3) := by decide +kernel
theorem dX7_skip_20 : decode cX7_skip 20 = .ok (.iconst 1, 1) := by decide +kernel
theorem dX7_skip_21 : decode cX7_skip 21 = .ok (.ireturn, 1) := by decide +kernel
theorem dX7_isFigure_0 : decode cX7_isFigure 0 = .ok (.iload_n 0, 1) := by decide +kernel
theorem dX7_isFigure_1 : decode cX7_isFigure 1 = .ok (.bipush 48, 2) := by decide +kernel
theorem dX7_isFigure_3 : decode cX7_isFigure 3 = .ok (.if_icmp .lt 13, 3) := by decide +kernel
theorem dX7_isFigure_6 : decode cX7_isFigure 6 = .ok (.iload_n 0, 1) := by decide +kernel
theorem dX7_isFigure_7 : decode cX7_isFigure 7 = .ok (.bipush 57, 2) := by decide +kernel
theorem dX7_isFigure_9 : decode cX7_isFigure 9 = .ok (.if_icmp .gt 7, 3) := by decide +kernel
theorem dX7_isFigure_12 : decode cX7_isFigure 12 = .ok (.iconst 1, 1) := by decide +kernel
theorem dX7_isFigure_13 : decode cX7_isFigure 13 = .ok (.goto 4, 3) := by decide +kernel
theorem dX7_isFigure_16 : decode cX7_isFigure 16 = .ok (.iconst 0, 1) := by decide +kernel
theorem dX7_isFigure_17 : decode cX7_isFigure 17 = .ok (.ireturn, 1) := by decide +kernel
set_option maxRecDepth 20000 in
theorem ggX8_init_X0_init : GoodIn wsX8_init wsX0_init := goodIn_r _ [40, 41, 2, 3, 37, 42, 43, 44, 45, 46, 96, 97, 98, 99, 100, 101] (by decide +kernel) (by decide +kernel)
set_option maxRecDepth 20000 in
theorem gX8_init_X0_init_n11 : GoodIn wsX8_init (wsX0_init) := ggX8_init_X0_init
set_option maxRecDepth 20000 in
theorem ggX8_init_X5_init : GoodIn wsX8_init wsX5_init := goodIn_r _ [49, 50, 2, 3, 37, 51, 52, 53, 54, 55, 56, 57, 58, 115, 116, 117, 118, 119] (by decide +kernel) (by decide +kernel)
set_option maxRecDepth 20000 in
theorem gX8_init_X5_init : GoodIn wsX8_init (wsX5_init) := ggX8_init_X5_init
set_option maxRecDepth 20000 in
theorem ggX8_init_X2_init : GoodIn wsX8_init wsX2_init := goodIn_r _ [61, 62, 2, 3, 63, 64, 9, 10, 65, 48, 49, 50, 37, 51, 52, 53, 54, 55, 56, 57, 58, 120, 121, 122, 115, 116, 117, 118, 119] (by decide +kernel) (by decide +kernel)
set_option maxRecDepth 20000 in
theorem gX8_init_X2_init : GoodIn wsX8_init (wsX2_init) := ggX8_init_X2_init
set_option maxRecDepth 20000 in
theorem ggX8_init_X7_init : GoodIn wsX8_init wsX7_init := goodIn_r _ [67, 68, 2, 3, 69, 70, 123, 124, 125, 126] (by decide +kernel) (by decide +kernel)
set_option maxRecDepth 20000 in
theorem gX8_init_X7_init_n35 : GoodIn wsX8_init (wsX7_init) := ggX8_init_X7_init
set_option maxRecDepth 20000 in
theorem ggX8_init_X6_init : GoodIn wsX8_init wsX6_init := goodIn_r _ [72, 73, 2, 3, 37, 74, 75, 127, 128] (by decide +kernel) (by decide +kernel)
set_option maxRecDepth 20000 in
theorem gX8_init_X6_init_n42 : GoodIn wsX8_init (wsX6_init) := ggX8_init_X6_init
set_option maxRecDepth 20000 in
theorem ggX8_init_X1_init : GoodIn wsX8_init wsX1_init := goodIn_r _ [77, 78, 2, 3, 37, 79, 80, 81, 82, 83, 129, 130, 131, 132, 133, 134, 135] (by decide +kernel) (by decide +kernel)
set_option maxRecDepth 20000 in
theorem gX8_init_X1_init_n49 : GoodIn wsX8_init (wsX1_init) := ggX8_init_X1_init
set_option maxRecDepth 20000 in
theorem ggX8_init_X4_init : GoodIn wsX8_init wsX4_init := goodIn_r _ [86, 87, 2, 3, 88, 89, 37, 90, 91, 56, 57, 58, 136, 137] (by decide +kernel) (by decide +kernel)
set_option maxRecDepth 20000 in
theorem gX8_init_X4_init : GoodIn wsX8_init (wsX4_init) := ggX8_init_X4_init
set_option maxRecDepth 20000 in
theorem ggX8_init_X3_init : GoodIn wsX8_init wsX3_init := goodIn_r _ [93, 94, 2, 3, 69, 95, 138, 139] (by decide +kernel) (by decide +kernel)
set_option maxRecDepth 20000 in
theorem gX8_init_X3_init_n63 : GoodIn wsX8_init (wsX3_init) := ggX8_init_X3_init
theorem dX8_init_0 : decode cX8_init 0 = .ok (.aload_n 0, 1) := by decide +kernel
theorem dX8_init_1 : decode cX8_init 1 = .ok (.invokespecial 3, 3) := by decide +kernel
theorem dX8_init_4 : decode cX8_init 4 = .ok (.aload_n 0, 1) := by decide +kernel
theorem dX8_init_5 : decode cX8_init 5 = .ok (.new 9, 3) := by decide +kernel
theorem dX8_init_8 : decode cX8_init 8 = .ok (.dup, 1) := by decide +kernel
theorem dX8_init_9 : decode cX8_init 9 = .ok (.invokespecial 11, 3) := by decide +kernel
theorem dX8_init_12 : decode cX8_init 12 = .ok (.putfield 12, 3) := by decide +kernel
theorem dX8_init_15 : decode cX8_init 15 = .ok (.aload_n 0, 1) := by decide +kernel
theorem dX8_init_16 : decode cX8_init 16 = .ok (.new 16, 3) := by decide +kernel
theorem dX8_init_19 : decode cX8_init 19 = .ok (.dup, 1) := by decide +kernel
theorem dX8_init_20 : decode cX8_init 20 = .ok (.invokespecial 18, 3) := by decide +kernel
theorem dX8_init_23 : decode cX8_init 23 = .ok (.putfield 19, 3) := by decide +kernel
theorem dX8_init_26 : decode cX8_init 26 = .ok (.aload_n 0, 1) := by decide +kernel
theorem dX8_init_27 : decode cX8_init 27 = .ok (.new 16, 3) := by decide +kernel
theorem dX8_init_30 : decode cX8_init 30 = .ok (.dup, 1) := by decide +kernel
theorem dX8_init_31 : decode cX8_init 31 = .ok (.invokespecial 18, 3) := by decide +kernel
theorem dX8_init_34 : decode cX8_init 34 = .ok (.putfield 23, 3) := by decide +kernel
theorem dX8_init_37 : decode cX8_init 37 = .ok (.aload_n 0, 1) := by decide +kernel
theorem dX8_init_38 : decode cX8_init 38 = .ok (.new 26, 3) := by decide +kernel
theorem dX8_init_41 : decode cX8_init 41 = .ok (.dup, 1) := by decide +kernel
theorem dX8_init_42 : decode cX8_init 42 = .ok (.invokespecial 28, 3) := by decide +kernel
theorem dX8_init_45 : decode cX8_init 45 = .ok (.putfield 29, 3) := by decide +kernel
theorem dX8_init_48 : decode cX8_init 48 = .ok (.aload_n 0, 1) := by decide +kernel
theorem dX8_init_49 : decode cX8_init 49 = .ok (.new 33, 3) := by decide +kernel
theorem dX8_init_52 : decode cX8_init 52 = .ok (.dup, 1) := by decide +kernel
theorem dX8_init_53 : decode cX8_init 53 = .ok (.invokespecial 35, 3) := by decide +kernel
theorem dX8_init_56 : decode cX8_init 56 = .ok (.putfield 36, 3) := by decide +kernel
theorem dX8_init_59 : decode cX8_init 59 = .ok (.aload_n 0, 1) := by decide +kernel
theorem dX8_init_60 : decode cX8_init 60 = .ok (.new 40, 3) := by decide +kernel
theorem dX8_init_63 : decode cX8_init 63 = .ok (.dup, 1) := by decide +kernel
theorem dX8_init_64 : decode cX8_init 64 = .ok (.invokespecial 42, 3) := by decide +kernel
theorem dX8_init_67 : decode cX8_init 67 = .ok (.putfield 43, 3) := by decide +kernel
theorem dX8_init_70 : decode cX8_init 70 = .ok (.aload_n 0, 1) := by decide +kernel
theorem dX8_init_71 : decode cX8_init 71 = .ok (.new 47, 3) := by decide +kernel
theorem dX8_init_74 : decode cX8_init 74 = .ok (.dup, 1) := by decide +kernel
theorem dX8_init_75 : decode cX8_init 75 = .ok (.invokespecial 49, 3) := by decide +kernel
theorem dX8_init_78 : decode cX8_init 78 = .ok (.putfield 50, 3) := by decide +kernel
theorem dX8_init_81 : decode cX8_init 81 = .ok (.aload_n 0, 1) := by decide +kernel
theorem dX8_init_82 : decode cX8_init 82 = .ok (.new 54, 3) := by decide +kernel
theorem dX8_init_85 : decode cX8_init 85 = .ok (.dup, 1) := by decide +kernel
theorem dX8_init_86 : decode cX8_init 86 = .ok (.invokespecial 56, 3) := by decide +kernel
theorem dX8_init_89 : decode cX8_init 89 = .ok (.putfield 57, 3) := by decide +kernel
theorem dX8_init_92 : decode cX8_init 92 = .ok (.aload_n 0, 1) := by decide +kernel
theorem dX8_init_93 : decode cX8_init 93 = .ok (.new 61, 3) := by decide +kernel
theorem dX8_init_96 : decode cX8_init 96 = .ok (.dup, 1) := by decide +kernel
theorem dX8_init_97 : decode cX8_init 97 = .ok (.invokespecial 63, 3) := by decide +kernel
theorem dX8_init_100 : decode cX8_init 100 = .ok (.putfield 64, 3) := by decide +kernel
theorem dX8_init_103 : decode cX8_init 103 = .ok (.aload_n 0, 1) := by decide +kernel
theorem dX8_init_104 : decode cX8_init 104 = .ok (.iconst 4, 1) := by decide +kernel
theorem dX8_init_105 : decode cX8_init 105 = .ok (.newarray .int, 2) := by decide +kernel
theorem dX8_init_107 : decode cX8_init 107 = .ok (.putfield 68, 3) := by decide +kernel
theorem dX8_init_110 : decode cX8_init 110 = .ok (.return_, 1) := by decide +kernel
set_option maxRecDepth 20000 in
theorem ggX8_supply_X8_isSupply : GoodIn wsX8_supply wsX8_isSupply := goodIn_r _ [5, 6, 7, 4, 8, 9, 10, 11] (by decide +kernel) (by decide +kernel)
set_option maxRecDepth 20000 in
theorem gX8_supply_X8_isSupply : GoodIn wsX8_supply (va_wsS RX8 72 yX8_isSupply wsX8_isSupply) := goodIn_app (goodIn_of _ (by decide +kernel)) ggX8_supply_X8_isSupply
set_option maxRecDepth 20000 in
theorem ggX8_supply_X8_within : GoodIn wsX8_supply wsX8_within := goodIn_r _ [8] (by decide +kernel) (by decide +kernel)
set_option maxRecDepth 20000 in
theorem gX8_supply_X8_within : GoodIn wsX8_supply (va_wsS RX8 76 yX8_within wsX8_within) := goodIn_app (goodIn_of _ (by decide +kernel)) ggX8_supply_X8_within
set_option maxRecDepth 20000 in
theorem ggX8_supply_X8_noteChange : GoodIn wsX8_supply wsX8_noteChange := goodIn_r _ [15, 16, 17, 1, 18, 19, 20, 21, 22, 23, 24, 25, 26, 27, 28, 29, 30, 31, 32, 33, 34, 35, 36, 37, 38, 39, 40, 41, 42, 43, 44, 45, 46, 47, 48, 49, 50, 51, 52, 53, 54, 55, 56, 57, 58, 59, 60, 61, 62, 63, 64, 70, 71, 72, 73, 74, 75, 76, 77, 78, 65, 66, 67, 68, 69] (by decide +kernel) (by decide +kernel)
set_option maxRecDepth 20000 in
theorem gX8_supply_X8_noteChange : GoodIn wsX8_supply (wsV RX8 83 RX8 yX8_noteChange wsX8_noteChange) := goodIn_app (goodIn_of _ (by decide +kernel)) ggX8_supply_X8_noteChange
theorem dX8_supply_0 : decode cX8_supply 0 = .ok (.iload_n 1, 1) := by decide +kernel
theorem dX8_supply_1 : decode cX8_supply 1 = .ok (.iload_n 2, 1) := by decide +kernel
theorem dX8_supply_2 : decode cX8_supply 2 = .ok (.invokestatic 72, 3) := by decide +kernel
theorem dX8_supply_5 : decode cX8_supply 5 = .ok (.ifCond .eq 13, 3) := by decide +kernel
theorem dX8_supply_8 : decode cX8_supply 8 = .ok (.iload_n 3, 1) := by decide +kernel
theorem dX8_supply_9 : decode cX8_supply 9 = .ok (.iconst 0, 1) := by decide +kernel
theorem dX8_supply_10 : decode cX8_supply 10 = .ok (.bipush 99, 2) := by decide +kernel
theorem dX8_supply_12 : decode cX8_supply 12 = .ok (.invokestatic 76, 3) := by decide +kernel
theorem dX8_supply_15 : decode cX8_supply 15 = .ok (.ifCond .ne 5, 3) := by decide +kernel
theorem dX8_supply_18 : decode cX8_supply 18 = .ok (.iconst (-1), 1) := by decide +kernel
theorem dX8_supply_19 : decode cX8_supply 19 = .ok (.ireturn, 1) := by decide +kernel
theorem dX8_supply_20 : decode cX8_supply 20 = .ok (.iload_n 1, 1) := by decide +kernel
theorem dX8_supply_21 : decode cX8_supply 21 = .ok (.bipush 12, 2) := by decide +kernel
theorem dX8_supply_23 : decode cX8_supply 23 = .ok (.imul, 1) := by decide +kernel
theorem dX8_supply_24 : decode cX8_supply 24 = .ok (.iload_n 2, 1) := by decide +kernel
theorem dX8_supply_25 : decode cX8_supply 25 = .ok (.iadd, 1) := by decide +kernel
theorem dX8_supply_26 : decode cX8_supply 26 = .ok (.istore 4, 2) := by decide +kernel
theorem dX8_supply_28 : decode cX8_supply 28 = .ok (.aload_n 0, 1) := by decide +kernel
theorem dX8_supply_29 : decode cX8_supply 29 = .ok (.getfield 19, 3) := by decide +kernel
theorem dX8_supply_32 : decode cX8_supply 32 = .ok (.getfield 80, 3) := by decide +kernel
theorem dX8_supply_35 : decode cX8_supply 35 = .ok (.iload 4, 2) := by decide +kernel
theorem dX8_supply_37 : decode cX8_supply 37 = .ok (.iaload, 1) := by decide +kernel
theorem dX8_supply_38 : decode cX8_supply 38 = .ok (.istore 5, 2) := by decide +kernel
theorem dX8_supply_40 : decode cX8_supply 40 = .ok (.aload_n 0, 1) := by decide +kernel
theorem dX8_supply_41 : decode cX8_supply 41 = .ok (.getfield 19, 3) := by decide +kernel
theorem dX8_supply_44 : decode cX8_supply 44 = .ok (.getfield 80, 3) := by decide +kernel
theorem dX8_supply_47 : decode cX8_supply 47 = .ok (.iload 4, 2) := by decide +kernel
theorem dX8_supply_49 : decode cX8_supply 49 = .ok (.iload_n 3, 1) := by decide +kernel
theorem dX8_supply_50 : decode cX8_supply 50 = .ok (.iastore, 1) := by decide +kernel
theorem dX8_supply_51 : decode cX8_supply 51 = .ok (.aload_n 0, 1) := by decide +kernel
theorem dX8_supply_52 : decode cX8_supply 52 = .ok (.invokevirtual 83, 3) := by decide +kernel
theorem dX8_supply_55 : decode cX8_supply 55 = .ok (.iload 5, 2) := by decide +kernel
theorem dX8_supply_57 : decode cX8_supply 57 = .ok (.ireturn, 1) := by decide +kernel
set_option maxRecDepth 20000 in
theorem ggX8_supplied_X8_isSupply : GoodIn wsX8_supplied wsX8_isSupply := goodIn_r _ [5, 6, 7, 4, 8, 9, 10, 11] (by decide +kernel) (by decide +kernel)
set_option maxRecDepth 20000 in
theorem gX8_supplied_X8_isSupply : GoodIn wsX8_supplied (va_wsS RX8 72 yX8_isSupply wsX8_isSupply) := goodIn_app (goodIn_of _ (by decide +kernel)) ggX8_supplied_X8_isSupply
theorem dX8_supplied_0 : decode cX8_supplied 0 = .ok (.iload_n 1, 1) := by decide +kernel
theorem dX8_supplied_1 : decode cX8_supplied 1 = .ok (.iload_n 2, 1) := by decide +kernel
theorem dX8_supplied_2 : decode cX8_supplied 2 = .ok (.invokestatic 72, 3) := by decide +kernel
theorem dX8_supplied_5 : decode cX8_supplied 5 = .ok (.ifCond .ne 5, 3) := by decide +kernel
theorem dX8_supplied_8 : decode cX8_supplied 8 = .ok (.iconst (-1), 1) := by decide +kernel
theorem dX8_supplied_9 : decode cX8_supplied 9 = .ok (.ireturn, 1) := by decide +kernel
theorem dX8_supplied_10 : decode cX8_supplied 10 = .ok (.aload_n 0, 1) := by decide +kernel
theorem dX8_supplied_11 : decode cX8_supplied 11 = .ok (.getfield 19, 3) := by decide +kernel
theorem dX8_supplied_14 : decode cX8_supplied 14 = .ok (.getfield 80, 3) := by decide +kernel
theorem dX8_supplied_17 : decode cX8_supplied 17 = .ok (.iload_n 1, 1) := by decide +kernel
theorem dX8_supplied_18 : decode cX8_supplied 18 = .ok (.bipush 12, 2) := by decide +kernel
theorem dX8_supplied_20 : decode cX8_supplied 20 = .ok (.imul, 1) := by decide +kernel
theorem dX8_supplied_21 : decode cX8_supplied 21 = .ok (.iload_n 2, 1) := by decide +kernel
theorem dX8_supplied_22 : decode cX8_supplied 22 = .ok (.iadd, 1) := by decide +kernel
theorem dX8_supplied_23 : decode cX8_supplied 23 = .ok (.iaload, 1) := by decide +kernel
theorem dX8_supplied_24 : decode cX8_supplied 24 = .ok (.ireturn, 1) := by decide +kernel
set_option maxRecDepth 20000 in
theorem ggX8_share_X8_isGroup : GoodIn wsX8_share wsX8_isGroup := goodIn_r _ [5, 6, 7, 4, 8] (by decide +kernel) (by decide +kernel)
set_option maxRecDepth 20000 in
theorem gX8_share_X8_isGroup : GoodIn wsX8_share (va_wsS RX8 86 yX8_isGroup wsX8_isGroup) := goodIn_app (goodIn_of _ (by decide +kernel)) ggX8_share_X8_isGroup
set_option maxRecDepth 20000 in
theorem ggX8_share_X8_within : GoodIn wsX8_share wsX8_within := goodIn_r _ [8] (by decide +kernel) (by decide +kernel)
set_option maxRecDepth 20000 in
theorem gX8_share_X8_within : GoodIn wsX8_share (va_wsS RX8 76 yX8_within wsX8_within) := goodIn_app (goodIn_of _ (by decide +kernel)) ggX8_share_X8_within
set_option maxRecDepth 20000 in
theorem ggX8_share_X8_noteChange : GoodIn wsX8_share wsX8_noteChange := goodIn_r _ [12, 13, 14, 1, 15, 16, 17, 18, 19, 20, 21, 22, 23, 24, 25, 26, 27, 28, 29, 30, 31, 32, 33, 34, 35, 36, 37, 38, 39, 40, 41, 42, 43, 44, 45, 46, 47, 48, 49, 50, 51, 52, 53, 54, 55, 56, 57, 58, 59, 60, 61, 67, 68, 69, 70, 71, 72, 73, 74, 75, 62, 63, 64, 65, 66] (by decide +kernel) (by decide +kernel)
set_option maxRecDepth 20000 in
theorem gX8_share_X8_noteChange : GoodIn wsX8_share (wsV RX8 83 RX8 yX8_noteChange wsX8_noteChange) := goodIn_app (goodIn_of _ (by decide +kernel)) ggX8_share_X8_noteChange
theorem dX8_share_0 : decode cX8_share 0 = .ok (.iload_n 1, 1) := by decide +kernel
theorem dX8_share_1 : decode cX8_share 1 = .ok (.invokestatic 86, 3) := by decide +kernel
theorem dX8_share_4 : decode cX8_share 4 = .ok (.ifCond .eq 13, 3) := by decide +kernel
theorem dX8_share_7 : decode cX8_share 7 = .ok (.iload_n 2, 1) := by decide +kernel
theorem dX8_share_8 : decode cX8_share 8 = .ok (.iconst 0, 1) := by decide +kernel
theorem dX8_share_9 : decode cX8_share 9 = .ok (.bipush 100, 2) := by decide +kernel
theorem dX8_share_11 : decode cX8_share 11 = .ok (.invokestatic 76, 3) := by decide +kernel
theorem dX8_share_14 : decode cX8_share 14 = .ok (.ifCond .ne 5, 3) := by decide +kernel
theorem dX8_share_17 : decode cX8_share 17 = .ok (.iconst (-1), 1) := by decide +kernel
theorem dX8_share_18 : decode cX8_share 18 = .ok (.ireturn, 1) := by decide +kernel
theorem dX8_share_19 : decode cX8_share 19 = .ok (.aload_n 0, 1) := by decide +kernel
theorem dX8_share_20 : decode cX8_share 20 = .ok (.getfield 19, 3) := by decide +kernel
theorem dX8_share_23 : decode cX8_share 23 = .ok (.getfield 90, 3) := by decide +kernel
theorem dX8_share_26 : decode cX8_share 26 = .ok (.iload_n 1, 1) := by decide +kernel
theorem dX8_share_27 : decode cX8_share 27 = .ok (.iaload, 1) := by decide +kernel
theorem dX8_share_28 : decode cX8_share 28 = .ok (.istore_n 3, 1) := by decide +kernel
theorem dX8_share_29 : decode cX8_share 29 = .ok (.aload_n 0, 1) := by decide +kernel
theorem dX8_share_30 : decode cX8_share 30 = .ok (.getfield 19, 3) := by decide +kernel
theorem dX8_share_33 : decode cX8_share 33 = .ok (.getfield 90, 3) := by decide +kernel
theorem dX8_share_36 : decode cX8_share 36 = .ok (.iload_n 1, 1) := by decide +kernel
theorem dX8_share_37 : decode cX8_share 37 = .ok (.iload_n 2, 1) := by decide +kernel
theorem dX8_share_38 : decode cX8_share 38 = .ok (.iastore, 1) := by decide +kernel
theorem dX8_share_39 : decode cX8_share 39 = .ok (.aload_n 0, 1) := by decide +kernel
theorem dX8_share_40 : decode cX8_share 40 = .ok (.invokevirtual 83, 3) := by decide +kernel
theorem dX8_share_43 : decode cX8_share 43 = .ok (.iload_n 3, 1) := by decide +kernel
theorem dX8_share_44 : decode cX8_share 44 = .ok (.ireturn, 1) := by decide +kernel
set_option maxRecDepth 20000 in
theorem ggX8_group_X8_isGroup : GoodIn wsX8_group wsX8_isGroup := goodIn_r _ [5, 6, 7, 4, 8] (by decide +kernel) (by decide +kernel)
set_option maxRecDepth 20000 in
theorem gX8_group_X8_isGroup : GoodIn wsX8_group (va_wsS RX8 86 yX8_isGroup wsX8_isGroup) := goodIn_app (goodIn_of _ (by decide +kernel)) ggX8_group_X8_isGroup
set_option maxRecDepth 20000 in
theorem ggX8_group_X8_cutOf : GoodIn wsX8_group wsX8_cutOf := goodIn_r _ [12, 1, 13, 14, 15, 4, 16, 29, 30, 31, 32, 33, 34, 35, 36, 37, 38, 39, 40, 41, 42, 43, 44, 45, 46] (by decide +kernel) (by decide +kernel)
set_option maxRecDepth 20000 in
theorem gX8_group_X8_cutOf : GoodIn wsX8_group (wsV RX8 93 RX8 yX8_cutOf wsX8_cutOf) := goodIn_app (goodIn_of _ (by decide +kernel)) ggX8_group_X8_cutOf
set_option maxRecDepth 20000 in
theorem ggX8_group_X8_setOf : GoodIn wsX8_group wsX8_setOf := goodIn_r _ [20, 21, 1, 22, 23, 4, 24, 29, 30, 31, 32, 33, 34, 35, 36, 37, 38, 39, 40, 41, 47, 48, 49, 50, 51, 52, 42, 43, 44, 45, 46] (by decide +kernel) (by decide +kernel)
set_option maxRecDepth 20000 in
theorem gX8_group_X8_setOf : GoodIn wsX8_group (wsV RX8 97 RX8 yX8_setOf wsX8_setOf) := goodIn_app (goodIn_of _ (by decide +kernel)) ggX8_group_X8_setOf
set_option maxRecDepth 20000 in
theorem ggX8_group_X8_amountOf : GoodIn wsX8_group wsX8_amountOf := goodIn_r _ [28, 21, 22, 23, 4, 24, 29, 30, 31, 32, 33, 34, 35, 36, 37, 38, 39, 40, 41, 47, 48, 49, 50, 51, 52] (by decide +kernel) (by decide +kernel)
set_option maxRecDepth 20000 in
theorem gX8_group_X8_amountOf : GoodIn wsX8_group (wsV RX8 100 RX8 yX8_amountOf wsX8_amountOf) := goodIn_app (goodIn_of _ (by decide +kernel)) ggX8_group_X8_amountOf
theorem dX8_group_0 : decode cX8_group 0 = .ok (.iload_n 1, 1) := by decide +kernel
theorem dX8_group_1 : decode cX8_group 1 = .ok (.invokestatic 86, 3) := by decide +kernel
theorem dX8_group_4 : decode cX8_group 4 = .ok (.ifCond .ne 5, 3) := by decide +kernel
theorem dX8_group_7 : decode cX8_group 7 = .ok (.iconst (-1), 1) := by decide +kernel
theorem dX8_group_8 : decode cX8_group 8 = .ok (.ireturn, 1) := by decide +kernel
theorem dX8_group_9 : decode cX8_group 9 = .ok (.iload_n 2, 1) := by decide +kernel
theorem dX8_group_10 : decode cX8_group 10 = .ok (.tableswitch 53 0 2 #[26, 36, 42], 26) := by decide +kernel
theorem dX8_group_36 : decode cX8_group 36 = .ok (.aload_n 0, 1) := by decide +kernel
theorem dX8_group_37 : decode cX8_group 37 = .ok (.getfield 19, 3) := by decide +kernel
theorem dX8_group_40 : decode cX8_group 40 = .ok (.getfield 90, 3) := by decide +kernel
theorem dX8_group_43 : decode cX8_group 43 = .ok (.iload_n 1, 1) := by decide +kernel
theorem dX8_group_44 : decode cX8_group 44 = .ok (.iaload, 1) := by decide +kernel
theorem dX8_group_45 : decode cX8_group 45 = .ok (.ireturn, 1) := by decide +kernel
theorem dX8_group_46 : decode cX8_group 46 = .ok (.aload_n 0, 1) := by decide +kernel
theorem dX8_group_47 : decode cX8_group 47 = .ok (.iload_n 1, 1) := by decide +kernel
theorem dX8_group_48 : decode cX8_group 48 = .ok (.invokevirtual 93, 3) := by decide +kernel
theorem dX8_group_51 : decode cX8_group 51 = .ok (.ireturn, 1) := by decide +kernel
theorem dX8_group_52 : decode cX8_group 52 = .ok (.aload_n 0, 1) := by decide +kernel
theorem dX8_group_53 : decode cX8_group 53 = .ok (.iload_n 1, 1) := by decide +kernel
theorem dX8_group_54 : decode cX8_group 54 = .ok (.aload_n 0, 1) := by decide +kernel
theorem dX8_group_55 : decode cX8_group 55 = .ok (.iconst 1, 1) := by decide +kernel
theorem dX8_group_56 : decode cX8_group 56 = .ok (.invokevirtual 97, 3) := by decide +kernel
theorem dX8_group_59 : decode cX8_group 59 = .ok (.invokevirtual 100, 3) := by decide +kernel
theorem dX8_group_62 : decode cX8_group 62 = .ok (.ireturn, 1) := by decide +kernel
theorem dX8_group_63 : decode cX8_group 63 = .ok (.iconst (-1), 1) := by decide +kernel
theorem dX8_group_64 : decode cX8_group 64 = .ok (.ireturn, 1) := by decide +kernel
set_option maxRecDepth 20000 in
theorem ggX8_feed_X8_within : GoodIn wsX8_feed wsX8_within := goodIn_r _ [5] (by decide +kernel) (by decide +kernel)
set_option maxRecDepth 20000 in
theorem gX8_feed_X8_within : GoodIn wsX8_feed (va_wsS RX8 76 yX8_within wsX8_within) := goodIn_app (goodIn_of _ (by decide +kernel)) ggX8_feed_X8_within
set_option maxRecDepth 20000 in
theorem ggX8_feed_X7_isFull : GoodIn wsX8_feed wsX7_isFull := goodIn_r _ [10, 11, 31, 32, 33, 34] (by decide +kernel) (by decide +kernel)
set_option maxRecDepth 20000 in
theorem gX8_feed_X7_isFull : GoodIn wsX8_feed (wsV RX8 104 RX7 yX7_isFull wsX7_isFull) := goodIn_app (goodIn_of _ (by decide +kernel)) ggX8_feed_X7_isFull
set_option maxRecDepth 20000 in
theorem ggX8_feed_X7_append : GoodIn wsX8_feed wsX7_append := goodIn_r _ [15, 16, 11, 17, 7, 8, 9, 10, 31, 32, 33, 34] (by decide +kernel) (by decide +kernel)
set_option maxRecDepth 20000 in
theorem gX8_feed_X7_append : GoodIn wsX8_feed (wsV RX8 108 RX7 yX7_append wsX7_append) := goodIn_app (goodIn_of _ (by decide +kernel)) ggX8_feed_X7_append
theorem dX8_feed_0 : decode cX8_feed 0 = .ok (.iload_n 1, 1) := by decide +kernel
theorem dX8_feed_1 : decode cX8_feed 1 = .ok (.bipush 32, 2) := by decide +kernel
theorem dX8_feed_3 : decode cX8_feed 3 = .ok (.bipush 126, 2) := by decide +kernel
theorem dX8_feed_5 : decode cX8_feed 5 = .ok (.invokestatic 76, 3) := by decide +kernel
theorem dX8_feed_8 : decode cX8_feed 8 = .ok (.ifCond .ne 5, 3) := by decide +kernel
theorem dX8_feed_11 : decode cX8_feed 11 = .ok (.iconst (-1), 1) := by decide +kernel
theorem dX8_feed_12 : decode cX8_feed 12 = .ok (.ireturn, 1) := by decide +kernel
theorem dX8_feed_13 : decode cX8_feed 13 = .ok (.aload_n 0, 1) := by decide +kernel
theorem dX8_feed_14 : decode cX8_feed 14 = .ok (.getfield 36, 3) := by decide +kernel
theorem dX8_feed_17 : decode cX8_feed 17 = .ok (.invokevirtual 104, 3) := by decide +kernel
theorem dX8_feed_20 : decode cX8_feed 20 = .ok (.ifCond .eq 6, 3) := by decide +kernel
theorem dX8_feed_23 : decode cX8_feed 23 = .ok (.bipush (-3), 2) := by decide +kernel
theorem dX8_feed_25 : decode cX8_feed 25 = .ok (.ireturn, 1) := by decide +kernel
theorem dX8_feed_26 : decode cX8_feed 26 = .ok (.aload_n 0, 1) := by decide +kernel
theorem dX8_feed_27 : decode cX8_feed 27 = .ok (.getfield 36, 3) := by decide +kernel
theorem dX8_feed_30 : decode cX8_feed 30 = .ok (.iload_n 1, 1) := by decide +kernel
theorem dX8_feed_31 : decode cX8_feed 31 = .ok (.i2c, 1) := by decide +kernel
theorem dX8_feed_32 : decode cX8_feed 32 = .ok (.invokevirtual 108, 3) := by decide +kernel
theorem dX8_feed_35 : decode cX8_feed 35 = .ok (.aload_n 0, 1) := by decide +kernel
theorem dX8_feed_36 : decode cX8_feed 36 = .ok (.getfield 36, 3) := by decide +kernel
theorem dX8_feed_39 : decode cX8_feed 39 = .ok (.getfield 112, 3) := by decide +kernel
theorem dX8_feed_42 : decode cX8_feed 42 = .ok (.ireturn, 1) := by decide +kernel
set_option maxRecDepth 20000 in
theorem ggX8_orders_X7_readInto : GoodIn wsX8_orders wsX7_readInto := goodIn_r _ [8, 9, 10, 11, 12, 13, 14, 7, 15, 16, 17, 18, 19, 20, 21, 22, 23, 24, 25, 26, 27, 28, 29, 30, 31, 32, 33, 34, 35, 36, 37, 38, 39, 68, 69, 70, 71, 57, 58, 59, 60, 61, 62] (by decide +kernel) (by decide +kernel)
set_option maxRecDepth 20000 in
theorem gX8_orders_X7_readInto : GoodIn wsX8_orders (wsV RX8 117 RX7 yX7_readInto wsX7_readInto) := goodIn_app (goodIn_of _ (by decide +kernel)) ggX8_orders_X7_readInto
set_option maxRecDepth 20000 in
theorem ggX8_orders_X7_clear : GoodIn wsX8_orders wsX7_clear := goodIn_r _ [43, 11, 68, 69, 70, 71] (by decide +kernel) (by decide +kernel)
set_option maxRecDepth 20000 in
theorem gX8_orders_X7_clear : GoodIn wsX8_orders (wsV RX8 121 RX7 yX7_clear wsX7_clear) := goodIn_app (goodIn_of _ (by decide +kernel)) ggX8_orders_X7_clear
theorem dX8_orders_0 : decode cX8_orders 0 = .ok (.aload_n 0, 1) := by decide +kernel
theorem dX8_orders_1 : decode cX8_orders 1 = .ok (.getfield 12, 3) := by decide +kernel
theorem dX8_orders_4 : decode cX8_orders 4 = .ok (.getfield 116, 3) := by decide +kernel
theorem dX8_orders_7 : decode cX8_orders 7 = .ok (.istore_n 1, 1) := by decide +kernel
theorem dX8_orders_8 : decode cX8_orders 8 = .ok (.aload_n 0, 1) := by decide +kernel
theorem dX8_orders_9 : decode cX8_orders 9 = .ok (.getfield 36, 3) := by decide +kernel
theorem dX8_orders_12 : decode cX8_orders 12 = .ok (.aload_n 0, 1) := by decide +kernel
theorem dX8_orders_13 : decode cX8_orders 13 = .ok (.getfield 12, 3) := by decide +kernel
theorem dX8_orders_16 : decode cX8_orders 16 = .ok (.invokevirtual 117, 3) := by decide +kernel
theorem dX8_orders_19 : decode cX8_orders 19 = .ok (.istore_n 2, 1) := by decide +kernel
theorem dX8_orders_20 : decode cX8_orders 20 = .ok (.aload_n 0, 1) := by decide +kernel
theorem dX8_orders_21 : decode cX8_orders 21 = .ok (.getfield 36, 3) := by decide +kernel
theorem dX8_orders_24 : decode cX8_orders 24 = .ok (.invokevirtual 121, 3) := by decide +kernel
theorem dX8_orders_27 : decode cX8_orders 27 = .ok (.iload_n 2, 1) := by decide +kernel
theorem dX8_orders_28 : decode cX8_orders 28 = .ok (.ifCond .lt 8, 3) := by decide +kernel
theorem dX8_orders_31 : decode cX8_orders 31 = .ok (.bipush (-100), 2) := by decide +kernel
theorem dX8_orders_33 : decode cX8_orders 33 = .ok (.iload_n 2, 1) := by decide +kernel
theorem dX8_orders_34 : decode cX8_orders 34 = .ok (.isub, 1) := by decide +kernel
theorem dX8_orders_35 : decode cX8_orders 35 = .ok (.ireturn, 1) := by decide +kernel
theorem dX8_orders_36 : decode cX8_orders 36 = .ok (.iload_n 1, 1) := by decide +kernel
theorem dX8_orders_37 : decode cX8_orders 37 = .ok (.istore_n 3, 1) := by decide +kernel
theorem dX8_orders_38 : decode cX8_orders 38 = .ok (.iload_n 3, 1) := by decide +kernel
theorem dX8_orders_39 : decode cX8_orders 39 = .ok (.aload_n 0, 1) := by decide +kernel
theorem dX8_orders_40 : decode cX8_orders 40 = .ok (.getfield 12, 3) := by decide +kernel
theorem dX8_orders_43 : decode cX8_orders 43 = .ok (.getfield 116, 3) := by decide +kernel
theorem dX8_orders_46 : decode cX8_orders 46 = .ok (.if_icmp .ge 37, 3) := by decide +kernel
theorem dX8_orders_49 : decode cX8_orders 49 = .ok (.aload_n 0, 1) := by decide +kernel
theorem dX8_orders_50 : decode cX8_orders 50 = .ok (.getfield 19, 3) := by decide +kernel
theorem dX8_orders_53 : decode cX8_orders 53 = .ok (.getfield 124, 3) := by decide +kernel
theorem dX8_orders_56 : decode cX8_orders 56 = .ok (.iload_n 3, 1) := by decide +kernel
theorem dX8_orders_57 : decode cX8_orders 57 = .ok (.iconst 0, 1) := by decide +kernel
theorem dX8_orders_58 : decode cX8_orders 58 = .ok (.iastore, 1) := by decide +kernel
theorem dX8_orders_59 : decode cX8_orders 59 = .ok (.aload_n 0, 1) := by decide +kernel
theorem dX8_orders_60 : decode cX8_orders 60 = .ok (.getfield 19, 3) := by decide +kernel
theorem dX8_orders_63 : decode cX8_orders 63 = .ok (.getfield 127, 3) := by decide +kernel
theorem dX8_orders_66 : decode cX8_orders 66 = .ok (.iload_n 3, 1) := by decide +kernel
theorem dX8_orders_67 : decode cX8_orders 67 = .ok (.aload_n 0, 1) := by decide +kernel
theorem dX8_orders_68 : decode cX8_orders 68 = .ok (.getfield 12, 3) := by decide +kernel
theorem dX8_orders_71 : decode cX8_orders 71 = .ok (.getfield 130, 3) := by decide +kernel
theorem dX8_orders_74 : decode cX8_orders 74 = .ok (.iload_n 3, 1) := by decide +kernel
theorem dX8_orders_75 : decode cX8_orders 75 = .ok (.iaload, 1) := by decide +kernel
theorem dX8_orders_76 : decode cX8_orders 76 = .ok (.iastore, 1) := by decide +kernel
theorem dX8_orders_77 : decode cX8_orders 77 = .ok (.iinc 3 1, 3) := by decide +kernel
theorem dX8_orders_80 : decode cX8_orders 80 = .ok (.goto (-42), 3) := by decide +kernel
theorem dX8_orders_83 : decode cX8_orders 83 = .ok (.aload_n 0, 1) := by decide +kernel
theorem dX8_orders_84 : decode cX8_orders 84 = .ok (.getfield 12, 3) := by decide +kernel
theorem dX8_orders_87 : decode cX8_orders 87 = .ok (.getfield 116, 3) := by decide +kernel
theorem dX8_orders_90 : decode cX8_orders 90 = .ok (.ireturn, 1) := by decide +kernel
set_option maxRecDepth 20000 in
theorem ggX8_of_X8_isOrder : GoodIn wsX8_of wsX8_isOrder := goodIn_r _ [7, 1, 8, 9, 6, 10, 65, 66, 67, 68, 69, 70, 71, 72, 73, 74, 75, 76, 77, 78, 79, 80, 81, 82, 83] (by decide +kernel) (by decide +kernel)
set_option maxRecDepth 20000 in
theorem gX8_of_X8_isOrder : GoodIn wsX8_of (wsV RX8 133 RX8 yX8_isOrder wsX8_isOrder) := goodIn_app (goodIn_of _ (by decide +kernel)) ggX8_of_X8_isOrder
set_option maxRecDepth 20000 in
theorem ggX8_of_X8_isLate : GoodIn wsX8_of wsX8_isLate := goodIn_r _ [14, 2, 15, 16, 17, 6, 18, 19, 20, 21, 1, 22, 23, 24, 25, 26, 27, 28, 29, 30, 31, 32, 33, 34, 35, 36, 37, 38, 39, 40, 41, 42, 43, 44, 45, 46, 47, 48, 49, 50, 51, 52, 53, 54, 55, 56, 57, 58, 59, 60, 61, 62, 63, 64, 65, 66, 67, 68, 69, 70, 71, 72, 73, 74, 75, 76, 77, 84, 85, 86, 87, 88, 78, 79, 80, 81, 82, 83, 89, 90] (by decide +kernel) (by decide +kernel)
set_option maxRecDepth 20000 in
theorem gX8_of_X8_isLate : GoodIn wsX8_of (wsV RX8 148 RX8 yX8_isLate wsX8_isLate) := goodIn_app (goodIn_of _ (by decide +kernel)) ggX8_of_X8_isLate
theorem dX8_of_0 : decode cX8_of 0 = .ok (.aload_n 0, 1) := by decide +kernel
theorem dX8_of_1 : decode cX8_of 1 = .ok (.iload_n 1, 1) := by decide +kernel
theorem dX8_of_2 : decode cX8_of 2 = .ok (.invokevirtual 133, 3) := by decide +kernel
theorem dX8_of_5 : decode cX8_of 5 = .ok (.ifCond .ne 5, 3) := by decide +kernel
theorem dX8_of_8 : decode cX8_of 8 = .ok (.iconst (-1), 1) := by decide +kernel
theorem dX8_of_9 : decode cX8_of 9 = .ok (.ireturn, 1) := by decide +kernel
theorem dX8_of_10 : decode cX8_of 10 = .ok (.iload_n 2, 1) := by decide +kernel
theorem dX8_of_11 : decode cX8_of 11 = .ok (.tableswitch 115 0 6 #[41, 51, 61, 71, 81, 91, 101], 41) := by decide +kernel
theorem dX8_of_52 : decode cX8_of 52 = .ok (.aload_n 0, 1) := by decide +kernel
theorem dX8_of_53 : decode cX8_of 53 = .ok (.getfield 12, 3) := by decide +kernel
theorem dX8_of_56 : decode cX8_of 56 = .ok (.getfield 136, 3) := by decide +kernel
theorem dX8_of_59 : decode cX8_of 59 = .ok (.iload_n 1, 1) := by decide +kernel
theorem dX8_of_60 : decode cX8_of 60 = .ok (.iaload, 1) := by decide +kernel
theorem dX8_of_61 : decode cX8_of 61 = .ok (.ireturn, 1) := by decide +kernel
theorem dX8_of_62 : decode cX8_of 62 = .ok (.aload_n 0, 1) := by decide +kernel
theorem dX8_of_63 : decode cX8_of 63 = .ok (.getfield 12, 3) := by decide +kernel
theorem dX8_of_66 : decode cX8_of 66 = .ok (.getfield 139, 3) := by decide +kernel
theorem dX8_of_69 : decode cX8_of 69 = .ok (.iload_n 1, 1) := by decide +kernel
theorem dX8_of_70 : decode cX8_of 70 = .ok (.iaload, 1) := by decide +kernel
theorem dX8_of_71 : decode cX8_of 71 = .ok (.ireturn, 1) := by decide +kernel
theorem dX8_of_72 : decode cX8_of 72 = .ok (.aload_n 0, 1) := by decide +kernel
theorem dX8_of_73 : decode cX8_of 73 = .ok (.getfield 19, 3) := by decide +kernel
theorem dX8_of_76 : decode cX8_of 76 = .ok (.getfield 127, 3) := by decide +kernel
theorem dX8_of_79 : decode cX8_of 79 = .ok (.iload_n 1, 1) := by decide +kernel
theorem dX8_of_80 : decode cX8_of 80 = .ok (.iaload, 1) := by decide +kernel
theorem dX8_of_81 : decode cX8_of 81 = .ok (.ireturn, 1) := by decide +kernel
theorem dX8_of_82 : decode cX8_of 82 = .ok (.aload_n 0, 1) := by decide +kernel
theorem dX8_of_83 : decode cX8_of 83 = .ok (.getfield 12, 3) := by decide +kernel
theorem dX8_of_86 : decode cX8_of 86 = .ok (.getfield 142, 3) := by decide +kernel
theorem dX8_of_89 : decode cX8_of 89 = .ok (.iload_n 1, 1) := by decide +kernel
theorem dX8_of_90 : decode cX8_of 90 = .ok (.iaload, 1) := by decide +kernel
theorem dX8_of_91 : decode cX8_of 91 = .ok (.ireturn, 1) := by decide +kernel
theorem dX8_of_92 : decode cX8_of 92 = .ok (.aload_n 0, 1) := by decide +kernel
theorem dX8_of_93 : decode cX8_of 93 = .ok (.getfield 12, 3) := by decide +kernel
theorem dX8_of_96 : decode cX8_of 96 = .ok (.getfield 145, 3) := by decide +kernel
theorem dX8_of_99 : decode cX8_of 99 = .ok (.iload_n 1, 1) := by decide +kernel
theorem dX8_of_100 : decode cX8_of 100 = .ok (.iaload, 1) := by decide +kernel
theorem dX8_of_101 : decode cX8_of 101 = .ok (.ireturn, 1) := by decide +kernel
theorem dX8_of_102 : decode cX8_of 102 = .ok (.aload_n 0, 1) := by decide +kernel
theorem dX8_of_103 : decode cX8_of 103 = .ok (.getfield 19, 3) := by decide +kernel
theorem dX8_of_106 : decode cX8_of 106 = .ok (.getfield 124, 3) := by decide +kernel
theorem dX8_of_109 : decode cX8_of 109 = .ok (.iload_n 1, 1) := by decide +kernel
theorem dX8_of_110 : decode cX8_of 110 = .ok (.iaload, 1) := by decide +kernel
theorem dX8_of_111 : decode cX8_of 111 = .ok (.ireturn, 1) := by decide +kernel
theorem dX8_of_112 : decode cX8_of 112 = .ok (.aload_n 0, 1) := by decide +kernel
theorem dX8_of_113 : decode cX8_of 113 = .ok (.iload_n 1, 1) := by decide +kernel
theorem dX8_of_114 : decode cX8_of 114 = .ok (.invokevirtual 148, 3) := by decide +kernel
theorem dX8_of_117 : decode cX8_of 117 = .ok (.ifCond .eq 7, 3) := by decide +kernel
theorem dX8_of_120 : decode cX8_of 120 = .ok (.iconst 1, 1) := by decide +kernel
theorem dX8_of_121 : decode cX8_of 121 = .ok (.goto 4, 3) := by decide +kernel
theorem dX8_of_124 : decode cX8_of 124 = .ok (.iconst 0, 1) := by decide +kernel
theorem dX8_of_125 : decode cX8_of 125 = .ok (.ireturn, 1) := by decide +kernel
theorem dX8_of_126 : decode cX8_of 126 = .ok (.iconst (-1), 1) := by decide +kernel
theorem dX8_of_127 : decode cX8_of 127 = .ok (.ireturn, 1) := by decide +kernel
set_option maxRecDepth 20000 in
theorem ggX8_promise_X8_isOrder : GoodIn wsX8_promise wsX8_isOrder := goodIn_r _ [7, 2, 8, 9, 6, 10, 125, 126, 127, 128, 129, 130, 131, 132, 133, 134, 135, 136, 137, 143, 144, 145, 146, 147, 148] (by decide +kernel) (by decide +kernel)
set_option maxRecDepth 20000 in
theorem gX8_promise_X8_isOrder : GoodIn wsX8_promise (wsV RX8 133 RX8 yX8_isOrder wsX8_isOrder) := goodIn_app (goodIn_of _ (by decide +kernel)) ggX8_promise_X8_isOrder
set_option maxRecDepth 20000 in
theorem ggX8_promise_X8_setOf : GoodIn wsX8_promise wsX8_setOf := goodIn_r _ [14, 2, 1, 15, 16, 6, 17, 125, 126, 127, 128, 129, 130, 131, 132, 133, 134, 135, 136, 137, 143, 144, 145, 146, 147, 148, 138, 139, 140, 141, 142] (by decide +kernel) (by decide +kernel)
set_option maxRecDepth 20000 in
theorem gX8_promise_X8_setOf : GoodIn wsX8_promise (wsV RX8 97 RX8 yX8_setOf wsX8_setOf) := goodIn_app (goodIn_of _ (by decide +kernel)) ggX8_promise_X8_setOf
set_option maxRecDepth 20000 in
theorem ggX8_promise_X8_roomOf : GoodIn wsX8_promise wsX8_roomOf := goodIn_r _ [21, 22, 23, 24, 6, 25, 1, 26, 27, 28, 29, 30, 31, 32, 33, 2, 15, 16, 17, 125, 126, 127, 128, 129, 130, 131, 132, 133, 134, 135, 136, 137, 138, 139, 140, 141, 142, 143, 144, 145, 146, 147, 148] (by decide +kernel) (by decide +kernel)
set_option maxRecDepth 20000 in
theorem gX8_promise_X8_roomOf : GoodIn wsX8_promise (wsV RX8 151 RX8 yX8_roomOf wsX8_roomOf) := goodIn_app (goodIn_of _ (by decide +kernel)) ggX8_promise_X8_roomOf
set_option maxRecDepth 20000 in
theorem ggX8_promise_X8_bit : GoodIn wsX8_promise wsX8_bit := goodIn_r _ [17] (by decide +kernel) (by decide +kernel)
set_option maxRecDepth 20000 in
theorem gX8_promise_X8_bit : GoodIn wsX8_promise (va_wsS RX8 154 yX8_bit wsX8_bit) := goodIn_app (goodIn_of _ (by decide +kernel)) ggX8_promise_X8_bit
set_option maxRecDepth 20000 in
theorem ggX8_promise_X8_areMet : GoodIn wsX8_promise wsX8_areMet := goodIn_r _ [37, 38, 2, 1, 39, 40, 41, 42, 43, 44, 45, 46, 47, 48, 49, 50, 51, 52, 53, 16, 6, 17, 54, 55, 56, 57, 58, 59, 60, 61, 62, 63, 64, 65, 66, 67, 68, 69, 70, 125, 126, 127, 128, 129, 130, 131, 132, 133, 134, 135, 136, 137, 149, 150, 143, 144, 145, 146, 147, 148, 138, 139, 140, 141, 142] (by decide +kernel) (by decide +kernel)
set_option maxRecDepth 20000 in
theorem gX8_promise_X8_areMet : GoodIn wsX8_promise (wsV RX8 157 RX8 yX8_areMet wsX8_areMet) := goodIn_app (goodIn_of _ (by decide +kernel)) ggX8_promise_X8_areMet
set_option maxRecDepth 20000 in
theorem ggX8_promise_X8_become : GoodIn wsX8_promise wsX8_become := goodIn_r _ [74, 1, 75, 76, 77, 6, 78, 79, 80, 2, 81, 82, 83, 84, 85, 86, 87, 88, 89, 90, 91, 92, 93, 94, 95, 96, 97, 98, 99, 100, 101, 102, 103, 104, 105, 106, 107, 108, 109, 110, 111, 112, 113, 114, 115, 116, 117, 11, 12, 13, 14, 15, 16, 17, 118, 119, 120, 121, 122, 123, 124, 125, 126, 127, 128, 129, 130, 131, 132, 133, 134, 135, 136, 137, 138, 139, 140, 141, 142, 143, 144, 145, 146, 147, 148, 151, 152, 153] (by decide +kernel) (by decide +kernel)
set_option maxRecDepth 20000 in
theorem gX8_promise_X8_become : GoodIn wsX8_promise (wsV RX8 160 RX8 yX8_become wsX8_become) := goodIn_app (goodIn_of _ (by decide +kernel)) ggX8_promise_X8_become
theorem dX8_promise_0 : decode cX8_promise 0 = .ok (.aload_n 0, 1) := by decide +kernel
theorem dX8_promise_1 : decode cX8_promise 1 = .ok (.iload_n 1, 1) := by decide +kernel
theorem dX8_promise_2 : decode cX8_promise 2 = .ok (.invokevirtual 133, 3) := by decide +kernel
theorem dX8_promise_5 : decode cX8_promise 5 = .ok (.ifCond .ne 5, 3) := by decide +kernel
theorem dX8_promise_8 : decode cX8_promise 8 = .ok (.iconst (-1), 1) := by decide +kernel
theorem dX8_promise_9 : decode cX8_promise 9 = .ok (.ireturn, 1) := by decide +kernel
theorem dX8_promise_10 : decode cX8_promise 10 = .ok (.aload_n 0, 1) := by decide +kernel
theorem dX8_promise_11 : decode cX8_promise 11 = .ok (.getfield 19, 3) := by decide +kernel
theorem dX8_promise_14 : decode cX8_promise 14 = .ok (.getfield 124, 3) := by decide +kernel
theorem dX8_promise_17 : decode cX8_promise 17 = .ok (.iload_n 1, 1) := by decide +kernel
theorem dX8_promise_18 : decode cX8_promise 18 = .ok (.iaload, 1) := by decide +kernel
theorem dX8_promise_19 : decode cX8_promise 19 = .ok (.ifCond .eq 6, 3) := by decide +kernel
theorem dX8_promise_22 : decode cX8_promise 22 = .ok (.bipush (-5), 2) := by decide +kernel
theorem dX8_promise_24 : decode cX8_promise 24 = .ok (.ireturn, 1) := by decide +kernel
theorem dX8_promise_25 : decode cX8_promise 25 = .ok (.aload_n 0, 1) := by decide +kernel
theorem dX8_promise_26 : decode cX8_promise 26 = .ok (.iconst 1, 1) := by decide +kernel
theorem dX8_promise_27 : decode cX8_promise 27 = .ok (.invokevirtual 97, 3) := by decide +kernel
theorem dX8_promise_30 : decode cX8_promise 30 = .ok (.istore_n 2, 1) := by decide +kernel
theorem dX8_promise_31 : decode cX8_promise 31 = .ok (.aload_n 0, 1) := by decide +kernel
theorem dX8_promise_32 : decode cX8_promise 32 = .ok (.getfield 12, 3) := by decide +kernel
theorem dX8_promise_35 : decode cX8_promise 35 = .ok (.getfield 136, 3) := by decide +kernel
theorem dX8_promise_38 : decode cX8_promise 38 = .ok (.iload_n 1, 1) := by decide +kernel
theorem dX8_promise_39 : decode cX8_promise 39 = .ok (.iaload, 1) := by decide +kernel
theorem dX8_promise_40 : decode cX8_promise 40 = .ok (.aload_n 0, 1) := by decide +kernel
theorem dX8_promise_41 : decode cX8_promise 41 = .ok (.aload_n 0, 1) := by decide +kernel
theorem dX8_promise_42 : decode cX8_promise 42 = .ok (.getfield 12, 3) := by decide +kernel
theorem dX8_promise_45 : decode cX8_promise 45 = .ok (.getfield 142, 3) := by decide +kernel
theorem dX8_promise_48 : decode cX8_promise 48 = .ok (.iload_n 1, 1) := by decide +kernel
theorem dX8_promise_49 : decode cX8_promise 49 = .ok (.iaload, 1) := by decide +kernel
theorem dX8_promise_50 : decode cX8_promise 50 = .ok (.iload_n 2, 1) := by decide +kernel
theorem dX8_promise_51 : decode cX8_promise 51 = .ok (.invokevirtual 151, 3) := by decide +kernel
theorem dX8_promise_54 : decode cX8_promise 54 = .ok (.if_icmp .le 6, 3) := by decide +kernel
theorem dX8_promise_57 : decode cX8_promise 57 = .ok (.bipush (-2), 2) := by decide +kernel
theorem dX8_promise_59 : decode cX8_promise 59 = .ok (.ireturn, 1) := by decide +kernel
theorem dX8_promise_60 : decode cX8_promise 60 = .ok (.aload_n 0, 1) := by decide +kernel
theorem dX8_promise_61 : decode cX8_promise 61 = .ok (.iload_n 2, 1) := by decide +kernel
theorem dX8_promise_62 : decode cX8_promise 62 = .ok (.iload_n 1, 1) := by decide +kernel
theorem dX8_promise_63 : decode cX8_promise 63 = .ok (.invokestatic 154, 3) := by decide +kernel
theorem dX8_promise_66 : decode cX8_promise 66 = .ok (.ior, 1) := by decide +kernel
theorem dX8_promise_67 : decode cX8_promise 67 = .ok (.invokevirtual 157, 3) := by decide +kernel
theorem dX8_promise_70 : decode cX8_promise 70 = .ok (.ifCond .ne 6, 3) := by decide +kernel
theorem dX8_promise_73 : decode cX8_promise 73 = .ok (.bipush (-2), 2) := by decide +kernel
theorem dX8_promise_75 : decode cX8_promise 75 = .ok (.ireturn, 1) := by decide +kernel
theorem dX8_promise_76 : decode cX8_promise 76 = .ok (.aload_n 0, 1) := by decide +kernel
theorem dX8_promise_77 : decode cX8_promise 77 = .ok (.iload_n 1, 1) := by decide +kernel
theorem dX8_promise_78 : decode cX8_promise 78 = .ok (.iconst 1, 1) := by decide +kernel
theorem dX8_promise_79 : decode cX8_promise 79 = .ok (.invokevirtual 160, 3) := by decide +kernel
theorem dX8_promise_82 : decode cX8_promise 82 = .ok (.ireturn, 1) := by decide +kernel
set_option maxRecDepth 20000 in
theorem ggX8_promiseAll_X8_setOf : GoodIn wsX8_promiseAll wsX8_setOf := goodIn_r _ [8, 1, 2, 9, 10, 7, 11, 123, 124, 125, 126, 127, 128, 129, 130, 131, 132, 133, 134, 135, 136, 137, 138, 139, 140, 141, 142, 143, 144, 145, 146] (by decide +kernel) (by decide +kernel)
set_option maxRecDepth 20000 in
theorem gX8_promiseAll_X8_setOf : GoodIn wsX8_promiseAll (wsV RX8 97 RX8 yX8_setOf wsX8_setOf) := goodIn_app (goodIn_of _ (by decide +kernel)) ggX8_promiseAll_X8_setOf
set_option maxRecDepth 20000 in
theorem ggX8_promiseAll_J6_bitCount_0f7a4 : GoodIn wsX8_promiseAll wsJ6_bitCount_0f7a4 := goodIn_r _ [15, 16, 17, 18] (by decide +kernel) (by decide +kernel)
set_option maxRecDepth 20000 in
theorem gX8_promiseAll_J6_bitCount_0f7a4 : GoodIn wsX8_promiseAll (va_wsS RX8 163 yJ6_bitCount_0f7a4 wsJ6_bitCount_0f7a4) := goodIn_app (goodIn_of _ (by decide +kernel)) ggX8_promiseAll_J6_bitCount_0f7a4
set_option maxRecDepth 20000 in
theorem ggX8_promiseAll_X8_areMet : GoodIn wsX8_promiseAll wsX8_areMet := goodIn_r _ [22, 3, 1, 2, 23, 24, 25, 26, 27, 28, 29, 30, 31, 32, 33, 34, 35, 36, 37, 10, 7, 11, 38, 39, 40, 41, 42, 43, 44, 45, 46, 47, 48, 49, 50, 51, 52, 53, 54, 123, 124, 125, 126, 127, 128, 129, 130, 131, 132, 133, 134, 135, 147, 148, 136, 137, 138, 139, 140, 141, 142, 143, 144, 145, 146] (by decide +kernel) (by decide +kernel)
set_option maxRecDepth 20000 in
theorem gX8_promiseAll_X8_areMet : GoodIn wsX8_promiseAll (wsV RX8 157 RX8 yX8_areMet wsX8_areMet) := goodIn_app (goodIn_of _ (by decide +kernel)) ggX8_promiseAll_X8_areMet
set_option maxRecDepth 20000 in
theorem ggX8_promiseAll_X8_fitsBeside : GoodIn wsX8_promiseAll wsX8_fitsBeside := goodIn_r _ [58, 3, 1, 2, 59, 60, 61, 26, 62, 28, 63, 64, 65, 66, 41, 7, 42, 67, 68, 69, 70, 71, 72, 73, 74, 75, 76, 77, 78, 79, 80, 81, 82, 9, 10, 11, 123, 124, 125, 126, 127, 128, 129, 130, 131, 132, 133, 134, 135, 136, 137, 138, 139, 140, 141, 142, 143, 144, 145, 146, 147, 148] (by decide +kernel) (by decide +kernel)
set_option maxRecDepth 20000 in
theorem gX8_promiseAll_X8_fitsBeside : GoodIn wsX8_promiseAll (wsV RX8 168 RX8 yX8_fitsBeside wsX8_fitsBeside) := goodIn_app (goodIn_of _ (by decide +kernel)) ggX8_promiseAll_X8_fitsBeside
set_option maxRecDepth 20000 in
theorem ggX8_promiseAll_X6_take : GoodIn wsX8_promiseAll wsX6_take := goodIn_r _ [86, 28, 41, 7, 42, 147, 148] (by decide +kernel) (by decide +kernel)
set_option maxRecDepth 20000 in
theorem gX8_promiseAll_X6_take : GoodIn wsX8_promiseAll (wsV RX8 171 RX6 yX6_take wsX6_take) := goodIn_app (goodIn_of _ (by decide +kernel)) ggX8_promiseAll_X6_take
set_option maxRecDepth 20000 in
theorem ggX8_promiseAll_X8_bit : GoodIn wsX8_promiseAll wsX8_bit := goodIn_r _ [11] (by decide +kernel) (by decide +kernel)
set_option maxRecDepth 20000 in
theorem gX8_promiseAll_X8_bit : GoodIn wsX8_promiseAll (va_wsS RX8 154 yX8_bit wsX8_bit) := goodIn_app (goodIn_of _ (by decide +kernel)) ggX8_promiseAll_X8_bit
set_option maxRecDepth 20000 in
theorem ggX8_promiseAll_X8_noteChange : GoodIn wsX8_promiseAll wsX8_noteChange := goodIn_r _ [90, 91, 92, 2, 1, 93, 94, 95, 96, 97, 98, 99, 100, 101, 102, 103, 104, 105, 106, 107, 108, 109, 110, 64, 65, 66, 111, 112, 113, 114, 115, 116, 117, 118, 119, 120, 121, 122, 123, 124, 125, 126, 127, 128, 129, 130, 131, 132, 133, 134, 135, 136, 137, 138, 139, 140, 141, 149, 150, 151, 142, 143, 144, 145, 146] (by decide +kernel) (by decide +kernel)
set_option maxRecDepth 20000 in
theorem gX8_promiseAll_X8_noteChange : GoodIn wsX8_promiseAll (wsV RX8 83 RX8 yX8_noteChange wsX8_noteChange) := goodIn_app (goodIn_of _ (by decide +kernel)) ggX8_promiseAll_X8_noteChange
theorem dX8_promiseAll_0 : decode cX8_promiseAll 0 = .ok (.aload_n 0, 1) := by decide +kernel
theorem dX8_promiseAll_1 : decode cX8_promiseAll 1 = .ok (.iconst 1, 1) := by decide +kernel
theorem dX8_promiseAll_2 : decode cX8_promiseAll 2 = .ok (.invokevirtual 97, 3) := by decide +kernel
theorem dX8_promiseAll_5 : decode cX8_promiseAll 5 = .ok (.istore_n 1, 1) := by decide +kernel
theorem dX8_promiseAll_6 : decode cX8_promiseAll 6 = .ok (.iload_n 1, 1) := by decide +kernel
theorem dX8_promiseAll_7 : decode cX8_promiseAll 7 = .ok (.invokestatic 163, 3) := by decide +kernel
theorem dX8_promiseAll_10 : decode cX8_promiseAll 10 = .ok (.istore_n 2, 1) := by decide +kernel
theorem dX8_promiseAll_11 : decode cX8_promiseAll 11 = .ok (.aload_n 0, 1) := by decide +kernel
theorem dX8_promiseAll_12 : decode cX8_promiseAll 12 = .ok (.iload_n 1, 1) := by decide +kernel
theorem dX8_promiseAll_13 : decode cX8_promiseAll 13 = .ok (.invokevirtual 157, 3) := by decide +kernel
theorem dX8_promiseAll_16 : decode cX8_promiseAll 16 = .ok (.ifCond .eq 130, 3) := by decide +kernel
theorem dX8_promiseAll_19 : decode cX8_promiseAll 19 = .ok (.bipush 9, 2) := by decide +kernel
theorem dX8_promiseAll_21 : decode cX8_promiseAll 21 = .ok (.istore_n 3, 1) := by decide +kernel
theorem dX8_promiseAll_22 : decode cX8_promiseAll 22 = .ok (.iload_n 3, 1) := by decide +kernel
theorem dX8_promiseAll_23 : decode cX8_promiseAll 23 = .ok (.ifCond .lt 123, 3) := by decide +kernel
theorem dX8_promiseAll_26 : decode cX8_promiseAll 26 = .ok (.iconst 0, 1) := by decide +kernel
theorem dX8_promiseAll_27 : decode cX8_promiseAll 27 = .ok (.istore 4, 2) := by decide +kernel
theorem dX8_promiseAll_29 : decode cX8_promiseAll 29 = .ok (.iload 4, 2) := by decide +kernel
theorem dX8_promiseAll_31 : decode cX8_promiseAll 31 = .ok (.aload_n 0, 1) := by decide +kernel
theorem dX8_promiseAll_32 : decode cX8_promiseAll 32 = .ok (.getfield 12, 3) := by decide +kernel
theorem dX8_promiseAll_35 : decode cX8_promiseAll 35 = .ok (.getfield 116, 3) := by decide +kernel
theorem dX8_promiseAll_38 : decode cX8_promiseAll 38 = .ok (.if_icmp .ge 102, 3) := by decide +kernel
theorem dX8_promiseAll_41 : decode cX8_promiseAll 41 = .ok (.aload_n 0, 1) := by decide +kernel
theorem dX8_promiseAll_42 : decode cX8_promiseAll 42 = .ok (.getfield 12, 3) := by decide +kernel
theorem dX8_promiseAll_45 : decode cX8_promiseAll 45 = .ok (.getfield 145, 3) := by decide +kernel
theorem dX8_promiseAll_48 : decode cX8_promiseAll 48 = .ok (.iload 4, 2) := by decide +kernel
theorem dX8_promiseAll_50 : decode cX8_promiseAll 50 = .ok (.iaload, 1) := by decide +kernel
theorem dX8_promiseAll_51 : decode cX8_promiseAll 51 = .ok (.iload_n 3, 1) := by decide +kernel
theorem dX8_promiseAll_52 : decode cX8_promiseAll 52 = .ok (.if_icmp .ne 82, 3) := by decide +kernel
theorem dX8_promiseAll_55 : decode cX8_promiseAll 55 = .ok (.aload_n 0, 1) := by decide +kernel
theorem dX8_promiseAll_56 : decode cX8_promiseAll 56 = .ok (.getfield 19, 3) := by decide +kernel
theorem dX8_promiseAll_59 : decode cX8_promiseAll 59 = .ok (.getfield 124, 3) := by decide +kernel
theorem dX8_promiseAll_62 : decode cX8_promiseAll 62 = .ok (.iload 4, 2) := by decide +kernel
theorem dX8_promiseAll_64 : decode cX8_promiseAll 64 = .ok (.iaload, 1) := by decide +kernel
theorem dX8_promiseAll_65 : decode cX8_promiseAll 65 = .ok (.ifCond .ne 69, 3) := by decide +kernel
theorem dX8_promiseAll_68 : decode cX8_promiseAll 68 = .ok (.aload_n 0, 1) := by decide +kernel
theorem dX8_promiseAll_69 : decode cX8_promiseAll 69 = .ok (.iload 4, 2) := by decide +kernel
theorem dX8_promiseAll_71 : decode cX8_promiseAll 71 = .ok (.iload_n 1, 1) := by decide +kernel
theorem dX8_promiseAll_72 : decode cX8_promiseAll 72 = .ok (.invokevirtual 168, 3) := by decide +kernel
theorem dX8_promiseAll_75 : decode cX8_promiseAll 75 = .ok (.ifCond .eq 59, 3) := by decide +kernel
theorem dX8_promiseAll_78 : decode cX8_promiseAll 78 = .ok (.aload_n 0, 1) := by decide +kernel
theorem dX8_promiseAll_79 : decode cX8_promiseAll 79 = .ok (.getfield 43, 3) := by decide +kernel
theorem dX8_promiseAll_82 : decode cX8_promiseAll 82 = .ok (.aload_n 0, 1) := by decide +kernel
theorem dX8_promiseAll_83 : decode cX8_promiseAll 83 = .ok (.getfield 12, 3) := by decide +kernel
theorem dX8_promiseAll_86 : decode cX8_promiseAll 86 = .ok (.getfield 139, 3) := by decide +kernel
theorem dX8_promiseAll_89 : decode cX8_promiseAll 89 = .ok (.iload 4, 2) := by decide +kernel
theorem dX8_promiseAll_91 : decode cX8_promiseAll 91 = .ok (.iaload, 1) := by decide +kernel
theorem dX8_promiseAll_92 : decode cX8_promiseAll 92 = .ok (.aload_n 0, 1) := by decide +kernel
theorem dX8_promiseAll_93 : decode cX8_promiseAll 93 = .ok (.getfield 19, 3) := by decide +kernel
theorem dX8_promiseAll_96 : decode cX8_promiseAll 96 = .ok (.getfield 127, 3) := by decide +kernel
theorem dX8_promiseAll_99 : decode cX8_promiseAll 99 = .ok (.iload 4, 2) := by decide +kernel
theorem dX8_promiseAll_101 : decode cX8_promiseAll 101 = .ok (.iaload, 1) := by decide +kernel
theorem dX8_promiseAll_102 : decode cX8_promiseAll 102 = .ok (.aload_n 0, 1) := by decide +kernel
theorem dX8_promiseAll_103 : decode cX8_promiseAll 103 = .ok (.getfield 12, 3) := by decide +kernel
theorem dX8_promiseAll_106 : decode cX8_promiseAll 106 = .ok (.getfield 136, 3) := by decide +kernel
theorem dX8_promiseAll_109 : decode cX8_promiseAll 109 = .ok (.iload 4, 2) := by decide +kernel
theorem dX8_promiseAll_111 : decode cX8_promiseAll 111 = .ok (.iaload, 1) := by decide +kernel
theorem dX8_promiseAll_112 : decode cX8_promiseAll 112 = .ok (.invokevirtual 171, 3) := by decide +kernel
theorem dX8_promiseAll_115 : decode cX8_promiseAll 115 = .ok (.aload_n 0, 1) := by decide +kernel
theorem dX8_promiseAll_116 : decode cX8_promiseAll 116 = .ok (.getfield 19, 3) := by decide +kernel
theorem dX8_promiseAll_119 : decode cX8_promiseAll 119 = .ok (.getfield 124, 3) := by decide +kernel
theorem dX8_promiseAll_122 : decode cX8_promiseAll 122 = .ok (.iload 4, 2) := by decide +kernel
theorem dX8_promiseAll_124 : decode cX8_promiseAll 124 = .ok (.iconst 1, 1) := by decide +kernel
theorem dX8_promiseAll_125 : decode cX8_promiseAll 125 = .ok (.iastore, 1) := by decide +kernel
theorem dX8_promiseAll_126 : decode cX8_promiseAll 126 = .ok (.iload_n 1, 1) := by decide +kernel
theorem dX8_promiseAll_127 : decode cX8_promiseAll 127 = .ok (.iload 4, 2) := by decide +kernel
theorem dX8_promiseAll_129 : decode cX8_promiseAll 129 = .ok (.invokestatic 154, 3) := by decide +kernel
theorem dX8_promiseAll_132 : decode cX8_promiseAll 132 = .ok (.ior, 1) := by decide +kernel
theorem dX8_promiseAll_133 : decode cX8_promiseAll 133 = .ok (.istore_n 1, 1) := by decide +kernel
theorem dX8_promiseAll_134 : decode cX8_promiseAll 134 = .ok (.iinc 4 1, 3) := by decide +kernel
theorem dX8_promiseAll_137 : decode cX8_promiseAll 137 = .ok (.goto (-108), 3) := by decide +kernel
theorem dX8_promiseAll_140 : decode cX8_promiseAll 140 = .ok (.iinc 3 (-1), 3) := by decide +kernel
theorem dX8_promiseAll_143 : decode cX8_promiseAll 143 = .ok (.goto (-121), 3) := by decide +kernel
theorem dX8_promiseAll_146 : decode cX8_promiseAll 146 = .ok (.aload_n 0, 1) := by decide +kernel
theorem dX8_promiseAll_147 : decode cX8_promiseAll 147 = .ok (.invokevirtual 83, 3) := by decide +kernel
theorem dX8_promiseAll_150 : decode cX8_promiseAll 150 = .ok (.iload_n 1, 1) := by decide +kernel
theorem dX8_promiseAll_151 : decode cX8_promiseAll 151 = .ok (.invokestatic 163, 3) := by decide +kernel
theorem dX8_promiseAll_154 : decode cX8_promiseAll 154 = .ok (.iload_n 2, 1) := by decide +kernel
theorem dX8_promiseAll_155 : decode cX8_promiseAll 155 = .ok (.isub, 1) := by decide +kernel
theorem dX8_promiseAll_156 : decode cX8_promiseAll 156 = .ok (.ireturn, 1) := by decide +kernel
set_option maxRecDepth 20000 in
theorem ggX8_giveUp_X8_isOrder : GoodIn wsX8_giveUp wsX8_isOrder := goodIn_r _ [6, 7, 8, 9, 5, 10, 72, 73, 74, 75, 76, 77, 78, 79, 80, 81, 82, 83, 84, 90, 91, 92, 93, 94, 95] (by decide +kernel) (by decide +kernel)
set_option maxRecDepth 20000 in
theorem gX8_giveUp_X8_isOrder : GoodIn wsX8_giveUp (wsV RX8 133 RX8 yX8_isOrder wsX8_isOrder) := goodIn_app (goodIn_of _ (by decide +kernel)) ggX8_giveUp_X8_isOrder
set_option maxRecDepth 20000 in
theorem ggX8_giveUp_X8_become : GoodIn wsX8_giveUp wsX8_become := goodIn_r _ [14, 1, 15, 16, 17, 5, 18, 19, 20, 7, 21, 22, 23, 24, 25, 26, 27, 28, 29, 30, 31, 32, 33, 34, 35, 36, 37, 38, 39, 40, 41, 42, 43, 44, 45, 46, 47, 48, 49, 50, 51, 52, 53, 54, 55, 56, 57, 58, 59, 60, 61, 62, 63, 64, 65, 66, 67, 68, 69, 70, 71, 72, 73, 74, 75, 76, 77, 78, 79, 80, 81, 82, 83, 84, 85, 86, 87, 88, 89, 90, 91, 92, 93, 94, 95, 96, 97, 98] (by decide +kernel) (by decide +kernel)
set_option maxRecDepth 20000 in
theorem gX8_giveUp_X8_become : GoodIn wsX8_giveUp (wsV RX8 160 RX8 yX8_become wsX8_become) := goodIn_app (goodIn_of _ (by decide +kernel)) ggX8_giveUp_X8_become
theorem dX8_giveUp_0 : decode cX8_giveUp 0 = .ok (.aload_n 0, 1) := by decide +kernel
theorem dX8_giveUp_1 : decode cX8_giveUp 1 = .ok (.iload_n 1, 1) := by decide +kernel
theorem dX8_giveUp_2 : decode cX8_giveUp 2 = .ok (.invokevirtual 133, 3) := by decide +kernel
theorem dX8_giveUp_5 : decode cX8_giveUp 5 = .ok (.ifCond .ne 5, 3) := by decide +kernel
theorem dX8_giveUp_8 : decode cX8_giveUp 8 = .ok (.iconst (-1), 1) := by decide +kernel
theorem dX8_giveUp_9 : decode cX8_giveUp 9 = .ok (.ireturn, 1) := by decide +kernel
theorem dX8_giveUp_10 : decode cX8_giveUp 10 = .ok (.aload_n 0, 1) := by decide +kernel
theorem dX8_giveUp_11 : decode cX8_giveUp 11 = .ok (.getfield 19, 3) := by decide +kernel
theorem dX8_giveUp_14 : decode cX8_giveUp 14 = .ok (.getfield 124, 3) := by decide +kernel
theorem dX8_giveUp_17 : decode cX8_giveUp 17 = .ok (.iload_n 1, 1) := by decide +kernel
theorem dX8_giveUp_18 : decode cX8_giveUp 18 = .ok (.iaload, 1) := by decide +kernel
theorem dX8_giveUp_19 : decode cX8_giveUp 19 = .ok (.iconst 1, 1) := by decide +kernel
theorem dX8_giveUp_20 : decode cX8_giveUp 20 = .ok (.if_icmp .eq 6, 3) := by decide +kernel
theorem dX8_giveUp_23 : decode cX8_giveUp 23 = .ok (.bipush (-5), 2) := by decide +kernel
theorem dX8_giveUp_25 : decode cX8_giveUp 25 = .ok (.ireturn, 1) := by decide +kernel
theorem dX8_giveUp_26 : decode cX8_giveUp 26 = .ok (.aload_n 0, 1) := by decide +kernel
theorem dX8_giveUp_27 : decode cX8_giveUp 27 = .ok (.iload_n 1, 1) := by decide +kernel
theorem dX8_giveUp_28 : decode cX8_giveUp 28 = .ok (.iconst 0, 1) := by decide +kernel
theorem dX8_giveUp_29 : decode cX8_giveUp 29 = .ok (.invokevirtual 160, 3) := by decide +kernel
theorem dX8_giveUp_32 : decode cX8_giveUp 32 = .ok (.ireturn, 1) := by decide +kernel
set_option maxRecDepth 20000 in
theorem ggX8_gone_X8_isOrder : GoodIn wsX8_gone wsX8_isOrder := goodIn_r _ [6, 7, 8, 9, 5, 10, 72, 73, 74, 75, 76, 77, 78, 79, 80, 81, 82, 83, 84, 90, 91, 92, 93, 94, 95] (by decide +kernel) (by decide +kernel)
set_option maxRecDepth 20000 in
theorem gX8_gone_X8_isOrder : GoodIn wsX8_gone (wsV RX8 133 RX8 yX8_isOrder wsX8_isOrder) := goodIn_app (goodIn_of _ (by decide +kernel)) ggX8_gone_X8_isOrder
set_option maxRecDepth 20000 in
theorem ggX8_gone_X8_become : GoodIn wsX8_gone wsX8_become := goodIn_r _ [14, 1, 15, 16, 17, 5, 18, 19, 20, 7, 21, 22, 23, 24, 25, 26, 27, 28, 29, 30, 31, 32, 33, 34, 35, 36, 37, 38, 39, 40, 41, 42, 43, 44, 45, 46, 47, 48, 49, 50, 51, 52, 53, 54, 55, 56, 57, 58, 59, 60, 61, 62, 63, 64, 65, 66, 67, 68, 69, 70, 71, 72, 73, 74, 75, 76, 77, 78, 79, 80, 81, 82, 83, 84, 85, 86, 87, 88, 89, 90, 91, 92, 93, 94, 95, 96, 97, 98] (by decide +kernel) (by decide +kernel)
set_option maxRecDepth 20000 in
theorem gX8_gone_X8_become : GoodIn wsX8_gone (wsV RX8 160 RX8 yX8_become wsX8_become) := goodIn_app (goodIn_of _ (by decide +kernel)) ggX8_gone_X8_become
theorem dX8_gone_0 : decode cX8_gone 0 = .ok (.aload_n 0, 1) := by decide +kernel
theorem dX8_gone_1 : decode cX8_gone 1 = .ok (.iload_n 1, 1) := by decide +kernel
theorem dX8_gone_2 : decode cX8_gone 2 = .ok (.invokevirtual 133, 3) := by decide +kernel
theorem dX8_gone_5 : decode cX8_gone 5 = .ok (.ifCond .ne 5, 3) := by decide +kernel
theorem dX8_gone_8 : decode cX8_gone 8 = .ok (.iconst (-1), 1) := by decide +kernel
theorem dX8_gone_9 : decode cX8_gone 9 = .ok (.ireturn, 1) := by decide +kernel
theorem dX8_gone_10 : decode cX8_gone 10 = .ok (.aload_n 0, 1) := by decide +kernel
theorem dX8_gone_11 : decode cX8_gone 11 = .ok (.getfield 19, 3) := by decide +kernel
theorem dX8_gone_14 : decode cX8_gone 14 = .ok (.getfield 124, 3) := by decide +kernel
theorem dX8_gone_17 : decode cX8_gone 17 = .ok (.iload_n 1, 1) := by decide +kernel
theorem dX8_gone_18 : decode cX8_gone 18 = .ok (.iaload, 1) := by decide +kernel
theorem dX8_gone_19 : decode cX8_gone 19 = .ok (.iconst 2, 1) := by decide +kernel
theorem dX8_gone_20 : decode cX8_gone 20 = .ok (.if_icmp .ne 6, 3) := by decide +kernel
theorem dX8_gone_23 : decode cX8_gone 23 = .ok (.bipush (-5), 2) := by decide +kernel
theorem dX8_gone_25 : decode cX8_gone 25 = .ok (.ireturn, 1) := by decide +kernel
theorem dX8_gone_26 : decode cX8_gone 26 = .ok (.aload_n 0, 1) := by decide +kernel
theorem dX8_gone_27 : decode cX8_gone 27 = .ok (.iload_n 1, 1) := by decide +kernel
theorem dX8_gone_28 : decode cX8_gone 28 = .ok (.iconst 2, 1) := by decide +kernel
theorem dX8_gone_29 : decode cX8_gone 29 = .ok (.invokevirtual 160, 3) := by decide +kernel
theorem dX8_gone_32 : decode cX8_gone 32 = .ok (.ireturn, 1) := by decide +kernel
set_option maxRecDepth 20000 in
theorem ggX8_move_X8_isOrder : GoodIn wsX8_move wsX8_isOrder := goodIn_r _ [6, 7, 8, 9, 5, 10, 97, 98, 99, 100, 101, 102, 103, 104, 105, 106, 107, 108, 109, 115, 116, 117, 118, 119, 120] (by decide +kernel) (by decide +kernel)
set_option maxRecDepth 20000 in
theorem gX8_move_X8_isOrder : GoodIn wsX8_move (wsV RX8 133 RX8 yX8_isOrder wsX8_isOrder) := goodIn_app (goodIn_of _ (by decide +kernel)) ggX8_move_X8_isOrder
set_option maxRecDepth 20000 in
theorem ggX8_move_X8_isPeriod : GoodIn wsX8_move wsX8_isPeriod := goodIn_r _ [13, 8, 9, 5, 10] (by decide +kernel) (by decide +kernel)
set_option maxRecDepth 20000 in
theorem gX8_move_X8_isPeriod : GoodIn wsX8_move (va_wsS RX8 175 yX8_isPeriod wsX8_isPeriod) := goodIn_app (goodIn_of _ (by decide +kernel)) ggX8_move_X8_isPeriod
set_option maxRecDepth 20000 in
theorem ggX8_move_X8_setOf : GoodIn wsX8_move wsX8_setOf := goodIn_r _ [17, 7, 1, 18, 19, 5, 20, 97, 98, 99, 100, 101, 102, 103, 104, 105, 106, 107, 108, 109, 115, 116, 117, 118, 119, 120, 110, 111, 112, 113, 114] (by decide +kernel) (by decide +kernel)
set_option maxRecDepth 20000 in
theorem gX8_move_X8_setOf : GoodIn wsX8_move (wsV RX8 97 RX8 yX8_setOf wsX8_setOf) := goodIn_app (goodIn_of _ (by decide +kernel)) ggX8_move_X8_setOf
set_option maxRecDepth 20000 in
theorem ggX8_move_X8_areMet : GoodIn wsX8_move wsX8_areMet := goodIn_r _ [24, 25, 7, 1, 26, 27, 28, 29, 30, 31, 32, 33, 34, 35, 36, 37, 38, 39, 40, 19, 5, 20, 41, 42, 43, 44, 45, 46, 47, 48, 49, 50, 51, 52, 53, 54, 55, 56, 57, 97, 98, 99, 100, 101, 102, 103, 104, 105, 106, 107, 108, 109, 121, 122, 115, 116, 117, 118, 119, 120, 110, 111, 112, 113, 114] (by decide +kernel) (by decide +kernel)
set_option maxRecDepth 20000 in
theorem gX8_move_X8_areMet : GoodIn wsX8_move (wsV RX8 157 RX8 yX8_areMet wsX8_areMet) := goodIn_app (goodIn_of _ (by decide +kernel)) ggX8_move_X8_areMet
set_option maxRecDepth 20000 in
theorem ggX8_move_X8_noteChange : GoodIn wsX8_move wsX8_noteChange := goodIn_r _ [61, 62, 63, 1, 7, 64, 65, 66, 67, 68, 69, 70, 71, 72, 73, 74, 75, 76, 77, 78, 79, 80, 81, 82, 83, 84, 85, 86, 87, 88, 89, 90, 91, 92, 93, 94, 95, 96, 97, 98, 99, 100, 101, 102, 103, 104, 105, 106, 107, 108, 109, 115, 116, 117, 118, 119, 120, 123, 124, 125, 110, 111, 112, 113, 114] (by decide +kernel) (by decide +kernel)
set_option maxRecDepth 20000 in
theorem gX8_move_X8_noteChange : GoodIn wsX8_move (wsV RX8 83 RX8 yX8_noteChange wsX8_noteChange) := goodIn_app (goodIn_of _ (by decide +kernel)) ggX8_move_X8_noteChange
theorem dX8_move_0 : decode cX8_move 0 = .ok (.aload_n 0, 1) := by decide +kernel
theorem dX8_move_1 : decode cX8_move 1 = .ok (.iload_n 1, 1) := by decide +kernel
theorem dX8_move_2 : decode cX8_move 2 = .ok (.invokevirtual 133, 3) := by decide +kernel
theorem dX8_move_5 : decode cX8_move 5 = .ok (.ifCond .eq 10, 3) := by decide +kernel
theorem dX8_move_8 : decode cX8_move 8 = .ok (.iload_n 2, 1) := by decide +kernel
theorem dX8_move_9 : decode cX8_move 9 = .ok (.invokestatic 175, 3) := by decide +kernel
theorem dX8_move_12 : decode cX8_move 12 = .ok (.ifCond .ne 5, 3) := by decide +kernel
theorem dX8_move_15 : decode cX8_move 15 = .ok (.iconst (-1), 1) := by decide +kernel
theorem dX8_move_16 : decode cX8_move 16 = .ok (.ireturn, 1) := by decide +kernel
theorem dX8_move_17 : decode cX8_move 17 = .ok (.aload_n 0, 1) := by decide +kernel
theorem dX8_move_18 : decode cX8_move 18 = .ok (.getfield 19, 3) := by decide +kernel
theorem dX8_move_21 : decode cX8_move 21 = .ok (.getfield 124, 3) := by decide +kernel
theorem dX8_move_24 : decode cX8_move 24 = .ok (.iload_n 1, 1) := by decide +kernel
theorem dX8_move_25 : decode cX8_move 25 = .ok (.iaload, 1) := by decide +kernel
theorem dX8_move_26 : decode cX8_move 26 = .ok (.iconst 2, 1) := by decide +kernel
theorem dX8_move_27 : decode cX8_move 27 = .ok (.if_icmp .ne 6, 3) := by decide +kernel
theorem dX8_move_30 : decode cX8_move 30 = .ok (.bipush (-5), 2) := by decide +kernel
theorem dX8_move_32 : decode cX8_move 32 = .ok (.ireturn, 1) := by decide +kernel
theorem dX8_move_33 : decode cX8_move 33 = .ok (.aload_n 0, 1) := by decide +kernel
theorem dX8_move_34 : decode cX8_move 34 = .ok (.getfield 19, 3) := by decide +kernel
theorem dX8_move_37 : decode cX8_move 37 = .ok (.getfield 127, 3) := by decide +kernel
theorem dX8_move_40 : decode cX8_move 40 = .ok (.iload_n 1, 1) := by decide +kernel
theorem dX8_move_41 : decode cX8_move 41 = .ok (.iaload, 1) := by decide +kernel
theorem dX8_move_42 : decode cX8_move 42 = .ok (.istore_n 3, 1) := by decide +kernel
theorem dX8_move_43 : decode cX8_move 43 = .ok (.aload_n 0, 1) := by decide +kernel
theorem dX8_move_44 : decode cX8_move 44 = .ok (.getfield 19, 3) := by decide +kernel
theorem dX8_move_47 : decode cX8_move 47 = .ok (.getfield 127, 3) := by decide +kernel
theorem dX8_move_50 : decode cX8_move 50 = .ok (.iload_n 1, 1) := by decide +kernel
theorem dX8_move_51 : decode cX8_move 51 = .ok (.iload_n 2, 1) := by decide +kernel
theorem dX8_move_52 : decode cX8_move 52 = .ok (.iastore, 1) := by decide +kernel
theorem dX8_move_53 : decode cX8_move 53 = .ok (.aload_n 0, 1) := by decide +kernel
theorem dX8_move_54 : decode cX8_move 54 = .ok (.getfield 19, 3) := by decide +kernel
theorem dX8_move_57 : decode cX8_move 57 = .ok (.getfield 124, 3) := by decide +kernel
theorem dX8_move_60 : decode cX8_move 60 = .ok (.iload_n 1, 1) := by decide +kernel
theorem dX8_move_61 : decode cX8_move 61 = .ok (.iaload, 1) := by decide +kernel
theorem dX8_move_62 : decode cX8_move 62 = .ok (.iconst 1, 1) := by decide +kernel
theorem dX8_move_63 : decode cX8_move 63 = .ok (.if_icmp .ne 28, 3) := by decide +kernel
theorem dX8_move_66 : decode cX8_move 66 = .ok (.aload_n 0, 1) := by decide +kernel
theorem dX8_move_67 : decode cX8_move 67 = .ok (.aload_n 0, 1) := by decide +kernel
theorem dX8_move_68 : decode cX8_move 68 = .ok (.iconst 1, 1) := by decide +kernel
theorem dX8_move_69 : decode cX8_move 69 = .ok (.invokevirtual 97, 3) := by decide +kernel
theorem dX8_move_72 : decode cX8_move 72 = .ok (.invokevirtual 157, 3) := by decide +kernel
theorem dX8_move_75 : decode cX8_move 75 = .ok (.ifCond .ne 16, 3) := by decide +kernel
theorem dX8_move_78 : decode cX8_move 78 = .ok (.aload_n 0, 1) := by decide +kernel
theorem dX8_move_79 : decode cX8_move 79 = .ok (.getfield 19, 3) := by decide +kernel
theorem dX8_move_82 : decode cX8_move 82 = .ok (.getfield 127, 3) := by decide +kernel
theorem dX8_move_85 : decode cX8_move 85 = .ok (.iload_n 1, 1) := by decide +kernel
theorem dX8_move_86 : decode cX8_move 86 = .ok (.iload_n 3, 1) := by decide +kernel
theorem dX8_move_87 : decode cX8_move 87 = .ok (.iastore, 1) := by decide +kernel
theorem dX8_move_88 : decode cX8_move 88 = .ok (.bipush (-2), 2) := by decide +kernel
theorem dX8_move_90 : decode cX8_move 90 = .ok (.ireturn, 1) := by decide +kernel
theorem dX8_move_91 : decode cX8_move 91 = .ok (.aload_n 0, 1) := by decide +kernel
theorem dX8_move_92 : decode cX8_move 92 = .ok (.invokevirtual 83, 3) := by decide +kernel
theorem dX8_move_95 : decode cX8_move 95 = .ok (.iload_n 3, 1) := by decide +kernel
theorem dX8_move_96 : decode cX8_move 96 = .ok (.ireturn, 1) := by decide +kernel
set_option maxRecDepth 20000 in
theorem ggX8_swap_X8_isOrder : GoodIn wsX8_swap wsX8_isOrder := goodIn_r _ [6, 7, 8, 9, 5, 10, 98, 99, 100, 101, 102, 103, 104, 105, 106, 107, 108, 109, 110, 116, 117, 118, 119, 120, 121] (by decide +kernel) (by decide +kernel)
set_option maxRecDepth 20000 in
theorem gX8_swap_X8_isOrder : GoodIn wsX8_swap (wsV RX8 133 RX8 yX8_isOrder wsX8_isOrder) := goodIn_app (goodIn_of _ (by decide +kernel)) ggX8_swap_X8_isOrder
set_option maxRecDepth 20000 in
theorem ggX8_swap_X8_exchangeLatest : GoodIn wsX8_swap wsX8_exchangeLatest := goodIn_r _ [14, 1, 98, 99, 100, 101, 102, 103, 104, 105, 106, 107, 108, 109, 110, 111, 112, 113, 114, 115] (by decide +kernel) (by decide +kernel)
set_option maxRecDepth 20000 in
theorem gX8_swap_X8_exchangeLatest : GoodIn wsX8_swap (wsV RX8 178 RX8 yX8_exchangeLatest wsX8_exchangeLatest) := goodIn_app (goodIn_of _ (by decide +kernel)) ggX8_swap_X8_exchangeLatest
set_option maxRecDepth 20000 in
theorem ggX8_swap_X8_setOf : GoodIn wsX8_swap wsX8_setOf := goodIn_r _ [18, 7, 1, 19, 20, 5, 21, 98, 99, 100, 101, 102, 103, 104, 105, 106, 107, 108, 109, 110, 116, 117, 118, 119, 120, 121, 111, 112, 113, 114, 115] (by decide +kernel) (by decide +kernel)
set_option maxRecDepth 20000 in
theorem gX8_swap_X8_setOf : GoodIn wsX8_swap (wsV RX8 97 RX8 yX8_setOf wsX8_setOf) := goodIn_app (goodIn_of _ (by decide +kernel)) ggX8_swap_X8_setOf
set_option maxRecDepth 20000 in
theorem ggX8_swap_X8_areMet : GoodIn wsX8_swap wsX8_areMet := goodIn_r _ [25, 26, 7, 1, 27, 28, 29, 30, 31, 32, 33, 34, 35, 36, 37, 38, 39, 40, 41, 20, 5, 21, 42, 43, 44, 45, 46, 47, 48, 49, 50, 51, 52, 53, 54, 55, 56, 57, 58, 98, 99, 100, 101, 102, 103, 104, 105, 106, 107, 108, 109, 110, 122, 123, 116, 117, 118, 119, 120, 121, 111, 112, 113, 114, 115] (by decide +kernel) (by decide +kernel)
set_option maxRecDepth 20000 in
theorem gX8_swap_X8_areMet : GoodIn wsX8_swap (wsV RX8 157 RX8 yX8_areMet wsX8_areMet) := goodIn_app (goodIn_of _ (by decide +kernel)) ggX8_swap_X8_areMet
set_option maxRecDepth 20000 in
theorem ggX8_swap_X8_noteChange : GoodIn wsX8_swap wsX8_noteChange := goodIn_r _ [62, 63, 64, 1, 7, 65, 66, 67, 68, 69, 70, 71, 72, 73, 74, 75, 76, 77, 78, 79, 80, 81, 82, 83, 84, 85, 86, 87, 88, 89, 90, 91, 92, 93, 94, 95, 96, 97, 98, 99, 100, 101, 102, 103, 104, 105, 106, 107, 108, 109, 110, 116, 117, 118, 119, 120, 121, 124, 125, 126, 111, 112, 113, 114, 115] (by decide +kernel) (by decide +kernel)
set_option maxRecDepth 20000 in
theorem gX8_swap_X8_noteChange : GoodIn wsX8_swap (wsV RX8 83 RX8 yX8_noteChange wsX8_noteChange) := goodIn_app (goodIn_of _ (by decide +kernel)) ggX8_swap_X8_noteChange
theorem dX8_swap_0 : decode cX8_swap 0 = .ok (.aload_n 0, 1) := by decide +kernel
theorem dX8_swap_1 : decode cX8_swap 1 = .ok (.iload_n 1, 1) := by decide +kernel
theorem dX8_swap_2 : decode cX8_swap 2 = .ok (.invokevirtual 133, 3) := by decide +kernel
theorem dX8_swap_5 : decode cX8_swap 5 = .ok (.ifCond .eq 16, 3) := by decide +kernel
theorem dX8_swap_8 : decode cX8_swap 8 = .ok (.aload_n 0, 1) := by decide +kernel
theorem dX8_swap_9 : decode cX8_swap 9 = .ok (.iload_n 2, 1) := by decide +kernel
theorem dX8_swap_10 : decode cX8_swap 10 = .ok (.invokevirtual 133, 3) := by decide +kernel
theorem dX8_swap_13 : decode cX8_swap 13 = .ok (.ifCond .eq 8, 3) := by decide +kernel
theorem dX8_swap_16 : decode cX8_swap 16 = .ok (.iload_n 1, 1) := by decide +kernel
theorem dX8_swap_17 : decode cX8_swap 17 = .ok (.iload_n 2, 1) := by decide +kernel
theorem dX8_swap_18 : decode cX8_swap 18 = .ok (.if_icmp .ne 5, 3) := by decide +kernel
theorem dX8_swap_21 : decode cX8_swap 21 = .ok (.iconst (-1), 1) := by decide +kernel
theorem dX8_swap_22 : decode cX8_swap 22 = .ok (.ireturn, 1) := by decide +kernel
theorem dX8_swap_23 : decode cX8_swap 23 = .ok (.aload_n 0, 1) := by decide +kernel
theorem dX8_swap_24 : decode cX8_swap 24 = .ok (.getfield 19, 3) := by decide +kernel
theorem dX8_swap_27 : decode cX8_swap 27 = .ok (.getfield 124, 3) := by decide +kernel
theorem dX8_swap_30 : decode cX8_swap 30 = .ok (.iload_n 1, 1) := by decide +kernel
theorem dX8_swap_31 : decode cX8_swap 31 = .ok (.iaload, 1) := by decide +kernel
theorem dX8_swap_32 : decode cX8_swap 32 = .ok (.iconst 1, 1) := by decide +kernel
theorem dX8_swap_33 : decode cX8_swap 33 = .ok (.if_icmp .ne 16, 3) := by decide +kernel
theorem dX8_swap_36 : decode cX8_swap 36 = .ok (.aload_n 0, 1) := by decide +kernel
theorem dX8_swap_37 : decode cX8_swap 37 = .ok (.getfield 19, 3) := by decide +kernel
theorem dX8_swap_40 : decode cX8_swap 40 = .ok (.getfield 124, 3) := by decide +kernel
theorem dX8_swap_43 : decode cX8_swap 43 = .ok (.iload_n 2, 1) := by decide +kernel
theorem dX8_swap_44 : decode cX8_swap 44 = .ok (.iaload, 1) := by decide +kernel
theorem dX8_swap_45 : decode cX8_swap 45 = .ok (.iconst 1, 1) := by decide +kernel
theorem dX8_swap_46 : decode cX8_swap 46 = .ok (.if_icmp .eq 6, 3) := by decide +kernel
theorem dX8_swap_49 : decode cX8_swap 49 = .ok (.bipush (-5), 2) := by decide +kernel
theorem dX8_swap_51 : decode cX8_swap 51 = .ok (.ireturn, 1) := by decide +kernel
theorem dX8_swap_52 : decode cX8_swap 52 = .ok (.aload_n 0, 1) := by decide +kernel
theorem dX8_swap_53 : decode cX8_swap 53 = .ok (.iload_n 1, 1) := by decide +kernel
theorem dX8_swap_54 : decode cX8_swap 54 = .ok (.iload_n 2, 1) := by decide +kernel
theorem dX8_swap_55 : decode cX8_swap 55 = .ok (.invokevirtual 178, 3) := by decide +kernel
theorem dX8_swap_58 : decode cX8_swap 58 = .ok (.aload_n 0, 1) := by decide +kernel
theorem dX8_swap_59 : decode cX8_swap 59 = .ok (.aload_n 0, 1) := by decide +kernel
theorem dX8_swap_60 : decode cX8_swap 60 = .ok (.iconst 1, 1) := by decide +kernel
theorem dX8_swap_61 : decode cX8_swap 61 = .ok (.invokevirtual 97, 3) := by decide +kernel
theorem dX8_swap_64 : decode cX8_swap 64 = .ok (.invokevirtual 157, 3) := by decide +kernel
theorem dX8_swap_67 : decode cX8_swap 67 = .ok (.ifCond .ne 12, 3) := by decide +kernel
theorem dX8_swap_70 : decode cX8_swap 70 = .ok (.aload_n 0, 1) := by decide +kernel
theorem dX8_swap_71 : decode cX8_swap 71 = .ok (.iload_n 1, 1) := by decide +kernel
theorem dX8_swap_72 : decode cX8_swap 72 = .ok (.iload_n 2, 1) := by decide +kernel
theorem dX8_swap_73 : decode cX8_swap 73 = .ok (.invokevirtual 178, 3) := by decide +kernel
theorem dX8_swap_76 : decode cX8_swap 76 = .ok (.bipush (-2), 2) := by decide +kernel
theorem dX8_swap_78 : decode cX8_swap 78 = .ok (.ireturn, 1) := by decide +kernel
theorem dX8_swap_79 : decode cX8_swap 79 = .ok (.aload_n 0, 1) := by decide +kernel
theorem dX8_swap_80 : decode cX8_swap 80 = .ok (.invokevirtual 83, 3) := by decide +kernel
theorem dX8_swap_83 : decode cX8_swap 83 = .ok (.iconst 1, 1) := by decide +kernel
theorem dX8_swap_84 : decode cX8_swap 84 = .ok (.ireturn, 1) := by decide +kernel
set_option maxRecDepth 20000 in
theorem ggX8_left_X8_leftAt : GoodIn wsX8_left wsX8_leftAt := goodIn_r _ [5, 6, 7, 8, 9, 4, 10, 11, 12, 13, 14, 15, 16, 17, 18, 19, 20, 21, 22, 23, 24, 25, 26, 27, 28, 29, 30, 31, 32, 33, 34] (by decide +kernel) (by decide +kernel)
set_option maxRecDepth 20000 in
theorem gX8_left_X8_leftAt : GoodIn wsX8_left (wsV RX8 182 RX8 yX8_leftAt wsX8_leftAt) := goodIn_app (goodIn_of _ (by decide +kernel)) ggX8_left_X8_leftAt
theorem dX8_left_0 : decode cX8_left 0 = .ok (.iload_n 1, 1) := by decide +kernel
theorem dX8_left_1 : decode cX8_left 1 = .ok (.sipush 10000, 3) := by decide +kernel
theorem dX8_left_4 : decode cX8_left 4 = .ok (.idiv, 1) := by decide +kernel
theorem dX8_left_5 : decode cX8_left 5 = .ok (.istore_n 2, 1) := by decide +kernel
theorem dX8_left_6 : decode cX8_left 6 = .ok (.iload_n 1, 1) := by decide +kernel
theorem dX8_left_7 : decode cX8_left 7 = .ok (.bipush 100, 2) := by decide +kernel
theorem dX8_left_9 : decode cX8_left 9 = .ok (.idiv, 1) := by decide +kernel
theorem dX8_left_10 : decode cX8_left 10 = .ok (.bipush 100, 2) := by decide +kernel
theorem dX8_left_12 : decode cX8_left 12 = .ok (.irem, 1) := by decide +kernel
theorem dX8_left_13 : decode cX8_left 13 = .ok (.istore_n 3, 1) := by decide +kernel
theorem dX8_left_14 : decode cX8_left 14 = .ok (.iload_n 1, 1) := by decide +kernel
theorem dX8_left_15 : decode cX8_left 15 = .ok (.bipush 100, 2) := by decide +kernel
theorem dX8_left_17 : decode cX8_left 17 = .ok (.irem, 1) := by decide +kernel
theorem dX8_left_18 : decode cX8_left 18 = .ok (.istore 4, 2) := by decide +kernel
theorem dX8_left_20 : decode cX8_left 20 = .ok (.iload_n 1, 1) := by decide +kernel
theorem dX8_left_21 : decode cX8_left 21 = .ok (.ifCond .lt 22, 3) := by decide +kernel
theorem dX8_left_24 : decode cX8_left 24 = .ok (.iload_n 2, 1) := by decide +kernel
theorem dX8_left_25 : decode cX8_left 25 = .ok (.bipush 13, 2) := by decide +kernel
theorem dX8_left_27 : decode cX8_left 27 = .ok (.if_icmp .ge 16, 3) := by decide +kernel
theorem dX8_left_30 : decode cX8_left 30 = .ok (.iload_n 3, 1) := by decide +kernel
theorem dX8_left_31 : decode cX8_left 31 = .ok (.bipush 13, 2) := by decide +kernel
theorem dX8_left_33 : decode cX8_left 33 = .ok (.if_icmp .ge 10, 3) := by decide +kernel
theorem dX8_left_36 : decode cX8_left 36 = .ok (.iload 4, 2) := by decide +kernel
theorem dX8_left_38 : decode cX8_left 38 = .ok (.bipush 13, 2) := by decide +kernel
theorem dX8_left_40 : decode cX8_left 40 = .ok (.if_icmp .lt 7, 3) := by decide +kernel
theorem dX8_left_43 : decode cX8_left 43 = .ok (.sipush (-10000), 3) := by decide +kernel
theorem dX8_left_46 : decode cX8_left 46 = .ok (.ireturn, 1) := by decide +kernel
theorem dX8_left_47 : decode cX8_left 47 = .ok (.aload_n 0, 1) := by decide +kernel
theorem dX8_left_48 : decode cX8_left 48 = .ok (.iload_n 2, 1) := by decide +kernel
theorem dX8_left_49 : decode cX8_left 49 = .ok (.iload_n 3, 1) := by decide +kernel
theorem dX8_left_50 : decode cX8_left 50 = .ok (.iload 4, 2) := by decide +kernel
theorem dX8_left_52 : decode cX8_left 52 = .ok (.invokevirtual 182, 3) := by decide +kernel
theorem dX8_left_55 : decode cX8_left 55 = .ok (.ireturn, 1) := by decide +kernel
set_option maxRecDepth 20000 in
theorem ggX8_hinders_X8_isOrder : GoodIn wsX8_hinders wsX8_isOrder := goodIn_r _ [9, 3, 10, 11, 8, 12, 55, 56, 57, 58, 59, 60, 61, 62, 63, 64, 65, 66, 67, 73, 74, 75, 76, 77, 78] (by decide +kernel) (by decide +kernel)
set_option maxRecDepth 20000 in
theorem gX8_hinders_X8_isOrder : GoodIn wsX8_hinders (wsV RX8 133 RX8 yX8_isOrder wsX8_isOrder) := goodIn_app (goodIn_of _ (by decide +kernel)) ggX8_hinders_X8_isOrder
set_option maxRecDepth 20000 in
theorem ggX8_hinders_X8_within : GoodIn wsX8_hinders wsX8_within := goodIn_r _ [12] (by decide +kernel) (by decide +kernel)
set_option maxRecDepth 20000 in
theorem gX8_hinders_X8_within : GoodIn wsX8_hinders (va_wsS RX8 76 yX8_within wsX8_within) := goodIn_app (goodIn_of _ (by decide +kernel)) ggX8_hinders_X8_within
set_option maxRecDepth 20000 in
theorem ggX8_hinders_X8_setOf : GoodIn wsX8_hinders wsX8_setOf := goodIn_r _ [16, 3, 1, 17, 18, 8, 19, 55, 56, 57, 58, 59, 60, 61, 62, 63, 64, 65, 66, 67, 73, 74, 75, 76, 77, 78, 68, 69, 70, 71, 72] (by decide +kernel) (by decide +kernel)
set_option maxRecDepth 20000 in
theorem gX8_hinders_X8_setOf : GoodIn wsX8_hinders (wsV RX8 97 RX8 yX8_setOf wsX8_setOf) := goodIn_app (goodIn_of _ (by decide +kernel)) ggX8_hinders_X8_setOf
set_option maxRecDepth 20000 in
theorem ggX8_hinders_X8_bit : GoodIn wsX8_hinders wsX8_bit := goodIn_r _ [19] (by decide +kernel) (by decide +kernel)
set_option maxRecDepth 20000 in
theorem gX8_hinders_X8_bit : GoodIn wsX8_hinders (va_wsS RX8 154 yX8_bit wsX8_bit) := goodIn_app (goodIn_of _ (by decide +kernel)) ggX8_hinders_X8_bit
set_option maxRecDepth 20000 in
theorem ggX8_hinders_X6_lay : GoodIn wsX8_hinders wsX6_lay := goodIn_r _ [24, 25, 26, 27, 28, 29, 23, 30, 31, 32, 33, 34, 18, 8, 19, 35, 36, 37, 38, 39, 40, 41, 42, 43, 79, 80, 73, 74, 75, 76, 77, 78, 68, 69, 70, 71, 72] (by decide +kernel) (by decide +kernel)
set_option maxRecDepth 20000 in
theorem gX8_hinders_X6_lay : GoodIn wsX8_hinders (wsV RX8 186 RX6 yX6_lay wsX6_lay) := goodIn_app (goodIn_of _ (by decide +kernel)) ggX8_hinders_X6_lay
set_option maxRecDepth 20000 in
theorem ggX8_hinders_X6_tightest : GoodIn wsX8_hinders wsX6_tightest := goodIn_r _ [47, 25, 79, 80] (by decide +kernel) (by decide +kernel)
set_option maxRecDepth 20000 in
theorem gX8_hinders_X6_tightest : GoodIn wsX8_hinders (wsV RX8 190 RX6 yX6_tightest wsX6_tightest) := goodIn_app (goodIn_of _ (by decide +kernel)) ggX8_hinders_X6_tightest
set_option maxRecDepth 20000 in
theorem ggX8_hinders_X6_leftIn : GoodIn wsX8_hinders wsX6_leftIn := goodIn_r _ [51, 25, 79, 80] (by decide +kernel) (by decide +kernel)
set_option maxRecDepth 20000 in
theorem gX8_hinders_X6_leftIn : GoodIn wsX8_hinders (wsV RX8 194 RX6 yX6_leftIn wsX6_leftIn) := goodIn_app (goodIn_of _ (by decide +kernel)) ggX8_hinders_X6_leftIn
set_option maxRecDepth 20000 in
theorem ggX8_hinders_X8_stepOf : GoodIn wsX8_hinders wsX8_stepOf := goodIn_r _ [54] (by decide +kernel) (by decide +kernel)
set_option maxRecDepth 20000 in
theorem gX8_hinders_X8_stepOf : GoodIn wsX8_hinders (va_wsS RX8 197 yX8_stepOf wsX8_stepOf) := goodIn_app (goodIn_of _ (by decide +kernel)) ggX8_hinders_X8_stepOf
theorem dX8_hinders_0 : decode cX8_hinders 0 = .ok (.aload_n 0, 1) := by decide +kernel
theorem dX8_hinders_1 : decode cX8_hinders 1 = .ok (.iload_n 1, 1) := by decide +kernel
theorem dX8_hinders_2 : decode cX8_hinders 2 = .ok (.invokevirtual 133, 3) := by decide +kernel
theorem dX8_hinders_5 : decode cX8_hinders 5 = .ok (.ifCond .eq 12, 3) := by decide +kernel
theorem dX8_hinders_8 : decode cX8_hinders 8 = .ok (.iload_n 2, 1) := by decide +kernel
theorem dX8_hinders_9 : decode cX8_hinders 9 = .ok (.iconst (-1), 1) := by decide +kernel
theorem dX8_hinders_10 : decode cX8_hinders 10 = .ok (.iconst 0, 1) := by decide +kernel
theorem dX8_hinders_11 : decode cX8_hinders 11 = .ok (.invokestatic 76, 3) := by decide +kernel
theorem dX8_hinders_14 : decode cX8_hinders 14 = .ok (.ifCond .ne 5, 3) := by decide +kernel
theorem dX8_hinders_17 : decode cX8_hinders 17 = .ok (.iconst (-1), 1) := by decide +kernel
theorem dX8_hinders_18 : decode cX8_hinders 18 = .ok (.ireturn, 1) := by decide +kernel
theorem dX8_hinders_19 : decode cX8_hinders 19 = .ok (.aload_n 0, 1) := by decide +kernel
theorem dX8_hinders_20 : decode cX8_hinders 20 = .ok (.getfield 19, 3) := by decide +kernel
theorem dX8_hinders_23 : decode cX8_hinders 23 = .ok (.getfield 124, 3) := by decide +kernel
theorem dX8_hinders_26 : decode cX8_hinders 26 = .ok (.iload_n 1, 1) := by decide +kernel
theorem dX8_hinders_27 : decode cX8_hinders 27 = .ok (.iaload, 1) := by decide +kernel
theorem dX8_hinders_28 : decode cX8_hinders 28 = .ok (.ifCond .eq 6, 3) := by decide +kernel
theorem dX8_hinders_31 : decode cX8_hinders 31 = .ok (.bipush (-5), 2) := by decide +kernel
theorem dX8_hinders_33 : decode cX8_hinders 33 = .ok (.ireturn, 1) := by decide +kernel
theorem dX8_hinders_34 : decode cX8_hinders 34 = .ok (.aload_n 0, 1) := by decide +kernel
theorem dX8_hinders_35 : decode cX8_hinders 35 = .ok (.getfield 43, 3) := by decide +kernel
theorem dX8_hinders_38 : decode cX8_hinders 38 = .ok (.aload_n 0, 1) := by decide +kernel
theorem dX8_hinders_39 : decode cX8_hinders 39 = .ok (.getfield 12, 3) := by decide +kernel
theorem dX8_hinders_42 : decode cX8_hinders 42 = .ok (.aload_n 0, 1) := by decide +kernel
theorem dX8_hinders_43 : decode cX8_hinders 43 = .ok (.getfield 19, 3) := by decide +kernel
theorem dX8_hinders_46 : decode cX8_hinders 46 = .ok (.aload_n 0, 1) := by decide +kernel
theorem dX8_hinders_47 : decode cX8_hinders 47 = .ok (.iconst 1, 1) := by decide +kernel
theorem dX8_hinders_48 : decode cX8_hinders 48 = .ok (.invokevirtual 97, 3) := by decide +kernel
theorem dX8_hinders_51 : decode cX8_hinders 51 = .ok (.iload_n 1, 1) := by decide +kernel
theorem dX8_hinders_52 : decode cX8_hinders 52 = .ok (.invokestatic 154, 3) := by decide +kernel
theorem dX8_hinders_55 : decode cX8_hinders 55 = .ok (.ior, 1) := by decide +kernel
theorem dX8_hinders_56 : decode cX8_hinders 56 = .ok (.invokevirtual 186, 3) := by decide +kernel
theorem dX8_hinders_59 : decode cX8_hinders 59 = .ok (.aload_n 0, 1) := by decide +kernel
theorem dX8_hinders_60 : decode cX8_hinders 60 = .ok (.getfield 43, 3) := by decide +kernel
theorem dX8_hinders_63 : decode cX8_hinders 63 = .ok (.invokevirtual 190, 3) := by decide +kernel
theorem dX8_hinders_66 : decode cX8_hinders 66 = .ok (.istore_n 3, 1) := by decide +kernel
theorem dX8_hinders_67 : decode cX8_hinders 67 = .ok (.aload_n 0, 1) := by decide +kernel
theorem dX8_hinders_68 : decode cX8_hinders 68 = .ok (.getfield 43, 3) := by decide +kernel
theorem dX8_hinders_71 : decode cX8_hinders 71 = .ok (.iload_n 3, 1) := by decide +kernel
theorem dX8_hinders_72 : decode cX8_hinders 72 = .ok (.invokevirtual 194, 3) := by decide +kernel
theorem dX8_hinders_75 : decode cX8_hinders 75 = .ok (.istore 4, 2) := by decide +kernel
theorem dX8_hinders_77 : decode cX8_hinders 77 = .ok (.iload 4, 2) := by decide +kernel
theorem dX8_hinders_79 : decode cX8_hinders 79 = .ok (.ifCond .lt 6, 3) := by decide +kernel
theorem dX8_hinders_82 : decode cX8_hinders 82 = .ok (.bipush (-2), 2) := by decide +kernel
theorem dX8_hinders_84 : decode cX8_hinders 84 = .ok (.ireturn, 1) := by decide +kernel
theorem dX8_hinders_85 : decode cX8_hinders 85 = .ok (.iload_n 2, 1) := by decide +kernel
theorem dX8_hinders_86 : decode cX8_hinders 86 = .ok (.iconst (-1), 1) := by decide +kernel
theorem dX8_hinders_87 : decode cX8_hinders 87 = .ok (.if_icmp .ne 10, 3) := by decide +kernel
theorem dX8_hinders_90 : decode cX8_hinders 90 = .ok (.iload_n 3, 1) := by decide +kernel
theorem dX8_hinders_91 : decode cX8_hinders 91 = .ok (.invokestatic 197, 3) := by decide +kernel
theorem dX8_hinders_94 : decode cX8_hinders 94 = .ok (.goto 8, 3) := by decide +kernel
theorem dX8_hinders_97 : decode cX8_hinders 97 = .ok (.ldc 200, 2) := by decide +kernel
theorem dX8_hinders_99 : decode cX8_hinders 99 = .ok (.iload 4, 2) := by decide +kernel
theorem dX8_hinders_101 : decode cX8_hinders 101 = .ok (.iadd, 1) := by decide +kernel
theorem dX8_hinders_102 : decode cX8_hinders 102 = .ok (.ireturn, 1) := by decide +kernel
set_option maxRecDepth 20000 in
theorem ggX8_could_X8_isOrder : GoodIn wsX8_could wsX8_isOrder := goodIn_r _ [7, 2, 8, 9, 6, 10, 88, 89, 90, 91, 92, 93, 94, 95, 96, 97, 98, 99, 100, 106, 107, 108, 109, 110, 111] (by decide +kernel) (by decide +kernel)
set_option maxRecDepth 20000 in
theorem gX8_could_X8_isOrder : GoodIn wsX8_could (wsV RX8 133 RX8 yX8_isOrder wsX8_isOrder) := goodIn_app (goodIn_of _ (by decide +kernel)) ggX8_could_X8_isOrder
set_option maxRecDepth 20000 in
theorem ggX8_could_X8_within : GoodIn wsX8_could wsX8_within := goodIn_r _ [10] (by decide +kernel) (by decide +kernel)
set_option maxRecDepth 20000 in
theorem gX8_could_X8_within : GoodIn wsX8_could (va_wsS RX8 76 yX8_within wsX8_within) := goodIn_app (goodIn_of _ (by decide +kernel)) ggX8_could_X8_within
set_option maxRecDepth 20000 in
theorem ggX8_could_X8_setOf : GoodIn wsX8_could wsX8_setOf := goodIn_r _ [14, 2, 1, 15, 16, 6, 17, 88, 89, 90, 91, 92, 93, 94, 95, 96, 97, 98, 99, 100, 106, 107, 108, 109, 110, 111, 101, 102, 103, 104, 105] (by decide +kernel) (by decide +kernel)
set_option maxRecDepth 20000 in
theorem gX8_could_X8_setOf : GoodIn wsX8_could (wsV RX8 97 RX8 yX8_setOf wsX8_setOf) := goodIn_app (goodIn_of _ (by decide +kernel)) ggX8_could_X8_setOf
set_option maxRecDepth 20000 in
theorem ggX8_could_X8_bit : GoodIn wsX8_could wsX8_bit := goodIn_r _ [17] (by decide +kernel) (by decide +kernel)
set_option maxRecDepth 20000 in
theorem gX8_could_X8_bit : GoodIn wsX8_could (va_wsS RX8 154 yX8_bit wsX8_bit) := goodIn_app (goodIn_of _ (by decide +kernel)) ggX8_could_X8_bit
set_option maxRecDepth 20000 in
theorem ggX8_could_X8_roomOf : GoodIn wsX8_could wsX8_roomOf := goodIn_r _ [21, 22, 23, 24, 6, 25, 1, 26, 27, 28, 29, 30, 31, 32, 33, 2, 15, 16, 17, 88, 89, 90, 91, 92, 93, 94, 95, 96, 97, 98, 99, 100, 101, 102, 103, 104, 105, 106, 107, 108, 109, 110, 111] (by decide +kernel) (by decide +kernel)
set_option maxRecDepth 20000 in
theorem gX8_could_X8_roomOf : GoodIn wsX8_could (wsV RX8 151 RX8 yX8_roomOf wsX8_roomOf) := goodIn_app (goodIn_of _ (by decide +kernel)) ggX8_could_X8_roomOf
set_option maxRecDepth 20000 in
theorem ggX8_could_X8_areMet : GoodIn wsX8_could wsX8_areMet := goodIn_r _ [37, 38, 2, 1, 39, 40, 41, 42, 43, 44, 45, 46, 47, 48, 49, 50, 51, 52, 53, 16, 6, 17, 54, 55, 56, 57, 58, 59, 60, 61, 62, 63, 64, 65, 66, 67, 68, 69, 70, 88, 89, 90, 91, 92, 93, 94, 95, 96, 97, 98, 99, 100, 112, 113, 106, 107, 108, 109, 110, 111, 101, 102, 103, 104, 105] (by decide +kernel) (by decide +kernel)
set_option maxRecDepth 20000 in
theorem gX8_could_X8_areMet : GoodIn wsX8_could (wsV RX8 157 RX8 yX8_areMet wsX8_areMet) := goodIn_app (goodIn_of _ (by decide +kernel)) ggX8_could_X8_areMet
set_option maxRecDepth 20000 in
theorem ggX8_could_X8_earliest : GoodIn wsX8_could wsX8_earliest := goodIn_r _ [74, 2, 38, 75, 76, 77, 42, 78, 44, 79, 80, 81, 82, 57, 6, 58, 88, 89, 90, 91, 92, 93, 94, 95, 96, 97, 98, 99, 100, 106, 107, 108, 109, 110, 111, 112, 113] (by decide +kernel) (by decide +kernel)
set_option maxRecDepth 20000 in
theorem gX8_could_X8_earliest : GoodIn wsX8_could (wsV RX8 201 RX8 yX8_earliest wsX8_earliest) := goodIn_app (goodIn_of _ (by decide +kernel)) ggX8_could_X8_earliest
set_option maxRecDepth 20000 in
theorem ggX8_could_X8_asMuch : GoodIn wsX8_could wsX8_asMuch := goodIn_r _ [86, 87, 80, 81, 82, 38, 2, 1, 75, 76, 77, 42, 78, 44, 79, 57, 6, 58, 88, 89, 90, 91, 92, 93, 94, 95, 96, 97, 98, 99, 100, 106, 107, 108, 109, 110, 111, 101, 102, 103, 104, 105, 112, 113] (by decide +kernel) (by decide +kernel)
set_option maxRecDepth 20000 in
theorem gX8_could_X8_asMuch : GoodIn wsX8_could (wsV RX8 204 RX8 yX8_asMuch wsX8_asMuch) := goodIn_app (goodIn_of _ (by decide +kernel)) ggX8_could_X8_asMuch
theorem dX8_could_0 : decode cX8_could 0 = .ok (.aload_n 0, 1) := by decide +kernel
theorem dX8_could_1 : decode cX8_could 1 = .ok (.iload_n 1, 1) := by decide +kernel
theorem dX8_could_2 : decode cX8_could 2 = .ok (.invokevirtual 133, 3) := by decide +kernel
theorem dX8_could_5 : decode cX8_could 5 = .ok (.ifCond .eq 12, 3) := by decide +kernel
theorem dX8_could_8 : decode cX8_could 8 = .ok (.iload_n 2, 1) := by decide +kernel
theorem dX8_could_9 : decode cX8_could 9 = .ok (.iconst 0, 1) := by decide +kernel
theorem dX8_could_10 : decode cX8_could 10 = .ok (.iconst 1, 1) := by decide +kernel
theorem dX8_could_11 : decode cX8_could 11 = .ok (.invokestatic 76, 3) := by decide +kernel
theorem dX8_could_14 : decode cX8_could 14 = .ok (.ifCond .ne 5, 3) := by decide +kernel
theorem dX8_could_17 : decode cX8_could 17 = .ok (.iconst (-1), 1) := by decide +kernel
theorem dX8_could_18 : decode cX8_could 18 = .ok (.ireturn, 1) := by decide +kernel
theorem dX8_could_19 : decode cX8_could 19 = .ok (.aload_n 0, 1) := by decide +kernel
theorem dX8_could_20 : decode cX8_could 20 = .ok (.getfield 19, 3) := by decide +kernel
theorem dX8_could_23 : decode cX8_could 23 = .ok (.getfield 124, 3) := by decide +kernel
theorem dX8_could_26 : decode cX8_could 26 = .ok (.iload_n 1, 1) := by decide +kernel
theorem dX8_could_27 : decode cX8_could 27 = .ok (.iaload, 1) := by decide +kernel
theorem dX8_could_28 : decode cX8_could 28 = .ok (.iconst 2, 1) := by decide +kernel
theorem dX8_could_29 : decode cX8_could 29 = .ok (.if_icmp .ne 6, 3) := by decide +kernel
theorem dX8_could_32 : decode cX8_could 32 = .ok (.bipush (-5), 2) := by decide +kernel
theorem dX8_could_34 : decode cX8_could 34 = .ok (.ireturn, 1) := by decide +kernel
theorem dX8_could_35 : decode cX8_could 35 = .ok (.aload_n 0, 1) := by decide +kernel
theorem dX8_could_36 : decode cX8_could 36 = .ok (.iconst 1, 1) := by decide +kernel
theorem dX8_could_37 : decode cX8_could 37 = .ok (.invokevirtual 97, 3) := by decide +kernel
theorem dX8_could_40 : decode cX8_could 40 = .ok (.iload_n 1, 1) := by decide +kernel
theorem dX8_could_41 : decode cX8_could 41 = .ok (.invokestatic 154, 3) := by decide +kernel
theorem dX8_could_44 : decode cX8_could 44 = .ok (.iconst (-1), 1) := by decide +kernel
theorem dX8_could_45 : decode cX8_could 45 = .ok (.ixor, 1) := by decide +kernel
theorem dX8_could_46 : decode cX8_could 46 = .ok (.iand, 1) := by decide +kernel
theorem dX8_could_47 : decode cX8_could 47 = .ok (.istore_n 3, 1) := by decide +kernel
theorem dX8_could_48 : decode cX8_could 48 = .ok (.aload_n 0, 1) := by decide +kernel
theorem dX8_could_49 : decode cX8_could 49 = .ok (.aload_n 0, 1) := by decide +kernel
theorem dX8_could_50 : decode cX8_could 50 = .ok (.getfield 12, 3) := by decide +kernel
theorem dX8_could_53 : decode cX8_could 53 = .ok (.getfield 142, 3) := by decide +kernel
theorem dX8_could_56 : decode cX8_could 56 = .ok (.iload_n 1, 1) := by decide +kernel
theorem dX8_could_57 : decode cX8_could 57 = .ok (.iaload, 1) := by decide +kernel
theorem dX8_could_58 : decode cX8_could 58 = .ok (.iload_n 3, 1) := by decide +kernel
theorem dX8_could_59 : decode cX8_could 59 = .ok (.invokevirtual 151, 3) := by decide +kernel
theorem dX8_could_62 : decode cX8_could 62 = .ok (.istore 4, 2) := by decide +kernel
theorem dX8_could_64 : decode cX8_could 64 = .ok (.aload_n 0, 1) := by decide +kernel
theorem dX8_could_65 : decode cX8_could 65 = .ok (.iload_n 3, 1) := by decide +kernel
theorem dX8_could_66 : decode cX8_could 66 = .ok (.invokevirtual 157, 3) := by decide +kernel
theorem dX8_could_69 : decode cX8_could 69 = .ok (.ifCond .ne 6, 3) := by decide +kernel
theorem dX8_could_72 : decode cX8_could 72 = .ok (.bipush (-2), 2) := by decide +kernel
theorem dX8_could_74 : decode cX8_could 74 = .ok (.ireturn, 1) := by decide +kernel
theorem dX8_could_75 : decode cX8_could 75 = .ok (.iload_n 2, 1) := by decide +kernel
theorem dX8_could_76 : decode cX8_could 76 = .ok (.ifCond .ne 13, 3) := by decide +kernel
theorem dX8_could_79 : decode cX8_could 79 = .ok (.aload_n 0, 1) := by decide +kernel
theorem dX8_could_80 : decode cX8_could 80 = .ok (.iload_n 1, 1) := by decide +kernel
theorem dX8_could_81 : decode cX8_could 81 = .ok (.iload 4, 2) := by decide +kernel
theorem dX8_could_83 : decode cX8_could 83 = .ok (.invokevirtual 201, 3) := by decide +kernel
theorem dX8_could_86 : decode cX8_could 86 = .ok (.goto 10, 3) := by decide +kernel
theorem dX8_could_89 : decode cX8_could 89 = .ok (.aload_n 0, 1) := by decide +kernel
theorem dX8_could_90 : decode cX8_could 90 = .ok (.iload_n 1, 1) := by decide +kernel
theorem dX8_could_91 : decode cX8_could 91 = .ok (.iload 4, 2) := by decide +kernel
theorem dX8_could_93 : decode cX8_could 93 = .ok (.invokevirtual 204, 3) := by decide +kernel
theorem dX8_could_96 : decode cX8_could 96 = .ok (.ireturn, 1) := by decide +kernel
set_option maxRecDepth 20000 in
theorem ggX8_spare_X8_within : GoodIn wsX8_spare wsX8_within := goodIn_r _ [9] (by decide +kernel) (by decide +kernel)
set_option maxRecDepth 20000 in
theorem gX8_spare_X8_within : GoodIn wsX8_spare (va_wsS RX8 76 yX8_within wsX8_within) := goodIn_app (goodIn_of _ (by decide +kernel)) ggX8_spare_X8_within
set_option maxRecDepth 20000 in
theorem ggX8_spare_X8_isPeriod : GoodIn wsX8_spare wsX8_isPeriod := goodIn_r _ [12, 6, 7, 8, 9] (by decide +kernel) (by decide +kernel)
set_option maxRecDepth 20000 in
theorem gX8_spare_X8_isPeriod : GoodIn wsX8_spare (va_wsS RX8 175 yX8_isPeriod wsX8_isPeriod) := goodIn_app (goodIn_of _ (by decide +kernel)) ggX8_spare_X8_isPeriod
set_option maxRecDepth 20000 in
theorem ggX8_spare_X8_setOf : GoodIn wsX8_spare wsX8_setOf := goodIn_r _ [16, 17, 18, 19, 20, 8, 21, 65, 66, 67, 68, 69, 70, 71, 72, 73, 74, 75, 76, 77, 78, 79, 80, 81, 82, 83, 84, 85, 86, 87, 88] (by decide +kernel) (by decide +kernel)
set_option maxRecDepth 20000 in
theorem gX8_spare_X8_setOf : GoodIn wsX8_spare (wsV RX8 97 RX8 yX8_setOf wsX8_setOf) := goodIn_app (goodIn_of _ (by decide +kernel)) ggX8_spare_X8_setOf
set_option maxRecDepth 20000 in
theorem ggX8_spare_X8_areMet : GoodIn wsX8_spare wsX8_areMet := goodIn_r _ [25, 1, 17, 18, 26, 27, 28, 29, 30, 31, 32, 33, 34, 35, 36, 37, 38, 39, 40, 20, 8, 21, 41, 42, 43, 44, 45, 46, 47, 48, 49, 50, 51, 52, 53, 54, 55, 56, 57, 65, 66, 67, 68, 69, 70, 71, 72, 73, 74, 75, 76, 77, 89, 90, 78, 79, 80, 81, 82, 83, 84, 85, 86, 87, 88] (by decide +kernel) (by decide +kernel)
set_option maxRecDepth 20000 in
theorem gX8_spare_X8_areMet : GoodIn wsX8_spare (wsV RX8 157 RX8 yX8_areMet wsX8_areMet) := goodIn_app (goodIn_of _ (by decide +kernel)) ggX8_spare_X8_areMet
set_option maxRecDepth 20000 in
theorem ggX8_spare_X6_least : GoodIn wsX8_spare wsX6_least := goodIn_r _ [61, 31, 62, 63, 4, 64, 44, 8, 45, 89, 90] (by decide +kernel) (by decide +kernel)
set_option maxRecDepth 20000 in
theorem gX8_spare_X6_least : GoodIn wsX8_spare (wsV RX8 207 RX6 yX6_least wsX6_least) := goodIn_app (goodIn_of _ (by decide +kernel)) ggX8_spare_X6_least
theorem dX8_spare_0 : decode cX8_spare 0 = .ok (.iload_n 1, 1) := by decide +kernel
theorem dX8_spare_1 : decode cX8_spare 1 = .ok (.iconst 1, 1) := by decide +kernel
theorem dX8_spare_2 : decode cX8_spare 2 = .ok (.bipush 7, 2) := by decide +kernel
theorem dX8_spare_4 : decode cX8_spare 4 = .ok (.invokestatic 76, 3) := by decide +kernel
theorem dX8_spare_7 : decode cX8_spare 7 = .ok (.ifCond .eq 10, 3) := by decide +kernel
theorem dX8_spare_10 : decode cX8_spare 10 = .ok (.iload_n 2, 1) := by decide +kernel
theorem dX8_spare_11 : decode cX8_spare 11 = .ok (.invokestatic 175, 3) := by decide +kernel
theorem dX8_spare_14 : decode cX8_spare 14 = .ok (.ifCond .ne 5, 3) := by decide +kernel
theorem dX8_spare_17 : decode cX8_spare 17 = .ok (.iconst (-1), 1) := by decide +kernel
theorem dX8_spare_18 : decode cX8_spare 18 = .ok (.ireturn, 1) := by decide +kernel
theorem dX8_spare_19 : decode cX8_spare 19 = .ok (.aload_n 0, 1) := by decide +kernel
theorem dX8_spare_20 : decode cX8_spare 20 = .ok (.aload_n 0, 1) := by decide +kernel
theorem dX8_spare_21 : decode cX8_spare 21 = .ok (.iconst 1, 1) := by decide +kernel
theorem dX8_spare_22 : decode cX8_spare 22 = .ok (.invokevirtual 97, 3) := by decide +kernel
theorem dX8_spare_25 : decode cX8_spare 25 = .ok (.invokevirtual 157, 3) := by decide +kernel
theorem dX8_spare_28 : decode cX8_spare 28 = .ok (.ifCond .ne 5, 3) := by decide +kernel
theorem dX8_spare_31 : decode cX8_spare 31 = .ok (.iconst 0, 1) := by decide +kernel
theorem dX8_spare_32 : decode cX8_spare 32 = .ok (.ireturn, 1) := by decide +kernel
theorem dX8_spare_33 : decode cX8_spare 33 = .ok (.iconst 0, 1) := by decide +kernel
theorem dX8_spare_34 : decode cX8_spare 34 = .ok (.aload_n 0, 1) := by decide +kernel
theorem dX8_spare_35 : decode cX8_spare 35 = .ok (.getfield 43, 3) := by decide +kernel
theorem dX8_spare_38 : decode cX8_spare 38 = .ok (.iload_n 1, 1) := by decide +kernel
theorem dX8_spare_39 : decode cX8_spare 39 = .ok (.iload_n 2, 1) := by decide +kernel
theorem dX8_spare_40 : decode cX8_spare 40 = .ok (.invokevirtual 207, 3) := by decide +kernel
theorem dX8_spare_43 : decode cX8_spare 43 = .ok (.invokestatic 210, 3) := by decide +kernel
theorem dX8_spare_46 : decode cX8_spare 46 = .ok (.ireturn, 1) := by decide +kernel
set_option maxRecDepth 20000 in
theorem ggX8_filled_X8_within : GoodIn wsX8_filled wsX8_within := goodIn_r _ [9] (by decide +kernel) (by decide +kernel)
set_option maxRecDepth 20000 in
theorem gX8_filled_X8_within : GoodIn wsX8_filled (va_wsS RX8 76 yX8_within wsX8_within) := goodIn_app (goodIn_of _ (by decide +kernel)) ggX8_filled_X8_within
set_option maxRecDepth 20000 in
theorem ggX8_filled_X8_setOf : GoodIn wsX8_filled wsX8_setOf := goodIn_r _ [13, 3, 4, 14, 15, 8, 16, 98, 99, 100, 101, 102, 103, 104, 105, 106, 107, 108, 109, 110, 118, 119, 120, 121, 122, 123, 124, 125, 126, 127, 128] (by decide +kernel) (by decide +kernel)
set_option maxRecDepth 20000 in
theorem gX8_filled_X8_setOf : GoodIn wsX8_filled (wsV RX8 97 RX8 yX8_setOf wsX8_setOf) := goodIn_app (goodIn_of _ (by decide +kernel)) ggX8_filled_X8_setOf
set_option maxRecDepth 20000 in
theorem ggX8_filled_J6_bitCount_0f7a4 : GoodIn wsX8_filled wsJ6_bitCount_0f7a4 := goodIn_r _ [20, 21, 22, 23] (by decide +kernel) (by decide +kernel)
set_option maxRecDepth 20000 in
theorem gX8_filled_J6_bitCount_0f7a4 : GoodIn wsX8_filled (va_wsS RX8 163 yJ6_bitCount_0f7a4 wsJ6_bitCount_0f7a4) := goodIn_app (goodIn_of _ (by decide +kernel)) ggX8_filled_J6_bitCount_0f7a4
set_option maxRecDepth 20000 in
theorem ggX8_filled_X8_roomOf : GoodIn wsX8_filled wsX8_roomOf := goodIn_r _ [27, 28, 29, 30, 8, 31, 4, 32, 33, 34, 35, 36, 37, 38, 39, 3, 14, 15, 16, 98, 99, 100, 101, 102, 103, 104, 105, 106, 107, 108, 109, 110, 124, 125, 126, 127, 128, 118, 119, 120, 121, 122, 123] (by decide +kernel) (by decide +kernel)
set_option maxRecDepth 20000 in
theorem gX8_filled_X8_roomOf : GoodIn wsX8_filled (wsV RX8 151 RX8 yX8_roomOf wsX8_roomOf) := goodIn_app (goodIn_of _ (by decide +kernel)) ggX8_filled_X8_roomOf
set_option maxRecDepth 20000 in
theorem ggX8_filled_X6_lay : GoodIn wsX8_filled wsX6_lay := goodIn_r _ [44, 45, 46, 47, 48, 49, 43, 50, 51, 52, 53, 54, 15, 8, 16, 55, 56, 57, 58, 59, 60, 61, 62, 63, 129, 130, 118, 119, 120, 121, 122, 123, 124, 125, 126, 127, 128] (by decide +kernel) (by decide +kernel)
set_option maxRecDepth 20000 in
theorem gX8_filled_X6_lay : GoodIn wsX8_filled (wsV RX8 186 RX6 yX6_lay wsX6_lay) := goodIn_app (goodIn_of _ (by decide +kernel)) ggX8_filled_X6_lay
set_option maxRecDepth 20000 in
theorem ggX8_filled_X1_pick : GoodIn wsX8_filled wsX1_pick := goodIn_r _ [68, 69, 70, 71, 72, 73, 52, 53, 54, 15, 8, 16, 58, 59, 111, 112, 113, 114, 115, 116, 117, 118, 119, 120, 121, 122, 123, 124, 125, 126, 127, 128] (by decide +kernel) (by decide +kernel)
set_option maxRecDepth 20000 in
theorem gX8_filled_X1_pick : GoodIn wsX8_filled (wsV RX8 215 RX1 yX1_pick wsX1_pick) := goodIn_app (goodIn_of _ (by decide +kernel)) ggX8_filled_X1_pick
set_option maxRecDepth 20000 in
theorem ggX8_filled_X1_tighten : GoodIn wsX8_filled wsX1_tighten := goodIn_r _ [77, 78, 79, 70, 80, 81, 82, 83, 73, 52, 53, 54, 111, 112, 113, 114, 115, 116, 117, 129, 130] (by decide +kernel) (by decide +kernel)
set_option maxRecDepth 20000 in
theorem gX8_filled_X1_tighten : GoodIn wsX8_filled (wsV RX8 218 RX1 yX1_tighten wsX1_tighten) := goodIn_app (goodIn_of _ (by decide +kernel)) ggX8_filled_X1_tighten
set_option maxRecDepth 20000 in
theorem ggX8_filled_X1_seek : GoodIn wsX8_filled wsX1_seek := goodIn_r _ [87, 88, 69, 72, 89, 90, 91, 67, 92, 93, 71, 73, 52, 53, 54, 94, 95, 96, 97, 78, 111, 112, 113, 114, 115, 116, 117, 118, 119, 120, 121, 122, 123] (by decide +kernel) (by decide +kernel)
set_option maxRecDepth 20000 in
theorem gX8_filled_X1_seek : GoodIn wsX8_filled (wsV RX8 222 RX1 yX1_seek wsX1_seek) := goodIn_app (goodIn_of _ (by decide +kernel)) ggX8_filled_X1_seek
theorem dX8_filled_0 : decode cX8_filled 0 = .ok (.iload_n 1, 1) := by decide +kernel
theorem dX8_filled_1 : decode cX8_filled 1 = .ok (.iconst 0, 1) := by decide +kernel
theorem dX8_filled_2 : decode cX8_filled 2 = .ok (.iconst 1, 1) := by decide +kernel
theorem dX8_filled_3 : decode cX8_filled 3 = .ok (.invokestatic 76, 3) := by decide +kernel
theorem dX8_filled_6 : decode cX8_filled 6 = .ok (.ifCond .ne 5, 3) := by decide +kernel
theorem dX8_filled_9 : decode cX8_filled 9 = .ok (.iconst (-1), 1) := by decide +kernel
theorem dX8_filled_10 : decode cX8_filled 10 = .ok (.ireturn, 1) := by decide +kernel
theorem dX8_filled_11 : decode cX8_filled 11 = .ok (.aload_n 0, 1) := by decide +kernel
theorem dX8_filled_12 : decode cX8_filled 12 = .ok (.iconst 0, 1) := by decide +kernel
theorem dX8_filled_13 : decode cX8_filled 13 = .ok (.invokevirtual 97, 3) := by decide +kernel
theorem dX8_filled_16 : decode cX8_filled 16 = .ok (.istore_n 2, 1) := by decide +kernel
theorem dX8_filled_17 : decode cX8_filled 17 = .ok (.iload_n 2, 1) := by decide +kernel
theorem dX8_filled_18 : decode cX8_filled 18 = .ok (.invokestatic 163, 3) := by decide +kernel
theorem dX8_filled_21 : decode cX8_filled 21 = .ok (.bipush 8, 2) := by decide +kernel
theorem dX8_filled_23 : decode cX8_filled 23 = .ok (.if_icmp .le 6, 3) := by decide +kernel
theorem dX8_filled_26 : decode cX8_filled 26 = .ok (.bipush (-7), 2) := by decide +kernel
theorem dX8_filled_28 : decode cX8_filled 28 = .ok (.ireturn, 1) := by decide +kernel
theorem dX8_filled_29 : decode cX8_filled 29 = .ok (.aload_n 0, 1) := by decide +kernel
theorem dX8_filled_30 : decode cX8_filled 30 = .ok (.iconst 1, 1) := by decide +kernel
theorem dX8_filled_31 : decode cX8_filled 31 = .ok (.invokevirtual 97, 3) := by decide +kernel
theorem dX8_filled_34 : decode cX8_filled 34 = .ok (.istore_n 3, 1) := by decide +kernel
theorem dX8_filled_35 : decode cX8_filled 35 = .ok (.iconst 0, 1) := by decide +kernel
theorem dX8_filled_36 : decode cX8_filled 36 = .ok (.istore 4, 2) := by decide +kernel
theorem dX8_filled_38 : decode cX8_filled 38 = .ok (.iload 4, 2) := by decide +kernel
theorem dX8_filled_40 : decode cX8_filled 40 = .ok (.iconst 4, 1) := by decide +kernel
theorem dX8_filled_41 : decode cX8_filled 41 = .ok (.if_icmp .ge 23, 3) := by decide +kernel
theorem dX8_filled_44 : decode cX8_filled 44 = .ok (.aload_n 0, 1) := by decide +kernel
theorem dX8_filled_45 : decode cX8_filled 45 = .ok (.getfield 68, 3) := by decide +kernel
theorem dX8_filled_48 : decode cX8_filled 48 = .ok (.iload 4, 2) := by decide +kernel
theorem dX8_filled_50 : decode cX8_filled 50 = .ok (.aload_n 0, 1) := by decide +kernel
theorem dX8_filled_51 : decode cX8_filled 51 = .ok (.iload 4, 2) := by decide +kernel
theorem dX8_filled_53 : decode cX8_filled 53 = .ok (.iload_n 3, 1) := by decide +kernel
theorem dX8_filled_54 : decode cX8_filled 54 = .ok (.invokevirtual 151, 3) := by decide +kernel
theorem dX8_filled_57 : decode cX8_filled 57 = .ok (.iastore, 1) := by decide +kernel
theorem dX8_filled_58 : decode cX8_filled 58 = .ok (.iinc 4 1, 3) := by decide +kernel
theorem dX8_filled_61 : decode cX8_filled 61 = .ok (.goto (-23), 3) := by decide +kernel
theorem dX8_filled_64 : decode cX8_filled 64 = .ok (.aload_n 0, 1) := by decide +kernel
theorem dX8_filled_65 : decode cX8_filled 65 = .ok (.getfield 43, 3) := by decide +kernel
theorem dX8_filled_68 : decode cX8_filled 68 = .ok (.aload_n 0, 1) := by decide +kernel
theorem dX8_filled_69 : decode cX8_filled 69 = .ok (.getfield 12, 3) := by decide +kernel
theorem dX8_filled_72 : decode cX8_filled 72 = .ok (.aload_n 0, 1) := by decide +kernel
theorem dX8_filled_73 : decode cX8_filled 73 = .ok (.getfield 19, 3) := by decide +kernel
theorem dX8_filled_76 : decode cX8_filled 76 = .ok (.iload_n 3, 1) := by decide +kernel
theorem dX8_filled_77 : decode cX8_filled 77 = .ok (.invokevirtual 186, 3) := by decide +kernel
theorem dX8_filled_80 : decode cX8_filled 80 = .ok (.aload_n 0, 1) := by decide +kernel
theorem dX8_filled_81 : decode cX8_filled 81 = .ok (.getfield 50, 3) := by decide +kernel
theorem dX8_filled_84 : decode cX8_filled 84 = .ok (.aload_n 0, 1) := by decide +kernel
theorem dX8_filled_85 : decode cX8_filled 85 = .ok (.getfield 12, 3) := by decide +kernel
theorem dX8_filled_88 : decode cX8_filled 88 = .ok (.aload_n 0, 1) := by decide +kernel
theorem dX8_filled_89 : decode cX8_filled 89 = .ok (.getfield 19, 3) := by decide +kernel
theorem dX8_filled_92 : decode cX8_filled 92 = .ok (.iload_n 2, 1) := by decide +kernel
theorem dX8_filled_93 : decode cX8_filled 93 = .ok (.invokevirtual 215, 3) := by decide +kernel
theorem dX8_filled_96 : decode cX8_filled 96 = .ok (.aload_n 0, 1) := by decide +kernel
theorem dX8_filled_97 : decode cX8_filled 97 = .ok (.getfield 50, 3) := by decide +kernel
theorem dX8_filled_100 : decode cX8_filled 100 = .ok (.aload_n 0, 1) := by decide +kernel
theorem dX8_filled_101 : decode cX8_filled 101 = .ok (.getfield 43, 3) := by decide +kernel
theorem dX8_filled_104 : decode cX8_filled 104 = .ok (.invokevirtual 218, 3) := by decide +kernel
theorem dX8_filled_107 : decode cX8_filled 107 = .ok (.aload_n 0, 1) := by decide +kernel
theorem dX8_filled_108 : decode cX8_filled 108 = .ok (.getfield 50, 3) := by decide +kernel
theorem dX8_filled_111 : decode cX8_filled 111 = .ok (.aload_n 0, 1) := by decide +kernel
theorem dX8_filled_112 : decode cX8_filled 112 = .ok (.getfield 12, 3) := by decide +kernel
theorem dX8_filled_115 : decode cX8_filled 115 = .ok (.aload_n 0, 1) := by decide +kernel
theorem dX8_filled_116 : decode cX8_filled 116 = .ok (.getfield 68, 3) := by decide +kernel
theorem dX8_filled_119 : decode cX8_filled 119 = .ok (.invokevirtual 222, 3) := by decide +kernel
theorem dX8_filled_122 : decode cX8_filled 122 = .ok (.iload_n 1, 1) := by decide +kernel
theorem dX8_filled_123 : decode cX8_filled 123 = .ok (.ifCond .ne 13, 3) := by decide +kernel
theorem dX8_filled_126 : decode cX8_filled 126 = .ok (.aload_n 0, 1) := by decide +kernel
theorem dX8_filled_127 : decode cX8_filled 127 = .ok (.getfield 50, 3) := by decide +kernel
theorem dX8_filled_130 : decode cX8_filled 130 = .ok (.getfield 226, 3) := by decide +kernel
theorem dX8_filled_133 : decode cX8_filled 133 = .ok (.goto 18, 3) := by decide +kernel
theorem dX8_filled_136 : decode cX8_filled 136 = .ok (.aload_n 0, 1) := by decide +kernel
theorem dX8_filled_137 : decode cX8_filled 137 = .ok (.getfield 50, 3) := by decide +kernel
theorem dX8_filled_140 : decode cX8_filled 140 = .ok (.getfield 229, 3) := by decide +kernel
theorem dX8_filled_143 : decode cX8_filled 143 = .ok (.aload_n 0, 1) := by decide +kernel
theorem dX8_filled_144 : decode cX8_filled 144 = .ok (.getfield 50, 3) := by decide +kernel
theorem dX8_filled_147 : decode cX8_filled 147 = .ok (.getfield 226, 3) := by decide +kernel
theorem dX8_filled_150 : decode cX8_filled 150 = .ok (.iaload, 1) := by decide +kernel
theorem dX8_filled_151 : decode cX8_filled 151 = .ok (.ireturn, 1) := by decide +kernel
set_option maxRecDepth 20000 in
theorem ggX8_range_X8_isOrder : GoodIn wsX8_range wsX8_isOrder := goodIn_r _ [15, 2, 16, 17, 14, 18, 85, 86, 87, 88, 89, 90, 91, 92, 93, 94, 95, 96, 97, 103, 104, 105, 106, 107, 108] (by decide +kernel) (by decide +kernel)
set_option maxRecDepth 20000 in
theorem gX8_range_X8_isOrder : GoodIn wsX8_range (wsV RX8 133 RX8 yX8_isOrder wsX8_isOrder) := goodIn_app (goodIn_of _ (by decide +kernel)) ggX8_range_X8_isOrder
set_option maxRecDepth 20000 in
theorem ggX8_range_X8_isSupply : GoodIn wsX8_range wsX8_isSupply := goodIn_r _ [21, 16, 17, 14, 18, 22, 23, 24] (by decide +kernel) (by decide +kernel)
set_option maxRecDepth 20000 in
theorem gX8_range_X8_isSupply : GoodIn wsX8_range (va_wsS RX8 72 yX8_isSupply wsX8_isSupply) := goodIn_app (goodIn_of _ (by decide +kernel)) ggX8_range_X8_isSupply
set_option maxRecDepth 20000 in
theorem ggX8_range_X8_within : GoodIn wsX8_range wsX8_within := goodIn_r _ [18] (by decide +kernel) (by decide +kernel)
set_option maxRecDepth 20000 in
theorem gX8_range_X8_within : GoodIn wsX8_range (va_wsS RX8 76 yX8_within wsX8_within) := goodIn_app (goodIn_of _ (by decide +kernel)) ggX8_range_X8_within
set_option maxRecDepth 20000 in
theorem ggX8_range_X8_setOf : GoodIn wsX8_range wsX8_setOf := goodIn_r _ [28, 2, 1, 29, 30, 14, 31, 85, 86, 87, 88, 89, 90, 91, 92, 93, 94, 95, 96, 97, 103, 104, 105, 106, 107, 108, 98, 99, 100, 101, 102] (by decide +kernel) (by decide +kernel)
set_option maxRecDepth 20000 in
theorem gX8_range_X8_setOf : GoodIn wsX8_range (wsV RX8 97 RX8 yX8_setOf wsX8_setOf) := goodIn_app (goodIn_of _ (by decide +kernel)) ggX8_range_X8_setOf
set_option maxRecDepth 20000 in
theorem ggX8_range_X8_areMet : GoodIn wsX8_range wsX8_areMet := goodIn_r _ [35, 3, 2, 1, 36, 37, 38, 39, 40, 41, 42, 43, 44, 45, 46, 47, 48, 49, 50, 30, 14, 31, 51, 52, 53, 54, 55, 56, 57, 58, 59, 60, 61, 62, 63, 64, 65, 66, 67, 85, 86, 87, 88, 89, 90, 91, 92, 93, 94, 95, 96, 97, 109, 110, 103, 104, 105, 106, 107, 108, 98, 99, 100, 101, 102] (by decide +kernel) (by decide +kernel)
set_option maxRecDepth 20000 in
theorem gX8_range_X8_areMet : GoodIn wsX8_range (wsV RX8 157 RX8 yX8_areMet wsX8_areMet) := goodIn_app (goodIn_of _ (by decide +kernel)) ggX8_range_X8_areMet
set_option maxRecDepth 20000 in
theorem ggX8_range_X6_needOf : GoodIn wsX8_range wsX6_needOf := goodIn_r _ [71, 72, 5, 6, 7, 41, 54, 14, 55, 73, 74, 75, 39, 76, 42, 77, 78, 79, 109, 110] (by decide +kernel) (by decide +kernel)
set_option maxRecDepth 20000 in
theorem gX8_range_X6_needOf : GoodIn wsX8_range (wsV RX8 232 RX6 yX6_needOf wsX6_needOf) := goodIn_app (goodIn_of _ (by decide +kernel)) ggX8_range_X6_needOf
set_option maxRecDepth 20000 in
theorem ggX8_range_X6_leastWithout : GoodIn wsX8_range wsX6_leastWithout := goodIn_r _ [83, 41, 84, 9, 6, 10, 54, 14, 55, 77, 78, 39, 79, 109, 110] (by decide +kernel) (by decide +kernel)
set_option maxRecDepth 20000 in
theorem gX8_range_X6_leastWithout : GoodIn wsX8_range (wsV RX8 239 RX6 yX6_leastWithout wsX6_leastWithout) := goodIn_app (goodIn_of _ (by decide +kernel)) ggX8_range_X6_leastWithout
theorem dX8_range_0 : decode cX8_range 0 = .ok (.aload_n 0, 1) := by decide +kernel
theorem dX8_range_1 : decode cX8_range 1 = .ok (.iload_n 1, 1) := by decide +kernel
theorem dX8_range_2 : decode cX8_range 2 = .ok (.invokevirtual 133, 3) := by decide +kernel
theorem dX8_range_5 : decode cX8_range 5 = .ok (.ifCond .eq 21, 3) := by decide +kernel
theorem dX8_range_8 : decode cX8_range 8 = .ok (.iload_n 2, 1) := by decide +kernel
theorem dX8_range_9 : decode cX8_range 9 = .ok (.iload_n 3, 1) := by decide +kernel
theorem dX8_range_10 : decode cX8_range 10 = .ok (.invokestatic 72, 3) := by decide +kernel
theorem dX8_range_13 : decode cX8_range 13 = .ok (.ifCond .eq 13, 3) := by decide +kernel
theorem dX8_range_16 : decode cX8_range 16 = .ok (.iload 4, 2) := by decide +kernel
theorem dX8_range_18 : decode cX8_range 18 = .ok (.iconst 0, 1) := by decide +kernel
theorem dX8_range_19 : decode cX8_range 19 = .ok (.iconst 1, 1) := by decide +kernel
theorem dX8_range_20 : decode cX8_range 20 = .ok (.invokestatic 76, 3) := by decide +kernel
theorem dX8_range_23 : decode cX8_range 23 = .ok (.ifCond .ne 5, 3) := by decide +kernel
theorem dX8_range_26 : decode cX8_range 26 = .ok (.iconst (-1), 1) := by decide +kernel
theorem dX8_range_27 : decode cX8_range 27 = .ok (.ireturn, 1) := by decide +kernel
theorem dX8_range_28 : decode cX8_range 28 = .ok (.aload_n 0, 1) := by decide +kernel
theorem dX8_range_29 : decode cX8_range 29 = .ok (.getfield 19, 3) := by decide +kernel
theorem dX8_range_32 : decode cX8_range 32 = .ok (.getfield 124, 3) := by decide +kernel
theorem dX8_range_35 : decode cX8_range 35 = .ok (.iload_n 1, 1) := by decide +kernel
theorem dX8_range_36 : decode cX8_range 36 = .ok (.iaload, 1) := by decide +kernel
theorem dX8_range_37 : decode cX8_range 37 = .ok (.iconst 1, 1) := by decide +kernel
theorem dX8_range_38 : decode cX8_range 38 = .ok (.if_icmp .eq 6, 3) := by decide +kernel
theorem dX8_range_41 : decode cX8_range 41 = .ok (.bipush (-5), 2) := by decide +kernel
theorem dX8_range_43 : decode cX8_range 43 = .ok (.ireturn, 1) := by decide +kernel
theorem dX8_range_44 : decode cX8_range 44 = .ok (.aload_n 0, 1) := by decide +kernel
theorem dX8_range_45 : decode cX8_range 45 = .ok (.aload_n 0, 1) := by decide +kernel
theorem dX8_range_46 : decode cX8_range 46 = .ok (.iconst 1, 1) := by decide +kernel
theorem dX8_range_47 : decode cX8_range 47 = .ok (.invokevirtual 97, 3) := by decide +kernel
theorem dX8_range_50 : decode cX8_range 50 = .ok (.invokevirtual 157, 3) := by decide +kernel
theorem dX8_range_53 : decode cX8_range 53 = .ok (.ifCond .ne 6, 3) := by decide +kernel
theorem dX8_range_56 : decode cX8_range 56 = .ok (.bipush (-2), 2) := by decide +kernel
theorem dX8_range_58 : decode cX8_range 58 = .ok (.ireturn, 1) := by decide +kernel
theorem dX8_range_59 : decode cX8_range 59 = .ok (.aload_n 0, 1) := by decide +kernel
theorem dX8_range_60 : decode cX8_range 60 = .ok (.getfield 12, 3) := by decide +kernel
theorem dX8_range_63 : decode cX8_range 63 = .ok (.getfield 139, 3) := by decide +kernel
theorem dX8_range_66 : decode cX8_range 66 = .ok (.iload_n 1, 1) := by decide +kernel
theorem dX8_range_67 : decode cX8_range 67 = .ok (.iaload, 1) := by decide +kernel
theorem dX8_range_68 : decode cX8_range 68 = .ok (.istore 5, 2) := by decide +kernel
theorem dX8_range_70 : decode cX8_range 70 = .ok (.aload_n 0, 1) := by decide +kernel
theorem dX8_range_71 : decode cX8_range 71 = .ok (.getfield 19, 3) := by decide +kernel
theorem dX8_range_74 : decode cX8_range 74 = .ok (.getfield 127, 3) := by decide +kernel
theorem dX8_range_77 : decode cX8_range 77 = .ok (.iload_n 1, 1) := by decide +kernel
theorem dX8_range_78 : decode cX8_range 78 = .ok (.iaload, 1) := by decide +kernel
theorem dX8_range_79 : decode cX8_range 79 = .ok (.istore 6, 2) := by decide +kernel
theorem dX8_range_81 : decode cX8_range 81 = .ok (.iload 5, 2) := by decide +kernel
theorem dX8_range_83 : decode cX8_range 83 = .ok (.iload_n 2, 1) := by decide +kernel
theorem dX8_range_84 : decode cX8_range 84 = .ok (.ishr, 1) := by decide +kernel
theorem dX8_range_85 : decode cX8_range 85 = .ok (.iconst 1, 1) := by decide +kernel
theorem dX8_range_86 : decode cX8_range 86 = .ok (.iand, 1) := by decide +kernel
theorem dX8_range_87 : decode cX8_range 87 = .ok (.ifCond .eq 9, 3) := by decide +kernel
theorem dX8_range_90 : decode cX8_range 90 = .ok (.iload_n 3, 1) := by decide +kernel
theorem dX8_range_91 : decode cX8_range 91 = .ok (.iload 6, 2) := by decide +kernel
theorem dX8_range_93 : decode cX8_range 93 = .ok (.if_icmp .le 5, 3) := by decide +kernel
theorem dX8_range_96 : decode cX8_range 96 = .ok (.iconst 0, 1) := by decide +kernel
theorem dX8_range_97 : decode cX8_range 97 = .ok (.ireturn, 1) := by decide +kernel
theorem dX8_range_98 : decode cX8_range 98 = .ok (.aload_n 0, 1) := by decide +kernel
theorem dX8_range_99 : decode cX8_range 99 = .ok (.getfield 12, 3) := by decide +kernel
theorem dX8_range_102 : decode cX8_range 102 = .ok (.getfield 136, 3) := by decide +kernel
theorem dX8_range_105 : decode cX8_range 105 = .ok (.iload_n 1, 1) := by decide +kernel
theorem dX8_range_106 : decode cX8_range 106 = .ok (.iaload, 1) := by decide +kernel
theorem dX8_range_107 : decode cX8_range 107 = .ok (.istore 7, 2) := by decide +kernel
theorem dX8_range_109 : decode cX8_range 109 = .ok (.aload_n 0, 1) := by decide +kernel
theorem dX8_range_110 : decode cX8_range 110 = .ok (.getfield 19, 3) := by decide +kernel
theorem dX8_range_113 : decode cX8_range 113 = .ok (.getfield 80, 3) := by decide +kernel
theorem dX8_range_116 : decode cX8_range 116 = .ok (.iload_n 2, 1) := by decide +kernel
theorem dX8_range_117 : decode cX8_range 117 = .ok (.bipush 12, 2) := by decide +kernel
theorem dX8_range_119 : decode cX8_range 119 = .ok (.imul, 1) := by decide +kernel
theorem dX8_range_120 : decode cX8_range 120 = .ok (.iload_n 3, 1) := by decide +kernel
theorem dX8_range_121 : decode cX8_range 121 = .ok (.iadd, 1) := by decide +kernel
theorem dX8_range_122 : decode cX8_range 122 = .ok (.iaload, 1) := by decide +kernel
theorem dX8_range_123 : decode cX8_range 123 = .ok (.istore 8, 2) := by decide +kernel
theorem dX8_range_125 : decode cX8_range 125 = .ok (.iload 4, 2) := by decide +kernel
theorem dX8_range_127 : decode cX8_range 127 = .ok (.ifCond .ne 27, 3) := by decide +kernel
theorem dX8_range_130 : decode cX8_range 130 = .ok (.iconst 0, 1) := by decide +kernel
theorem dX8_range_131 : decode cX8_range 131 = .ok (.iload 7, 2) := by decide +kernel
theorem dX8_range_133 : decode cX8_range 133 = .ok (.iload 8, 2) := by decide +kernel
theorem dX8_range_135 : decode cX8_range 135 = .ok (.iadd, 1) := by decide +kernel
theorem dX8_range_136 : decode cX8_range 136 = .ok (.aload_n 0, 1) := by decide +kernel
theorem dX8_range_137 : decode cX8_range 137 = .ok (.getfield 43, 3) := by decide +kernel
theorem dX8_range_140 : decode cX8_range 140 = .ok (.iload 5, 2) := by decide +kernel
theorem dX8_range_142 : decode cX8_range 142 = .ok (.iload 6, 2) := by decide +kernel
theorem dX8_range_144 : decode cX8_range 144 = .ok (.iload_n 2, 1) := by decide +kernel
theorem dX8_range_145 : decode cX8_range 145 = .ok (.iload_n 3, 1) := by decide +kernel
theorem dX8_range_146 : decode cX8_range 146 = .ok (.invokevirtual 232, 3) := by decide +kernel
theorem dX8_range_149 : decode cX8_range 149 = .ok (.iadd, 1) := by decide +kernel
theorem dX8_range_150 : decode cX8_range 150 = .ok (.invokestatic 210, 3) := by decide +kernel
theorem dX8_range_153 : decode cX8_range 153 = .ok (.ireturn, 1) := by decide +kernel
theorem dX8_range_154 : decode cX8_range 154 = .ok (.iload 7, 2) := by decide +kernel
theorem dX8_range_156 : decode cX8_range 156 = .ok (.iload 8, 2) := by decide +kernel
theorem dX8_range_158 : decode cX8_range 158 = .ok (.invokestatic 236, 3) := by decide +kernel
theorem dX8_range_161 : decode cX8_range 161 = .ok (.aload_n 0, 1) := by decide +kernel
theorem dX8_range_162 : decode cX8_range 162 = .ok (.getfield 43, 3) := by decide +kernel
theorem dX8_range_165 : decode cX8_range 165 = .ok (.iload 5, 2) := by decide +kernel
theorem dX8_range_167 : decode cX8_range 167 = .ok (.iload 6, 2) := by decide +kernel
theorem dX8_range_169 : decode cX8_range 169 = .ok (.iload_n 2, 1) := by decide +kernel
theorem dX8_range_170 : decode cX8_range 170 = .ok (.iload_n 3, 1) := by decide +kernel
theorem dX8_range_171 : decode cX8_range 171 = .ok (.invokevirtual 239, 3) := by decide +kernel
theorem dX8_range_174 : decode cX8_range 174 = .ok (.invokestatic 236, 3) := by decide +kernel
theorem dX8_range_177 : decode cX8_range 177 = .ok (.ireturn, 1) := by decide +kernel
set_option maxRecDepth 20000 in
theorem ggX8_late_X8_setOf : GoodIn wsX8_late wsX8_setOf := goodIn_r _ [5, 6, 7, 8, 9, 4, 10, 61, 62, 63, 64, 65, 66, 67, 68, 69, 70, 71, 72, 73, 74, 75, 76, 77, 78, 79, 80, 81, 82, 83, 84] (by decide +kernel) (by decide +kernel)
set_option maxRecDepth 20000 in
theorem gX8_late_X8_setOf : GoodIn wsX8_late (wsV RX8 97 RX8 yX8_setOf wsX8_setOf) := goodIn_app (goodIn_of _ (by decide +kernel)) ggX8_late_X8_setOf
set_option maxRecDepth 20000 in
theorem ggX8_late_X8_keptOnes : GoodIn wsX8_late wsX8_keptOnes := goodIn_r _ [14, 15, 16, 17, 6, 7, 1, 2, 3, 4, 5, 8, 9, 10, 18, 19, 20, 21, 22, 23, 24, 25, 26, 27, 28, 29, 30, 31, 32, 33, 34, 35, 36, 37, 38, 39, 40, 41, 42, 43, 44, 45, 46, 47, 48, 49, 50, 51, 52, 53, 61, 62, 63, 64, 65, 66, 67, 68, 69, 70, 71, 72, 73, 74, 75, 76, 77, 78, 79, 80, 81, 82, 83, 84, 85, 86] (by decide +kernel) (by decide +kernel)
set_option maxRecDepth 20000 in
theorem gX8_late_X8_keptOnes : GoodIn wsX8_late (wsV RX8 242 RX8 yX8_keptOnes wsX8_keptOnes) := goodIn_app (goodIn_of _ (by decide +kernel)) ggX8_late_X8_keptOnes
set_option maxRecDepth 20000 in
theorem ggX8_late_J6_bitCount_0f7a4 : GoodIn wsX8_late wsJ6_bitCount_0f7a4 := goodIn_r _ [57, 58, 59, 60] (by decide +kernel) (by decide +kernel)
set_option maxRecDepth 20000 in
theorem gX8_late_J6_bitCount_0f7a4 : GoodIn wsX8_late (va_wsS RX8 163 yJ6_bitCount_0f7a4 wsJ6_bitCount_0f7a4) := goodIn_app (goodIn_of _ (by decide +kernel)) ggX8_late_J6_bitCount_0f7a4
theorem dX8_late_0 : decode cX8_late 0 = .ok (.aload_n 0, 1) := by decide +kernel
theorem dX8_late_1 : decode cX8_late 1 = .ok (.iconst 1, 1) := by decide +kernel
theorem dX8_late_2 : decode cX8_late 2 = .ok (.invokevirtual 97, 3) := by decide +kernel
theorem dX8_late_5 : decode cX8_late 5 = .ok (.aload_n 0, 1) := by decide +kernel
theorem dX8_late_6 : decode cX8_late 6 = .ok (.invokevirtual 242, 3) := by decide +kernel
theorem dX8_late_9 : decode cX8_late 9 = .ok (.iconst (-1), 1) := by decide +kernel
theorem dX8_late_10 : decode cX8_late 10 = .ok (.ixor, 1) := by decide +kernel
theorem dX8_late_11 : decode cX8_late 11 = .ok (.iand, 1) := by decide +kernel
theorem dX8_late_12 : decode cX8_late 12 = .ok (.invokestatic 163, 3) := by decide +kernel
theorem dX8_late_15 : decode cX8_late 15 = .ok (.ireturn, 1) := by decide +kernel
set_option maxRecDepth 20000 in
theorem ggX8_kept_X8_keptOnes : GoodIn wsX8_kept wsX8_keptOnes := goodIn_r _ [6, 7, 8, 9, 1, 10, 11, 12, 13, 5, 14, 15, 16, 17, 18, 19, 20, 21, 22, 23, 24, 25, 26, 27, 28, 29, 30, 31, 32, 33, 34, 35, 36, 37, 38, 39, 40, 41, 42, 43, 44, 45, 46, 47, 48, 49, 50, 51, 52, 53, 61, 62, 63, 64, 65, 66, 67, 68, 69, 70, 71, 72, 73, 74, 75, 76, 77, 78, 79, 80, 81, 82, 83, 84, 85, 86] (by decide +kernel) (by decide +kernel)
set_option maxRecDepth 20000 in
theorem gX8_kept_X8_keptOnes : GoodIn wsX8_kept (wsV RX8 242 RX8 yX8_keptOnes wsX8_keptOnes) := goodIn_app (goodIn_of _ (by decide +kernel)) ggX8_kept_X8_keptOnes
set_option maxRecDepth 20000 in
theorem ggX8_kept_J6_bitCount_0f7a4 : GoodIn wsX8_kept wsJ6_bitCount_0f7a4 := goodIn_r _ [57, 58, 59, 60] (by decide +kernel) (by decide +kernel)
set_option maxRecDepth 20000 in
theorem gX8_kept_J6_bitCount_0f7a4 : GoodIn wsX8_kept (va_wsS RX8 163 yJ6_bitCount_0f7a4 wsJ6_bitCount_0f7a4) := goodIn_app (goodIn_of _ (by decide +kernel)) ggX8_kept_J6_bitCount_0f7a4
set_option maxRecDepth 20000 in
theorem ggX8_kept_X8_bit : GoodIn wsX8_kept wsX8_bit := goodIn_r _ [17] (by decide +kernel) (by decide +kernel)
set_option maxRecDepth 20000 in
theorem gX8_kept_X8_bit : GoodIn wsX8_kept (va_wsS RX8 154 yX8_bit wsX8_bit) := goodIn_app (goodIn_of _ (by decide +kernel)) ggX8_kept_X8_bit
theorem dX8_kept_0 : decode cX8_kept 0 = .ok (.iload_n 1, 1) := by decide +kernel
theorem dX8_kept_1 : decode cX8_kept 1 = .ok (.iconst (-1), 1) := by decide +kernel
theorem dX8_kept_2 : decode cX8_kept 2 = .ok (.if_icmp .ge 5, 3) := by decide +kernel
theorem dX8_kept_5 : decode cX8_kept 5 = .ok (.iconst (-1), 1) := by decide +kernel
theorem dX8_kept_6 : decode cX8_kept 6 = .ok (.ireturn, 1) := by decide +kernel
theorem dX8_kept_7 : decode cX8_kept 7 = .ok (.aload_n 0, 1) := by decide +kernel
theorem dX8_kept_8 : decode cX8_kept 8 = .ok (.invokevirtual 242, 3) := by decide +kernel
theorem dX8_kept_11 : decode cX8_kept 11 = .ok (.istore_n 2, 1) := by decide +kernel
theorem dX8_kept_12 : decode cX8_kept 12 = .ok (.iload_n 1, 1) := by decide +kernel
theorem dX8_kept_13 : decode cX8_kept 13 = .ok (.iconst (-1), 1) := by decide +kernel
theorem dX8_kept_14 : decode cX8_kept 14 = .ok (.if_icmp .ne 8, 3) := by decide +kernel
theorem dX8_kept_17 : decode cX8_kept 17 = .ok (.iload_n 2, 1) := by decide +kernel
theorem dX8_kept_18 : decode cX8_kept 18 = .ok (.invokestatic 163, 3) := by decide +kernel
theorem dX8_kept_21 : decode cX8_kept 21 = .ok (.ireturn, 1) := by decide +kernel
theorem dX8_kept_22 : decode cX8_kept 22 = .ok (.iconst 0, 1) := by decide +kernel
theorem dX8_kept_23 : decode cX8_kept 23 = .ok (.istore_n 3, 1) := by decide +kernel
theorem dX8_kept_24 : decode cX8_kept 24 = .ok (.bipush 9, 2) := by decide +kernel
theorem dX8_kept_26 : decode cX8_kept 26 = .ok (.istore 4, 2) := by decide +kernel
theorem dX8_kept_28 : decode cX8_kept 28 = .ok (.iload 4, 2) := by decide +kernel
theorem dX8_kept_30 : decode cX8_kept 30 = .ok (.ifCond .lt 69, 3) := by decide +kernel
theorem dX8_kept_33 : decode cX8_kept 33 = .ok (.iconst 0, 1) := by decide +kernel
theorem dX8_kept_34 : decode cX8_kept 34 = .ok (.istore 5, 2) := by decide +kernel
theorem dX8_kept_36 : decode cX8_kept 36 = .ok (.iload 5, 2) := by decide +kernel
theorem dX8_kept_38 : decode cX8_kept 38 = .ok (.aload_n 0, 1) := by decide +kernel
theorem dX8_kept_39 : decode cX8_kept 39 = .ok (.getfield 12, 3) := by decide +kernel
theorem dX8_kept_42 : decode cX8_kept 42 = .ok (.getfield 116, 3) := by decide +kernel
theorem dX8_kept_45 : decode cX8_kept 45 = .ok (.if_icmp .ge 48, 3) := by decide +kernel
theorem dX8_kept_48 : decode cX8_kept 48 = .ok (.aload_n 0, 1) := by decide +kernel
theorem dX8_kept_49 : decode cX8_kept 49 = .ok (.getfield 12, 3) := by decide +kernel
theorem dX8_kept_52 : decode cX8_kept 52 = .ok (.getfield 145, 3) := by decide +kernel
theorem dX8_kept_55 : decode cX8_kept 55 = .ok (.iload 5, 2) := by decide +kernel
theorem dX8_kept_57 : decode cX8_kept 57 = .ok (.iaload, 1) := by decide +kernel
theorem dX8_kept_58 : decode cX8_kept 58 = .ok (.iload 4, 2) := by decide +kernel
theorem dX8_kept_60 : decode cX8_kept 60 = .ok (.if_icmp .ne 27, 3) := by decide +kernel
theorem dX8_kept_63 : decode cX8_kept 63 = .ok (.iload_n 2, 1) := by decide +kernel
theorem dX8_kept_64 : decode cX8_kept 64 = .ok (.iload 5, 2) := by decide +kernel
theorem dX8_kept_66 : decode cX8_kept 66 = .ok (.invokestatic 154, 3) := by decide +kernel
theorem dX8_kept_69 : decode cX8_kept 69 = .ok (.iand, 1) := by decide +kernel
theorem dX8_kept_70 : decode cX8_kept 70 = .ok (.ifCond .ne 6, 3) := by decide +kernel
theorem dX8_kept_73 : decode cX8_kept 73 = .ok (.goto 14, 3) := by decide +kernel
theorem dX8_kept_76 : decode cX8_kept 76 = .ok (.iload_n 3, 1) := by decide +kernel
theorem dX8_kept_77 : decode cX8_kept 77 = .ok (.iload_n 1, 1) := by decide +kernel
theorem dX8_kept_78 : decode cX8_kept 78 = .ok (.if_icmp .ne 6, 3) := by decide +kernel
theorem dX8_kept_81 : decode cX8_kept 81 = .ok (.iload 5, 2) := by decide +kernel
theorem dX8_kept_83 : decode cX8_kept 83 = .ok (.ireturn, 1) := by decide +kernel
theorem dX8_kept_84 : decode cX8_kept 84 = .ok (.iinc 3 1, 3) := by decide +kernel
theorem dX8_kept_87 : decode cX8_kept 87 = .ok (.iinc 5 1, 3) := by decide +kernel
theorem dX8_kept_90 : decode cX8_kept 90 = .ok (.goto (-54), 3) := by decide +kernel
theorem dX8_kept_93 : decode cX8_kept 93 = .ok (.iinc 4 (-1), 3) := by decide +kernel
theorem dX8_kept_96 : decode cX8_kept 96 = .ok (.goto (-68), 3) := by decide +kernel
theorem dX8_kept_99 : decode cX8_kept 99 = .ok (.bipush (-2), 2) := by decide +kernel
theorem dX8_kept_101 : decode cX8_kept 101 = .ok (.ireturn, 1) := by decide +kernel
set_option maxRecDepth 20000 in
theorem ggX8_why_X8_isOrder : GoodIn wsX8_why wsX8_isOrder := goodIn_r _ [8, 1, 9, 10, 7, 11, 76, 77, 78, 79, 80, 81, 82, 83, 84, 85, 86, 87, 88, 89, 90, 91, 92, 93, 94] (by decide +kernel) (by decide +kernel)
set_option maxRecDepth 20000 in
theorem gX8_why_X8_isOrder : GoodIn wsX8_why (wsV RX8 133 RX8 yX8_isOrder wsX8_isOrder) := goodIn_app (goodIn_of _ (by decide +kernel)) ggX8_why_X8_isOrder
set_option maxRecDepth 20000 in
theorem ggX8_why_X8_isLate : GoodIn wsX8_why wsX8_isLate := goodIn_r _ [15, 3, 16, 17, 18, 7, 19, 20, 21, 2, 1, 22, 23, 24, 25, 26, 27, 28, 29, 30, 31, 32, 33, 34, 35, 36, 37, 38, 39, 40, 41, 42, 43, 44, 45, 46, 47, 48, 49, 50, 51, 52, 53, 54, 55, 56, 57, 58, 59, 60, 61, 62, 63, 64, 76, 77, 78, 79, 80, 81, 82, 83, 84, 85, 86, 87, 88, 95, 96, 97, 98, 99, 89, 90, 91, 92, 93, 94, 100, 101] (by decide +kernel) (by decide +kernel)
set_option maxRecDepth 20000 in
theorem gX8_why_X8_isLate : GoodIn wsX8_why (wsV RX8 148 RX8 yX8_isLate wsX8_isLate) := goodIn_app (goodIn_of _ (by decide +kernel)) ggX8_why_X8_isLate
set_option maxRecDepth 20000 in
theorem ggX8_why_X8_bit : GoodIn wsX8_why wsX8_bit := goodIn_r _ [28] (by decide +kernel) (by decide +kernel)
set_option maxRecDepth 20000 in
theorem gX8_why_X8_bit : GoodIn wsX8_why (va_wsS RX8 154 yX8_bit wsX8_bit) := goodIn_app (goodIn_of _ (by decide +kernel)) ggX8_why_X8_bit
set_option maxRecDepth 20000 in
theorem ggX8_why_X8_keptOnes : GoodIn wsX8_why wsX8_keptOnes := goodIn_r _ [19, 20, 21, 2, 1, 3, 22, 23, 24, 7, 25, 26, 27, 28, 29, 30, 31, 32, 33, 34, 35, 36, 37, 38, 39, 40, 41, 42, 43, 44, 45, 46, 47, 48, 49, 50, 51, 52, 53, 54, 55, 56, 57, 58, 59, 60, 61, 62, 63, 64, 76, 77, 78, 79, 80, 81, 82, 83, 84, 85, 86, 87, 88, 89, 90, 91, 92, 93, 94, 95, 96, 97, 98, 99, 100, 101] (by decide +kernel) (by decide +kernel)
set_option maxRecDepth 20000 in
theorem gX8_why_X8_keptOnes : GoodIn wsX8_why (wsV RX8 242 RX8 yX8_keptOnes wsX8_keptOnes) := goodIn_app (goodIn_of _ (by decide +kernel)) ggX8_why_X8_keptOnes
set_option maxRecDepth 20000 in
theorem ggX8_why_X8_isAhead : GoodIn wsX8_why wsX8_isAhead := goodIn_r _ [68, 1, 76, 77, 78, 79, 80, 81, 82, 83, 84, 85, 86, 87, 88, 89, 90, 91, 92, 93, 94] (by decide +kernel) (by decide +kernel)
set_option maxRecDepth 20000 in
theorem gX8_why_X8_isAhead : GoodIn wsX8_why (wsV RX8 245 RX8 yX8_isAhead wsX8_isAhead) := goodIn_app (goodIn_of _ (by decide +kernel)) ggX8_why_X8_isAhead
set_option maxRecDepth 20000 in
theorem ggX8_why_X6_lay : GoodIn wsX8_why wsX6_lay := goodIn_r _ [33, 34, 35, 36, 37, 38, 32, 39, 40, 41, 42, 43, 27, 7, 28, 44, 45, 46, 47, 48, 49, 50, 51, 52, 100, 101, 89, 90, 91, 92, 93, 94, 95, 96, 97, 98, 99] (by decide +kernel) (by decide +kernel)
set_option maxRecDepth 20000 in
theorem gX8_why_X6_lay : GoodIn wsX8_why (wsV RX8 186 RX6 yX6_lay wsX6_lay) := goodIn_app (goodIn_of _ (by decide +kernel)) ggX8_why_X6_lay
set_option maxRecDepth 20000 in
theorem ggX8_why_X6_tightest : GoodIn wsX8_why wsX6_tightest := goodIn_r _ [72, 34, 100, 101] (by decide +kernel) (by decide +kernel)
set_option maxRecDepth 20000 in
theorem gX8_why_X6_tightest : GoodIn wsX8_why (wsV RX8 190 RX6 yX6_tightest wsX6_tightest) := goodIn_app (goodIn_of _ (by decide +kernel)) ggX8_why_X6_tightest
set_option maxRecDepth 20000 in
theorem ggX8_why_X8_stepOf : GoodIn wsX8_why wsX8_stepOf := goodIn_r _ [75] (by decide +kernel) (by decide +kernel)
set_option maxRecDepth 20000 in
theorem gX8_why_X8_stepOf : GoodIn wsX8_why (va_wsS RX8 197 yX8_stepOf wsX8_stepOf) := goodIn_app (goodIn_of _ (by decide +kernel)) ggX8_why_X8_stepOf
theorem dX8_why_0 : decode cX8_why 0 = .ok (.aload_n 0, 1) := by decide +kernel
theorem dX8_why_1 : decode cX8_why 1 = .ok (.iload_n 1, 1) := by decide +kernel
theorem dX8_why_2 : decode cX8_why 2 = .ok (.invokevirtual 133, 3) := by decide +kernel
theorem dX8_why_5 : decode cX8_why 5 = .ok (.ifCond .ne 5, 3) := by decide +kernel
theorem dX8_why_8 : decode cX8_why 8 = .ok (.iconst (-1), 1) := by decide +kernel
theorem dX8_why_9 : decode cX8_why 9 = .ok (.ireturn, 1) := by decide +kernel
theorem dX8_why_10 : decode cX8_why 10 = .ok (.aload_n 0, 1) := by decide +kernel
theorem dX8_why_11 : decode cX8_why 11 = .ok (.iload_n 1, 1) := by decide +kernel
theorem dX8_why_12 : decode cX8_why 12 = .ok (.invokevirtual 148, 3) := by decide +kernel
theorem dX8_why_15 : decode cX8_why 15 = .ok (.ifCond .ne 6, 3) := by decide +kernel
theorem dX8_why_18 : decode cX8_why 18 = .ok (.bipush (-5), 2) := by decide +kernel
theorem dX8_why_20 : decode cX8_why 20 = .ok (.ireturn, 1) := by decide +kernel
theorem dX8_why_21 : decode cX8_why 21 = .ok (.iload_n 1, 1) := by decide +kernel
theorem dX8_why_22 : decode cX8_why 22 = .ok (.invokestatic 154, 3) := by decide +kernel
theorem dX8_why_25 : decode cX8_why 25 = .ok (.istore_n 2, 1) := by decide +kernel
theorem dX8_why_26 : decode cX8_why 26 = .ok (.aload_n 0, 1) := by decide +kernel
theorem dX8_why_27 : decode cX8_why 27 = .ok (.invokevirtual 242, 3) := by decide +kernel
theorem dX8_why_30 : decode cX8_why 30 = .ok (.istore_n 3, 1) := by decide +kernel
theorem dX8_why_31 : decode cX8_why 31 = .ok (.iconst 0, 1) := by decide +kernel
theorem dX8_why_32 : decode cX8_why 32 = .ok (.istore 4, 2) := by decide +kernel
theorem dX8_why_34 : decode cX8_why 34 = .ok (.iload 4, 2) := by decide +kernel
theorem dX8_why_36 : decode cX8_why 36 = .ok (.aload_n 0, 1) := by decide +kernel
theorem dX8_why_37 : decode cX8_why 37 = .ok (.getfield 12, 3) := by decide +kernel
theorem dX8_why_40 : decode cX8_why 40 = .ok (.getfield 116, 3) := by decide +kernel
theorem dX8_why_43 : decode cX8_why 43 = .ok (.if_icmp .ge 37, 3) := by decide +kernel
theorem dX8_why_46 : decode cX8_why 46 = .ok (.iload_n 3, 1) := by decide +kernel
theorem dX8_why_47 : decode cX8_why 47 = .ok (.iload 4, 2) := by decide +kernel
theorem dX8_why_49 : decode cX8_why 49 = .ok (.invokestatic 154, 3) := by decide +kernel
theorem dX8_why_52 : decode cX8_why 52 = .ok (.iand, 1) := by decide +kernel
theorem dX8_why_53 : decode cX8_why 53 = .ok (.ifCond .eq 21, 3) := by decide +kernel
theorem dX8_why_56 : decode cX8_why 56 = .ok (.aload_n 0, 1) := by decide +kernel
theorem dX8_why_57 : decode cX8_why 57 = .ok (.iload 4, 2) := by decide +kernel
theorem dX8_why_59 : decode cX8_why 59 = .ok (.iload_n 1, 1) := by decide +kernel
theorem dX8_why_60 : decode cX8_why 60 = .ok (.invokevirtual 245, 3) := by decide +kernel
theorem dX8_why_63 : decode cX8_why 63 = .ok (.ifCond .eq 11, 3) := by decide +kernel
theorem dX8_why_66 : decode cX8_why 66 = .ok (.iload_n 2, 1) := by decide +kernel
theorem dX8_why_67 : decode cX8_why 67 = .ok (.iload 4, 2) := by decide +kernel
theorem dX8_why_69 : decode cX8_why 69 = .ok (.invokestatic 154, 3) := by decide +kernel
theorem dX8_why_72 : decode cX8_why 72 = .ok (.ior, 1) := by decide +kernel
theorem dX8_why_73 : decode cX8_why 73 = .ok (.istore_n 2, 1) := by decide +kernel
theorem dX8_why_74 : decode cX8_why 74 = .ok (.iinc 4 1, 3) := by decide +kernel
theorem dX8_why_77 : decode cX8_why 77 = .ok (.goto (-43), 3) := by decide +kernel
theorem dX8_why_80 : decode cX8_why 80 = .ok (.aload_n 0, 1) := by decide +kernel
theorem dX8_why_81 : decode cX8_why 81 = .ok (.getfield 43, 3) := by decide +kernel
theorem dX8_why_84 : decode cX8_why 84 = .ok (.aload_n 0, 1) := by decide +kernel
theorem dX8_why_85 : decode cX8_why 85 = .ok (.getfield 12, 3) := by decide +kernel
theorem dX8_why_88 : decode cX8_why 88 = .ok (.aload_n 0, 1) := by decide +kernel
theorem dX8_why_89 : decode cX8_why 89 = .ok (.getfield 19, 3) := by decide +kernel
theorem dX8_why_92 : decode cX8_why 92 = .ok (.iload_n 2, 1) := by decide +kernel
theorem dX8_why_93 : decode cX8_why 93 = .ok (.invokevirtual 186, 3) := by decide +kernel
theorem dX8_why_96 : decode cX8_why 96 = .ok (.aload_n 0, 1) := by decide +kernel
theorem dX8_why_97 : decode cX8_why 97 = .ok (.getfield 43, 3) := by decide +kernel
theorem dX8_why_100 : decode cX8_why 100 = .ok (.invokevirtual 190, 3) := by decide +kernel
theorem dX8_why_103 : decode cX8_why 103 = .ok (.invokestatic 197, 3) := by decide +kernel
theorem dX8_why_106 : decode cX8_why 106 = .ok (.ireturn, 1) := by decide +kernel
set_option maxRecDepth 20000 in
theorem ggX8_ledger_X8_isOrder : GoodIn wsX8_ledger wsX8_isOrder := goodIn_r _ [6, 7, 8, 9, 5, 10, 143, 144, 145, 146, 147, 148, 149, 150, 151, 152, 153, 154, 155, 158, 159, 160, 161, 162, 163] (by decide +kernel) (by decide +kernel)
set_option maxRecDepth 20000 in
theorem gX8_ledger_X8_isOrder : GoodIn wsX8_ledger (wsV RX8 133 RX8 yX8_isOrder wsX8_isOrder) := goodIn_app (goodIn_of _ (by decide +kernel)) ggX8_ledger_X8_isOrder
set_option maxRecDepth 20000 in
theorem ggX8_ledger_X8_isLate : GoodIn wsX8_ledger wsX8_isLate := goodIn_r _ [14, 15, 16, 17, 18, 5, 19, 20, 21, 22, 7, 23, 24, 25, 26, 27, 28, 29, 30, 31, 32, 33, 34, 35, 36, 37, 38, 39, 40, 41, 42, 43, 44, 45, 46, 47, 48, 49, 50, 51, 52, 53, 54, 55, 56, 57, 58, 59, 60, 61, 62, 63, 64, 65, 143, 144, 145, 146, 147, 148, 149, 150, 151, 152, 153, 154, 155, 164, 165, 166, 167, 168, 158, 159, 160, 161, 162, 163, 169, 170] (by decide +kernel) (by decide +kernel)
set_option maxRecDepth 20000 in
theorem gX8_ledger_X8_isLate : GoodIn wsX8_ledger (wsV RX8 148 RX8 yX8_isLate wsX8_isLate) := goodIn_app (goodIn_of _ (by decide +kernel)) ggX8_ledger_X8_isLate
set_option maxRecDepth 20000 in
theorem ggX8_ledger_X8_printLedger : GoodIn wsX8_ledger wsX8_printLedger := goodIn_r _ [69, 1, 7, 15, 70, 71, 72, 73, 74, 75, 76, 77, 78, 79, 80, 81, 82, 83, 84, 85, 86, 87, 88, 89, 90, 91, 92, 93, 94, 95, 96, 97, 98, 99, 100, 101, 102, 103, 104, 105, 106, 107, 108, 109, 110, 111, 112, 113, 114, 115, 116, 117, 118, 119, 120, 121, 122, 123, 124, 125, 126, 127, 128, 129, 130, 131, 132, 133, 134, 135, 136, 137, 138, 143, 144, 145, 146, 147, 148, 149, 150, 151, 152, 153, 154, 155, 158, 159, 160, 161, 162, 163, 164, 165, 166, 167, 168, 156, 157] (by decide +kernel) (by decide +kernel)
set_option maxRecDepth 20000 in
theorem gX8_ledger_X8_printLedger : GoodIn wsX8_ledger (wsV RX8 248 RX8 yX8_printLedger wsX8_printLedger) := goodIn_app (goodIn_of _ (by decide +kernel)) ggX8_ledger_X8_printLedger
set_option maxRecDepth 20000 in
theorem ggX8_ledger_X3_signAt : GoodIn wsX8_ledger wsX3_signAt := goodIn_r _ [142, 75, 84, 156, 157] (by decide +kernel) (by decide +kernel)
set_option maxRecDepth 20000 in
theorem gX8_ledger_X3_signAt : GoodIn wsX8_ledger (wsV RX8 253 RX3 yX3_signAt wsX3_signAt) := goodIn_app (goodIn_of _ (by decide +kernel)) ggX8_ledger_X3_signAt
theorem dX8_ledger_0 : decode cX8_ledger 0 = .ok (.aload_n 0, 1) := by decide +kernel
theorem dX8_ledger_1 : decode cX8_ledger 1 = .ok (.iload_n 1, 1) := by decide +kernel
theorem dX8_ledger_2 : decode cX8_ledger 2 = .ok (.invokevirtual 133, 3) := by decide +kernel
theorem dX8_ledger_5 : decode cX8_ledger 5 = .ok (.ifCond .eq 8, 3) := by decide +kernel
theorem dX8_ledger_8 : decode cX8_ledger 8 = .ok (.iload_n 2, 1) := by decide +kernel
theorem dX8_ledger_9 : decode cX8_ledger 9 = .ok (.iconst (-1), 1) := by decide +kernel
theorem dX8_ledger_10 : decode cX8_ledger 10 = .ok (.if_icmp .ge 5, 3) := by decide +kernel
theorem dX8_ledger_13 : decode cX8_ledger 13 = .ok (.iconst (-1), 1) := by decide +kernel
theorem dX8_ledger_14 : decode cX8_ledger 14 = .ok (.ireturn, 1) := by decide +kernel
theorem dX8_ledger_15 : decode cX8_ledger 15 = .ok (.aload_n 0, 1) := by decide +kernel
theorem dX8_ledger_16 : decode cX8_ledger 16 = .ok (.iload_n 1, 1) := by decide +kernel
theorem dX8_ledger_17 : decode cX8_ledger 17 = .ok (.aload_n 0, 1) := by decide +kernel
theorem dX8_ledger_18 : decode cX8_ledger 18 = .ok (.iload_n 1, 1) := by decide +kernel
theorem dX8_ledger_19 : decode cX8_ledger 19 = .ok (.invokevirtual 148, 3) := by decide +kernel
theorem dX8_ledger_22 : decode cX8_ledger 22 = .ok (.invokevirtual 248, 3) := by decide +kernel
theorem dX8_ledger_25 : decode cX8_ledger 25 = .ok (.iload_n 2, 1) := by decide +kernel
theorem dX8_ledger_26 : decode cX8_ledger 26 = .ok (.iconst (-1), 1) := by decide +kernel
theorem dX8_ledger_27 : decode cX8_ledger 27 = .ok (.if_icmp .ne 11, 3) := by decide +kernel
theorem dX8_ledger_30 : decode cX8_ledger 30 = .ok (.aload_n 0, 1) := by decide +kernel
theorem dX8_ledger_31 : decode cX8_ledger 31 = .ok (.getfield 64, 3) := by decide +kernel
theorem dX8_ledger_34 : decode cX8_ledger 34 = .ok (.getfield 252, 3) := by decide +kernel
theorem dX8_ledger_37 : decode cX8_ledger 37 = .ok (.ireturn, 1) := by decide +kernel
theorem dX8_ledger_38 : decode cX8_ledger 38 = .ok (.iload_n 2, 1) := by decide +kernel
theorem dX8_ledger_39 : decode cX8_ledger 39 = .ok (.aload_n 0, 1) := by decide +kernel
theorem dX8_ledger_40 : decode cX8_ledger 40 = .ok (.getfield 64, 3) := by decide +kernel
theorem dX8_ledger_43 : decode cX8_ledger 43 = .ok (.getfield 252, 3) := by decide +kernel
theorem dX8_ledger_46 : decode cX8_ledger 46 = .ok (.if_icmp .ge 14, 3) := by decide +kernel
theorem dX8_ledger_49 : decode cX8_ledger 49 = .ok (.aload_n 0, 1) := by decide +kernel
theorem dX8_ledger_50 : decode cX8_ledger 50 = .ok (.getfield 64, 3) := by decide +kernel
theorem dX8_ledger_53 : decode cX8_ledger 53 = .ok (.iload_n 2, 1) := by decide +kernel
theorem dX8_ledger_54 : decode cX8_ledger 54 = .ok (.invokevirtual 253, 3) := by decide +kernel
theorem dX8_ledger_57 : decode cX8_ledger 57 = .ok (.goto 5, 3) := by decide +kernel
theorem dX8_ledger_60 : decode cX8_ledger 60 = .ok (.bipush (-2), 2) := by decide +kernel
theorem dX8_ledger_62 : decode cX8_ledger 62 = .ok (.ireturn, 1) := by decide +kernel
set_option maxRecDepth 20000 in
theorem ggX8_row_X4_has : GoodIn wsX8_row wsX4_has := goodIn_r _ [6] (by decide +kernel) (by decide +kernel)
set_option maxRecDepth 20000 in
theorem gX8_row_X4_has : GoodIn wsX8_row (wsV RX8 256 RX4 yX4_has wsX4_has) := goodIn_app (goodIn_of _ (by decide +kernel)) ggX8_row_X4_has
set_option maxRecDepth 20000 in
theorem ggX8_row_X4_lay : GoodIn wsX8_row wsX4_lay := goodIn_r _ [10, 11, 12, 13, 14, 15, 16, 17, 3, 4, 5, 6, 31, 32] (by decide +kernel) (by decide +kernel)
set_option maxRecDepth 20000 in
theorem gX8_row_X4_lay : GoodIn wsX8_row (wsV RX8 259 RX4 yX4_lay wsX4_lay) := goodIn_app (goodIn_of _ (by decide +kernel)) ggX8_row_X4_lay
theorem dX8_row_0 : decode cX8_row 0 = .ok (.aload_n 0, 1) := by decide +kernel
theorem dX8_row_1 : decode cX8_row 1 = .ok (.getfield 57, 3) := by decide +kernel
theorem dX8_row_4 : decode cX8_row 4 = .ok (.iload_n 1, 1) := by decide +kernel
theorem dX8_row_5 : decode cX8_row 5 = .ok (.invokevirtual 256, 3) := by decide +kernel
theorem dX8_row_8 : decode cX8_row 8 = .ok (.ifCond .eq 9, 3) := by decide +kernel
theorem dX8_row_11 : decode cX8_row 11 = .ok (.iload_n 2, 1) := by decide +kernel
theorem dX8_row_12 : decode cX8_row 12 = .ok (.bipush 24, 2) := by decide +kernel
theorem dX8_row_14 : decode cX8_row 14 = .ok (.if_icmp .le 5, 3) := by decide +kernel
theorem dX8_row_17 : decode cX8_row 17 = .ok (.iconst (-1), 1) := by decide +kernel
theorem dX8_row_18 : decode cX8_row 18 = .ok (.ireturn, 1) := by decide +kernel
theorem dX8_row_19 : decode cX8_row 19 = .ok (.iload_n 2, 1) := by decide +kernel
theorem dX8_row_20 : decode cX8_row 20 = .ok (.ifCond .ge 6, 3) := by decide +kernel
theorem dX8_row_23 : decode cX8_row 23 = .ok (.bipush (-14), 2) := by decide +kernel
theorem dX8_row_25 : decode cX8_row 25 = .ok (.ireturn, 1) := by decide +kernel
theorem dX8_row_26 : decode cX8_row 26 = .ok (.aload_n 0, 1) := by decide +kernel
theorem dX8_row_27 : decode cX8_row 27 = .ok (.getfield 57, 3) := by decide +kernel
theorem dX8_row_30 : decode cX8_row 30 = .ok (.iload_n 1, 1) := by decide +kernel
theorem dX8_row_31 : decode cX8_row 31 = .ok (.iload_n 2, 1) := by decide +kernel
theorem dX8_row_32 : decode cX8_row 32 = .ok (.invokevirtual 259, 3) := by decide +kernel
theorem dX8_row_35 : decode cX8_row 35 = .ok (.iconst 1, 1) := by decide +kernel
theorem dX8_row_36 : decode cX8_row 36 = .ok (.ireturn, 1) := by decide +kernel
set_option maxRecDepth 20000 in
theorem ggX8_put_X4_has : GoodIn wsX8_put wsX4_has := goodIn_r _ [6] (by decide +kernel) (by decide +kernel)
set_option maxRecDepth 20000 in
theorem gX8_put_X4_has : GoodIn wsX8_put (wsV RX8 256 RX4 yX4_has wsX4_has) := goodIn_app (goodIn_of _ (by decide +kernel)) ggX8_put_X4_has
set_option maxRecDepth 20000 in
theorem ggX8_put_X4_isEmpty : GoodIn wsX8_put wsX4_isEmpty := goodIn_r _ [10, 11, 12, 3, 4, 5, 6, 36, 37] (by decide +kernel) (by decide +kernel)
set_option maxRecDepth 20000 in
theorem gX8_put_X4_isEmpty : GoodIn wsX8_put (wsV RX8 261 RX4 yX4_isEmpty wsX4_isEmpty) := goodIn_app (goodIn_of _ (by decide +kernel)) ggX8_put_X4_isEmpty
set_option maxRecDepth 20000 in
theorem ggX8_put_X4_hasPlace : GoodIn wsX8_put wsX4_hasPlace := goodIn_r _ [16, 11, 12, 3, 4, 5, 6, 36, 37] (by decide +kernel) (by decide +kernel)
set_option maxRecDepth 20000 in
theorem gX8_put_X4_hasPlace : GoodIn wsX8_put (wsV RX8 264 RX4 yX4_hasPlace wsX4_hasPlace) := goodIn_app (goodIn_of _ (by decide +kernel)) ggX8_put_X4_hasPlace
set_option maxRecDepth 20000 in
theorem ggX8_put_X4_write : GoodIn wsX8_put wsX4_write := goodIn_r _ [20, 21, 22, 14, 15, 5, 16, 11, 12, 3, 4, 6, 36, 37] (by decide +kernel) (by decide +kernel)
set_option maxRecDepth 20000 in
theorem gX8_put_X4_write : GoodIn wsX8_put (wsV RX8 267 RX4 yX4_write wsX4_write) := goodIn_app (goodIn_of _ (by decide +kernel)) ggX8_put_X4_write
theorem dX8_put_0 : decode cX8_put 0 = .ok (.aload_n 0, 1) := by decide +kernel
theorem dX8_put_1 : decode cX8_put 1 = .ok (.getfield 57, 3) := by decide +kernel
theorem dX8_put_4 : decode cX8_put 4 = .ok (.iload_n 1, 1) := by decide +kernel
theorem dX8_put_5 : decode cX8_put 5 = .ok (.invokevirtual 256, 3) := by decide +kernel
theorem dX8_put_8 : decode cX8_put 8 = .ok (.ifCond .ne 5, 3) := by decide +kernel
theorem dX8_put_11 : decode cX8_put 11 = .ok (.iconst (-1), 1) := by decide +kernel
theorem dX8_put_12 : decode cX8_put 12 = .ok (.ireturn, 1) := by decide +kernel
theorem dX8_put_13 : decode cX8_put 13 = .ok (.aload_n 0, 1) := by decide +kernel
theorem dX8_put_14 : decode cX8_put 14 = .ok (.getfield 57, 3) := by decide +kernel
theorem dX8_put_17 : decode cX8_put 17 = .ok (.iload_n 1, 1) := by decide +kernel
theorem dX8_put_18 : decode cX8_put 18 = .ok (.invokevirtual 261, 3) := by decide +kernel
theorem dX8_put_21 : decode cX8_put 21 = .ok (.ifCond .eq 6, 3) := by decide +kernel
theorem dX8_put_24 : decode cX8_put 24 = .ok (.bipush (-11), 2) := by decide +kernel
theorem dX8_put_26 : decode cX8_put 26 = .ok (.ireturn, 1) := by decide +kernel
theorem dX8_put_27 : decode cX8_put 27 = .ok (.aload_n 0, 1) := by decide +kernel
theorem dX8_put_28 : decode cX8_put 28 = .ok (.getfield 57, 3) := by decide +kernel
theorem dX8_put_31 : decode cX8_put 31 = .ok (.iload_n 1, 1) := by decide +kernel
theorem dX8_put_32 : decode cX8_put 32 = .ok (.iload_n 2, 1) := by decide +kernel
theorem dX8_put_33 : decode cX8_put 33 = .ok (.invokevirtual 264, 3) := by decide +kernel
theorem dX8_put_36 : decode cX8_put 36 = .ok (.ifCond .ne 6, 3) := by decide +kernel
theorem dX8_put_39 : decode cX8_put 39 = .ok (.bipush (-13), 2) := by decide +kernel
theorem dX8_put_41 : decode cX8_put 41 = .ok (.ireturn, 1) := by decide +kernel
theorem dX8_put_42 : decode cX8_put 42 = .ok (.aload_n 0, 1) := by decide +kernel
theorem dX8_put_43 : decode cX8_put 43 = .ok (.getfield 57, 3) := by decide +kernel
theorem dX8_put_46 : decode cX8_put 46 = .ok (.iload_n 1, 1) := by decide +kernel
theorem dX8_put_47 : decode cX8_put 47 = .ok (.iload_n 2, 1) := by decide +kernel
theorem dX8_put_48 : decode cX8_put 48 = .ok (.lload_n 3, 1) := by decide +kernel
theorem dX8_put_49 : decode cX8_put 49 = .ok (.invokevirtual 267, 3) := by decide +kernel
theorem dX8_put_52 : decode cX8_put 52 = .ok (.iconst 1, 1) := by decide +kernel
theorem dX8_put_53 : decode cX8_put 53 = .ok (.ireturn, 1) := by decide +kernel
set_option maxRecDepth 20000 in
theorem ggX8_get_X4_hasPlace : GoodIn wsX8_get wsX4_hasPlace := goodIn_r _ [7, 8, 9, 10, 11, 6, 12, 32, 33] (by decide +kernel) (by decide +kernel)
set_option maxRecDepth 20000 in
theorem gX8_get_X4_hasPlace : GoodIn wsX8_get (wsV RX8 264 RX4 yX4_hasPlace wsX4_hasPlace) := goodIn_app (goodIn_of _ (by decide +kernel)) ggX8_get_X4_hasPlace
set_option maxRecDepth 20000 in
theorem ggX8_get_X4_read : GoodIn wsX8_get wsX4_read := goodIn_r _ [16, 17, 18, 4, 5, 6, 7, 8, 9, 10, 11, 12, 32, 33] (by decide +kernel) (by decide +kernel)
set_option maxRecDepth 20000 in
theorem gX8_get_X4_read : GoodIn wsX8_get (wsV RX8 271 RX4 yX4_read wsX4_read) := goodIn_app (goodIn_of _ (by decide +kernel)) ggX8_get_X4_read
theorem dX8_get_0 : decode cX8_get 0 = .ok (.aload_n 0, 1) := by decide +kernel
theorem dX8_get_1 : decode cX8_get 1 = .ok (.getfield 57, 3) := by decide +kernel
theorem dX8_get_4 : decode cX8_get 4 = .ok (.iload_n 1, 1) := by decide +kernel
theorem dX8_get_5 : decode cX8_get 5 = .ok (.iload_n 2, 1) := by decide +kernel
theorem dX8_get_6 : decode cX8_get 6 = .ok (.invokevirtual 264, 3) := by decide +kernel
theorem dX8_get_9 : decode cX8_get 9 = .ok (.ifCond .eq 15, 3) := by decide +kernel
theorem dX8_get_12 : decode cX8_get 12 = .ok (.aload_n 0, 1) := by decide +kernel
theorem dX8_get_13 : decode cX8_get 13 = .ok (.getfield 57, 3) := by decide +kernel
theorem dX8_get_16 : decode cX8_get 16 = .ok (.iload_n 1, 1) := by decide +kernel
theorem dX8_get_17 : decode cX8_get 17 = .ok (.iload_n 2, 1) := by decide +kernel
theorem dX8_get_18 : decode cX8_get 18 = .ok (.invokevirtual 271, 3) := by decide +kernel
theorem dX8_get_21 : decode cX8_get 21 = .ok (.goto 6, 3) := by decide +kernel
theorem dX8_get_24 : decode cX8_get 24 = .ok (.ldc2_w 275, 3) := by decide +kernel
theorem dX8_get_27 : decode cX8_get 27 = .ok (.lreturn, 1) := by decide +kernel
set_option maxRecDepth 20000 in
theorem ggX8_from_X4_has : GoodIn wsX8_from wsX4_has := goodIn_r _ [8] (by decide +kernel) (by decide +kernel)
set_option maxRecDepth 20000 in
theorem gX8_from_X4_has : GoodIn wsX8_from (wsV RX8 256 RX4 yX4_has wsX4_has) := goodIn_app (goodIn_of _ (by decide +kernel)) ggX8_from_X4_has
set_option maxRecDepth 20000 in
theorem ggX8_from_X8_isSupply : GoodIn wsX8_from wsX8_isSupply := goodIn_r _ [12, 13, 14, 11, 15, 16, 17, 18] (by decide +kernel) (by decide +kernel)
set_option maxRecDepth 20000 in
theorem gX8_from_X8_isSupply : GoodIn wsX8_from (va_wsS RX8 72 yX8_isSupply wsX8_isSupply) := goodIn_app (goodIn_of _ (by decide +kernel)) ggX8_from_X8_isSupply
set_option maxRecDepth 20000 in
theorem ggX8_from_X4_isEmpty : GoodIn wsX8_from wsX4_isEmpty := goodIn_r _ [22, 23, 24, 5, 6, 7, 8, 93, 94] (by decide +kernel) (by decide +kernel)
set_option maxRecDepth 20000 in
theorem gX8_from_X4_isEmpty : GoodIn wsX8_from (wsV RX8 261 RX4 yX4_isEmpty wsX4_isEmpty) := goodIn_app (goodIn_of _ (by decide +kernel)) ggX8_from_X4_isEmpty
set_option maxRecDepth 20000 in
theorem ggX8_from_X4_hasPlace : GoodIn wsX8_from wsX4_hasPlace := goodIn_r _ [28, 23, 24, 5, 6, 7, 8, 93, 94] (by decide +kernel) (by decide +kernel)
set_option maxRecDepth 20000 in
theorem gX8_from_X4_hasPlace : GoodIn wsX8_from (wsV RX8 264 RX4 yX4_hasPlace wsX4_hasPlace) := goodIn_app (goodIn_of _ (by decide +kernel)) ggX8_from_X4_hasPlace
set_option maxRecDepth 20000 in
theorem ggX8_from_X4_read : GoodIn wsX8_from wsX4_read := goodIn_r _ [32, 33, 34, 26, 27, 7, 28, 23, 24, 5, 6, 8, 93, 94] (by decide +kernel) (by decide +kernel)
set_option maxRecDepth 20000 in
theorem gX8_from_X4_read : GoodIn wsX8_from (wsV RX8 271 RX4 yX4_read wsX4_read) := goodIn_app (goodIn_of _ (by decide +kernel)) ggX8_from_X4_read
set_option maxRecDepth 20000 in
theorem ggX8_from_X8_noteChange : GoodIn wsX8_from wsX8_noteChange := goodIn_r _ [38, 39, 40, 3, 41, 42, 43, 44, 45, 46, 47, 48, 49, 50, 51, 52, 53, 54, 55, 56, 57, 58, 59, 60, 61, 62, 63, 64, 65, 66, 67, 68, 69, 70, 71, 72, 73, 74, 75, 76, 77, 78, 79, 80, 81, 82, 83, 84, 85, 86, 87, 95, 96, 97, 98, 99, 100, 101, 102, 103, 88, 89, 90, 91, 92] (by decide +kernel) (by decide +kernel)
set_option maxRecDepth 20000 in
theorem gX8_from_X8_noteChange : GoodIn wsX8_from (wsV RX8 83 RX8 yX8_noteChange wsX8_noteChange) := goodIn_app (goodIn_of _ (by decide +kernel)) ggX8_from_X8_noteChange
theorem dX8_from_0 : decode cX8_from 0 = .ok (.aload_n 0, 1) := by decide +kernel
theorem dX8_from_1 : decode cX8_from 1 = .ok (.getfield 57, 3) := by decide +kernel
theorem dX8_from_4 : decode cX8_from 4 = .ok (.iload_n 1, 1) := by decide +kernel
theorem dX8_from_5 : decode cX8_from 5 = .ok (.invokevirtual 256, 3) := by decide +kernel
theorem dX8_from_8 : decode cX8_from 8 = .ok (.ifCond .eq 12, 3) := by decide +kernel
theorem dX8_from_11 : decode cX8_from 11 = .ok (.iload_n 3, 1) := by decide +kernel
theorem dX8_from_12 : decode cX8_from 12 = .ok (.iload 4, 2) := by decide +kernel
theorem dX8_from_14 : decode cX8_from 14 = .ok (.invokestatic 72, 3) := by decide +kernel
theorem dX8_from_17 : decode cX8_from 17 = .ok (.ifCond .ne 5, 3) := by decide +kernel
theorem dX8_from_20 : decode cX8_from 20 = .ok (.iconst (-1), 1) := by decide +kernel
theorem dX8_from_21 : decode cX8_from 21 = .ok (.ireturn, 1) := by decide +kernel
theorem dX8_from_22 : decode cX8_from 22 = .ok (.aload_n 0, 1) := by decide +kernel
theorem dX8_from_23 : decode cX8_from 23 = .ok (.getfield 57, 3) := by decide +kernel
theorem dX8_from_26 : decode cX8_from 26 = .ok (.iload_n 1, 1) := by decide +kernel
theorem dX8_from_27 : decode cX8_from 27 = .ok (.invokevirtual 261, 3) := by decide +kernel
theorem dX8_from_30 : decode cX8_from 30 = .ok (.ifCond .eq 6, 3) := by decide +kernel
theorem dX8_from_33 : decode cX8_from 33 = .ok (.bipush (-11), 2) := by decide +kernel
theorem dX8_from_35 : decode cX8_from 35 = .ok (.ireturn, 1) := by decide +kernel
theorem dX8_from_36 : decode cX8_from 36 = .ok (.iload_n 2, 1) := by decide +kernel
theorem dX8_from_37 : decode cX8_from 37 = .ok (.ifCond .ge 6, 3) := by decide +kernel
theorem dX8_from_40 : decode cX8_from 40 = .ok (.bipush (-13), 2) := by decide +kernel
theorem dX8_from_42 : decode cX8_from 42 = .ok (.ireturn, 1) := by decide +kernel
theorem dX8_from_43 : decode cX8_from 43 = .ok (.iload_n 2, 1) := by decide +kernel
theorem dX8_from_44 : decode cX8_from 44 = .ok (.istore 5, 2) := by decide +kernel
theorem dX8_from_46 : decode cX8_from 46 = .ok (.iload 4, 2) := by decide +kernel
theorem dX8_from_48 : decode cX8_from 48 = .ok (.istore 6, 2) := by decide +kernel
theorem dX8_from_50 : decode cX8_from 50 = .ok (.iload 6, 2) := by decide +kernel
theorem dX8_from_52 : decode cX8_from 52 = .ok (.bipush 12, 2) := by decide +kernel
theorem dX8_from_54 : decode cX8_from 54 = .ok (.if_icmp .ge 74, 3) := by decide +kernel
theorem dX8_from_57 : decode cX8_from 57 = .ok (.aload_n 0, 1) := by decide +kernel
theorem dX8_from_58 : decode cX8_from 58 = .ok (.getfield 57, 3) := by decide +kernel
theorem dX8_from_61 : decode cX8_from 61 = .ok (.iload_n 1, 1) := by decide +kernel
theorem dX8_from_62 : decode cX8_from 62 = .ok (.iload 5, 2) := by decide +kernel
theorem dX8_from_64 : decode cX8_from 64 = .ok (.invokevirtual 264, 3) := by decide +kernel
theorem dX8_from_67 : decode cX8_from 67 = .ok (.ifCond .eq 61, 3) := by decide +kernel
theorem dX8_from_70 : decode cX8_from 70 = .ok (.aload_n 0, 1) := by decide +kernel
theorem dX8_from_71 : decode cX8_from 71 = .ok (.getfield 57, 3) := by decide +kernel
theorem dX8_from_74 : decode cX8_from 74 = .ok (.iload_n 1, 1) := by decide +kernel
theorem dX8_from_75 : decode cX8_from 75 = .ok (.iload 5, 2) := by decide +kernel
theorem dX8_from_77 : decode cX8_from 77 = .ok (.invokevirtual 271, 3) := by decide +kernel
theorem dX8_from_80 : decode cX8_from 80 = .ok (.lstore 7, 2) := by decide +kernel
theorem dX8_from_82 : decode cX8_from 82 = .ok (.lload 7, 2) := by decide +kernel
theorem dX8_from_84 : decode cX8_from 84 = .ok (.lconst 0, 1) := by decide +kernel
theorem dX8_from_85 : decode cX8_from 85 = .ok (.lcmp, 1) := by decide +kernel
theorem dX8_from_86 : decode cX8_from 86 = .ok (.ifCond .lt 42, 3) := by decide +kernel
theorem dX8_from_89 : decode cX8_from 89 = .ok (.lload 7, 2) := by decide +kernel
theorem dX8_from_91 : decode cX8_from 91 = .ok (.ldc2_w 277, 3) := by decide +kernel
theorem dX8_from_94 : decode cX8_from 94 = .ok (.lcmp, 1) := by decide +kernel
theorem dX8_from_95 : decode cX8_from 95 = .ok (.ifCond .le 6, 3) := by decide +kernel
theorem dX8_from_98 : decode cX8_from 98 = .ok (.goto 30, 3) := by decide +kernel
theorem dX8_from_101 : decode cX8_from 101 = .ok (.aload_n 0, 1) := by decide +kernel
theorem dX8_from_102 : decode cX8_from 102 = .ok (.getfield 19, 3) := by decide +kernel
theorem dX8_from_105 : decode cX8_from 105 = .ok (.getfield 80, 3) := by decide +kernel
theorem dX8_from_108 : decode cX8_from 108 = .ok (.iload_n 3, 1) := by decide +kernel
theorem dX8_from_109 : decode cX8_from 109 = .ok (.bipush 12, 2) := by decide +kernel
theorem dX8_from_111 : decode cX8_from 111 = .ok (.imul, 1) := by decide +kernel
theorem dX8_from_112 : decode cX8_from 112 = .ok (.iload 6, 2) := by decide +kernel
theorem dX8_from_114 : decode cX8_from 114 = .ok (.iadd, 1) := by decide +kernel
theorem dX8_from_115 : decode cX8_from 115 = .ok (.lload 7, 2) := by decide +kernel
theorem dX8_from_117 : decode cX8_from 117 = .ok (.l2i, 1) := by decide +kernel
theorem dX8_from_118 : decode cX8_from 118 = .ok (.iastore, 1) := by decide +kernel
theorem dX8_from_119 : decode cX8_from 119 = .ok (.iinc 5 1, 3) := by decide +kernel
theorem dX8_from_122 : decode cX8_from 122 = .ok (.iinc 6 1, 3) := by decide +kernel
theorem dX8_from_125 : decode cX8_from 125 = .ok (.goto (-75), 3) := by decide +kernel
theorem dX8_from_128 : decode cX8_from 128 = .ok (.aload_n 0, 1) := by decide +kernel
theorem dX8_from_129 : decode cX8_from 129 = .ok (.invokevirtual 83, 3) := by decide +kernel
theorem dX8_from_132 : decode cX8_from 132 = .ok (.iload 6, 2) := by decide +kernel
theorem dX8_from_134 : decode cX8_from 134 = .ok (.iload 4, 2) := by decide +kernel
theorem dX8_from_136 : decode cX8_from 136 = .ok (.isub, 1) := by decide +kernel
theorem dX8_from_137 : decode cX8_from 137 = .ok (.ireturn, 1) := by decide +kernel
set_option maxRecDepth 20000 in
theorem ggX8_lefts_X4_has : GoodIn wsX8_lefts wsX4_has := goodIn_r _ [6] (by decide +kernel) (by decide +kernel)
set_option maxRecDepth 20000 in
theorem gX8_lefts_X4_has : GoodIn wsX8_lefts (wsV RX8 256 RX4 yX4_has wsX4_has) := goodIn_app (goodIn_of _ (by decide +kernel)) ggX8_lefts_X4_has
set_option maxRecDepth 20000 in
theorem ggX8_lefts_X4_isEmpty : GoodIn wsX8_lefts wsX4_isEmpty := goodIn_r _ [10, 11, 12, 3, 4, 5, 6, 46, 47] (by decide +kernel) (by decide +kernel)
set_option maxRecDepth 20000 in
theorem gX8_lefts_X4_isEmpty : GoodIn wsX8_lefts (wsV RX8 261 RX4 yX4_isEmpty wsX4_isEmpty) := goodIn_app (goodIn_of _ (by decide +kernel)) ggX8_lefts_X4_isEmpty
set_option maxRecDepth 20000 in
theorem ggX8_lefts_X4_hasPlace : GoodIn wsX8_lefts wsX4_hasPlace := goodIn_r _ [16, 11, 12, 3, 4, 5, 6, 46, 47] (by decide +kernel) (by decide +kernel)
set_option maxRecDepth 20000 in
theorem gX8_lefts_X4_hasPlace : GoodIn wsX8_lefts (wsV RX8 264 RX4 yX4_hasPlace wsX4_hasPlace) := goodIn_app (goodIn_of _ (by decide +kernel)) ggX8_lefts_X4_hasPlace
set_option maxRecDepth 20000 in
theorem ggX8_lefts_X8_leftAt : GoodIn wsX8_lefts wsX8_leftAt := goodIn_r _ [21, 22, 23, 24, 25, 20, 26, 33, 34, 35, 36, 37, 38, 39, 40, 41, 42, 43, 44, 45, 48, 49, 50, 51, 52, 53, 54, 55, 56, 57, 58] (by decide +kernel) (by decide +kernel)
set_option maxRecDepth 20000 in
theorem gX8_lefts_X8_leftAt : GoodIn wsX8_lefts (wsV RX8 182 RX8 yX8_leftAt wsX8_leftAt) := goodIn_app (goodIn_of _ (by decide +kernel)) ggX8_lefts_X8_leftAt
set_option maxRecDepth 20000 in
theorem ggX8_lefts_X4_write : GoodIn wsX8_lefts wsX4_write := goodIn_r _ [30, 31, 32, 14, 15, 5, 16, 11, 12, 3, 4, 6, 46, 47] (by decide +kernel) (by decide +kernel)
set_option maxRecDepth 20000 in
theorem gX8_lefts_X4_write : GoodIn wsX8_lefts (wsV RX8 267 RX4 yX4_write wsX4_write) := goodIn_app (goodIn_of _ (by decide +kernel)) ggX8_lefts_X4_write
theorem dX8_lefts_0 : decode cX8_lefts 0 = .ok (.aload_n 0, 1) := by decide +kernel
theorem dX8_lefts_1 : decode cX8_lefts 1 = .ok (.getfield 57, 3) := by decide +kernel
theorem dX8_lefts_4 : decode cX8_lefts 4 = .ok (.iload_n 1, 1) := by decide +kernel
theorem dX8_lefts_5 : decode cX8_lefts 5 = .ok (.invokevirtual 256, 3) := by decide +kernel
theorem dX8_lefts_8 : decode cX8_lefts 8 = .ok (.ifCond .ne 5, 3) := by decide +kernel
theorem dX8_lefts_11 : decode cX8_lefts 11 = .ok (.iconst (-1), 1) := by decide +kernel
theorem dX8_lefts_12 : decode cX8_lefts 12 = .ok (.ireturn, 1) := by decide +kernel
theorem dX8_lefts_13 : decode cX8_lefts 13 = .ok (.aload_n 0, 1) := by decide +kernel
theorem dX8_lefts_14 : decode cX8_lefts 14 = .ok (.getfield 57, 3) := by decide +kernel
theorem dX8_lefts_17 : decode cX8_lefts 17 = .ok (.iload_n 1, 1) := by decide +kernel
theorem dX8_lefts_18 : decode cX8_lefts 18 = .ok (.invokevirtual 261, 3) := by decide +kernel
theorem dX8_lefts_21 : decode cX8_lefts 21 = .ok (.ifCond .eq 6, 3) := by decide +kernel
theorem dX8_lefts_24 : decode cX8_lefts 24 = .ok (.bipush (-11), 2) := by decide +kernel
theorem dX8_lefts_26 : decode cX8_lefts 26 = .ok (.ireturn, 1) := by decide +kernel
theorem dX8_lefts_27 : decode cX8_lefts 27 = .ok (.iload_n 2, 1) := by decide +kernel
theorem dX8_lefts_28 : decode cX8_lefts 28 = .ok (.ifCond .ge 6, 3) := by decide +kernel
theorem dX8_lefts_31 : decode cX8_lefts 31 = .ok (.bipush (-13), 2) := by decide +kernel
theorem dX8_lefts_33 : decode cX8_lefts 33 = .ok (.ireturn, 1) := by decide +kernel
theorem dX8_lefts_34 : decode cX8_lefts 34 = .ok (.iconst 0, 1) := by decide +kernel
theorem dX8_lefts_35 : decode cX8_lefts 35 = .ok (.istore_n 3, 1) := by decide +kernel
theorem dX8_lefts_36 : decode cX8_lefts 36 = .ok (.iload_n 3, 1) := by decide +kernel
theorem dX8_lefts_37 : decode cX8_lefts 37 = .ok (.bipush 12, 2) := by decide +kernel
theorem dX8_lefts_39 : decode cX8_lefts 39 = .ok (.if_icmp .ge 48, 3) := by decide +kernel
theorem dX8_lefts_42 : decode cX8_lefts 42 = .ok (.aload_n 0, 1) := by decide +kernel
theorem dX8_lefts_43 : decode cX8_lefts 43 = .ok (.getfield 57, 3) := by decide +kernel
theorem dX8_lefts_46 : decode cX8_lefts 46 = .ok (.iload_n 1, 1) := by decide +kernel
theorem dX8_lefts_47 : decode cX8_lefts 47 = .ok (.iload_n 2, 1) := by decide +kernel
theorem dX8_lefts_48 : decode cX8_lefts 48 = .ok (.iload_n 3, 1) := by decide +kernel
theorem dX8_lefts_49 : decode cX8_lefts 49 = .ok (.iadd, 1) := by decide +kernel
theorem dX8_lefts_50 : decode cX8_lefts 50 = .ok (.invokevirtual 264, 3) := by decide +kernel
theorem dX8_lefts_53 : decode cX8_lefts 53 = .ok (.ifCond .eq 34, 3) := by decide +kernel
theorem dX8_lefts_56 : decode cX8_lefts 56 = .ok (.aload_n 0, 1) := by decide +kernel
theorem dX8_lefts_57 : decode cX8_lefts 57 = .ok (.getfield 57, 3) := by decide +kernel
theorem dX8_lefts_60 : decode cX8_lefts 60 = .ok (.iload_n 1, 1) := by decide +kernel
theorem dX8_lefts_61 : decode cX8_lefts 61 = .ok (.iload_n 2, 1) := by decide +kernel
theorem dX8_lefts_62 : decode cX8_lefts 62 = .ok (.iload_n 3, 1) := by decide +kernel
theorem dX8_lefts_63 : decode cX8_lefts 63 = .ok (.iadd, 1) := by decide +kernel
theorem dX8_lefts_64 : decode cX8_lefts 64 = .ok (.aload_n 0, 1) := by decide +kernel
theorem dX8_lefts_65 : decode cX8_lefts 65 = .ok (.iload_n 3, 1) := by decide +kernel
theorem dX8_lefts_66 : decode cX8_lefts 66 = .ok (.iconst 1, 1) := by decide +kernel
theorem dX8_lefts_67 : decode cX8_lefts 67 = .ok (.iadd, 1) := by decide +kernel
theorem dX8_lefts_68 : decode cX8_lefts 68 = .ok (.iload_n 3, 1) := by decide +kernel
theorem dX8_lefts_69 : decode cX8_lefts 69 = .ok (.iconst 1, 1) := by decide +kernel
theorem dX8_lefts_70 : decode cX8_lefts 70 = .ok (.iadd, 1) := by decide +kernel
theorem dX8_lefts_71 : decode cX8_lefts 71 = .ok (.iload_n 3, 1) := by decide +kernel
theorem dX8_lefts_72 : decode cX8_lefts 72 = .ok (.iconst 1, 1) := by decide +kernel
theorem dX8_lefts_73 : decode cX8_lefts 73 = .ok (.iadd, 1) := by decide +kernel
theorem dX8_lefts_74 : decode cX8_lefts 74 = .ok (.invokevirtual 182, 3) := by decide +kernel
theorem dX8_lefts_77 : decode cX8_lefts 77 = .ok (.i2l, 1) := by decide +kernel
theorem dX8_lefts_78 : decode cX8_lefts 78 = .ok (.invokevirtual 267, 3) := by decide +kernel
theorem dX8_lefts_81 : decode cX8_lefts 81 = .ok (.iinc 3 1, 3) := by decide +kernel
theorem dX8_lefts_84 : decode cX8_lefts 84 = .ok (.goto (-48), 3) := by decide +kernel
theorem dX8_lefts_87 : decode cX8_lefts 87 = .ok (.iload_n 3, 1) := by decide +kernel
theorem dX8_lefts_88 : decode cX8_lefts 88 = .ok (.ireturn, 1) := by decide +kernel
set_option maxRecDepth 20000 in
theorem ggX8_undo_X2_stepBy : GoodIn wsX8_undo wsX2_stepBy := goodIn_r _ [6, 7, 8, 9, 10, 11, 12, 13, 14, 15, 16, 58, 59, 60] (by decide +kernel) (by decide +kernel)
set_option maxRecDepth 20000 in
theorem gX8_undo_X2_stepBy : GoodIn wsX8_undo (wsV RX8 282 RX2 yX2_stepBy wsX2_stepBy) := goodIn_app (goodIn_of _ (by decide +kernel)) ggX8_undo_X2_stepBy
set_option maxRecDepth 20000 in
theorem ggX8_undo_X8_layStepBack : GoodIn wsX8_undo wsX8_layStepBack := goodIn_r _ [21, 22, 23, 24, 25, 26, 20, 27, 28, 29, 30, 31, 32, 33, 34, 9, 10, 11, 35, 13, 14, 36, 37, 38, 39, 40, 41, 42, 43, 44, 61, 62, 63, 64, 65, 45, 46, 47, 48, 49, 50, 51, 52, 53, 54, 55, 56, 57, 66, 67, 68, 69, 70, 71] (by decide +kernel) (by decide +kernel)
set_option maxRecDepth 20000 in
theorem gX8_undo_X8_layStepBack : GoodIn wsX8_undo (wsV RX8 286 RX8 yX8_layStepBack wsX8_layStepBack) := goodIn_app (goodIn_of _ (by decide +kernel)) ggX8_undo_X8_layStepBack
theorem dX8_undo_0 : decode cX8_undo 0 = .ok (.aload_n 0, 1) := by decide +kernel
theorem dX8_undo_1 : decode cX8_undo 1 = .ok (.getfield 29, 3) := by decide +kernel
theorem dX8_undo_4 : decode cX8_undo 4 = .ok (.getfield 279, 3) := by decide +kernel
theorem dX8_undo_7 : decode cX8_undo 7 = .ok (.ifCond .ne 6, 3) := by decide +kernel
theorem dX8_undo_10 : decode cX8_undo 10 = .ok (.bipush (-5), 2) := by decide +kernel
theorem dX8_undo_12 : decode cX8_undo 12 = .ok (.ireturn, 1) := by decide +kernel
theorem dX8_undo_13 : decode cX8_undo 13 = .ok (.aload_n 0, 1) := by decide +kernel
theorem dX8_undo_14 : decode cX8_undo 14 = .ok (.aload_n 0, 1) := by decide +kernel
theorem dX8_undo_15 : decode cX8_undo 15 = .ok (.getfield 29, 3) := by decide +kernel
theorem dX8_undo_18 : decode cX8_undo 18 = .ok (.iconst (-1), 1) := by decide +kernel
theorem dX8_undo_19 : decode cX8_undo 19 = .ok (.invokevirtual 282, 3) := by decide +kernel
theorem dX8_undo_22 : decode cX8_undo 22 = .ok (.invokevirtual 286, 3) := by decide +kernel
theorem dX8_undo_25 : decode cX8_undo 25 = .ok (.aload_n 0, 1) := by decide +kernel
theorem dX8_undo_26 : decode cX8_undo 26 = .ok (.getfield 29, 3) := by decide +kernel
theorem dX8_undo_29 : decode cX8_undo 29 = .ok (.getfield 279, 3) := by decide +kernel
theorem dX8_undo_32 : decode cX8_undo 32 = .ok (.ireturn, 1) := by decide +kernel
set_option maxRecDepth 20000 in
theorem ggX8_redo_X2_stepBy : GoodIn wsX8_redo wsX2_stepBy := goodIn_r _ [6, 7, 8, 9, 10, 11, 12, 13, 14, 15, 16, 58, 59, 60] (by decide +kernel) (by decide +kernel)
set_option maxRecDepth 20000 in
theorem gX8_redo_X2_stepBy : GoodIn wsX8_redo (wsV RX8 282 RX2 yX2_stepBy wsX2_stepBy) := goodIn_app (goodIn_of _ (by decide +kernel)) ggX8_redo_X2_stepBy
set_option maxRecDepth 20000 in
theorem ggX8_redo_X8_layStepBack : GoodIn wsX8_redo wsX8_layStepBack := goodIn_r _ [21, 22, 23, 24, 25, 26, 20, 27, 28, 29, 30, 31, 32, 33, 34, 9, 10, 11, 35, 13, 14, 36, 37, 38, 39, 40, 41, 42, 43, 44, 61, 62, 63, 64, 65, 45, 46, 47, 48, 49, 50, 51, 52, 53, 54, 55, 56, 57, 66, 67, 68, 69, 70, 71] (by decide +kernel) (by decide +kernel)
set_option maxRecDepth 20000 in
theorem gX8_redo_X8_layStepBack : GoodIn wsX8_redo (wsV RX8 286 RX8 yX8_layStepBack wsX8_layStepBack) := goodIn_app (goodIn_of _ (by decide +kernel)) ggX8_redo_X8_layStepBack
theorem dX8_redo_0 : decode cX8_redo 0 = .ok (.aload_n 0, 1) := by decide +kernel
theorem dX8_redo_1 : decode cX8_redo 1 = .ok (.getfield 29, 3) := by decide +kernel
theorem dX8_redo_4 : decode cX8_redo 4 = .ok (.getfield 290, 3) := by decide +kernel
theorem dX8_redo_7 : decode cX8_redo 7 = .ok (.ifCond .ne 6, 3) := by decide +kernel
theorem dX8_redo_10 : decode cX8_redo 10 = .ok (.bipush (-5), 2) := by decide +kernel
theorem dX8_redo_12 : decode cX8_redo 12 = .ok (.ireturn, 1) := by decide +kernel
theorem dX8_redo_13 : decode cX8_redo 13 = .ok (.aload_n 0, 1) := by decide +kernel
theorem dX8_redo_14 : decode cX8_redo 14 = .ok (.aload_n 0, 1) := by decide +kernel
theorem dX8_redo_15 : decode cX8_redo 15 = .ok (.getfield 29, 3) := by decide +kernel
theorem dX8_redo_18 : decode cX8_redo 18 = .ok (.iconst 1, 1) := by decide +kernel
theorem dX8_redo_19 : decode cX8_redo 19 = .ok (.invokevirtual 282, 3) := by decide +kernel
theorem dX8_redo_22 : decode cX8_redo 22 = .ok (.invokevirtual 286, 3) := by decide +kernel
theorem dX8_redo_25 : decode cX8_redo 25 = .ok (.aload_n 0, 1) := by decide +kernel
theorem dX8_redo_26 : decode cX8_redo 26 = .ok (.getfield 29, 3) := by decide +kernel
theorem dX8_redo_29 : decode cX8_redo 29 = .ok (.getfield 290, 3) := by decide +kernel
theorem dX8_redo_32 : decode cX8_redo 32 = .ok (.ireturn, 1) := by decide +kernel
set_option maxRecDepth 20000 in
theorem ggX8_image_X5_copyOf : GoodIn wsX8_image wsX5_copyOf := goodIn_r _ [9, 10, 11, 12, 13, 14, 15, 16, 17, 18, 19, 20, 21, 22, 23, 24, 25, 64, 65, 66, 67, 68] (by decide +kernel) (by decide +kernel)
set_option maxRecDepth 20000 in
theorem gX8_image_X5_copyOf : GoodIn wsX8_image (wsV RX8 293 RX5 yX5_copyOf wsX5_copyOf) := goodIn_app (goodIn_of _ (by decide +kernel)) ggX8_image_X5_copyOf
set_option maxRecDepth 20000 in
theorem ggX8_image_X8_howMany : GoodIn wsX8_image wsX8_howMany := goodIn_r _ [30, 31, 32, 33, 29, 34, 3, 2, 35, 36, 37, 38, 39, 40, 41, 42, 43, 44, 45, 46, 47, 48, 49, 50, 51, 52, 53, 54, 55, 56, 57, 58, 59, 60, 61, 62, 63, 64, 65, 66, 67, 68] (by decide +kernel) (by decide +kernel)
set_option maxRecDepth 20000 in
theorem gX8_image_X8_howMany : GoodIn wsX8_image (wsV RX8 301 RX8 yX8_howMany wsX8_howMany) := goodIn_app (goodIn_of _ (by decide +kernel)) ggX8_image_X8_howMany
theorem dX8_image_0 : decode cX8_image 0 = .ok (.aload_n 0, 1) := by decide +kernel
theorem dX8_image_1 : decode cX8_image 1 = .ok (.getfield 23, 3) := by decide +kernel
theorem dX8_image_4 : decode cX8_image 4 = .ok (.aload_n 0, 1) := by decide +kernel
theorem dX8_image_5 : decode cX8_image 5 = .ok (.getfield 19, 3) := by decide +kernel
theorem dX8_image_8 : decode cX8_image 8 = .ok (.aload_n 0, 1) := by decide +kernel
theorem dX8_image_9 : decode cX8_image 9 = .ok (.getfield 12, 3) := by decide +kernel
theorem dX8_image_12 : decode cX8_image 12 = .ok (.getfield 116, 3) := by decide +kernel
theorem dX8_image_15 : decode cX8_image 15 = .ok (.invokevirtual 293, 3) := by decide +kernel
theorem dX8_image_18 : decode cX8_image 18 = .ok (.aload_n 0, 1) := by decide +kernel
theorem dX8_image_19 : decode cX8_image 19 = .ok (.iconst 1, 1) := by decide +kernel
theorem dX8_image_20 : decode cX8_image 20 = .ok (.putfield 297, 3) := by decide +kernel
theorem dX8_image_23 : decode cX8_image 23 = .ok (.aload_n 0, 1) := by decide +kernel
theorem dX8_image_24 : decode cX8_image 24 = .ok (.iconst 1, 1) := by decide +kernel
theorem dX8_image_25 : decode cX8_image 25 = .ok (.invokevirtual 301, 3) := by decide +kernel
theorem dX8_image_28 : decode cX8_image 28 = .ok (.ireturn, 1) := by decide +kernel
set_option maxRecDepth 20000 in
theorem ggX8_back_X8_layBack : GoodIn wsX8_back wsX8_layBack := goodIn_r _ [10, 4, 5, 11, 12, 13, 14, 15, 16, 17, 18, 19, 20, 21, 22, 23, 24, 25, 26, 27, 28, 29, 30, 31, 32, 60, 61, 62, 63, 64, 65, 66, 67, 68, 69, 70, 71, 72, 79, 80, 81, 82, 83, 73, 74, 75, 76, 77, 78] (by decide +kernel) (by decide +kernel)
set_option maxRecDepth 20000 in
theorem gX8_back_X8_layBack : GoodIn wsX8_back (wsV RX8 304 RX8 yX8_layBack wsX8_layBack) := goodIn_app (goodIn_of _ (by decide +kernel)) ggX8_back_X8_layBack
set_option maxRecDepth 20000 in
theorem ggX8_back_X2_startFrom : GoodIn wsX8_back wsX2_startFrom := goodIn_r _ [37, 38, 39, 40, 41, 13, 14, 15, 16, 17, 18, 19, 20, 21, 22, 23, 24, 25, 26, 27, 28, 29, 30, 31, 32, 84, 85, 86, 79, 80, 81, 82, 83] (by decide +kernel) (by decide +kernel)
set_option maxRecDepth 20000 in
theorem gX8_back_X2_startFrom : GoodIn wsX8_back (wsV RX8 307 RX2 yX2_startFrom wsX2_startFrom) := goodIn_app (goodIn_of _ (by decide +kernel)) ggX8_back_X2_startFrom
set_option maxRecDepth 20000 in
theorem ggX8_back_X8_howMany : GoodIn wsX8_back wsX8_howMany := goodIn_r _ [45, 46, 47, 48, 9, 49, 5, 4, 50, 51, 52, 53, 54, 55, 56, 57, 58, 59, 60, 61, 62, 63, 64, 65, 66, 67, 68, 69, 70, 71, 72, 73, 74, 75, 76, 77, 78, 79, 80, 81, 82, 83] (by decide +kernel) (by decide +kernel)
set_option maxRecDepth 20000 in
theorem gX8_back_X8_howMany : GoodIn wsX8_back (wsV RX8 301 RX8 yX8_howMany wsX8_howMany) := goodIn_app (goodIn_of _ (by decide +kernel)) ggX8_back_X8_howMany
theorem dX8_back_0 : decode cX8_back 0 = .ok (.aload_n 0, 1) := by decide +kernel
theorem dX8_back_1 : decode cX8_back 1 = .ok (.getfield 297, 3) := by decide +kernel
theorem dX8_back_4 : decode cX8_back 4 = .ok (.ifCond .ne 6, 3) := by decide +kernel
theorem dX8_back_7 : decode cX8_back 7 = .ok (.bipush (-5), 2) := by decide +kernel
theorem dX8_back_9 : decode cX8_back 9 = .ok (.ireturn, 1) := by decide +kernel
theorem dX8_back_10 : decode cX8_back 10 = .ok (.aload_n 0, 1) := by decide +kernel
theorem dX8_back_11 : decode cX8_back 11 = .ok (.aload_n 0, 1) := by decide +kernel
theorem dX8_back_12 : decode cX8_back 12 = .ok (.getfield 23, 3) := by decide +kernel
theorem dX8_back_15 : decode cX8_back 15 = .ok (.invokevirtual 304, 3) := by decide +kernel
theorem dX8_back_18 : decode cX8_back 18 = .ok (.aload_n 0, 1) := by decide +kernel
theorem dX8_back_19 : decode cX8_back 19 = .ok (.getfield 29, 3) := by decide +kernel
theorem dX8_back_22 : decode cX8_back 22 = .ok (.aload_n 0, 1) := by decide +kernel
theorem dX8_back_23 : decode cX8_back 23 = .ok (.getfield 19, 3) := by decide +kernel
theorem dX8_back_26 : decode cX8_back 26 = .ok (.aload_n 0, 1) := by decide +kernel
theorem dX8_back_27 : decode cX8_back 27 = .ok (.getfield 12, 3) := by decide +kernel
theorem dX8_back_30 : decode cX8_back 30 = .ok (.getfield 116, 3) := by decide +kernel
theorem dX8_back_33 : decode cX8_back 33 = .ok (.invokevirtual 307, 3) := by decide +kernel
theorem dX8_back_36 : decode cX8_back 36 = .ok (.aload_n 0, 1) := by decide +kernel
theorem dX8_back_37 : decode cX8_back 37 = .ok (.iconst 1, 1) := by decide +kernel
theorem dX8_back_38 : decode cX8_back 38 = .ok (.invokevirtual 301, 3) := by decide +kernel
theorem dX8_back_41 : decode cX8_back 41 = .ok (.ireturn, 1) := by decide +kernel
set_option maxRecDepth 20000 in
theorem ggX8_count_X8_howMany : GoodIn wsX8_count wsX8_howMany := goodIn_r _ [8, 9, 10, 11, 7, 12, 1, 13, 14, 15, 16, 17, 18, 19, 20, 21, 22, 23, 32, 33, 34, 35, 36, 37, 38, 39, 40, 41, 42, 43, 44, 45, 46, 47, 48, 49, 50, 58, 59, 60, 61, 62] (by decide +kernel) (by decide +kernel)
set_option maxRecDepth 20000 in
theorem gX8_count_X8_howMany : GoodIn wsX8_count (wsV RX8 301 RX8 yX8_howMany wsX8_howMany) := goodIn_app (goodIn_of _ (by decide +kernel)) ggX8_count_X8_howMany
set_option maxRecDepth 20000 in
theorem ggX8_count_X8_allSupplies : GoodIn wsX8_count wsX8_allSupplies := goodIn_r _ [27, 13, 32, 33, 34, 35, 36, 37, 38, 39, 40, 41, 42, 43, 44, 58, 59, 60, 61, 62] (by decide +kernel) (by decide +kernel)
set_option maxRecDepth 20000 in
theorem gX8_count_X8_allSupplies : GoodIn wsX8_count (wsV RX8 310 RX8 yX8_allSupplies wsX8_allSupplies) := goodIn_app (goodIn_of _ (by decide +kernel)) ggX8_count_X8_allSupplies
set_option maxRecDepth 20000 in
theorem ggX8_count_X8_setOf : GoodIn wsX8_count wsX8_setOf := goodIn_r _ [12, 1, 13, 14, 15, 7, 16, 32, 33, 34, 35, 36, 37, 38, 39, 40, 41, 42, 43, 44, 45, 46, 47, 48, 49, 50, 58, 59, 60, 61, 62] (by decide +kernel) (by decide +kernel)
set_option maxRecDepth 20000 in
theorem gX8_count_X8_setOf : GoodIn wsX8_count (wsV RX8 97 RX8 yX8_setOf wsX8_setOf) := goodIn_app (goodIn_of _ (by decide +kernel)) ggX8_count_X8_setOf
set_option maxRecDepth 20000 in
theorem ggX8_count_X8_amountOf : GoodIn wsX8_count wsX8_amountOf := goodIn_r _ [31, 1, 14, 15, 7, 16, 32, 33, 34, 35, 36, 37, 38, 39, 40, 41, 42, 43, 44, 45, 46, 47, 48, 49, 50] (by decide +kernel) (by decide +kernel)
set_option maxRecDepth 20000 in
theorem gX8_count_X8_amountOf : GoodIn wsX8_count (wsV RX8 100 RX8 yX8_amountOf wsX8_amountOf) := goodIn_app (goodIn_of _ (by decide +kernel)) ggX8_count_X8_amountOf
theorem dX8_count_0 : decode cX8_count 0 = .ok (.iload_n 1, 1) := by decide +kernel
theorem dX8_count_1 : decode cX8_count 1 = .ok (.tableswitch 117 0 8 #[51, 59, 65, 71, 77, 85, 93, 101, 106], 51) := by decide +kernel
theorem dX8_count_52 : decode cX8_count 52 = .ok (.aload_n 0, 1) := by decide +kernel
theorem dX8_count_53 : decode cX8_count 53 = .ok (.getfield 12, 3) := by decide +kernel
theorem dX8_count_56 : decode cX8_count 56 = .ok (.getfield 116, 3) := by decide +kernel
theorem dX8_count_59 : decode cX8_count 59 = .ok (.ireturn, 1) := by decide +kernel
theorem dX8_count_60 : decode cX8_count 60 = .ok (.aload_n 0, 1) := by decide +kernel
theorem dX8_count_61 : decode cX8_count 61 = .ok (.iconst 0, 1) := by decide +kernel
theorem dX8_count_62 : decode cX8_count 62 = .ok (.invokevirtual 301, 3) := by decide +kernel
theorem dX8_count_65 : decode cX8_count 65 = .ok (.ireturn, 1) := by decide +kernel
theorem dX8_count_66 : decode cX8_count 66 = .ok (.aload_n 0, 1) := by decide +kernel
theorem dX8_count_67 : decode cX8_count 67 = .ok (.iconst 1, 1) := by decide +kernel
theorem dX8_count_68 : decode cX8_count 68 = .ok (.invokevirtual 301, 3) := by decide +kernel
theorem dX8_count_71 : decode cX8_count 71 = .ok (.ireturn, 1) := by decide +kernel
theorem dX8_count_72 : decode cX8_count 72 = .ok (.aload_n 0, 1) := by decide +kernel
theorem dX8_count_73 : decode cX8_count 73 = .ok (.iconst 2, 1) := by decide +kernel
theorem dX8_count_74 : decode cX8_count 74 = .ok (.invokevirtual 301, 3) := by decide +kernel
theorem dX8_count_77 : decode cX8_count 77 = .ok (.ireturn, 1) := by decide +kernel
theorem dX8_count_78 : decode cX8_count 78 = .ok (.aload_n 0, 1) := by decide +kernel
theorem dX8_count_79 : decode cX8_count 79 = .ok (.getfield 36, 3) := by decide +kernel
theorem dX8_count_82 : decode cX8_count 82 = .ok (.getfield 112, 3) := by decide +kernel
theorem dX8_count_85 : decode cX8_count 85 = .ok (.ireturn, 1) := by decide +kernel
theorem dX8_count_86 : decode cX8_count 86 = .ok (.aload_n 0, 1) := by decide +kernel
theorem dX8_count_87 : decode cX8_count 87 = .ok (.getfield 29, 3) := by decide +kernel
theorem dX8_count_90 : decode cX8_count 90 = .ok (.getfield 279, 3) := by decide +kernel
theorem dX8_count_93 : decode cX8_count 93 = .ok (.ireturn, 1) := by decide +kernel
theorem dX8_count_94 : decode cX8_count 94 = .ok (.aload_n 0, 1) := by decide +kernel
theorem dX8_count_95 : decode cX8_count 95 = .ok (.getfield 29, 3) := by decide +kernel
theorem dX8_count_98 : decode cX8_count 98 = .ok (.getfield 290, 3) := by decide +kernel
theorem dX8_count_101 : decode cX8_count 101 = .ok (.ireturn, 1) := by decide +kernel
theorem dX8_count_102 : decode cX8_count 102 = .ok (.aload_n 0, 1) := by decide +kernel
theorem dX8_count_103 : decode cX8_count 103 = .ok (.invokevirtual 310, 3) := by decide +kernel
theorem dX8_count_106 : decode cX8_count 106 = .ok (.ireturn, 1) := by decide +kernel
theorem dX8_count_107 : decode cX8_count 107 = .ok (.aload_n 0, 1) := by decide +kernel
theorem dX8_count_108 : decode cX8_count 108 = .ok (.iconst (-1), 1) := by decide +kernel
theorem dX8_count_109 : decode cX8_count 109 = .ok (.aload_n 0, 1) := by decide +kernel
theorem dX8_count_110 : decode cX8_count 110 = .ok (.iconst 1, 1) := by decide +kernel
theorem dX8_count_111 : decode cX8_count 111 = .ok (.invokevirtual 97, 3) := by decide +kernel
theorem dX8_count_114 : decode cX8_count 114 = .ok (.invokevirtual 100, 3) := by decide +kernel
theorem dX8_count_117 : decode cX8_count 117 = .ok (.ireturn, 1) := by decide +kernel
theorem dX8_count_118 : decode cX8_count 118 = .ok (.iconst (-1), 1) := by decide +kernel
theorem dX8_count_119 : decode cX8_count 119 = .ok (.ireturn, 1) := by decide +kernel
theorem dX8_within_0 : decode cX8_within 0 = .ok (.iload_n 0, 1) := by decide +kernel
theorem dX8_within_1 : decode cX8_within 1 = .ok (.iload_n 1, 1) := by decide +kernel
theorem dX8_within_2 : decode cX8_within 2 = .ok (.if_icmp .lt 12, 3) := by decide +kernel
theorem dX8_within_5 : decode cX8_within 5 = .ok (.iload_n 0, 1) := by decide +kernel
theorem dX8_within_6 : decode cX8_within 6 = .ok (.iload_n 2, 1) := by decide +kernel
theorem dX8_within_7 : decode cX8_within 7 = .ok (.if_icmp .gt 7, 3) := by decide +kernel
theorem dX8_within_10 : decode cX8_within 10 = .ok (.iconst 1, 1) := by decide +kernel
theorem dX8_within_11 : decode cX8_within 11 = .ok (.goto 4, 3) := by decide +kernel
theorem dX8_within_14 : decode cX8_within 14 = .ok (.iconst 0, 1) := by decide +kernel
theorem dX8_within_15 : decode cX8_within 15 = .ok (.ireturn, 1) := by decide +kernel
set_option maxRecDepth 20000 in
theorem ggX8_isPeriod_X8_within : GoodIn wsX8_isPeriod wsX8_within := goodIn_r _ [4] (by decide +kernel) (by decide +kernel)
set_option maxRecDepth 20000 in
theorem gX8_isPeriod_X8_within : GoodIn wsX8_isPeriod (va_wsS RX8 76 yX8_within wsX8_within) := goodIn_app (goodIn_of _ (by decide +kernel)) ggX8_isPeriod_X8_within
theorem dX8_isPeriod_0 : decode cX8_isPeriod 0 = .ok (.iload_n 0, 1) := by decide +kernel
theorem dX8_isPeriod_1 : decode cX8_isPeriod 1 = .ok (.iconst 0, 1) := by decide +kernel
theorem dX8_isPeriod_2 : decode cX8_isPeriod 2 = .ok (.bipush 11, 2) := by decide +kernel
theorem dX8_isPeriod_4 : decode cX8_isPeriod 4 = .ok (.invokestatic 76, 3) := by decide +kernel
theorem dX8_isPeriod_7 : decode cX8_isPeriod 7 = .ok (.ireturn, 1) := by decide +kernel
set_option maxRecDepth 20000 in
theorem ggX8_isSupply_X8_within : GoodIn wsX8_isSupply wsX8_within := goodIn_r _ [4] (by decide +kernel) (by decide +kernel)
set_option maxRecDepth 20000 in
theorem gX8_isSupply_X8_within : GoodIn wsX8_isSupply (va_wsS RX8 76 yX8_within wsX8_within) := goodIn_app (goodIn_of _ (by decide +kernel)) ggX8_isSupply_X8_within
set_option maxRecDepth 20000 in
theorem ggX8_isSupply_X8_isPeriod : GoodIn wsX8_isSupply wsX8_isPeriod := goodIn_r _ [7, 1, 2, 3, 4] (by decide +kernel) (by decide +kernel)
set_option maxRecDepth 20000 in
theorem gX8_isSupply_X8_isPeriod : GoodIn wsX8_isSupply (va_wsS RX8 175 yX8_isPeriod wsX8_isPeriod) := goodIn_app (goodIn_of _ (by decide +kernel)) ggX8_isSupply_X8_isPeriod
theorem dX8_isSupply_0 : decode cX8_isSupply 0 = .ok (.iload_n 0, 1) := by decide +kernel
theorem dX8_isSupply_1 : decode cX8_isSupply 1 = .ok (.iconst 0, 1) := by decide +kernel
theorem dX8_isSupply_2 : decode cX8_isSupply 2 = .ok (.iconst 2, 1) := by decide +kernel
theorem dX8_isSupply_3 : decode cX8_isSupply 3 = .ok (.invokestatic 76, 3) := by decide +kernel
theorem dX8_isSupply_6 : decode cX8_isSupply 6 = .ok (.ifCond .eq 14, 3) := by decide +kernel
theorem dX8_isSupply_9 : decode cX8_isSupply 9 = .ok (.iload_n 1, 1) := by decide +kernel
theorem dX8_isSupply_10 : decode cX8_isSupply 10 = .ok (.invokestatic 175, 3) := by decide +kernel
theorem dX8_isSupply_13 : decode cX8_isSupply 13 = .ok (.ifCond .eq 7, 3) := by decide +kernel
theorem dX8_isSupply_16 : decode cX8_isSupply 16 = .ok (.iconst 1, 1) := by decide +kernel
theorem dX8_isSupply_17 : decode cX8_isSupply 17 = .ok (.goto 4, 3) := by decide +kernel
theorem dX8_isSupply_20 : decode cX8_isSupply 20 = .ok (.iconst 0, 1) := by decide +kernel
theorem dX8_isSupply_21 : decode cX8_isSupply 21 = .ok (.ireturn, 1) := by decide +kernel
set_option maxRecDepth 20000 in
theorem ggX8_isGroup_X8_within : GoodIn wsX8_isGroup wsX8_within := goodIn_r _ [4] (by decide +kernel) (by decide +kernel)
set_option maxRecDepth 20000 in
theorem gX8_isGroup_X8_within : GoodIn wsX8_isGroup (va_wsS RX8 76 yX8_within wsX8_within) := goodIn_app (goodIn_of _ (by decide +kernel)) ggX8_isGroup_X8_within
theorem dX8_isGroup_0 : decode cX8_isGroup 0 = .ok (.iload_n 0, 1) := by decide +kernel
theorem dX8_isGroup_1 : decode cX8_isGroup 1 = .ok (.iconst 0, 1) := by decide +kernel
theorem dX8_isGroup_2 : decode cX8_isGroup 2 = .ok (.iconst 3, 1) := by decide +kernel
theorem dX8_isGroup_3 : decode cX8_isGroup 3 = .ok (.invokestatic 76, 3) := by decide +kernel
theorem dX8_isGroup_6 : decode cX8_isGroup 6 = .ok (.ireturn, 1) := by decide +kernel
set_option maxRecDepth 20000 in
theorem ggX8_isOrder_X8_within : GoodIn wsX8_isOrder wsX8_within := goodIn_r _ [5] (by decide +kernel) (by decide +kernel)
set_option maxRecDepth 20000 in
theorem gX8_isOrder_X8_within : GoodIn wsX8_isOrder (va_wsS RX8 76 yX8_within wsX8_within) := goodIn_app (goodIn_of _ (by decide +kernel)) ggX8_isOrder_X8_within
theorem dX8_isOrder_0 : decode cX8_isOrder 0 = .ok (.iload_n 1, 1) := by decide +kernel
theorem dX8_isOrder_1 : decode cX8_isOrder 1 = .ok (.iconst 0, 1) := by decide +kernel
theorem dX8_isOrder_2 : decode cX8_isOrder 2 = .ok (.aload_n 0, 1) := by decide +kernel
theorem dX8_isOrder_3 : decode cX8_isOrder 3 = .ok (.getfield 12, 3) := by decide +kernel
theorem dX8_isOrder_6 : decode cX8_isOrder 6 = .ok (.getfield 116, 3) := by decide +kernel
theorem dX8_isOrder_9 : decode cX8_isOrder 9 = .ok (.iconst 1, 1) := by decide +kernel
theorem dX8_isOrder_10 : decode cX8_isOrder 10 = .ok (.isub, 1) := by decide +kernel
theorem dX8_isOrder_11 : decode cX8_isOrder 11 = .ok (.invokestatic 76, 3) := by decide +kernel
theorem dX8_isOrder_14 : decode cX8_isOrder 14 = .ok (.ireturn, 1) := by decide +kernel
theorem dX8_bit_0 : decode cX8_bit 0 = .ok (.iconst 1, 1) := by decide +kernel
theorem dX8_bit_1 : decode cX8_bit 1 = .ok (.iload_n 0, 1) := by decide +kernel
theorem dX8_bit_2 : decode cX8_bit 2 = .ok (.ishl, 1) := by decide +kernel
theorem dX8_bit_3 : decode cX8_bit 3 = .ok (.ireturn, 1) := by decide +kernel
set_option maxRecDepth 20000 in
theorem ggX8_setOf_X8_bit : GoodIn wsX8_setOf wsX8_bit := goodIn_r _ [6] (by decide +kernel) (by decide +kernel)
set_option maxRecDepth 20000 in
theorem gX8_setOf_X8_bit : GoodIn wsX8_setOf (va_wsS RX8 154 yX8_bit wsX8_bit) := goodIn_app (goodIn_of _ (by decide +kernel)) ggX8_setOf_X8_bit
theorem dX8_setOf_0 : decode cX8_setOf 0 = .ok (.iconst 0, 1) := by decide +kernel
theorem dX8_setOf_1 : decode cX8_setOf 1 = .ok (.istore_n 2, 1) := by decide +kernel
theorem dX8_setOf_2 : decode cX8_setOf 2 = .ok (.iconst 0, 1) := by decide +kernel
theorem dX8_setOf_3 : decode cX8_setOf 3 = .ok (.istore_n 3, 1) := by decide +kernel
theorem dX8_setOf_4 : decode cX8_setOf 4 = .ok (.iload_n 3, 1) := by decide +kernel
theorem dX8_setOf_5 : decode cX8_setOf 5 = .ok (.aload_n 0, 1) := by decide +kernel
theorem dX8_setOf_6 : decode cX8_setOf 6 = .ok (.getfield 12, 3) := by decide +kernel
theorem dX8_setOf_9 : decode cX8_setOf 9 = .ok (.getfield 116, 3) := by decide +kernel
theorem dX8_setOf_12 : decode cX8_setOf 12 = .ok (.if_icmp .ge 29, 3) := by decide +kernel
theorem dX8_setOf_15 : decode cX8_setOf 15 = .ok (.aload_n 0, 1) := by decide +kernel
theorem dX8_setOf_16 : decode cX8_setOf 16 = .ok (.getfield 19, 3) := by decide +kernel
theorem dX8_setOf_19 : decode cX8_setOf 19 = .ok (.getfield 124, 3) := by decide +kernel
theorem dX8_setOf_22 : decode cX8_setOf 22 = .ok (.iload_n 3, 1) := by decide +kernel
theorem dX8_setOf_23 : decode cX8_setOf 23 = .ok (.iaload, 1) := by decide +kernel
theorem dX8_setOf_24 : decode cX8_setOf 24 = .ok (.iload_n 1, 1) := by decide +kernel
theorem dX8_setOf_25 : decode cX8_setOf 25 = .ok (.if_icmp .ne 10, 3) := by decide +kernel
theorem dX8_setOf_28 : decode cX8_setOf 28 = .ok (.iload_n 2, 1) := by decide +kernel
theorem dX8_setOf_29 : decode cX8_setOf 29 = .ok (.iload_n 3, 1) := by decide +kernel
theorem dX8_setOf_30 : decode cX8_setOf 30 = .ok (.invokestatic 154, 3) := by decide +kernel
theorem dX8_setOf_33 : decode cX8_setOf 33 = .ok (.ior, 1) := by decide +kernel
theorem dX8_setOf_34 : decode cX8_setOf 34 = .ok (.istore_n 2, 1) := by decide +kernel
theorem dX8_setOf_35 : decode cX8_setOf 35 = .ok (.iinc 3 1, 3) := by decide +kernel
theorem dX8_setOf_38 : decode cX8_setOf 38 = .ok (.goto (-34), 3) := by decide +kernel
theorem dX8_setOf_41 : decode cX8_setOf 41 = .ok (.iload_n 2, 1) := by decide +kernel
theorem dX8_setOf_42 : decode cX8_setOf 42 = .ok (.ireturn, 1) := by decide +kernel
set_option maxRecDepth 20000 in
theorem ggX8_howMany_X8_setOf : GoodIn wsX8_howMany wsX8_setOf := goodIn_r _ [5, 6, 7, 8, 9, 4, 10, 18, 19, 20, 21, 22, 23, 24, 25, 26, 27, 28, 29, 30, 31, 32, 33, 34, 35, 36, 37, 38, 39, 40, 41] (by decide +kernel) (by decide +kernel)
set_option maxRecDepth 20000 in
theorem gX8_howMany_X8_setOf : GoodIn wsX8_howMany (wsV RX8 97 RX8 yX8_setOf wsX8_setOf) := goodIn_app (goodIn_of _ (by decide +kernel)) ggX8_howMany_X8_setOf
set_option maxRecDepth 20000 in
theorem ggX8_howMany_J6_bitCount_0f7a4 : GoodIn wsX8_howMany wsJ6_bitCount_0f7a4 := goodIn_r _ [14, 15, 16, 17] (by decide +kernel) (by decide +kernel)
set_option maxRecDepth 20000 in
theorem gX8_howMany_J6_bitCount_0f7a4 : GoodIn wsX8_howMany (va_wsS RX8 163 yJ6_bitCount_0f7a4 wsJ6_bitCount_0f7a4) := goodIn_app (goodIn_of _ (by decide +kernel)) ggX8_howMany_J6_bitCount_0f7a4
theorem dX8_howMany_0 : decode cX8_howMany 0 = .ok (.aload_n 0, 1) := by decide +kernel
theorem dX8_howMany_1 : decode cX8_howMany 1 = .ok (.iload_n 1, 1) := by decide +kernel
theorem dX8_howMany_2 : decode cX8_howMany 2 = .ok (.invokevirtual 97, 3) := by decide +kernel
theorem dX8_howMany_5 : decode cX8_howMany 5 = .ok (.invokestatic 163, 3) := by decide +kernel
theorem dX8_howMany_8 : decode cX8_howMany 8 = .ok (.ireturn, 1) := by decide +kernel
set_option maxRecDepth 20000 in
theorem ggX8_amountOf_X8_bit : GoodIn wsX8_amountOf wsX8_bit := goodIn_r _ [5] (by decide +kernel) (by decide +kernel)
set_option maxRecDepth 20000 in
theorem gX8_amountOf_X8_bit : GoodIn wsX8_amountOf (va_wsS RX8 154 yX8_bit wsX8_bit) := goodIn_app (goodIn_of _ (by decide +kernel)) ggX8_amountOf_X8_bit
theorem dX8_amountOf_0 : decode cX8_amountOf 0 = .ok (.iconst 0, 1) := by decide +kernel
theorem dX8_amountOf_1 : decode cX8_amountOf 1 = .ok (.istore_n 3, 1) := by decide +kernel
theorem dX8_amountOf_2 : decode cX8_amountOf 2 = .ok (.iconst 0, 1) := by decide +kernel
theorem dX8_amountOf_3 : decode cX8_amountOf 3 = .ok (.istore 4, 2) := by decide +kernel
theorem dX8_amountOf_5 : decode cX8_amountOf 5 = .ok (.iload 4, 2) := by decide +kernel
theorem dX8_amountOf_7 : decode cX8_amountOf 7 = .ok (.aload_n 0, 1) := by decide +kernel
theorem dX8_amountOf_8 : decode cX8_amountOf 8 = .ok (.getfield 12, 3) := by decide +kernel
theorem dX8_amountOf_11 : decode cX8_amountOf 11 = .ok (.getfield 116, 3) := by decide +kernel
theorem dX8_amountOf_14 : decode cX8_amountOf 14 = .ok (.if_icmp .ge 51, 3) := by decide +kernel
theorem dX8_amountOf_17 : decode cX8_amountOf 17 = .ok (.iload_n 2, 1) := by decide +kernel
theorem dX8_amountOf_18 : decode cX8_amountOf 18 = .ok (.iload 4, 2) := by decide +kernel
theorem dX8_amountOf_20 : decode cX8_amountOf 20 = .ok (.invokestatic 154, 3) := by decide +kernel
theorem dX8_amountOf_23 : decode cX8_amountOf 23 = .ok (.iand, 1) := by decide +kernel
theorem dX8_amountOf_24 : decode cX8_amountOf 24 = .ok (.ifCond .eq 35, 3) := by decide +kernel
theorem dX8_amountOf_27 : decode cX8_amountOf 27 = .ok (.iload_n 1, 1) := by decide +kernel
theorem dX8_amountOf_28 : decode cX8_amountOf 28 = .ok (.iconst (-1), 1) := by decide +kernel
theorem dX8_amountOf_29 : decode cX8_amountOf 29 = .ok (.if_icmp .eq 17, 3) := by decide +kernel
theorem dX8_amountOf_32 : decode cX8_amountOf 32 = .ok (.aload_n 0, 1) := by decide +kernel
theorem dX8_amountOf_33 : decode cX8_amountOf 33 = .ok (.getfield 12, 3) := by decide +kernel
theorem dX8_amountOf_36 : decode cX8_amountOf 36 = .ok (.getfield 142, 3) := by decide +kernel
theorem dX8_amountOf_39 : decode cX8_amountOf 39 = .ok (.iload 4, 2) := by decide +kernel
theorem dX8_amountOf_41 : decode cX8_amountOf 41 = .ok (.iaload, 1) := by decide +kernel
theorem dX8_amountOf_42 : decode cX8_amountOf 42 = .ok (.iload_n 1, 1) := by decide +kernel
theorem dX8_amountOf_43 : decode cX8_amountOf 43 = .ok (.if_icmp .ne 16, 3) := by decide +kernel
theorem dX8_amountOf_46 : decode cX8_amountOf 46 = .ok (.iload_n 3, 1) := by decide +kernel
theorem dX8_amountOf_47 : decode cX8_amountOf 47 = .ok (.aload_n 0, 1) := by decide +kernel
theorem dX8_amountOf_48 : decode cX8_amountOf 48 = .ok (.getfield 12, 3) := by decide +kernel
theorem dX8_amountOf_51 : decode cX8_amountOf 51 = .ok (.getfield 136, 3) := by decide +kernel
theorem dX8_amountOf_54 : decode cX8_amountOf 54 = .ok (.iload 4, 2) := by decide +kernel
theorem dX8_amountOf_56 : decode cX8_amountOf 56 = .ok (.iaload, 1) := by decide +kernel
theorem dX8_amountOf_57 : decode cX8_amountOf 57 = .ok (.iadd, 1) := by decide +kernel
theorem dX8_amountOf_58 : decode cX8_amountOf 58 = .ok (.istore_n 3, 1) := by decide +kernel
theorem dX8_amountOf_59 : decode cX8_amountOf 59 = .ok (.iinc 4 1, 3) := by decide +kernel
theorem dX8_amountOf_62 : decode cX8_amountOf 62 = .ok (.goto (-57), 3) := by decide +kernel
theorem dX8_amountOf_65 : decode cX8_amountOf 65 = .ok (.iload_n 3, 1) := by decide +kernel
theorem dX8_amountOf_66 : decode cX8_amountOf 66 = .ok (.ireturn, 1) := by decide +kernel
theorem dX8_allSupplies_0 : decode cX8_allSupplies 0 = .ok (.iconst 0, 1) := by decide +kernel
theorem dX8_allSupplies_1 : decode cX8_allSupplies 1 = .ok (.istore_n 1, 1) := by decide +kernel
theorem dX8_allSupplies_2 : decode cX8_allSupplies 2 = .ok (.aload_n 0, 1) := by decide +kernel
theorem dX8_allSupplies_3 : decode cX8_allSupplies 3 = .ok (.getfield 19, 3) := by decide +kernel
theorem dX8_allSupplies_6 : decode cX8_allSupplies 6 = .ok (.getfield 80, 3) := by decide +kernel
theorem dX8_allSupplies_9 : decode cX8_allSupplies 9 = .ok (.astore_n 2, 1) := by decide +kernel
theorem dX8_allSupplies_10 : decode cX8_allSupplies 10 = .ok (.aload_n 2, 1) := by decide +kernel
theorem dX8_allSupplies_11 : decode cX8_allSupplies 11 = .ok (.arraylength, 1) := by decide +kernel
theorem dX8_allSupplies_12 : decode cX8_allSupplies 12 = .ok (.istore_n 3, 1) := by decide +kernel
theorem dX8_allSupplies_13 : decode cX8_allSupplies 13 = .ok (.iconst 0, 1) := by decide +kernel
theorem dX8_allSupplies_14 : decode cX8_allSupplies 14 = .ok (.istore 4, 2) := by decide +kernel
theorem dX8_allSupplies_16 : decode cX8_allSupplies 16 = .ok (.iload 4, 2) := by decide +kernel
theorem dX8_allSupplies_18 : decode cX8_allSupplies 18 = .ok (.iload_n 3, 1) := by decide +kernel
theorem dX8_allSupplies_19 : decode cX8_allSupplies 19 = .ok (.if_icmp .ge 20, 3) := by decide +kernel
theorem dX8_allSupplies_22 : decode cX8_allSupplies 22 = .ok (.aload_n 2, 1) := by decide +kernel
theorem dX8_allSupplies_23 : decode cX8_allSupplies 23 = .ok (.iload 4, 2) := by decide +kernel
theorem dX8_allSupplies_25 : decode cX8_allSupplies 25 = .ok (.iaload, 1) := by decide +kernel
theorem dX8_allSupplies_26 : decode cX8_allSupplies 26 = .ok (.istore 5, 2) := by decide +kernel
theorem dX8_allSupplies_28 : decode cX8_allSupplies 28 = .ok (.iload_n 1, 1) := by decide +kernel
theorem dX8_allSupplies_29 : decode cX8_allSupplies 29 = .ok (.iload 5, 2) := by decide +kernel
theorem dX8_allSupplies_31 : decode cX8_allSupplies 31 = .ok (.iadd, 1) := by decide +kernel
theorem dX8_allSupplies_32 : decode cX8_allSupplies 32 = .ok (.istore_n 1, 1) := by decide +kernel
theorem dX8_allSupplies_33 : decode cX8_allSupplies 33 = .ok (.iinc 4 1, 3) := by decide +kernel
theorem dX8_allSupplies_36 : decode cX8_allSupplies 36 = .ok (.goto (-20), 3) := by decide +kernel
theorem dX8_allSupplies_39 : decode cX8_allSupplies 39 = .ok (.iload_n 1, 1) := by decide +kernel
theorem dX8_allSupplies_40 : decode cX8_allSupplies 40 = .ok (.ireturn, 1) := by decide +kernel
set_option maxRecDepth 20000 in
theorem ggX8_cutOf_X8_allSupplies : GoodIn wsX8_cutOf wsX8_allSupplies := goodIn_r _ [6, 1, 7, 8, 9, 10, 11, 12, 13, 14, 15, 16, 17, 18, 19, 20, 21, 22, 23, 24] (by decide +kernel) (by decide +kernel)
set_option maxRecDepth 20000 in
theorem gX8_cutOf_X8_allSupplies : GoodIn wsX8_cutOf (wsV RX8 310 RX8 yX8_allSupplies wsX8_allSupplies) := goodIn_app (goodIn_of _ (by decide +kernel)) ggX8_cutOf_X8_allSupplies
theorem dX8_cutOf_0 : decode cX8_cutOf 0 = .ok (.aload_n 0, 1) := by decide +kernel
theorem dX8_cutOf_1 : decode cX8_cutOf 1 = .ok (.invokevirtual 310, 3) := by decide +kernel
theorem dX8_cutOf_4 : decode cX8_cutOf 4 = .ok (.aload_n 0, 1) := by decide +kernel
theorem dX8_cutOf_5 : decode cX8_cutOf 5 = .ok (.getfield 19, 3) := by decide +kernel
theorem dX8_cutOf_8 : decode cX8_cutOf 8 = .ok (.getfield 90, 3) := by decide +kernel
theorem dX8_cutOf_11 : decode cX8_cutOf 11 = .ok (.iload_n 1, 1) := by decide +kernel
theorem dX8_cutOf_12 : decode cX8_cutOf 12 = .ok (.iaload, 1) := by decide +kernel
theorem dX8_cutOf_13 : decode cX8_cutOf 13 = .ok (.imul, 1) := by decide +kernel
theorem dX8_cutOf_14 : decode cX8_cutOf 14 = .ok (.bipush 100, 2) := by decide +kernel
theorem dX8_cutOf_16 : decode cX8_cutOf 16 = .ok (.idiv, 1) := by decide +kernel
theorem dX8_cutOf_17 : decode cX8_cutOf 17 = .ok (.ireturn, 1) := by decide +kernel
set_option maxRecDepth 20000 in
theorem ggX8_roomOf_X8_cutOf : GoodIn wsX8_roomOf wsX8_cutOf := goodIn_r _ [5, 6, 7, 8, 9, 4, 10, 19, 20, 21, 22, 23, 24, 25, 26, 27, 28, 29, 30, 31, 32, 33, 34, 35, 36] (by decide +kernel) (by decide +kernel)
set_option maxRecDepth 20000 in
theorem gX8_roomOf_X8_cutOf : GoodIn wsX8_roomOf (wsV RX8 93 RX8 yX8_cutOf wsX8_cutOf) := goodIn_app (goodIn_of _ (by decide +kernel)) ggX8_roomOf_X8_cutOf
set_option maxRecDepth 20000 in
theorem ggX8_roomOf_X8_amountOf : GoodIn wsX8_roomOf wsX8_amountOf := goodIn_r _ [14, 15, 16, 17, 4, 18, 19, 20, 21, 22, 23, 24, 25, 26, 27, 28, 29, 30, 31, 37, 38, 39, 40, 41, 42] (by decide +kernel) (by decide +kernel)
set_option maxRecDepth 20000 in
theorem gX8_roomOf_X8_amountOf : GoodIn wsX8_roomOf (wsV RX8 100 RX8 yX8_amountOf wsX8_amountOf) := goodIn_app (goodIn_of _ (by decide +kernel)) ggX8_roomOf_X8_amountOf
theorem dX8_roomOf_0 : decode cX8_roomOf 0 = .ok (.aload_n 0, 1) := by decide +kernel
theorem dX8_roomOf_1 : decode cX8_roomOf 1 = .ok (.iload_n 1, 1) := by decide +kernel
theorem dX8_roomOf_2 : decode cX8_roomOf 2 = .ok (.invokevirtual 93, 3) := by decide +kernel
theorem dX8_roomOf_5 : decode cX8_roomOf 5 = .ok (.aload_n 0, 1) := by decide +kernel
theorem dX8_roomOf_6 : decode cX8_roomOf 6 = .ok (.iload_n 1, 1) := by decide +kernel
theorem dX8_roomOf_7 : decode cX8_roomOf 7 = .ok (.iload_n 2, 1) := by decide +kernel
theorem dX8_roomOf_8 : decode cX8_roomOf 8 = .ok (.invokevirtual 100, 3) := by decide +kernel
theorem dX8_roomOf_11 : decode cX8_roomOf 11 = .ok (.isub, 1) := by decide +kernel
theorem dX8_roomOf_12 : decode cX8_roomOf 12 = .ok (.ireturn, 1) := by decide +kernel
set_option maxRecDepth 20000 in
theorem ggX8_areMet_X6_lay : GoodIn wsX8_areMet wsX6_lay := goodIn_r _ [8, 9, 10, 11, 12, 13, 7, 14, 15, 16, 17, 18, 19, 20, 21, 22, 23, 24, 25, 26, 27, 28, 29, 30, 52, 53, 54, 55, 56, 57, 58, 59, 60, 61, 62, 63, 64] (by decide +kernel) (by decide +kernel)
set_option maxRecDepth 20000 in
theorem gX8_areMet_X6_lay : GoodIn wsX8_areMet (wsV RX8 186 RX6 yX6_lay wsX6_lay) := goodIn_app (goodIn_of _ (by decide +kernel)) ggX8_areMet_X6_lay
set_option maxRecDepth 20000 in
theorem ggX8_areMet_X6_tightest : GoodIn wsX8_areMet wsX6_tightest := goodIn_r _ [34, 9, 52, 53] (by decide +kernel) (by decide +kernel)
set_option maxRecDepth 20000 in
theorem gX8_areMet_X6_tightest : GoodIn wsX8_areMet (wsV RX8 190 RX6 yX6_tightest wsX6_tightest) := goodIn_app (goodIn_of _ (by decide +kernel)) ggX8_areMet_X6_tightest
set_option maxRecDepth 20000 in
theorem ggX8_areMet_X6_leftIn : GoodIn wsX8_areMet wsX6_leftIn := goodIn_r _ [38, 9, 52, 53] (by decide +kernel) (by decide +kernel)
set_option maxRecDepth 20000 in
theorem gX8_areMet_X6_leftIn : GoodIn wsX8_areMet (wsV RX8 194 RX6 yX6_leftIn wsX6_leftIn) := goodIn_app (goodIn_of _ (by decide +kernel)) ggX8_areMet_X6_leftIn
theorem dX8_areMet_0 : decode cX8_areMet 0 = .ok (.aload_n 0, 1) := by decide +kernel
theorem dX8_areMet_1 : decode cX8_areMet 1 = .ok (.getfield 43, 3) := by decide +kernel
theorem dX8_areMet_4 : decode cX8_areMet 4 = .ok (.aload_n 0, 1) := by decide +kernel
theorem dX8_areMet_5 : decode cX8_areMet 5 = .ok (.getfield 12, 3) := by decide +kernel
theorem dX8_areMet_8 : decode cX8_areMet 8 = .ok (.aload_n 0, 1) := by decide +kernel
theorem dX8_areMet_9 : decode cX8_areMet 9 = .ok (.getfield 19, 3) := by decide +kernel
theorem dX8_areMet_12 : decode cX8_areMet 12 = .ok (.iload_n 1, 1) := by decide +kernel
theorem dX8_areMet_13 : decode cX8_areMet 13 = .ok (.invokevirtual 186, 3) := by decide +kernel
theorem dX8_areMet_16 : decode cX8_areMet 16 = .ok (.aload_n 0, 1) := by decide +kernel
theorem dX8_areMet_17 : decode cX8_areMet 17 = .ok (.getfield 43, 3) := by decide +kernel
theorem dX8_areMet_20 : decode cX8_areMet 20 = .ok (.aload_n 0, 1) := by decide +kernel
theorem dX8_areMet_21 : decode cX8_areMet 21 = .ok (.getfield 43, 3) := by decide +kernel
theorem dX8_areMet_24 : decode cX8_areMet 24 = .ok (.invokevirtual 190, 3) := by decide +kernel
theorem dX8_areMet_27 : decode cX8_areMet 27 = .ok (.invokevirtual 194, 3) := by decide +kernel
theorem dX8_areMet_30 : decode cX8_areMet 30 = .ok (.ifCond .lt 7, 3) := by decide +kernel
theorem dX8_areMet_33 : decode cX8_areMet 33 = .ok (.iconst 1, 1) := by decide +kernel
theorem dX8_areMet_34 : decode cX8_areMet 34 = .ok (.goto 4, 3) := by decide +kernel
theorem dX8_areMet_37 : decode cX8_areMet 37 = .ok (.iconst 0, 1) := by decide +kernel
theorem dX8_areMet_38 : decode cX8_areMet 38 = .ok (.ireturn, 1) := by decide +kernel
set_option maxRecDepth 20000 in
theorem ggX8_fitsBeside_X6_least : GoodIn wsX8_fitsBeside wsX6_least := goodIn_r _ [8, 9, 10, 11, 12, 13, 14, 15, 16, 60, 61] (by decide +kernel) (by decide +kernel)
set_option maxRecDepth 20000 in
theorem gX8_fitsBeside_X6_least : GoodIn wsX8_fitsBeside (wsV RX8 207 RX6 yX6_least wsX6_least) := goodIn_app (goodIn_of _ (by decide +kernel)) ggX8_fitsBeside_X6_least
set_option maxRecDepth 20000 in
theorem ggX8_fitsBeside_X8_roomOf : GoodIn wsX8_fitsBeside wsX8_roomOf := goodIn_r _ [20, 21, 22, 23, 15, 24, 3, 25, 26, 27, 28, 29, 30, 31, 32, 2, 33, 34, 35, 36, 37, 38, 39, 40, 41, 42, 43, 44, 45, 46, 47, 48, 55, 56, 57, 58, 59, 49, 50, 51, 52, 53, 54] (by decide +kernel) (by decide +kernel)
set_option maxRecDepth 20000 in
theorem gX8_fitsBeside_X8_roomOf : GoodIn wsX8_fitsBeside (wsV RX8 151 RX8 yX8_roomOf wsX8_roomOf) := goodIn_app (goodIn_of _ (by decide +kernel)) ggX8_fitsBeside_X8_roomOf
theorem dX8_fitsBeside_0 : decode cX8_fitsBeside 0 = .ok (.aload_n 0, 1) := by decide +kernel
theorem dX8_fitsBeside_1 : decode cX8_fitsBeside 1 = .ok (.getfield 43, 3) := by decide +kernel
theorem dX8_fitsBeside_4 : decode cX8_fitsBeside 4 = .ok (.aload_n 0, 1) := by decide +kernel
theorem dX8_fitsBeside_5 : decode cX8_fitsBeside 5 = .ok (.getfield 12, 3) := by decide +kernel
theorem dX8_fitsBeside_8 : decode cX8_fitsBeside 8 = .ok (.getfield 139, 3) := by decide +kernel
theorem dX8_fitsBeside_11 : decode cX8_fitsBeside 11 = .ok (.iload_n 1, 1) := by decide +kernel
theorem dX8_fitsBeside_12 : decode cX8_fitsBeside 12 = .ok (.iaload, 1) := by decide +kernel
theorem dX8_fitsBeside_13 : decode cX8_fitsBeside 13 = .ok (.aload_n 0, 1) := by decide +kernel
theorem dX8_fitsBeside_14 : decode cX8_fitsBeside 14 = .ok (.getfield 19, 3) := by decide +kernel
theorem dX8_fitsBeside_17 : decode cX8_fitsBeside 17 = .ok (.getfield 127, 3) := by decide +kernel
theorem dX8_fitsBeside_20 : decode cX8_fitsBeside 20 = .ok (.iload_n 1, 1) := by decide +kernel
theorem dX8_fitsBeside_21 : decode cX8_fitsBeside 21 = .ok (.iaload, 1) := by decide +kernel
theorem dX8_fitsBeside_22 : decode cX8_fitsBeside 22 = .ok (.invokevirtual 207, 3) := by decide +kernel
theorem dX8_fitsBeside_25 : decode cX8_fitsBeside 25 = .ok (.aload_n 0, 1) := by decide +kernel
theorem dX8_fitsBeside_26 : decode cX8_fitsBeside 26 = .ok (.getfield 12, 3) := by decide +kernel
theorem dX8_fitsBeside_29 : decode cX8_fitsBeside 29 = .ok (.getfield 136, 3) := by decide +kernel
theorem dX8_fitsBeside_32 : decode cX8_fitsBeside 32 = .ok (.iload_n 1, 1) := by decide +kernel
theorem dX8_fitsBeside_33 : decode cX8_fitsBeside 33 = .ok (.iaload, 1) := by decide +kernel
theorem dX8_fitsBeside_34 : decode cX8_fitsBeside 34 = .ok (.if_icmp .lt 33, 3) := by decide +kernel
theorem dX8_fitsBeside_37 : decode cX8_fitsBeside 37 = .ok (.aload_n 0, 1) := by decide +kernel
theorem dX8_fitsBeside_38 : decode cX8_fitsBeside 38 = .ok (.getfield 12, 3) := by decide +kernel
theorem dX8_fitsBeside_41 : decode cX8_fitsBeside 41 = .ok (.getfield 136, 3) := by decide +kernel
theorem dX8_fitsBeside_44 : decode cX8_fitsBeside 44 = .ok (.iload_n 1, 1) := by decide +kernel
theorem dX8_fitsBeside_45 : decode cX8_fitsBeside 45 = .ok (.iaload, 1) := by decide +kernel
theorem dX8_fitsBeside_46 : decode cX8_fitsBeside 46 = .ok (.aload_n 0, 1) := by decide +kernel
theorem dX8_fitsBeside_47 : decode cX8_fitsBeside 47 = .ok (.aload_n 0, 1) := by decide +kernel
theorem dX8_fitsBeside_48 : decode cX8_fitsBeside 48 = .ok (.getfield 12, 3) := by decide +kernel
theorem dX8_fitsBeside_51 : decode cX8_fitsBeside 51 = .ok (.getfield 142, 3) := by decide +kernel
theorem dX8_fitsBeside_54 : decode cX8_fitsBeside 54 = .ok (.iload_n 1, 1) := by decide +kernel
theorem dX8_fitsBeside_55 : decode cX8_fitsBeside 55 = .ok (.iaload, 1) := by decide +kernel
theorem dX8_fitsBeside_56 : decode cX8_fitsBeside 56 = .ok (.iload_n 2, 1) := by decide +kernel
theorem dX8_fitsBeside_57 : decode cX8_fitsBeside 57 = .ok (.invokevirtual 151, 3) := by decide +kernel
theorem dX8_fitsBeside_60 : decode cX8_fitsBeside 60 = .ok (.if_icmp .gt 7, 3) := by decide +kernel
theorem dX8_fitsBeside_63 : decode cX8_fitsBeside 63 = .ok (.iconst 1, 1) := by decide +kernel
theorem dX8_fitsBeside_64 : decode cX8_fitsBeside 64 = .ok (.goto 4, 3) := by decide +kernel
theorem dX8_fitsBeside_67 : decode cX8_fitsBeside 67 = .ok (.iconst 0, 1) := by decide +kernel
theorem dX8_fitsBeside_68 : decode cX8_fitsBeside 68 = .ok (.ireturn, 1) := by decide +kernel
set_option maxRecDepth 20000 in
theorem ggX8_earliest_X6_least : GoodIn wsX8_earliest wsX6_least := goodIn_r _ [7, 8, 9, 10, 11, 12, 13, 14, 15, 35, 36] (by decide +kernel) (by decide +kernel)
set_option maxRecDepth 20000 in
theorem gX8_earliest_X6_least : GoodIn wsX8_earliest (wsV RX8 207 RX6 yX6_least wsX6_least) := goodIn_app (goodIn_of _ (by decide +kernel)) ggX8_earliest_X6_least
theorem dX8_earliest_0 : decode cX8_earliest 0 = .ok (.aload_n 0, 1) := by decide +kernel
theorem dX8_earliest_1 : decode cX8_earliest 1 = .ok (.getfield 12, 3) := by decide +kernel
theorem dX8_earliest_4 : decode cX8_earliest 4 = .ok (.getfield 136, 3) := by decide +kernel
theorem dX8_earliest_7 : decode cX8_earliest 7 = .ok (.iload_n 1, 1) := by decide +kernel
theorem dX8_earliest_8 : decode cX8_earliest 8 = .ok (.iaload, 1) := by decide +kernel
theorem dX8_earliest_9 : decode cX8_earliest 9 = .ok (.iload_n 2, 1) := by decide +kernel
theorem dX8_earliest_10 : decode cX8_earliest 10 = .ok (.if_icmp .le 6, 3) := by decide +kernel
theorem dX8_earliest_13 : decode cX8_earliest 13 = .ok (.bipush (-2), 2) := by decide +kernel
theorem dX8_earliest_15 : decode cX8_earliest 15 = .ok (.ireturn, 1) := by decide +kernel
theorem dX8_earliest_16 : decode cX8_earliest 16 = .ok (.iconst 0, 1) := by decide +kernel
theorem dX8_earliest_17 : decode cX8_earliest 17 = .ok (.istore_n 3, 1) := by decide +kernel
theorem dX8_earliest_18 : decode cX8_earliest 18 = .ok (.iload_n 3, 1) := by decide +kernel
theorem dX8_earliest_19 : decode cX8_earliest 19 = .ok (.bipush 12, 2) := by decide +kernel
theorem dX8_earliest_21 : decode cX8_earliest 21 = .ok (.if_icmp .ge 40, 3) := by decide +kernel
theorem dX8_earliest_24 : decode cX8_earliest 24 = .ok (.aload_n 0, 1) := by decide +kernel
theorem dX8_earliest_25 : decode cX8_earliest 25 = .ok (.getfield 43, 3) := by decide +kernel
theorem dX8_earliest_28 : decode cX8_earliest 28 = .ok (.aload_n 0, 1) := by decide +kernel
theorem dX8_earliest_29 : decode cX8_earliest 29 = .ok (.getfield 12, 3) := by decide +kernel
theorem dX8_earliest_32 : decode cX8_earliest 32 = .ok (.getfield 139, 3) := by decide +kernel
theorem dX8_earliest_35 : decode cX8_earliest 35 = .ok (.iload_n 1, 1) := by decide +kernel
theorem dX8_earliest_36 : decode cX8_earliest 36 = .ok (.iaload, 1) := by decide +kernel
theorem dX8_earliest_37 : decode cX8_earliest 37 = .ok (.iload_n 3, 1) := by decide +kernel
theorem dX8_earliest_38 : decode cX8_earliest 38 = .ok (.invokevirtual 207, 3) := by decide +kernel
theorem dX8_earliest_41 : decode cX8_earliest 41 = .ok (.aload_n 0, 1) := by decide +kernel
theorem dX8_earliest_42 : decode cX8_earliest 42 = .ok (.getfield 12, 3) := by decide +kernel
theorem dX8_earliest_45 : decode cX8_earliest 45 = .ok (.getfield 136, 3) := by decide +kernel
theorem dX8_earliest_48 : decode cX8_earliest 48 = .ok (.iload_n 1, 1) := by decide +kernel
theorem dX8_earliest_49 : decode cX8_earliest 49 = .ok (.iaload, 1) := by decide +kernel
theorem dX8_earliest_50 : decode cX8_earliest 50 = .ok (.if_icmp .lt 5, 3) := by decide +kernel
theorem dX8_earliest_53 : decode cX8_earliest 53 = .ok (.iload_n 3, 1) := by decide +kernel
theorem dX8_earliest_54 : decode cX8_earliest 54 = .ok (.ireturn, 1) := by decide +kernel
theorem dX8_earliest_55 : decode cX8_earliest 55 = .ok (.iinc 3 1, 3) := by decide +kernel
theorem dX8_earliest_58 : decode cX8_earliest 58 = .ok (.goto (-40), 3) := by decide +kernel
theorem dX8_earliest_61 : decode cX8_earliest 61 = .ok (.bipush (-2), 2) := by decide +kernel
theorem dX8_earliest_63 : decode cX8_earliest 63 = .ok (.ireturn, 1) := by decide +kernel
set_option maxRecDepth 20000 in
theorem ggX8_asMuch_X6_least : GoodIn wsX8_asMuch wsX6_least := goodIn_r _ [12, 13, 14, 2, 3, 4, 15, 16, 17, 42, 43] (by decide +kernel) (by decide +kernel)
set_option maxRecDepth 20000 in
theorem gX8_asMuch_X6_least : GoodIn wsX8_asMuch (wsV RX8 207 RX6 yX6_least wsX6_least) := goodIn_app (goodIn_of _ (by decide +kernel)) ggX8_asMuch_X6_least
theorem dX8_asMuch_0 : decode cX8_asMuch 0 = .ok (.bipush 60, 2) := by decide +kernel
theorem dX8_asMuch_2 : decode cX8_asMuch 2 = .ok (.iload_n 2, 1) := by decide +kernel
theorem dX8_asMuch_3 : decode cX8_asMuch 3 = .ok (.invokestatic 236, 3) := by decide +kernel
theorem dX8_asMuch_6 : decode cX8_asMuch 6 = .ok (.aload_n 0, 1) := by decide +kernel
theorem dX8_asMuch_7 : decode cX8_asMuch 7 = .ok (.getfield 43, 3) := by decide +kernel
theorem dX8_asMuch_10 : decode cX8_asMuch 10 = .ok (.aload_n 0, 1) := by decide +kernel
theorem dX8_asMuch_11 : decode cX8_asMuch 11 = .ok (.getfield 12, 3) := by decide +kernel
theorem dX8_asMuch_14 : decode cX8_asMuch 14 = .ok (.getfield 139, 3) := by decide +kernel
theorem dX8_asMuch_17 : decode cX8_asMuch 17 = .ok (.iload_n 1, 1) := by decide +kernel
theorem dX8_asMuch_18 : decode cX8_asMuch 18 = .ok (.iaload, 1) := by decide +kernel
theorem dX8_asMuch_19 : decode cX8_asMuch 19 = .ok (.aload_n 0, 1) := by decide +kernel
theorem dX8_asMuch_20 : decode cX8_asMuch 20 = .ok (.getfield 19, 3) := by decide +kernel
theorem dX8_asMuch_23 : decode cX8_asMuch 23 = .ok (.getfield 127, 3) := by decide +kernel
theorem dX8_asMuch_26 : decode cX8_asMuch 26 = .ok (.iload_n 1, 1) := by decide +kernel
theorem dX8_asMuch_27 : decode cX8_asMuch 27 = .ok (.iaload, 1) := by decide +kernel
theorem dX8_asMuch_28 : decode cX8_asMuch 28 = .ok (.invokevirtual 207, 3) := by decide +kernel
theorem dX8_asMuch_31 : decode cX8_asMuch 31 = .ok (.invokestatic 236, 3) := by decide +kernel
theorem dX8_asMuch_34 : decode cX8_asMuch 34 = .ok (.istore_n 3, 1) := by decide +kernel
theorem dX8_asMuch_35 : decode cX8_asMuch 35 = .ok (.iload_n 3, 1) := by decide +kernel
theorem dX8_asMuch_36 : decode cX8_asMuch 36 = .ok (.ifCond .le 7, 3) := by decide +kernel
theorem dX8_asMuch_39 : decode cX8_asMuch 39 = .ok (.iload_n 3, 1) := by decide +kernel
theorem dX8_asMuch_40 : decode cX8_asMuch 40 = .ok (.goto 5, 3) := by decide +kernel
theorem dX8_asMuch_43 : decode cX8_asMuch 43 = .ok (.bipush (-2), 2) := by decide +kernel
theorem dX8_asMuch_45 : decode cX8_asMuch 45 = .ok (.ireturn, 1) := by decide +kernel
set_option maxRecDepth 20000 in
theorem ggX8_leftAt_X8_startOf : GoodIn wsX8_leftAt wsX8_startOf := goodIn_r _ [6] (by decide +kernel) (by decide +kernel)
set_option maxRecDepth 20000 in
theorem gX8_leftAt_X8_startOf : GoodIn wsX8_leftAt (va_wsS RX8 313 yX8_startOf wsX8_startOf) := goodIn_app (goodIn_of _ (by decide +kernel)) ggX8_leftAt_X8_startOf
theorem dX8_leftAt_0 : decode cX8_leftAt 0 = .ok (.iconst 0, 1) := by decide +kernel
theorem dX8_leftAt_1 : decode cX8_leftAt 1 = .ok (.istore 4, 2) := by decide +kernel
theorem dX8_leftAt_3 : decode cX8_leftAt 3 = .ok (.iconst 0, 1) := by decide +kernel
theorem dX8_leftAt_4 : decode cX8_leftAt 4 = .ok (.istore 5, 2) := by decide +kernel
theorem dX8_leftAt_6 : decode cX8_leftAt 6 = .ok (.iload 5, 2) := by decide +kernel
theorem dX8_leftAt_8 : decode cX8_leftAt 8 = .ok (.bipush 12, 2) := by decide +kernel
theorem dX8_leftAt_10 : decode cX8_leftAt 10 = .ok (.if_icmp .ge 78, 3) := by decide +kernel
theorem dX8_leftAt_13 : decode cX8_leftAt 13 = .ok (.iload 5, 2) := by decide +kernel
theorem dX8_leftAt_15 : decode cX8_leftAt 15 = .ok (.iload_n 1, 1) := by decide +kernel
theorem dX8_leftAt_16 : decode cX8_leftAt 16 = .ok (.if_icmp .ge 18, 3) := by decide +kernel
theorem dX8_leftAt_19 : decode cX8_leftAt 19 = .ok (.iload 4, 2) := by decide +kernel
theorem dX8_leftAt_21 : decode cX8_leftAt 21 = .ok (.aload_n 0, 1) := by decide +kernel
theorem dX8_leftAt_22 : decode cX8_leftAt 22 = .ok (.getfield 19, 3) := by decide +kernel
theorem dX8_leftAt_25 : decode cX8_leftAt 25 = .ok (.getfield 80, 3) := by decide +kernel
theorem dX8_leftAt_28 : decode cX8_leftAt 28 = .ok (.iload 5, 2) := by decide +kernel
theorem dX8_leftAt_30 : decode cX8_leftAt 30 = .ok (.iaload, 1) := by decide +kernel
theorem dX8_leftAt_31 : decode cX8_leftAt 31 = .ok (.iadd, 1) := by decide +kernel
theorem dX8_leftAt_32 : decode cX8_leftAt 32 = .ok (.istore 4, 2) := by decide +kernel
theorem dX8_leftAt_34 : decode cX8_leftAt 34 = .ok (.iload 5, 2) := by decide +kernel
theorem dX8_leftAt_36 : decode cX8_leftAt 36 = .ok (.iload_n 2, 1) := by decide +kernel
theorem dX8_leftAt_37 : decode cX8_leftAt 37 = .ok (.if_icmp .ge 21, 3) := by decide +kernel
theorem dX8_leftAt_40 : decode cX8_leftAt 40 = .ok (.iload 4, 2) := by decide +kernel
theorem dX8_leftAt_42 : decode cX8_leftAt 42 = .ok (.aload_n 0, 1) := by decide +kernel
theorem dX8_leftAt_43 : decode cX8_leftAt 43 = .ok (.getfield 19, 3) := by decide +kernel
theorem dX8_leftAt_46 : decode cX8_leftAt 46 = .ok (.getfield 80, 3) := by decide +kernel
theorem dX8_leftAt_49 : decode cX8_leftAt 49 = .ok (.bipush 12, 2) := by decide +kernel
theorem dX8_leftAt_51 : decode cX8_leftAt 51 = .ok (.iload 5, 2) := by decide +kernel
theorem dX8_leftAt_53 : decode cX8_leftAt 53 = .ok (.iadd, 1) := by decide +kernel
theorem dX8_leftAt_54 : decode cX8_leftAt 54 = .ok (.iaload, 1) := by decide +kernel
theorem dX8_leftAt_55 : decode cX8_leftAt 55 = .ok (.iadd, 1) := by decide +kernel
theorem dX8_leftAt_56 : decode cX8_leftAt 56 = .ok (.istore 4, 2) := by decide +kernel
theorem dX8_leftAt_58 : decode cX8_leftAt 58 = .ok (.iload 5, 2) := by decide +kernel
theorem dX8_leftAt_60 : decode cX8_leftAt 60 = .ok (.iload_n 3, 1) := by decide +kernel
theorem dX8_leftAt_61 : decode cX8_leftAt 61 = .ok (.if_icmp .ge 21, 3) := by decide +kernel
theorem dX8_leftAt_64 : decode cX8_leftAt 64 = .ok (.iload 4, 2) := by decide +kernel
theorem dX8_leftAt_66 : decode cX8_leftAt 66 = .ok (.aload_n 0, 1) := by decide +kernel
theorem dX8_leftAt_67 : decode cX8_leftAt 67 = .ok (.getfield 19, 3) := by decide +kernel
theorem dX8_leftAt_70 : decode cX8_leftAt 70 = .ok (.getfield 80, 3) := by decide +kernel
theorem dX8_leftAt_73 : decode cX8_leftAt 73 = .ok (.bipush 24, 2) := by decide +kernel
theorem dX8_leftAt_75 : decode cX8_leftAt 75 = .ok (.iload 5, 2) := by decide +kernel
theorem dX8_leftAt_77 : decode cX8_leftAt 77 = .ok (.iadd, 1) := by decide +kernel
theorem dX8_leftAt_78 : decode cX8_leftAt 78 = .ok (.iaload, 1) := by decide +kernel
theorem dX8_leftAt_79 : decode cX8_leftAt 79 = .ok (.iadd, 1) := by decide +kernel
theorem dX8_leftAt_80 : decode cX8_leftAt 80 = .ok (.istore 4, 2) := by decide +kernel
theorem dX8_leftAt_82 : decode cX8_leftAt 82 = .ok (.iinc 5 1, 3) := by decide +kernel
theorem dX8_leftAt_85 : decode cX8_leftAt 85 = .ok (.goto (-79), 3) := by decide +kernel
theorem dX8_leftAt_88 : decode cX8_leftAt 88 = .ok (.iconst 0, 1) := by decide +kernel
theorem dX8_leftAt_89 : decode cX8_leftAt 89 = .ok (.istore 5, 2) := by decide +kernel
theorem dX8_leftAt_91 : decode cX8_leftAt 91 = .ok (.iload 5, 2) := by decide +kernel
theorem dX8_leftAt_93 : decode cX8_leftAt 93 = .ok (.aload_n 0, 1) := by decide +kernel
theorem dX8_leftAt_94 : decode cX8_leftAt 94 = .ok (.getfield 12, 3) := by decide +kernel
theorem dX8_leftAt_97 : decode cX8_leftAt 97 = .ok (.getfield 116, 3) := by decide +kernel
theorem dX8_leftAt_100 : decode cX8_leftAt 100 = .ok (.if_icmp .ge 98, 3) := by decide +kernel
theorem dX8_leftAt_103 : decode cX8_leftAt 103 = .ok (.aload_n 0, 1) := by decide +kernel
theorem dX8_leftAt_104 : decode cX8_leftAt 104 = .ok (.getfield 12, 3) := by decide +kernel
theorem dX8_leftAt_107 : decode cX8_leftAt 107 = .ok (.getfield 139, 3) := by decide +kernel
theorem dX8_leftAt_110 : decode cX8_leftAt 110 = .ok (.iload 5, 2) := by decide +kernel
theorem dX8_leftAt_112 : decode cX8_leftAt 112 = .ok (.iaload, 1) := by decide +kernel
theorem dX8_leftAt_113 : decode cX8_leftAt 113 = .ok (.istore 6, 2) := by decide +kernel
theorem dX8_leftAt_115 : decode cX8_leftAt 115 = .ok (.aload_n 0, 1) := by decide +kernel
theorem dX8_leftAt_116 : decode cX8_leftAt 116 = .ok (.getfield 19, 3) := by decide +kernel
theorem dX8_leftAt_119 : decode cX8_leftAt 119 = .ok (.getfield 127, 3) := by decide +kernel
theorem dX8_leftAt_122 : decode cX8_leftAt 122 = .ok (.iload 5, 2) := by decide +kernel
theorem dX8_leftAt_124 : decode cX8_leftAt 124 = .ok (.iaload, 1) := by decide +kernel
theorem dX8_leftAt_125 : decode cX8_leftAt 125 = .ok (.istore 7, 2) := by decide +kernel
theorem dX8_leftAt_127 : decode cX8_leftAt 127 = .ok (.aload_n 0, 1) := by decide +kernel
theorem dX8_leftAt_128 : decode cX8_leftAt 128 = .ok (.getfield 19, 3) := by decide +kernel
theorem dX8_leftAt_131 : decode cX8_leftAt 131 = .ok (.getfield 124, 3) := by decide +kernel
theorem dX8_leftAt_134 : decode cX8_leftAt 134 = .ok (.iload 5, 2) := by decide +kernel
theorem dX8_leftAt_136 : decode cX8_leftAt 136 = .ok (.iaload, 1) := by decide +kernel
theorem dX8_leftAt_137 : decode cX8_leftAt 137 = .ok (.iconst 1, 1) := by decide +kernel
theorem dX8_leftAt_138 : decode cX8_leftAt 138 = .ok (.if_icmp .ne 54, 3) := by decide +kernel
theorem dX8_leftAt_141 : decode cX8_leftAt 141 = .ok (.iload 6, 2) := by decide +kernel
theorem dX8_leftAt_143 : decode cX8_leftAt 143 = .ok (.iconst 0, 1) := by decide +kernel
theorem dX8_leftAt_144 : decode cX8_leftAt 144 = .ok (.iload 7, 2) := by decide +kernel
theorem dX8_leftAt_146 : decode cX8_leftAt 146 = .ok (.invokestatic 313, 3) := by decide +kernel
theorem dX8_leftAt_149 : decode cX8_leftAt 149 = .ok (.iload_n 1, 1) := by decide +kernel
theorem dX8_leftAt_150 : decode cX8_leftAt 150 = .ok (.if_icmp .gt 42, 3) := by decide +kernel
theorem dX8_leftAt_153 : decode cX8_leftAt 153 = .ok (.iload 6, 2) := by decide +kernel
theorem dX8_leftAt_155 : decode cX8_leftAt 155 = .ok (.iconst 1, 1) := by decide +kernel
theorem dX8_leftAt_156 : decode cX8_leftAt 156 = .ok (.iload 7, 2) := by decide +kernel
theorem dX8_leftAt_158 : decode cX8_leftAt 158 = .ok (.invokestatic 313, 3) := by decide +kernel
theorem dX8_leftAt_161 : decode cX8_leftAt 161 = .ok (.iload_n 2, 1) := by decide +kernel
theorem dX8_leftAt_162 : decode cX8_leftAt 162 = .ok (.if_icmp .gt 30, 3) := by decide +kernel
theorem dX8_leftAt_165 : decode cX8_leftAt 165 = .ok (.iload 6, 2) := by decide +kernel
theorem dX8_leftAt_167 : decode cX8_leftAt 167 = .ok (.iconst 2, 1) := by decide +kernel
theorem dX8_leftAt_168 : decode cX8_leftAt 168 = .ok (.iload 7, 2) := by decide +kernel
theorem dX8_leftAt_170 : decode cX8_leftAt 170 = .ok (.invokestatic 313, 3) := by decide +kernel
theorem dX8_leftAt_173 : decode cX8_leftAt 173 = .ok (.iload_n 3, 1) := by decide +kernel
theorem dX8_leftAt_174 : decode cX8_leftAt 174 = .ok (.if_icmp .gt 18, 3) := by decide +kernel
theorem dX8_leftAt_177 : decode cX8_leftAt 177 = .ok (.iload 4, 2) := by decide +kernel
theorem dX8_leftAt_179 : decode cX8_leftAt 179 = .ok (.aload_n 0, 1) := by decide +kernel
theorem dX8_leftAt_180 : decode cX8_leftAt 180 = .ok (.getfield 12, 3) := by decide +kernel
theorem dX8_leftAt_183 : decode cX8_leftAt 183 = .ok (.getfield 136, 3) := by decide +kernel
theorem dX8_leftAt_186 : decode cX8_leftAt 186 = .ok (.iload 5, 2) := by decide +kernel
theorem dX8_leftAt_188 : decode cX8_leftAt 188 = .ok (.iaload, 1) := by decide +kernel
theorem dX8_leftAt_189 : decode cX8_leftAt 189 = .ok (.isub, 1) := by decide +kernel
theorem dX8_leftAt_190 : decode cX8_leftAt 190 = .ok (.istore 4, 2) := by decide +kernel
theorem dX8_leftAt_192 : decode cX8_leftAt 192 = .ok (.iinc 5 1, 3) := by decide +kernel
theorem dX8_leftAt_195 : decode cX8_leftAt 195 = .ok (.goto (-104), 3) := by decide +kernel
theorem dX8_leftAt_198 : decode cX8_leftAt 198 = .ok (.iload 4, 2) := by decide +kernel
theorem dX8_leftAt_200 : decode cX8_leftAt 200 = .ok (.ireturn, 1) := by decide +kernel
theorem dX8_startOf_0 : decode cX8_startOf 0 = .ok (.iload_n 0, 1) := by decide +kernel
theorem dX8_startOf_1 : decode cX8_startOf 1 = .ok (.iload_n 1, 1) := by decide +kernel
theorem dX8_startOf_2 : decode cX8_startOf 2 = .ok (.ishr, 1) := by decide +kernel
theorem dX8_startOf_3 : decode cX8_startOf 3 = .ok (.iconst 1, 1) := by decide +kernel
theorem dX8_startOf_4 : decode cX8_startOf 4 = .ok (.iand, 1) := by decide +kernel
theorem dX8_startOf_5 : decode cX8_startOf 5 = .ok (.ifCond .ne 7, 3) := by decide +kernel
theorem dX8_startOf_8 : decode cX8_startOf 8 = .ok (.iconst 0, 1) := by decide +kernel
theorem dX8_startOf_9 : decode cX8_startOf 9 = .ok (.goto 6, 3) := by decide +kernel
theorem dX8_startOf_12 : decode cX8_startOf 12 = .ok (.iload_n 2, 1) := by decide +kernel
theorem dX8_startOf_13 : decode cX8_startOf 13 = .ok (.iconst 1, 1) := by decide +kernel
theorem dX8_startOf_14 : decode cX8_startOf 14 = .ok (.iadd, 1) := by decide +kernel
theorem dX8_startOf_15 : decode cX8_startOf 15 = .ok (.ireturn, 1) := by decide +kernel
theorem dX8_stepOf_0 : decode cX8_stepOf 0 = .ok (.iload_n 0, 1) := by decide +kernel
theorem dX8_stepOf_1 : decode cX8_stepOf 1 = .ok (.sipush 169, 3) := by decide +kernel
theorem dX8_stepOf_4 : decode cX8_stepOf 4 = .ok (.idiv, 1) := by decide +kernel
theorem dX8_stepOf_5 : decode cX8_stepOf 5 = .ok (.sipush 10000, 3) := by decide +kernel
theorem dX8_stepOf_8 : decode cX8_stepOf 8 = .ok (.imul, 1) := by decide +kernel
theorem dX8_stepOf_9 : decode cX8_stepOf 9 = .ok (.iload_n 0, 1) := by decide +kernel
theorem dX8_stepOf_10 : decode cX8_stepOf 10 = .ok (.bipush 13, 2) := by decide +kernel
theorem dX8_stepOf_12 : decode cX8_stepOf 12 = .ok (.idiv, 1) := by decide +kernel
theorem dX8_stepOf_13 : decode cX8_stepOf 13 = .ok (.bipush 13, 2) := by decide +kernel
theorem dX8_stepOf_15 : decode cX8_stepOf 15 = .ok (.irem, 1) := by decide +kernel
theorem dX8_stepOf_16 : decode cX8_stepOf 16 = .ok (.bipush 100, 2) := by decide +kernel
theorem dX8_stepOf_18 : decode cX8_stepOf 18 = .ok (.imul, 1) := by decide +kernel
theorem dX8_stepOf_19 : decode cX8_stepOf 19 = .ok (.iadd, 1) := by decide +kernel
theorem dX8_stepOf_20 : decode cX8_stepOf 20 = .ok (.iload_n 0, 1) := by decide +kernel
theorem dX8_stepOf_21 : decode cX8_stepOf 21 = .ok (.bipush 13, 2) := by decide +kernel
theorem dX8_stepOf_23 : decode cX8_stepOf 23 = .ok (.irem, 1) := by decide +kernel
theorem dX8_stepOf_24 : decode cX8_stepOf 24 = .ok (.iadd, 1) := by decide +kernel
theorem dX8_stepOf_25 : decode cX8_stepOf 25 = .ok (.ireturn, 1) := by decide +kernel
theorem dX8_exchangeLatest_0 : decode cX8_exchangeLatest 0 = .ok (.aload_n 0, 1) := by decide +kernel
theorem dX8_exchangeLatest_1 : decode cX8_exchangeLatest 1 = .ok (.getfield 19, 3) := by decide +kernel
theorem dX8_exchangeLatest_4 : decode cX8_exchangeLatest 4 = .ok (.getfield 127, 3) := by decide +kernel
theorem dX8_exchangeLatest_7 : decode cX8_exchangeLatest 7 = .ok (.iload_n 1, 1) := by decide +kernel
theorem dX8_exchangeLatest_8 : decode cX8_exchangeLatest 8 = .ok (.iaload, 1) := by decide +kernel
theorem dX8_exchangeLatest_9 : decode cX8_exchangeLatest 9 = .ok (.istore_n 3, 1) := by decide +kernel
theorem dX8_exchangeLatest_10 : decode cX8_exchangeLatest 10 = .ok (.aload_n 0, 1) := by decide +kernel
theorem dX8_exchangeLatest_11 : decode cX8_exchangeLatest 11 = .ok (.getfield 19, 3) := by decide +kernel
theorem dX8_exchangeLatest_14 : decode cX8_exchangeLatest 14 = .ok (.getfield 127, 3) := by decide +kernel
theorem dX8_exchangeLatest_17 : decode cX8_exchangeLatest 17 = .ok (.iload_n 1, 1) := by decide +kernel
theorem dX8_exchangeLatest_18 : decode cX8_exchangeLatest 18 = .ok (.aload_n 0, 1) := by decide +kernel
theorem dX8_exchangeLatest_19 : decode cX8_exchangeLatest 19 = .ok (.getfield 19, 3) := by decide +kernel
theorem dX8_exchangeLatest_22 : decode cX8_exchangeLatest 22 = .ok (.getfield 127, 3) := by decide +kernel
theorem dX8_exchangeLatest_25 : decode cX8_exchangeLatest 25 = .ok (.iload_n 2, 1) := by decide +kernel
theorem dX8_exchangeLatest_26 : decode cX8_exchangeLatest 26 = .ok (.iaload, 1) := by decide +kernel
theorem dX8_exchangeLatest_27 : decode cX8_exchangeLatest 27 = .ok (.iastore, 1) := by decide +kernel
theorem dX8_exchangeLatest_28 : decode cX8_exchangeLatest 28 = .ok (.aload_n 0, 1) := by decide +kernel
theorem dX8_exchangeLatest_29 : decode cX8_exchangeLatest 29 = .ok (.getfield 19, 3) := by decide +kernel
theorem dX8_exchangeLatest_32 : decode cX8_exchangeLatest 32 = .ok (.getfield 127, 3) := by decide +kernel
theorem dX8_exchangeLatest_35 : decode cX8_exchangeLatest 35 = .ok (.iload_n 2, 1) := by decide +kernel
theorem dX8_exchangeLatest_36 : decode cX8_exchangeLatest 36 = .ok (.iload_n 3, 1) := by decide +kernel
theorem dX8_exchangeLatest_37 : decode cX8_exchangeLatest 37 = .ok (.iastore, 1) := by decide +kernel
theorem dX8_exchangeLatest_38 : decode cX8_exchangeLatest 38 = .ok (.return_, 1) := by decide +kernel
theorem dX8_isAhead_0 : decode cX8_isAhead 0 = .ok (.aload_n 0, 1) := by decide +kernel
theorem dX8_isAhead_1 : decode cX8_isAhead 1 = .ok (.getfield 12, 3) := by decide +kernel
theorem dX8_isAhead_4 : decode cX8_isAhead 4 = .ok (.getfield 145, 3) := by decide +kernel
theorem dX8_isAhead_7 : decode cX8_isAhead 7 = .ok (.iload_n 1, 1) := by decide +kernel
theorem dX8_isAhead_8 : decode cX8_isAhead 8 = .ok (.iaload, 1) := by decide +kernel
theorem dX8_isAhead_9 : decode cX8_isAhead 9 = .ok (.aload_n 0, 1) := by decide +kernel
theorem dX8_isAhead_10 : decode cX8_isAhead 10 = .ok (.getfield 12, 3) := by decide +kernel
theorem dX8_isAhead_13 : decode cX8_isAhead 13 = .ok (.getfield 145, 3) := by decide +kernel
theorem dX8_isAhead_16 : decode cX8_isAhead 16 = .ok (.iload_n 2, 1) := by decide +kernel
theorem dX8_isAhead_17 : decode cX8_isAhead 17 = .ok (.iaload, 1) := by decide +kernel
theorem dX8_isAhead_18 : decode cX8_isAhead 18 = .ok (.isub, 1) := by decide +kernel
theorem dX8_isAhead_19 : decode cX8_isAhead 19 = .ok (.istore_n 3, 1) := by decide +kernel
theorem dX8_isAhead_20 : decode cX8_isAhead 20 = .ok (.iload_n 3, 1) := by decide +kernel
theorem dX8_isAhead_21 : decode cX8_isAhead 21 = .ok (.ifCond .gt 12, 3) := by decide +kernel
theorem dX8_isAhead_24 : decode cX8_isAhead 24 = .ok (.iload_n 3, 1) := by decide +kernel
theorem dX8_isAhead_25 : decode cX8_isAhead 25 = .ok (.ifCond .ne 12, 3) := by decide +kernel
theorem dX8_isAhead_28 : decode cX8_isAhead 28 = .ok (.iload_n 1, 1) := by decide +kernel
theorem dX8_isAhead_29 : decode cX8_isAhead 29 = .ok (.iload_n 2, 1) := by decide +kernel
theorem dX8_isAhead_30 : decode cX8_isAhead 30 = .ok (.if_icmp .ge 7, 3) := by decide +kernel
theorem dX8_isAhead_33 : decode cX8_isAhead 33 = .ok (.iconst 1, 1) := by decide +kernel
theorem dX8_isAhead_34 : decode cX8_isAhead 34 = .ok (.goto 4, 3) := by decide +kernel
theorem dX8_isAhead_37 : decode cX8_isAhead 37 = .ok (.iconst 0, 1) := by decide +kernel
theorem dX8_isAhead_38 : decode cX8_isAhead 38 = .ok (.ireturn, 1) := by decide +kernel
set_option maxRecDepth 20000 in
theorem ggX8_isLate_X8_keptOnes : GoodIn wsX8_isLate wsX8_keptOnes := goodIn_r _ [6, 7, 8, 9, 10, 1, 11, 12, 13, 5, 14, 15, 16, 17, 18, 19, 20, 21, 22, 23, 24, 25, 26, 27, 28, 29, 30, 31, 32, 33, 34, 35, 36, 37, 38, 39, 40, 41, 42, 43, 44, 45, 46, 47, 48, 49, 50, 51, 52, 53, 54, 55, 56, 57, 58, 59, 60, 61, 62, 63, 64, 65, 66, 72, 73, 74, 75, 76, 77, 67, 68, 69, 70, 71, 78, 79] (by decide +kernel) (by decide +kernel)
set_option maxRecDepth 20000 in
theorem gX8_isLate_X8_keptOnes : GoodIn wsX8_isLate (wsV RX8 242 RX8 yX8_keptOnes wsX8_keptOnes) := goodIn_app (goodIn_of _ (by decide +kernel)) ggX8_isLate_X8_keptOnes
set_option maxRecDepth 20000 in
theorem ggX8_isLate_X8_bit : GoodIn wsX8_isLate wsX8_bit := goodIn_r _ [17] (by decide +kernel) (by decide +kernel)
set_option maxRecDepth 20000 in
theorem gX8_isLate_X8_bit : GoodIn wsX8_isLate (va_wsS RX8 154 yX8_bit wsX8_bit) := goodIn_app (goodIn_of _ (by decide +kernel)) ggX8_isLate_X8_bit
theorem dX8_isLate_0 : decode cX8_isLate 0 = .ok (.aload_n 0, 1) := by decide +kernel
theorem dX8_isLate_1 : decode cX8_isLate 1 = .ok (.getfield 19, 3) := by decide +kernel
theorem dX8_isLate_4 : decode cX8_isLate 4 = .ok (.getfield 124, 3) := by decide +kernel
theorem dX8_isLate_7 : decode cX8_isLate 7 = .ok (.iload_n 1, 1) := by decide +kernel
theorem dX8_isLate_8 : decode cX8_isLate 8 = .ok (.iaload, 1) := by decide +kernel
theorem dX8_isLate_9 : decode cX8_isLate 9 = .ok (.iconst 1, 1) := by decide +kernel
theorem dX8_isLate_10 : decode cX8_isLate 10 = .ok (.if_icmp .ne 19, 3) := by decide +kernel
theorem dX8_isLate_13 : decode cX8_isLate 13 = .ok (.aload_n 0, 1) := by decide +kernel
theorem dX8_isLate_14 : decode cX8_isLate 14 = .ok (.invokevirtual 242, 3) := by decide +kernel
theorem dX8_isLate_17 : decode cX8_isLate 17 = .ok (.iload_n 1, 1) := by decide +kernel
theorem dX8_isLate_18 : decode cX8_isLate 18 = .ok (.invokestatic 154, 3) := by decide +kernel
theorem dX8_isLate_21 : decode cX8_isLate 21 = .ok (.iand, 1) := by decide +kernel
theorem dX8_isLate_22 : decode cX8_isLate 22 = .ok (.ifCond .ne 7, 3) := by decide +kernel
theorem dX8_isLate_25 : decode cX8_isLate 25 = .ok (.iconst 1, 1) := by decide +kernel
theorem dX8_isLate_26 : decode cX8_isLate 26 = .ok (.goto 4, 3) := by decide +kernel
theorem dX8_isLate_29 : decode cX8_isLate 29 = .ok (.iconst 0, 1) := by decide +kernel
theorem dX8_isLate_30 : decode cX8_isLate 30 = .ok (.ireturn, 1) := by decide +kernel
set_option maxRecDepth 20000 in
theorem ggX8_keptOnes_X8_setOf : GoodIn wsX8_keptOnes wsX8_setOf := goodIn_r _ [10, 4, 5, 11, 12, 9, 13, 50, 51, 52, 53, 54, 55, 56, 57, 58, 59, 60, 61, 62, 63, 64, 65, 66, 67, 68, 69, 70, 71, 72, 73] (by decide +kernel) (by decide +kernel)
set_option maxRecDepth 20000 in
theorem gX8_keptOnes_X8_setOf : GoodIn wsX8_keptOnes (wsV RX8 97 RX8 yX8_setOf wsX8_setOf) := goodIn_app (goodIn_of _ (by decide +kernel)) ggX8_keptOnes_X8_setOf
set_option maxRecDepth 20000 in
theorem ggX8_keptOnes_X6_lay : GoodIn wsX8_keptOnes wsX6_lay := goodIn_r _ [18, 19, 20, 21, 22, 23, 17, 24, 25, 26, 27, 28, 12, 9, 13, 29, 30, 31, 32, 33, 34, 35, 36, 37, 74, 75, 63, 64, 65, 66, 67, 68, 69, 70, 71, 72, 73] (by decide +kernel) (by decide +kernel)
set_option maxRecDepth 20000 in
theorem gX8_keptOnes_X6_lay : GoodIn wsX8_keptOnes (wsV RX8 186 RX6 yX6_lay wsX6_lay) := goodIn_app (goodIn_of _ (by decide +kernel)) ggX8_keptOnes_X6_lay
set_option maxRecDepth 20000 in
theorem ggX8_keptOnes_X8_bit : GoodIn wsX8_keptOnes wsX8_bit := goodIn_r _ [13] (by decide +kernel) (by decide +kernel)
set_option maxRecDepth 20000 in
theorem gX8_keptOnes_X8_bit : GoodIn wsX8_keptOnes (va_wsS RX8 154 yX8_bit wsX8_bit) := goodIn_app (goodIn_of _ (by decide +kernel)) ggX8_keptOnes_X8_bit
set_option maxRecDepth 20000 in
theorem ggX8_keptOnes_X6_least : GoodIn wsX8_keptOnes wsX6_least := goodIn_r _ [41, 19, 42, 43, 44, 45, 32, 9, 33, 74, 75] (by decide +kernel) (by decide +kernel)
set_option maxRecDepth 20000 in
theorem gX8_keptOnes_X6_least : GoodIn wsX8_keptOnes (wsV RX8 207 RX6 yX6_least wsX6_least) := goodIn_app (goodIn_of _ (by decide +kernel)) ggX8_keptOnes_X6_least
set_option maxRecDepth 20000 in
theorem ggX8_keptOnes_X6_take : GoodIn wsX8_keptOnes wsX6_take := goodIn_r _ [49, 19, 32, 9, 33, 74, 75] (by decide +kernel) (by decide +kernel)
set_option maxRecDepth 20000 in
theorem gX8_keptOnes_X6_take : GoodIn wsX8_keptOnes (wsV RX8 171 RX6 yX6_take wsX6_take) := goodIn_app (goodIn_of _ (by decide +kernel)) ggX8_keptOnes_X6_take
theorem dX8_keptOnes_0 : decode cX8_keptOnes 0 = .ok (.aload_n 0, 1) := by decide +kernel
theorem dX8_keptOnes_1 : decode cX8_keptOnes 1 = .ok (.getfield 316, 3) := by decide +kernel
theorem dX8_keptOnes_4 : decode cX8_keptOnes 4 = .ok (.ifCond .eq 8, 3) := by decide +kernel
theorem dX8_keptOnes_7 : decode cX8_keptOnes 7 = .ok (.aload_n 0, 1) := by decide +kernel
theorem dX8_keptOnes_8 : decode cX8_keptOnes 8 = .ok (.getfield 319, 3) := by decide +kernel
theorem dX8_keptOnes_11 : decode cX8_keptOnes 11 = .ok (.ireturn, 1) := by decide +kernel
theorem dX8_keptOnes_12 : decode cX8_keptOnes 12 = .ok (.aload_n 0, 1) := by decide +kernel
theorem dX8_keptOnes_13 : decode cX8_keptOnes 13 = .ok (.iconst 1, 1) := by decide +kernel
theorem dX8_keptOnes_14 : decode cX8_keptOnes 14 = .ok (.invokevirtual 97, 3) := by decide +kernel
theorem dX8_keptOnes_17 : decode cX8_keptOnes 17 = .ok (.istore_n 1, 1) := by decide +kernel
theorem dX8_keptOnes_18 : decode cX8_keptOnes 18 = .ok (.aload_n 0, 1) := by decide +kernel
theorem dX8_keptOnes_19 : decode cX8_keptOnes 19 = .ok (.iconst 0, 1) := by decide +kernel
theorem dX8_keptOnes_20 : decode cX8_keptOnes 20 = .ok (.putfield 319, 3) := by decide +kernel
theorem dX8_keptOnes_23 : decode cX8_keptOnes 23 = .ok (.aload_n 0, 1) := by decide +kernel
theorem dX8_keptOnes_24 : decode cX8_keptOnes 24 = .ok (.getfield 43, 3) := by decide +kernel
theorem dX8_keptOnes_27 : decode cX8_keptOnes 27 = .ok (.aload_n 0, 1) := by decide +kernel
theorem dX8_keptOnes_28 : decode cX8_keptOnes 28 = .ok (.getfield 12, 3) := by decide +kernel
theorem dX8_keptOnes_31 : decode cX8_keptOnes 31 = .ok (.aload_n 0, 1) := by decide +kernel
theorem dX8_keptOnes_32 : decode cX8_keptOnes 32 = .ok (.getfield 19, 3) := by decide +kernel
theorem dX8_keptOnes_35 : decode cX8_keptOnes 35 = .ok (.aload_n 0, 1) := by decide +kernel
theorem dX8_keptOnes_36 : decode cX8_keptOnes 36 = .ok (.getfield 319, 3) := by decide +kernel
theorem dX8_keptOnes_39 : decode cX8_keptOnes 39 = .ok (.invokevirtual 186, 3) := by decide +kernel
theorem dX8_keptOnes_42 : decode cX8_keptOnes 42 = .ok (.bipush 9, 2) := by decide +kernel
