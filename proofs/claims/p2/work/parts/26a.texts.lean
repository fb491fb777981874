def wsL_wideText_r1 : List Cond := [Cond.classLink RL 19 "java/lang/IndexOutOfBoundsException", Cond.methodLink RL 59 yX2_wideText, Cond.instanceMethod yX2_wideText, Cond.selects RX2 yX2_wideText yX2_wideText, Cond.initialized RX2, Cond.code yX2_wideText cX2_wideText 2 (some (.object "java/lang/String")), Cond.fieldLink RX2 20 "Edgefloats" "wide" "LEdgefloats$Row;", Cond.methodLink RX2 71 yX0_text, Cond.instanceMethod yX0_text, Cond.selects RX0 yX0_text yX0_text, Cond.initialized RX0, Cond.code yX0_text cX0_text 2 (some (.object "java/lang/String")), Cond.fieldLink RX0 9 "Edgefloats$Row" "width" "LEdgefloats$Width;", Cond.fieldLink RX0 15 "Edgefloats$Row" "cells" "[J", Cond.static yX2_checkCell, Cond.code yX2_checkCell cX2_checkCell 1 none, Cond.classLink RX2 148 "java/lang/IndexOutOfBoundsException", Cond.initialized "java/lang/IndexOutOfBoundsException", Cond.methodLink RX0 96 yX1_text, Cond.instanceMethod yX1_text, Cond.selects RX1 yX1_text yX1_text, Cond.initialized RX1, Cond.code yX1_text cX1_text 4 (some (.object "java/lang/String")), Cond.classLink RX1 76 RJ4]
def wsL_wideText_r2 : List Cond := [Cond.instantiable RJ4 4, Cond.initialized RJ4, Cond.methodLink RX1 78 yJ4_init_da8c8, Cond.instanceMethod yJ4_init_da8c8, Cond.code yJ4_init_da8c8 cJ4_init_da8c8 1 none, Cond.methodLink RJ4 1 yJ5_init_d00df, Cond.instanceMethod yJ5_init_d00df, Cond.initialized RJ5, Cond.code yJ5_init_d00df cJ5_init_d00df 2 none, Cond.methodLink RJ5 3 objectInit, Cond.instanceMethod objectInit, Cond.code objectInit ⟨#[0xb1]⟩ 1 none, Cond.fieldLink RJ5 18 "java/lang/String" "COMPACT_STRINGS" "Z", Cond.arrayClass .byte, Cond.fieldLink RJ5 15 "java/lang/AbstractStringBuilder" "value" "[B", Cond.fieldLink RJ5 22 "java/lang/AbstractStringBuilder" "coder" "B", Cond.methodLink RJ5 26 yJ2_newBytesFor_77867, Cond.static yJ2_newBytesFor_77867, Cond.initialized RJ2, Cond.code yJ2_newBytesFor_77867 cJ2_newBytesFor_77867 1 (some (.array .byte)), Cond.methodLink RJ2 11 yJ2_newBytesLength_0f7a4, Cond.static yJ2_newBytesLength_0f7a4, Cond.code yJ2_newBytesLength_0f7a4 cJ2_newBytesLength_0f7a4 1 (some .int), Cond.constant RJ2 20 (1073741823)]
def wsL_wideText_r3 : List Cond := [Cond.methodLink RX1 60 yX1_hasSign, Cond.instanceMethod yX1_hasSign, Cond.selects RX1 yX1_hasSign yX1_hasSign, Cond.code yX1_hasSign cX1_hasSign 3 (some .boolean), Cond.fieldLink RX1 25 "Edgefloats$Width" "signOne" "J", Cond.methodLink RX1 79 yJ4_append_cf468, Cond.instanceMethod yJ4_append_cf468, Cond.selects RJ4 yJ4_append_cf468 yJ4_append_cf468, Cond.code yJ4_append_cf468 cJ4_append_cf468 2 (some (.object "java/lang/StringBuilder")), Cond.methodLink RJ4 50 yJ5_append_3fe6f, Cond.sameMethod "java/lang/AbstractStringBuilder" "java/lang/AbstractStringBuilder" "append" "(C)Ljava/lang/AbstractStringBuilder;", Cond.superclass RJ4 RJ5, Cond.instanceMethod yJ5_append_3fe6f, Cond.code yJ5_append_3fe6f cJ5_append_3fe6f 2 (some (.object "java/lang/AbstractStringBuilder")), Cond.fieldLink RJ5 79 "java/lang/AbstractStringBuilder" "count" "I", Cond.methodLink RJ5 100 ⟨"java/lang/AbstractStringBuilder", "ensureCapacityInternal", "(I)V"⟩, Cond.sameMethod "java/lang/AbstractStringBuilder" "java/lang/AbstractStringBuilder" "ensureCapacityInternal" "(I)V", Cond.selects RJ4 ⟨"java/lang/AbstractStringBuilder", "ensureCapacityInternal", "(I)V"⟩ yJ5_ensureCapacityInternal_d00df, Cond.instanceMethod yJ5_ensureCapacityInternal_d00df, Cond.code yJ5_ensureCapacityInternal_d00df cJ5_ensureCapacityInternal_d00df 3 none, Cond.methodLink RJ5 104 ⟨"java/lang/AbstractStringBuilder", "newCapacity", "(I)I"⟩, Cond.sameMethod "java/lang/AbstractStringBuilder" "java/lang/AbstractStringBuilder" "newCapacity" "(I)I", Cond.selects RJ4 ⟨"java/lang/AbstractStringBuilder", "newCapacity", "(I)I"⟩ yJ5_newCapacity_0f7a4, Cond.instanceMethod yJ5_newCapacity_0f7a4]
def wsL_wideText_r4 : List Cond := [Cond.code yJ5_newCapacity_0f7a4 cJ5_newCapacity_0f7a4 6 (some .int), Cond.constant RJ5 39 (2147483647), Cond.methodLink RJ5 114 yJ8_newLength_cabcc, Cond.static yJ8_newLength_cabcc, Cond.initialized RJ8, Cond.code yJ8_newLength_cabcc cJ8_newLength_cabcc 4 (some .int), Cond.methodLink RJ8 194 Lib.Math.max.name, Cond.static Lib.Math.max.name, Cond.initialized "java/lang/Math", Cond.code Lib.Math.max.name Lib.Math.max.code 2 (some .int), Cond.constant RJ8 200 (2147483639), Cond.methodLink RJ8 201 yJ8_hugeLength_7cf53, Cond.static yJ8_hugeLength_7cf53, Cond.code yJ8_hugeLength_7cf53 cJ8_hugeLength_7cf53 3 (some .int), Cond.methodLink RJ5 108 yJ7_copyOf_9075b, Cond.static yJ7_copyOf_9075b, Cond.initialized RJ7, Cond.code yJ7_copyOf_9075b cJ7_copyOf_9075b 3 (some (.array .byte)), Cond.methodLink RJ7 310 ⟨"[B", "clone", "()Ljava/lang/Object;"⟩, Cond.sameMethod "[B" "java/lang/Object" "clone" "()Ljava/lang/Object;", Cond.native ⟨"java/lang/Object", "clone", "()Ljava/lang/Object;"⟩, Cond.instanceMethod ⟨"java/lang/Object", "clone", "()Ljava/lang/Object;"⟩, Cond.selects "[B" ⟨"[B", "clone", "()Ljava/lang/Object;"⟩ ⟨"java/lang/Object", "clone", "()Ljava/lang/Object;"⟩, Cond.classLink RJ7 311 "[B"]
def wsL_wideText_r5 : List Cond := [Cond.methodLink RJ7 304 Lib.Math.min.name, Cond.static Lib.Math.min.name, Cond.code Lib.Math.min.name Lib.Math.min.code 2 (some .int), Cond.methodLink RJ7 150 arraycopyName, Cond.native arraycopyName, Cond.static arraycopyName, Cond.initialized "java/lang/System", Cond.methodLink RJ5 83 ⟨"java/lang/AbstractStringBuilder", "isLatin1", "()Z"⟩, Cond.sameMethod "java/lang/AbstractStringBuilder" "java/lang/AbstractStringBuilder" "isLatin1" "()Z", Cond.selects RJ4 ⟨"java/lang/AbstractStringBuilder", "isLatin1", "()Z"⟩ yJ5_isLatin1_aae02, Cond.instanceMethod yJ5_isLatin1_aae02, Cond.code yJ5_isLatin1_aae02 cJ5_isLatin1_aae02 1 (some .boolean), Cond.methodLink RJ5 191 yJ1_canEncode_fc78d, Cond.static yJ1_canEncode_fc78d, Cond.initialized RJ1, Cond.code yJ1_canEncode_fc78d cJ1_canEncode_fc78d 1 (some .boolean), Cond.methodLink RJ5 195 ⟨"java/lang/AbstractStringBuilder", "inflate", "()V"⟩, Cond.sameMethod "java/lang/AbstractStringBuilder" "java/lang/AbstractStringBuilder" "inflate" "()V", Cond.selects RJ4 ⟨"java/lang/AbstractStringBuilder", "inflate", "()V"⟩ yJ5_inflate_da8c8, Cond.instanceMethod yJ5_inflate_da8c8, Cond.code yJ5_inflate_da8c8 cJ5_inflate_da8c8 2 none, Cond.methodLink RJ5 125 yJ1_inflate_0e8fd, Cond.static yJ1_inflate_0e8fd, Cond.code yJ1_inflate_0e8fd cJ1_inflate_0e8fd 5 none]
def wsL_wideText_r6 : List Cond := [Cond.methodLink RJ1 240 yJ2_inflate_0e8fd, Cond.static yJ2_inflate_0e8fd, Cond.code yJ2_inflate_0e8fd cJ2_inflate_0e8fd 6 none, Cond.methodLink RJ2 173 yJ2_checkBoundsOffCount_d044e, Cond.static yJ2_checkBoundsOffCount_d044e, Cond.code yJ2_checkBoundsOffCount_d044e cJ2_checkBoundsOffCount_d044e 3 none, Cond.methodLink RJ2 48 yJ2_length_9d52b, Cond.static yJ2_length_9d52b, Cond.code yJ2_length_9d52b cJ2_length_9d52b 1 (some .int), Cond.methodLink RJ2 419 yJ0_checkBoundsOffCount_cabcc, Cond.static yJ0_checkBoundsOffCount_cabcc, Cond.initialized RJ0, Cond.code yJ0_checkBoundsOffCount_cabcc cJ0_checkBoundsOffCount_cabcc 3 (some .int), Cond.fieldLink RJ0 1053 "jdk/internal/util/Preconditions" "SIOOBE_FORMATTER" "Ljava/util/function/BiFunction;", Cond.methodLink RJ0 1065 yJ3_checkFromIndexSize_8c36e, Cond.static yJ3_checkFromIndexSize_8c36e, Cond.initialized RJ3, Cond.code yJ3_checkFromIndexSize_8c36e cJ3_checkFromIndexSize_8c36e 4 (some .int), Cond.methodLink RJ2 111 yJ2_putChar_b72d1, Cond.static yJ2_putChar_b72d1, Cond.code yJ2_putChar_b72d1 cJ2_putChar_b72d1 3 none, Cond.fieldLink RJ2 44 "java/lang/StringUTF16" "$assertionsDisabled" "Z", Cond.fieldLink RJ2 59 "java/lang/StringUTF16" "HI_BYTE_SHIFT" "I", Cond.fieldLink RJ2 63 "java/lang/StringUTF16" "LO_BYTE_SHIFT" "I"]
def wsL_wideText_r7 : List Cond := [Cond.methodLink RJ5 197 yJ2_putCharSB_b72d1, Cond.static yJ2_putCharSB_b72d1, Cond.code yJ2_putCharSB_b72d1 cJ2_putCharSB_b72d1 3 none, Cond.methodLink RJ2 67 yJ2_checkIndex_2214a, Cond.static yJ2_checkIndex_2214a, Cond.code yJ2_checkIndex_2214a cJ2_checkIndex_2214a 2 none, Cond.methodLink RJ2 414 yJ0_checkIndex_df160, Cond.static yJ0_checkIndex_df160, Cond.code yJ0_checkIndex_df160 cJ0_checkIndex_df160 2 none, Cond.methodLink RJ0 1059 yJ3_checkIndex_8e157, Cond.static yJ3_checkIndex_8e157, Cond.code yJ3_checkIndex_8e157 cJ3_checkIndex_8e157 3 (some .int), Cond.methodLink RX1 34 yX1_exponent, Cond.instanceMethod yX1_exponent, Cond.selects RX1 yX1_exponent yX1_exponent, Cond.code yX1_exponent cX1_exponent 3 (some .int), Cond.fieldLink RX1 9 "Edgefloats$Width" "fractionDigits" "I", Cond.fieldLink RX1 18 "Edgefloats$Width" "exponentOnes" "I", Cond.methodLink RX1 83 yJ4_append_bf812, Cond.instanceMethod yJ4_append_bf812, Cond.selects RJ4 yJ4_append_bf812 yJ4_append_bf812, Cond.code yJ4_append_bf812 cJ4_append_bf812 2 (some (.object "java/lang/StringBuilder")), Cond.methodLink RJ4 53 yJ5_append_c97b9, Cond.sameMethod "java/lang/AbstractStringBuilder" "java/lang/AbstractStringBuilder" "append" "(I)Ljava/lang/AbstractStringBuilder;"]
def wsL_wideText_r8 : List Cond := [Cond.instanceMethod yJ5_append_c97b9, Cond.code yJ5_append_c97b9 cJ5_append_c97b9 4 (some (.object "java/lang/AbstractStringBuilder")), Cond.methodLink RJ5 245 yJ6_stringSize_0f7a4, Cond.static yJ6_stringSize_0f7a4, Cond.initialized RJ6, Cond.code yJ6_stringSize_0f7a4 cJ6_stringSize_0f7a4 4 (some .int), Cond.methodLink RJ5 248 yJ6_getChars_ba4f3, Cond.static yJ6_getChars_ba4f3, Cond.code yJ6_getChars_ba4f3 cJ6_getChars_ba4f3 7 (some .int), Cond.fieldLink RJ6 83 "java/lang/Integer" "DigitOnes" "[B", Cond.fieldLink RJ6 87 "java/lang/Integer" "DigitTens" "[B", Cond.methodLink RJ5 251 yJ2_getChars_46870, Cond.static yJ2_getChars_46870, Cond.code yJ2_getChars_46870 cJ2_getChars_46870 5 (some .int), Cond.methodLink RJ2 96 yJ2_checkBoundsBeginEnd_d044e, Cond.static yJ2_checkBoundsBeginEnd_d044e, Cond.code yJ2_checkBoundsBeginEnd_d044e cJ2_checkBoundsBeginEnd_d044e 3 none, Cond.methodLink RJ2 241 yJ0_checkBoundsBeginEnd_23922, Cond.static yJ0_checkBoundsBeginEnd_23922, Cond.code yJ0_checkBoundsBeginEnd_23922 cJ0_checkBoundsBeginEnd_23922 3 none, Cond.methodLink RJ0 1062 yJ3_checkFromToIndex_8c36e, Cond.static yJ3_checkFromToIndex_8c36e, Cond.code yJ3_checkFromToIndex_8c36e cJ3_checkFromToIndex_8c36e 4 (some .int), Cond.methodLink RJ2 393 yJ2_getChars_ba4f3]
def wsL_wideText_r9 : List Cond := [Cond.static yJ2_getChars_ba4f3, Cond.code yJ2_getChars_ba4f3 cJ2_getChars_ba4f3 7 (some .int), Cond.fieldLink RJ2 403 "java/lang/Integer" "DigitOnes" "[B", Cond.fieldLink RJ2 407 "java/lang/Integer" "DigitTens" "[B", Cond.methodLink RX1 38 yX1_fraction, Cond.instanceMethod yX1_fraction, Cond.selects RX1 yX1_fraction yX1_fraction, Cond.code yX1_fraction cX1_fraction 3 (some .long), Cond.fieldLink RX1 21 "Edgefloats$Width" "fractionOnes" "J", Cond.methodLink RX1 86 yX1_appendWhole, Cond.instanceMethod yX1_appendWhole, Cond.selects RX1 yX1_appendWhole yX1_appendWhole, Cond.code yX1_appendWhole cX1_appendWhole 7 none, Cond.constantLong RX1 94 (1000000000), Cond.constant RX1 96 (100000000), Cond.methodLink RX1 90 yJ4_toString_0e30d, Cond.instanceMethod yJ4_toString_0e30d, Cond.selects RJ4 yJ4_toString_0e30d yJ4_toString_0e30d, Cond.code yJ4_toString_0e30d cJ4_toString_0e30d 1 (some (.object "java/lang/String")), Cond.classLink RJ4 18 RJ0, Cond.instantiable RJ0 4, Cond.methodLink RJ4 137 yJ0_init_81219, Cond.instanceMethod yJ0_init_81219, Cond.code yJ0_init_81219 cJ0_init_81219 2 none]
def wsL_wideText_r10 : List Cond := [Cond.methodLink RJ0 489 yJ0_init_db425, Cond.instanceMethod yJ0_init_db425, Cond.code yJ0_init_db425 cJ0_init_db425 5 none, Cond.methodLink RJ0 1 objectInit, Cond.fieldLink RJ0 15 "java/lang/String" "coder" "B", Cond.fieldLink RJ0 9 "java/lang/String" "value" "[B", Cond.fieldLink RJ0 38 "java/lang/String" "COMPACT_STRINGS" "Z", Cond.fieldLink RJ0 1048 "java/lang/AbstractStringBuilder" "maybeLatin1" "Z", Cond.methodLink RJ0 552 ⟨"java/lang/AbstractStringBuilder", "getValue", "()[B"⟩, Cond.sameMethod "java/lang/AbstractStringBuilder" "java/lang/AbstractStringBuilder" "getValue" "()[B", Cond.selects RJ4 ⟨"java/lang/AbstractStringBuilder", "getValue", "()[B"⟩ yJ5_getValue_6d5f1, Cond.instanceMethod yJ5_getValue_6d5f1, Cond.code yJ5_getValue_6d5f1 cJ5_getValue_6d5f1 1 (some (.array .byte)), Cond.methodLink RJ0 549 ⟨"java/lang/AbstractStringBuilder", "length", "()I"⟩, Cond.sameMethod "java/lang/AbstractStringBuilder" "java/lang/AbstractStringBuilder" "length" "()I", Cond.instanceMethod ⟨"java/lang/AbstractStringBuilder", "length", "()I"⟩, Cond.selects RJ4 ⟨"java/lang/AbstractStringBuilder", "length", "()I"⟩ yJ4_length_8abf5, Cond.instanceMethod yJ4_length_8abf5, Cond.code yJ4_length_8abf5 cJ4_length_8abf5 1 (some .int), Cond.methodLink RJ4 343 yJ5_length_8abf5, Cond.instanceMethod yJ5_length_8abf5, Cond.code yJ5_length_8abf5 cJ5_length_8abf5 1 (some .int), Cond.methodLink RJ0 1047 ⟨"java/lang/AbstractStringBuilder", "isLatin1", "()Z"⟩, Cond.methodLink RJ0 54 yJ7_copyOfRange_39247]
def wsL_wideText_r11 : List Cond := [Cond.static yJ7_copyOfRange_39247, Cond.code yJ7_copyOfRange_39247 cJ7_copyOfRange_39247 3 (some (.array .byte)), Cond.methodLink RJ7 339 yJ7_copyOfRangeByte_39247, Cond.static yJ7_copyOfRangeByte_39247, Cond.code yJ7_copyOfRangeByte_39247 cJ7_copyOfRangeByte_39247 5 (some (.array .byte)), Cond.methodLink RJ7 343 yJ7_checkLength_df160, Cond.static yJ7_checkLength_df160, Cond.code yJ7_checkLength_df160 cJ7_checkLength_df160 2 none, Cond.classLink RJ7 45 RJ4, Cond.methodLink RJ0 1051 yJ2_compress_39247, Cond.static yJ2_compress_39247, Cond.code yJ2_compress_39247 cJ2_compress_39247 6 (some (.array .byte)), Cond.methodLink RJ2 123 yJ2_compress_5af95, Cond.static yJ2_compress_5af95, Cond.code yJ2_compress_5af95 cJ2_compress_5af95 7 (some .int), Cond.methodLink RJ2 71 yJ2_getChar_3b067, Cond.static yJ2_getChar_3b067, Cond.code yJ2_getChar_3b067 cJ2_getChar_3b067 2 (some .char), Cond.methodLink RJ2 126 yJ7_copyOfRange_39247, Cond.methodLink RJ0 47 yJ2_coderFromArrayLen_85cad, Cond.static yJ2_coderFromArrayLen_85cad, Cond.code yJ2_coderFromArrayLen_85cad cJ2_coderFromArrayLen_85cad 2 (some .byte)]
def wsL_wideText : List Cond := .codeWith yL_wideText cL_wideText 4 (some .int) [(0, 9, 12, 19)] :: ((wsL_wideText_r1 ++ (wsL_wideText_r2 ++ (wsL_wideText_r3 ++ (wsL_wideText_r4 ++ (wsL_wideText_r5 ++ (wsL_wideText_r6 ++ (wsL_wideText_r7 ++ (wsL_wideText_r8 ++ (wsL_wideText_r9 ++ (wsL_wideText_r10 ++ wsL_wideText_r11)))))))))) ++ wsX30 ++ wsX20 ++ wsX00 ++ wsJ40 ++ wsX10 ++ wsJ00 ++ (vx_atS RX2 152 "java/lang/IndexOutOfBoundsException" ["java/lang/RuntimeException", "java/lang/Exception"]).filter goodWord)
def wsL_narrowText_r1 : List Cond := [Cond.classLink RL 19 "java/lang/IndexOutOfBoundsException", Cond.methodLink RL 135 yX2_narrowText, Cond.instanceMethod yX2_narrowText, Cond.selects RX2 yX2_narrowText yX2_narrowText, Cond.initialized RX2, Cond.code yX2_narrowText cX2_narrowText 2 (some (.object "java/lang/String")), Cond.fieldLink RX2 25 "Edgefloats" "narrow" "LEdgefloats$Row;", Cond.methodLink RX2 71 yX0_text, Cond.instanceMethod yX0_text, Cond.selects RX0 yX0_text yX0_text, Cond.initialized RX0, Cond.code yX0_text cX0_text 2 (some (.object "java/lang/String")), Cond.fieldLink RX0 9 "Edgefloats$Row" "width" "LEdgefloats$Width;", Cond.fieldLink RX0 15 "Edgefloats$Row" "cells" "[J", Cond.static yX2_checkCell, Cond.code yX2_checkCell cX2_checkCell 1 none, Cond.classLink RX2 148 "java/lang/IndexOutOfBoundsException", Cond.initialized "java/lang/IndexOutOfBoundsException", Cond.methodLink RX0 96 yX1_text, Cond.instanceMethod yX1_text, Cond.selects RX1 yX1_text yX1_text, Cond.initialized RX1, Cond.code yX1_text cX1_text 4 (some (.object "java/lang/String")), Cond.classLink RX1 76 RJ4]
def wsL_narrowText_r2 : List Cond := [Cond.instantiable RJ4 4, Cond.initialized RJ4, Cond.methodLink RX1 78 yJ4_init_da8c8, Cond.instanceMethod yJ4_init_da8c8, Cond.code yJ4_init_da8c8 cJ4_init_da8c8 1 none, Cond.methodLink RJ4 1 yJ5_init_d00df, Cond.instanceMethod yJ5_init_d00df, Cond.initialized RJ5, Cond.code yJ5_init_d00df cJ5_init_d00df 2 none, Cond.methodLink RJ5 3 objectInit, Cond.instanceMethod objectInit, Cond.code objectInit ⟨#[0xb1]⟩ 1 none, Cond.fieldLink RJ5 18 "java/lang/String" "COMPACT_STRINGS" "Z", Cond.arrayClass .byte, Cond.fieldLink RJ5 15 "java/lang/AbstractStringBuilder" "value" "[B", Cond.fieldLink RJ5 22 "java/lang/AbstractStringBuilder" "coder" "B", Cond.methodLink RJ5 26 yJ2_newBytesFor_77867, Cond.static yJ2_newBytesFor_77867, Cond.initialized RJ2, Cond.code yJ2_newBytesFor_77867 cJ2_newBytesFor_77867 1 (some (.array .byte)), Cond.methodLink RJ2 11 yJ2_newBytesLength_0f7a4, Cond.static yJ2_newBytesLength_0f7a4, Cond.code yJ2_newBytesLength_0f7a4 cJ2_newBytesLength_0f7a4 1 (some .int), Cond.constant RJ2 20 (1073741823)]
def wsL_narrowText_r3 : List Cond := [Cond.methodLink RX1 60 yX1_hasSign, Cond.instanceMethod yX1_hasSign, Cond.selects RX1 yX1_hasSign yX1_hasSign, Cond.code yX1_hasSign cX1_hasSign 3 (some .boolean), Cond.fieldLink RX1 25 "Edgefloats$Width" "signOne" "J", Cond.methodLink RX1 79 yJ4_append_cf468, Cond.instanceMethod yJ4_append_cf468, Cond.selects RJ4 yJ4_append_cf468 yJ4_append_cf468, Cond.code yJ4_append_cf468 cJ4_append_cf468 2 (some (.object "java/lang/StringBuilder")), Cond.methodLink RJ4 50 yJ5_append_3fe6f, Cond.sameMethod "java/lang/AbstractStringBuilder" "java/lang/AbstractStringBuilder" "append" "(C)Ljava/lang/AbstractStringBuilder;", Cond.superclass RJ4 RJ5, Cond.instanceMethod yJ5_append_3fe6f, Cond.code yJ5_append_3fe6f cJ5_append_3fe6f 2 (some (.object "java/lang/AbstractStringBuilder")), Cond.fieldLink RJ5 79 "java/lang/AbstractStringBuilder" "count" "I", Cond.methodLink RJ5 100 ⟨"java/lang/AbstractStringBuilder", "ensureCapacityInternal", "(I)V"⟩, Cond.sameMethod "java/lang/AbstractStringBuilder" "java/lang/AbstractStringBuilder" "ensureCapacityInternal" "(I)V", Cond.selects RJ4 ⟨"java/lang/AbstractStringBuilder", "ensureCapacityInternal", "(I)V"⟩ yJ5_ensureCapacityInternal_d00df, Cond.instanceMethod yJ5_ensureCapacityInternal_d00df, Cond.code yJ5_ensureCapacityInternal_d00df cJ5_ensureCapacityInternal_d00df 3 none, Cond.methodLink RJ5 104 ⟨"java/lang/AbstractStringBuilder", "newCapacity", "(I)I"⟩, Cond.sameMethod "java/lang/AbstractStringBuilder" "java/lang/AbstractStringBuilder" "newCapacity" "(I)I", Cond.selects RJ4 ⟨"java/lang/AbstractStringBuilder", "newCapacity", "(I)I"⟩ yJ5_newCapacity_0f7a4, Cond.instanceMethod yJ5_newCapacity_0f7a4]
def wsL_narrowText_r4 : List Cond := [Cond.code yJ5_newCapacity_0f7a4 cJ5_newCapacity_0f7a4 6 (some .int), Cond.constant RJ5 39 (2147483647), Cond.methodLink RJ5 114 yJ8_newLength_cabcc, Cond.static yJ8_newLength_cabcc, Cond.initialized RJ8, Cond.code yJ8_newLength_cabcc cJ8_newLength_cabcc 4 (some .int), Cond.methodLink RJ8 194 Lib.Math.max.name, Cond.static Lib.Math.max.name, Cond.initialized "java/lang/Math", Cond.code Lib.Math.max.name Lib.Math.max.code 2 (some .int), Cond.constant RJ8 200 (2147483639), Cond.methodLink RJ8 201 yJ8_hugeLength_7cf53, Cond.static yJ8_hugeLength_7cf53, Cond.code yJ8_hugeLength_7cf53 cJ8_hugeLength_7cf53 3 (some .int), Cond.methodLink RJ5 108 yJ7_copyOf_9075b, Cond.static yJ7_copyOf_9075b, Cond.initialized RJ7, Cond.code yJ7_copyOf_9075b cJ7_copyOf_9075b 3 (some (.array .byte)), Cond.methodLink RJ7 310 ⟨"[B", "clone", "()Ljava/lang/Object;"⟩, Cond.sameMethod "[B" "java/lang/Object" "clone" "()Ljava/lang/Object;", Cond.native ⟨"java/lang/Object", "clone", "()Ljava/lang/Object;"⟩, Cond.instanceMethod ⟨"java/lang/Object", "clone", "()Ljava/lang/Object;"⟩, Cond.selects "[B" ⟨"[B", "clone", "()Ljava/lang/Object;"⟩ ⟨"java/lang/Object", "clone", "()Ljava/lang/Object;"⟩, Cond.classLink RJ7 311 "[B"]
def wsL_narrowText_r5 : List Cond := [Cond.methodLink RJ7 304 Lib.Math.min.name, Cond.static Lib.Math.min.name, Cond.code Lib.Math.min.name Lib.Math.min.code 2 (some .int), Cond.methodLink RJ7 150 arraycopyName, Cond.native arraycopyName, Cond.static arraycopyName, Cond.initialized "java/lang/System", Cond.methodLink RJ5 83 ⟨"java/lang/AbstractStringBuilder", "isLatin1", "()Z"⟩, Cond.sameMethod "java/lang/AbstractStringBuilder" "java/lang/AbstractStringBuilder" "isLatin1" "()Z", Cond.selects RJ4 ⟨"java/lang/AbstractStringBuilder", "isLatin1", "()Z"⟩ yJ5_isLatin1_aae02, Cond.instanceMethod yJ5_isLatin1_aae02, Cond.code yJ5_isLatin1_aae02 cJ5_isLatin1_aae02 1 (some .boolean), Cond.methodLink RJ5 191 yJ1_canEncode_fc78d, Cond.static yJ1_canEncode_fc78d, Cond.initialized RJ1, Cond.code yJ1_canEncode_fc78d cJ1_canEncode_fc78d 1 (some .boolean), Cond.methodLink RJ5 195 ⟨"java/lang/AbstractStringBuilder", "inflate", "()V"⟩, Cond.sameMethod "java/lang/AbstractStringBuilder" "java/lang/AbstractStringBuilder" "inflate" "()V", Cond.selects RJ4 ⟨"java/lang/AbstractStringBuilder", "inflate", "()V"⟩ yJ5_inflate_da8c8, Cond.instanceMethod yJ5_inflate_da8c8, Cond.code yJ5_inflate_da8c8 cJ5_inflate_da8c8 2 none, Cond.methodLink RJ5 125 yJ1_inflate_0e8fd, Cond.static yJ1_inflate_0e8fd, Cond.code yJ1_inflate_0e8fd cJ1_inflate_0e8fd 5 none]
def wsL_narrowText_r6 : List Cond := [Cond.methodLink RJ1 240 yJ2_inflate_0e8fd, Cond.static yJ2_inflate_0e8fd, Cond.code yJ2_inflate_0e8fd cJ2_inflate_0e8fd 6 none, Cond.methodLink RJ2 173 yJ2_checkBoundsOffCount_d044e, Cond.static yJ2_checkBoundsOffCount_d044e, Cond.code yJ2_checkBoundsOffCount_d044e cJ2_checkBoundsOffCount_d044e 3 none, Cond.methodLink RJ2 48 yJ2_length_9d52b, Cond.static yJ2_length_9d52b, Cond.code yJ2_length_9d52b cJ2_length_9d52b 1 (some .int), Cond.methodLink RJ2 419 yJ0_checkBoundsOffCount_cabcc, Cond.static yJ0_checkBoundsOffCount_cabcc, Cond.initialized RJ0, Cond.code yJ0_checkBoundsOffCount_cabcc cJ0_checkBoundsOffCount_cabcc 3 (some .int), Cond.fieldLink RJ0 1053 "jdk/internal/util/Preconditions" "SIOOBE_FORMATTER" "Ljava/util/function/BiFunction;", Cond.methodLink RJ0 1065 yJ3_checkFromIndexSize_8c36e, Cond.static yJ3_checkFromIndexSize_8c36e, Cond.initialized RJ3, Cond.code yJ3_checkFromIndexSize_8c36e cJ3_checkFromIndexSize_8c36e 4 (some .int), Cond.methodLink RJ2 111 yJ2_putChar_b72d1, Cond.static yJ2_putChar_b72d1, Cond.code yJ2_putChar_b72d1 cJ2_putChar_b72d1 3 none, Cond.fieldLink RJ2 44 "java/lang/StringUTF16" "$assertionsDisabled" "Z", Cond.fieldLink RJ2 59 "java/lang/StringUTF16" "HI_BYTE_SHIFT" "I", Cond.fieldLink RJ2 63 "java/lang/StringUTF16" "LO_BYTE_SHIFT" "I"]
def wsL_narrowText_r7 : List Cond := [Cond.methodLink RJ5 197 yJ2_putCharSB_b72d1, Cond.static yJ2_putCharSB_b72d1, Cond.code yJ2_putCharSB_b72d1 cJ2_putCharSB_b72d1 3 none, Cond.methodLink RJ2 67 yJ2_checkIndex_2214a, Cond.static yJ2_checkIndex_2214a, Cond.code yJ2_checkIndex_2214a cJ2_checkIndex_2214a 2 none, Cond.methodLink RJ2 414 yJ0_checkIndex_df160, Cond.static yJ0_checkIndex_df160, Cond.code yJ0_checkIndex_df160 cJ0_checkIndex_df160 2 none, Cond.methodLink RJ0 1059 yJ3_checkIndex_8e157, Cond.static yJ3_checkIndex_8e157, Cond.code yJ3_checkIndex_8e157 cJ3_checkIndex_8e157 3 (some .int), Cond.methodLink RX1 34 yX1_exponent, Cond.instanceMethod yX1_exponent, Cond.selects RX1 yX1_exponent yX1_exponent, Cond.code yX1_exponent cX1_exponent 3 (some .int), Cond.fieldLink RX1 9 "Edgefloats$Width" "fractionDigits" "I", Cond.fieldLink RX1 18 "Edgefloats$Width" "exponentOnes" "I", Cond.methodLink RX1 83 yJ4_append_bf812, Cond.instanceMethod yJ4_append_bf812, Cond.selects RJ4 yJ4_append_bf812 yJ4_append_bf812, Cond.code yJ4_append_bf812 cJ4_append_bf812 2 (some (.object "java/lang/StringBuilder")), Cond.methodLink RJ4 53 yJ5_append_c97b9, Cond.sameMethod "java/lang/AbstractStringBuilder" "java/lang/AbstractStringBuilder" "append" "(I)Ljava/lang/AbstractStringBuilder;"]
def wsL_narrowText_r8 : List Cond := [Cond.instanceMethod yJ5_append_c97b9, Cond.code yJ5_append_c97b9 cJ5_append_c97b9 4 (some (.object "java/lang/AbstractStringBuilder")), Cond.methodLink RJ5 245 yJ6_stringSize_0f7a4, Cond.static yJ6_stringSize_0f7a4, Cond.initialized RJ6, Cond.code yJ6_stringSize_0f7a4 cJ6_stringSize_0f7a4 4 (some .int), Cond.methodLink RJ5 248 yJ6_getChars_ba4f3, Cond.static yJ6_getChars_ba4f3, Cond.code yJ6_getChars_ba4f3 cJ6_getChars_ba4f3 7 (some .int), Cond.fieldLink RJ6 83 "java/lang/Integer" "DigitOnes" "[B", Cond.fieldLink RJ6 87 "java/lang/Integer" "DigitTens" "[B", Cond.methodLink RJ5 251 yJ2_getChars_46870, Cond.static yJ2_getChars_46870, Cond.code yJ2_getChars_46870 cJ2_getChars_46870 5 (some .int), Cond.methodLink RJ2 96 yJ2_checkBoundsBeginEnd_d044e, Cond.static yJ2_checkBoundsBeginEnd_d044e, Cond.code yJ2_checkBoundsBeginEnd_d044e cJ2_checkBoundsBeginEnd_d044e 3 none, Cond.methodLink RJ2 241 yJ0_checkBoundsBeginEnd_23922, Cond.static yJ0_checkBoundsBeginEnd_23922, Cond.code yJ0_checkBoundsBeginEnd_23922 cJ0_checkBoundsBeginEnd_23922 3 none, Cond.methodLink RJ0 1062 yJ3_checkFromToIndex_8c36e, Cond.static yJ3_checkFromToIndex_8c36e, Cond.code yJ3_checkFromToIndex_8c36e cJ3_checkFromToIndex_8c36e 4 (some .int), Cond.methodLink RJ2 393 yJ2_getChars_ba4f3]
def wsL_narrowText_r9 : List Cond := [Cond.static yJ2_getChars_ba4f3, Cond.code yJ2_getChars_ba4f3 cJ2_getChars_ba4f3 7 (some .int), Cond.fieldLink RJ2 403 "java/lang/Integer" "DigitOnes" "[B", Cond.fieldLink RJ2 407 "java/lang/Integer" "DigitTens" "[B", Cond.methodLink RX1 38 yX1_fraction, Cond.instanceMethod yX1_fraction, Cond.selects RX1 yX1_fraction yX1_fraction, Cond.code yX1_fraction cX1_fraction 3 (some .long), Cond.fieldLink RX1 21 "Edgefloats$Width" "fractionOnes" "J", Cond.methodLink RX1 86 yX1_appendWhole, Cond.instanceMethod yX1_appendWhole, Cond.selects RX1 yX1_appendWhole yX1_appendWhole, Cond.code yX1_appendWhole cX1_appendWhole 7 none, Cond.constantLong RX1 94 (1000000000), Cond.constant RX1 96 (100000000), Cond.methodLink RX1 90 yJ4_toString_0e30d, Cond.instanceMethod yJ4_toString_0e30d, Cond.selects RJ4 yJ4_toString_0e30d yJ4_toString_0e30d, Cond.code yJ4_toString_0e30d cJ4_toString_0e30d 1 (some (.object "java/lang/String")), Cond.classLink RJ4 18 RJ0, Cond.instantiable RJ0 4, Cond.methodLink RJ4 137 yJ0_init_81219, Cond.instanceMethod yJ0_init_81219, Cond.code yJ0_init_81219 cJ0_init_81219 2 none]
def wsL_narrowText_r10 : List Cond := [Cond.methodLink RJ0 489 yJ0_init_db425, Cond.instanceMethod yJ0_init_db425, Cond.code yJ0_init_db425 cJ0_init_db425 5 none, Cond.methodLink RJ0 1 objectInit, Cond.fieldLink RJ0 15 "java/lang/String" "coder" "B", Cond.fieldLink RJ0 9 "java/lang/String" "value" "[B", Cond.fieldLink RJ0 38 "java/lang/String" "COMPACT_STRINGS" "Z", Cond.fieldLink RJ0 1048 "java/lang/AbstractStringBuilder" "maybeLatin1" "Z", Cond.methodLink RJ0 552 ⟨"java/lang/AbstractStringBuilder", "getValue", "()[B"⟩, Cond.sameMethod "java/lang/AbstractStringBuilder" "java/lang/AbstractStringBuilder" "getValue" "()[B", Cond.selects RJ4 ⟨"java/lang/AbstractStringBuilder", "getValue", "()[B"⟩ yJ5_getValue_6d5f1, Cond.instanceMethod yJ5_getValue_6d5f1, Cond.code yJ5_getValue_6d5f1 cJ5_getValue_6d5f1 1 (some (.array .byte)), Cond.methodLink RJ0 549 ⟨"java/lang/AbstractStringBuilder", "length", "()I"⟩, Cond.sameMethod "java/lang/AbstractStringBuilder" "java/lang/AbstractStringBuilder" "length" "()I", Cond.instanceMethod ⟨"java/lang/AbstractStringBuilder", "length", "()I"⟩, Cond.selects RJ4 ⟨"java/lang/AbstractStringBuilder", "length", "()I"⟩ yJ4_length_8abf5, Cond.instanceMethod yJ4_length_8abf5, Cond.code yJ4_length_8abf5 cJ4_length_8abf5 1 (some .int), Cond.methodLink RJ4 343 yJ5_length_8abf5, Cond.instanceMethod yJ5_length_8abf5, Cond.code yJ5_length_8abf5 cJ5_length_8abf5 1 (some .int), Cond.methodLink RJ0 1047 ⟨"java/lang/AbstractStringBuilder", "isLatin1", "()Z"⟩, Cond.methodLink RJ0 54 yJ7_copyOfRange_39247]
def wsL_narrowText_r11 : List Cond := [Cond.static yJ7_copyOfRange_39247, Cond.code yJ7_copyOfRange_39247 cJ7_copyOfRange_39247 3 (some (.array .byte)), Cond.methodLink RJ7 339 yJ7_copyOfRangeByte_39247, Cond.static yJ7_copyOfRangeByte_39247, Cond.code yJ7_copyOfRangeByte_39247 cJ7_copyOfRangeByte_39247 5 (some (.array .byte)), Cond.methodLink RJ7 343 yJ7_checkLength_df160, Cond.static yJ7_checkLength_df160, Cond.code yJ7_checkLength_df160 cJ7_checkLength_df160 2 none, Cond.classLink RJ7 45 RJ4, Cond.methodLink RJ0 1051 yJ2_compress_39247, Cond.static yJ2_compress_39247, Cond.code yJ2_compress_39247 cJ2_compress_39247 6 (some (.array .byte)), Cond.methodLink RJ2 123 yJ2_compress_5af95, Cond.static yJ2_compress_5af95, Cond.code yJ2_compress_5af95 cJ2_compress_5af95 7 (some .int), Cond.methodLink RJ2 71 yJ2_getChar_3b067, Cond.static yJ2_getChar_3b067, Cond.code yJ2_getChar_3b067 cJ2_getChar_3b067 2 (some .char), Cond.methodLink RJ2 126 yJ7_copyOfRange_39247, Cond.methodLink RJ0 47 yJ2_coderFromArrayLen_85cad, Cond.static yJ2_coderFromArrayLen_85cad, Cond.code yJ2_coderFromArrayLen_85cad cJ2_coderFromArrayLen_85cad 2 (some .byte)]
def wsL_narrowText : List Cond := .codeWith yL_narrowText cL_narrowText 4 (some .int) [(0, 9, 12, 19)] :: ((wsL_narrowText_r1 ++ (wsL_narrowText_r2 ++ (wsL_narrowText_r3 ++ (wsL_narrowText_r4 ++ (wsL_narrowText_r5 ++ (wsL_narrowText_r6 ++ (wsL_narrowText_r7 ++ (wsL_narrowText_r8 ++ (wsL_narrowText_r9 ++ (wsL_narrowText_r10 ++ wsL_narrowText_r11)))))))))) ++ wsX30 ++ wsX20 ++ wsX00 ++ wsJ40 ++ wsX10 ++ wsJ00 ++ (vx_atS RX2 152 "java/lang/IndexOutOfBoundsException" ["java/lang/RuntimeException", "java/lang/Exception"]).filter goodWord)
/-! the texts -/
theorem jx_of {w : Bool} {d : Int64} (h : okN w d) : (∃ ex, ex ≤ 2047 ∧ o_X1_exponent w d = nI ex ∧ o_X4_exponent w d = lN ex) ∧ ∃ Wn, Wn < 4503599627370496 ∧ o_X1_fraction w d = lN Wn ∧ o_X4_fraction w d = lN Wn := by
  obtain ⟨n, hn, rfl⟩ := mo_of h
  have hP : 0 < bP w ∧ bP w ≤ 4503599627370496 ∧ bQ w ≤ 2048 ∧ 0 < bQ w ∧ bB w = bQ w / 2 * bP w * 1 ∨ True := Or.inr trivial
  refine ⟨⟨n / bP w % bQ w, ?_, mp_ex hn, ?_⟩, ⟨n % bP w, ?_, mp_fr w n, mp_fr4 w n⟩⟩
  · cases w
    · have : n / bP false % bQ false < bQ false := Nat.mod_lt _ (by decide)
      have h2 : bQ false = 256 := rfl
      omega
    · have : n / bP true % bQ true < bQ true := Nat.mod_lt _ (by decide)
      have h2 : bQ true = 2048 := rfl
      omega
  · rw [mp_ex4 hn]
    congr 1
    cases w
    · show n % 2147483648 / 8388608 = n / 8388608 % 256
      omega
    · show n % 9223372036854775808 / 4503599627370496 = n / 4503599627370496 % 2048
      omega
  · cases w
    · have : n % bP false < bP false := Nat.mod_lt _ (by decide)
      have h2 : bP false = 8388608 := rfl
      omega
    · exact Nat.mod_lt _ (by decide)
theorem tS_of {adK adV : Nat → Nat} {A : Nat → Prop} {U : State} {H : Heap} (h : vk_S 3 tLen tByt adK adV A U H) : vk_S 1 [2] [[49, 32]] (fun _ => adK 0) (fun _ => adV 0) A U H ∧ vk_S 1 [2] [[48, 32]] (fun _ => adK 1) (fun _ => adV 1) A U H ∧ vk_S 1 [1] [[32]] (fun _ => adK 2) (fun _ => adV 2) A U H := by
  refine ⟨⟨fun i hi => ?_, fun i j hi hj _ => by omega⟩, ⟨fun i hi => ?_, fun i j hi hj _ => by omega⟩, ⟨fun i hi => ?_, fun i j hi hj _ => by omega⟩⟩
  · obtain rfl : i = 0 := by omega
    exact h.1 0 (by decide)
  · obtain rfl : i = 0 := by omega
    exact h.1 1 (by decide)
  · obtain rfl : i = 0 := by omega
    exact h.1 2 (by decide)
theorem tf_0 : sb_Fit (fun j => ([49, 32] : List Int32).getD j 0) := by
  intro j
  rcases j with _ | _ | j
  · decide
  · decide
  · show fits .byte (.int 0) = true
    decide
theorem tf_1 : sb_Fit (fun j => ([48, 32] : List Int32).getD j 0) := by
  intro j
  rcases j with _ | _ | j
  · decide
  · decide
  · show fits .byte (.int 0) = true
    decide
theorem tf_2 : sb_Fit (fun j => ([32] : List Int32).getD j 0) := by
  intro j
  rcases j with _ | j
  · decide
  · show fits .byte (.int 0) = true
    decide
theorem jt_in {p : Int32} (h : ¬ (o_X5_fails (o_X5_isNo p) false).1 = true) : vp_in p 8 := by
  rcases me_cell p with ⟨_, _, h3⟩ | ⟨_, h2⟩
  · exact h3
  · rw [h2] at h
    exact absurd rfl h
section VXR
variable {p : Program} {l : Launch} {e : Env} {R : Room} {s : State} {m : MethodId} {args : Array Value} {below : List Frame} {meth : Method} {c : Code} {H H0 : Heap} {locs : List Loc} {cells slots mc ms pc : Nat} {ls : Array Slot} {st0 rest : List Value} {a : Array Value} {A0 A1 free : Nat → Prop} {Q : State → Prop}
theorem vx_callr {S SX : Type} {post : S → Prop} {px : SX → Prop} {B : S → Nat → State → Prop} {BX : String → SX → State → Prop} {AX : Nat → Prop} (hr : vx_Run p l e R s m args below meth c H locs cells slots mc ms (F0 m pc ls st0) rest (va_Qr post B A1 a) (vx_X px BX AX) free) (hS : va_S A0 H0 H locs) (hA : ∀ q, q < H.size → A1 q → A0 q) (hf : ∀ q, free q → A0 q) (hAX : ∀ q, q < H.size → AX q → A0 q)
    (kx : ∀ (E : String) (ce : Cell) (q9 : Addr) (u : SX) (t : State) (H1 : Heap) (locs1 : List Loc), t.heap = H1 → s.vm.Alike t.vm → px u → BX E u t → H.size ≤ H1.size → (∀ q : Nat, q < H.size → ¬ AX q → H1[q]? = H[q]?) → va_S A0 H0 H1 locs1 → H1[q9]? = some ce → ce.vm = .none → s.vm.findClass E = some ce.cls → vx_W p l e R s m args below meth c H1 locs1 (cells + mc) (slots + ms) Q (F0 m pc ls rest) q9)
    (kk : ∀ (u : S) (ra : Nat) (t : State) (H1 : Heap) (locs1 : List Loc), t.heap = H1 → s.vm.Alike t.vm → post u → B u ra t → H.size ≤ H1.size → (∀ q : Nat, q < H.size → ¬ A1 q → H1[q]? = H[q]?) → va_S A0 H0 H1 locs1 → W p l e R s m args below meth c H1 locs1 (cells + mc) (slots + ms) Q (F0 m (pc + 3) ls (.ref ra :: rest))) : W p l e R s m args below meth c H locs cells slots Q (F0 m pc ls st0) := by
  intro T hT X
  rcases hr T hT X with ⟨v, st₀, t, T', L, h0, X', hL, e1, e2, ⟨⟨u, ra, hv, hp, hb⟩, hF⟩, st⟩ | ⟨q, st₀, t, T', L, E, ce, h0, X', hL, e1, e2, ⟨u, hp, hb, hF⟩, hce, hcv, hcl, st⟩
  · cases hv
    obtain ⟨k1, k2, k3⟩ := vx_keep h0 e1 hS hA hf hL hF
    obtain ⟨t2, a1, b1⟩ := kk u ra t T'.heap (locs ++ L) e1.symm (by rw [← e2]; exact X'.warmed.alike) hp hb k1 k2 k3 T' rfl X'
    exact ⟨t2, st t2 a1, b1⟩
  · obtain ⟨k1, k2, k3⟩ := vx_keep h0 e1 hS hAX hf hL hF
    obtain ⟨t2, a1, b1⟩ := kx E ce q u t T'.heap (locs ++ L) e1.symm (by rw [← e2]; exact X'.warmed.alike) hp hb k1 k2 k3 (by rw [e1]; exact hce) hcv hcl T' rfl X'
    exact ⟨t2, st.trans a1, b1⟩
end VXR

set_option maxRecDepth 20000 in
theorem ggX1_appendWhole_J4_append_bf812 : GoodIn wsX1_appendWhole wsJ4_append_bf812 := goodIn_r _ [7, 8, 9, 10, 11, 12, 13, 14, 15, 16, 17, 18, 19, 20, 21, 22, 23, 24, 25, 26, 27, 28, 29, 30, 31, 32, 33, 34, 35, 36, 37, 38, 39, 40, 41, 42, 43, 44, 45, 46, 47, 48, 49, 50, 51, 52, 53, 54, 55, 56, 57, 58, 59, 60, 61, 62, 63, 64, 65, 66, 67, 68, 69, 70, 71, 72, 73, 74, 75, 76, 77, 78, 79, 80, 81, 82, 83, 84, 85, 86, 87, 88, 89, 90, 91, 92, 93, 94, 95, 96, 97, 98, 99, 100, 101, 102, 154, 155, 156, 157] (by decide +kernel) (by decide +kernel)
set_option maxRecDepth 20000 in
theorem gX1_appendWhole_J4_append_bf812 : GoodIn wsX1_appendWhole (wsV RX1 83 RJ4 yJ4_append_bf812 wsJ4_append_bf812) := goodIn_app (goodIn_of _ (by decide +kernel)) ggX1_appendWhole_J4_append_bf812
set_option maxRecDepth 20000 in
theorem ggX1_appendWhole_J4_append_cf468 : GoodIn wsX1_appendWhole wsJ4_append_cf468 := goodIn_r _ [106, 107, 108, 10, 109, 12, 110, 14, 15, 20, 21, 22, 23, 24, 25, 26, 27, 28, 29, 30, 31, 32, 33, 34, 35, 36, 37, 38, 39, 40, 41, 42, 43, 44, 45, 46, 47, 48, 49, 50, 51, 52, 53, 54, 55, 56, 57, 58, 59, 60, 61, 62, 63, 64, 65, 66, 67, 111, 112, 113, 114, 115, 116, 117, 118, 119, 120, 121, 75, 122, 123, 124, 125, 126, 127, 128, 129, 130, 131, 132, 133, 134, 135, 81, 82, 83, 136, 137, 86, 138, 88, 139, 140, 91, 141, 98, 99, 100, 77, 101, 102, 142, 143, 144, 145, 146, 147, 148, 149, 150, 151, 152, 153, 154, 155, 156, 157] (by decide +kernel) (by decide +kernel)
set_option maxRecDepth 20000 in
theorem gX1_appendWhole_J4_append_cf468 : GoodIn wsX1_appendWhole (wsV RX1 79 RJ4 yJ4_append_cf468 wsJ4_append_cf468) := goodIn_app (goodIn_of _ (by decide +kernel)) ggX1_appendWhole_J4_append_cf468
theorem dX1_appendWhole_0 : decode cX1_appendWhole 0 = .ok (.lload_n 2, 1) := by decide +kernel
theorem dX1_appendWhole_1 : decode cX1_appendWhole 1 = .ok (.ldc2_w 94, 3) := by decide +kernel
theorem dX1_appendWhole_4 : decode cX1_appendWhole 4 = .ok (.ldiv, 1) := by decide +kernel
theorem dX1_appendWhole_5 : decode cX1_appendWhole 5 = .ok (.l2i, 1) := by decide +kernel
theorem dX1_appendWhole_6 : decode cX1_appendWhole 6 = .ok (.istore 4, 2) := by decide +kernel
theorem dX1_appendWhole_8 : decode cX1_appendWhole 8 = .ok (.lload_n 2, 1) := by decide +kernel
theorem dX1_appendWhole_9 : decode cX1_appendWhole 9 = .ok (.ldc2_w 94, 3) := by decide +kernel
theorem dX1_appendWhole_12 : decode cX1_appendWhole 12 = .ok (.lrem, 1) := by decide +kernel
theorem dX1_appendWhole_13 : decode cX1_appendWhole 13 = .ok (.l2i, 1) := by decide +kernel
theorem dX1_appendWhole_14 : decode cX1_appendWhole 14 = .ok (.istore 5, 2) := by decide +kernel
theorem dX1_appendWhole_16 : decode cX1_appendWhole 16 = .ok (.iload 4, 2) := by decide +kernel
theorem dX1_appendWhole_18 : decode cX1_appendWhole 18 = .ok (.ifCond .ne 11, 3) := by decide +kernel
theorem dX1_appendWhole_21 : decode cX1_appendWhole 21 = .ok (.aload_n 1, 1) := by decide +kernel
theorem dX1_appendWhole_22 : decode cX1_appendWhole 22 = .ok (.iload 5, 2) := by decide +kernel
theorem dX1_appendWhole_24 : decode cX1_appendWhole 24 = .ok (.invokevirtual 83, 3) := by decide +kernel
theorem dX1_appendWhole_27 : decode cX1_appendWhole 27 = .ok (.pop, 1) := by decide +kernel
theorem dX1_appendWhole_28 : decode cX1_appendWhole 28 = .ok (.return_, 1) := by decide +kernel
theorem dX1_appendWhole_29 : decode cX1_appendWhole 29 = .ok (.aload_n 1, 1) := by decide +kernel
theorem dX1_appendWhole_30 : decode cX1_appendWhole 30 = .ok (.iload 4, 2) := by decide +kernel
theorem dX1_appendWhole_32 : decode cX1_appendWhole 32 = .ok (.invokevirtual 83, 3) := by decide +kernel
theorem dX1_appendWhole_35 : decode cX1_appendWhole 35 = .ok (.pop, 1) := by decide +kernel
theorem dX1_appendWhole_36 : decode cX1_appendWhole 36 = .ok (.ldc 96, 2) := by decide +kernel
theorem dX1_appendWhole_38 : decode cX1_appendWhole 38 = .ok (.istore 6, 2) := by decide +kernel
theorem dX1_appendWhole_40 : decode cX1_appendWhole 40 = .ok (.iload 6, 2) := by decide +kernel
theorem dX1_appendWhole_42 : decode cX1_appendWhole 42 = .ok (.ifCond .le 30, 3) := by decide +kernel
theorem dX1_appendWhole_45 : decode cX1_appendWhole 45 = .ok (.aload_n 1, 1) := by decide +kernel
theorem dX1_appendWhole_46 : decode cX1_appendWhole 46 = .ok (.bipush 48, 2) := by decide +kernel
theorem dX1_appendWhole_48 : decode cX1_appendWhole 48 = .ok (.iload 5, 2) := by decide +kernel
theorem dX1_appendWhole_50 : decode cX1_appendWhole 50 = .ok (.iload 6, 2) := by decide +kernel
theorem dX1_appendWhole_52 : decode cX1_appendWhole 52 = .ok (.idiv, 1) := by decide +kernel
theorem dX1_appendWhole_53 : decode cX1_appendWhole 53 = .ok (.bipush 10, 2) := by decide +kernel
theorem dX1_appendWhole_55 : decode cX1_appendWhole 55 = .ok (.irem, 1) := by decide +kernel
theorem dX1_appendWhole_56 : decode cX1_appendWhole 56 = .ok (.iadd, 1) := by decide +kernel
theorem dX1_appendWhole_57 : decode cX1_appendWhole 57 = .ok (.i2c, 1) := by decide +kernel
theorem dX1_appendWhole_58 : decode cX1_appendWhole 58 = .ok (.invokevirtual 79, 3) := by decide +kernel
theorem dX1_appendWhole_61 : decode cX1_appendWhole 61 = .ok (.pop, 1) := by decide +kernel
theorem dX1_appendWhole_62 : decode cX1_appendWhole 62 = .ok (.iload 6, 2) := by decide +kernel
theorem dX1_appendWhole_64 : decode cX1_appendWhole 64 = .ok (.bipush 10, 2) := by decide +kernel
theorem dX1_appendWhole_66 : decode cX1_appendWhole 66 = .ok (.idiv, 1) := by decide +kernel
theorem dX1_appendWhole_67 : decode cX1_appendWhole 67 = .ok (.istore 6, 2) := by decide +kernel
theorem dX1_appendWhole_69 : decode cX1_appendWhole 69 = .ok (.goto (-29), 3) := by decide +kernel
theorem dX1_appendWhole_72 : decode cX1_appendWhole 72 = .ok (.return_, 1) := by decide +kernel
set_option maxHeartbeats 4000000 in
set_option maxRecDepth 100000 in
theorem k_X1_appendWhole (l : Launch) (dC : Nat → ClassId) (dI : Nat → Nat → Nat) (cB : ClassId) (h0 : Nat) (wd : Bool) (h : Nat) (v : Nat) (n : Nat) (mm : Nat) (f : Nat → Int32) (Wn : Nat) (sz N : Nat) (hm : mm = 16 ∨ mm = 34) (hf : sb_Fit f) (hn : n ≤ 18) (hW : Wn < 4503599627370496) : Met l yX1_appendWhole wsX1_appendWhole ({ frames := 6, cells := 10, slots := 340, locals := 188 }) (va_Pc [.ref h0, .ref h, .long (lN Wn)] (xT (dC, dI) xCl [(h0, eW wd), (h, eB v (nI n)), (v, eY cB mm f)] [(cB, .byte)] sz N)) (va_Qv (fun (u : Nat × Nat × Nat × (Nat → Int32)) => (u.2.2.1 = 16 ∨ u.2.2.1 = 34) ∧ u.1 ≤ u.2.2.1 ∧ sb_Fit u.2.2.2) (fun (u : Nat × Nat × Nat × (Nat → Int32)) t => xW (dC, dI) xCl [(h0, eW wd), (h, eB u.2.1 (nI u.1)), (u.2.1, eY cB u.2.2.1 u.2.2.2)] (va_A [(h0, eW wd), (h, eB v (nI n)), (v, eY cB mm f)] sz) t) (va_A [(h0, eW wd), (h, eB v (nI n)), (v, eY cB mm f)] sz)) 10 340 (va_A [(h0, eW wd), (h, eB v (nI n)), (v, eY cB mm f)] sz) := by
  refine Met.ofW (cc := cX1_appendWhole) (maxL := 7) (ret := none) (by decide +kernel) rfl ?_
  intro p e s m args below meth c s₁ B hml hv
  obtain ⟨rfl, ⟨hsz, hP, hK, hD0, hN, hG⟩, hT⟩ := hv
  have hx := B.exec
  have hb := B.bytes
  have hr := B.returns
  have hts := atoms_spec (ws := wsX1_appendWhole) B.pre
  have hown : s.vm.findClass RX1 = some m.cls := findClass_of_methodNamed B.named
  have hlocks := B.notSynchronized
  subst hsz
  have hAN : ∀ q, va_A [(h0, eW wd), (h, eB v (nI n)), (v, eY cB mm f)] s.heap.size q → N ≤ q := xA_N hD0 hN
  have hD := hD0.self (sz := s.heap.size)
  generalize hAe : va_A [(h0, eW wd), (h, eB v (nI n)), (v, eY cB mm f)] s.heap.size = A at hD hAN ⊢
  have hA : ∀ q : Nat, s.heap.size ≤ q → A q := fun q h => by rw [← hAe]; exact Or.inr h
  have hS : va_S A s.heap s.heap [] := va_S.rf
  have hP : va_P (dC, dI) xCl [(h0, eW wd), (h, eB v (nI n)), (v, eY cB mm f)] s.heap := hP
  obtain ⟨hTc, ⟨tO, tT, fO, fT, hTo, hTt, hTa, hTb, hTf, hTg⟩, ⟨adK, adV, hTs, hTr0, hTr1, hTr2⟩, ⟨aE, hTe⟩, hTn⟩ := id hT
  have hl := lv_entry ([.ref h0, .ref h, .long (lN Wn)]) (n := 7) (Nat.le_of_ble_eq_true rfl)
  rw [lg_entry_eq]
  generalize (lg_sl ([.ref h0, .ref h, .long (lN Wn)]) ++ List.replicate (7 - (lg_sl ([.ref h0, .ref h, .long (lN Wn)])).length) Slot.unset).toArray = ls at hl ⊢
  have hl : lv_has ls 7 [(0, .ref h0), (1, .ref h), (2, .long (lN Wn))] := hl
  have hd7 := dg_le7 (w := Wn / 1000000000) (by omega)
  have hd9 := dg_le9 (w := Wn % 1000000000) (by omega)
  refine lv_lload_n hx hb dX1_appendWhole_0 rfl (lv_at hl 2 rfl) ?_
  refine lv_ldc2 (own := RX1) (index := 94) (v := 1000000000) hx hb hown (hts (.constantLong RX1 94 (1000000000)) (by decide +kernel)) dX1_appendWhole_1 ?_
  refine lv_ldiv hx hb dX1_appendWhole_4 (by decide) ?_
  rw [show (((lN Wn) / 1000000000) : Int64) = (lN (Wn / 1000000000)) from jl_div (a := Wn) (d := 1000000000) (by omega) (by decide) (by decide)]
  refine lv_l2i (v := ((lN (Wn / 1000000000)).toInt32)) hx hb dX1_appendWhole_5 rfl ?_
  rw [show (((lN (Wn / 1000000000)).toInt32) : Int32) = (nI (Wn / 1000000000)) from lN_i _]
  refine lv_istore (lv' := [(4, .int (nI (Wn / 1000000000))), (0, .ref h0), (1, .ref h), (2, .long (lN Wn))]) hx hb dX1_appendWhole_6 hl (by decide) rfl (fun ls hl => ?_)
  refine lv_lload_n hx hb dX1_appendWhole_8 rfl (lv_at hl 3 rfl) ?_
  refine lv_ldc2 (own := RX1) (index := 94) (v := 1000000000) hx hb hown (hts (.constantLong RX1 94 (1000000000)) (by decide +kernel)) dX1_appendWhole_9 ?_
  refine lv_lrem hx hb dX1_appendWhole_12 (by decide) ?_
  rw [show (((lN Wn) - (lN Wn) / 1000000000 * 1000000000) : Int64) = (lN (Wn % 1000000000)) from jl_rem (a := Wn) (d := 1000000000) (by omega) (by decide) (by decide)]
  refine lv_l2i (v := ((lN (Wn % 1000000000)).toInt32)) hx hb dX1_appendWhole_13 rfl ?_
  rw [show (((lN (Wn % 1000000000)).toInt32) : Int32) = (nI (Wn % 1000000000)) from lN_i _]
  refine lv_istore (lv' := [(5, .int (nI (Wn % 1000000000))), (4, .int (nI (Wn / 1000000000))), (0, .ref h0), (1, .ref h), (2, .long (lN Wn))]) hx hb dX1_appendWhole_14 hl (by decide) rfl (fun ls hl => ?_)
  refine lv_iload hx hb dX1_appendWhole_16 (lv_at hl 1 rfl) ?_
  refine lv_if_ne (tgt := 29) hx hb dX1_appendWhole_18 (by decide) (fun c_1 => ?_) (fun c_1 => ?_)
  · skip
    refine lv_aload_n hx hb dX1_appendWhole_29 rfl (lv_at hl 3 rfl) ?_
    refine lv_iload hx hb dX1_appendWhole_30 (lv_at hl 1 rfl) ?_
    have hPc := hP.sub (ws' := [(h, eB v (nI n)), (v, eY cB mm f)]) [1, 2] rfl
    have hDc := hD.sub (ws' := [(h, eB v (nI n)), (v, eY cB mm f)]) [1, 2] (by decide) rfl
    have hKc := hK.sub (tys' := [(cB, .byte)]) [0] rfl
    have hFc := va_free (wc := [(h, eB v (nI n)), (v, eY cB mm f)]) hD hS hA [1, 2] rfl
    refine va_callr (va_runV (As := [.int (nI (Wn / 1000000000))]) (rest := []) ⟨hx, hb, hml, hown, hts⟩ (k_J4_append_bf812 l dC dI cB h v n mm f (Wn / 1000000000) s.heap.size N hm hf (by omega) (by omega)) (cwV 1 hts gX1_appendWhole_J4_append_bf812 rfl rfl rfl (by decide +kernel) ⟨Nat.le_of_ble_eq_true rfl, Nat.le_of_ble_eq_true rfl⟩) (xT.preV hKc hPc hDc hAN (Nat.le_trans hN hS.1) (hG.kept hS hAN) (hT.kept hS hAN) (ci := 1) (q0 := 0) rfl rfl) rfl rfl hl.1 rfl (lv_room (Nat.le_of_ble_eq_true rfl)) dX1_appendWhole_32 ⟨(show _ ≤ 10 by omega), (show _ ≤ 340 by omega)⟩) hS (fun q _ h => hFc q h) hFc (fun u_6 r_5 t H locs ht hvm hw hB hz hk hS => ?_)
    obtain ⟨he_r_5, hP1, hD1⟩ := hB
    rw [ht] at hP1
    obtain ⟨v2_2, m2_3, f2_4⟩ := u_6
    obtain ⟨hP, hD⟩ := va_join (wr := [(h0, eW wd)]) (w1 := [(h, eB v2_2 (nI (n + sb_dg (Wn / 1000000000)))), (v2_2, eY cB m2_3 f2_4)]) hP hD [1, 2] [0] rfl rfl (by decide) (by decide) hk hFc hP1 hD1
    have hP : va_P (dC, dI) xCl [(h0, eW wd), (h, eB v2_2 (nI (n + sb_dg (Wn / 1000000000)))), (v2_2, eY cB m2_3 f2_4)] H := hP
    have hD : va_D A [(h0, eW wd), (h, eB v2_2 (nI (n + sb_dg (Wn / 1000000000)))), (v2_2, eY cB m2_3 f2_4)] := hD
    obtain ⟨hm_m2_3, hq_m2_3, hf_m2_3⟩ : (m2_3 = 16 ∨ m2_3 = 34) ∧ n + sb_dg (Wn / 1000000000) ≤ m2_3 ∧ sb_Fit f2_4 := hw
    rw [he_r_5]
    refine lv_pop hx hb dX1_appendWhole_35 rfl ?_
    refine lv_ldc (own := RX1) (index := 96) (v := 100000000) hx hb hown (hts (.constant RX1 96 (100000000)) (by decide +kernel)) dX1_appendWhole_36 ?_
    refine lv_istore (lv' := [(6, .int 100000000), (5, .int (nI (Wn % 1000000000))), (4, .int (nI (Wn / 1000000000))), (0, .ref h0), (1, .ref h), (2, .long (lN Wn))]) hx hb dX1_appendWhole_38 hl (by decide) rfl (fun ls hl => ?_)
    refine lv_iload hx hb dX1_appendWhole_40 (lv_at hl 0 rfl) ?_
    refine lv_if_le (tgt := 72) hx hb dX1_appendWhole_42 (by decide) (fun c9 => absurd c9 (by decide)) (fun _ => ?_)
    refine lv_aload_n hx hb dX1_appendWhole_45 rfl (lv_at hl 4 rfl) ?_
    refine lv_bipush (v := 48) hx hb dX1_appendWhole_46 (by decide) ?_
    refine lv_iload hx hb dX1_appendWhole_48 (lv_at hl 1 rfl) ?_
    refine lv_iload hx hb dX1_appendWhole_50 (lv_at hl 0 rfl) ?_
    refine lv_idiv hx hb dX1_appendWhole_52 (by decide) ?_
    rw [show (((nI (Wn % 1000000000)) / 100000000) : Int32) = (nI (Wn % 1000000000 / 100000000)) from (show nI (Wn % 1000000000) / nI 100000000 = _ from pk_div (a := Wn % 1000000000) (d := 100000000) (by omega) (by decide) (by decide))]
    refine lv_bipush (v := 10) hx hb dX1_appendWhole_53 (by decide) ?_
    refine lv_irem hx hb dX1_appendWhole_55 (by decide) ?_
    rw [show (((nI (Wn % 1000000000 / 100000000)) - (nI (Wn % 1000000000 / 100000000)) / 10 * 10) : Int32) = (nI (Wn % 1000000000 / 100000000 % 10)) from (show nI (Wn % 1000000000 / 100000000) - nI (Wn % 1000000000 / 100000000) / nI 10 * nI 10 = _ from pk_rem (a := Wn % 1000000000 / 100000000) (d := 10) (by omega) (by decide) (by decide))]
    refine lv_iadd hx hb dX1_appendWhole_56 ?_
    rw [show ((48 + (nI (Wn % 1000000000 / 100000000 % 10))) : Int32) = (nI (48 + Wn % 1000000000 / 100000000 % 10)) from (show nI 48 + nI (Wn % 1000000000 / 100000000 % 10) = _ from nI_add 48 _)]
    refine lv_i2c (v := (nI (48 + Wn % 1000000000 / 100000000 % 10))) hx hb dX1_appendWhole_57 (jl_chr (by omega)) ?_
    have hPc := hP.sub (ws' := [(h, eB v2_2 (nI (n + sb_dg (Wn / 1000000000)))), (v2_2, eY cB m2_3 f2_4)]) [1, 2] rfl
    have hDc := hD.sub (ws' := [(h, eB v2_2 (nI (n + sb_dg (Wn / 1000000000)))), (v2_2, eY cB m2_3 f2_4)]) [1, 2] (by decide) rfl
    have hKc := hK.sub (tys' := [(cB, .byte)]) [0] rfl
    have hFc := va_free (wc := [(h, eB v2_2 (nI (n + sb_dg (Wn / 1000000000)))), (v2_2, eY cB m2_3 f2_4)]) hD hS hA [1, 2] rfl
    refine va_callr (va_runV (As := [.int (nI (48 + Wn % 1000000000 / 100000000 % 10))]) (rest := []) ⟨hx, hb, hml, hown, hts⟩ (k_J4_append_cf468 l dC dI cB h v2_2 (n + sb_dg (Wn / 1000000000)) m2_3 f2_4 (48 + Wn % 1000000000 / 100000000 % 10) H.size N hm_m2_3 hf_m2_3 (by omega) (by omega)) (cwV 1 hts gX1_appendWhole_J4_append_cf468 rfl rfl rfl (by decide +kernel) ⟨Nat.le_of_ble_eq_true rfl, Nat.le_of_ble_eq_true rfl⟩) (xT.preV hKc hPc hDc hAN (Nat.le_trans hN hS.1) (hG.kept hS hAN) (hT.kept hS hAN) (ci := 1) (q0 := 0) rfl rfl) rfl rfl hl.1 rfl (lv_room (Nat.le_of_ble_eq_true rfl)) dX1_appendWhole_58 ⟨(show _ ≤ 10 by omega), (show _ ≤ 340 by omega)⟩) hS (fun q _ h => hFc q h) hFc (fun u_11 r_10 t H locs ht hvm hw hB hz hk hS => ?_)
    obtain ⟨he_r_10, hP1, hD1⟩ := hB
    rw [ht] at hP1
    obtain ⟨v2_7, m2_8, f2_9⟩ := u_11
    obtain ⟨hP, hD⟩ := va_join (wr := [(h0, eW wd)]) (w1 := [(h, eB v2_7 (nI ((n + sb_dg (Wn / 1000000000)) + 1))), (v2_7, eY cB m2_8 f2_9)]) hP hD [1, 2] [0] rfl rfl (by decide) (by decide) hk hFc hP1 hD1
    have hP : va_P (dC, dI) xCl [(h0, eW wd), (h, eB v2_7 (nI ((n + sb_dg (Wn / 1000000000)) + 1))), (v2_7, eY cB m2_8 f2_9)] H := hP
    have hD : va_D A [(h0, eW wd), (h, eB v2_7 (nI ((n + sb_dg (Wn / 1000000000)) + 1))), (v2_7, eY cB m2_8 f2_9)] := hD
    obtain ⟨hm_m2_8, hq_m2_8, hf_m2_8⟩ : (m2_8 = 16 ∨ m2_8 = 34) ∧ (n + sb_dg (Wn / 1000000000)) + 1 ≤ m2_8 ∧ sb_Fit f2_9 := hw
    rw [he_r_10]
    refine lv_pop hx hb dX1_appendWhole_61 rfl ?_
    refine lv_iload hx hb dX1_appendWhole_62 (lv_at hl 0 rfl) ?_
    refine lv_bipush (v := 10) hx hb dX1_appendWhole_64 (by decide) ?_
    refine lv_idiv hx hb dX1_appendWhole_66 (by decide) ?_
    rw [show ((100000000 : Int32) / 10) = 10000000 from by decide]
    refine lv_istore (lv' := [(6, .int 10000000), (5, .int (nI (Wn % 1000000000))), (4, .int (nI (Wn / 1000000000))), (0, .ref h0), (1, .ref h), (2, .long (lN Wn))]) hx hb dX1_appendWhole_67 hl (by decide) rfl (fun ls hl => ?_)
    refine lv_goto (tgt := 40) hx hb dX1_appendWhole_69 (by decide) ?_
    refine lv_iload hx hb dX1_appendWhole_40 (lv_at hl 0 rfl) ?_
    refine lv_if_le (tgt := 72) hx hb dX1_appendWhole_42 (by decide) (fun c9 => absurd c9 (by decide)) (fun _ => ?_)
    refine lv_aload_n hx hb dX1_appendWhole_45 rfl (lv_at hl 4 rfl) ?_
    refine lv_bipush (v := 48) hx hb dX1_appendWhole_46 (by decide) ?_
    refine lv_iload hx hb dX1_appendWhole_48 (lv_at hl 1 rfl) ?_
    refine lv_iload hx hb dX1_appendWhole_50 (lv_at hl 0 rfl) ?_
    refine lv_idiv hx hb dX1_appendWhole_52 (by decide) ?_
    rw [show (((nI (Wn % 1000000000)) / 10000000) : Int32) = (nI (Wn % 1000000000 / 10000000)) from (show nI (Wn % 1000000000) / nI 10000000 = _ from pk_div (a := Wn % 1000000000) (d := 10000000) (by omega) (by decide) (by decide))]
    refine lv_bipush (v := 10) hx hb dX1_appendWhole_53 (by decide) ?_
    refine lv_irem hx hb dX1_appendWhole_55 (by decide) ?_
    rw [show (((nI (Wn % 1000000000 / 10000000)) - (nI (Wn % 1000000000 / 10000000)) / 10 * 10) : Int32) = (nI (Wn % 1000000000 / 10000000 % 10)) from (show nI (Wn % 1000000000 / 10000000) - nI (Wn % 1000000000 / 10000000) / nI 10 * nI 10 = _ from pk_rem (a := Wn % 1000000000 / 10000000) (d := 10) (by omega) (by decide) (by decide))]
    refine lv_iadd hx hb dX1_appendWhole_56 ?_
    rw [show ((48 + (nI (Wn % 1000000000 / 10000000 % 10))) : Int32) = (nI (48 + Wn % 1000000000 / 10000000 % 10)) from (show nI 48 + nI (Wn % 1000000000 / 10000000 % 10) = _ from nI_add 48 _)]
    refine lv_i2c (v := (nI (48 + Wn % 1000000000 / 10000000 % 10))) hx hb dX1_appendWhole_57 (jl_chr (by omega)) ?_
    have hPc := hP.sub (ws' := [(h, eB v2_7 (nI ((n + sb_dg (Wn / 1000000000)) + 1))), (v2_7, eY cB m2_8 f2_9)]) [1, 2] rfl
    have hDc := hD.sub (ws' := [(h, eB v2_7 (nI ((n + sb_dg (Wn / 1000000000)) + 1))), (v2_7, eY cB m2_8 f2_9)]) [1, 2] (by decide) rfl
    have hKc := hK.sub (tys' := [(cB, .byte)]) [0] rfl
    have hFc := va_free (wc := [(h, eB v2_7 (nI ((n + sb_dg (Wn / 1000000000)) + 1))), (v2_7, eY cB m2_8 f2_9)]) hD hS hA [1, 2] rfl
    refine va_callr (va_runV (As := [.int (nI (48 + Wn % 1000000000 / 10000000 % 10))]) (rest := []) ⟨hx, hb, hml, hown, hts⟩ (k_J4_append_cf468 l dC dI cB h v2_7 ((n + sb_dg (Wn / 1000000000)) + 1) m2_8 f2_9 (48 + Wn % 1000000000 / 10000000 % 10) H.size N hm_m2_8 hf_m2_8 (by omega) (by omega)) (cwV 1 hts gX1_appendWhole_J4_append_cf468 rfl rfl rfl (by decide +kernel) ⟨Nat.le_of_ble_eq_true rfl, Nat.le_of_ble_eq_true rfl⟩) (xT.preV hKc hPc hDc hAN (Nat.le_trans hN hS.1) (hG.kept hS hAN) (hT.kept hS hAN) (ci := 1) (q0 := 0) rfl rfl) rfl rfl hl.1 rfl (lv_room (Nat.le_of_ble_eq_true rfl)) dX1_appendWhole_58 ⟨(show _ ≤ 10 by omega), (show _ ≤ 340 by omega)⟩) hS (fun q _ h => hFc q h) hFc (fun u_16 r_15 t H locs ht hvm hw hB hz hk hS => ?_)
    obtain ⟨he_r_15, hP1, hD1⟩ := hB
    rw [ht] at hP1
    obtain ⟨v2_12, m2_13, f2_14⟩ := u_16
    obtain ⟨hP, hD⟩ := va_join (wr := [(h0, eW wd)]) (w1 := [(h, eB v2_12 (nI (((n + sb_dg (Wn / 1000000000)) + 1) + 1))), (v2_12, eY cB m2_13 f2_14)]) hP hD [1, 2] [0] rfl rfl (by decide) (by decide) hk hFc hP1 hD1
    have hP : va_P (dC, dI) xCl [(h0, eW wd), (h, eB v2_12 (nI (((n + sb_dg (Wn / 1000000000)) + 1) + 1))), (v2_12, eY cB m2_13 f2_14)] H := hP
    have hD : va_D A [(h0, eW wd), (h, eB v2_12 (nI (((n + sb_dg (Wn / 1000000000)) + 1) + 1))), (v2_12, eY cB m2_13 f2_14)] := hD
    obtain ⟨hm_m2_13, hq_m2_13, hf_m2_13⟩ : (m2_13 = 16 ∨ m2_13 = 34) ∧ ((n + sb_dg (Wn / 1000000000)) + 1) + 1 ≤ m2_13 ∧ sb_Fit f2_14 := hw
    rw [he_r_15]
    refine lv_pop hx hb dX1_appendWhole_61 rfl ?_
    refine lv_iload hx hb dX1_appendWhole_62 (lv_at hl 0 rfl) ?_
    refine lv_bipush (v := 10) hx hb dX1_appendWhole_64 (by decide) ?_
    refine lv_idiv hx hb dX1_appendWhole_66 (by decide) ?_
    rw [show ((10000000 : Int32) / 10) = 1000000 from by decide]
    refine lv_istore (lv' := [(6, .int 1000000), (5, .int (nI (Wn % 1000000000))), (4, .int (nI (Wn / 1000000000))), (0, .ref h0), (1, .ref h), (2, .long (lN Wn))]) hx hb dX1_appendWhole_67 hl (by decide) rfl (fun ls hl => ?_)
    refine lv_goto (tgt := 40) hx hb dX1_appendWhole_69 (by decide) ?_
    refine lv_iload hx hb dX1_appendWhole_40 (lv_at hl 0 rfl) ?_
    refine lv_if_le (tgt := 72) hx hb dX1_appendWhole_42 (by decide) (fun c9 => absurd c9 (by decide)) (fun _ => ?_)
    refine lv_aload_n hx hb dX1_appendWhole_45 rfl (lv_at hl 4 rfl) ?_
    refine lv_bipush (v := 48) hx hb dX1_appendWhole_46 (by decide) ?_
    refine lv_iload hx hb dX1_appendWhole_48 (lv_at hl 1 rfl) ?_
    refine lv_iload hx hb dX1_appendWhole_50 (lv_at hl 0 rfl) ?_
    refine lv_idiv hx hb dX1_appendWhole_52 (by decide) ?_
    rw [show (((nI (Wn % 1000000000)) / 1000000) : Int32) = (nI (Wn % 1000000000 / 1000000)) from (show nI (Wn % 1000000000) / nI 1000000 = _ from pk_div (a := Wn % 1000000000) (d := 1000000) (by omega) (by decide) (by decide))]
    refine lv_bipush (v := 10) hx hb dX1_appendWhole_53 (by decide) ?_
    refine lv_irem hx hb dX1_appendWhole_55 (by decide) ?_
    rw [show (((nI (Wn % 1000000000 / 1000000)) - (nI (Wn % 1000000000 / 1000000)) / 10 * 10) : Int32) = (nI (Wn % 1000000000 / 1000000 % 10)) from (show nI (Wn % 1000000000 / 1000000) - nI (Wn % 1000000000 / 1000000) / nI 10 * nI 10 = _ from pk_rem (a := Wn % 1000000000 / 1000000) (d := 10) (by omega) (by decide) (by decide))]
    refine lv_iadd hx hb dX1_appendWhole_56 ?_
    rw [show ((48 + (nI (Wn % 1000000000 / 1000000 % 10))) : Int32) = (nI (48 + Wn % 1000000000 / 1000000 % 10)) from (show nI 48 + nI (Wn % 1000000000 / 1000000 % 10) = _ from nI_add 48 _)]
    refine lv_i2c (v := (nI (48 + Wn % 1000000000 / 1000000 % 10))) hx hb dX1_appendWhole_57 (jl_chr (by omega)) ?_
    have hPc := hP.sub (ws' := [(h, eB v2_12 (nI (((n + sb_dg (Wn / 1000000000)) + 1) + 1))), (v2_12, eY cB m2_13 f2_14)]) [1, 2] rfl
    have hDc := hD.sub (ws' := [(h, eB v2_12 (nI (((n + sb_dg (Wn / 1000000000)) + 1) + 1))), (v2_12, eY cB m2_13 f2_14)]) [1, 2] (by decide) rfl
    have hKc := hK.sub (tys' := [(cB, .byte)]) [0] rfl
    have hFc := va_free (wc := [(h, eB v2_12 (nI (((n + sb_dg (Wn / 1000000000)) + 1) + 1))), (v2_12, eY cB m2_13 f2_14)]) hD hS hA [1, 2] rfl
    refine va_callr (va_runV (As := [.int (nI (48 + Wn % 1000000000 / 1000000 % 10))]) (rest := []) ⟨hx, hb, hml, hown, hts⟩ (k_J4_append_cf468 l dC dI cB h v2_12 (((n + sb_dg (Wn / 1000000000)) + 1) + 1) m2_13 f2_14 (48 + Wn % 1000000000 / 1000000 % 10) H.size N hm_m2_13 hf_m2_13 (by omega) (by omega)) (cwV 1 hts gX1_appendWhole_J4_append_cf468 rfl rfl rfl (by decide +kernel) ⟨Nat.le_of_ble_eq_true rfl, Nat.le_of_ble_eq_true rfl⟩) (xT.preV hKc hPc hDc hAN (Nat.le_trans hN hS.1) (hG.kept hS hAN) (hT.kept hS hAN) (ci := 1) (q0 := 0) rfl rfl) rfl rfl hl.1 rfl (lv_room (Nat.le_of_ble_eq_true rfl)) dX1_appendWhole_58 ⟨(show _ ≤ 10 by omega), (show _ ≤ 340 by omega)⟩) hS (fun q _ h => hFc q h) hFc (fun u_21 r_20 t H locs ht hvm hw hB hz hk hS => ?_)
    obtain ⟨he_r_20, hP1, hD1⟩ := hB
    rw [ht] at hP1
    obtain ⟨v2_17, m2_18, f2_19⟩ := u_21
    obtain ⟨hP, hD⟩ := va_join (wr := [(h0, eW wd)]) (w1 := [(h, eB v2_17 (nI ((((n + sb_dg (Wn / 1000000000)) + 1) + 1) + 1))), (v2_17, eY cB m2_18 f2_19)]) hP hD [1, 2] [0] rfl rfl (by decide) (by decide) hk hFc hP1 hD1
    have hP : va_P (dC, dI) xCl [(h0, eW wd), (h, eB v2_17 (nI ((((n + sb_dg (Wn / 1000000000)) + 1) + 1) + 1))), (v2_17, eY cB m2_18 f2_19)] H := hP
    have hD : va_D A [(h0, eW wd), (h, eB v2_17 (nI ((((n + sb_dg (Wn / 1000000000)) + 1) + 1) + 1))), (v2_17, eY cB m2_18 f2_19)] := hD
    obtain ⟨hm_m2_18, hq_m2_18, hf_m2_18⟩ : (m2_18 = 16 ∨ m2_18 = 34) ∧ (((n + sb_dg (Wn / 1000000000)) + 1) + 1) + 1 ≤ m2_18 ∧ sb_Fit f2_19 := hw
    rw [he_r_20]
    refine lv_pop hx hb dX1_appendWhole_61 rfl ?_
    refine lv_iload hx hb dX1_appendWhole_62 (lv_at hl 0 rfl) ?_
    refine lv_bipush (v := 10) hx hb dX1_appendWhole_64 (by decide) ?_
    refine lv_idiv hx hb dX1_appendWhole_66 (by decide) ?_
    rw [show ((1000000 : Int32) / 10) = 100000 from by decide]
    refine lv_istore (lv' := [(6, .int 100000), (5, .int (nI (Wn % 1000000000))), (4, .int (nI (Wn / 1000000000))), (0, .ref h0), (1, .ref h), (2, .long (lN Wn))]) hx hb dX1_appendWhole_67 hl (by decide) rfl (fun ls hl => ?_)
    refine lv_goto (tgt := 40) hx hb dX1_appendWhole_69 (by decide) ?_
    refine lv_iload hx hb dX1_appendWhole_40 (lv_at hl 0 rfl) ?_
    refine lv_if_le (tgt := 72) hx hb dX1_appendWhole_42 (by decide) (fun c9 => absurd c9 (by decide)) (fun _ => ?_)
    refine lv_aload_n hx hb dX1_appendWhole_45 rfl (lv_at hl 4 rfl) ?_
    refine lv_bipush (v := 48) hx hb dX1_appendWhole_46 (by decide) ?_
    refine lv_iload hx hb dX1_appendWhole_48 (lv_at hl 1 rfl) ?_
    refine lv_iload hx hb dX1_appendWhole_50 (lv_at hl 0 rfl) ?_
    refine lv_idiv hx hb dX1_appendWhole_52 (by decide) ?_
    rw [show (((nI (Wn % 1000000000)) / 100000) : Int32) = (nI (Wn % 1000000000 / 100000)) from (show nI (Wn % 1000000000) / nI 100000 = _ from pk_div (a := Wn % 1000000000) (d := 100000) (by omega) (by decide) (by decide))]
    refine lv_bipush (v := 10) hx hb dX1_appendWhole_53 (by decide) ?_
    refine lv_irem hx hb dX1_appendWhole_55 (by decide) ?_
    rw [show (((nI (Wn % 1000000000 / 100000)) - (nI (Wn % 1000000000 / 100000)) / 10 * 10) : Int32) = (nI (Wn % 1000000000 / 100000 % 10)) from (show nI (Wn % 1000000000 / 100000) - nI (Wn % 1000000000 / 100000) / nI 10 * nI 10 = _ from pk_rem (a := Wn % 1000000000 / 100000) (d := 10) (by omega) (by decide) (by decide))]
    refine lv_iadd hx hb dX1_appendWhole_56 ?_
    rw [show ((48 + (nI (Wn % 1000000000 / 100000 % 10))) : Int32) = (nI (48 + Wn % 1000000000 / 100000 % 10)) from (show nI 48 + nI (Wn % 1000000000 / 100000 % 10) = _ from nI_add 48 _)]
    refine lv_i2c (v := (nI (48 + Wn % 1000000000 / 100000 % 10))) hx hb dX1_appendWhole_57 (jl_chr (by omega)) ?_
    have hPc := hP.sub (ws' := [(h, eB v2_17 (nI ((((n + sb_dg (Wn / 1000000000)) + 1) + 1) + 1))), (v2_17, eY cB m2_18 f2_19)]) [1, 2] rfl
    have hDc := hD.sub (ws' := [(h, eB v2_17 (nI ((((n + sb_dg (Wn / 1000000000)) + 1) + 1) + 1))), (v2_17, eY cB m2_18 f2_19)]) [1, 2] (by decide) rfl
    have hKc := hK.sub (tys' := [(cB, .byte)]) [0] rfl
    have hFc := va_free (wc := [(h, eB v2_17 (nI ((((n + sb_dg (Wn / 1000000000)) + 1) + 1) + 1))), (v2_17, eY cB m2_18 f2_19)]) hD hS hA [1, 2] rfl
    refine va_callr (va_runV (As := [.int (nI (48 + Wn % 1000000000 / 100000 % 10))]) (rest := []) ⟨hx, hb, hml, hown, hts⟩ (k_J4_append_cf468 l dC dI cB h v2_17 ((((n + sb_dg (Wn / 1000000000)) + 1) + 1) + 1) m2_18 f2_19 (48 + Wn % 1000000000 / 100000 % 10) H.size N hm_m2_18 hf_m2_18 (by omega) (by omega)) (cwV 1 hts gX1_appendWhole_J4_append_cf468 rfl rfl rfl (by decide +kernel) ⟨Nat.le_of_ble_eq_true rfl, Nat.le_of_ble_eq_true rfl⟩) (xT.preV hKc hPc hDc hAN (Nat.le_trans hN hS.1) (hG.kept hS hAN) (hT.kept hS hAN) (ci := 1) (q0 := 0) rfl rfl) rfl rfl hl.1 rfl (lv_room (Nat.le_of_ble_eq_true rfl)) dX1_appendWhole_58 ⟨(show _ ≤ 10 by omega), (show _ ≤ 340 by omega)⟩) hS (fun q _ h => hFc q h) hFc (fun u_26 r_25 t H locs ht hvm hw hB hz hk hS => ?_)
    obtain ⟨he_r_25, hP1, hD1⟩ := hB
    rw [ht] at hP1
    obtain ⟨v2_22, m2_23, f2_24⟩ := u_26
    obtain ⟨hP, hD⟩ := va_join (wr := [(h0, eW wd)]) (w1 := [(h, eB v2_22 (nI (((((n + sb_dg (Wn / 1000000000)) + 1) + 1) + 1) + 1))), (v2_22, eY cB m2_23 f2_24)]) hP hD [1, 2] [0] rfl rfl (by decide) (by decide) hk hFc hP1 hD1
    have hP : va_P (dC, dI) xCl [(h0, eW wd), (h, eB v2_22 (nI (((((n + sb_dg (Wn / 1000000000)) + 1) + 1) + 1) + 1))), (v2_22, eY cB m2_23 f2_24)] H := hP
    have hD : va_D A [(h0, eW wd), (h, eB v2_22 (nI (((((n + sb_dg (Wn / 1000000000)) + 1) + 1) + 1) + 1))), (v2_22, eY cB m2_23 f2_24)] := hD
    obtain ⟨hm_m2_23, hq_m2_23, hf_m2_23⟩ : (m2_23 = 16 ∨ m2_23 = 34) ∧ ((((n + sb_dg (Wn / 1000000000)) + 1) + 1) + 1) + 1 ≤ m2_23 ∧ sb_Fit f2_24 := hw
    rw [he_r_25]
    refine lv_pop hx hb dX1_appendWhole_61 rfl ?_
    refine lv_iload hx hb dX1_appendWhole_62 (lv_at hl 0 rfl) ?_
    refine lv_bipush (v := 10) hx hb dX1_appendWhole_64 (by decide) ?_
    refine lv_idiv hx hb dX1_appendWhole_66 (by decide) ?_
    rw [show ((100000 : Int32) / 10) = 10000 from by decide]
    refine lv_istore (lv' := [(6, .int 10000), (5, .int (nI (Wn % 1000000000))), (4, .int (nI (Wn / 1000000000))), (0, .ref h0), (1, .ref h), (2, .long (lN Wn))]) hx hb dX1_appendWhole_67 hl (by decide) rfl (fun ls hl => ?_)
    refine lv_goto (tgt := 40) hx hb dX1_appendWhole_69 (by decide) ?_
    refine lv_iload hx hb dX1_appendWhole_40 (lv_at hl 0 rfl) ?_
    refine lv_if_le (tgt := 72) hx hb dX1_appendWhole_42 (by decide) (fun c9 => absurd c9 (by decide)) (fun _ => ?_)
    refine lv_aload_n hx hb dX1_appendWhole_45 rfl (lv_at hl 4 rfl) ?_
    refine lv_bipush (v := 48) hx hb dX1_appendWhole_46 (by decide) ?_
    refine lv_iload hx hb dX1_appendWhole_48 (lv_at hl 1 rfl) ?_
    refine lv_iload hx hb dX1_appendWhole_50 (lv_at hl 0 rfl) ?_
    refine lv_idiv hx hb dX1_appendWhole_52 (by decide) ?_
    rw [show (((nI (Wn % 1000000000)) / 10000) : Int32) = (nI (Wn % 1000000000 / 10000)) from (show nI (Wn % 1000000000) / nI 10000 = _ from pk_div (a := Wn % 1000000000) (d := 10000) (by omega) (by decide) (by decide))]
    refine lv_bipush (v := 10) hx hb dX1_appendWhole_53 (by decide) ?_
    refine lv_irem hx hb dX1_appendWhole_55 (by decide) ?_
    rw [show (((nI (Wn % 1000000000 / 10000)) - (nI (Wn % 1000000000 / 10000)) / 10 * 10) : Int32) = (nI (Wn % 1000000000 / 10000 % 10)) from (show nI (Wn % 1000000000 / 10000) - nI (Wn % 1000000000 / 10000) / nI 10 * nI 10 = _ from pk_rem (a := Wn % 1000000000 / 10000) (d := 10) (by omega) (by decide) (by decide))]
    refine lv_iadd hx hb dX1_appendWhole_56 ?_
    rw [show ((48 + (nI (Wn % 1000000000 / 10000 % 10))) : Int32) = (nI (48 + Wn % 1000000000 / 10000 % 10)) from (show nI 48 + nI (Wn % 1000000000 / 10000 % 10) = _ from nI_add 48 _)]
    refine lv_i2c (v := (nI (48 + Wn % 1000000000 / 10000 % 10))) hx hb dX1_appendWhole_57 (jl_chr (by omega)) ?_
    have hPc := hP.sub (ws' := [(h, eB v2_22 (nI (((((n + sb_dg (Wn / 1000000000)) + 1) + 1) + 1) + 1))), (v2_22, eY cB m2_23 f2_24)]) [1, 2] rfl
    have hDc := hD.sub (ws' := [(h, eB v2_22 (nI (((((n + sb_dg (Wn / 1000000000)) + 1) + 1) + 1) + 1))), (v2_22, eY cB m2_23 f2_24)]) [1, 2] (by decide) rfl
    have hKc := hK.sub (tys' := [(cB, .byte)]) [0] rfl
    have hFc := va_free (wc := [(h, eB v2_22 (nI (((((n + sb_dg (Wn / 1000000000)) + 1) + 1) + 1) + 1))), (v2_22, eY cB m2_23 f2_24)]) hD hS hA [1, 2] rfl
    refine va_callr (va_runV (As := [.int (nI (48 + Wn % 1000000000 / 10000 % 10))]) (rest := []) ⟨hx, hb, hml, hown, hts⟩ (k_J4_append_cf468 l dC dI cB h v2_22 (((((n + sb_dg (Wn / 1000000000)) + 1) + 1) + 1) + 1) m2_23 f2_24 (48 + Wn % 1000000000 / 10000 % 10) H.size N hm_m2_23 hf_m2_23 (by omega) (by omega)) (cwV 1 hts gX1_appendWhole_J4_append_cf468 rfl rfl rfl (by decide +kernel) ⟨Nat.le_of_ble_eq_true rfl, Nat.le_of_ble_eq_true rfl⟩) (xT.preV hKc hPc hDc hAN (Nat.le_trans hN hS.1) (hG.kept hS hAN) (hT.kept hS hAN) (ci := 1) (q0 := 0) rfl rfl) rfl rfl hl.1 rfl (lv_room (Nat.le_of_ble_eq_true rfl)) dX1_appendWhole_58 ⟨(show _ ≤ 10 by omega), (show _ ≤ 340 by omega)⟩) hS (fun q _ h => hFc q h) hFc (fun u_31 r_30 t H locs ht hvm hw hB hz hk hS => ?_)
    obtain ⟨he_r_30, hP1, hD1⟩ := hB
    rw [ht] at hP1
    obtain ⟨v2_27, m2_28, f2_29⟩ := u_31
    obtain ⟨hP, hD⟩ := va_join (wr := [(h0, eW wd)]) (w1 := [(h, eB v2_27 (nI ((((((n + sb_dg (Wn / 1000000000)) + 1) + 1) + 1) + 1) + 1))), (v2_27, eY cB m2_28 f2_29)]) hP hD [1, 2] [0] rfl rfl (by decide) (by decide) hk hFc hP1 hD1
    have hP : va_P (dC, dI) xCl [(h0, eW wd), (h, eB v2_27 (nI ((((((n + sb_dg (Wn / 1000000000)) + 1) + 1) + 1) + 1) + 1))), (v2_27, eY cB m2_28 f2_29)] H := hP
    have hD : va_D A [(h0, eW wd), (h, eB v2_27 (nI ((((((n + sb_dg (Wn / 1000000000)) + 1) + 1) + 1) + 1) + 1))), (v2_27, eY cB m2_28 f2_29)] := hD
    obtain ⟨hm_m2_28, hq_m2_28, hf_m2_28⟩ : (m2_28 = 16 ∨ m2_28 = 34) ∧ (((((n + sb_dg (Wn / 1000000000)) + 1) + 1) + 1) + 1) + 1 ≤ m2_28 ∧ sb_Fit f2_29 := hw
    rw [he_r_30]
    refine lv_pop hx hb dX1_appendWhole_61 rfl ?_
    refine lv_iload hx hb dX1_appendWhole_62 (lv_at hl 0 rfl) ?_
    refine lv_bipush (v := 10) hx hb dX1_appendWhole_64 (by decide) ?_
    refine lv_idiv hx hb dX1_appendWhole_66 (by decide) ?_
    rw [show ((10000 : Int32) / 10) = 1000 from by decide]
    refine lv_istore (lv' := [(6, .int 1000), (5, .int (nI (Wn % 1000000000))), (4, .int (nI (Wn / 1000000000))), (0, .ref h0), (1, .ref h), (2, .long (lN Wn))]) hx hb dX1_appendWhole_67 hl (by decide) rfl (fun ls hl => ?_)
    refine lv_goto (tgt := 40) hx hb dX1_appendWhole_69 (by decide) ?_
    refine lv_iload hx hb dX1_appendWhole_40 (lv_at hl 0 rfl) ?_
    refine lv_if_le (tgt := 72) hx hb dX1_appendWhole_42 (by decide) (fun c9 => absurd c9 (by decide)) (fun _ => ?_)
    refine lv_aload_n hx hb dX1_appendWhole_45 rfl (lv_at hl 4 rfl) ?_
    refine lv_bipush (v := 48) hx hb dX1_appendWhole_46 (by decide) ?_
    refine lv_iload hx hb dX1_appendWhole_48 (lv_at hl 1 rfl) ?_
    refine lv_iload hx hb dX1_appendWhole_50 (lv_at hl 0 rfl) ?_
    refine lv_idiv hx hb dX1_appendWhole_52 (by decide) ?_
    rw [show (((nI (Wn % 1000000000)) / 1000) : Int32) = (nI (Wn % 1000000000 / 1000)) from (show nI (Wn % 1000000000) / nI 1000 = _ from pk_div (a := Wn % 1000000000) (d := 1000) (by omega) (by decide) (by decide))]
    refine lv_bipush (v := 10) hx hb dX1_appendWhole_53 (by decide) ?_
    refine lv_irem hx hb dX1_appendWhole_55 (by decide) ?_
    rw [show (((nI (Wn % 1000000000 / 1000)) - (nI (Wn % 1000000000 / 1000)) / 10 * 10) : Int32) = (nI (Wn % 1000000000 / 1000 % 10)) from (show nI (Wn % 1000000000 / 1000) - nI (Wn % 1000000000 / 1000) / nI 10 * nI 10 = _ from pk_rem (a := Wn % 1000000000 / 1000) (d := 10) (by omega) (by decide) (by decide))]
    refine lv_iadd hx hb dX1_appendWhole_56 ?_
    rw [show ((48 + (nI (Wn % 1000000000 / 1000 % 10))) : Int32) = (nI (48 + Wn % 1000000000 / 1000 % 10)) from (show nI 48 + nI (Wn % 1000000000 / 1000 % 10) = _ from nI_add 48 _)]
    refine lv_i2c (v := (nI (48 + Wn % 1000000000 / 1000 % 10))) hx hb dX1_appendWhole_57 (jl_chr (by omega)) ?_
    have hPc := hP.sub (ws' := [(h, eB v2_27 (nI ((((((n + sb_dg (Wn / 1000000000)) + 1) + 1) + 1) + 1) + 1))), (v2_27, eY cB m2_28 f2_29)]) [1, 2] rfl
    have hDc := hD.sub (ws' := [(h, eB v2_27 (nI ((((((n + sb_dg (Wn / 1000000000)) + 1) + 1) + 1) + 1) + 1))), (v2_27, eY cB m2_28 f2_29)]) [1, 2] (by decide) rfl
    have hKc := hK.sub (tys' := [(cB, .byte)]) [0] rfl
    have hFc := va_free (wc := [(h, eB v2_27 (nI ((((((n + sb_dg (Wn / 1000000000)) + 1) + 1) + 1) + 1) + 1))), (v2_27, eY cB m2_28 f2_29)]) hD hS hA [1, 2] rfl
    refine va_callr (va_runV (As := [.int (nI (48 + Wn % 1000000000 / 1000 % 10))]) (rest := []) ⟨hx, hb, hml, hown, hts⟩ (k_J4_append_cf468 l dC dI cB h v2_27 ((((((n + sb_dg (Wn / 1000000000)) + 1) + 1) + 1) + 1) + 1) m2_28 f2_29 (48 + Wn % 1000000000 / 1000 % 10) H.size N hm_m2_28 hf_m2_28 (by omega) (by omega)) (cwV 1 hts gX1_appendWhole_J4_append_cf468 rfl rfl rfl (by decide +kernel) ⟨Nat.le_of_ble_eq_true rfl, Nat.le_of_ble_eq_true rfl⟩) (xT.preV hKc hPc hDc hAN (Nat.le_trans hN hS.1) (hG.kept hS hAN) (hT.kept hS hAN) (ci := 1) (q0 := 0) rfl rfl) rfl rfl hl.1 rfl (lv_room (Nat.le_of_ble_eq_true rfl)) dX1_appendWhole_58 ⟨(show _ ≤ 10 by omega), (show _ ≤ 340 by omega)⟩) hS (fun q _ h => hFc q h) hFc (fun u_36 r_35 t H locs ht hvm hw hB hz hk hS => ?_)
    obtain ⟨he_r_35, hP1, hD1⟩ := hB
    rw [ht] at hP1
    obtain ⟨v2_32, m2_33, f2_34⟩ := u_36
    obtain ⟨hP, hD⟩ := va_join (wr := [(h0, eW wd)]) (w1 := [(h, eB v2_32 (nI (((((((n + sb_dg (Wn / 1000000000)) + 1) + 1) + 1) + 1) + 1) + 1))), (v2_32, eY cB m2_33 f2_34)]) hP hD [1, 2] [0] rfl rfl (by decide) (by decide) hk hFc hP1 hD1
    have hP : va_P (dC, dI) xCl [(h0, eW wd), (h, eB v2_32 (nI (((((((n + sb_dg (Wn / 1000000000)) + 1) + 1) + 1) + 1) + 1) + 1))), (v2_32, eY cB m2_33 f2_34)] H := hP
    have hD : va_D A [(h0, eW wd), (h, eB v2_32 (nI (((((((n + sb_dg (Wn / 1000000000)) + 1) + 1) + 1) + 1) + 1) + 1))), (v2_32, eY cB m2_33 f2_34)] := hD
    obtain ⟨hm_m2_33, hq_m2_33, hf_m2_33⟩ : (m2_33 = 16 ∨ m2_33 = 34) ∧ ((((((n + sb_dg (Wn / 1000000000)) + 1) + 1) + 1) + 1) + 1) + 1 ≤ m2_33 ∧ sb_Fit f2_34 := hw
    rw [he_r_35]
    refine lv_pop hx hb dX1_appendWhole_61 rfl ?_
    refine lv_iload hx hb dX1_appendWhole_62 (lv_at hl 0 rfl) ?_
    refine lv_bipush (v := 10) hx hb dX1_appendWhole_64 (by decide) ?_
    refine lv_idiv hx hb dX1_appendWhole_66 (by decide) ?_
    rw [show ((1000 : Int32) / 10) = 100 from by decide]
    refine lv_istore (lv' := [(6, .int 100), (5, .int (nI (Wn % 1000000000))), (4, .int (nI (Wn / 1000000000))), (0, .ref h0), (1, .ref h), (2, .long (lN Wn))]) hx hb dX1_appendWhole_67 hl (by decide) rfl (fun ls hl => ?_)
    refine lv_goto (tgt := 40) hx hb dX1_appendWhole_69 (by decide) ?_
    refine lv_iload hx hb dX1_appendWhole_40 (lv_at hl 0 rfl) ?_
    refine lv_if_le (tgt := 72) hx hb dX1_appendWhole_42 (by decide) (fun c9 => absurd c9 (by decide)) (fun _ => ?_)
    refine lv_aload_n hx hb dX1_appendWhole_45 rfl (lv_at hl 4 rfl) ?_
    refine lv_bipush (v := 48) hx hb dX1_appendWhole_46 (by decide) ?_
    refine lv_iload hx hb dX1_appendWhole_48 (lv_at hl 1 rfl) ?_
    refine lv_iload hx hb dX1_appendWhole_50 (lv_at hl 0 rfl) ?_
    refine lv_idiv hx hb dX1_appendWhole_52 (by decide) ?_
    rw [show (((nI (Wn % 1000000000)) / 100) : Int32) = (nI (Wn % 1000000000 / 100)) from (show nI (Wn % 1000000000) / nI 100 = _ from pk_div (a := Wn % 1000000000) (d := 100) (by omega) (by decide) (by decide))]
    refine lv_bipush (v := 10) hx hb dX1_appendWhole_53 (by decide) ?_
    refine lv_irem hx hb dX1_appendWhole_55 (by decide) ?_
    rw [show (((nI (Wn % 1000000000 / 100)) - (nI (Wn % 1000000000 / 100)) / 10 * 10) : Int32) = (nI (Wn % 1000000000 / 100 % 10)) from (show nI (Wn % 1000000000 / 100) - nI (Wn % 1000000000 / 100) / nI 10 * nI 10 = _ from pk_rem (a := Wn % 1000000000 / 100) (d := 10) (by omega) (by decide) (by decide))]
    refine lv_iadd hx hb dX1_appendWhole_56 ?_
    rw [show ((48 + (nI (Wn % 1000000000 / 100 % 10))) : Int32) = (nI (48 + Wn % 1000000000 / 100 % 10)) from (show nI 48 + nI (Wn % 1000000000 / 100 % 10) = _ from nI_add 48 _)]
    refine lv_i2c (v := (nI (48 + Wn % 1000000000 / 100 % 10))) hx hb dX1_appendWhole_57 (jl_chr (by omega)) ?_
    have hPc := hP.sub (ws' := [(h, eB v2_32 (nI (((((((n + sb_dg (Wn / 1000000000)) + 1) + 1) + 1) + 1) + 1) + 1))), (v2_32, eY cB m2_33 f2_34)]) [1, 2] rfl
    have hDc := hD.sub (ws' := [(h, eB v2_32 (nI (((((((n + sb_dg (Wn / 1000000000)) + 1) + 1) + 1) + 1) + 1) + 1))), (v2_32, eY cB m2_33 f2_34)]) [1, 2] (by decide) rfl
    have hKc := hK.sub (tys' := [(cB, .byte)]) [0] rfl
    have hFc := va_free (wc := [(h, eB v2_32 (nI (((((((n + sb_dg (Wn / 1000000000)) + 1) + 1) + 1) + 1) + 1) + 1))), (v2_32, eY cB m2_33 f2_34)]) hD hS hA [1, 2] rfl
    refine va_callr (va_runV (As := [.int (nI (48 + Wn % 1000000000 / 100 % 10))]) (rest := []) ⟨hx, hb, hml, hown, hts⟩ (k_J4_append_cf468 l dC dI cB h v2_32 (((((((n + sb_dg (Wn / 1000000000)) + 1) + 1) + 1) + 1) + 1) + 1) m2_33 f2_34 (48 + Wn % 1000000000 / 100 % 10) H.size N hm_m2_33 hf_m2_33 (by omega) (by omega)) (cwV 1 hts gX1_appendWhole_J4_append_cf468 rfl rfl rfl (by decide +kernel) ⟨Nat.le_of_ble_eq_true rfl, Nat.le_of_ble_eq_true rfl⟩) (xT.preV hKc hPc hDc hAN (Nat.le_trans hN hS.1) (hG.kept hS hAN) (hT.kept hS hAN) (ci := 1) (q0 := 0) rfl rfl) rfl rfl hl.1 rfl (lv_room (Nat.le_of_ble_eq_true rfl)) dX1_appendWhole_58 ⟨(show _ ≤ 10 by omega), (show _ ≤ 340 by omega)⟩) hS (fun q _ h => hFc q h) hFc (fun u_41 r_40 t H locs ht hvm hw hB hz hk hS => ?_)
    obtain ⟨he_r_40, hP1, hD1⟩ := hB
    rw [ht] at hP1
    obtain ⟨v2_37, m2_38, f2_39⟩ := u_41
    obtain ⟨hP, hD⟩ := va_join (wr := [(h0, eW wd)]) (w1 := [(h, eB v2_37 (nI ((((((((n + sb_dg (Wn / 1000000000)) + 1) + 1) + 1) + 1) + 1) + 1) + 1))), (v2_37, eY cB m2_38 f2_39)]) hP hD [1, 2] [0] rfl rfl (by decide) (by decide) hk hFc hP1 hD1
    have hP : va_P (dC, dI) xCl [(h0, eW wd), (h, eB v2_37 (nI ((((((((n + sb_dg (Wn / 1000000000)) + 1) + 1) + 1) + 1) + 1) + 1) + 1))), (v2_37, eY cB m2_38 f2_39)] H := hP
    have hD : va_D A [(h0, eW wd), (h, eB v2_37 (nI ((((((((n + sb_dg (Wn / 1000000000)) + 1) + 1) + 1) + 1) + 1) + 1) + 1))), (v2_37, eY cB m2_38 f2_39)] := hD
    obtain ⟨hm_m2_38, hq_m2_38, hf_m2_38⟩ : (m2_38 = 16 ∨ m2_38 = 34) ∧ (((((((n + sb_dg (Wn / 1000000000)) + 1) + 1) + 1) + 1) + 1) + 1) + 1 ≤ m2_38 ∧ sb_Fit f2_39 := hw
    rw [he_r_40]
    refine lv_pop hx hb dX1_appendWhole_61 rfl ?_
    refine lv_iload hx hb dX1_appendWhole_62 (lv_at hl 0 rfl) ?_
    refine lv_bipush (v := 10) hx hb dX1_appendWhole_64 (by decide) ?_
    refine lv_idiv hx hb dX1_appendWhole_66 (by decide) ?_
    rw [show ((100 : Int32) / 10) = 10 from by decide]
    refine lv_istore (lv' := [(6, .int 10), (5, .int (nI (Wn % 1000000000))), (4, .int (nI (Wn / 1000000000))), (0, .ref h0), (1, .ref h), (2, .long (lN Wn))]) hx hb dX1_appendWhole_67 hl (by decide) rfl (fun ls hl => ?_)
    refine lv_goto (tgt := 40) hx hb dX1_appendWhole_69 (by decide) ?_
    refine lv_iload hx hb dX1_appendWhole_40 (lv_at hl 0 rfl) ?_
    refine lv_if_le (tgt := 72) hx hb dX1_appendWhole_42 (by decide) (fun c9 => absurd c9 (by decide)) (fun _ => ?_)
    refine lv_aload_n hx hb dX1_appendWhole_45 rfl (lv_at hl 4 rfl) ?_
    refine lv_bipush (v := 48) hx hb dX1_appendWhole_46 (by decide) ?_
    refine lv_iload hx hb dX1_appendWhole_48 (lv_at hl 1 rfl) ?_
    refine lv_iload hx hb dX1_appendWhole_50 (lv_at hl 0 rfl) ?_
    refine lv_idiv hx hb dX1_appendWhole_52 (by decide) ?_
    rw [show (((nI (Wn % 1000000000)) / 10) : Int32) = (nI (Wn % 1000000000 / 10)) from (show nI (Wn % 1000000000) / nI 10 = _ from pk_div (a := Wn % 1000000000) (d := 10) (by omega) (by decide) (by decide))]
    refine lv_bipush (v := 10) hx hb dX1_appendWhole_53 (by decide) ?_
    refine lv_irem hx hb dX1_appendWhole_55 (by decide) ?_
    rw [show (((nI (Wn % 1000000000 / 10)) - (nI (Wn % 1000000000 / 10)) / 10 * 10) : Int32) = (nI (Wn % 1000000000 / 10 % 10)) from (show nI (Wn % 1000000000 / 10) - nI (Wn % 1000000000 / 10) / nI 10 * nI 10 = _ from pk_rem (a := Wn % 1000000000 / 10) (d := 10) (by omega) (by decide) (by decide))]
    refine lv_iadd hx hb dX1_appendWhole_56 ?_
    rw [show ((48 + (nI (Wn % 1000000000 / 10 % 10))) : Int32) = (nI (48 + Wn % 1000000000 / 10 % 10)) from (show nI 48 + nI (Wn % 1000000000 / 10 % 10) = _ from nI_add 48 _)]
    refine lv_i2c (v := (nI (48 + Wn % 1000000000 / 10 % 10))) hx hb dX1_appendWhole_57 (jl_chr (by omega)) ?_
    have hPc := hP.sub (ws' := [(h, eB v2_37 (nI ((((((((n + sb_dg (Wn / 1000000000)) + 1) + 1) + 1) + 1) + 1) + 1) + 1))), (v2_37, eY cB m2_38 f2_39)]) [1, 2] rfl
    have hDc := hD.sub (ws' := [(h, eB v2_37 (nI ((((((((n + sb_dg (Wn / 1000000000)) + 1) + 1) + 1) + 1) + 1) + 1) + 1))), (v2_37, eY cB m2_38 f2_39)]) [1, 2] (by decide) rfl
    have hKc := hK.sub (tys' := [(cB, .byte)]) [0] rfl
    have hFc := va_free (wc := [(h, eB v2_37 (nI ((((((((n + sb_dg (Wn / 1000000000)) + 1) + 1) + 1) + 1) + 1) + 1) + 1))), (v2_37, eY cB m2_38 f2_39)]) hD hS hA [1, 2] rfl
    refine va_callr (va_runV (As := [.int (nI (48 + Wn % 1000000000 / 10 % 10))]) (rest := []) ⟨hx, hb, hml, hown, hts⟩ (k_J4_append_cf468 l dC dI cB h v2_37 ((((((((n + sb_dg (Wn / 1000000000)) + 1) + 1) + 1) + 1) + 1) + 1) + 1) m2_38 f2_39 (48 + Wn % 1000000000 / 10 % 10) H.size N hm_m2_38 hf_m2_38 (by omega) (by omega)) (cwV 1 hts gX1_appendWhole_J4_append_cf468 rfl rfl rfl (by decide +kernel) ⟨Nat.le_of_ble_eq_true rfl, Nat.le_of_ble_eq_true rfl⟩) (xT.preV hKc hPc hDc hAN (Nat.le_trans hN hS.1) (hG.kept hS hAN) (hT.kept hS hAN) (ci := 1) (q0 := 0) rfl rfl) rfl rfl hl.1 rfl (lv_room (Nat.le_of_ble_eq_true rfl)) dX1_appendWhole_58 ⟨(show _ ≤ 10 by omega), (show _ ≤ 340 by omega)⟩) hS (fun q _ h => hFc q h) hFc (fun u_46 r_45 t H locs ht hvm hw hB hz hk hS => ?_)
    obtain ⟨he_r_45, hP1, hD1⟩ := hB
    rw [ht] at hP1
    obtain ⟨v2_42, m2_43, f2_44⟩ := u_46
    obtain ⟨hP, hD⟩ := va_join (wr := [(h0, eW wd)]) (w1 := [(h, eB v2_42 (nI (((((((((n + sb_dg (Wn / 1000000000)) + 1) + 1) + 1) + 1) + 1) + 1) + 1) + 1))), (v2_42, eY cB m2_43 f2_44)]) hP hD [1, 2] [0] rfl rfl (by decide) (by decide) hk hFc hP1 hD1
    have hP : va_P (dC, dI) xCl [(h0, eW wd), (h, eB v2_42 (nI (((((((((n + sb_dg (Wn / 1000000000)) + 1) + 1) + 1) + 1) + 1) + 1) + 1) + 1))), (v2_42, eY cB m2_43 f2_44)] H := hP
    have hD : va_D A [(h0, eW wd), (h, eB v2_42 (nI (((((((((n + sb_dg (Wn / 1000000000)) + 1) + 1) + 1) + 1) + 1) + 1) + 1) + 1))), (v2_42, eY cB m2_43 f2_44)] := hD
    obtain ⟨hm_m2_43, hq_m2_43, hf_m2_43⟩ : (m2_43 = 16 ∨ m2_43 = 34) ∧ ((((((((n + sb_dg (Wn / 1000000000)) + 1) + 1) + 1) + 1) + 1) + 1) + 1) + 1 ≤ m2_43 ∧ sb_Fit f2_44 := hw
    rw [he_r_45]
    refine lv_pop hx hb dX1_appendWhole_61 rfl ?_
    refine lv_iload hx hb dX1_appendWhole_62 (lv_at hl 0 rfl) ?_
    refine lv_bipush (v := 10) hx hb dX1_appendWhole_64 (by decide) ?_
    refine lv_idiv hx hb dX1_appendWhole_66 (by decide) ?_
    rw [show ((10 : Int32) / 10) = 1 from by decide]
    refine lv_istore (lv' := [(6, .int 1), (5, .int (nI (Wn % 1000000000))), (4, .int (nI (Wn / 1000000000))), (0, .ref h0), (1, .ref h), (2, .long (lN Wn))]) hx hb dX1_appendWhole_67 hl (by decide) rfl (fun ls hl => ?_)
    refine lv_goto (tgt := 40) hx hb dX1_appendWhole_69 (by decide) ?_
    refine lv_iload hx hb dX1_appendWhole_40 (lv_at hl 0 rfl) ?_
    refine lv_if_le (tgt := 72) hx hb dX1_appendWhole_42 (by decide) (fun c9 => absurd c9 (by decide)) (fun _ => ?_)
    refine lv_aload_n hx hb dX1_appendWhole_45 rfl (lv_at hl 4 rfl) ?_
    refine lv_bipush (v := 48) hx hb dX1_appendWhole_46 (by decide) ?_
    refine lv_iload hx hb dX1_appendWhole_48 (lv_at hl 1 rfl) ?_
    refine lv_iload hx hb dX1_appendWhole_50 (lv_at hl 0 rfl) ?_
    refine lv_idiv hx hb dX1_appendWhole_52 (by decide) ?_
    rw [show (((nI (Wn % 1000000000)) / 1) : Int32) = (nI (Wn % 1000000000 / 1)) from (show nI (Wn % 1000000000) / nI 1 = _ from pk_div (a := Wn % 1000000000) (d := 1) (by omega) (by decide) (by decide))]
    refine lv_bipush (v := 10) hx hb dX1_appendWhole_53 (by decide) ?_
    refine lv_irem hx hb dX1_appendWhole_55 (by decide) ?_
    rw [show (((nI (Wn % 1000000000 / 1)) - (nI (Wn % 1000000000 / 1)) / 10 * 10) : Int32) = (nI (Wn % 1000000000 / 1 % 10)) from (show nI (Wn % 1000000000 / 1) - nI (Wn % 1000000000 / 1) / nI 10 * nI 10 = _ from pk_rem (a := Wn % 1000000000 / 1) (d := 10) (by omega) (by decide) (by decide))]
    refine lv_iadd hx hb dX1_appendWhole_56 ?_
    rw [show ((48 + (nI (Wn % 1000000000 / 1 % 10))) : Int32) = (nI (48 + Wn % 1000000000 / 1 % 10)) from (show nI 48 + nI (Wn % 1000000000 / 1 % 10) = _ from nI_add 48 _)]
    refine lv_i2c (v := (nI (48 + Wn % 1000000000 / 1 % 10))) hx hb dX1_appendWhole_57 (jl_chr (by omega)) ?_
    have hPc := hP.sub (ws' := [(h, eB v2_42 (nI (((((((((n + sb_dg (Wn / 1000000000)) + 1) + 1) + 1) + 1) + 1) + 1) + 1) + 1))), (v2_42, eY cB m2_43 f2_44)]) [1, 2] rfl
    have hDc := hD.sub (ws' := [(h, eB v2_42 (nI (((((((((n + sb_dg (Wn / 1000000000)) + 1) + 1) + 1) + 1) + 1) + 1) + 1) + 1))), (v2_42, eY cB m2_43 f2_44)]) [1, 2] (by decide) rfl
    have hKc := hK.sub (tys' := [(cB, .byte)]) [0] rfl
    have hFc := va_free (wc := [(h, eB v2_42 (nI (((((((((n + sb_dg (Wn / 1000000000)) + 1) + 1) + 1) + 1) + 1) + 1) + 1) + 1))), (v2_42, eY cB m2_43 f2_44)]) hD hS hA [1, 2] rfl
    refine va_callr (va_runV (As := [.int (nI (48 + Wn % 1000000000 / 1 % 10))]) (rest := []) ⟨hx, hb, hml, hown, hts⟩ (k_J4_append_cf468 l dC dI cB h v2_42 (((((((((n + sb_dg (Wn / 1000000000)) + 1) + 1) + 1) + 1) + 1) + 1) + 1) + 1) m2_43 f2_44 (48 + Wn % 1000000000 / 1 % 10) H.size N hm_m2_43 hf_m2_43 (by omega) (by omega)) (cwV 1 hts gX1_appendWhole_J4_append_cf468 rfl rfl rfl (by decide +kernel) ⟨Nat.le_of_ble_eq_true rfl, Nat.le_of_ble_eq_true rfl⟩) (xT.preV hKc hPc hDc hAN (Nat.le_trans hN hS.1) (hG.kept hS hAN) (hT.kept hS hAN) (ci := 1) (q0 := 0) rfl rfl) rfl rfl hl.1 rfl (lv_room (Nat.le_of_ble_eq_true rfl)) dX1_appendWhole_58 ⟨(show _ ≤ 10 by omega), (show _ ≤ 340 by omega)⟩) hS (fun q _ h => hFc q h) hFc (fun u_51 r_50 t H locs ht hvm hw hB hz hk hS => ?_)
    obtain ⟨he_r_50, hP1, hD1⟩ := hB
    rw [ht] at hP1
    obtain ⟨v2_47, m2_48, f2_49⟩ := u_51
    obtain ⟨hP, hD⟩ := va_join (wr := [(h0, eW wd)]) (w1 := [(h, eB v2_47 (nI ((((((((((n + sb_dg (Wn / 1000000000)) + 1) + 1) + 1) + 1) + 1) + 1) + 1) + 1) + 1))), (v2_47, eY cB m2_48 f2_49)]) hP hD [1, 2] [0] rfl rfl (by decide) (by decide) hk hFc hP1 hD1
    have hP : va_P (dC, dI) xCl [(h0, eW wd), (h, eB v2_47 (nI ((((((((((n + sb_dg (Wn / 1000000000)) + 1) + 1) + 1) + 1) + 1) + 1) + 1) + 1) + 1))), (v2_47, eY cB m2_48 f2_49)] H := hP
    have hD : va_D A [(h0, eW wd), (h, eB v2_47 (nI ((((((((((n + sb_dg (Wn / 1000000000)) + 1) + 1) + 1) + 1) + 1) + 1) + 1) + 1) + 1))), (v2_47, eY cB m2_48 f2_49)] := hD
    obtain ⟨hm_m2_48, hq_m2_48, hf_m2_48⟩ : (m2_48 = 16 ∨ m2_48 = 34) ∧ (((((((((n + sb_dg (Wn / 1000000000)) + 1) + 1) + 1) + 1) + 1) + 1) + 1) + 1) + 1 ≤ m2_48 ∧ sb_Fit f2_49 := hw
    rw [he_r_50]
    refine lv_pop hx hb dX1_appendWhole_61 rfl ?_
    refine lv_iload hx hb dX1_appendWhole_62 (lv_at hl 0 rfl) ?_
    refine lv_bipush (v := 10) hx hb dX1_appendWhole_64 (by decide) ?_
    refine lv_idiv hx hb dX1_appendWhole_66 (by decide) ?_
    rw [show ((1 : Int32) / 10) = 0 from by decide]
    refine lv_istore (lv' := [(6, .int 0), (5, .int (nI (Wn % 1000000000))), (4, .int (nI (Wn / 1000000000))), (0, .ref h0), (1, .ref h), (2, .long (lN Wn))]) hx hb dX1_appendWhole_67 hl (by decide) rfl (fun ls hl => ?_)
    refine lv_goto (tgt := 40) hx hb dX1_appendWhole_69 (by decide) ?_
    refine lv_iload hx hb dX1_appendWhole_40 (lv_at hl 0 rfl) ?_
    refine lv_if_le (tgt := 72) hx hb dX1_appendWhole_42 (by decide) (fun _ => ?_) (fun c9 => absurd c9 (by decide))
    have hP := hP.sub (ws' := [(h0, eW wd), (h, eB v2_47 (nI ((((((((((n + sb_dg (Wn / 1000000000)) + 1) + 1) + 1) + 1) + 1) + 1) + 1) + 1) + 1))), (v2_47, eY cB m2_48 f2_49)]) [0, 1, 2] rfl
    have hD := hD.sub (ws' := [(h0, eW wd), (h, eB v2_47 (nI ((((((((((n + sb_dg (Wn / 1000000000)) + 1) + 1) + 1) + 1) + 1) + 1) + 1) + 1) + 1))), (v2_47, eY cB m2_48 f2_49)]) [0, 1, 2] (by decide) rfl
    refine W.widen (k := 10) (n := 340) (by omega) (by omega) ?_
    exact W.vret hx hb hr (fun t ht hW => ⟨⟨(((((((((((n + sb_dg (Wn / 1000000000)) + 1) + 1) + 1) + 1) + 1) + 1) + 1) + 1) + 1), v2_47, m2_48, f2_49), rfl, ⟨hm_m2_48, hq_m2_48, hf_m2_48⟩, by rw [ht]; exact hP, hD⟩, hS.F ht⟩) hS.2.2 dX1_appendWhole_72
  · skip
    refine lv_aload_n hx hb dX1_appendWhole_21 rfl (lv_at hl 3 rfl) ?_
    refine lv_iload hx hb dX1_appendWhole_22 (lv_at hl 0 rfl) ?_
    have hPc := hP.sub (ws' := [(h, eB v (nI n)), (v, eY cB mm f)]) [1, 2] rfl
    have hDc := hD.sub (ws' := [(h, eB v (nI n)), (v, eY cB mm f)]) [1, 2] (by decide) rfl
    have hKc := hK.sub (tys' := [(cB, .byte)]) [0] rfl
    have hFc := va_free (wc := [(h, eB v (nI n)), (v, eY cB mm f)]) hD hS hA [1, 2] rfl
    refine va_callr (va_runV (As := [.int (nI (Wn % 1000000000))]) (rest := []) ⟨hx, hb, hml, hown, hts⟩ (k_J4_append_bf812 l dC dI cB h v n mm f (Wn % 1000000000) s.heap.size N hm hf (by omega) (by omega)) (cwV 1 hts gX1_appendWhole_J4_append_bf812 rfl rfl rfl (by decide +kernel) ⟨Nat.le_of_ble_eq_true rfl, Nat.le_of_ble_eq_true rfl⟩) (xT.preV hKc hPc hDc hAN (Nat.le_trans hN hS.1) (hG.kept hS hAN) (hT.kept hS hAN) (ci := 1) (q0 := 0) rfl rfl) rfl rfl hl.1 rfl (lv_room (Nat.le_of_ble_eq_true rfl)) dX1_appendWhole_24 ⟨(show _ ≤ 10 by omega), (show _ ≤ 340 by omega)⟩) hS (fun q _ h => hFc q h) hFc (fun u_56 r_55 t H locs ht hvm hw hB hz hk hS => ?_)
    obtain ⟨he_r_55, hP1, hD1⟩ := hB
    rw [ht] at hP1
    obtain ⟨v2_52, m2_53, f2_54⟩ := u_56
    obtain ⟨hP, hD⟩ := va_join (wr := [(h0, eW wd)]) (w1 := [(h, eB v2_52 (nI (n + sb_dg (Wn % 1000000000)))), (v2_52, eY cB m2_53 f2_54)]) hP hD [1, 2] [0] rfl rfl (by decide) (by decide) hk hFc hP1 hD1
    have hP : va_P (dC, dI) xCl [(h0, eW wd), (h, eB v2_52 (nI (n + sb_dg (Wn % 1000000000)))), (v2_52, eY cB m2_53 f2_54)] H := hP
    have hD : va_D A [(h0, eW wd), (h, eB v2_52 (nI (n + sb_dg (Wn % 1000000000)))), (v2_52, eY cB m2_53 f2_54)] := hD
    obtain ⟨hm_m2_53, hq_m2_53, hf_m2_53⟩ : (m2_53 = 16 ∨ m2_53 = 34) ∧ n + sb_dg (Wn % 1000000000) ≤ m2_53 ∧ sb_Fit f2_54 := hw
    rw [he_r_55]
    refine lv_pop hx hb dX1_appendWhole_27 rfl ?_
    have hP := hP.sub (ws' := [(h0, eW wd), (h, eB v2_52 (nI (n + sb_dg (Wn % 1000000000)))), (v2_52, eY cB m2_53 f2_54)]) [0, 1, 2] rfl
    have hD := hD.sub (ws' := [(h0, eW wd), (h, eB v2_52 (nI (n + sb_dg (Wn % 1000000000)))), (v2_52, eY cB m2_53 f2_54)]) [0, 1, 2] (by decide) rfl
    refine W.widen (k := 10) (n := 340) (by omega) (by omega) ?_
    exact W.vret hx hb hr (fun t ht hW => ⟨⟨((n + sb_dg (Wn % 1000000000)), v2_52, m2_53, f2_54), rfl, ⟨hm_m2_53, hq_m2_53, hf_m2_53⟩, by rw [ht]; exact hP, hD⟩, hS.F ht⟩) hS.2.2 dX1_appendWhole_28
