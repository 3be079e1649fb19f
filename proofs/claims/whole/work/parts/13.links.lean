def yE_rt : MethodName := ⟨"java/lang/RuntimeException", "<init>", "(Ljava/lang/String;Ljava/lang/Throwable;ZZ)V"⟩
abbrev cE_rt : ByteArray := prog_24_method_5_code
def yE_ex : MethodName := ⟨"java/lang/Exception", "<init>", "(Ljava/lang/String;Ljava/lang/Throwable;ZZ)V"⟩
abbrev cE_ex : ByteArray := prog_21_method_5_code
def yE_th : MethodName := ⟨"java/lang/Throwable", "<init>", "(Ljava/lang/String;Ljava/lang/Throwable;ZZ)V"⟩
abbrev cE_th : ByteArray := prog_29_method_5_code
abbrev kfX11_init : Kf := (RX11, "<init>", cX11_init, 1, none)
abbrev wX11_init : Cond := Cond.code yX11_init cX11_init 1 none
theorem cwX11_init : CW yX11_init wX11_init 1 0 := CW.of (lw_g_in (i := 104) (by decide +kernel) (by decide +kernel)) (lw_g_in (i := 70) (by decide +kernel) (by decide +kernel)) ⟨by decide, by decide⟩ (by decide +kernel)
abbrev kfX8_init : Kf := (RX8, "<init>", cX8_init, 1, none)
abbrev wX8_init : Cond := Cond.code yX8_init cX8_init 1 none
theorem cwX8_init : CW yX8_init wX8_init 1 0 := CW.of (lw_g_in (i := 112) (by decide +kernel) (by decide +kernel)) (lw_g_in (i := 71) (by decide +kernel) (by decide +kernel)) ⟨by decide, by decide⟩ (by decide +kernel)
abbrev kfX4_init : Kf := (RX4, "<init>", cX4_init, 2, none)
abbrev wX4_init : Cond := Cond.code yX4_init cX4_init 2 none
theorem cwX4_init : CW yX4_init wX4_init 2 1 := CW.of (lw_g_in (i := 145) (by decide +kernel) (by decide +kernel)) (lw_g_in (i := 72) (by decide +kernel) (by decide +kernel)) ⟨by decide, by decide⟩ (by decide +kernel)
abbrev kfX10_init : Kf := (RX10, "<init>", cX10_init, 1, none)
abbrev wX10_init : Cond := Cond.code yX10_init cX10_init 1 none
theorem cwX10_init : CW yX10_init wX10_init 1 0 := CW.of (lw_g_in (i := 151) (by decide +kernel) (by decide +kernel)) (lw_g_in (i := 73) (by decide +kernel) (by decide +kernel)) ⟨by decide, by decide⟩ (by decide +kernel)
abbrev kfJx4a65c_init_da8c8 : Kf := (RJx4a65c, "<init>", cJx4a65c_init_da8c8, 1, none)
abbrev wJx4a65c_init_da8c8 : Cond := Cond.code yJx4a65c_init_da8c8 cJx4a65c_init_da8c8 1 none
theorem cwJx4a65c_init_da8c8 : CW yJx4a65c_init_da8c8 wJx4a65c_init_da8c8 1 0 := CW.of (lw_g_in (i := 216) (by decide +kernel) (by decide +kernel)) (lw_g_in (i := 76) (by decide +kernel) (by decide +kernel)) ⟨by decide, by decide⟩ (by decide +kernel)
abbrev kfJxc12de_init_da8c8 : Kf := (RJxc12de, "<init>", cJxc12de_init_da8c8, 1, none)
abbrev wJxc12de_init_da8c8 : Cond := Cond.code yJxc12de_init_da8c8 cJxc12de_init_da8c8 1 none
theorem cwJxc12de_init_da8c8 : CW yJxc12de_init_da8c8 wJxc12de_init_da8c8 1 0 := CW.of (lw_g_in (i := 219) (by decide +kernel) (by decide +kernel)) (lw_g_in (i := 75) (by decide +kernel) (by decide +kernel)) ⟨by decide, by decide⟩ (by decide +kernel)
abbrev kfJxa1e45_init_da8c8 : Kf := (RJxa1e45, "<init>", cJxa1e45_init_da8c8, 1, none)
abbrev wJxa1e45_init_da8c8 : Cond := Cond.code yJxa1e45_init_da8c8 cJxa1e45_init_da8c8 1 none
theorem cwJxa1e45_init_da8c8 : CW yJxa1e45_init_da8c8 wJxa1e45_init_da8c8 1 0 := CW.of (lw_g_in (i := 222) (by decide +kernel) (by decide +kernel)) (lw_g_in (i := 74) (by decide +kernel) (by decide +kernel)) ⟨by decide, by decide⟩ (by decide +kernel)
abbrev kfX6_init : Kf := (RX6, "<init>", cX6_init, 1, none)
abbrev wX6_init : Cond := Cond.code yX6_init cX6_init 1 none
theorem cwX6_init : CW yX6_init wX6_init 1 0 := CW.of (lw_g_in (i := 242) (by decide +kernel) (by decide +kernel)) (lw_g_in (i := 77) (by decide +kernel) (by decide +kernel)) ⟨by decide, by decide⟩ (by decide +kernel)
abbrev kfX9_init : Kf := (RX9, "<init>", cX9_init, 1, none)
abbrev wX9_init : Cond := Cond.code yX9_init cX9_init 1 none
theorem cwX9_init : CW yX9_init wX9_init 1 0 := CW.of (lw_g_in (i := 254) (by decide +kernel) (by decide +kernel)) (lw_g_in (i := 78) (by decide +kernel) (by decide +kernel)) ⟨by decide, by decide⟩ (by decide +kernel)
abbrev kfX1_init : Kf := (RX1, "<init>", cX1_init, 1, none)
abbrev wX1_init : Cond := Cond.code yX1_init cX1_init 1 none
theorem cwX1_init : CW yX1_init wX1_init 1 0 := CW.of (lw_g_in (i := 273) (by decide +kernel) (by decide +kernel)) (lw_g_in (i := 79) (by decide +kernel) (by decide +kernel)) ⟨by decide, by decide⟩ (by decide +kernel)
abbrev kfX11_will : Kf := (RX11, "will", cX11_will, 1, (some .int))
abbrev wX11_will : Cond := Cond.code yX11_will cX11_will 1 (some .int)
theorem cwX11_will : CW yX11_will wX11_will 1 0 := CW.of (lw_g_in (i := 339) (by decide +kernel) (by decide +kernel)) (lw_g_in (i := 70) (by decide +kernel) (by decide +kernel)) ⟨by decide, by decide⟩ (by decide +kernel)
abbrev kfX11_refuse : Kf := (RX11, "refuse", cX11_refuse, 2, (some .int))
abbrev wX11_refuse : Cond := Cond.code yX11_refuse cX11_refuse 2 (some .int)
theorem cwX11_refuse : CW yX11_refuse wX11_refuse 2 1 := CW.of (lw_g_in (i := 343) (by decide +kernel) (by decide +kernel)) (lw_g_in (i := 70) (by decide +kernel) (by decide +kernel)) ⟨by decide, by decide⟩ (by decide +kernel)
abbrev kfX11_accept : Kf := (RX11, "accept", cX11_accept, 2, (some .int))
abbrev wX11_accept : Cond := Cond.code yX11_accept cX11_accept 2 (some .int)
theorem cwX11_accept : CW yX11_accept wX11_accept 2 1 := CW.of (lw_g_in (i := 347) (by decide +kernel) (by decide +kernel)) (lw_g_in (i := 70) (by decide +kernel) (by decide +kernel)) ⟨by decide, by decide⟩ (by decide +kernel)
abbrev kfX11_feed : Kf := (RX11, "feed", cX11_feed, 6, (some .int))
abbrev wX11_feed : Cond := Cond.code yX11_feed cX11_feed 6 (some .int)
theorem cwX11_feed : CW yX11_feed wX11_feed 6 5 := CW.of (lw_g_in (i := 351) (by decide +kernel) (by decide +kernel)) (lw_g_in (i := 70) (by decide +kernel) (by decide +kernel)) ⟨by decide, by decide⟩ (by decide +kernel)
abbrev kfX8_append : Kf := (RX8, "append", cX8_append, 3, none)
abbrev wX8_append : Cond := Cond.code yX8_append cX8_append 3 none
theorem cwX8_append : CW yX8_append wX8_append 3 1 := CW.of (lw_g_in (i := 355) (by decide +kernel) (by decide +kernel)) (lw_g_in (i := 71) (by decide +kernel) (by decide +kernel)) ⟨by decide, by decide⟩ (by decide +kernel)
abbrev kfX11_scheme : Kf := (RX11, "scheme", cX11_scheme, 4, (some .int))
abbrev wX11_scheme : Cond := Cond.code yX11_scheme cX11_scheme 4 (some .int)
theorem cwX11_scheme : CW yX11_scheme wX11_scheme 4 3 := CW.of (lw_g_in (i := 359) (by decide +kernel) (by decide +kernel)) (lw_g_in (i := 70) (by decide +kernel) (by decide +kernel)) ⟨by decide, by decide⟩ (by decide +kernel)
abbrev kfX11_isWill : Kf := (RX11, "isWill", cX11_isWill, 2, (some .boolean))
abbrev wX11_isWill : Cond := Cond.code yX11_isWill cX11_isWill 2 (some .boolean)
theorem cwX11_isWill : CW yX11_isWill wX11_isWill 2 1 := CW.of (lw_g_in (i := 363) (by decide +kernel) (by decide +kernel)) (lw_g_in (i := 70) (by decide +kernel) (by decide +kernel)) ⟨by decide, by decide⟩ (by decide +kernel)
abbrev kfX11_isDay : Kf := (RX11, "isDay", cX11_isDay, 1, (some .boolean))
abbrev wX11_isDay : Cond := Cond.code yX11_isDay cX11_isDay 1 (some .boolean)
theorem cwX11_isDay : CW yX11_isDay wX11_isDay 1 1 := CW.of (lw_g_in (i := 366) (by decide +kernel) (by decide +kernel)) (lw_g_in (i := 70) (by decide +kernel) (by decide +kernel)) ⟨by decide, by decide⟩ (by decide +kernel)
abbrev kfX4_read : Kf := (RX4, "read", cX4_read, 4, (some .int))
abbrev wX4_read : Cond := Cond.code yX4_read cX4_read 4 (some .int)
theorem cwX4_read : CW yX4_read wX4_read 4 1 := CW.of (lw_g_in (i := 371) (by decide +kernel) (by decide +kernel)) (lw_g_in (i := 72) (by decide +kernel) (by decide +kernel)) ⟨by decide, by decide⟩ (by decide +kernel)
abbrev kfX4_begin : Kf := (RX4, "begin", cX4_begin, 1, none)
abbrev wX4_begin : Cond := Cond.code yX4_begin cX4_begin 1 none
theorem cwX4_begin : CW yX4_begin wX4_begin 1 0 := CW.of (lw_g_in (i := 375) (by decide +kernel) (by decide +kernel)) (lw_g_in (i := 72) (by decide +kernel) (by decide +kernel)) ⟨by decide, by decide⟩ (by decide +kernel)
abbrev kfX10_begin : Kf := (RX10, "begin", cX10_begin, 1, none)
abbrev wX10_begin : Cond := Cond.code yX10_begin cX10_begin 1 none
theorem cwX10_begin : CW yX10_begin wX10_begin 1 0 := CW.of (lw_g_in (i := 379) (by decide +kernel) (by decide +kernel)) (lw_g_in (i := 73) (by decide +kernel) (by decide +kernel)) ⟨by decide, by decide⟩ (by decide +kernel)
abbrev kfX8_rewind : Kf := (RX8, "rewind", cX8_rewind, 2, none)
abbrev wX8_rewind : Cond := Cond.code yX8_rewind cX8_rewind 2 none
theorem cwX8_rewind : CW yX8_rewind wX8_rewind 2 1 := CW.of (lw_g_in (i := 383) (by decide +kernel) (by decide +kernel)) (lw_g_in (i := 71) (by decide +kernel) (by decide +kernel)) ⟨by decide, by decide⟩ (by decide +kernel)
abbrev kfX8_advance : Kf := (RX8, "advance", cX8_advance, 1, none)
abbrev wX8_advance : Cond := Cond.code yX8_advance cX8_advance 1 none
theorem cwX8_advance : CW yX8_advance wX8_advance 1 0 := CW.of (lw_g_in (i := 387) (by decide +kernel) (by decide +kernel)) (lw_g_in (i := 71) (by decide +kernel) (by decide +kernel)) ⟨by decide, by decide⟩ (by decide +kernel)
abbrev kfX8_byteAt : Kf := (RX8, "byteAt", cX8_byteAt, 2, (some .int))
abbrev wX8_byteAt : Cond := Cond.code yX8_byteAt cX8_byteAt 2 (some .int)
theorem cwX8_byteAt : CW yX8_byteAt wX8_byteAt 2 1 := CW.of (lw_g_in (i := 391) (by decide +kernel) (by decide +kernel)) (lw_g_in (i := 71) (by decide +kernel) (by decide +kernel)) ⟨by decide, by decide⟩ (by decide +kernel)
abbrev kfX8_isDigit : Kf := (RX8, "isDigit", cX8_isDigit, 1, (some .boolean))
abbrev wX8_isDigit : Cond := Cond.code yX8_isDigit cX8_isDigit 1 (some .boolean)
theorem cwX8_isDigit : CW yX8_isDigit wX8_isDigit 1 1 := CW.of (lw_g_in (i := 394) (by decide +kernel) (by decide +kernel)) (lw_g_in (i := 71) (by decide +kernel) (by decide +kernel)) ⟨by decide, by decide⟩ (by decide +kernel)
abbrev kfX8_takeNumber : Kf := (RX8, "takeNumber", cX8_takeNumber, 1, none)
abbrev wX8_takeNumber : Cond := Cond.code yX8_takeNumber cX8_takeNumber 1 none
theorem cwX8_takeNumber : CW yX8_takeNumber wX8_takeNumber 1 0 := CW.of (lw_g_in (i := 398) (by decide +kernel) (by decide +kernel)) (lw_g_in (i := 71) (by decide +kernel) (by decide +kernel)) ⟨by decide, by decide⟩ (by decide +kernel)
abbrev kfX8_isLetter : Kf := (RX8, "isLetter", cX8_isLetter, 1, (some .boolean))
abbrev wX8_isLetter : Cond := Cond.code yX8_isLetter cX8_isLetter 1 (some .boolean)
theorem cwX8_isLetter : CW yX8_isLetter wX8_isLetter 1 1 := CW.of (lw_g_in (i := 401) (by decide +kernel) (by decide +kernel)) (lw_g_in (i := 71) (by decide +kernel) (by decide +kernel)) ⟨by decide, by decide⟩ (by decide +kernel)
abbrev kfX8_takeWord : Kf := (RX8, "takeWord", cX8_takeWord, 1, none)
abbrev wX8_takeWord : Cond := Cond.code yX8_takeWord cX8_takeWord 1 none
theorem cwX8_takeWord : CW yX8_takeWord wX8_takeWord 1 0 := CW.of (lw_g_in (i := 405) (by decide +kernel) (by decide +kernel)) (lw_g_in (i := 71) (by decide +kernel) (by decide +kernel)) ⟨by decide, by decide⟩ (by decide +kernel)
abbrev kfX8_keywordKind : Kf := (RX8, "keywordKind", cX8_keywordKind, 1, (some .int))
abbrev wX8_keywordKind : Cond := Cond.code yX8_keywordKind cX8_keywordKind 1 (some .int)
theorem cwX8_keywordKind : CW yX8_keywordKind wX8_keywordKind 1 0 := CW.of (lw_g_in (i := 409) (by decide +kernel) (by decide +kernel)) (lw_g_in (i := 71) (by decide +kernel) (by decide +kernel)) ⟨by decide, by decide⟩ (by decide +kernel)
abbrev kfX8_spells : Kf := (RX8, "spells", cX8_spells, 3, (some .boolean))
abbrev wX8_spells : Cond := Cond.code yX8_spells cX8_spells 3 (some .boolean)
theorem cwX8_spells : CW yX8_spells wX8_spells 3 1 := CW.of (lw_g_in (i := 414) (by decide +kernel) (by decide +kernel)) (lw_g_in (i := 71) (by decide +kernel) (by decide +kernel)) ⟨by decide, by decide⟩ (by decide +kernel)
abbrev kfJ0_length_8abf5 : Kf := (RJ0, "length", cJ0_length_8abf5, 1, (some .int))
abbrev wJ0_length_8abf5 : Cond := Cond.code yJ0_length_8abf5 cJ0_length_8abf5 1 (some .int)
theorem cwJ0_length_8abf5 : CW yJ0_length_8abf5 wJ0_length_8abf5 1 0 := CW.of (lw_g_in (i := 418) (by decide +kernel) (by decide +kernel)) (lw_g_in (i := 86) (by decide +kernel) (by decide +kernel)) ⟨by decide, by decide⟩ (by decide +kernel)
abbrev kfJ0_coder_7d493 : Kf := (RJ0, "coder", cJ0_coder_7d493, 1, (some .byte))
abbrev wJ0_coder_7d493 : Cond := Cond.code yJ0_coder_7d493 cJ0_coder_7d493 1 (some .byte)
theorem cwJ0_coder_7d493 : CW yJ0_coder_7d493 wJ0_coder_7d493 1 0 := CW.of (lw_g_in (i := 422) (by decide +kernel) (by decide +kernel)) (lw_g_in (i := 86) (by decide +kernel) (by decide +kernel)) ⟨by decide, by decide⟩ (by decide +kernel)
abbrev kfJ0_charAt_5068e : Kf := (RJ0, "charAt", cJ0_charAt_5068e, 2, (some .char))
abbrev wJ0_charAt_5068e : Cond := Cond.code yJ0_charAt_5068e cJ0_charAt_5068e 2 (some .char)
theorem cwJ0_charAt_5068e : CW yJ0_charAt_5068e wJ0_charAt_5068e 2 1 := CW.of (lw_g_in (i := 428) (by decide +kernel) (by decide +kernel)) (lw_g_in (i := 86) (by decide +kernel) (by decide +kernel)) ⟨by decide, by decide⟩ (by decide +kernel)
abbrev kfJ0_isLatin1_aae02 : Kf := (RJ0, "isLatin1", cJ0_isLatin1_aae02, 1, (some .boolean))
abbrev wJ0_isLatin1_aae02 : Cond := Cond.code yJ0_isLatin1_aae02 cJ0_isLatin1_aae02 1 (some .boolean)
theorem cwJ0_isLatin1_aae02 : CW yJ0_isLatin1_aae02 wJ0_isLatin1_aae02 1 0 := CW.of (lw_g_in (i := 432) (by decide +kernel) (by decide +kernel)) (lw_g_in (i := 86) (by decide +kernel) (by decide +kernel)) ⟨by decide, by decide⟩ (by decide +kernel)
abbrev kfJ1_charAt_3b067 : Kf := (RJ1, "charAt", cJ1_charAt_3b067, 2, (some .char))
abbrev wJ1_charAt_3b067 : Cond := Cond.code yJ1_charAt_3b067 cJ1_charAt_3b067 2 (some .char)
theorem cwJ1_charAt_3b067 : CW yJ1_charAt_3b067 wJ1_charAt_3b067 2 2 := CW.of (lw_g_in (i := 435) (by decide +kernel) (by decide +kernel)) (lw_g_in (i := 87) (by decide +kernel) (by decide +kernel)) ⟨by decide, by decide⟩ (by decide +kernel)
abbrev kfJ0_checkIndex_df160 : Kf := (RJ0, "checkIndex", cJ0_checkIndex_df160, 2, none)
abbrev wJ0_checkIndex_df160 : Cond := Cond.code yJ0_checkIndex_df160 cJ0_checkIndex_df160 2 none
theorem cwJ0_checkIndex_df160 : CW yJ0_checkIndex_df160 wJ0_checkIndex_df160 2 2 := CW.of (lw_g_in (i := 438) (by decide +kernel) (by decide +kernel)) (lw_g_in (i := 86) (by decide +kernel) (by decide +kernel)) ⟨by decide, by decide⟩ (by decide +kernel)
abbrev kfJ3_checkIndex_8e157 : Kf := (RJ3, "checkIndex", cJ3_checkIndex_8e157, 3, (some .int))
abbrev wJ3_checkIndex_8e157 : Cond := Cond.code yJ3_checkIndex_8e157 cJ3_checkIndex_8e157 3 (some .int)
theorem cwJ3_checkIndex_8e157 : CW yJ3_checkIndex_8e157 wJ3_checkIndex_8e157 3 3 := CW.of (lw_g_in (i := 443) (by decide +kernel) (by decide +kernel)) (lw_g_in (i := 88) (by decide +kernel) (by decide +kernel)) ⟨by decide, by decide⟩ (by decide +kernel)
abbrev kfJ2_charAt_3b067 : Kf := (RJ2, "charAt", cJ2_charAt_3b067, 2, (some .char))
abbrev wJ2_charAt_3b067 : Cond := Cond.code yJ2_charAt_3b067 cJ2_charAt_3b067 2 (some .char)
theorem cwJ2_charAt_3b067 : CW yJ2_charAt_3b067 wJ2_charAt_3b067 2 2 := CW.of (lw_g_in (i := 446) (by decide +kernel) (by decide +kernel)) (lw_g_in (i := 89) (by decide +kernel) (by decide +kernel)) ⟨by decide, by decide⟩ (by decide +kernel)
abbrev kfJ2_checkIndex_2214a : Kf := (RJ2, "checkIndex", cJ2_checkIndex_2214a, 2, none)
abbrev wJ2_checkIndex_2214a : Cond := Cond.code yJ2_checkIndex_2214a cJ2_checkIndex_2214a 2 none
theorem cwJ2_checkIndex_2214a : CW yJ2_checkIndex_2214a wJ2_checkIndex_2214a 2 2 := CW.of (lw_g_in (i := 449) (by decide +kernel) (by decide +kernel)) (lw_g_in (i := 89) (by decide +kernel) (by decide +kernel)) ⟨by decide, by decide⟩ (by decide +kernel)
abbrev kfJ2_length_9d52b : Kf := (RJ2, "length", cJ2_length_9d52b, 1, (some .int))
abbrev wJ2_length_9d52b : Cond := Cond.code yJ2_length_9d52b cJ2_length_9d52b 1 (some .int)
theorem cwJ2_length_9d52b : CW yJ2_length_9d52b wJ2_length_9d52b 1 1 := CW.of (lw_g_in (i := 452) (by decide +kernel) (by decide +kernel)) (lw_g_in (i := 89) (by decide +kernel) (by decide +kernel)) ⟨by decide, by decide⟩ (by decide +kernel)
abbrev kfJ2_getChar_3b067 : Kf := (RJ2, "getChar", cJ2_getChar_3b067, 2, (some .char))
abbrev wJ2_getChar_3b067 : Cond := Cond.code yJ2_getChar_3b067 cJ2_getChar_3b067 2 (some .char)
theorem cwJ2_getChar_3b067 : CW yJ2_getChar_3b067 wJ2_getChar_3b067 2 2 := CW.of (lw_g_in (i := 456) (by decide +kernel) (by decide +kernel)) (lw_g_in (i := 89) (by decide +kernel) (by decide +kernel)) ⟨by decide, by decide⟩ (by decide +kernel)
abbrev kfX8_nameNumber : Kf := (RX8, "nameNumber", cX8_nameNumber, 1, (some .int))
abbrev wX8_nameNumber : Cond := Cond.code yX8_nameNumber cX8_nameNumber 1 (some .int)
theorem cwX8_nameNumber : CW yX8_nameNumber wX8_nameNumber 1 0 := CW.of (lw_g_in (i := 471) (by decide +kernel) (by decide +kernel)) (lw_g_in (i := 71) (by decide +kernel) (by decide +kernel)) ⟨by decide, by decide⟩ (by decide +kernel)
abbrev kfX8_isSign : Kf := (RX8, "isSign", cX8_isSign, 1, (some .boolean))
abbrev wX8_isSign : Cond := Cond.code yX8_isSign cX8_isSign 1 (some .boolean)
theorem cwX8_isSign : CW yX8_isSign wX8_isSign 1 1 := CW.of (lw_g_in (i := 479) (by decide +kernel) (by decide +kernel)) (lw_g_in (i := 71) (by decide +kernel) (by decide +kernel)) ⟨by decide, by decide⟩ (by decide +kernel)
abbrev kfX4_step : Kf := (RX4, "step", cX4_step, 2, (some .int))
abbrev wX4_step : Cond := Cond.code yX4_step cX4_step 2 (some .int)
theorem cwX4_step : CW yX4_step wX4_step 2 1 := CW.of (lw_g_in (i := 483) (by decide +kernel) (by decide +kernel)) (lw_g_in (i := 72) (by decide +kernel) (by decide +kernel)) ⟨by decide, by decide⟩ (by decide +kernel)
abbrev kfX4_readChange : Kf := (RX4, "readChange", cX4_readChange, 2, (some .int))
abbrev wX4_readChange : Cond := Cond.code yX4_readChange cX4_readChange 2 (some .int)
theorem cwX4_readChange : CW yX4_readChange wX4_readChange 2 0 := CW.of (lw_g_in (i := 487) (by decide +kernel) (by decide +kernel)) (lw_g_in (i := 72) (by decide +kernel) (by decide +kernel)) ⟨by decide, by decide⟩ (by decide +kernel)
abbrev kfX4_faulty : Kf := (RX4, "faulty", cX4_faulty, 2, (some .int))
abbrev wX4_faulty : Cond := Cond.code yX4_faulty cX4_faulty 2 (some .int)
theorem cwX4_faulty : CW yX4_faulty wX4_faulty 2 1 := CW.of (lw_g_in (i := 491) (by decide +kernel) (by decide +kernel)) (lw_g_in (i := 72) (by decide +kernel) (by decide +kernel)) ⟨by decide, by decide⟩ (by decide +kernel)
abbrev kfX4_readClauseNumber : Kf := (RX4, "readClauseNumber", cX4_readClauseNumber, 2, (some .int))
abbrev wX4_readClauseNumber : Cond := Cond.code yX4_readClauseNumber cX4_readClauseNumber 2 (some .int)
theorem cwX4_readClauseNumber : CW yX4_readClauseNumber wX4_readClauseNumber 2 1 := CW.of (lw_g_in (i := 495) (by decide +kernel) (by decide +kernel)) (lw_g_in (i := 72) (by decide +kernel) (by decide +kernel)) ⟨by decide, by decide⟩ (by decide +kernel)
abbrev kfX4_readBehindChange : Kf := (RX4, "readBehindChange", cX4_readBehindChange, 1, (some .int))
abbrev wX4_readBehindChange : Cond := Cond.code yX4_readBehindChange cX4_readBehindChange 1 (some .int)
theorem cwX4_readBehindChange : CW yX4_readBehindChange wX4_readBehindChange 1 0 := CW.of (lw_g_in (i := 499) (by decide +kernel) (by decide +kernel)) (lw_g_in (i := 72) (by decide +kernel) (by decide +kernel)) ⟨by decide, by decide⟩ (by decide +kernel)
abbrev kfX4_readOne : Kf := (RX4, "readOne", cX4_readOne, 1, (some .int))
abbrev wX4_readOne : Cond := Cond.code yX4_readOne cX4_readOne 1 (some .int)
theorem cwX4_readOne : CW yX4_readOne wX4_readOne 1 0 := CW.of (lw_g_in (i := 503) (by decide +kernel) (by decide +kernel)) (lw_g_in (i := 72) (by decide +kernel) (by decide +kernel)) ⟨by decide, by decide⟩ (by decide +kernel)
abbrev kfX10_hold : Kf := (RX10, "hold", cX10_hold, 2, none)
abbrev wX10_hold : Cond := Cond.code yX10_hold cX10_hold 2 none
theorem cwX10_hold : CW yX10_hold wX10_hold 2 1 := CW.of (lw_g_in (i := 507) (by decide +kernel) (by decide +kernel)) (lw_g_in (i := 73) (by decide +kernel) (by decide +kernel)) ⟨by decide, by decide⟩ (by decide +kernel)
abbrev kfX4_noName : Kf := (RX4, "noName", cX4_noName, 1, (some .int))
abbrev wX4_noName : Cond := Cond.code yX4_noName cX4_noName 1 (some .int)
theorem cwX4_noName : CW yX4_noName wX4_noName 1 0 := CW.of (lw_g_in (i := 511) (by decide +kernel) (by decide +kernel)) (lw_g_in (i := 72) (by decide +kernel) (by decide +kernel)) ⟨by decide, by decide⟩ (by decide +kernel)
abbrev kfX4_readSign : Kf := (RX4, "readSign", cX4_readSign, 1, (some .int))
abbrev wX4_readSign : Cond := Cond.code yX4_readSign cX4_readSign 1 (some .int)
theorem cwX4_readSign : CW yX4_readSign wX4_readSign 1 0 := CW.of (lw_g_in (i := 515) (by decide +kernel) (by decide +kernel)) (lw_g_in (i := 72) (by decide +kernel) (by decide +kernel)) ⟨by decide, by decide⟩ (by decide +kernel)
abbrev kfX4_readValue : Kf := (RX4, "readValue", cX4_readValue, 1, (some .int))
abbrev wX4_readValue : Cond := Cond.code yX4_readValue cX4_readValue 1 (some .int)
theorem cwX4_readValue : CW yX4_readValue wX4_readValue 1 0 := CW.of (lw_g_in (i := 519) (by decide +kernel) (by decide +kernel)) (lw_g_in (i := 72) (by decide +kernel) (by decide +kernel)) ⟨by decide, by decide⟩ (by decide +kernel)
abbrev kfX0_step : Kf := (RX0, "step", cX0_step, 3, (some .int))
abbrev wX0_step : Cond := Cond.code yX0_step cX0_step 3 (some .int)
theorem cwX0_step : CW yX0_step wX0_step 3 3 := CW.of (lw_g_in (i := 522) (by decide +kernel) (by decide +kernel)) (lw_g_in (i := 90) (by decide +kernel) (by decide +kernel)) ⟨by decide, by decide⟩ (by decide +kernel)
abbrev kfX10_write : Kf := (RX10, "write", cX10_write, 2, none)
abbrev wX10_write : Cond := Cond.code yX10_write cX10_write 2 none
theorem cwX10_write : CW yX10_write wX10_write 2 1 := CW.of (lw_g_in (i := 526) (by decide +kernel) (by decide +kernel)) (lw_g_in (i := 73) (by decide +kernel) (by decide +kernel)) ⟨by decide, by decide⟩ (by decide +kernel)
abbrev kfX10_endOne : Kf := (RX10, "endOne", cX10_endOne, 1, none)
abbrev wX10_endOne : Cond := Cond.code yX10_endOne cX10_endOne 1 none
theorem cwX10_endOne : CW yX10_endOne wX10_endOne 1 0 := CW.of (lw_g_in (i := 530) (by decide +kernel) (by decide +kernel)) (lw_g_in (i := 73) (by decide +kernel) (by decide +kernel)) ⟨by decide, by decide⟩ (by decide +kernel)
abbrev kfX10_release : Kf := (RX10, "release", cX10_release, 2, none)
abbrev wX10_release : Cond := Cond.code yX10_release cX10_release 2 none
theorem cwX10_release : CW yX10_release wX10_release 2 1 := CW.of (lw_g_in (i := 534) (by decide +kernel) (by decide +kernel)) (lw_g_in (i := 73) (by decide +kernel) (by decide +kernel)) ⟨by decide, by decide⟩ (by decide +kernel)
abbrev kfX4_readBehindOne : Kf := (RX4, "readBehindOne", cX4_readBehindOne, 1, (some .int))
abbrev wX4_readBehindOne : Cond := Cond.code yX4_readBehindOne cX4_readBehindOne 1 (some .int)
theorem cwX4_readBehindOne : CW yX4_readBehindOne wX4_readBehindOne 1 0 := CW.of (lw_g_in (i := 539) (by decide +kernel) (by decide +kernel)) (lw_g_in (i := 72) (by decide +kernel) (by decide +kernel)) ⟨by decide, by decide⟩ (by decide +kernel)
abbrev kfX10_join : Kf := (RX10, "join", cX10_join, 2, none)
abbrev wX10_join : Cond := Cond.code yX10_join cX10_join 2 none
theorem cwX10_join : CW yX10_join wX10_join 2 1 := CW.of (lw_g_in (i := 543) (by decide +kernel) (by decide +kernel)) (lw_g_in (i := 73) (by decide +kernel) (by decide +kernel)) ⟨by decide, by decide⟩ (by decide +kernel)
abbrev kfX10_endAny : Kf := (RX10, "endAny", cX10_endAny, 1, none)
abbrev wX10_endAny : Cond := Cond.code yX10_endAny cX10_endAny 1 none
theorem cwX10_endAny : CW yX10_endAny wX10_endAny 1 0 := CW.of (lw_g_in (i := 548) (by decide +kernel) (by decide +kernel)) (lw_g_in (i := 73) (by decide +kernel) (by decide +kernel)) ⟨by decide, by decide⟩ (by decide +kernel)
abbrev kfX10_closeBracket : Kf := (RX10, "closeBracket", cX10_closeBracket, 1, none)
abbrev wX10_closeBracket : Cond := Cond.code yX10_closeBracket cX10_closeBracket 1 none
theorem cwX10_closeBracket : CW yX10_closeBracket wX10_closeBracket 1 0 := CW.of (lw_g_in (i := 552) (by decide +kernel) (by decide +kernel)) (lw_g_in (i := 73) (by decide +kernel) (by decide +kernel)) ⟨by decide, by decide⟩ (by decide +kernel)
abbrev kfX4_readTerm : Kf := (RX4, "readTerm", cX4_readTerm, 1, (some .int))
abbrev wX4_readTerm : Cond := Cond.code yX4_readTerm cX4_readTerm 1 (some .int)
theorem cwX4_readTerm : CW yX4_readTerm wX4_readTerm 1 0 := CW.of (lw_g_in (i := 556) (by decide +kernel) (by decide +kernel)) (lw_g_in (i := 72) (by decide +kernel) (by decide +kernel)) ⟨by decide, by decide⟩ (by decide +kernel)
abbrev kfX4_readBehindNumber : Kf := (RX4, "readBehindNumber", cX4_readBehindNumber, 1, (some .int))
abbrev wX4_readBehindNumber : Cond := Cond.code yX4_readBehindNumber cX4_readBehindNumber 1 (some .int)
theorem cwX4_readBehindNumber : CW yX4_readBehindNumber wX4_readBehindNumber 1 0 := CW.of (lw_g_in (i := 560) (by decide +kernel) (by decide +kernel)) (lw_g_in (i := 72) (by decide +kernel) (by decide +kernel)) ⟨by decide, by decide⟩ (by decide +kernel)
abbrev kfX4_readBehindTerm : Kf := (RX4, "readBehindTerm", cX4_readBehindTerm, 1, (some .int))
abbrev wX4_readBehindTerm : Cond := Cond.code yX4_readBehindTerm cX4_readBehindTerm 1 (some .int)
theorem cwX4_readBehindTerm : CW yX4_readBehindTerm wX4_readBehindTerm 1 0 := CW.of (lw_g_in (i := 564) (by decide +kernel) (by decide +kernel)) (lw_g_in (i := 72) (by decide +kernel) (by decide +kernel)) ⟨by decide, by decide⟩ (by decide +kernel)
abbrev kfX4_readFactor : Kf := (RX4, "readFactor", cX4_readFactor, 1, (some .int))
abbrev wX4_readFactor : Cond := Cond.code yX4_readFactor cX4_readFactor 1 (some .int)
theorem cwX4_readFactor : CW yX4_readFactor wX4_readFactor 1 0 := CW.of (lw_g_in (i := 568) (by decide +kernel) (by decide +kernel)) (lw_g_in (i := 72) (by decide +kernel) (by decide +kernel)) ⟨by decide, by decide⟩ (by decide +kernel)
abbrev kfX11_keepChanges : Kf := (RX11, "keepChanges", cX11_keepChanges, 4, none)
abbrev wX11_keepChanges : Cond := Cond.code yX11_keepChanges cX11_keepChanges 4 none
theorem cwX11_keepChanges : CW yX11_keepChanges wX11_keepChanges 4 2 := CW.of (lw_g_in (i := 572) (by decide +kernel) (by decide +kernel)) (lw_g_in (i := 70) (by decide +kernel) (by decide +kernel)) ⟨by decide, by decide⟩ (by decide +kernel)
abbrev kfX4_whatOf : Kf := (RX4, "whatOf", cX4_whatOf, 2, (some .int))
abbrev wX4_whatOf : Cond := Cond.code yX4_whatOf cX4_whatOf 2 (some .int)
theorem cwX4_whatOf : CW yX4_whatOf wX4_whatOf 2 1 := CW.of (lw_g_in (i := 578) (by decide +kernel) (by decide +kernel)) (lw_g_in (i := 72) (by decide +kernel) (by decide +kernel)) ⟨by decide, by decide⟩ (by decide +kernel)
abbrev kfX4_numberOf : Kf := (RX4, "numberOf", cX4_numberOf, 2, (some .int))
abbrev wX4_numberOf : Cond := Cond.code yX4_numberOf cX4_numberOf 2 (some .int)
theorem cwX4_numberOf : CW yX4_numberOf wX4_numberOf 2 1 := CW.of (lw_g_in (i := 582) (by decide +kernel) (by decide +kernel)) (lw_g_in (i := 72) (by decide +kernel) (by decide +kernel)) ⟨by decide, by decide⟩ (by decide +kernel)
abbrev kfX4_codeOf : Kf := (RX4, "codeOf", cX4_codeOf, 4, (some (.array .int)))
abbrev wX4_codeOf : Cond := Cond.code yX4_codeOf cX4_codeOf 4 (some (.array .int))
theorem cwX4_codeOf : CW yX4_codeOf wX4_codeOf 4 1 := CW.of (lw_g_in (i := 586) (by decide +kernel) (by decide +kernel)) (lw_g_in (i := 72) (by decide +kernel) (by decide +kernel)) ⟨by decide, by decide⟩ (by decide +kernel)
abbrev kfJ7_copyOfRange_feecc : Kf := (RJ7, "copyOfRange", cJ7_copyOfRange_feecc, 3, (some (.array .int)))
abbrev wJ7_copyOfRange_feecc : Cond := Cond.code yJ7_copyOfRange_feecc cJ7_copyOfRange_feecc 3 (some (.array .int))
theorem cwJ7_copyOfRange_feecc : CW yJ7_copyOfRange_feecc wJ7_copyOfRange_feecc 3 3 := CW.of (lw_g_in (i := 589) (by decide +kernel) (by decide +kernel)) (lw_g_in (i := 91) (by decide +kernel) (by decide +kernel)) ⟨by decide, by decide⟩ (by decide +kernel)
abbrev kfJ7_copyOfRangeInt_feecc : Kf := (RJ7, "copyOfRangeInt", cJ7_copyOfRangeInt_feecc, 5, (some (.array .int)))
abbrev wJ7_copyOfRangeInt_feecc : Cond := Cond.code yJ7_copyOfRangeInt_feecc cJ7_copyOfRangeInt_feecc 5 (some (.array .int))
theorem cwJ7_copyOfRangeInt_feecc : CW yJ7_copyOfRangeInt_feecc wJ7_copyOfRangeInt_feecc 5 3 := CW.of (lw_g_in (i := 592) (by decide +kernel) (by decide +kernel)) (lw_g_in (i := 91) (by decide +kernel) (by decide +kernel)) ⟨by decide, by decide⟩ (by decide +kernel)
abbrev kfJ7_checkLength_df160 : Kf := (RJ7, "checkLength", cJ7_checkLength_df160, 2, none)
abbrev wJ7_checkLength_df160 : Cond := Cond.code yJ7_checkLength_df160 cJ7_checkLength_df160 2 none
theorem cwJ7_checkLength_df160 : CW yJ7_checkLength_df160 wJ7_checkLength_df160 2 2 := CW.of (lw_g_in (i := 595) (by decide +kernel) (by decide +kernel)) (lw_g_in (i := 91) (by decide +kernel) (by decide +kernel)) ⟨by decide, by decide⟩ (by decide +kernel)
abbrev kfJ9_min_7cf53 : Kf := (RJ9, "min", cJ9_min_7cf53, 2, (some .int))
abbrev wJ9_min_7cf53 : Cond := Cond.code yJ9_min_7cf53 cJ9_min_7cf53 2 (some .int)
theorem cwJ9_min_7cf53 : CW yJ9_min_7cf53 wJ9_min_7cf53 2 2 := CW.of (lw_g_in (i := 598) (by decide +kernel) (by decide +kernel)) (lw_g_in (i := 92) (by decide +kernel) (by decide +kernel)) ⟨by decide, by decide⟩ (by decide +kernel)
abbrev kfX0_init : Kf := (RX0, "<init>", cX0_init, 7, none)
abbrev wX0_init : Cond := Cond.code yX0_init cX0_init 7 none
theorem cwX0_init : CW yX0_init wX0_init 7 6 := CW.of (lw_g_in (i := 611) (by decide +kernel) (by decide +kernel)) (lw_g_in (i := 90) (by decide +kernel) (by decide +kernel)) ⟨by decide, by decide⟩ (by decide +kernel)
abbrev kfJx4a65c_add_9ea2d : Kf := (RJx4a65c, "add", cJx4a65c_add_9ea2d, 2, (some .boolean))
abbrev wJx4a65c_add_9ea2d : Cond := Cond.code yJx4a65c_add_9ea2d cJx4a65c_add_9ea2d 2 (some .boolean)
theorem cwJx4a65c_add_9ea2d : CW yJx4a65c_add_9ea2d wJx4a65c_add_9ea2d 2 1 := CW.of (lw_g_in (i := 641) (by decide +kernel) (by decide +kernel)) (lw_g_in (i := 76) (by decide +kernel) (by decide +kernel)) ⟨by decide, by decide⟩ (by decide +kernel)
abbrev kfJx4a65c_add_72be8 : Kf := (RJx4a65c, "add", cJx4a65c_add_72be8, 4, none)
abbrev wJx4a65c_add_72be8 : Cond := Cond.code yJx4a65c_add_72be8 cJx4a65c_add_72be8 4 none
theorem cwJx4a65c_add_72be8 : CW yJx4a65c_add_72be8 wJx4a65c_add_72be8 4 3 := CW.of (lw_g_in (i := 645) (by decide +kernel) (by decide +kernel)) (lw_g_in (i := 76) (by decide +kernel) (by decide +kernel)) ⟨by decide, by decide⟩ (by decide +kernel)
abbrev kfJx4a65c_grow_d5877 : Kf := (RJx4a65c, "grow", cJx4a65c_grow_d5877, 1, (some (.array (.object "java/lang/Object"))))
abbrev wJx4a65c_grow_d5877 : Cond := Cond.code yJx4a65c_grow_d5877 cJx4a65c_grow_d5877 1 (some (.array (.object "java/lang/Object")))
theorem cwJx4a65c_grow_d5877 : CW yJx4a65c_grow_d5877 wJx4a65c_grow_d5877 1 0 := CW.of (lw_g_in (i := 649) (by decide +kernel) (by decide +kernel)) (lw_g_in (i := 76) (by decide +kernel) (by decide +kernel)) ⟨by decide, by decide⟩ (by decide +kernel)
abbrev kfJx4a65c_grow_92f84 : Kf := (RJx4a65c, "grow", cJx4a65c_grow_92f84, 4, (some (.array (.object "java/lang/Object"))))
abbrev wJx4a65c_grow_92f84 : Cond := Cond.code yJx4a65c_grow_92f84 cJx4a65c_grow_92f84 4 (some (.array (.object "java/lang/Object")))
theorem cwJx4a65c_grow_92f84 : CW yJx4a65c_grow_92f84 wJx4a65c_grow_92f84 4 1 := CW.of (lw_g_in (i := 653) (by decide +kernel) (by decide +kernel)) (lw_g_in (i := 76) (by decide +kernel) (by decide +kernel)) ⟨by decide, by decide⟩ (by decide +kernel)
abbrev kfJ8_newLength_cabcc : Kf := (RJ8, "newLength", cJ8_newLength_cabcc, 4, (some .int))
abbrev wJ8_newLength_cabcc : Cond := Cond.code yJ8_newLength_cabcc cJ8_newLength_cabcc 4 (some .int)
theorem cwJ8_newLength_cabcc : CW yJ8_newLength_cabcc wJ8_newLength_cabcc 4 3 := CW.of (lw_g_in (i := 656) (by decide +kernel) (by decide +kernel)) (lw_g_in (i := 94) (by decide +kernel) (by decide +kernel)) ⟨by decide, by decide⟩ (by decide +kernel)
abbrev kfJ9_max_7cf53 : Kf := (RJ9, "max", cJ9_max_7cf53, 2, (some .int))
abbrev wJ9_max_7cf53 : Cond := Cond.code yJ9_max_7cf53 cJ9_max_7cf53 2 (some .int)
theorem cwJ9_max_7cf53 : CW yJ9_max_7cf53 wJ9_max_7cf53 2 2 := CW.of (lw_g_in (i := 659) (by decide +kernel) (by decide +kernel)) (lw_g_in (i := 92) (by decide +kernel) (by decide +kernel)) ⟨by decide, by decide⟩ (by decide +kernel)
abbrev kfJ8_hugeLength_7cf53 : Kf := (RJ8, "hugeLength", cJ8_hugeLength_7cf53, 3, (some .int))
abbrev wJ8_hugeLength_7cf53 : Cond := Cond.code yJ8_hugeLength_7cf53 cJ8_hugeLength_7cf53 3 (some .int)
theorem cwJ8_hugeLength_7cf53 : CW yJ8_hugeLength_7cf53 wJ8_hugeLength_7cf53 3 2 := CW.of (lw_g_in (i := 663) (by decide +kernel) (by decide +kernel)) (lw_g_in (i := 94) (by decide +kernel) (by decide +kernel)) ⟨by decide, by decide⟩ (by decide +kernel)
abbrev kfJ7_copyOf_1904c : Kf := (RJ7, "copyOf", cJ7_copyOf_1904c, 2, (some (.array (.object "java/lang/Object"))))
abbrev wJ7_copyOf_1904c : Cond := Cond.code yJ7_copyOf_1904c cJ7_copyOf_1904c 2 (some (.array (.object "java/lang/Object")))
theorem cwJ7_copyOf_1904c : CW yJ7_copyOf_1904c wJ7_copyOf_1904c 2 2 := CW.of (lw_g_in (i := 666) (by decide +kernel) (by decide +kernel)) (lw_g_in (i := 91) (by decide +kernel) (by decide +kernel)) ⟨by decide, by decide⟩ (by decide +kernel)
abbrev kfJ7_copyOf_6403c : Kf := (RJ7, "copyOf", cJ7_copyOf_6403c, 4, (some (.array (.object "java/lang/Object"))))
abbrev wJ7_copyOf_6403c : Cond := Cond.code yJ7_copyOf_6403c cJ7_copyOf_6403c 4 (some (.array (.object "java/lang/Object")))
theorem cwJ7_copyOf_6403c : CW yJ7_copyOf_6403c wJ7_copyOf_6403c 4 3 := CW.of (lw_g_in (i := 689) (by decide +kernel) (by decide +kernel)) (lw_g_in (i := 91) (by decide +kernel) (by decide +kernel)) ⟨by decide, by decide⟩ (by decide +kernel)
abbrev kfX11_fault : Kf := (RX11, "fault", cX11_fault, 1, (some .int))
abbrev wX11_fault : Cond := Cond.code yX11_fault cX11_fault 1 (some .int)
theorem cwX11_fault : CW yX11_fault wX11_fault 1 0 := CW.of (lw_g_in (i := 698) (by decide +kernel) (by decide +kernel)) (lw_g_in (i := 70) (by decide +kernel) (by decide +kernel)) ⟨by decide, by decide⟩ (by decide +kernel)
abbrev kfX11_where : Kf := (RX11, "where", cX11_where, 1, (some .int))
abbrev wX11_where : Cond := Cond.code yX11_where cX11_where 1 (some .int)
theorem cwX11_where : CW yX11_where wX11_where 1 0 := CW.of (lw_g_in (i := 702) (by decide +kernel) (by decide +kernel)) (lw_g_in (i := 70) (by decide +kernel) (by decide +kernel)) ⟨by decide, by decide⟩ (by decide +kernel)
abbrev kfX11_clause : Kf := (RX11, "clause", cX11_clause, 5, (some .int))
abbrev wX11_clause : Cond := Cond.code yX11_clause cX11_clause 5 (some .int)
theorem cwX11_clause : CW yX11_clause wX11_clause 5 3 := CW.of (lw_g_in (i := 706) (by decide +kernel) (by decide +kernel)) (lw_g_in (i := 70) (by decide +kernel) (by decide +kernel)) ⟨by decide, by decide⟩ (by decide +kernel)
abbrev kfX6_settle : Kf := (RX6, "settle", cX6_settle, 6, none)
abbrev wX6_settle : Cond := Cond.code yX6_settle cX6_settle 6 none
theorem cwX6_settle : CW yX6_settle wX6_settle 6 3 := CW.of (lw_g_in (i := 710) (by decide +kernel) (by decide +kernel)) (lw_g_in (i := 77) (by decide +kernel) (by decide +kernel)) ⟨by decide, by decide⟩ (by decide +kernel)
abbrev kfJx4a65c_size_8abf5 : Kf := (RJx4a65c, "size", cJx4a65c_size_8abf5, 1, (some .int))
abbrev wJx4a65c_size_8abf5 : Cond := Cond.code yJx4a65c_size_8abf5 cJx4a65c_size_8abf5 1 (some .int)
theorem cwJx4a65c_size_8abf5 : CW yJx4a65c_size_8abf5 wJx4a65c_size_8abf5 1 0 := CW.of (lw_g_in (i := 714) (by decide +kernel) (by decide +kernel)) (lw_g_in (i := 76) (by decide +kernel) (by decide +kernel)) ⟨by decide, by decide⟩ (by decide +kernel)
abbrev kfJx4a65c_get_915e3 : Kf := (RJx4a65c, "get", cJx4a65c_get_915e3, 2, (some (.object "java/lang/Object")))
abbrev wJx4a65c_get_915e3 : Cond := Cond.code yJx4a65c_get_915e3 cJx4a65c_get_915e3 2 (some (.object "java/lang/Object"))
theorem cwJx4a65c_get_915e3 : CW yJx4a65c_get_915e3 wJx4a65c_get_915e3 2 1 := CW.of (lw_g_in (i := 718) (by decide +kernel) (by decide +kernel)) (lw_g_in (i := 76) (by decide +kernel) (by decide +kernel)) ⟨by decide, by decide⟩ (by decide +kernel)
abbrev kfJ15_checkIndex_7cf53 : Kf := (RJ15, "checkIndex", cJ15_checkIndex_7cf53, 2, (some .int))
abbrev wJ15_checkIndex_7cf53 : Cond := Cond.code yJ15_checkIndex_7cf53 cJ15_checkIndex_7cf53 2 (some .int)
theorem cwJ15_checkIndex_7cf53 : CW yJ15_checkIndex_7cf53 wJ15_checkIndex_7cf53 2 2 := CW.of (lw_g_in (i := 721) (by decide +kernel) (by decide +kernel)) (lw_g_in (i := 95) (by decide +kernel) (by decide +kernel)) ⟨by decide, by decide⟩ (by decide +kernel)
abbrev kfJx4a65c_elementData_915e3 : Kf := (RJx4a65c, "elementData", cJx4a65c_elementData_915e3, 2, (some (.object "java/lang/Object")))
abbrev wJx4a65c_elementData_915e3 : Cond := Cond.code yJx4a65c_elementData_915e3 cJx4a65c_elementData_915e3 2 (some (.object "java/lang/Object"))
theorem cwJx4a65c_elementData_915e3 : CW yJx4a65c_elementData_915e3 wJx4a65c_elementData_915e3 2 1 := CW.of (lw_g_in (i := 726) (by decide +kernel) (by decide +kernel)) (lw_g_in (i := 76) (by decide +kernel) (by decide +kernel)) ⟨by decide, by decide⟩ (by decide +kernel)
abbrev kfX6_consider : Kf := (RX6, "consider", cX6_consider, 4, none)
abbrev wX6_consider : Cond := Cond.code yX6_consider cX6_consider 4 none
theorem cwX6_consider : CW yX6_consider wX6_consider 4 1 := CW.of (lw_g_in (i := 730) (by decide +kernel) (by decide +kernel)) (lw_g_in (i := 77) (by decide +kernel) (by decide +kernel)) ⟨by decide, by decide⟩ (by decide +kernel)
abbrev kfX6_clauseAt : Kf := (RX6, "clauseAt", cX6_clauseAt, 3, (some (.object "AlmsHouse$Change")))
abbrev wX6_clauseAt : Cond := Cond.code yX6_clauseAt cX6_clauseAt 3 (some (.object "AlmsHouse$Change"))
theorem cwX6_clauseAt : CW yX6_clauseAt wX6_clauseAt 3 1 := CW.of (lw_g_in (i := 734) (by decide +kernel) (by decide +kernel)) (lw_g_in (i := 77) (by decide +kernel) (by decide +kernel)) ⟨by decide, by decide⟩ (by decide +kernel)
abbrev kfX11_clauses : Kf := (RX11, "clauses", cX11_clauses, 3, (some .int))
abbrev wX11_clauses : Cond := Cond.code yX11_clauses cX11_clauses 3 (some .int)
theorem cwX11_clauses : CW yX11_clauses wX11_clauses 3 2 := CW.of (lw_g_in (i := 738) (by decide +kernel) (by decide +kernel)) (lw_g_in (i := 70) (by decide +kernel) (by decide +kernel)) ⟨by decide, by decide⟩ (by decide +kernel)
abbrev kfX6_howMany : Kf := (RX6, "howMany", cX6_howMany, 3, (some .int))
abbrev wX6_howMany : Cond := Cond.code yX6_howMany cX6_howMany 3 (some .int)
theorem cwX6_howMany : CW yX6_howMany wX6_howMany 3 0 := CW.of (lw_g_in (i := 742) (by decide +kernel) (by decide +kernel)) (lw_g_in (i := 77) (by decide +kernel) (by decide +kernel)) ⟨by decide, by decide⟩ (by decide +kernel)
abbrev kfX11_person : Kf := (RX11, "person", cX11_person, 4, (some .int))
abbrev wX11_person : Cond := Cond.code yX11_person cX11_person 4 (some .int)
theorem cwX11_person : CW yX11_person wX11_person 4 3 := CW.of (lw_g_in (i := 747) (by decide +kernel) (by decide +kernel)) (lw_g_in (i := 70) (by decide +kernel) (by decide +kernel)) ⟨by decide, by decide⟩ (by decide +kernel)
abbrev kfX3_init : Kf := (RX3, "<init>", cX3_init, 5, none)
abbrev wX3_init : Cond := Cond.code yX3_init cX3_init 5 none
theorem cwX3_init : CW yX3_init wX3_init 5 4 := CW.of (lw_g_in (i := 754) (by decide +kernel) (by decide +kernel)) (lw_g_in (i := 96) (by decide +kernel) (by decide +kernel)) ⟨by decide, by decide⟩ (by decide +kernel)
abbrev kfX11_means : Kf := (RX11, "means", cX11_means, 5, (some .int))
abbrev wX11_means : Cond := Cond.code yX11_means cX11_means 5 (some .int)
theorem cwX11_means : CW yX11_means wX11_means 5 3 := CW.of (lw_g_in (i := 799) (by decide +kernel) (by decide +kernel)) (lw_g_in (i := 70) (by decide +kernel) (by decide +kernel)) ⟨by decide, by decide⟩ (by decide +kernel)
abbrev kfX11_personAt : Kf := (RX11, "personAt", cX11_personAt, 2, (some (.object "AlmsHouse$Person")))
abbrev wX11_personAt : Cond := Cond.code yX11_personAt cX11_personAt 2 (some (.object "AlmsHouse$Person"))
theorem cwX11_personAt : CW yX11_personAt wX11_personAt 2 1 := CW.of (lw_g_in (i := 803) (by decide +kernel) (by decide +kernel)) (lw_g_in (i := 70) (by decide +kernel) (by decide +kernel)) ⟨by decide, by decide⟩ (by decide +kernel)
abbrev kfX3_tellMeans : Kf := (RX3, "tellMeans", cX3_tellMeans, 3, none)
abbrev wX3_tellMeans : Cond := Cond.code yX3_tellMeans cX3_tellMeans 3 none
theorem cwX3_tellMeans : CW yX3_tellMeans wX3_tellMeans 3 2 := CW.of (lw_g_in (i := 808) (by decide +kernel) (by decide +kernel)) (lw_g_in (i := 96) (by decide +kernel) (by decide +kernel)) ⟨by decide, by decide⟩ (by decide +kernel)
abbrev kfX11_dies : Kf := (RX11, "dies", cX11_dies, 3, (some .boolean))
abbrev wX11_dies : Cond := Cond.code yX11_dies cX11_dies 3 (some .boolean)
theorem cwX11_dies : CW yX11_dies wX11_dies 3 1 := CW.of (lw_g_in (i := 812) (by decide +kernel) (by decide +kernel)) (lw_g_in (i := 70) (by decide +kernel) (by decide +kernel)) ⟨by decide, by decide⟩ (by decide +kernel)
abbrev kfX11_roomAt : Kf := (RX11, "roomAt", cX11_roomAt, 2, (some (.object "AlmsHouse$Room")))
abbrev wX11_roomAt : Cond := Cond.code yX11_roomAt cX11_roomAt 2 (some (.object "AlmsHouse$Room"))
theorem cwX11_roomAt : CW yX11_roomAt wX11_roomAt 2 1 := CW.of (lw_g_in (i := 817) (by decide +kernel) (by decide +kernel)) (lw_g_in (i := 70) (by decide +kernel) (by decide +kernel)) ⟨by decide, by decide⟩ (by decide +kernel)
abbrev kfX11_empty : Kf := (RX11, "empty", cX11_empty, 3, none)
abbrev wX11_empty : Cond := Cond.code yX11_empty cX11_empty 3 none
theorem cwX11_empty : CW yX11_empty wX11_empty 3 1 := CW.of (lw_g_in (i := 822) (by decide +kernel) (by decide +kernel)) (lw_g_in (i := 70) (by decide +kernel) (by decide +kernel)) ⟨by decide, by decide⟩ (by decide +kernel)
abbrev kfX11_fact : Kf := (RX11, "fact", cX11_fact, 5, (some .int))
abbrev wX11_fact : Cond := Cond.code yX11_fact cX11_fact 5 (some .int)
theorem cwX11_fact : CW yX11_fact wX11_fact 5 3 := CW.of (lw_g_in (i := 826) (by decide +kernel) (by decide +kernel)) (lw_g_in (i := 70) (by decide +kernel) (by decide +kernel)) ⟨by decide, by decide⟩ (by decide +kernel)
abbrev kfX3_tell : Kf := (RX3, "tell", cX3_tell, 3, (some .int))
abbrev wX3_tell : Cond := Cond.code yX3_tell cX3_tell 3 (some .int)
theorem cwX3_tell : CW yX3_tell wX3_tell 3 2 := CW.of (lw_g_in (i := 830) (by decide +kernel) (by decide +kernel)) (lw_g_in (i := 96) (by decide +kernel) (by decide +kernel)) ⟨by decide, by decide⟩ (by decide +kernel)
abbrev kfX3_meansOn : Kf := (RX3, "meansOn", cX3_meansOn, 5, (some .int))
abbrev wX3_meansOn : Cond := Cond.code yX3_meansOn cX3_meansOn 5 (some .int)
theorem cwX3_meansOn : CW yX3_meansOn wX3_meansOn 5 1 := CW.of (lw_g_in (i := 835) (by decide +kernel) (by decide +kernel)) (lw_g_in (i := 96) (by decide +kernel) (by decide +kernel)) ⟨by decide, by decide⟩ (by decide +kernel)
abbrev kfX11_may : Kf := (RX11, "may", cX11_may, 5, (some .int))
abbrev wX11_may : Cond := Cond.code yX11_may cX11_may 5 (some .int)
theorem cwX11_may : CW yX11_may wX11_may 5 3 := CW.of (lw_g_in (i := 839) (by decide +kernel) (by decide +kernel)) (lw_g_in (i := 70) (by decide +kernel) (by decide +kernel)) ⟨by decide, by decide⟩ (by decide +kernel)
abbrev kfX6_admits : Kf := (RX6, "admits", cX6_admits, 3, (some .boolean))
abbrev wX6_admits : Cond := Cond.code yX6_admits cX6_admits 3 (some .boolean)
theorem cwX6_admits : CW yX6_admits wX6_admits 3 2 := CW.of (lw_g_in (i := 843) (by decide +kernel) (by decide +kernel)) (lw_g_in (i := 77) (by decide +kernel) (by decide +kernel)) ⟨by decide, by decide⟩ (by decide +kernel)
abbrev kfX6_firstBar : Kf := (RX6, "firstBar", cX6_firstBar, 5, (some .int))
abbrev wX6_firstBar : Cond := Cond.code yX6_firstBar cX6_firstBar 5 (some .int)
theorem cwX6_firstBar : CW yX6_firstBar wX6_firstBar 5 2 := CW.of (lw_g_in (i := 848) (by decide +kernel) (by decide +kernel)) (lw_g_in (i := 77) (by decide +kernel) (by decide +kernel)) ⟨by decide, by decide⟩ (by decide +kernel)
abbrev kfX0_holdsFor : Kf := (RX0, "holdsFor", cX0_holdsFor, 7, (some .boolean))
abbrev wX0_holdsFor : Cond := Cond.code yX0_holdsFor cX0_holdsFor 7 (some .boolean)
theorem cwX0_holdsFor : CW yX0_holdsFor wX0_holdsFor 7 2 := CW.of (lw_g_in (i := 852) (by decide +kernel) (by decide +kernel)) (lw_g_in (i := 90) (by decide +kernel) (by decide +kernel)) ⟨by decide, by decide⟩ (by decide +kernel)
abbrev kfX0_doesOf : Kf := (RX0, "doesOf", cX0_doesOf, 1, (some .int))
abbrev wX0_doesOf : Cond := Cond.code yX0_doesOf cX0_doesOf 1 (some .int)
theorem cwX0_doesOf : CW yX0_doesOf wX0_doesOf 1 1 := CW.of (lw_g_in (i := 855) (by decide +kernel) (by decide +kernel)) (lw_g_in (i := 90) (by decide +kernel) (by decide +kernel)) ⟨by decide, by decide⟩ (by decide +kernel)
abbrev kfX0_nameOf : Kf := (RX0, "nameOf", cX0_nameOf, 1, (some .int))
abbrev wX0_nameOf : Cond := Cond.code yX0_nameOf cX0_nameOf 1 (some .int)
theorem cwX0_nameOf : CW yX0_nameOf wX0_nameOf 1 1 := CW.of (lw_g_in (i := 858) (by decide +kernel) (by decide +kernel)) (lw_g_in (i := 90) (by decide +kernel) (by decide +kernel)) ⟨by decide, by decide⟩ (by decide +kernel)
abbrev kfX0_numberOf : Kf := (RX0, "numberOf", cX0_numberOf, 1, (some .int))
abbrev wX0_numberOf : Cond := Cond.code yX0_numberOf cX0_numberOf 1 (some .int)
theorem cwX0_numberOf : CW yX0_numberOf wX0_numberOf 1 1 := CW.of (lw_g_in (i := 862) (by decide +kernel) (by decide +kernel)) (lw_g_in (i := 90) (by decide +kernel) (by decide +kernel)) ⟨by decide, by decide⟩ (by decide +kernel)
abbrev kfX0_compares : Kf := (RX0, "compares", cX0_compares, 3, (some .boolean))
abbrev wX0_compares : Cond := Cond.code yX0_compares cX0_compares 3 (some .boolean)
theorem cwX0_compares : CW yX0_compares wX0_compares 3 3 := CW.of (lw_g_in (i := 865) (by decide +kernel) (by decide +kernel)) (lw_g_in (i := 90) (by decide +kernel) (by decide +kernel)) ⟨by decide, by decide⟩ (by decide +kernel)
abbrev kfX11_bars : Kf := (RX11, "bars", cX11_bars, 5, (some .int))
abbrev wX11_bars : Cond := Cond.code yX11_bars cX11_bars 5 (some .int)
theorem cwX11_bars : CW yX11_bars wX11_bars 5 3 := CW.of (lw_g_in (i := 869) (by decide +kernel) (by decide +kernel)) (lw_g_in (i := 70) (by decide +kernel) (by decide +kernel)) ⟨by decide, by decide⟩ (by decide +kernel)
abbrev kfX11_order : Kf := (RX11, "order", cX11_order, 5, (some .int))
abbrev wX11_order : Cond := Cond.code yX11_order cX11_order 5 (some .int)
theorem cwX11_order : CW yX11_order wX11_order 5 3 := CW.of (lw_g_in (i := 874) (by decide +kernel) (by decide +kernel)) (lw_g_in (i := 70) (by decide +kernel) (by decide +kernel)) ⟨by decide, by decide⟩ (by decide +kernel)
abbrev kfX6_rank : Kf := (RX6, "rank", cX6_rank, 4, (some .int))
abbrev wX6_rank : Cond := Cond.code yX6_rank cX6_rank 4 (some .int)
theorem cwX6_rank : CW yX6_rank wX6_rank 4 2 := CW.of (lw_g_in (i := 878) (by decide +kernel) (by decide +kernel)) (lw_g_in (i := 77) (by decide +kernel) (by decide +kernel)) ⟨by decide, by decide⟩ (by decide +kernel)
abbrev kfX0_sumFor : Kf := (RX0, "sumFor", cX0_sumFor, 5, (some .int))
abbrev wX0_sumFor : Cond := Cond.code yX0_sumFor cX0_sumFor 5 (some .int)
theorem cwX0_sumFor : CW yX0_sumFor wX0_sumFor 5 2 := CW.of (lw_g_in (i := 882) (by decide +kernel) (by decide +kernel)) (lw_g_in (i := 90) (by decide +kernel) (by decide +kernel)) ⟨by decide, by decide⟩ (by decide +kernel)
abbrev kfX11_list : Kf := (RX11, "list", cX11_list, 5, (some .int))
abbrev wX11_list : Cond := Cond.code yX11_list cX11_list 5 (some .int)
theorem cwX11_list : CW yX11_list wX11_list 5 2 := CW.of (lw_g_in (i := 886) (by decide +kernel) (by decide +kernel)) (lw_g_in (i := 70) (by decide +kernel) (by decide +kernel)) ⟨by decide, by decide⟩ (by decide +kernel)
abbrev kfX11_next : Kf := (RX11, "next", cX11_next, 3, (some .int))
abbrev wX11_next : Cond := Cond.code yX11_next cX11_next 3 (some .int)
theorem cwX11_next : CW yX11_next wX11_next 3 2 := CW.of (lw_g_in (i := 890) (by decide +kernel) (by decide +kernel)) (lw_g_in (i := 70) (by decide +kernel) (by decide +kernel)) ⟨by decide, by decide⟩ (by decide +kernel)
abbrev kfX11_choose : Kf := (RX11, "choose", cX11_choose, 8, (some .int))
abbrev wX11_choose : Cond := Cond.code yX11_choose cX11_choose 8 (some .int)
theorem cwX11_choose : CW yX11_choose wX11_choose 8 2 := CW.of (lw_g_in (i := 894) (by decide +kernel) (by decide +kernel)) (lw_g_in (i := 70) (by decide +kernel) (by decide +kernel)) ⟨by decide, by decide⟩ (by decide +kernel)
abbrev kfX11_room : Kf := (RX11, "room", cX11_room, 2, (some .int))
abbrev wX11_room : Cond := Cond.code yX11_room cX11_room 2 (some .int)
theorem cwX11_room : CW yX11_room wX11_room 2 1 := CW.of (lw_g_in (i := 898) (by decide +kernel) (by decide +kernel)) (lw_g_in (i := 70) (by decide +kernel) (by decide +kernel)) ⟨by decide, by decide⟩ (by decide +kernel)
abbrev kfX5_init : Kf := (RX5, "<init>", cX5_init, 2, none)
abbrev wX5_init : Cond := Cond.code yX5_init cX5_init 2 none
theorem cwX5_init : CW yX5_init wX5_init 2 1 := CW.of (lw_g_in (i := 902) (by decide +kernel) (by decide +kernel)) (lw_g_in (i := 97) (by decide +kernel) (by decide +kernel)) ⟨by decide, by decide⟩ (by decide +kernel)
abbrev kfX11_trustee : Kf := (RX11, "trustee", cX11_trustee, 1, (some .int))
abbrev wX11_trustee : Cond := Cond.code yX11_trustee cX11_trustee 1 (some .int)
theorem cwX11_trustee : CW yX11_trustee wX11_trustee 1 0 := CW.of (lw_g_in (i := 919) (by decide +kernel) (by decide +kernel)) (lw_g_in (i := 70) (by decide +kernel) (by decide +kernel)) ⟨by decide, by decide⟩ (by decide +kernel)
abbrev kfX11_away : Kf := (RX11, "away", cX11_away, 3, (some .boolean))
abbrev wX11_away : Cond := Cond.code yX11_away cX11_away 3 (some .boolean)
theorem cwX11_away : CW yX11_away wX11_away 3 2 := CW.of (lw_g_in (i := 923) (by decide +kernel) (by decide +kernel)) (lw_g_in (i := 70) (by decide +kernel) (by decide +kernel)) ⟨by decide, by decide⟩ (by decide +kernel)
abbrev kfX9_setAbsent : Kf := (RX9, "setAbsent", cX9_setAbsent, 3, none)
abbrev wX9_setAbsent : Cond := Cond.code yX9_setAbsent cX9_setAbsent 3 none
theorem cwX9_setAbsent : CW yX9_setAbsent wX9_setAbsent 3 2 := CW.of (lw_g_in (i := 927) (by decide +kernel) (by decide +kernel)) (lw_g_in (i := 78) (by decide +kernel) (by decide +kernel)) ⟨by decide, by decide⟩ (by decide +kernel)
abbrev kfX11_fill : Kf := (RX11, "fill", cX11_fill, 7, (some .int))
abbrev wX11_fill : Cond := Cond.code yX11_fill cX11_fill 7 (some .int)
theorem cwX11_fill : CW yX11_fill wX11_fill 7 1 := CW.of (lw_g_in (i := 931) (by decide +kernel) (by decide +kernel)) (lw_g_in (i := 70) (by decide +kernel) (by decide +kernel)) ⟨by decide, by decide⟩ (by decide +kernel)
abbrev kfX9_giver : Kf := (RX9, "giver", cX9_giver, 3, (some .int))
abbrev wX9_giver : Cond := Cond.code yX9_giver cX9_giver 3 (some .int)
theorem cwX9_giver : CW yX9_giver wX9_giver 3 0 := CW.of (lw_g_in (i := 935) (by decide +kernel) (by decide +kernel)) (lw_g_in (i := 78) (by decide +kernel) (by decide +kernel)) ⟨by decide, by decide⟩ (by decide +kernel)
abbrev kfX9_behind : Kf := (RX9, "behind", cX9_behind, 2, (some .int))
abbrev wX9_behind : Cond := Cond.code yX9_behind cX9_behind 2 (some .int)
theorem cwX9_behind : CW yX9_behind wX9_behind 2 1 := CW.of (lw_g_in (i := 939) (by decide +kernel) (by decide +kernel)) (lw_g_in (i := 78) (by decide +kernel) (by decide +kernel)) ⟨by decide, by decide⟩ (by decide +kernel)
abbrev kfX7_init : Kf := (RX7, "<init>", cX7_init, 4, none)
abbrev wX7_init : Cond := Cond.code yX7_init cX7_init 4 none
theorem cwX7_init : CW yX7_init wX7_init 4 3 := CW.of (lw_g_in (i := 944) (by decide +kernel) (by decide +kernel)) (lw_g_in (i := 98) (by decide +kernel) (by decide +kernel)) ⟨by decide, by decide⟩ (by decide +kernel)
abbrev kfX9_moveTurnBehind : Kf := (RX9, "moveTurnBehind", cX9_moveTurnBehind, 2, none)
abbrev wX9_moveTurnBehind : Cond := Cond.code yX9_moveTurnBehind cX9_moveTurnBehind 2 none
theorem cwX9_moveTurnBehind : CW yX9_moveTurnBehind wX9_moveTurnBehind 2 1 := CW.of (lw_g_in (i := 967) (by decide +kernel) (by decide +kernel)) (lw_g_in (i := 78) (by decide +kernel) (by decide +kernel)) ⟨by decide, by decide⟩ (by decide +kernel)
abbrev kfX11_leave : Kf := (RX11, "leave", cX11_leave, 4, (some .int))
abbrev wX11_leave : Cond := Cond.code yX11_leave cX11_leave 4 (some .int)
theorem cwX11_leave : CW yX11_leave wX11_leave 4 1 := CW.of (lw_g_in (i := 971) (by decide +kernel) (by decide +kernel)) (lw_g_in (i := 70) (by decide +kernel) (by decide +kernel)) ⟨by decide, by decide⟩ (by decide +kernel)
abbrev kfX11_roomOf : Kf := (RX11, "roomOf", cX11_roomOf, 4, (some .int))
abbrev wX11_roomOf : Cond := Cond.code yX11_roomOf cX11_roomOf 4 (some .int)
theorem cwX11_roomOf : CW yX11_roomOf wX11_roomOf 4 2 := CW.of (lw_g_in (i := 975) (by decide +kernel) (by decide +kernel)) (lw_g_in (i := 70) (by decide +kernel) (by decide +kernel)) ⟨by decide, by decide⟩ (by decide +kernel)
abbrev kfX11_had : Kf := (RX11, "had", cX11_had, 5, (some .int))
abbrev wX11_had : Cond := Cond.code yX11_had cX11_had 5 (some .int)
theorem cwX11_had : CW yX11_had wX11_had 5 2 := CW.of (lw_g_in (i := 979) (by decide +kernel) (by decide +kernel)) (lw_g_in (i := 70) (by decide +kernel) (by decide +kernel)) ⟨by decide, by decide⟩ (by decide +kernel)
abbrev kfX11_land : Kf := (RX11, "land", cX11_land, 6, (some .int))
abbrev wX11_land : Cond := Cond.code yX11_land cX11_land 6 (some .int)
theorem cwX11_land : CW yX11_land wX11_land 6 3 := CW.of (lw_g_in (i := 983) (by decide +kernel) (by decide +kernel)) (lw_g_in (i := 70) (by decide +kernel) (by decide +kernel)) ⟨by decide, by decide⟩ (by decide +kernel)
abbrev kfX2_init : Kf := (RX2, "<init>", cX2_init, 4, none)
abbrev wX2_init : Cond := Cond.code yX2_init cX2_init 4 none
theorem cwX2_init : CW yX2_init wX2_init 4 3 := CW.of (lw_g_in (i := 988) (by decide +kernel) (by decide +kernel)) (lw_g_in (i := 99) (by decide +kernel) (by decide +kernel)) ⟨by decide, by decide⟩ (by decide +kernel)
abbrev kfX11_dole : Kf := (RX11, "dole", cX11_dole, 2, (some .boolean))
abbrev wX11_dole : Cond := Cond.code yX11_dole cX11_dole 2 (some .boolean)
theorem cwX11_dole : CW yX11_dole wX11_dole 2 1 := CW.of (lw_g_in (i := 1004) (by decide +kernel) (by decide +kernel)) (lw_g_in (i := 70) (by decide +kernel) (by decide +kernel)) ⟨by decide, by decide⟩ (by decide +kernel)
abbrev kfX11_pass : Kf := (RX11, "pass", cX11_pass, 3, (some .int))
abbrev wX11_pass : Cond := Cond.code yX11_pass cX11_pass 3 (some .int)
theorem cwX11_pass : CW yX11_pass wX11_pass 3 1 := CW.of (lw_g_in (i := 1008) (by decide +kernel) (by decide +kernel)) (lw_g_in (i := 70) (by decide +kernel) (by decide +kernel)) ⟨by decide, by decide⟩ (by decide +kernel)
abbrev kfX11_bringRents : Kf := (RX11, "bringRents", cX11_bringRents, 3, none)
abbrev wX11_bringRents : Cond := Cond.code yX11_bringRents cX11_bringRents 3 none
theorem cwX11_bringRents : CW yX11_bringRents wX11_bringRents 3 0 := CW.of (lw_g_in (i := 1012) (by decide +kernel) (by decide +kernel)) (lw_g_in (i := 70) (by decide +kernel) (by decide +kernel)) ⟨by decide, by decide⟩ (by decide +kernel)
abbrev kfX2_isDueOn : Kf := (RX2, "isDueOn", cX2_isDueOn, 2, (some .boolean))
abbrev wX2_isDueOn : Cond := Cond.code yX2_isDueOn cX2_isDueOn 2 (some .boolean)
theorem cwX2_isDueOn : CW yX2_isDueOn wX2_isDueOn 2 1 := CW.of (lw_g_in (i := 1016) (by decide +kernel) (by decide +kernel)) (lw_g_in (i := 99) (by decide +kernel) (by decide +kernel)) ⟨by decide, by decide⟩ (by decide +kernel)
abbrev kfX1_takeIn : Kf := (RX1, "takeIn", cX1_takeIn, 2, none)
abbrev wX1_takeIn : Cond := Cond.code yX1_takeIn cX1_takeIn 2 none
theorem cwX1_takeIn : CW yX1_takeIn wX1_takeIn 2 1 := CW.of (lw_g_in (i := 1020) (by decide +kernel) (by decide +kernel)) (lw_g_in (i := 79) (by decide +kernel) (by decide +kernel)) ⟨by decide, by decide⟩ (by decide +kernel)
abbrev kfX11_payDoles : Kf := (RX11, "payDoles", cX11_payDoles, 6, none)
abbrev wX11_payDoles : Cond := Cond.code yX11_payDoles cX11_payDoles 6 none
theorem cwX11_payDoles : CW yX11_payDoles wX11_payDoles 6 0 := CW.of (lw_g_in (i := 1026) (by decide +kernel) (by decide +kernel)) (lw_g_in (i := 70) (by decide +kernel) (by decide +kernel)) ⟨by decide, by decide⟩ (by decide +kernel)
abbrev kfX1_payOut : Kf := (RX1, "payOut", cX1_payOut, 3, (some .int))
abbrev wX1_payOut : Cond := Cond.code yX1_payOut cX1_payOut 3 (some .int)
theorem cwX1_payOut : CW yX1_payOut wX1_payOut 3 1 := CW.of (lw_g_in (i := 1030) (by decide +kernel) (by decide +kernel)) (lw_g_in (i := 79) (by decide +kernel) (by decide +kernel)) ⟨by decide, by decide⟩ (by decide +kernel)
abbrev kfX11_owed : Kf := (RX11, "owed", cX11_owed, 3, (some .int))
abbrev wX11_owed : Cond := Cond.code yX11_owed cX11_owed 3 (some .int)
theorem cwX11_owed : CW yX11_owed wX11_owed 3 1 := CW.of (lw_g_in (i := 1034) (by decide +kernel) (by decide +kernel)) (lw_g_in (i := 70) (by decide +kernel) (by decide +kernel)) ⟨by decide, by decide⟩ (by decide +kernel)
abbrev kfX11_got : Kf := (RX11, "got", cX11_got, 3, (some .int))
abbrev wX11_got : Cond := Cond.code yX11_got cX11_got 3 (some .int)
theorem cwX11_got : CW yX11_got wX11_got 3 1 := CW.of (lw_g_in (i := 1038) (by decide +kernel) (by decide +kernel)) (lw_g_in (i := 70) (by decide +kernel) (by decide +kernel)) ⟨by decide, by decide⟩ (by decide +kernel)
abbrev kfX11_count : Kf := (RX11, "count", cX11_count, 2, (some .int))
abbrev wX11_count : Cond := Cond.code yX11_count cX11_count 2 (some .int)
theorem cwX11_count : CW yX11_count wX11_count 2 1 := CW.of (lw_g_in (i := 1042) (by decide +kernel) (by decide +kernel)) (lw_g_in (i := 70) (by decide +kernel) (by decide +kernel)) ⟨by decide, by decide⟩ (by decide +kernel)
abbrev kfX11_emptyRooms : Kf := (RX11, "emptyRooms", cX11_emptyRooms, 3, (some .int))
abbrev wX11_emptyRooms : Cond := Cond.code yX11_emptyRooms cX11_emptyRooms 3 (some .int)
theorem cwX11_emptyRooms : CW yX11_emptyRooms wX11_emptyRooms 3 0 := CW.of (lw_g_in (i := 1046) (by decide +kernel) (by decide +kernel)) (lw_g_in (i := 70) (by decide +kernel) (by decide +kernel)) ⟨by decide, by decide⟩ (by decide +kernel)
abbrev kfJ9_min_f86c9 : Kf := (RJ9, "min", cJ9_min_f86c9, 4, (some .long))
abbrev wJ9_min_f86c9 : Cond := Cond.code yJ9_min_f86c9 cJ9_min_f86c9 4 (some .long)
theorem cwJ9_min_f86c9 : CW yJ9_min_f86c9 wJ9_min_f86c9 4 2 := CW.of (lw_g_in (i := 1050) (by decide +kernel) (by decide +kernel)) (lw_g_in (i := 92) (by decide +kernel) (by decide +kernel)) ⟨by decide, by decide⟩ (by decide +kernel)
abbrev kfX11_trouble : Kf := (RX11, "trouble", cX11_trouble, 1, (some .int))
abbrev wX11_trouble : Cond := Cond.code yX11_trouble cX11_trouble 1 (some .int)
theorem cwX11_trouble : CW yX11_trouble wX11_trouble 1 0 := CW.of (lw_g_in (i := 1054) (by decide +kernel) (by decide +kernel)) (lw_g_in (i := 70) (by decide +kernel) (by decide +kernel)) ⟨by decide, by decide⟩ (by decide +kernel)
abbrev kfX14_init : Kf := (RX14, "<init>", cX14_init, 1, none)
abbrev wX14_init : Cond := Cond.code yX14_init cX14_init 1 none
theorem cwX14_init : CW yX14_init wX14_init 1 0 := CW.of (lw_g_in (i := 1059) (by decide +kernel) (by decide +kernel)) (lw_g_in (i := 80) (by decide +kernel) (by decide +kernel)) ⟨by decide, by decide⟩ (by decide +kernel)
abbrev kfX12_init : Kf := (RX12, "<init>", cX12_init, 1, none)
abbrev wX12_init : Cond := Cond.code yX12_init cX12_init 1 none
theorem cwX12_init : CW yX12_init wX12_init 1 0 := CW.of (lw_g_in (i := 1066) (by decide +kernel) (by decide +kernel)) (lw_g_in (i := 81) (by decide +kernel) (by decide +kernel)) ⟨by decide, by decide⟩ (by decide +kernel)
abbrev kfX13_init : Kf := (RX13, "<init>", cX13_init, 1, none)
abbrev wX13_init : Cond := Cond.code yX13_init cX13_init 1 none
theorem cwX13_init : CW yX13_init wX13_init 1 0 := CW.of (lw_g_in (i := 1163) (by decide +kernel) (by decide +kernel)) (lw_g_in (i := 85) (by decide +kernel) (by decide +kernel)) ⟨by decide, by decide⟩ (by decide +kernel)
abbrev kfE_rt : Kf := ("java/lang/RuntimeException", "<init>", cE_rt, 5, none)
abbrev wE_rt : Cond := Cond.code yE_rt cE_rt 5 none
theorem cwE_rt : CW yE_rt wE_rt 5 4 := CW.of (lw_g_in (i := 1166) (by decide +kernel) (by decide +kernel)) (lw_g_in (i := 84) (by decide +kernel) (by decide +kernel)) ⟨by decide, by decide⟩ (by decide +kernel)
abbrev kfE_ex : Kf := ("java/lang/Exception", "<init>", cE_ex, 5, none)
abbrev wE_ex : Cond := Cond.code yE_ex cE_ex 5 none
theorem cwE_ex : CW yE_ex wE_ex 5 4 := CW.of (lw_g_in (i := 1169) (by decide +kernel) (by decide +kernel)) (lw_g_in (i := 83) (by decide +kernel) (by decide +kernel)) ⟨by decide, by decide⟩ (by decide +kernel)
abbrev kfE_th : Kf := ("java/lang/Throwable", "<init>", cE_th, 5, none)
abbrev wE_th : Cond := Cond.code yE_th cE_th 5 none
theorem cwE_th : CW yE_th wE_th 5 4 := CW.of (lw_g_in (i := 1172) (by decide +kernel) (by decide +kernel)) (lw_g_in (i := 82) (by decide +kernel) (by decide +kernel)) ⟨by decide, by decide⟩ (by decide +kernel)
abbrev kfX14_will : Kf := (RX14, "will", cX14_will, 1, (some .int))
abbrev wX14_will : Cond := Cond.code yX14_will cX14_will 1 (some .int)
theorem cwX14_will : CW yX14_will wX14_will 1 0 := CW.of (lw_g_in (i := 1361) (by decide +kernel) (by decide +kernel)) (lw_g_in (i := 80) (by decide +kernel) (by decide +kernel)) ⟨by decide, by decide⟩ (by decide +kernel)
abbrev kfX14_refused : Kf := (RX14, "refused", cX14_refused, 2, (some .int))
abbrev wX14_refused : Cond := Cond.code yX14_refused cX14_refused 2 (some .int)
theorem cwX14_refused : CW yX14_refused wX14_refused 2 1 := CW.of (lw_g_in (i := 1365) (by decide +kernel) (by decide +kernel)) (lw_g_in (i := 80) (by decide +kernel) (by decide +kernel)) ⟨by decide, by decide⟩ (by decide +kernel)
abbrev kfX14_done : Kf := (RX14, "done", cX14_done, 2, (some .int))
abbrev wX14_done : Cond := Cond.code yX14_done cX14_done 2 (some .int)
theorem cwX14_done : CW yX14_done wX14_done 2 1 := CW.of (lw_g_in (i := 1369) (by decide +kernel) (by decide +kernel)) (lw_g_in (i := 80) (by decide +kernel) (by decide +kernel)) ⟨by decide, by decide⟩ (by decide +kernel)
abbrev kfX14_feed : Kf := (RX14, "feed", cX14_feed, 8, (some .int))
abbrev wX14_feed : Cond := Cond.code yX14_feed cX14_feed 8 (some .int)
theorem cwX14_feed : CW yX14_feed wX14_feed 8 5 := CW.of (lw_g_in (i := 1373) (by decide +kernel) (by decide +kernel)) (lw_g_in (i := 80) (by decide +kernel) (by decide +kernel)) ⟨by decide, by decide⟩ (by decide +kernel)
abbrev kfX14_scheme : Kf := (RX14, "scheme", cX14_scheme, 6, (some .int))
abbrev kfX14_isWill : Kf := (RX14, "isWill", cX14_isWill, 2, (some .boolean))
abbrev wX14_isWill : Cond := Cond.code yX14_isWill cX14_isWill 2 (some .boolean)
theorem cwX14_isWill : CW yX14_isWill wX14_isWill 2 1 := CW.of (lw_g_in (i := 1381) (by decide +kernel) (by decide +kernel)) (lw_g_in (i := 80) (by decide +kernel) (by decide +kernel)) ⟨by decide, by decide⟩ (by decide +kernel)
abbrev kfX14_isDay : Kf := (RX14, "isDay", cX14_isDay, 1, (some .boolean))
abbrev wX14_isDay : Cond := Cond.code yX14_isDay cX14_isDay 1 (some .boolean)
theorem cwX14_isDay : CW yX14_isDay wX14_isDay 1 1 := CW.of (lw_g_in (i := 1384) (by decide +kernel) (by decide +kernel)) (lw_g_in (i := 80) (by decide +kernel) (by decide +kernel)) ⟨by decide, by decide⟩ (by decide +kernel)
abbrev kfX14_in : Kf := (RX14, "in", cX14_in, 3, (some .boolean))
abbrev wX14_in : Cond := Cond.code yX14_in cX14_in 3 (some .boolean)
theorem cwX14_in : CW yX14_in wX14_in 3 3 := CW.of (lw_g_in (i := 1388) (by decide +kernel) (by decide +kernel)) (lw_g_in (i := 80) (by decide +kernel) (by decide +kernel)) ⟨by decide, by decide⟩ (by decide +kernel)
abbrev kfX14_reads : Kf := (RX14, "reads", cX14_reads, 5, none)
abbrev wX14_reads : Cond := Cond.code yX14_reads cX14_reads 5 none
theorem cwX14_reads : CW yX14_reads wX14_reads 5 1 := CW.of (lw_g_in (i := 1392) (by decide +kernel) (by decide +kernel)) (lw_g_in (i := 80) (by decide +kernel) (by decide +kernel)) ⟨by decide, by decide⟩ (by decide +kernel)
abbrev kfX14_next : Kf := (RX14, "next", cX14_next, 3, none)
abbrev wX14_next : Cond := Cond.code yX14_next cX14_next 3 none
theorem cwX14_next : CW yX14_next wX14_next 3 0 := CW.of (lw_g_in (i := 1396) (by decide +kernel) (by decide +kernel)) (lw_g_in (i := 80) (by decide +kernel) (by decide +kernel)) ⟨by decide, by decide⟩ (by decide +kernel)
abbrev kfX14_byteAt : Kf := (RX14, "byteAt", cX14_byteAt, 2, (some .int))
abbrev wX14_byteAt : Cond := Cond.code yX14_byteAt cX14_byteAt 2 (some .int)
theorem cwX14_byteAt : CW yX14_byteAt wX14_byteAt 2 1 := CW.of (lw_g_in (i := 1400) (by decide +kernel) (by decide +kernel)) (lw_g_in (i := 80) (by decide +kernel) (by decide +kernel)) ⟨by decide, by decide⟩ (by decide +kernel)
abbrev kfX14_isLetter : Kf := (RX14, "isLetter", cX14_isLetter, 1, (some .boolean))
abbrev wX14_isLetter : Cond := Cond.code yX14_isLetter cX14_isLetter 1 (some .boolean)
theorem cwX14_isLetter : CW yX14_isLetter wX14_isLetter 1 1 := CW.of (lw_g_in (i := 1403) (by decide +kernel) (by decide +kernel)) (lw_g_in (i := 80) (by decide +kernel) (by decide +kernel)) ⟨by decide, by decide⟩ (by decide +kernel)
abbrev kfX14_isDigit : Kf := (RX14, "isDigit", cX14_isDigit, 1, (some .boolean))
abbrev wX14_isDigit : Cond := Cond.code yX14_isDigit cX14_isDigit 1 (some .boolean)
theorem cwX14_isDigit : CW yX14_isDigit wX14_isDigit 1 1 := CW.of (lw_g_in (i := 1407) (by decide +kernel) (by decide +kernel)) (lw_g_in (i := 80) (by decide +kernel) (by decide +kernel)) ⟨by decide, by decide⟩ (by decide +kernel)
abbrev kfX14_isWord : Kf := (RX14, "isWord", cX14_isWord, 2, (some .boolean))
abbrev wX14_isWord : Cond := Cond.code yX14_isWord cX14_isWord 2 (some .boolean)
theorem cwX14_isWord : CW yX14_isWord wX14_isWord 2 1 := CW.of (lw_g_in (i := 1412) (by decide +kernel) (by decide +kernel)) (lw_g_in (i := 80) (by decide +kernel) (by decide +kernel)) ⟨by decide, by decide⟩ (by decide +kernel)
abbrev kfX14_wordOf : Kf := (RX14, "wordOf", cX14_wordOf, 4, (some .long))
abbrev wX14_wordOf : Cond := Cond.code yX14_wordOf cX14_wordOf 4 (some .long)
theorem cwX14_wordOf : CW yX14_wordOf wX14_wordOf 4 1 := CW.of (lw_g_in (i := 1415) (by decide +kernel) (by decide +kernel)) (lw_g_in (i := 80) (by decide +kernel) (by decide +kernel)) ⟨by decide, by decide⟩ (by decide +kernel)
abbrev kfX14_stop : Kf := (RX14, "stop", cX14_stop, 2, (some (.object "AlmsHouseModel$Stop")))
abbrev wX14_stop : Cond := Cond.code yX14_stop cX14_stop 2 (some (.object "AlmsHouseModel$Stop"))
theorem cwX14_stop : CW yX14_stop wX14_stop 2 1 := CW.of (lw_g_in (i := 1423) (by decide +kernel) (by decide +kernel)) (lw_g_in (i := 80) (by decide +kernel) (by decide +kernel)) ⟨by decide, by decide⟩ (by decide +kernel)
abbrev kfX14_readAny : Kf := (RX14, "readAny", cX14_readAny, 2, none)
abbrev wX14_readAny : Cond := Cond.code yX14_readAny cX14_readAny 2 none
theorem cwX14_readAny : CW yX14_readAny wX14_readAny 2 1 := CW.of (lw_g_in (i := 1427) (by decide +kernel) (by decide +kernel)) (lw_g_in (i := 80) (by decide +kernel) (by decide +kernel)) ⟨by decide, by decide⟩ (by decide +kernel)
abbrev kfX14_readAll : Kf := (RX14, "readAll", cX14_readAll, 2, none)
abbrev wX14_readAll : Cond := Cond.code yX14_readAll cX14_readAll 2 none
theorem cwX14_readAll : CW yX14_readAll wX14_readAll 2 1 := CW.of (lw_g_in (i := 1431) (by decide +kernel) (by decide +kernel)) (lw_g_in (i := 80) (by decide +kernel) (by decide +kernel)) ⟨by decide, by decide⟩ (by decide +kernel)
abbrev kfX14_readOne : Kf := (RX14, "readOne", cX14_readOne, 5, none)
abbrev wX14_readOne : Cond := Cond.code yX14_readOne cX14_readOne 5 none
theorem cwX14_readOne : CW yX14_readOne wX14_readOne 5 1 := CW.of (lw_g_in (i := 1435) (by decide +kernel) (by decide +kernel)) (lw_g_in (i := 80) (by decide +kernel) (by decide +kernel)) ⟨by decide, by decide⟩ (by decide +kernel)
abbrev kfX14_is : Kf := (RX14, "is", cX14_is, 2, (some .boolean))
abbrev wX14_is : Cond := Cond.code yX14_is cX14_is 2 (some .boolean)
theorem cwX14_is : CW yX14_is wX14_is 2 1 := CW.of (lw_g_in (i := 1440) (by decide +kernel) (by decide +kernel)) (lw_g_in (i := 80) (by decide +kernel) (by decide +kernel)) ⟨by decide, by decide⟩ (by decide +kernel)
abbrev kfX14_nameHere : Kf := (RX14, "nameHere", cX14_nameHere, 3, (some .int))
abbrev wX14_nameHere : Cond := Cond.code yX14_nameHere cX14_nameHere 3 (some .int)
theorem cwX14_nameHere : CW yX14_nameHere wX14_nameHere 3 0 := CW.of (lw_g_in (i := 1444) (by decide +kernel) (by decide +kernel)) (lw_g_in (i := 80) (by decide +kernel) (by decide +kernel)) ⟨by decide, by decide⟩ (by decide +kernel)
abbrev kfX12_put : Kf := (RX12, "put", cX12_put, 4, none)
abbrev wX12_put : Cond := Cond.code yX12_put cX12_put 4 none
theorem cwX12_put : CW yX12_put wX12_put 4 3 := CW.of (lw_g_in (i := 1455) (by decide +kernel) (by decide +kernel)) (lw_g_in (i := 81) (by decide +kernel) (by decide +kernel)) ⟨by decide, by decide⟩ (by decide +kernel)
abbrev kfX14_readSum : Kf := (RX14, "readSum", cX14_readSum, 6, none)
abbrev wX14_readSum : Cond := Cond.code yX14_readSum cX14_readSum 6 none
theorem cwX14_readSum : CW yX14_readSum wX14_readSum 6 2 := CW.of (lw_g_in (i := 1459) (by decide +kernel) (by decide +kernel)) (lw_g_in (i := 80) (by decide +kernel) (by decide +kernel)) ⟨by decide, by decide⟩ (by decide +kernel)
abbrev kfX14_fault : Kf := (RX14, "fault", cX14_fault, 1, (some .int))
abbrev wX14_fault : Cond := Cond.code yX14_fault cX14_fault 1 (some .int)
theorem cwX14_fault : CW yX14_fault wX14_fault 1 0 := CW.of (lw_g_in (i := 1463) (by decide +kernel) (by decide +kernel)) (lw_g_in (i := 80) (by decide +kernel) (by decide +kernel)) ⟨by decide, by decide⟩ (by decide +kernel)
abbrev kfX14_where : Kf := (RX14, "where", cX14_where, 1, (some .int))
abbrev wX14_where : Cond := Cond.code yX14_where cX14_where 1 (some .int)
theorem cwX14_where : CW yX14_where wX14_where 1 0 := CW.of (lw_g_in (i := 1467) (by decide +kernel) (by decide +kernel)) (lw_g_in (i := 80) (by decide +kernel) (by decide +kernel)) ⟨by decide, by decide⟩ (by decide +kernel)
abbrev kfX14_clause : Kf := (RX14, "clause", cX14_clause, 4, (some .int))
abbrev wX14_clause : Cond := Cond.code yX14_clause cX14_clause 4 (some .int)
theorem cwX14_clause : CW yX14_clause wX14_clause 4 3 := CW.of (lw_g_in (i := 1471) (by decide +kernel) (by decide +kernel)) (lw_g_in (i := 80) (by decide +kernel) (by decide +kernel)) ⟨by decide, by decide⟩ (by decide +kernel)
abbrev kfX14_finds : Kf := (RX14, "finds", cX14_finds, 7, (some .boolean))
abbrev wX14_finds : Cond := Cond.code yX14_finds cX14_finds 7 (some .boolean)
theorem cwX14_finds : CW yX14_finds wX14_finds 7 3 := CW.of (lw_g_in (i := 1475) (by decide +kernel) (by decide +kernel)) (lw_g_in (i := 80) (by decide +kernel) (by decide +kernel)) ⟨by decide, by decide⟩ (by decide +kernel)
abbrev kfX14_clauses : Kf := (RX14, "clauses", cX14_clauses, 3, (some .int))
abbrev wX14_clauses : Cond := Cond.code yX14_clauses cX14_clauses 3 (some .int)
theorem cwX14_clauses : CW yX14_clauses wX14_clauses 3 2 := CW.of (lw_g_in (i := 1479) (by decide +kernel) (by decide +kernel)) (lw_g_in (i := 80) (by decide +kernel) (by decide +kernel)) ⟨by decide, by decide⟩ (by decide +kernel)
abbrev kfX14_clausesOf : Kf := (RX14, "clausesOf", cX14_clausesOf, 5, (some .int))
abbrev wX14_clausesOf : Cond := Cond.code yX14_clausesOf cX14_clausesOf 5 (some .int)
theorem cwX14_clausesOf : CW yX14_clausesOf wX14_clausesOf 5 2 := CW.of (lw_g_in (i := 1483) (by decide +kernel) (by decide +kernel)) (lw_g_in (i := 80) (by decide +kernel) (by decide +kernel)) ⟨by decide, by decide⟩ (by decide +kernel)
abbrev kfX14_person : Kf := (RX14, "person", cX14_person, 4, (some .int))
abbrev wX14_person : Cond := Cond.code yX14_person cX14_person 4 (some .int)
theorem cwX14_person : CW yX14_person wX14_person 4 3 := CW.of (lw_g_in (i := 1487) (by decide +kernel) (by decide +kernel)) (lw_g_in (i := 80) (by decide +kernel) (by decide +kernel)) ⟨by decide, by decide⟩ (by decide +kernel)
abbrev kfX14_means : Kf := (RX14, "means", cX14_means, 4, (some .int))
abbrev wX14_means : Cond := Cond.code yX14_means cX14_means 4 (some .int)
theorem cwX14_means : CW yX14_means wX14_means 4 3 := CW.of (lw_g_in (i := 1492) (by decide +kernel) (by decide +kernel)) (lw_g_in (i := 80) (by decide +kernel) (by decide +kernel)) ⟨by decide, by decide⟩ (by decide +kernel)
abbrev kfX14_isPerson : Kf := (RX14, "isPerson", cX14_isPerson, 2, (some .boolean))
abbrev wX14_isPerson : Cond := Cond.code yX14_isPerson cX14_isPerson 2 (some .boolean)
theorem cwX14_isPerson : CW yX14_isPerson wX14_isPerson 2 1 := CW.of (lw_g_in (i := 1496) (by decide +kernel) (by decide +kernel)) (lw_g_in (i := 80) (by decide +kernel) (by decide +kernel)) ⟨by decide, by decide⟩ (by decide +kernel)
abbrev kfX14_fact : Kf := (RX14, "fact", cX14_fact, 4, (some .int))
abbrev wX14_fact : Cond := Cond.code yX14_fact cX14_fact 4 (some .int)
theorem cwX14_fact : CW yX14_fact wX14_fact 4 3 := CW.of (lw_g_in (i := 1500) (by decide +kernel) (by decide +kernel)) (lw_g_in (i := 80) (by decide +kernel) (by decide +kernel)) ⟨by decide, by decide⟩ (by decide +kernel)
abbrev kfX14_factOf : Kf := (RX14, "factOf", cX14_factOf, 6, (some .int))
abbrev wX14_factOf : Cond := Cond.code yX14_factOf cX14_factOf 6 (some .int)
theorem cwX14_factOf : CW yX14_factOf wX14_factOf 6 3 := CW.of (lw_g_in (i := 1504) (by decide +kernel) (by decide +kernel)) (lw_g_in (i := 80) (by decide +kernel) (by decide +kernel)) ⟨by decide, by decide⟩ (by decide +kernel)
abbrev kfX14_may : Kf := (RX14, "may", cX14_may, 4, (some .int))
abbrev wX14_may : Cond := Cond.code yX14_may cX14_may 4 (some .int)
theorem cwX14_may : CW yX14_may wX14_may 4 3 := CW.of (lw_g_in (i := 1509) (by decide +kernel) (by decide +kernel)) (lw_g_in (i := 80) (by decide +kernel) (by decide +kernel)) ⟨by decide, by decide⟩ (by decide +kernel)
abbrev kfX14_isAsked : Kf := (RX14, "isAsked", cX14_isAsked, 4, (some .boolean))
abbrev wX14_isAsked : Cond := Cond.code yX14_isAsked cX14_isAsked 4 (some .boolean)
theorem cwX14_isAsked : CW yX14_isAsked wX14_isAsked 4 3 := CW.of (lw_g_in (i := 1513) (by decide +kernel) (by decide +kernel)) (lw_g_in (i := 80) (by decide +kernel) (by decide +kernel)) ⟨by decide, by decide⟩ (by decide +kernel)
abbrev kfX14_mayCome : Kf := (RX14, "mayCome", cX14_mayCome, 4, (some .boolean))
abbrev wX14_mayCome : Cond := Cond.code yX14_mayCome cX14_mayCome 4 (some .boolean)
theorem cwX14_mayCome : CW yX14_mayCome wX14_mayCome 4 3 := CW.of (lw_g_in (i := 1517) (by decide +kernel) (by decide +kernel)) (lw_g_in (i := 80) (by decide +kernel) (by decide +kernel)) ⟨by decide, by decide⟩ (by decide +kernel)
abbrev kfX14_barsOf : Kf := (RX14, "barsOf", cX14_barsOf, 5, (some .int))
abbrev wX14_barsOf : Cond := Cond.code yX14_barsOf cX14_barsOf 5 (some .int)
theorem cwX14_barsOf : CW yX14_barsOf wX14_barsOf 5 3 := CW.of (lw_g_in (i := 1521) (by decide +kernel) (by decide +kernel)) (lw_g_in (i := 80) (by decide +kernel) (by decide +kernel)) ⟨by decide, by decide⟩ (by decide +kernel)
abbrev kfX14_holds : Kf := (RX14, "holds", cX14_holds, 7, (some .boolean))
abbrev wX14_holds : Cond := Cond.code yX14_holds cX14_holds 7 (some .boolean)
theorem cwX14_holds : CW yX14_holds wX14_holds 7 2 := CW.of (lw_g_in (i := 1525) (by decide +kernel) (by decide +kernel)) (lw_g_in (i := 80) (by decide +kernel) (by decide +kernel)) ⟨by decide, by decide⟩ (by decide +kernel)
abbrev kfX14_bars : Kf := (RX14, "bars", cX14_bars, 4, (some .int))
abbrev wX14_bars : Cond := Cond.code yX14_bars cX14_bars 4 (some .int)
theorem cwX14_bars : CW yX14_bars wX14_bars 4 3 := CW.of (lw_g_in (i := 1529) (by decide +kernel) (by decide +kernel)) (lw_g_in (i := 80) (by decide +kernel) (by decide +kernel)) ⟨by decide, by decide⟩ (by decide +kernel)
abbrev kfX14_order : Kf := (RX14, "order", cX14_order, 4, (some .int))
abbrev wX14_order : Cond := Cond.code yX14_order cX14_order 4 (some .int)
theorem cwX14_order : CW yX14_order wX14_order 4 3 := CW.of (lw_g_in (i := 1533) (by decide +kernel) (by decide +kernel)) (lw_g_in (i := 80) (by decide +kernel) (by decide +kernel)) ⟨by decide, by decide⟩ (by decide +kernel)
abbrev kfX14_orderOf : Kf := (RX14, "orderOf", cX14_orderOf, 7, (some .int))
abbrev wX14_orderOf : Cond := Cond.code yX14_orderOf cX14_orderOf 7 (some .int)
theorem cwX14_orderOf : CW yX14_orderOf wX14_orderOf 7 3 := CW.of (lw_g_in (i := 1537) (by decide +kernel) (by decide +kernel)) (lw_g_in (i := 80) (by decide +kernel) (by decide +kernel)) ⟨by decide, by decide⟩ (by decide +kernel)
abbrev kfX14_list : Kf := (RX14, "list", cX14_list, 5, (some .int))
abbrev wX14_list : Cond := Cond.code yX14_list cX14_list 5 (some .int)
theorem cwX14_list : CW yX14_list wX14_list 5 2 := CW.of (lw_g_in (i := 1541) (by decide +kernel) (by decide +kernel)) (lw_g_in (i := 80) (by decide +kernel) (by decide +kernel)) ⟨by decide, by decide⟩ (by decide +kernel)
abbrev kfX14_next_ : Kf := (RX14, "next", cX14_next_, 3, (some .int))
abbrev wX14_next_ : Cond := Cond.code yX14_next_ cX14_next_ 3 (some .int)
theorem cwX14_next_ : CW yX14_next_ wX14_next_ 3 2 := CW.of (lw_g_in (i := 1545) (by decide +kernel) (by decide +kernel)) (lw_g_in (i := 80) (by decide +kernel) (by decide +kernel)) ⟨by decide, by decide⟩ (by decide +kernel)
abbrev kfX14_nextOf : Kf := (RX14, "nextOf", cX14_nextOf, 7, (some .int))
abbrev wX14_nextOf : Cond := Cond.code yX14_nextOf cX14_nextOf 7 (some .int)
theorem cwX14_nextOf : CW yX14_nextOf wX14_nextOf 7 2 := CW.of (lw_g_in (i := 1549) (by decide +kernel) (by decide +kernel)) (lw_g_in (i := 80) (by decide +kernel) (by decide +kernel)) ⟨by decide, by decide⟩ (by decide +kernel)
abbrev kfX14_room : Kf := (RX14, "room", cX14_room, 2, (some .int))
abbrev wX14_room : Cond := Cond.code yX14_room cX14_room 2 (some .int)
theorem cwX14_room : CW yX14_room wX14_room 2 1 := CW.of (lw_g_in (i := 1553) (by decide +kernel) (by decide +kernel)) (lw_g_in (i := 80) (by decide +kernel) (by decide +kernel)) ⟨by decide, by decide⟩ (by decide +kernel)
abbrev kfX14_trustee : Kf := (RX14, "trustee", cX14_trustee, 1, (some .int))
abbrev wX14_trustee : Cond := Cond.code yX14_trustee cX14_trustee 1 (some .int)
theorem cwX14_trustee : CW yX14_trustee wX14_trustee 1 0 := CW.of (lw_g_in (i := 1557) (by decide +kernel) (by decide +kernel)) (lw_g_in (i := 80) (by decide +kernel) (by decide +kernel)) ⟨by decide, by decide⟩ (by decide +kernel)
abbrev kfX14_away : Kf := (RX14, "away", cX14_away, 3, (some .boolean))
abbrev wX14_away : Cond := Cond.code yX14_away cX14_away 3 (some .boolean)
theorem cwX14_away : CW yX14_away wX14_away 3 2 := CW.of (lw_g_in (i := 1561) (by decide +kernel) (by decide +kernel)) (lw_g_in (i := 80) (by decide +kernel) (by decide +kernel)) ⟨by decide, by decide⟩ (by decide +kernel)
abbrev kfX14_denied : Kf := (RX14, "denied", cX14_denied, 2, (some .boolean))
abbrev wX14_denied : Cond := Cond.code yX14_denied cX14_denied 2 (some .boolean)
theorem cwX14_denied : CW yX14_denied wX14_denied 2 1 := CW.of (lw_g_in (i := 1565) (by decide +kernel) (by decide +kernel)) (lw_g_in (i := 80) (by decide +kernel) (by decide +kernel)) ⟨by decide, by decide⟩ (by decide +kernel)
abbrev kfX14_granted : Kf := (RX14, "granted", cX14_granted, 1, (some .boolean))
abbrev wX14_granted : Cond := Cond.code yX14_granted cX14_granted 1 (some .boolean)
theorem cwX14_granted : CW yX14_granted wX14_granted 1 0 := CW.of (lw_g_in (i := 1569) (by decide +kernel) (by decide +kernel)) (lw_g_in (i := 80) (by decide +kernel) (by decide +kernel)) ⟨by decide, by decide⟩ (by decide +kernel)
abbrev kfX14_fill : Kf := (RX14, "fill", cX14_fill, 4, (some .int))
abbrev wX14_fill : Cond := Cond.code yX14_fill cX14_fill 4 (some .int)
theorem cwX14_fill : CW yX14_fill wX14_fill 4 1 := CW.of (lw_g_in (i := 1573) (by decide +kernel) (by decide +kernel)) (lw_g_in (i := 80) (by decide +kernel) (by decide +kernel)) ⟨by decide, by decide⟩ (by decide +kernel)
abbrev kfX14_isRoom : Kf := (RX14, "isRoom", cX14_isRoom, 2, (some .boolean))
abbrev wX14_isRoom : Cond := Cond.code yX14_isRoom cX14_isRoom 2 (some .boolean)
theorem cwX14_isRoom : CW yX14_isRoom wX14_isRoom 2 1 := CW.of (lw_g_in (i := 1577) (by decide +kernel) (by decide +kernel)) (lw_g_in (i := 80) (by decide +kernel) (by decide +kernel)) ⟨by decide, by decide⟩ (by decide +kernel)
abbrev kfX14_leave : Kf := (RX14, "leave", cX14_leave, 2, (some .int))
abbrev wX14_leave : Cond := Cond.code yX14_leave cX14_leave 2 (some .int)
theorem cwX14_leave : CW yX14_leave wX14_leave 2 1 := CW.of (lw_g_in (i := 1581) (by decide +kernel) (by decide +kernel)) (lw_g_in (i := 80) (by decide +kernel) (by decide +kernel)) ⟨by decide, by decide⟩ (by decide +kernel)
abbrev kfX14_ends : Kf := (RX14, "ends", cX14_ends, 4, (some .int))
abbrev wX14_ends : Cond := Cond.code yX14_ends cX14_ends 4 (some .int)
theorem cwX14_ends : CW yX14_ends wX14_ends 4 1 := CW.of (lw_g_in (i := 1585) (by decide +kernel) (by decide +kernel)) (lw_g_in (i := 80) (by decide +kernel) (by decide +kernel)) ⟨by decide, by decide⟩ (by decide +kernel)
abbrev kfX14_dies : Kf := (RX14, "dies", cX14_dies, 3, (some .boolean))
abbrev wX14_dies : Cond := Cond.code yX14_dies cX14_dies 3 (some .boolean)
theorem cwX14_dies : CW yX14_dies wX14_dies 3 1 := CW.of (lw_g_in (i := 1589) (by decide +kernel) (by decide +kernel)) (lw_g_in (i := 80) (by decide +kernel) (by decide +kernel)) ⟨by decide, by decide⟩ (by decide +kernel)
abbrev kfX14_roomOf : Kf := (RX14, "roomOf", cX14_roomOf, 4, (some .int))
abbrev wX14_roomOf : Cond := Cond.code yX14_roomOf cX14_roomOf 4 (some .int)
theorem cwX14_roomOf : CW yX14_roomOf wX14_roomOf 4 2 := CW.of (lw_g_in (i := 1593) (by decide +kernel) (by decide +kernel)) (lw_g_in (i := 80) (by decide +kernel) (by decide +kernel)) ⟨by decide, by decide⟩ (by decide +kernel)
abbrev kfX14_had : Kf := (RX14, "had", cX14_had, 5, (some .int))
abbrev wX14_had : Cond := Cond.code yX14_had cX14_had 5 (some .int)
theorem cwX14_had : CW yX14_had wX14_had 5 2 := CW.of (lw_g_in (i := 1597) (by decide +kernel) (by decide +kernel)) (lw_g_in (i := 80) (by decide +kernel) (by decide +kernel)) ⟨by decide, by decide⟩ (by decide +kernel)
abbrev kfX14_land : Kf := (RX14, "land", cX14_land, 4, (some .int))
abbrev wX14_land : Cond := Cond.code yX14_land cX14_land 4 (some .int)
theorem cwX14_land : CW yX14_land wX14_land 4 3 := CW.of (lw_g_in (i := 1601) (by decide +kernel) (by decide +kernel)) (lw_g_in (i := 80) (by decide +kernel) (by decide +kernel)) ⟨by decide, by decide⟩ (by decide +kernel)
abbrev kfX14_dole : Kf := (RX14, "dole", cX14_dole, 2, (some .boolean))
abbrev wX14_dole : Cond := Cond.code yX14_dole cX14_dole 2 (some .boolean)
theorem cwX14_dole : CW yX14_dole wX14_dole 2 1 := CW.of (lw_g_in (i := 1605) (by decide +kernel) (by decide +kernel)) (lw_g_in (i := 80) (by decide +kernel) (by decide +kernel)) ⟨by decide, by decide⟩ (by decide +kernel)
abbrev kfX14_pass : Kf := (RX14, "pass", cX14_pass, 3, (some .int))
abbrev wX14_pass : Cond := Cond.code yX14_pass cX14_pass 3 (some .int)
theorem cwX14_pass : CW yX14_pass wX14_pass 3 1 := CW.of (lw_g_in (i := 1609) (by decide +kernel) (by decide +kernel)) (lw_g_in (i := 80) (by decide +kernel) (by decide +kernel)) ⟨by decide, by decide⟩ (by decide +kernel)
abbrev kfX14_day : Kf := (RX14, "day", cX14_day, 5, none)
abbrev wX14_day : Cond := Cond.code yX14_day cX14_day 5 none
theorem cwX14_day : CW yX14_day wX14_day 5 0 := CW.of (lw_g_in (i := 1613) (by decide +kernel) (by decide +kernel)) (lw_g_in (i := 80) (by decide +kernel) (by decide +kernel)) ⟨by decide, by decide⟩ (by decide +kernel)
abbrev kfX14_owed : Kf := (RX14, "owed", cX14_owed, 2, (some .int))
abbrev wX14_owed : Cond := Cond.code yX14_owed cX14_owed 2 (some .int)
theorem cwX14_owed : CW yX14_owed wX14_owed 2 1 := CW.of (lw_g_in (i := 1621) (by decide +kernel) (by decide +kernel)) (lw_g_in (i := 80) (by decide +kernel) (by decide +kernel)) ⟨by decide, by decide⟩ (by decide +kernel)
abbrev kfX14_got : Kf := (RX14, "got", cX14_got, 2, (some .int))
abbrev wX14_got : Cond := Cond.code yX14_got cX14_got 2 (some .int)
theorem cwX14_got : CW yX14_got wX14_got 2 1 := CW.of (lw_g_in (i := 1625) (by decide +kernel) (by decide +kernel)) (lw_g_in (i := 80) (by decide +kernel) (by decide +kernel)) ⟨by decide, by decide⟩ (by decide +kernel)
abbrev kfX14_count : Kf := (RX14, "count", cX14_count, 4, (some .int))
abbrev wX14_count : Cond := Cond.code yX14_count cX14_count 4 (some .int)
theorem cwX14_count : CW yX14_count wX14_count 4 1 := CW.of (lw_g_in (i := 1629) (by decide +kernel) (by decide +kernel)) (lw_g_in (i := 80) (by decide +kernel) (by decide +kernel)) ⟨by decide, by decide⟩ (by decide +kernel)
abbrev kfX14_trouble : Kf := (RX14, "trouble", cX14_trouble, 1, (some .int))
abbrev wX14_trouble : Cond := Cond.code yX14_trouble cX14_trouble 1 (some .int)
theorem cwX14_trouble : CW yX14_trouble wX14_trouble 1 0 := CW.of (lw_g_in (i := 1633) (by decide +kernel) (by decide +kernel)) (lw_g_in (i := 80) (by decide +kernel) (by decide +kernel)) ⟨by decide, by decide⟩ (by decide +kernel)
abbrev kfL_law : Kf := (RL, "law", cL_law, 4, some .boolean)
theorem mlL_9 : (Cond.methodLink RL 9 yX11_init ∈ lw_g ∨ ∃ host, Cond.methodLinkNest RL 9 yX11_init host ∈ lw_n) ∧ Cond.instanceMethod yX11_init ∈ lw_g := ⟨Or.inl (lw_g_in (i := 102) (by decide +kernel) (by decide +kernel)), lw_g_in (i := 103) (by decide +kernel) (by decide +kernel)⟩
theorem mlX11_11 : (Cond.methodLink RX11 11 yX8_init ∈ lw_g ∨ ∃ host, Cond.methodLinkNest RX11 11 yX8_init host ∈ lw_n) ∧ Cond.instanceMethod yX8_init ∈ lw_g := ⟨Or.inr ⟨"AlmsHouse", lw_n_in (i := 110) (by decide +kernel) (by decide +kernel)⟩, lw_g_in (i := 111) (by decide +kernel) (by decide +kernel)⟩
theorem mlX11_20 : (Cond.methodLink RX11 20 yX4_init ∈ lw_g ∨ ∃ host, Cond.methodLinkNest RX11 20 yX4_init host ∈ lw_n) ∧ Cond.instanceMethod yX4_init ∈ lw_g := ⟨Or.inl (lw_g_in (i := 143) (by decide +kernel) (by decide +kernel)), lw_g_in (i := 144) (by decide +kernel) (by decide +kernel)⟩
theorem mlX4_11 : (Cond.methodLink RX4 11 yX10_init ∈ lw_g ∨ ∃ host, Cond.methodLinkNest RX4 11 yX10_init host ∈ lw_n) ∧ Cond.instanceMethod yX10_init ∈ lw_g := ⟨Or.inr ⟨"AlmsHouse", lw_n_in (i := 149) (by decide +kernel) (by decide +kernel)⟩, lw_g_in (i := 150) (by decide +kernel) (by decide +kernel)⟩
theorem mlX11_29 : (Cond.methodLink RX11 29 yJx4a65c_init_da8c8 ∈ lw_g ∨ ∃ host, Cond.methodLinkNest RX11 29 yJx4a65c_init_da8c8 host ∈ lw_n) ∧ Cond.instanceMethod yJx4a65c_init_da8c8 ∈ lw_g := ⟨Or.inl (lw_g_in (i := 214) (by decide +kernel) (by decide +kernel)), lw_g_in (i := 215) (by decide +kernel) (by decide +kernel)⟩
theorem mlJx4a65c_1 : (Cond.methodLink RJx4a65c 1 yJxc12de_init_da8c8 ∈ lw_g ∨ ∃ host, Cond.methodLinkNest RJx4a65c 1 yJxc12de_init_da8c8 host ∈ lw_n) ∧ Cond.instanceMethod yJxc12de_init_da8c8 ∈ lw_g := ⟨Or.inl (lw_g_in (i := 217) (by decide +kernel) (by decide +kernel)), lw_g_in (i := 218) (by decide +kernel) (by decide +kernel)⟩
theorem mlJxc12de_1 : (Cond.methodLink RJxc12de 1 yJxa1e45_init_da8c8 ∈ lw_g ∨ ∃ host, Cond.methodLinkNest RJxc12de 1 yJxa1e45_init_da8c8 host ∈ lw_n) ∧ Cond.instanceMethod yJxa1e45_init_da8c8 ∈ lw_g := ⟨Or.inl (lw_g_in (i := 220) (by decide +kernel) (by decide +kernel)), lw_g_in (i := 221) (by decide +kernel) (by decide +kernel)⟩
theorem mlX11_36 : (Cond.methodLink RX11 36 yX6_init ∈ lw_g ∨ ∃ host, Cond.methodLinkNest RX11 36 yX6_init host ∈ lw_n) ∧ Cond.instanceMethod yX6_init ∈ lw_g := ⟨Or.inr ⟨"AlmsHouse", lw_n_in (i := 240) (by decide +kernel) (by decide +kernel)⟩, lw_g_in (i := 241) (by decide +kernel) (by decide +kernel)⟩
theorem mlX11_52 : (Cond.methodLink RX11 52 yX9_init ∈ lw_g ∨ ∃ host, Cond.methodLinkNest RX11 52 yX9_init host ∈ lw_n) ∧ Cond.instanceMethod yX9_init ∈ lw_g := ⟨Or.inr ⟨"AlmsHouse", lw_n_in (i := 252) (by decide +kernel) (by decide +kernel)⟩, lw_g_in (i := 253) (by decide +kernel) (by decide +kernel)⟩
theorem mlX11_62 : (Cond.methodLink RX11 62 yX1_init ∈ lw_g ∨ ∃ host, Cond.methodLinkNest RX11 62 yX1_init host ∈ lw_n) ∧ Cond.instanceMethod yX1_init ∈ lw_g := ⟨Or.inr ⟨"AlmsHouse", lw_n_in (i := 271) (by decide +kernel) (by decide +kernel)⟩, lw_g_in (i := 272) (by decide +kernel) (by decide +kernel)⟩
theorem mlL_13 : Cond.methodLink RL 13 yX11_will ∈ lw_g ∧ Cond.instanceMethod yX11_will ∈ lw_g ∧ Cond.selects yX11_will.cls yX11_will yX11_will ∈ lw_g := ⟨lw_g_in (i := 336) (by decide +kernel) (by decide +kernel), lw_g_in (i := 337) (by decide +kernel) (by decide +kernel), lw_g_in (i := 338) (by decide +kernel) (by decide +kernel)⟩
theorem mlX11_74 : Cond.methodLink RX11 74 yX11_refuse ∈ lw_g ∧ Cond.instanceMethod yX11_refuse ∈ lw_g ∧ Cond.selects yX11_refuse.cls yX11_refuse yX11_refuse ∈ lw_g := ⟨lw_g_in (i := 340) (by decide +kernel) (by decide +kernel), lw_g_in (i := 342) (by decide +kernel) (by decide +kernel), lw_g_in (i := 0) (by decide +kernel) (by decide +kernel)⟩
theorem mlX11_78 : Cond.methodLink RX11 78 yX11_accept ∈ lw_g ∧ Cond.instanceMethod yX11_accept ∈ lw_g ∧ Cond.selects yX11_accept.cls yX11_accept yX11_accept ∈ lw_g := ⟨lw_g_in (i := 344) (by decide +kernel) (by decide +kernel), lw_g_in (i := 346) (by decide +kernel) (by decide +kernel), lw_g_in (i := 1) (by decide +kernel) (by decide +kernel)⟩
theorem mlL_18 : Cond.methodLink RL 18 yX11_feed ∈ lw_g ∧ Cond.instanceMethod yX11_feed ∈ lw_g ∧ Cond.selects yX11_feed.cls yX11_feed yX11_feed ∈ lw_g := ⟨lw_g_in (i := 348) (by decide +kernel) (by decide +kernel), lw_g_in (i := 349) (by decide +kernel) (by decide +kernel), lw_g_in (i := 350) (by decide +kernel) (by decide +kernel)⟩
theorem mlX11_84 : Cond.methodLink RX11 84 yX8_append ∈ lw_g ∧ Cond.instanceMethod yX8_append ∈ lw_g ∧ Cond.selects yX8_append.cls yX8_append yX8_append ∈ lw_g := ⟨lw_g_in (i := 352) (by decide +kernel) (by decide +kernel), lw_g_in (i := 353) (by decide +kernel) (by decide +kernel), lw_g_in (i := 354) (by decide +kernel) (by decide +kernel)⟩
theorem mlL_23 : Cond.methodLink RL 23 yX11_scheme ∈ lw_g ∧ Cond.instanceMethod yX11_scheme ∈ lw_g ∧ Cond.selects yX11_scheme.cls yX11_scheme yX11_scheme ∈ lw_g := ⟨lw_g_in (i := 356) (by decide +kernel) (by decide +kernel), lw_g_in (i := 357) (by decide +kernel) (by decide +kernel), lw_g_in (i := 358) (by decide +kernel) (by decide +kernel)⟩
theorem mlX11_88 : Cond.methodLink RX11 88 yX11_isWill ∈ lw_g ∧ Cond.instanceMethod yX11_isWill ∈ lw_g ∧ Cond.selects yX11_isWill.cls yX11_isWill yX11_isWill ∈ lw_g := ⟨lw_g_in (i := 360) (by decide +kernel) (by decide +kernel), lw_g_in (i := 362) (by decide +kernel) (by decide +kernel), lw_g_in (i := 2) (by decide +kernel) (by decide +kernel)⟩
theorem mlX11_92 : Cond.methodLink RX11 92 yX11_isDay ∈ lw_g ∧ Cond.static yX11_isDay ∈ lw_g := ⟨lw_g_in (i := 364) (by decide +kernel) (by decide +kernel), lw_g_in (i := 365) (by decide +kernel) (by decide +kernel)⟩
theorem mlX11_95 : Cond.methodLink RX11 95 yX4_read ∈ lw_g ∧ Cond.instanceMethod yX4_read ∈ lw_g ∧ Cond.selects yX4_read.cls yX4_read yX4_read ∈ lw_g := ⟨lw_g_in (i := 368) (by decide +kernel) (by decide +kernel), lw_g_in (i := 369) (by decide +kernel) (by decide +kernel), lw_g_in (i := 370) (by decide +kernel) (by decide +kernel)⟩
theorem mlX4_32 : Cond.methodLink RX4 32 yX4_begin ∈ lw_g ∧ Cond.instanceMethod yX4_begin ∈ lw_g ∧ Cond.selects yX4_begin.cls yX4_begin yX4_begin ∈ lw_g := ⟨lw_g_in (i := 372) (by decide +kernel) (by decide +kernel), lw_g_in (i := 374) (by decide +kernel) (by decide +kernel), lw_g_in (i := 3) (by decide +kernel) (by decide +kernel)⟩
theorem mlX4_64 : Cond.methodLink RX4 64 yX10_begin ∈ lw_g ∧ Cond.instanceMethod yX10_begin ∈ lw_g ∧ Cond.selects yX10_begin.cls yX10_begin yX10_begin ∈ lw_g := ⟨lw_g_in (i := 376) (by decide +kernel) (by decide +kernel), lw_g_in (i := 377) (by decide +kernel) (by decide +kernel), lw_g_in (i := 378) (by decide +kernel) (by decide +kernel)⟩
theorem mlX4_35 : Cond.methodLink RX4 35 yX8_rewind ∈ lw_g ∧ Cond.instanceMethod yX8_rewind ∈ lw_g ∧ Cond.selects yX8_rewind.cls yX8_rewind yX8_rewind ∈ lw_g := ⟨lw_g_in (i := 380) (by decide +kernel) (by decide +kernel), lw_g_in (i := 381) (by decide +kernel) (by decide +kernel), lw_g_in (i := 382) (by decide +kernel) (by decide +kernel)⟩
theorem mlX4_41 : Cond.methodLink RX4 41 yX8_advance ∈ lw_g ∧ Cond.instanceMethod yX8_advance ∈ lw_g ∧ Cond.selects yX8_advance.cls yX8_advance yX8_advance ∈ lw_g := ⟨lw_g_in (i := 384) (by decide +kernel) (by decide +kernel), lw_g_in (i := 385) (by decide +kernel) (by decide +kernel), lw_g_in (i := 386) (by decide +kernel) (by decide +kernel)⟩
theorem mlX8_25 : Cond.methodLink RX8 25 yX8_byteAt ∈ lw_g ∧ Cond.instanceMethod yX8_byteAt ∈ lw_g ∧ Cond.selects yX8_byteAt.cls yX8_byteAt yX8_byteAt ∈ lw_g := ⟨lw_g_in (i := 388) (by decide +kernel) (by decide +kernel), lw_g_in (i := 390) (by decide +kernel) (by decide +kernel), lw_g_in (i := 4) (by decide +kernel) (by decide +kernel)⟩
theorem mlX8_38 : Cond.methodLink RX8 38 yX8_isDigit ∈ lw_g ∧ Cond.static yX8_isDigit ∈ lw_g := ⟨lw_g_in (i := 392) (by decide +kernel) (by decide +kernel), lw_g_in (i := 393) (by decide +kernel) (by decide +kernel)⟩
theorem mlX8_42 : Cond.methodLink RX8 42 yX8_takeNumber ∈ lw_g ∧ Cond.instanceMethod yX8_takeNumber ∈ lw_g ∧ Cond.selects yX8_takeNumber.cls yX8_takeNumber yX8_takeNumber ∈ lw_g := ⟨lw_g_in (i := 395) (by decide +kernel) (by decide +kernel), lw_g_in (i := 397) (by decide +kernel) (by decide +kernel), lw_g_in (i := 5) (by decide +kernel) (by decide +kernel)⟩
theorem mlX8_45 : Cond.methodLink RX8 45 yX8_isLetter ∈ lw_g ∧ Cond.static yX8_isLetter ∈ lw_g := ⟨lw_g_in (i := 399) (by decide +kernel) (by decide +kernel), lw_g_in (i := 400) (by decide +kernel) (by decide +kernel)⟩
theorem mlX8_48 : Cond.methodLink RX8 48 yX8_takeWord ∈ lw_g ∧ Cond.instanceMethod yX8_takeWord ∈ lw_g ∧ Cond.selects yX8_takeWord.cls yX8_takeWord yX8_takeWord ∈ lw_g := ⟨lw_g_in (i := 402) (by decide +kernel) (by decide +kernel), lw_g_in (i := 404) (by decide +kernel) (by decide +kernel), lw_g_in (i := 6) (by decide +kernel) (by decide +kernel)⟩
theorem mlX8_54 : Cond.methodLink RX8 54 yX8_keywordKind ∈ lw_g ∧ Cond.instanceMethod yX8_keywordKind ∈ lw_g ∧ Cond.selects yX8_keywordKind.cls yX8_keywordKind yX8_keywordKind ∈ lw_g := ⟨lw_g_in (i := 406) (by decide +kernel) (by decide +kernel), lw_g_in (i := 408) (by decide +kernel) (by decide +kernel), lw_g_in (i := 7) (by decide +kernel) (by decide +kernel)⟩
theorem mlX8_63 : Cond.methodLink RX8 63 yX8_spells ∈ lw_g ∧ Cond.instanceMethod yX8_spells ∈ lw_g ∧ Cond.selects yX8_spells.cls yX8_spells yX8_spells ∈ lw_g := ⟨lw_g_in (i := 411) (by decide +kernel) (by decide +kernel), lw_g_in (i := 413) (by decide +kernel) (by decide +kernel), lw_g_in (i := 8) (by decide +kernel) (by decide +kernel)⟩
theorem mlX8_87 : Cond.methodLink RX8 87 yJ0_length_8abf5 ∈ lw_g ∧ Cond.instanceMethod yJ0_length_8abf5 ∈ lw_g ∧ Cond.selects yJ0_length_8abf5.cls yJ0_length_8abf5 yJ0_length_8abf5 ∈ lw_g := ⟨lw_g_in (i := 415) (by decide +kernel) (by decide +kernel), lw_g_in (i := 416) (by decide +kernel) (by decide +kernel), lw_g_in (i := 417) (by decide +kernel) (by decide +kernel)⟩
theorem mlJ0_335 : Cond.methodLink RJ0 335 yJ0_coder_7d493 ∈ lw_g ∧ Cond.instanceMethod yJ0_coder_7d493 ∈ lw_g ∧ Cond.selects yJ0_coder_7d493.cls yJ0_coder_7d493 yJ0_coder_7d493 ∈ lw_g := ⟨lw_g_in (i := 419) (by decide +kernel) (by decide +kernel), lw_g_in (i := 420) (by decide +kernel) (by decide +kernel), lw_g_in (i := 421) (by decide +kernel) (by decide +kernel)⟩
theorem mlX8_91 : Cond.methodLink RX8 91 yJ0_charAt_5068e ∈ lw_g ∧ Cond.instanceMethod yJ0_charAt_5068e ∈ lw_g ∧ Cond.selects yJ0_charAt_5068e.cls yJ0_charAt_5068e yJ0_charAt_5068e ∈ lw_g := ⟨lw_g_in (i := 425) (by decide +kernel) (by decide +kernel), lw_g_in (i := 426) (by decide +kernel) (by decide +kernel), lw_g_in (i := 427) (by decide +kernel) (by decide +kernel)⟩
theorem mlJ0_492 : Cond.methodLink RJ0 492 yJ0_isLatin1_aae02 ∈ lw_g ∧ Cond.instanceMethod yJ0_isLatin1_aae02 ∈ lw_g ∧ Cond.selects yJ0_isLatin1_aae02.cls yJ0_isLatin1_aae02 yJ0_isLatin1_aae02 ∈ lw_g := ⟨lw_g_in (i := 429) (by decide +kernel) (by decide +kernel), lw_g_in (i := 430) (by decide +kernel) (by decide +kernel), lw_g_in (i := 431) (by decide +kernel) (by decide +kernel)⟩
theorem mlJ0_495 : Cond.methodLink RJ0 495 yJ1_charAt_3b067 ∈ lw_g ∧ Cond.static yJ1_charAt_3b067 ∈ lw_g := ⟨lw_g_in (i := 433) (by decide +kernel) (by decide +kernel), lw_g_in (i := 434) (by decide +kernel) (by decide +kernel)⟩
theorem mlJ1_9 : Cond.methodLink RJ1 9 yJ0_checkIndex_df160 ∈ lw_g ∧ Cond.static yJ0_checkIndex_df160 ∈ lw_g := ⟨lw_g_in (i := 436) (by decide +kernel) (by decide +kernel), lw_g_in (i := 437) (by decide +kernel) (by decide +kernel)⟩
theorem mlJ0_1059 : Cond.methodLink RJ0 1059 yJ3_checkIndex_8e157 ∈ lw_g ∧ Cond.static yJ3_checkIndex_8e157 ∈ lw_g := ⟨lw_g_in (i := 441) (by decide +kernel) (by decide +kernel), lw_g_in (i := 442) (by decide +kernel) (by decide +kernel)⟩
theorem mlJ0_498 : Cond.methodLink RJ0 498 yJ2_charAt_3b067 ∈ lw_g ∧ Cond.static yJ2_charAt_3b067 ∈ lw_g := ⟨lw_g_in (i := 444) (by decide +kernel) (by decide +kernel), lw_g_in (i := 445) (by decide +kernel) (by decide +kernel)⟩
theorem mlJ2_67 : Cond.methodLink RJ2 67 yJ2_checkIndex_2214a ∈ lw_g ∧ Cond.static yJ2_checkIndex_2214a ∈ lw_g := ⟨lw_g_in (i := 447) (by decide +kernel) (by decide +kernel), lw_g_in (i := 448) (by decide +kernel) (by decide +kernel)⟩
theorem mlJ2_48 : Cond.methodLink RJ2 48 yJ2_length_9d52b ∈ lw_g ∧ Cond.static yJ2_length_9d52b ∈ lw_g := ⟨lw_g_in (i := 450) (by decide +kernel) (by decide +kernel), lw_g_in (i := 451) (by decide +kernel) (by decide +kernel)⟩
theorem mlJ2_414 : Cond.methodLink RJ2 414 yJ0_checkIndex_df160 ∈ lw_g ∧ Cond.static yJ0_checkIndex_df160 ∈ lw_g := ⟨lw_g_in (i := 453) (by decide +kernel) (by decide +kernel), lw_g_in (i := 437) (by decide +kernel) (by decide +kernel)⟩
theorem mlJ2_71 : Cond.methodLink RJ2 71 yJ2_getChar_3b067 ∈ lw_g ∧ Cond.static yJ2_getChar_3b067 ∈ lw_g := ⟨lw_g_in (i := 454) (by decide +kernel) (by decide +kernel), lw_g_in (i := 455) (by decide +kernel) (by decide +kernel)⟩
theorem mlX8_58 : Cond.methodLink RX8 58 yX8_nameNumber ∈ lw_g ∧ Cond.instanceMethod yX8_nameNumber ∈ lw_g ∧ Cond.selects yX8_nameNumber.cls yX8_nameNumber yX8_nameNumber ∈ lw_g := ⟨lw_g_in (i := 468) (by decide +kernel) (by decide +kernel), lw_g_in (i := 470) (by decide +kernel) (by decide +kernel), lw_g_in (i := 9) (by decide +kernel) (by decide +kernel)⟩
theorem mlX8_51 : Cond.methodLink RX8 51 yX8_isSign ∈ lw_g ∧ Cond.static yX8_isSign ∈ lw_g := ⟨lw_g_in (i := 477) (by decide +kernel) (by decide +kernel), lw_g_in (i := 478) (by decide +kernel) (by decide +kernel)⟩
theorem mlX4_44 : Cond.methodLink RX4 44 yX4_step ∈ lw_g ∧ Cond.instanceMethod yX4_step ∈ lw_g ∧ Cond.selects yX4_step.cls yX4_step yX4_step ∈ lw_g := ⟨lw_g_in (i := 480) (by decide +kernel) (by decide +kernel), lw_g_in (i := 482) (by decide +kernel) (by decide +kernel), lw_g_in (i := 10) (by decide +kernel) (by decide +kernel)⟩
theorem mlX4_74 : Cond.methodLink RX4 74 yX4_readChange ∈ lw_g ∧ Cond.instanceMethod yX4_readChange ∈ lw_g ∧ Cond.selects yX4_readChange.cls yX4_readChange yX4_readChange ∈ lw_g := ⟨lw_g_in (i := 484) (by decide +kernel) (by decide +kernel), lw_g_in (i := 486) (by decide +kernel) (by decide +kernel), lw_g_in (i := 11) (by decide +kernel) (by decide +kernel)⟩
theorem mlX4_111 : Cond.methodLink RX4 111 yX4_faulty ∈ lw_g ∧ Cond.instanceMethod yX4_faulty ∈ lw_g ∧ Cond.selects yX4_faulty.cls yX4_faulty yX4_faulty ∈ lw_g := ⟨lw_g_in (i := 488) (by decide +kernel) (by decide +kernel), lw_g_in (i := 490) (by decide +kernel) (by decide +kernel), lw_g_in (i := 12) (by decide +kernel) (by decide +kernel)⟩
theorem mlX4_78 : Cond.methodLink RX4 78 yX4_readClauseNumber ∈ lw_g ∧ Cond.instanceMethod yX4_readClauseNumber ∈ lw_g ∧ Cond.selects yX4_readClauseNumber.cls yX4_readClauseNumber yX4_readClauseNumber ∈ lw_g := ⟨lw_g_in (i := 492) (by decide +kernel) (by decide +kernel), lw_g_in (i := 494) (by decide +kernel) (by decide +kernel), lw_g_in (i := 13) (by decide +kernel) (by decide +kernel)⟩
theorem mlX4_81 : Cond.methodLink RX4 81 yX4_readBehindChange ∈ lw_g ∧ Cond.instanceMethod yX4_readBehindChange ∈ lw_g ∧ Cond.selects yX4_readBehindChange.cls yX4_readBehindChange yX4_readBehindChange ∈ lw_g := ⟨lw_g_in (i := 496) (by decide +kernel) (by decide +kernel), lw_g_in (i := 498) (by decide +kernel) (by decide +kernel), lw_g_in (i := 14) (by decide +kernel) (by decide +kernel)⟩
theorem mlX4_84 : Cond.methodLink RX4 84 yX4_readOne ∈ lw_g ∧ Cond.instanceMethod yX4_readOne ∈ lw_g ∧ Cond.selects yX4_readOne.cls yX4_readOne yX4_readOne ∈ lw_g := ⟨lw_g_in (i := 500) (by decide +kernel) (by decide +kernel), lw_g_in (i := 502) (by decide +kernel) (by decide +kernel), lw_g_in (i := 15) (by decide +kernel) (by decide +kernel)⟩
theorem mlX4_123 : Cond.methodLink RX4 123 yX10_hold ∈ lw_g ∧ Cond.instanceMethod yX10_hold ∈ lw_g ∧ Cond.selects yX10_hold.cls yX10_hold yX10_hold ∈ lw_g := ⟨lw_g_in (i := 504) (by decide +kernel) (by decide +kernel), lw_g_in (i := 505) (by decide +kernel) (by decide +kernel), lw_g_in (i := 506) (by decide +kernel) (by decide +kernel)⟩
theorem mlX4_129 : Cond.methodLink RX4 129 yX4_noName ∈ lw_g ∧ Cond.instanceMethod yX4_noName ∈ lw_g ∧ Cond.selects yX4_noName.cls yX4_noName yX4_noName ∈ lw_g := ⟨lw_g_in (i := 508) (by decide +kernel) (by decide +kernel), lw_g_in (i := 510) (by decide +kernel) (by decide +kernel), lw_g_in (i := 16) (by decide +kernel) (by decide +kernel)⟩
theorem mlX4_87 : Cond.methodLink RX4 87 yX4_readSign ∈ lw_g ∧ Cond.instanceMethod yX4_readSign ∈ lw_g ∧ Cond.selects yX4_readSign.cls yX4_readSign yX4_readSign ∈ lw_g := ⟨lw_g_in (i := 512) (by decide +kernel) (by decide +kernel), lw_g_in (i := 514) (by decide +kernel) (by decide +kernel), lw_g_in (i := 17) (by decide +kernel) (by decide +kernel)⟩
theorem mlX4_90 : Cond.methodLink RX4 90 yX4_readValue ∈ lw_g ∧ Cond.instanceMethod yX4_readValue ∈ lw_g ∧ Cond.selects yX4_readValue.cls yX4_readValue yX4_readValue ∈ lw_g := ⟨lw_g_in (i := 516) (by decide +kernel) (by decide +kernel), lw_g_in (i := 518) (by decide +kernel) (by decide +kernel), lw_g_in (i := 18) (by decide +kernel) (by decide +kernel)⟩
theorem mlX4_135 : Cond.methodLink RX4 135 yX0_step ∈ lw_g ∧ Cond.static yX0_step ∈ lw_g := ⟨lw_g_in (i := 520) (by decide +kernel) (by decide +kernel), lw_g_in (i := 521) (by decide +kernel) (by decide +kernel)⟩
theorem mlX4_140 : Cond.methodLink RX4 140 yX10_write ∈ lw_g ∧ Cond.instanceMethod yX10_write ∈ lw_g ∧ Cond.selects yX10_write.cls yX10_write yX10_write ∈ lw_g := ⟨lw_g_in (i := 523) (by decide +kernel) (by decide +kernel), lw_g_in (i := 524) (by decide +kernel) (by decide +kernel), lw_g_in (i := 525) (by decide +kernel) (by decide +kernel)⟩
theorem mlX4_143 : Cond.methodLink RX4 143 yX10_endOne ∈ lw_g ∧ Cond.instanceMethod yX10_endOne ∈ lw_g ∧ Cond.selects yX10_endOne.cls yX10_endOne yX10_endOne ∈ lw_g := ⟨lw_g_in (i := 527) (by decide +kernel) (by decide +kernel), lw_g_in (i := 528) (by decide +kernel) (by decide +kernel), lw_g_in (i := 529) (by decide +kernel) (by decide +kernel)⟩
theorem mlX10_25 : Cond.methodLink RX10 25 yX10_release ∈ lw_g ∧ Cond.instanceMethod yX10_release ∈ lw_g ∧ Cond.selects yX10_release.cls yX10_release yX10_release ∈ lw_g := ⟨lw_g_in (i := 531) (by decide +kernel) (by decide +kernel), lw_g_in (i := 533) (by decide +kernel) (by decide +kernel), lw_g_in (i := 19) (by decide +kernel) (by decide +kernel)⟩
theorem mlX10_32 : Cond.methodLink RX10 32 yX10_write ∈ lw_g ∧ Cond.instanceMethod yX10_write ∈ lw_g ∧ Cond.selects yX10_write.cls yX10_write yX10_write ∈ lw_g := ⟨lw_g_in (i := 535) (by decide +kernel) (by decide +kernel), lw_g_in (i := 524) (by decide +kernel) (by decide +kernel), lw_g_in (i := 525) (by decide +kernel) (by decide +kernel)⟩
theorem mlX4_93 : Cond.methodLink RX4 93 yX4_readBehindOne ∈ lw_g ∧ Cond.instanceMethod yX4_readBehindOne ∈ lw_g ∧ Cond.selects yX4_readBehindOne.cls yX4_readBehindOne yX4_readBehindOne ∈ lw_g := ⟨lw_g_in (i := 536) (by decide +kernel) (by decide +kernel), lw_g_in (i := 538) (by decide +kernel) (by decide +kernel), lw_g_in (i := 20) (by decide +kernel) (by decide +kernel)⟩
theorem mlX4_146 : Cond.methodLink RX4 146 yX10_join ∈ lw_g ∧ Cond.instanceMethod yX10_join ∈ lw_g ∧ Cond.selects yX10_join.cls yX10_join yX10_join ∈ lw_g := ⟨lw_g_in (i := 540) (by decide +kernel) (by decide +kernel), lw_g_in (i := 541) (by decide +kernel) (by decide +kernel), lw_g_in (i := 542) (by decide +kernel) (by decide +kernel)⟩
theorem mlX10_29 : Cond.methodLink RX10 29 yX10_hold ∈ lw_g ∧ Cond.instanceMethod yX10_hold ∈ lw_g ∧ Cond.selects yX10_hold.cls yX10_hold yX10_hold ∈ lw_g := ⟨lw_g_in (i := 544) (by decide +kernel) (by decide +kernel), lw_g_in (i := 505) (by decide +kernel) (by decide +kernel), lw_g_in (i := 506) (by decide +kernel) (by decide +kernel)⟩
theorem mlX4_149 : Cond.methodLink RX4 149 yX10_endAny ∈ lw_g ∧ Cond.instanceMethod yX10_endAny ∈ lw_g ∧ Cond.selects yX10_endAny.cls yX10_endAny yX10_endAny ∈ lw_g := ⟨lw_g_in (i := 545) (by decide +kernel) (by decide +kernel), lw_g_in (i := 546) (by decide +kernel) (by decide +kernel), lw_g_in (i := 547) (by decide +kernel) (by decide +kernel)⟩
theorem mlX4_152 : Cond.methodLink RX4 152 yX10_closeBracket ∈ lw_g ∧ Cond.instanceMethod yX10_closeBracket ∈ lw_g ∧ Cond.selects yX10_closeBracket.cls yX10_closeBracket yX10_closeBracket ∈ lw_g := ⟨lw_g_in (i := 549) (by decide +kernel) (by decide +kernel), lw_g_in (i := 550) (by decide +kernel) (by decide +kernel), lw_g_in (i := 551) (by decide +kernel) (by decide +kernel)⟩
theorem mlX4_96 : Cond.methodLink RX4 96 yX4_readTerm ∈ lw_g ∧ Cond.instanceMethod yX4_readTerm ∈ lw_g ∧ Cond.selects yX4_readTerm.cls yX4_readTerm yX4_readTerm ∈ lw_g := ⟨lw_g_in (i := 553) (by decide +kernel) (by decide +kernel), lw_g_in (i := 555) (by decide +kernel) (by decide +kernel), lw_g_in (i := 21) (by decide +kernel) (by decide +kernel)⟩
theorem mlX4_99 : Cond.methodLink RX4 99 yX4_readBehindNumber ∈ lw_g ∧ Cond.instanceMethod yX4_readBehindNumber ∈ lw_g ∧ Cond.selects yX4_readBehindNumber.cls yX4_readBehindNumber yX4_readBehindNumber ∈ lw_g := ⟨lw_g_in (i := 557) (by decide +kernel) (by decide +kernel), lw_g_in (i := 559) (by decide +kernel) (by decide +kernel), lw_g_in (i := 22) (by decide +kernel) (by decide +kernel)⟩
theorem mlX4_105 : Cond.methodLink RX4 105 yX4_readBehindTerm ∈ lw_g ∧ Cond.instanceMethod yX4_readBehindTerm ∈ lw_g ∧ Cond.selects yX4_readBehindTerm.cls yX4_readBehindTerm yX4_readBehindTerm ∈ lw_g := ⟨lw_g_in (i := 561) (by decide +kernel) (by decide +kernel), lw_g_in (i := 563) (by decide +kernel) (by decide +kernel), lw_g_in (i := 23) (by decide +kernel) (by decide +kernel)⟩
theorem mlX4_102 : Cond.methodLink RX4 102 yX4_readFactor ∈ lw_g ∧ Cond.instanceMethod yX4_readFactor ∈ lw_g ∧ Cond.selects yX4_readFactor.cls yX4_readFactor yX4_readFactor ∈ lw_g := ⟨lw_g_in (i := 565) (by decide +kernel) (by decide +kernel), lw_g_in (i := 567) (by decide +kernel) (by decide +kernel), lw_g_in (i := 24) (by decide +kernel) (by decide +kernel)⟩
theorem mlX11_110 : Cond.methodLink RX11 110 yX11_keepChanges ∈ lw_g ∧ Cond.instanceMethod yX11_keepChanges ∈ lw_g ∧ Cond.selects yX11_keepChanges.cls yX11_keepChanges yX11_keepChanges ∈ lw_g := ⟨lw_g_in (i := 569) (by decide +kernel) (by decide +kernel), lw_g_in (i := 571) (by decide +kernel) (by decide +kernel), lw_g_in (i := 25) (by decide +kernel) (by decide +kernel)⟩
theorem mlX11_276 : Cond.methodLink RX11 276 yX4_whatOf ∈ lw_g ∧ Cond.instanceMethod yX4_whatOf ∈ lw_g ∧ Cond.selects yX4_whatOf.cls yX4_whatOf yX4_whatOf ∈ lw_g := ⟨lw_g_in (i := 575) (by decide +kernel) (by decide +kernel), lw_g_in (i := 576) (by decide +kernel) (by decide +kernel), lw_g_in (i := 577) (by decide +kernel) (by decide +kernel)⟩
theorem mlX11_279 : Cond.methodLink RX11 279 yX4_numberOf ∈ lw_g ∧ Cond.instanceMethod yX4_numberOf ∈ lw_g ∧ Cond.selects yX4_numberOf.cls yX4_numberOf yX4_numberOf ∈ lw_g := ⟨lw_g_in (i := 579) (by decide +kernel) (by decide +kernel), lw_g_in (i := 580) (by decide +kernel) (by decide +kernel), lw_g_in (i := 581) (by decide +kernel) (by decide +kernel)⟩
theorem mlX11_282 : Cond.methodLink RX11 282 yX4_codeOf ∈ lw_g ∧ Cond.instanceMethod yX4_codeOf ∈ lw_g ∧ Cond.selects yX4_codeOf.cls yX4_codeOf yX4_codeOf ∈ lw_g := ⟨lw_g_in (i := 583) (by decide +kernel) (by decide +kernel), lw_g_in (i := 584) (by decide +kernel) (by decide +kernel), lw_g_in (i := 585) (by decide +kernel) (by decide +kernel)⟩
theorem mlX4_58 : Cond.methodLink RX4 58 yJ7_copyOfRange_feecc ∈ lw_g ∧ Cond.static yJ7_copyOfRange_feecc ∈ lw_g := ⟨lw_g_in (i := 587) (by decide +kernel) (by decide +kernel), lw_g_in (i := 588) (by decide +kernel) (by decide +kernel)⟩
theorem mlJ7_351 : Cond.methodLink RJ7 351 yJ7_copyOfRangeInt_feecc ∈ lw_g ∧ Cond.static yJ7_copyOfRangeInt_feecc ∈ lw_g := ⟨lw_g_in (i := 590) (by decide +kernel) (by decide +kernel), lw_g_in (i := 591) (by decide +kernel) (by decide +kernel)⟩
theorem mlJ7_343 : Cond.methodLink RJ7 343 yJ7_checkLength_df160 ∈ lw_g ∧ Cond.static yJ7_checkLength_df160 ∈ lw_g := ⟨lw_g_in (i := 593) (by decide +kernel) (by decide +kernel), lw_g_in (i := 594) (by decide +kernel) (by decide +kernel)⟩
theorem mlJ7_304 : Cond.methodLink RJ7 304 yJ9_min_7cf53 ∈ lw_g ∧ Cond.static yJ9_min_7cf53 ∈ lw_g := ⟨lw_g_in (i := 596) (by decide +kernel) (by decide +kernel), lw_g_in (i := 597) (by decide +kernel) (by decide +kernel)⟩
theorem mlX11_286 : (Cond.methodLink RX11 286 yX0_init ∈ lw_g ∨ ∃ host, Cond.methodLinkNest RX11 286 yX0_init host ∈ lw_n) ∧ Cond.instanceMethod yX0_init ∈ lw_g := ⟨Or.inl (lw_g_in (i := 609) (by decide +kernel) (by decide +kernel)), lw_g_in (i := 610) (by decide +kernel) (by decide +kernel)⟩
theorem mlX11_146 : Cond.methodLink RX11 146 yJx4a65c_add_9ea2d ∈ lw_g ∧ Cond.instanceMethod yJx4a65c_add_9ea2d ∈ lw_g ∧ Cond.selects yJx4a65c_add_9ea2d.cls yJx4a65c_add_9ea2d yJx4a65c_add_9ea2d ∈ lw_g := ⟨lw_g_in (i := 638) (by decide +kernel) (by decide +kernel), lw_g_in (i := 639) (by decide +kernel) (by decide +kernel), lw_g_in (i := 640) (by decide +kernel) (by decide +kernel)⟩
theorem mlJx4a65c_131 : Cond.methodLink RJx4a65c 131 yJx4a65c_add_72be8 ∈ lw_g ∧ Cond.instanceMethod yJx4a65c_add_72be8 ∈ lw_g ∧ Cond.selects yJx4a65c_add_72be8.cls yJx4a65c_add_72be8 yJx4a65c_add_72be8 ∈ lw_g := ⟨lw_g_in (i := 642) (by decide +kernel) (by decide +kernel), lw_g_in (i := 644) (by decide +kernel) (by decide +kernel), lw_g_in (i := 26) (by decide +kernel) (by decide +kernel)⟩
theorem mlJx4a65c_129 : Cond.methodLink RJx4a65c 129 yJx4a65c_grow_d5877 ∈ lw_g ∧ Cond.instanceMethod yJx4a65c_grow_d5877 ∈ lw_g ∧ Cond.selects yJx4a65c_grow_d5877.cls yJx4a65c_grow_d5877 yJx4a65c_grow_d5877 ∈ lw_g := ⟨lw_g_in (i := 646) (by decide +kernel) (by decide +kernel), lw_g_in (i := 648) (by decide +kernel) (by decide +kernel), lw_g_in (i := 27) (by decide +kernel) (by decide +kernel)⟩
theorem mlJx4a65c_69 : Cond.methodLink RJx4a65c 69 yJx4a65c_grow_92f84 ∈ lw_g ∧ Cond.instanceMethod yJx4a65c_grow_92f84 ∈ lw_g ∧ Cond.selects yJx4a65c_grow_92f84.cls yJx4a65c_grow_92f84 yJx4a65c_grow_92f84 ∈ lw_g := ⟨lw_g_in (i := 650) (by decide +kernel) (by decide +kernel), lw_g_in (i := 652) (by decide +kernel) (by decide +kernel), lw_g_in (i := 28) (by decide +kernel) (by decide +kernel)⟩
theorem mlJx4a65c_73 : Cond.methodLink RJx4a65c 73 yJ8_newLength_cabcc ∈ lw_g ∧ Cond.static yJ8_newLength_cabcc ∈ lw_g := ⟨lw_g_in (i := 654) (by decide +kernel) (by decide +kernel), lw_g_in (i := 655) (by decide +kernel) (by decide +kernel)⟩
theorem mlJ8_194 : Cond.methodLink RJ8 194 yJ9_max_7cf53 ∈ lw_g ∧ Cond.static yJ9_max_7cf53 ∈ lw_g := ⟨lw_g_in (i := 657) (by decide +kernel) (by decide +kernel), lw_g_in (i := 658) (by decide +kernel) (by decide +kernel)⟩
theorem mlJ8_201 : Cond.methodLink RJ8 201 yJ8_hugeLength_7cf53 ∈ lw_g ∧ Cond.static yJ8_hugeLength_7cf53 ∈ lw_g := ⟨lw_g_in (i := 661) (by decide +kernel) (by decide +kernel), lw_g_in (i := 662) (by decide +kernel) (by decide +kernel)⟩
theorem mlJx4a65c_66 : Cond.methodLink RJx4a65c 66 yJ7_copyOf_1904c ∈ lw_g ∧ Cond.static yJ7_copyOf_1904c ∈ lw_g := ⟨lw_g_in (i := 664) (by decide +kernel) (by decide +kernel), lw_g_in (i := 665) (by decide +kernel) (by decide +kernel)⟩
theorem mlJ7_300 : Cond.methodLink RJ7 300 yJ7_copyOf_6403c ∈ lw_g ∧ Cond.static yJ7_copyOf_6403c ∈ lw_g := ⟨lw_g_in (i := 687) (by decide +kernel) (by decide +kernel), lw_g_in (i := 688) (by decide +kernel) (by decide +kernel)⟩
theorem mlJx4a65c_79 : Cond.methodLink RJx4a65c 79 yJ9_max_7cf53 ∈ lw_g ∧ Cond.static yJ9_max_7cf53 ∈ lw_g := ⟨lw_g_in (i := 693) (by decide +kernel) (by decide +kernel), lw_g_in (i := 658) (by decide +kernel) (by decide +kernel)⟩
theorem mlL_28 : Cond.methodLink RL 28 yX11_fault ∈ lw_g ∧ Cond.instanceMethod yX11_fault ∈ lw_g ∧ Cond.selects yX11_fault.cls yX11_fault yX11_fault ∈ lw_g := ⟨lw_g_in (i := 695) (by decide +kernel) (by decide +kernel), lw_g_in (i := 696) (by decide +kernel) (by decide +kernel), lw_g_in (i := 697) (by decide +kernel) (by decide +kernel)⟩
theorem mlL_32 : Cond.methodLink RL 32 yX11_where ∈ lw_g ∧ Cond.instanceMethod yX11_where ∈ lw_g ∧ Cond.selects yX11_where.cls yX11_where yX11_where ∈ lw_g := ⟨lw_g_in (i := 699) (by decide +kernel) (by decide +kernel), lw_g_in (i := 700) (by decide +kernel) (by decide +kernel), lw_g_in (i := 701) (by decide +kernel) (by decide +kernel)⟩
theorem mlL_36 : Cond.methodLink RL 36 yX11_clause ∈ lw_g ∧ Cond.instanceMethod yX11_clause ∈ lw_g ∧ Cond.selects yX11_clause.cls yX11_clause yX11_clause ∈ lw_g := ⟨lw_g_in (i := 703) (by decide +kernel) (by decide +kernel), lw_g_in (i := 704) (by decide +kernel) (by decide +kernel), lw_g_in (i := 705) (by decide +kernel) (by decide +kernel)⟩
theorem mlX11_117 : Cond.methodLink RX11 117 yX6_settle ∈ lw_g ∧ Cond.instanceMethod yX6_settle ∈ lw_g ∧ Cond.selects yX6_settle.cls yX6_settle yX6_settle ∈ lw_g := ⟨lw_g_in (i := 707) (by decide +kernel) (by decide +kernel), lw_g_in (i := 708) (by decide +kernel) (by decide +kernel), lw_g_in (i := 709) (by decide +kernel) (by decide +kernel)⟩
theorem mlX6_17 : Cond.methodLink RX6 17 yJx4a65c_size_8abf5 ∈ lw_g ∧ Cond.instanceMethod yJx4a65c_size_8abf5 ∈ lw_g ∧ Cond.selects yJx4a65c_size_8abf5.cls yJx4a65c_size_8abf5 yJx4a65c_size_8abf5 ∈ lw_g := ⟨lw_g_in (i := 711) (by decide +kernel) (by decide +kernel), lw_g_in (i := 712) (by decide +kernel) (by decide +kernel), lw_g_in (i := 713) (by decide +kernel) (by decide +kernel)⟩
theorem mlX6_23 : Cond.methodLink RX6 23 yJx4a65c_get_915e3 ∈ lw_g ∧ Cond.instanceMethod yJx4a65c_get_915e3 ∈ lw_g ∧ Cond.selects yJx4a65c_get_915e3.cls yJx4a65c_get_915e3 yJx4a65c_get_915e3 ∈ lw_g := ⟨lw_g_in (i := 715) (by decide +kernel) (by decide +kernel), lw_g_in (i := 716) (by decide +kernel) (by decide +kernel), lw_g_in (i := 717) (by decide +kernel) (by decide +kernel)⟩
theorem mlJx4a65c_118 : Cond.methodLink RJx4a65c 118 yJ15_checkIndex_7cf53 ∈ lw_g ∧ Cond.static yJ15_checkIndex_7cf53 ∈ lw_g := ⟨lw_g_in (i := 719) (by decide +kernel) (by decide +kernel), lw_g_in (i := 720) (by decide +kernel) (by decide +kernel)⟩
theorem mlJ15_105 : Cond.methodLink RJ15 105 yJ3_checkIndex_8e157 ∈ lw_g ∧ Cond.static yJ3_checkIndex_8e157 ∈ lw_g := ⟨lw_g_in (i := 722) (by decide +kernel) (by decide +kernel), lw_g_in (i := 442) (by decide +kernel) (by decide +kernel)⟩
theorem mlJx4a65c_123 : Cond.methodLink RJx4a65c 123 yJx4a65c_elementData_915e3 ∈ lw_g ∧ Cond.instanceMethod yJx4a65c_elementData_915e3 ∈ lw_g ∧ Cond.selects yJx4a65c_elementData_915e3.cls yJx4a65c_elementData_915e3 yJx4a65c_elementData_915e3 ∈ lw_g := ⟨lw_g_in (i := 723) (by decide +kernel) (by decide +kernel), lw_g_in (i := 724) (by decide +kernel) (by decide +kernel), lw_g_in (i := 725) (by decide +kernel) (by decide +kernel)⟩
theorem mlX6_34 : Cond.methodLink RX6 34 yX6_consider ∈ lw_g ∧ Cond.instanceMethod yX6_consider ∈ lw_g ∧ Cond.selects yX6_consider.cls yX6_consider yX6_consider ∈ lw_g := ⟨lw_g_in (i := 727) (by decide +kernel) (by decide +kernel), lw_g_in (i := 729) (by decide +kernel) (by decide +kernel), lw_g_in (i := 29) (by decide +kernel) (by decide +kernel)⟩
theorem mlX11_121 : Cond.methodLink RX11 121 yX6_clauseAt ∈ lw_g ∧ Cond.instanceMethod yX6_clauseAt ∈ lw_g ∧ Cond.selects yX6_clauseAt.cls yX6_clauseAt yX6_clauseAt ∈ lw_g := ⟨lw_g_in (i := 731) (by decide +kernel) (by decide +kernel), lw_g_in (i := 732) (by decide +kernel) (by decide +kernel), lw_g_in (i := 733) (by decide +kernel) (by decide +kernel)⟩
theorem mlL_40 : Cond.methodLink RL 40 yX11_clauses ∈ lw_g ∧ Cond.instanceMethod yX11_clauses ∈ lw_g ∧ Cond.selects yX11_clauses.cls yX11_clauses yX11_clauses ∈ lw_g := ⟨lw_g_in (i := 735) (by decide +kernel) (by decide +kernel), lw_g_in (i := 736) (by decide +kernel) (by decide +kernel), lw_g_in (i := 737) (by decide +kernel) (by decide +kernel)⟩
theorem mlX11_130 : Cond.methodLink RX11 130 yX6_howMany ∈ lw_g ∧ Cond.instanceMethod yX6_howMany ∈ lw_g ∧ Cond.selects yX6_howMany.cls yX6_howMany yX6_howMany ∈ lw_g := ⟨lw_g_in (i := 739) (by decide +kernel) (by decide +kernel), lw_g_in (i := 740) (by decide +kernel) (by decide +kernel), lw_g_in (i := 741) (by decide +kernel) (by decide +kernel)⟩
theorem mlX6_41 : Cond.methodLink RX6 41 yX6_clauseAt ∈ lw_g ∧ Cond.instanceMethod yX6_clauseAt ∈ lw_g ∧ Cond.selects yX6_clauseAt.cls yX6_clauseAt yX6_clauseAt ∈ lw_g := ⟨lw_g_in (i := 743) (by decide +kernel) (by decide +kernel), lw_g_in (i := 732) (by decide +kernel) (by decide +kernel), lw_g_in (i := 733) (by decide +kernel) (by decide +kernel)⟩
theorem mlL_45 : Cond.methodLink RL 45 yX11_person ∈ lw_g ∧ Cond.instanceMethod yX11_person ∈ lw_g ∧ Cond.selects yX11_person.cls yX11_person yX11_person ∈ lw_g := ⟨lw_g_in (i := 744) (by decide +kernel) (by decide +kernel), lw_g_in (i := 745) (by decide +kernel) (by decide +kernel), lw_g_in (i := 746) (by decide +kernel) (by decide +kernel)⟩
theorem mlX11_138 : Cond.methodLink RX11 138 yJx4a65c_size_8abf5 ∈ lw_g ∧ Cond.instanceMethod yJx4a65c_size_8abf5 ∈ lw_g ∧ Cond.selects yJx4a65c_size_8abf5.cls yJx4a65c_size_8abf5 yJx4a65c_size_8abf5 ∈ lw_g := ⟨lw_g_in (i := 749) (by decide +kernel) (by decide +kernel), lw_g_in (i := 712) (by decide +kernel) (by decide +kernel), lw_g_in (i := 713) (by decide +kernel) (by decide +kernel)⟩
theorem mlX11_143 : (Cond.methodLink RX11 143 yX3_init ∈ lw_g ∨ ∃ host, Cond.methodLinkNest RX11 143 yX3_init host ∈ lw_n) ∧ Cond.instanceMethod yX3_init ∈ lw_g := ⟨Or.inl (lw_g_in (i := 752) (by decide +kernel) (by decide +kernel)), lw_g_in (i := 753) (by decide +kernel) (by decide +kernel)⟩
theorem mlL_50 : Cond.methodLink RL 50 yX11_means ∈ lw_g ∧ Cond.instanceMethod yX11_means ∈ lw_g ∧ Cond.selects yX11_means.cls yX11_means yX11_means ∈ lw_g := ⟨lw_g_in (i := 796) (by decide +kernel) (by decide +kernel), lw_g_in (i := 797) (by decide +kernel) (by decide +kernel), lw_g_in (i := 798) (by decide +kernel) (by decide +kernel)⟩
theorem mlX11_150 : Cond.methodLink RX11 150 yX11_personAt ∈ lw_g ∧ Cond.instanceMethod yX11_personAt ∈ lw_g ∧ Cond.selects yX11_personAt.cls yX11_personAt yX11_personAt ∈ lw_g := ⟨lw_g_in (i := 800) (by decide +kernel) (by decide +kernel), lw_g_in (i := 802) (by decide +kernel) (by decide +kernel), lw_g_in (i := 30) (by decide +kernel) (by decide +kernel)⟩
theorem mlX11_190 : Cond.methodLink RX11 190 yJx4a65c_get_915e3 ∈ lw_g ∧ Cond.instanceMethod yJx4a65c_get_915e3 ∈ lw_g ∧ Cond.selects yJx4a65c_get_915e3.cls yJx4a65c_get_915e3 yJx4a65c_get_915e3 ∈ lw_g := ⟨lw_g_in (i := 804) (by decide +kernel) (by decide +kernel), lw_g_in (i := 716) (by decide +kernel) (by decide +kernel), lw_g_in (i := 717) (by decide +kernel) (by decide +kernel)⟩
theorem mlX11_157 : Cond.methodLink RX11 157 yX3_tellMeans ∈ lw_g ∧ Cond.instanceMethod yX3_tellMeans ∈ lw_g ∧ Cond.selects yX3_tellMeans.cls yX3_tellMeans yX3_tellMeans ∈ lw_g := ⟨lw_g_in (i := 805) (by decide +kernel) (by decide +kernel), lw_g_in (i := 806) (by decide +kernel) (by decide +kernel), lw_g_in (i := 807) (by decide +kernel) (by decide +kernel)⟩
theorem mlL_54 : Cond.methodLink RL 54 yX11_dies ∈ lw_g ∧ Cond.instanceMethod yX11_dies ∈ lw_g ∧ Cond.selects yX11_dies.cls yX11_dies yX11_dies ∈ lw_g := ⟨lw_g_in (i := 809) (by decide +kernel) (by decide +kernel), lw_g_in (i := 810) (by decide +kernel) (by decide +kernel), lw_g_in (i := 811) (by decide +kernel) (by decide +kernel)⟩
theorem mlX11_167 : Cond.methodLink RX11 167 yX11_roomAt ∈ lw_g ∧ Cond.instanceMethod yX11_roomAt ∈ lw_g ∧ Cond.selects yX11_roomAt.cls yX11_roomAt yX11_roomAt ∈ lw_g := ⟨lw_g_in (i := 814) (by decide +kernel) (by decide +kernel), lw_g_in (i := 816) (by decide +kernel) (by decide +kernel), lw_g_in (i := 31) (by decide +kernel) (by decide +kernel)⟩
theorem mlX11_171 : Cond.methodLink RX11 171 yX11_empty ∈ lw_g ∧ Cond.instanceMethod yX11_empty ∈ lw_g ∧ Cond.selects yX11_empty.cls yX11_empty yX11_empty ∈ lw_g := ⟨lw_g_in (i := 819) (by decide +kernel) (by decide +kernel), lw_g_in (i := 821) (by decide +kernel) (by decide +kernel), lw_g_in (i := 32) (by decide +kernel) (by decide +kernel)⟩
theorem mlL_59 : Cond.methodLink RL 59 yX11_fact ∈ lw_g ∧ Cond.instanceMethod yX11_fact ∈ lw_g ∧ Cond.selects yX11_fact.cls yX11_fact yX11_fact ∈ lw_g := ⟨lw_g_in (i := 823) (by decide +kernel) (by decide +kernel), lw_g_in (i := 824) (by decide +kernel) (by decide +kernel), lw_g_in (i := 825) (by decide +kernel) (by decide +kernel)⟩
theorem mlX11_175 : Cond.methodLink RX11 175 yX3_tell ∈ lw_g ∧ Cond.instanceMethod yX3_tell ∈ lw_g ∧ Cond.selects yX3_tell.cls yX3_tell yX3_tell ∈ lw_g := ⟨lw_g_in (i := 827) (by decide +kernel) (by decide +kernel), lw_g_in (i := 828) (by decide +kernel) (by decide +kernel), lw_g_in (i := 829) (by decide +kernel) (by decide +kernel)⟩
theorem mlX3_42 : Cond.methodLink RX3 42 yJ9_max_7cf53 ∈ lw_g ∧ Cond.static yJ9_max_7cf53 ∈ lw_g := ⟨lw_g_in (i := 831) (by decide +kernel) (by decide +kernel), lw_g_in (i := 658) (by decide +kernel) (by decide +kernel)⟩
theorem mlX3_48 : Cond.methodLink RX3 48 yX3_meansOn ∈ lw_g ∧ Cond.instanceMethod yX3_meansOn ∈ lw_g ∧ Cond.selects yX3_meansOn.cls yX3_meansOn yX3_meansOn ∈ lw_g := ⟨lw_g_in (i := 832) (by decide +kernel) (by decide +kernel), lw_g_in (i := 834) (by decide +kernel) (by decide +kernel), lw_g_in (i := 33) (by decide +kernel) (by decide +kernel)⟩
theorem mlL_63 : Cond.methodLink RL 63 yX11_may ∈ lw_g ∧ Cond.instanceMethod yX11_may ∈ lw_g ∧ Cond.selects yX11_may.cls yX11_may yX11_may ∈ lw_g := ⟨lw_g_in (i := 836) (by decide +kernel) (by decide +kernel), lw_g_in (i := 837) (by decide +kernel) (by decide +kernel), lw_g_in (i := 838) (by decide +kernel) (by decide +kernel)⟩
theorem mlX11_179 : Cond.methodLink RX11 179 yX6_admits ∈ lw_g ∧ Cond.instanceMethod yX6_admits ∈ lw_g ∧ Cond.selects yX6_admits.cls yX6_admits yX6_admits ∈ lw_g := ⟨lw_g_in (i := 840) (by decide +kernel) (by decide +kernel), lw_g_in (i := 841) (by decide +kernel) (by decide +kernel), lw_g_in (i := 842) (by decide +kernel) (by decide +kernel)⟩
theorem mlX6_57 : Cond.methodLink RX6 57 yX6_howMany ∈ lw_g ∧ Cond.instanceMethod yX6_howMany ∈ lw_g ∧ Cond.selects yX6_howMany.cls yX6_howMany yX6_howMany ∈ lw_g := ⟨lw_g_in (i := 844) (by decide +kernel) (by decide +kernel), lw_g_in (i := 740) (by decide +kernel) (by decide +kernel), lw_g_in (i := 741) (by decide +kernel) (by decide +kernel)⟩
theorem mlX6_60 : Cond.methodLink RX6 60 yX6_firstBar ∈ lw_g ∧ Cond.instanceMethod yX6_firstBar ∈ lw_g ∧ Cond.selects yX6_firstBar.cls yX6_firstBar yX6_firstBar ∈ lw_g := ⟨lw_g_in (i := 845) (by decide +kernel) (by decide +kernel), lw_g_in (i := 846) (by decide +kernel) (by decide +kernel), lw_g_in (i := 847) (by decide +kernel) (by decide +kernel)⟩
theorem mlX6_45 : Cond.methodLink RX6 45 yX0_holdsFor ∈ lw_g ∧ Cond.instanceMethod yX0_holdsFor ∈ lw_g ∧ Cond.selects yX0_holdsFor.cls yX0_holdsFor yX0_holdsFor ∈ lw_g := ⟨lw_g_in (i := 849) (by decide +kernel) (by decide +kernel), lw_g_in (i := 850) (by decide +kernel) (by decide +kernel), lw_g_in (i := 851) (by decide +kernel) (by decide +kernel)⟩
theorem mlX0_31 : Cond.methodLink RX0 31 yX0_doesOf ∈ lw_g ∧ Cond.static yX0_doesOf ∈ lw_g := ⟨lw_g_in (i := 853) (by decide +kernel) (by decide +kernel), lw_g_in (i := 854) (by decide +kernel) (by decide +kernel)⟩
theorem mlX0_35 : Cond.methodLink RX0 35 yX0_nameOf ∈ lw_g ∧ Cond.static yX0_nameOf ∈ lw_g := ⟨lw_g_in (i := 856) (by decide +kernel) (by decide +kernel), lw_g_in (i := 857) (by decide +kernel) (by decide +kernel)⟩
theorem mlX0_38 : Cond.methodLink RX0 38 yX3_tell ∈ lw_g ∧ Cond.instanceMethod yX3_tell ∈ lw_g ∧ Cond.selects yX3_tell.cls yX3_tell yX3_tell ∈ lw_g := ⟨lw_g_in (i := 859) (by decide +kernel) (by decide +kernel), lw_g_in (i := 828) (by decide +kernel) (by decide +kernel), lw_g_in (i := 829) (by decide +kernel) (by decide +kernel)⟩
theorem mlX0_44 : Cond.methodLink RX0 44 yX0_numberOf ∈ lw_g ∧ Cond.static yX0_numberOf ∈ lw_g := ⟨lw_g_in (i := 860) (by decide +kernel) (by decide +kernel), lw_g_in (i := 861) (by decide +kernel) (by decide +kernel)⟩
theorem mlX0_47 : Cond.methodLink RX0 47 yX0_compares ∈ lw_g ∧ Cond.static yX0_compares ∈ lw_g := ⟨lw_g_in (i := 863) (by decide +kernel) (by decide +kernel), lw_g_in (i := 864) (by decide +kernel) (by decide +kernel)⟩
theorem mlL_67 : Cond.methodLink RL 67 yX11_bars ∈ lw_g ∧ Cond.instanceMethod yX11_bars ∈ lw_g ∧ Cond.selects yX11_bars.cls yX11_bars yX11_bars ∈ lw_g := ⟨lw_g_in (i := 866) (by decide +kernel) (by decide +kernel), lw_g_in (i := 867) (by decide +kernel) (by decide +kernel), lw_g_in (i := 868) (by decide +kernel) (by decide +kernel)⟩
theorem mlX11_183 : Cond.methodLink RX11 183 yX6_firstBar ∈ lw_g ∧ Cond.instanceMethod yX6_firstBar ∈ lw_g ∧ Cond.selects yX6_firstBar.cls yX6_firstBar yX6_firstBar ∈ lw_g := ⟨lw_g_in (i := 870) (by decide +kernel) (by decide +kernel), lw_g_in (i := 846) (by decide +kernel) (by decide +kernel), lw_g_in (i := 847) (by decide +kernel) (by decide +kernel)⟩
theorem mlL_71 : Cond.methodLink RL 71 yX11_order ∈ lw_g ∧ Cond.instanceMethod yX11_order ∈ lw_g ∧ Cond.selects yX11_order.cls yX11_order yX11_order ∈ lw_g := ⟨lw_g_in (i := 871) (by decide +kernel) (by decide +kernel), lw_g_in (i := 872) (by decide +kernel) (by decide +kernel), lw_g_in (i := 873) (by decide +kernel) (by decide +kernel)⟩
theorem mlX11_187 : Cond.methodLink RX11 187 yX6_rank ∈ lw_g ∧ Cond.instanceMethod yX6_rank ∈ lw_g ∧ Cond.selects yX6_rank.cls yX6_rank yX6_rank ∈ lw_g := ⟨lw_g_in (i := 875) (by decide +kernel) (by decide +kernel), lw_g_in (i := 876) (by decide +kernel) (by decide +kernel), lw_g_in (i := 877) (by decide +kernel) (by decide +kernel)⟩
theorem mlX6_64 : Cond.methodLink RX6 64 yX0_sumFor ∈ lw_g ∧ Cond.instanceMethod yX0_sumFor ∈ lw_g ∧ Cond.selects yX0_sumFor.cls yX0_sumFor yX0_sumFor ∈ lw_g := ⟨lw_g_in (i := 879) (by decide +kernel) (by decide +kernel), lw_g_in (i := 880) (by decide +kernel) (by decide +kernel), lw_g_in (i := 881) (by decide +kernel) (by decide +kernel)⟩
theorem mlL_75 : Cond.methodLink RL 75 yX11_list ∈ lw_g ∧ Cond.instanceMethod yX11_list ∈ lw_g ∧ Cond.selects yX11_list.cls yX11_list yX11_list ∈ lw_g := ⟨lw_g_in (i := 883) (by decide +kernel) (by decide +kernel), lw_g_in (i := 884) (by decide +kernel) (by decide +kernel), lw_g_in (i := 885) (by decide +kernel) (by decide +kernel)⟩
theorem mlL_79 : Cond.methodLink RL 79 yX11_next ∈ lw_g ∧ Cond.instanceMethod yX11_next ∈ lw_g ∧ Cond.selects yX11_next.cls yX11_next yX11_next ∈ lw_g := ⟨lw_g_in (i := 887) (by decide +kernel) (by decide +kernel), lw_g_in (i := 888) (by decide +kernel) (by decide +kernel), lw_g_in (i := 889) (by decide +kernel) (by decide +kernel)⟩
theorem mlX11_194 : Cond.methodLink RX11 194 yX11_choose ∈ lw_g ∧ Cond.instanceMethod yX11_choose ∈ lw_g ∧ Cond.selects yX11_choose.cls yX11_choose yX11_choose ∈ lw_g := ⟨lw_g_in (i := 891) (by decide +kernel) (by decide +kernel), lw_g_in (i := 893) (by decide +kernel) (by decide +kernel), lw_g_in (i := 34) (by decide +kernel) (by decide +kernel)⟩
theorem mlL_83 : Cond.methodLink RL 83 yX11_room ∈ lw_g ∧ Cond.instanceMethod yX11_room ∈ lw_g ∧ Cond.selects yX11_room.cls yX11_room yX11_room ∈ lw_g := ⟨lw_g_in (i := 895) (by decide +kernel) (by decide +kernel), lw_g_in (i := 896) (by decide +kernel) (by decide +kernel), lw_g_in (i := 897) (by decide +kernel) (by decide +kernel)⟩
theorem mlX11_199 : (Cond.methodLink RX11 199 yX5_init ∈ lw_g ∨ ∃ host, Cond.methodLinkNest RX11 199 yX5_init host ∈ lw_n) ∧ Cond.instanceMethod yX5_init ∈ lw_g := ⟨Or.inl (lw_g_in (i := 900) (by decide +kernel) (by decide +kernel)), lw_g_in (i := 901) (by decide +kernel) (by decide +kernel)⟩
theorem mlL_88 : Cond.methodLink RL 88 yX11_trustee ∈ lw_g ∧ Cond.instanceMethod yX11_trustee ∈ lw_g ∧ Cond.selects yX11_trustee.cls yX11_trustee yX11_trustee ∈ lw_g := ⟨lw_g_in (i := 916) (by decide +kernel) (by decide +kernel), lw_g_in (i := 917) (by decide +kernel) (by decide +kernel), lw_g_in (i := 918) (by decide +kernel) (by decide +kernel)⟩
theorem mlL_92 : Cond.methodLink RL 92 yX11_away ∈ lw_g ∧ Cond.instanceMethod yX11_away ∈ lw_g ∧ Cond.selects yX11_away.cls yX11_away yX11_away ∈ lw_g := ⟨lw_g_in (i := 920) (by decide +kernel) (by decide +kernel), lw_g_in (i := 921) (by decide +kernel) (by decide +kernel), lw_g_in (i := 922) (by decide +kernel) (by decide +kernel)⟩
theorem mlX11_203 : Cond.methodLink RX11 203 yX9_setAbsent ∈ lw_g ∧ Cond.instanceMethod yX9_setAbsent ∈ lw_g ∧ Cond.selects yX9_setAbsent.cls yX9_setAbsent yX9_setAbsent ∈ lw_g := ⟨lw_g_in (i := 924) (by decide +kernel) (by decide +kernel), lw_g_in (i := 925) (by decide +kernel) (by decide +kernel), lw_g_in (i := 926) (by decide +kernel) (by decide +kernel)⟩
theorem mlL_97 : Cond.methodLink RL 97 yX11_fill ∈ lw_g ∧ Cond.instanceMethod yX11_fill ∈ lw_g ∧ Cond.selects yX11_fill.cls yX11_fill yX11_fill ∈ lw_g := ⟨lw_g_in (i := 928) (by decide +kernel) (by decide +kernel), lw_g_in (i := 929) (by decide +kernel) (by decide +kernel), lw_g_in (i := 930) (by decide +kernel) (by decide +kernel)⟩
theorem mlX11_211 : Cond.methodLink RX11 211 yX9_giver ∈ lw_g ∧ Cond.instanceMethod yX9_giver ∈ lw_g ∧ Cond.selects yX9_giver.cls yX9_giver yX9_giver ∈ lw_g := ⟨lw_g_in (i := 932) (by decide +kernel) (by decide +kernel), lw_g_in (i := 933) (by decide +kernel) (by decide +kernel), lw_g_in (i := 934) (by decide +kernel) (by decide +kernel)⟩
theorem mlX9_22 : Cond.methodLink RX9 22 yX9_behind ∈ lw_g ∧ Cond.instanceMethod yX9_behind ∈ lw_g ∧ Cond.selects yX9_behind.cls yX9_behind yX9_behind ∈ lw_g := ⟨lw_g_in (i := 936) (by decide +kernel) (by decide +kernel), lw_g_in (i := 938) (by decide +kernel) (by decide +kernel), lw_g_in (i := 35) (by decide +kernel) (by decide +kernel)⟩
theorem mlX11_219 : (Cond.methodLink RX11 219 yX7_init ∈ lw_g ∨ ∃ host, Cond.methodLinkNest RX11 219 yX7_init host ∈ lw_n) ∧ Cond.instanceMethod yX7_init ∈ lw_g := ⟨Or.inl (lw_g_in (i := 942) (by decide +kernel) (by decide +kernel)), lw_g_in (i := 943) (by decide +kernel) (by decide +kernel)⟩
theorem mlX11_224 : Cond.methodLink RX11 224 yX9_moveTurnBehind ∈ lw_g ∧ Cond.instanceMethod yX9_moveTurnBehind ∈ lw_g ∧ Cond.selects yX9_moveTurnBehind.cls yX9_moveTurnBehind yX9_moveTurnBehind ∈ lw_g := ⟨lw_g_in (i := 964) (by decide +kernel) (by decide +kernel), lw_g_in (i := 965) (by decide +kernel) (by decide +kernel), lw_g_in (i := 966) (by decide +kernel) (by decide +kernel)⟩
theorem mlL_101 : Cond.methodLink RL 101 yX11_leave ∈ lw_g ∧ Cond.instanceMethod yX11_leave ∈ lw_g ∧ Cond.selects yX11_leave.cls yX11_leave yX11_leave ∈ lw_g := ⟨lw_g_in (i := 968) (by decide +kernel) (by decide +kernel), lw_g_in (i := 969) (by decide +kernel) (by decide +kernel), lw_g_in (i := 970) (by decide +kernel) (by decide +kernel)⟩
theorem mlL_105 : Cond.methodLink RL 105 yX11_roomOf ∈ lw_g ∧ Cond.instanceMethod yX11_roomOf ∈ lw_g ∧ Cond.selects yX11_roomOf.cls yX11_roomOf yX11_roomOf ∈ lw_g := ⟨lw_g_in (i := 972) (by decide +kernel) (by decide +kernel), lw_g_in (i := 973) (by decide +kernel) (by decide +kernel), lw_g_in (i := 974) (by decide +kernel) (by decide +kernel)⟩
theorem mlL_109 : Cond.methodLink RL 109 yX11_had ∈ lw_g ∧ Cond.instanceMethod yX11_had ∈ lw_g ∧ Cond.selects yX11_had.cls yX11_had yX11_had ∈ lw_g := ⟨lw_g_in (i := 976) (by decide +kernel) (by decide +kernel), lw_g_in (i := 977) (by decide +kernel) (by decide +kernel), lw_g_in (i := 978) (by decide +kernel) (by decide +kernel)⟩
theorem mlL_113 : Cond.methodLink RL 113 yX11_land ∈ lw_g ∧ Cond.instanceMethod yX11_land ∈ lw_g ∧ Cond.selects yX11_land.cls yX11_land yX11_land ∈ lw_g := ⟨lw_g_in (i := 980) (by decide +kernel) (by decide +kernel), lw_g_in (i := 981) (by decide +kernel) (by decide +kernel), lw_g_in (i := 982) (by decide +kernel) (by decide +kernel)⟩
theorem mlX11_240 : (Cond.methodLink RX11 240 yX2_init ∈ lw_g ∨ ∃ host, Cond.methodLinkNest RX11 240 yX2_init host ∈ lw_n) ∧ Cond.instanceMethod yX2_init ∈ lw_g := ⟨Or.inl (lw_g_in (i := 986) (by decide +kernel) (by decide +kernel)), lw_g_in (i := 987) (by decide +kernel) (by decide +kernel)⟩
theorem mlL_117 : Cond.methodLink RL 117 yX11_dole ∈ lw_g ∧ Cond.instanceMethod yX11_dole ∈ lw_g ∧ Cond.selects yX11_dole.cls yX11_dole yX11_dole ∈ lw_g := ⟨lw_g_in (i := 1001) (by decide +kernel) (by decide +kernel), lw_g_in (i := 1002) (by decide +kernel) (by decide +kernel), lw_g_in (i := 1003) (by decide +kernel) (by decide +kernel)⟩
theorem mlL_121 : Cond.methodLink RL 121 yX11_pass ∈ lw_g ∧ Cond.instanceMethod yX11_pass ∈ lw_g ∧ Cond.selects yX11_pass.cls yX11_pass yX11_pass ∈ lw_g := ⟨lw_g_in (i := 1005) (by decide +kernel) (by decide +kernel), lw_g_in (i := 1006) (by decide +kernel) (by decide +kernel), lw_g_in (i := 1007) (by decide +kernel) (by decide +kernel)⟩
theorem mlX11_241 : Cond.methodLink RX11 241 yX11_bringRents ∈ lw_g ∧ Cond.instanceMethod yX11_bringRents ∈ lw_g ∧ Cond.selects yX11_bringRents.cls yX11_bringRents yX11_bringRents ∈ lw_g := ⟨lw_g_in (i := 1009) (by decide +kernel) (by decide +kernel), lw_g_in (i := 1011) (by decide +kernel) (by decide +kernel), lw_g_in (i := 36) (by decide +kernel) (by decide +kernel)⟩
theorem mlX11_289 : Cond.methodLink RX11 289 yX2_isDueOn ∈ lw_g ∧ Cond.instanceMethod yX2_isDueOn ∈ lw_g ∧ Cond.selects yX2_isDueOn.cls yX2_isDueOn yX2_isDueOn ∈ lw_g := ⟨lw_g_in (i := 1013) (by decide +kernel) (by decide +kernel), lw_g_in (i := 1014) (by decide +kernel) (by decide +kernel), lw_g_in (i := 1015) (by decide +kernel) (by decide +kernel)⟩
theorem mlX11_295 : Cond.methodLink RX11 295 yX1_takeIn ∈ lw_g ∧ Cond.instanceMethod yX1_takeIn ∈ lw_g ∧ Cond.selects yX1_takeIn.cls yX1_takeIn yX1_takeIn ∈ lw_g := ⟨lw_g_in (i := 1017) (by decide +kernel) (by decide +kernel), lw_g_in (i := 1018) (by decide +kernel) (by decide +kernel), lw_g_in (i := 1019) (by decide +kernel) (by decide +kernel)⟩
theorem mlX1_20 : Cond.methodLink RX1 20 yJ9_min_7cf53 ∈ lw_g ∧ Cond.static yJ9_min_7cf53 ∈ lw_g := ⟨lw_g_in (i := 1022) (by decide +kernel) (by decide +kernel), lw_g_in (i := 597) (by decide +kernel) (by decide +kernel)⟩
theorem mlX11_244 : Cond.methodLink RX11 244 yX11_payDoles ∈ lw_g ∧ Cond.instanceMethod yX11_payDoles ∈ lw_g ∧ Cond.selects yX11_payDoles.cls yX11_payDoles yX11_payDoles ∈ lw_g := ⟨lw_g_in (i := 1023) (by decide +kernel) (by decide +kernel), lw_g_in (i := 1025) (by decide +kernel) (by decide +kernel), lw_g_in (i := 37) (by decide +kernel) (by decide +kernel)⟩
theorem mlX11_298 : Cond.methodLink RX11 298 yX1_payOut ∈ lw_g ∧ Cond.instanceMethod yX1_payOut ∈ lw_g ∧ Cond.selects yX1_payOut.cls yX1_payOut yX1_payOut ∈ lw_g := ⟨lw_g_in (i := 1027) (by decide +kernel) (by decide +kernel), lw_g_in (i := 1028) (by decide +kernel) (by decide +kernel), lw_g_in (i := 1029) (by decide +kernel) (by decide +kernel)⟩
theorem mlL_125 : Cond.methodLink RL 125 yX11_owed ∈ lw_g ∧ Cond.instanceMethod yX11_owed ∈ lw_g ∧ Cond.selects yX11_owed.cls yX11_owed yX11_owed ∈ lw_g := ⟨lw_g_in (i := 1031) (by decide +kernel) (by decide +kernel), lw_g_in (i := 1032) (by decide +kernel) (by decide +kernel), lw_g_in (i := 1033) (by decide +kernel) (by decide +kernel)⟩
theorem mlL_129 : Cond.methodLink RL 129 yX11_got ∈ lw_g ∧ Cond.instanceMethod yX11_got ∈ lw_g ∧ Cond.selects yX11_got.cls yX11_got yX11_got ∈ lw_g := ⟨lw_g_in (i := 1035) (by decide +kernel) (by decide +kernel), lw_g_in (i := 1036) (by decide +kernel) (by decide +kernel), lw_g_in (i := 1037) (by decide +kernel) (by decide +kernel)⟩
theorem mlL_133 : Cond.methodLink RL 133 yX11_count ∈ lw_g ∧ Cond.instanceMethod yX11_count ∈ lw_g ∧ Cond.selects yX11_count.cls yX11_count yX11_count ∈ lw_g := ⟨lw_g_in (i := 1039) (by decide +kernel) (by decide +kernel), lw_g_in (i := 1040) (by decide +kernel) (by decide +kernel), lw_g_in (i := 1041) (by decide +kernel) (by decide +kernel)⟩
theorem mlX11_253 : Cond.methodLink RX11 253 yX11_emptyRooms ∈ lw_g ∧ Cond.instanceMethod yX11_emptyRooms ∈ lw_g ∧ Cond.selects yX11_emptyRooms.cls yX11_emptyRooms yX11_emptyRooms ∈ lw_g := ⟨lw_g_in (i := 1043) (by decide +kernel) (by decide +kernel), lw_g_in (i := 1045) (by decide +kernel) (by decide +kernel), lw_g_in (i := 38) (by decide +kernel) (by decide +kernel)⟩
theorem mlX11_268 : Cond.methodLink RX11 268 yJ9_min_f86c9 ∈ lw_g ∧ Cond.static yJ9_min_f86c9 ∈ lw_g := ⟨lw_g_in (i := 1048) (by decide +kernel) (by decide +kernel), lw_g_in (i := 1049) (by decide +kernel) (by decide +kernel)⟩
theorem mlL_137 : Cond.methodLink RL 137 yX11_trouble ∈ lw_g ∧ Cond.instanceMethod yX11_trouble ∈ lw_g ∧ Cond.selects yX11_trouble.cls yX11_trouble yX11_trouble ∈ lw_g := ⟨lw_g_in (i := 1051) (by decide +kernel) (by decide +kernel), lw_g_in (i := 1052) (by decide +kernel) (by decide +kernel), lw_g_in (i := 1053) (by decide +kernel) (by decide +kernel)⟩
theorem mlL_12 : (Cond.methodLink RL 12 yX14_init ∈ lw_g ∨ ∃ host, Cond.methodLinkNest RL 12 yX14_init host ∈ lw_n) ∧ Cond.instanceMethod yX14_init ∈ lw_g := ⟨Or.inl (lw_g_in (i := 1057) (by decide +kernel) (by decide +kernel)), lw_g_in (i := 1058) (by decide +kernel) (by decide +kernel)⟩
theorem mlX14_19 : (Cond.methodLink RX14 19 yX12_init ∈ lw_g ∨ ∃ host, Cond.methodLinkNest RX14 19 yX12_init host ∈ lw_n) ∧ Cond.instanceMethod yX12_init ∈ lw_g := ⟨Or.inr ⟨"AlmsHouseModel", lw_n_in (i := 1064) (by decide +kernel) (by decide +kernel)⟩, lw_g_in (i := 1065) (by decide +kernel) (by decide +kernel)⟩
theorem mlX14_26 : (Cond.methodLink RX14 26 yX13_init ∈ lw_g ∨ ∃ host, Cond.methodLinkNest RX14 26 yX13_init host ∈ lw_n) ∧ Cond.instanceMethod yX13_init ∈ lw_g := ⟨Or.inl (lw_g_in (i := 1161) (by decide +kernel) (by decide +kernel)), lw_g_in (i := 1162) (by decide +kernel) (by decide +kernel)⟩
theorem mlX13_1 : (Cond.methodLink RX13 1 yE_rt ∈ lw_g ∨ ∃ host, Cond.methodLinkNest RX13 1 yE_rt host ∈ lw_n) ∧ Cond.instanceMethod yE_rt ∈ lw_g := ⟨Or.inl (lw_g_in (i := 1164) (by decide +kernel) (by decide +kernel)), lw_g_in (i := 1165) (by decide +kernel) (by decide +kernel)⟩
theorem mlErt_16 : (Cond.methodLink "java/lang/RuntimeException" 16 yE_ex ∈ lw_g ∨ ∃ host, Cond.methodLinkNest "java/lang/RuntimeException" 16 yE_ex host ∈ lw_n) ∧ Cond.instanceMethod yE_ex ∈ lw_g := ⟨Or.inl (lw_g_in (i := 1167) (by decide +kernel) (by decide +kernel)), lw_g_in (i := 1168) (by decide +kernel) (by decide +kernel)⟩
theorem mlEex_16 : (Cond.methodLink "java/lang/Exception" 16 yE_th ∈ lw_g ∨ ∃ host, Cond.methodLinkNest "java/lang/Exception" 16 yE_th host ∈ lw_n) ∧ Cond.instanceMethod yE_th ∈ lw_g := ⟨Or.inl (lw_g_in (i := 1170) (by decide +kernel) (by decide +kernel)), lw_g_in (i := 1171) (by decide +kernel) (by decide +kernel)⟩
theorem mlL_17 : Cond.methodLink RL 17 yX14_will ∈ lw_g ∧ Cond.instanceMethod yX14_will ∈ lw_g ∧ Cond.selects yX14_will.cls yX14_will yX14_will ∈ lw_g := ⟨lw_g_in (i := 1358) (by decide +kernel) (by decide +kernel), lw_g_in (i := 1359) (by decide +kernel) (by decide +kernel), lw_g_in (i := 1360) (by decide +kernel) (by decide +kernel)⟩
theorem mlX14_121 : Cond.methodLink RX14 121 yX14_refused ∈ lw_g ∧ Cond.instanceMethod yX14_refused ∈ lw_g ∧ Cond.selects yX14_refused.cls yX14_refused yX14_refused ∈ lw_g := ⟨lw_g_in (i := 1362) (by decide +kernel) (by decide +kernel), lw_g_in (i := 1364) (by decide +kernel) (by decide +kernel), lw_g_in (i := 40) (by decide +kernel) (by decide +kernel)⟩
theorem mlX14_125 : Cond.methodLink RX14 125 yX14_done ∈ lw_g ∧ Cond.instanceMethod yX14_done ∈ lw_g ∧ Cond.selects yX14_done.cls yX14_done yX14_done ∈ lw_g := ⟨lw_g_in (i := 1366) (by decide +kernel) (by decide +kernel), lw_g_in (i := 1368) (by decide +kernel) (by decide +kernel), lw_g_in (i := 41) (by decide +kernel) (by decide +kernel)⟩
theorem mlL_22 : Cond.methodLink RL 22 yX14_feed ∈ lw_g ∧ Cond.instanceMethod yX14_feed ∈ lw_g ∧ Cond.selects yX14_feed.cls yX14_feed yX14_feed ∈ lw_g := ⟨lw_g_in (i := 1370) (by decide +kernel) (by decide +kernel), lw_g_in (i := 1371) (by decide +kernel) (by decide +kernel), lw_g_in (i := 1372) (by decide +kernel) (by decide +kernel)⟩
theorem mlL_27 : Cond.methodLink RL 27 yX14_scheme ∈ lw_g ∧ Cond.instanceMethod yX14_scheme ∈ lw_g ∧ Cond.selects yX14_scheme.cls yX14_scheme yX14_scheme ∈ lw_g := ⟨lw_g_in (i := 1374) (by decide +kernel) (by decide +kernel), lw_g_in (i := 1375) (by decide +kernel) (by decide +kernel), lw_g_in (i := 1376) (by decide +kernel) (by decide +kernel)⟩
theorem mlX14_274 : Cond.methodLink RX14 274 yX14_isWill ∈ lw_g ∧ Cond.instanceMethod yX14_isWill ∈ lw_g ∧ Cond.selects yX14_isWill.cls yX14_isWill yX14_isWill ∈ lw_g := ⟨lw_g_in (i := 1378) (by decide +kernel) (by decide +kernel), lw_g_in (i := 1380) (by decide +kernel) (by decide +kernel), lw_g_in (i := 42) (by decide +kernel) (by decide +kernel)⟩
theorem mlX14_277 : Cond.methodLink RX14 277 yX14_isDay ∈ lw_g ∧ Cond.static yX14_isDay ∈ lw_g := ⟨lw_g_in (i := 1382) (by decide +kernel) (by decide +kernel), lw_g_in (i := 1383) (by decide +kernel) (by decide +kernel)⟩
theorem mlX14_231 : Cond.methodLink RX14 231 yX14_in ∈ lw_g ∧ Cond.static yX14_in ∈ lw_g := ⟨lw_g_in (i := 1386) (by decide +kernel) (by decide +kernel), lw_g_in (i := 1387) (by decide +kernel) (by decide +kernel)⟩
theorem mlX14_286 : Cond.methodLink RX14 286 yX14_reads ∈ lw_g ∧ Cond.instanceMethod yX14_reads ∈ lw_g ∧ Cond.selects yX14_reads.cls yX14_reads yX14_reads ∈ lw_g := ⟨lw_g_in (i := 1389) (by decide +kernel) (by decide +kernel), lw_g_in (i := 1391) (by decide +kernel) (by decide +kernel), lw_g_in (i := 43) (by decide +kernel) (by decide +kernel)⟩
theorem mlX14_220 : Cond.methodLink RX14 220 yX14_next ∈ lw_g ∧ Cond.instanceMethod yX14_next ∈ lw_g ∧ Cond.selects yX14_next.cls yX14_next yX14_next ∈ lw_g := ⟨lw_g_in (i := 1393) (by decide +kernel) (by decide +kernel), lw_g_in (i := 1395) (by decide +kernel) (by decide +kernel), lw_g_in (i := 44) (by decide +kernel) (by decide +kernel)⟩
theorem mlX14_153 : Cond.methodLink RX14 153 yX14_byteAt ∈ lw_g ∧ Cond.instanceMethod yX14_byteAt ∈ lw_g ∧ Cond.selects yX14_byteAt.cls yX14_byteAt yX14_byteAt ∈ lw_g := ⟨lw_g_in (i := 1397) (by decide +kernel) (by decide +kernel), lw_g_in (i := 1399) (by decide +kernel) (by decide +kernel), lw_g_in (i := 45) (by decide +kernel) (by decide +kernel)⟩
theorem mlX14_162 : Cond.methodLink RX14 162 yX14_isLetter ∈ lw_g ∧ Cond.static yX14_isLetter ∈ lw_g := ⟨lw_g_in (i := 1401) (by decide +kernel) (by decide +kernel), lw_g_in (i := 1402) (by decide +kernel) (by decide +kernel)⟩
theorem mlX14_170 : Cond.methodLink RX14 170 yX14_isDigit ∈ lw_g ∧ Cond.static yX14_isDigit ∈ lw_g := ⟨lw_g_in (i := 1405) (by decide +kernel) (by decide +kernel), lw_g_in (i := 1406) (by decide +kernel) (by decide +kernel)⟩
theorem mlX14_182 : Cond.methodLink RX14 182 yX14_isWord ∈ lw_g ∧ Cond.instanceMethod yX14_isWord ∈ lw_g ∧ Cond.selects yX14_isWord.cls yX14_isWord yX14_isWord ∈ lw_g := ⟨lw_g_in (i := 1409) (by decide +kernel) (by decide +kernel), lw_g_in (i := 1411) (by decide +kernel) (by decide +kernel), lw_g_in (i := 46) (by decide +kernel) (by decide +kernel)⟩
theorem mlX14_176 : Cond.methodLink RX14 176 yX14_wordOf ∈ lw_g ∧ Cond.static yX14_wordOf ∈ lw_g := ⟨lw_g_in (i := 1413) (by decide +kernel) (by decide +kernel), lw_g_in (i := 1414) (by decide +kernel) (by decide +kernel)⟩
theorem mlX14_138 : Cond.methodLink RX14 138 yJ0_length_8abf5 ∈ lw_g ∧ Cond.instanceMethod yJ0_length_8abf5 ∈ lw_g ∧ Cond.selects yJ0_length_8abf5.cls yJ0_length_8abf5 yJ0_length_8abf5 ∈ lw_g := ⟨lw_g_in (i := 1416) (by decide +kernel) (by decide +kernel), lw_g_in (i := 416) (by decide +kernel) (by decide +kernel), lw_g_in (i := 417) (by decide +kernel) (by decide +kernel)⟩
theorem mlX14_146 : Cond.methodLink RX14 146 yJ0_charAt_5068e ∈ lw_g ∧ Cond.instanceMethod yJ0_charAt_5068e ∈ lw_g ∧ Cond.selects yJ0_charAt_5068e.cls yJ0_charAt_5068e yJ0_charAt_5068e ∈ lw_g := ⟨lw_g_in (i := 1417) (by decide +kernel) (by decide +kernel), lw_g_in (i := 426) (by decide +kernel) (by decide +kernel), lw_g_in (i := 427) (by decide +kernel) (by decide +kernel)⟩
theorem mlX14_196 : Cond.methodLink RX14 196 yX14_stop ∈ lw_g ∧ Cond.instanceMethod yX14_stop ∈ lw_g ∧ Cond.selects yX14_stop.cls yX14_stop yX14_stop ∈ lw_g := ⟨lw_g_in (i := 1420) (by decide +kernel) (by decide +kernel), lw_g_in (i := 1422) (by decide +kernel) (by decide +kernel), lw_g_in (i := 47) (by decide +kernel) (by decide +kernel)⟩
theorem mlX14_238 : Cond.methodLink RX14 238 yX14_readAny ∈ lw_g ∧ Cond.instanceMethod yX14_readAny ∈ lw_g ∧ Cond.selects yX14_readAny.cls yX14_readAny yX14_readAny ∈ lw_g := ⟨lw_g_in (i := 1424) (by decide +kernel) (by decide +kernel), lw_g_in (i := 1426) (by decide +kernel) (by decide +kernel), lw_g_in (i := 48) (by decide +kernel) (by decide +kernel)⟩
theorem mlX14_252 : Cond.methodLink RX14 252 yX14_readAll ∈ lw_g ∧ Cond.instanceMethod yX14_readAll ∈ lw_g ∧ Cond.selects yX14_readAll.cls yX14_readAll yX14_readAll ∈ lw_g := ⟨lw_g_in (i := 1428) (by decide +kernel) (by decide +kernel), lw_g_in (i := 1430) (by decide +kernel) (by decide +kernel), lw_g_in (i := 49) (by decide +kernel) (by decide +kernel)⟩
theorem mlX14_258 : Cond.methodLink RX14 258 yX14_readOne ∈ lw_g ∧ Cond.instanceMethod yX14_readOne ∈ lw_g ∧ Cond.selects yX14_readOne.cls yX14_readOne yX14_readOne ∈ lw_g := ⟨lw_g_in (i := 1432) (by decide +kernel) (by decide +kernel), lw_g_in (i := 1434) (by decide +kernel) (by decide +kernel), lw_g_in (i := 50) (by decide +kernel) (by decide +kernel)⟩
theorem mlX14_249 : Cond.methodLink RX14 249 yX14_is ∈ lw_g ∧ Cond.instanceMethod yX14_is ∈ lw_g ∧ Cond.selects yX14_is.cls yX14_is yX14_is ∈ lw_g := ⟨lw_g_in (i := 1437) (by decide +kernel) (by decide +kernel), lw_g_in (i := 1439) (by decide +kernel) (by decide +kernel), lw_g_in (i := 51) (by decide +kernel) (by decide +kernel)⟩
theorem mlX14_261 : Cond.methodLink RX14 261 yX14_nameHere ∈ lw_g ∧ Cond.instanceMethod yX14_nameHere ∈ lw_g ∧ Cond.selects yX14_nameHere.cls yX14_nameHere yX14_nameHere ∈ lw_g := ⟨lw_g_in (i := 1441) (by decide +kernel) (by decide +kernel), lw_g_in (i := 1443) (by decide +kernel) (by decide +kernel), lw_g_in (i := 52) (by decide +kernel) (by decide +kernel)⟩
theorem mlX14_255 : Cond.methodLink RX14 255 yX12_put ∈ lw_g ∧ Cond.instanceMethod yX12_put ∈ lw_g ∧ Cond.selects yX12_put.cls yX12_put yX12_put ∈ lw_g := ⟨lw_g_in (i := 1452) (by decide +kernel) (by decide +kernel), lw_g_in (i := 1453) (by decide +kernel) (by decide +kernel), lw_g_in (i := 1454) (by decide +kernel) (by decide +kernel)⟩
theorem mlX14_245 : Cond.methodLink RX14 245 yX14_readSum ∈ lw_g ∧ Cond.instanceMethod yX14_readSum ∈ lw_g ∧ Cond.selects yX14_readSum.cls yX14_readSum yX14_readSum ∈ lw_g := ⟨lw_g_in (i := 1456) (by decide +kernel) (by decide +kernel), lw_g_in (i := 1458) (by decide +kernel) (by decide +kernel), lw_g_in (i := 53) (by decide +kernel) (by decide +kernel)⟩
theorem mlL_31 : Cond.methodLink RL 31 yX14_fault ∈ lw_g ∧ Cond.instanceMethod yX14_fault ∈ lw_g ∧ Cond.selects yX14_fault.cls yX14_fault yX14_fault ∈ lw_g := ⟨lw_g_in (i := 1460) (by decide +kernel) (by decide +kernel), lw_g_in (i := 1461) (by decide +kernel) (by decide +kernel), lw_g_in (i := 1462) (by decide +kernel) (by decide +kernel)⟩
theorem mlL_35 : Cond.methodLink RL 35 yX14_where ∈ lw_g ∧ Cond.instanceMethod yX14_where ∈ lw_g ∧ Cond.selects yX14_where.cls yX14_where yX14_where ∈ lw_g := ⟨lw_g_in (i := 1464) (by decide +kernel) (by decide +kernel), lw_g_in (i := 1465) (by decide +kernel) (by decide +kernel), lw_g_in (i := 1466) (by decide +kernel) (by decide +kernel)⟩
theorem mlL_39 : Cond.methodLink RL 39 yX14_clause ∈ lw_g ∧ Cond.instanceMethod yX14_clause ∈ lw_g ∧ Cond.selects yX14_clause.cls yX14_clause yX14_clause ∈ lw_g := ⟨lw_g_in (i := 1468) (by decide +kernel) (by decide +kernel), lw_g_in (i := 1469) (by decide +kernel) (by decide +kernel), lw_g_in (i := 1470) (by decide +kernel) (by decide +kernel)⟩
theorem mlX14_301 : Cond.methodLink RX14 301 yX14_finds ∈ lw_g ∧ Cond.instanceMethod yX14_finds ∈ lw_g ∧ Cond.selects yX14_finds.cls yX14_finds yX14_finds ∈ lw_g := ⟨lw_g_in (i := 1472) (by decide +kernel) (by decide +kernel), lw_g_in (i := 1474) (by decide +kernel) (by decide +kernel), lw_g_in (i := 54) (by decide +kernel) (by decide +kernel)⟩
theorem mlL_44 : Cond.methodLink RL 44 yX14_clauses ∈ lw_g ∧ Cond.instanceMethod yX14_clauses ∈ lw_g ∧ Cond.selects yX14_clauses.cls yX14_clauses yX14_clauses ∈ lw_g := ⟨lw_g_in (i := 1476) (by decide +kernel) (by decide +kernel), lw_g_in (i := 1477) (by decide +kernel) (by decide +kernel), lw_g_in (i := 1478) (by decide +kernel) (by decide +kernel)⟩
theorem mlX14_304 : Cond.methodLink RX14 304 yX14_clausesOf ∈ lw_g ∧ Cond.instanceMethod yX14_clausesOf ∈ lw_g ∧ Cond.selects yX14_clausesOf.cls yX14_clausesOf yX14_clausesOf ∈ lw_g := ⟨lw_g_in (i := 1480) (by decide +kernel) (by decide +kernel), lw_g_in (i := 1482) (by decide +kernel) (by decide +kernel), lw_g_in (i := 55) (by decide +kernel) (by decide +kernel)⟩
theorem mlL_49 : Cond.methodLink RL 49 yX14_person ∈ lw_g ∧ Cond.instanceMethod yX14_person ∈ lw_g ∧ Cond.selects yX14_person.cls yX14_person yX14_person ∈ lw_g := ⟨lw_g_in (i := 1484) (by decide +kernel) (by decide +kernel), lw_g_in (i := 1485) (by decide +kernel) (by decide +kernel), lw_g_in (i := 1486) (by decide +kernel) (by decide +kernel)⟩
theorem mlL_53 : Cond.methodLink RL 53 yX14_means ∈ lw_g ∧ Cond.instanceMethod yX14_means ∈ lw_g ∧ Cond.selects yX14_means.cls yX14_means yX14_means ∈ lw_g := ⟨lw_g_in (i := 1489) (by decide +kernel) (by decide +kernel), lw_g_in (i := 1490) (by decide +kernel) (by decide +kernel), lw_g_in (i := 1491) (by decide +kernel) (by decide +kernel)⟩
theorem mlX14_315 : Cond.methodLink RX14 315 yX14_isPerson ∈ lw_g ∧ Cond.instanceMethod yX14_isPerson ∈ lw_g ∧ Cond.selects yX14_isPerson.cls yX14_isPerson yX14_isPerson ∈ lw_g := ⟨lw_g_in (i := 1493) (by decide +kernel) (by decide +kernel), lw_g_in (i := 1495) (by decide +kernel) (by decide +kernel), lw_g_in (i := 56) (by decide +kernel) (by decide +kernel)⟩
theorem mlL_62 : Cond.methodLink RL 62 yX14_fact ∈ lw_g ∧ Cond.instanceMethod yX14_fact ∈ lw_g ∧ Cond.selects yX14_fact.cls yX14_fact yX14_fact ∈ lw_g := ⟨lw_g_in (i := 1497) (by decide +kernel) (by decide +kernel), lw_g_in (i := 1498) (by decide +kernel) (by decide +kernel), lw_g_in (i := 1499) (by decide +kernel) (by decide +kernel)⟩
theorem mlX14_323 : Cond.methodLink RX14 323 yX14_factOf ∈ lw_g ∧ Cond.instanceMethod yX14_factOf ∈ lw_g ∧ Cond.selects yX14_factOf.cls yX14_factOf yX14_factOf ∈ lw_g := ⟨lw_g_in (i := 1501) (by decide +kernel) (by decide +kernel), lw_g_in (i := 1503) (by decide +kernel) (by decide +kernel), lw_g_in (i := 57) (by decide +kernel) (by decide +kernel)⟩
theorem mlX14_318 : Cond.methodLink RX14 318 yJ9_max_7cf53 ∈ lw_g ∧ Cond.static yJ9_max_7cf53 ∈ lw_g := ⟨lw_g_in (i := 1505) (by decide +kernel) (by decide +kernel), lw_g_in (i := 658) (by decide +kernel) (by decide +kernel)⟩
theorem mlL_66 : Cond.methodLink RL 66 yX14_may ∈ lw_g ∧ Cond.instanceMethod yX14_may ∈ lw_g ∧ Cond.selects yX14_may.cls yX14_may yX14_may ∈ lw_g := ⟨lw_g_in (i := 1506) (by decide +kernel) (by decide +kernel), lw_g_in (i := 1507) (by decide +kernel) (by decide +kernel), lw_g_in (i := 1508) (by decide +kernel) (by decide +kernel)⟩
theorem mlX14_343 : Cond.methodLink RX14 343 yX14_isAsked ∈ lw_g ∧ Cond.instanceMethod yX14_isAsked ∈ lw_g ∧ Cond.selects yX14_isAsked.cls yX14_isAsked yX14_isAsked ∈ lw_g := ⟨lw_g_in (i := 1510) (by decide +kernel) (by decide +kernel), lw_g_in (i := 1512) (by decide +kernel) (by decide +kernel), lw_g_in (i := 58) (by decide +kernel) (by decide +kernel)⟩
theorem mlX14_346 : Cond.methodLink RX14 346 yX14_mayCome ∈ lw_g ∧ Cond.instanceMethod yX14_mayCome ∈ lw_g ∧ Cond.selects yX14_mayCome.cls yX14_mayCome yX14_mayCome ∈ lw_g := ⟨lw_g_in (i := 1514) (by decide +kernel) (by decide +kernel), lw_g_in (i := 1516) (by decide +kernel) (by decide +kernel), lw_g_in (i := 59) (by decide +kernel) (by decide +kernel)⟩
theorem mlX14_340 : Cond.methodLink RX14 340 yX14_barsOf ∈ lw_g ∧ Cond.instanceMethod yX14_barsOf ∈ lw_g ∧ Cond.selects yX14_barsOf.cls yX14_barsOf yX14_barsOf ∈ lw_g := ⟨lw_g_in (i := 1518) (by decide +kernel) (by decide +kernel), lw_g_in (i := 1520) (by decide +kernel) (by decide +kernel), lw_g_in (i := 60) (by decide +kernel) (by decide +kernel)⟩
theorem mlX14_336 : Cond.methodLink RX14 336 yX14_holds ∈ lw_g ∧ Cond.instanceMethod yX14_holds ∈ lw_g ∧ Cond.selects yX14_holds.cls yX14_holds yX14_holds ∈ lw_g := ⟨lw_g_in (i := 1522) (by decide +kernel) (by decide +kernel), lw_g_in (i := 1524) (by decide +kernel) (by decide +kernel), lw_g_in (i := 61) (by decide +kernel) (by decide +kernel)⟩
theorem mlL_70 : Cond.methodLink RL 70 yX14_bars ∈ lw_g ∧ Cond.instanceMethod yX14_bars ∈ lw_g ∧ Cond.selects yX14_bars.cls yX14_bars yX14_bars ∈ lw_g := ⟨lw_g_in (i := 1526) (by decide +kernel) (by decide +kernel), lw_g_in (i := 1527) (by decide +kernel) (by decide +kernel), lw_g_in (i := 1528) (by decide +kernel) (by decide +kernel)⟩
theorem mlL_74 : Cond.methodLink RL 74 yX14_order ∈ lw_g ∧ Cond.instanceMethod yX14_order ∈ lw_g ∧ Cond.selects yX14_order.cls yX14_order yX14_order ∈ lw_g := ⟨lw_g_in (i := 1530) (by decide +kernel) (by decide +kernel), lw_g_in (i := 1531) (by decide +kernel) (by decide +kernel), lw_g_in (i := 1532) (by decide +kernel) (by decide +kernel)⟩
theorem mlX14_349 : Cond.methodLink RX14 349 yX14_orderOf ∈ lw_g ∧ Cond.instanceMethod yX14_orderOf ∈ lw_g ∧ Cond.selects yX14_orderOf.cls yX14_orderOf yX14_orderOf ∈ lw_g := ⟨lw_g_in (i := 1534) (by decide +kernel) (by decide +kernel), lw_g_in (i := 1536) (by decide +kernel) (by decide +kernel), lw_g_in (i := 62) (by decide +kernel) (by decide +kernel)⟩
theorem mlL_78 : Cond.methodLink RL 78 yX14_list ∈ lw_g ∧ Cond.instanceMethod yX14_list ∈ lw_g ∧ Cond.selects yX14_list.cls yX14_list yX14_list ∈ lw_g := ⟨lw_g_in (i := 1538) (by decide +kernel) (by decide +kernel), lw_g_in (i := 1539) (by decide +kernel) (by decide +kernel), lw_g_in (i := 1540) (by decide +kernel) (by decide +kernel)⟩
theorem mlL_82 : Cond.methodLink RL 82 yX14_next_ ∈ lw_g ∧ Cond.instanceMethod yX14_next_ ∈ lw_g ∧ Cond.selects yX14_next_.cls yX14_next_ yX14_next_ ∈ lw_g := ⟨lw_g_in (i := 1542) (by decide +kernel) (by decide +kernel), lw_g_in (i := 1543) (by decide +kernel) (by decide +kernel), lw_g_in (i := 1544) (by decide +kernel) (by decide +kernel)⟩
theorem mlX14_352 : Cond.methodLink RX14 352 yX14_nextOf ∈ lw_g ∧ Cond.instanceMethod yX14_nextOf ∈ lw_g ∧ Cond.selects yX14_nextOf.cls yX14_nextOf yX14_nextOf ∈ lw_g := ⟨lw_g_in (i := 1546) (by decide +kernel) (by decide +kernel), lw_g_in (i := 1548) (by decide +kernel) (by decide +kernel), lw_g_in (i := 63) (by decide +kernel) (by decide +kernel)⟩
theorem mlL_87 : Cond.methodLink RL 87 yX14_room ∈ lw_g ∧ Cond.instanceMethod yX14_room ∈ lw_g ∧ Cond.selects yX14_room.cls yX14_room yX14_room ∈ lw_g := ⟨lw_g_in (i := 1550) (by decide +kernel) (by decide +kernel), lw_g_in (i := 1551) (by decide +kernel) (by decide +kernel), lw_g_in (i := 1552) (by decide +kernel) (by decide +kernel)⟩
theorem mlL_91 : Cond.methodLink RL 91 yX14_trustee ∈ lw_g ∧ Cond.instanceMethod yX14_trustee ∈ lw_g ∧ Cond.selects yX14_trustee.cls yX14_trustee yX14_trustee ∈ lw_g := ⟨lw_g_in (i := 1554) (by decide +kernel) (by decide +kernel), lw_g_in (i := 1555) (by decide +kernel) (by decide +kernel), lw_g_in (i := 1556) (by decide +kernel) (by decide +kernel)⟩
theorem mlL_96 : Cond.methodLink RL 96 yX14_away ∈ lw_g ∧ Cond.instanceMethod yX14_away ∈ lw_g ∧ Cond.selects yX14_away.cls yX14_away yX14_away ∈ lw_g := ⟨lw_g_in (i := 1558) (by decide +kernel) (by decide +kernel), lw_g_in (i := 1559) (by decide +kernel) (by decide +kernel), lw_g_in (i := 1560) (by decide +kernel) (by decide +kernel)⟩
theorem mlX14_361 : Cond.methodLink RX14 361 yX14_denied ∈ lw_g ∧ Cond.instanceMethod yX14_denied ∈ lw_g ∧ Cond.selects yX14_denied.cls yX14_denied yX14_denied ∈ lw_g := ⟨lw_g_in (i := 1562) (by decide +kernel) (by decide +kernel), lw_g_in (i := 1564) (by decide +kernel) (by decide +kernel), lw_g_in (i := 64) (by decide +kernel) (by decide +kernel)⟩
theorem mlX14_364 : Cond.methodLink RX14 364 yX14_granted ∈ lw_g ∧ Cond.instanceMethod yX14_granted ∈ lw_g ∧ Cond.selects yX14_granted.cls yX14_granted yX14_granted ∈ lw_g := ⟨lw_g_in (i := 1566) (by decide +kernel) (by decide +kernel), lw_g_in (i := 1568) (by decide +kernel) (by decide +kernel), lw_g_in (i := 65) (by decide +kernel) (by decide +kernel)⟩
theorem mlL_100 : Cond.methodLink RL 100 yX14_fill ∈ lw_g ∧ Cond.instanceMethod yX14_fill ∈ lw_g ∧ Cond.selects yX14_fill.cls yX14_fill yX14_fill ∈ lw_g := ⟨lw_g_in (i := 1570) (by decide +kernel) (by decide +kernel), lw_g_in (i := 1571) (by decide +kernel) (by decide +kernel), lw_g_in (i := 1572) (by decide +kernel) (by decide +kernel)⟩
theorem mlX14_368 : Cond.methodLink RX14 368 yX14_isRoom ∈ lw_g ∧ Cond.instanceMethod yX14_isRoom ∈ lw_g ∧ Cond.selects yX14_isRoom.cls yX14_isRoom yX14_isRoom ∈ lw_g := ⟨lw_g_in (i := 1574) (by decide +kernel) (by decide +kernel), lw_g_in (i := 1576) (by decide +kernel) (by decide +kernel), lw_g_in (i := 66) (by decide +kernel) (by decide +kernel)⟩
theorem mlL_104 : Cond.methodLink RL 104 yX14_leave ∈ lw_g ∧ Cond.instanceMethod yX14_leave ∈ lw_g ∧ Cond.selects yX14_leave.cls yX14_leave yX14_leave ∈ lw_g := ⟨lw_g_in (i := 1578) (by decide +kernel) (by decide +kernel), lw_g_in (i := 1579) (by decide +kernel) (by decide +kernel), lw_g_in (i := 1580) (by decide +kernel) (by decide +kernel)⟩
theorem mlX14_374 : Cond.methodLink RX14 374 yX14_ends ∈ lw_g ∧ Cond.instanceMethod yX14_ends ∈ lw_g ∧ Cond.selects yX14_ends.cls yX14_ends yX14_ends ∈ lw_g := ⟨lw_g_in (i := 1582) (by decide +kernel) (by decide +kernel), lw_g_in (i := 1584) (by decide +kernel) (by decide +kernel), lw_g_in (i := 67) (by decide +kernel) (by decide +kernel)⟩
theorem mlL_58 : Cond.methodLink RL 58 yX14_dies ∈ lw_g ∧ Cond.instanceMethod yX14_dies ∈ lw_g ∧ Cond.selects yX14_dies.cls yX14_dies yX14_dies ∈ lw_g := ⟨lw_g_in (i := 1586) (by decide +kernel) (by decide +kernel), lw_g_in (i := 1587) (by decide +kernel) (by decide +kernel), lw_g_in (i := 1588) (by decide +kernel) (by decide +kernel)⟩
theorem mlL_108 : Cond.methodLink RL 108 yX14_roomOf ∈ lw_g ∧ Cond.instanceMethod yX14_roomOf ∈ lw_g ∧ Cond.selects yX14_roomOf.cls yX14_roomOf yX14_roomOf ∈ lw_g := ⟨lw_g_in (i := 1590) (by decide +kernel) (by decide +kernel), lw_g_in (i := 1591) (by decide +kernel) (by decide +kernel), lw_g_in (i := 1592) (by decide +kernel) (by decide +kernel)⟩
theorem mlL_112 : Cond.methodLink RL 112 yX14_had ∈ lw_g ∧ Cond.instanceMethod yX14_had ∈ lw_g ∧ Cond.selects yX14_had.cls yX14_had yX14_had ∈ lw_g := ⟨lw_g_in (i := 1594) (by decide +kernel) (by decide +kernel), lw_g_in (i := 1595) (by decide +kernel) (by decide +kernel), lw_g_in (i := 1596) (by decide +kernel) (by decide +kernel)⟩
theorem mlL_116 : Cond.methodLink RL 116 yX14_land ∈ lw_g ∧ Cond.instanceMethod yX14_land ∈ lw_g ∧ Cond.selects yX14_land.cls yX14_land yX14_land ∈ lw_g := ⟨lw_g_in (i := 1598) (by decide +kernel) (by decide +kernel), lw_g_in (i := 1599) (by decide +kernel) (by decide +kernel), lw_g_in (i := 1600) (by decide +kernel) (by decide +kernel)⟩
theorem mlL_120 : Cond.methodLink RL 120 yX14_dole ∈ lw_g ∧ Cond.instanceMethod yX14_dole ∈ lw_g ∧ Cond.selects yX14_dole.cls yX14_dole yX14_dole ∈ lw_g := ⟨lw_g_in (i := 1602) (by decide +kernel) (by decide +kernel), lw_g_in (i := 1603) (by decide +kernel) (by decide +kernel), lw_g_in (i := 1604) (by decide +kernel) (by decide +kernel)⟩
theorem mlL_124 : Cond.methodLink RL 124 yX14_pass ∈ lw_g ∧ Cond.instanceMethod yX14_pass ∈ lw_g ∧ Cond.selects yX14_pass.cls yX14_pass yX14_pass ∈ lw_g := ⟨lw_g_in (i := 1606) (by decide +kernel) (by decide +kernel), lw_g_in (i := 1607) (by decide +kernel) (by decide +kernel), lw_g_in (i := 1608) (by decide +kernel) (by decide +kernel)⟩
theorem mlX14_395 : Cond.methodLink RX14 395 yX14_day ∈ lw_g ∧ Cond.instanceMethod yX14_day ∈ lw_g ∧ Cond.selects yX14_day.cls yX14_day yX14_day ∈ lw_g := ⟨lw_g_in (i := 1610) (by decide +kernel) (by decide +kernel), lw_g_in (i := 1612) (by decide +kernel) (by decide +kernel), lw_g_in (i := 68) (by decide +kernel) (by decide +kernel)⟩
theorem mlX14_384 : Cond.methodLink RX14 384 yJ9_min_7cf53 ∈ lw_g ∧ Cond.static yJ9_min_7cf53 ∈ lw_g := ⟨lw_g_in (i := 1615) (by decide +kernel) (by decide +kernel), lw_g_in (i := 597) (by decide +kernel) (by decide +kernel)⟩
theorem mlX14_392 : Cond.methodLink RX14 392 yJ9_min_f86c9 ∈ lw_g ∧ Cond.static yJ9_min_f86c9 ∈ lw_g := ⟨lw_g_in (i := 1617) (by decide +kernel) (by decide +kernel), lw_g_in (i := 1049) (by decide +kernel) (by decide +kernel)⟩
theorem mlL_128 : Cond.methodLink RL 128 yX14_owed ∈ lw_g ∧ Cond.instanceMethod yX14_owed ∈ lw_g ∧ Cond.selects yX14_owed.cls yX14_owed yX14_owed ∈ lw_g := ⟨lw_g_in (i := 1618) (by decide +kernel) (by decide +kernel), lw_g_in (i := 1619) (by decide +kernel) (by decide +kernel), lw_g_in (i := 1620) (by decide +kernel) (by decide +kernel)⟩
theorem mlL_132 : Cond.methodLink RL 132 yX14_got ∈ lw_g ∧ Cond.instanceMethod yX14_got ∈ lw_g ∧ Cond.selects yX14_got.cls yX14_got yX14_got ∈ lw_g := ⟨lw_g_in (i := 1622) (by decide +kernel) (by decide +kernel), lw_g_in (i := 1623) (by decide +kernel) (by decide +kernel), lw_g_in (i := 1624) (by decide +kernel) (by decide +kernel)⟩
theorem mlL_136 : Cond.methodLink RL 136 yX14_count ∈ lw_g ∧ Cond.instanceMethod yX14_count ∈ lw_g ∧ Cond.selects yX14_count.cls yX14_count yX14_count ∈ lw_g := ⟨lw_g_in (i := 1626) (by decide +kernel) (by decide +kernel), lw_g_in (i := 1627) (by decide +kernel) (by decide +kernel), lw_g_in (i := 1628) (by decide +kernel) (by decide +kernel)⟩
theorem mlL_140 : Cond.methodLink RL 140 yX14_trouble ∈ lw_g ∧ Cond.instanceMethod yX14_trouble ∈ lw_g ∧ Cond.selects yX14_trouble.cls yX14_trouble yX14_trouble ∈ lw_g := ⟨lw_g_in (i := 1630) (by decide +kernel) (by decide +kernel), lw_g_in (i := 1631) (by decide +kernel) (by decide +kernel), lw_g_in (i := 1632) (by decide +kernel) (by decide +kernel)⟩
theorem moX11_3 : Cond.methodLink RX11 3 Lib.objectInit ∈ lw_g := lw_g_in (i := 105) (by decide +kernel) (by decide +kernel)
theorem moX8_3 : Cond.methodLink RX8 3 Lib.objectInit ∈ lw_g := lw_g_in (i := 113) (by decide +kernel) (by decide +kernel)
theorem moX4_3 : Cond.methodLink RX4 3 Lib.objectInit ∈ lw_g := lw_g_in (i := 146) (by decide +kernel) (by decide +kernel)
theorem moX10_3 : Cond.methodLink RX10 3 Lib.objectInit ∈ lw_g := lw_g_in (i := 152) (by decide +kernel) (by decide +kernel)
theorem moJxa1e45_1 : Cond.methodLink RJxa1e45 1 Lib.objectInit ∈ lw_g := lw_g_in (i := 223) (by decide +kernel) (by decide +kernel)
theorem moX6_3 : Cond.methodLink RX6 3 Lib.objectInit ∈ lw_g := lw_g_in (i := 243) (by decide +kernel) (by decide +kernel)
theorem moX9_3 : Cond.methodLink RX9 3 Lib.objectInit ∈ lw_g := lw_g_in (i := 255) (by decide +kernel) (by decide +kernel)
theorem moX1_3 : Cond.methodLink RX1 3 Lib.objectInit ∈ lw_g := lw_g_in (i := 274) (by decide +kernel) (by decide +kernel)
theorem moX0_3 : Cond.methodLink RX0 3 Lib.objectInit ∈ lw_g := lw_g_in (i := 612) (by decide +kernel) (by decide +kernel)
theorem moX3_3 : Cond.methodLink RX3 3 Lib.objectInit ∈ lw_g := lw_g_in (i := 755) (by decide +kernel) (by decide +kernel)
theorem moX5_3 : Cond.methodLink RX5 3 Lib.objectInit ∈ lw_g := lw_g_in (i := 903) (by decide +kernel) (by decide +kernel)
theorem moX7_3 : Cond.methodLink RX7 3 Lib.objectInit ∈ lw_g := lw_g_in (i := 945) (by decide +kernel) (by decide +kernel)
theorem moX2_1 : Cond.methodLink RX2 1 Lib.objectInit ∈ lw_g := lw_g_in (i := 989) (by decide +kernel) (by decide +kernel)
theorem moX14_1 : Cond.methodLink RX14 1 Lib.objectInit ∈ lw_g := lw_g_in (i := 1060) (by decide +kernel) (by decide +kernel)
theorem moX12_3 : Cond.methodLink RX12 3 Lib.objectInit ∈ lw_g := lw_g_in (i := 1067) (by decide +kernel) (by decide +kernel)
theorem moThr_1 : Cond.methodLink "java/lang/Throwable" 1 Lib.objectInit ∈ lw_g := lw_g_in (i := 1147) (by decide +kernel) (by decide +kernel)
theorem obj_i : Cond.instanceMethod Lib.objectInit ∈ lw_g := lw_g_in (i := 106) (by decide +kernel) (by decide +kernel)
theorem obj_c : Cond.code Lib.objectInit ⟨#[0xb1]⟩ 1 none ∈ lw_g := lw_g_in (i := 107) (by decide +kernel) (by decide +kernel)
theorem clL_7 : Cond.classLink RL 7 "AlmsHouse" ∈ lw_g := lw_g_in (i := 100) (by decide +kernel) (by decide +kernel)
theorem clX11_9 : Cond.classLink RX11 9 "AlmsHouse$Tape" ∈ lw_g := lw_g_in (i := 108) (by decide +kernel) (by decide +kernel)
theorem clX11_18 : Cond.classLink RX11 18 "AlmsHouse$Reader" ∈ lw_g := lw_g_in (i := 141) (by decide +kernel) (by decide +kernel)
theorem clX4_9 : Cond.classLink RX4 9 "AlmsHouse$Writer" ∈ lw_g := lw_g_in (i := 147) (by decide +kernel) (by decide +kernel)
theorem clX11_27 : Cond.classLink RX11 27 "java/util/ArrayList" ∈ lw_g := lw_g_in (i := 212) (by decide +kernel) (by decide +kernel)
theorem clX11_34 : Cond.classLink RX11 34 "AlmsHouse$Standing" ∈ lw_g := lw_g_in (i := 238) (by decide +kernel) (by decide +kernel)
theorem clX6_9 : Cond.classLink RX6 9 "AlmsHouse$Change" ∈ lw_g := lw_g_in (i := 244) (by decide +kernel) (by decide +kernel)
theorem clX11_50 : Cond.classLink RX11 50 "AlmsHouse$Trustees" ∈ lw_g := lw_g_in (i := 250) (by decide +kernel) (by decide +kernel)
theorem clX11_60 : Cond.classLink RX11 60 "AlmsHouse$Chest" ∈ lw_g := lw_g_in (i := 269) (by decide +kernel) (by decide +kernel)
theorem clX11_126 : Cond.classLink RX11 126 "AlmsHouse$Change" ∈ lw_g := lw_g_in (i := 573) (by decide +kernel) (by decide +kernel)
theorem clJ7_317 : Cond.classLink RJ7 317 "[I" ∈ lw_g := lw_g_in (i := 608) (by decide +kernel) (by decide +kernel)
theorem clJ7_110 : Cond.classLink RJ7 110 "[Ljava/lang/Object;" ∈ lw_g := lw_g_in (i := 690) (by decide +kernel) (by decide +kernel)
theorem clJ7_2 : Cond.classLink RJ7 2 "java/lang/Object" ∈ lw_g := lw_g_in (i := 692) (by decide +kernel) (by decide +kernel)
theorem clJx4a65c_7 : Cond.classLink RJx4a65c 7 "java/lang/Object" ∈ lw_g := lw_g_in (i := 694) (by decide +kernel) (by decide +kernel)
theorem clX11_141 : Cond.classLink RX11 141 "AlmsHouse$Person" ∈ lw_g := lw_g_in (i := 750) (by decide +kernel) (by decide +kernel)
theorem clX11_197 : Cond.classLink RX11 197 "AlmsHouse$Room" ∈ lw_g := lw_g_in (i := 818) (by decide +kernel) (by decide +kernel)
theorem clX11_217 : Cond.classLink RX11 217 "AlmsHouse$Stay" ∈ lw_g := lw_g_in (i := 940) (by decide +kernel) (by decide +kernel)
theorem clX11_238 : Cond.classLink RX11 238 "AlmsHouse$Land" ∈ lw_g := lw_g_in (i := 984) (by decide +kernel) (by decide +kernel)
theorem clL_10 : Cond.classLink RL 10 "AlmsHouseModel" ∈ lw_g := lw_g_in (i := 1055) (by decide +kernel) (by decide +kernel)
theorem clX14_13 : Cond.classLink RX14 13 "AlmsHouseModel$Scheme" ∈ lw_g := lw_g_in (i := 1061) (by decide +kernel) (by decide +kernel)
theorem clX14_24 : Cond.classLink RX14 24 "AlmsHouseModel$Stop" ∈ lw_g := lw_g_in (i := 1122) (by decide +kernel) (by decide +kernel)
theorem ctX11_237 : Cond.constant RX11 237 (40000) ∈ lw_g := lw_g_in (i := 367) (by decide +kernel) (by decide +kernel)
theorem ctJ8_200 : Cond.constant RJ8 200 (2147483639) ∈ lw_g := lw_g_in (i := 660) (by decide +kernel) (by decide +kernel)
theorem ctX11_134 : Cond.constant RX11 134 (-40000) ∈ lw_g := lw_g_in (i := 748) (by decide +kernel) (by decide +kernel)
theorem ctX3_18 : Cond.constant RX3 18 (2147483647) ∈ lw_g := lw_g_in (i := 756) (by decide +kernel) (by decide +kernel)
theorem ctX11_163 : Cond.constant RX11 163 (2147483647) ∈ lw_g := lw_g_in (i := 813) (by decide +kernel) (by decide +kernel)
theorem ctX7_9 : Cond.constant RX7 9 (2147483647) ∈ lw_g := lw_g_in (i := 946) (by decide +kernel) (by decide +kernel)
theorem ctX1_15 : Cond.constant RX1 15 (1000000) ∈ lw_g := lw_g_in (i := 1021) (by decide +kernel) (by decide +kernel)
theorem ctX11_266 : Cond.constantLong RX11 266 (2000000000) ∈ lw_g := lw_g_in (i := 1047) (by decide +kernel) (by decide +kernel)
theorem ctX14_273 : Cond.constant RX14 273 (40000) ∈ lw_g := lw_g_in (i := 1385) (by decide +kernel) (by decide +kernel)
theorem ctX14_144 : Cond.constantLong RX14 144 (32) ∈ lw_g := lw_g_in (i := 1404) (by decide +kernel) (by decide +kernel)
theorem ctX14_311 : Cond.constant RX14 311 (-40000) ∈ lw_g := lw_g_in (i := 1488) (by decide +kernel) (by decide +kernel)
theorem ctX14_380 : Cond.constant RX14 380 (1000000) ∈ lw_g := lw_g_in (i := 1614) (by decide +kernel) (by decide +kernel)
theorem ctX14_387 : Cond.constantLong RX14 387 (2000000000) ∈ lw_g := lw_g_in (i := 1616) (by decide +kernel) (by decide +kernel)
theorem ac_0 : Cond.arrayClass (aty 0) ∈ lw_g := lw_g_in (i := 140) (by decide +kernel) (by decide +kernel)
theorem ac_1 : Cond.arrayClass (aty 1) ∈ lw_g := lw_g_in (i := 637) (by decide +kernel) (by decide +kernel)
theorem ac_2 : Cond.arrayClass (aty 2) ∈ lw_g := lw_g_in (i := 268) (by decide +kernel) (by decide +kernel)
theorem coX0 : Cond.castable RX0 "java/lang/Object" ∈ lw_n := lw_n_in (i := 1635) (by decide +kernel) (by decide +kernel)
theorem coX12 : Cond.castable RX12 "java/lang/Object" ∈ lw_n := lw_n_in (i := 1636) (by decide +kernel) (by decide +kernel)
theorem coX11 : Cond.castable RX11 "java/lang/Object" ∈ lw_n := lw_n_in (i := 1637) (by decide +kernel) (by decide +kernel)
theorem coX8 : Cond.castable RX8 "java/lang/Object" ∈ lw_n := lw_n_in (i := 1638) (by decide +kernel) (by decide +kernel)
theorem coX4 : Cond.castable RX4 "java/lang/Object" ∈ lw_n := lw_n_in (i := 1639) (by decide +kernel) (by decide +kernel)
theorem coX10 : Cond.castable RX10 "java/lang/Object" ∈ lw_n := lw_n_in (i := 1640) (by decide +kernel) (by decide +kernel)
theorem coJx4a65c : Cond.castable RJx4a65c "java/lang/Object" ∈ lw_n := lw_n_in (i := 1641) (by decide +kernel) (by decide +kernel)
theorem coX6 : Cond.castable RX6 "java/lang/Object" ∈ lw_n := lw_n_in (i := 1642) (by decide +kernel) (by decide +kernel)
theorem coX9 : Cond.castable RX9 "java/lang/Object" ∈ lw_n := lw_n_in (i := 1643) (by decide +kernel) (by decide +kernel)
theorem coX1 : Cond.castable RX1 "java/lang/Object" ∈ lw_n := lw_n_in (i := 1644) (by decide +kernel) (by decide +kernel)
theorem coX14 : Cond.castable RX14 "java/lang/Object" ∈ lw_n := lw_n_in (i := 1645) (by decide +kernel) (by decide +kernel)
theorem coX13 : Cond.castable RX13 "java/lang/Object" ∈ lw_n := lw_n_in (i := 1646) (by decide +kernel) (by decide +kernel)
theorem coX3 : Cond.castable RX3 "java/lang/Object" ∈ lw_n := lw_n_in (i := 1647) (by decide +kernel) (by decide +kernel)
theorem coX5 : Cond.castable RX5 "java/lang/Object" ∈ lw_n := lw_n_in (i := 1648) (by decide +kernel) (by decide +kernel)
theorem coX7 : Cond.castable RX7 "java/lang/Object" ∈ lw_n := lw_n_in (i := 1649) (by decide +kernel) (by decide +kernel)
theorem coX2 : Cond.castable RX2 "java/lang/Object" ∈ lw_n := lw_n_in (i := 1650) (by decide +kernel) (by decide +kernel)
theorem coJ0 : Cond.castable RJ0 "java/lang/Object" ∈ lw_n := lw_n_in (i := 1652) (by decide +kernel) (by decide +kernel)
theorem dE_rt_0 : decode cE_rt 0 = .ok (.aload_n 0, 1) := by decide +kernel
theorem dE_rt_1 : decode cE_rt 1 = .ok (.aload_n 1, 1) := by decide +kernel
theorem dE_rt_2 : decode cE_rt 2 = .ok (.aload_n 2, 1) := by decide +kernel
theorem dE_rt_3 : decode cE_rt 3 = .ok (.iload_n 3, 1) := by decide +kernel
theorem dE_rt_4 : decode cE_rt 4 = .ok (.iload 4, 2) := by decide +kernel
theorem dE_rt_6 : decode cE_rt 6 = .ok (.invokespecial 16, 3) := by decide +kernel
theorem dE_rt_9 : decode cE_rt 9 = .ok (.return_, 1) := by decide +kernel
theorem dE_ex_0 : decode cE_ex 0 = .ok (.aload_n 0, 1) := by decide +kernel
theorem dE_ex_1 : decode cE_ex 1 = .ok (.aload_n 1, 1) := by decide +kernel
theorem dE_ex_2 : decode cE_ex 2 = .ok (.aload_n 2, 1) := by decide +kernel
theorem dE_ex_3 : decode cE_ex 3 = .ok (.iload_n 3, 1) := by decide +kernel
theorem dE_ex_4 : decode cE_ex 4 = .ok (.iload 4, 2) := by decide +kernel
theorem dE_ex_6 : decode cE_ex 6 = .ok (.invokespecial 16, 3) := by decide +kernel
theorem dE_ex_9 : decode cE_ex 9 = .ok (.return_, 1) := by decide +kernel
theorem dE_th_0 : decode cE_th 0 = .ok (.aload_n 0, 1) := by decide +kernel
theorem dE_th_1 : decode cE_th 1 = .ok (.invokespecial 1, 3) := by decide +kernel
theorem dE_th_4 : decode cE_th 4 = .ok (.aload_n 0, 1) := by decide +kernel
theorem dE_th_5 : decode cE_th 5 = .ok (.aload_n 0, 1) := by decide +kernel
theorem dE_th_6 : decode cE_th 6 = .ok (.putfield 7, 3) := by decide +kernel
theorem dE_th_9 : decode cE_th 9 = .ok (.aload_n 0, 1) := by decide +kernel
theorem dE_th_10 : decode cE_th 10 = .ok (.getstatic 13, 3) := by decide +kernel
theorem dE_th_13 : decode cE_th 13 = .ok (.putfield 17, 3) := by decide +kernel
theorem dE_th_16 : decode cE_th 16 = .ok (.aload_n 0, 1) := by decide +kernel
theorem dE_th_17 : decode cE_th 17 = .ok (.getstatic 20, 3) := by decide +kernel
theorem dE_th_20 : decode cE_th 20 = .ok (.putfield 24, 3) := by decide +kernel
theorem dE_th_23 : decode cE_th 23 = .ok (.iload 4, 2) := by decide +kernel
theorem dE_th_25 : decode cE_th 25 = .ok (.ifCond .eq (11), 3) := by decide +kernel
theorem dE_th_28 : decode cE_th 28 = .ok (.aload_n 0, 1) := by decide +kernel
theorem dE_th_29 : decode cE_th 29 = .ok (.invokevirtual 27, 3) := by decide +kernel
theorem dE_th_32 : decode cE_th 32 = .ok (.pop, 1) := by decide +kernel
theorem dE_th_33 : decode cE_th 33 = .ok (.goto (8), 3) := by decide +kernel
theorem dE_th_36 : decode cE_th 36 = .ok (.aload_n 0, 1) := by decide +kernel
theorem dE_th_37 : decode cE_th 37 = .ok (.aconst_null, 1) := by decide +kernel
theorem dE_th_38 : decode cE_th 38 = .ok (.putfield 17, 3) := by decide +kernel
theorem dE_th_41 : decode cE_th 41 = .ok (.aload_n 0, 1) := by decide +kernel
theorem dE_th_42 : decode cE_th 42 = .ok (.aload_n 1, 1) := by decide +kernel
theorem dE_th_43 : decode cE_th 43 = .ok (.putfield 31, 3) := by decide +kernel
theorem dE_th_46 : decode cE_th 46 = .ok (.aload_n 0, 1) := by decide +kernel
theorem dE_th_47 : decode cE_th 47 = .ok (.aload_n 2, 1) := by decide +kernel
theorem dE_th_48 : decode cE_th 48 = .ok (.putfield 7, 3) := by decide +kernel
theorem dE_th_51 : decode cE_th 51 = .ok (.iload_n 3, 1) := by decide +kernel
theorem dE_th_52 : decode cE_th 52 = .ok (.ifCond .ne (8), 3) := by decide +kernel
theorem dE_th_55 : decode cE_th 55 = .ok (.aload_n 0, 1) := by decide +kernel
theorem dE_th_56 : decode cE_th 56 = .ok (.aconst_null, 1) := by decide +kernel
theorem dE_th_57 : decode cE_th 57 = .ok (.putfield 24, 3) := by decide +kernel
theorem dE_th_60 : decode cE_th 60 = .ok (.return_, 1) := by decide +kernel
