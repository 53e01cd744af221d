/-! words that rows name: written by gen/words2.py -/
theorem wx_objI : Cond.instanceMethod objectInit ∈ lw_g := mw_in (i := 99) (by decide +kernel)
theorem wx_objC : Cond.code objectInit ⟨#[0xb1]⟩ 1 none ∈ lw_g := mw_in (i := 100) (by decide +kernel)
theorem wx_acN : Cond.native arraycopyName ∈ lw_g := mw_in (i := 116) (by decide +kernel)
theorem wx_acS : Cond.static arraycopyName ∈ lw_g := mw_in (i := 115) (by decide +kernel)
theorem wx_acI : Cond.initialized "java/lang/System" ∈ lw_g := mw_in (i := 77) (by decide +kernel)
theorem wx_arr_int : Cond.arrayClass .int ∈ lw_g := mw_in (i := 184) (by decide +kernel)
theorem wx_arr_byte : Cond.arrayClass .byte ∈ lw_g := mw_in (i := 751) (by decide +kernel)
theorem wx_arr_boolean : Cond.arrayClass .boolean ∈ lw_g := mw_in (i := 201) (by decide +kernel)
theorem wx_high : Cond.fieldLink "RoadWater" 134 "RoadWater" "HIGHEST_TERMS" "[I" ∈ lw_g := mw_in (i := 549) (by decide +kernel)
theorem wx_mathI : Cond.initialized "java/lang/Math" ∈ lw_g := mw_in (i := 86) (by decide +kernel)
theorem wx_maxS : Cond.static Lib.Math.max.name ∈ lw_g := mw_in (i := 792) (by decide +kernel)
theorem wx_maxC : Cond.code Lib.Math.max.name Lib.Math.max.code 2 (some .int) ∈ lw_g := mw_in (i := 793) (by decide +kernel)
theorem wx_minS : Cond.static Lib.Math.min.name ∈ lw_g := mw_in (i := 543) (by decide +kernel)
theorem wx_minC : Cond.code Lib.Math.min.name Lib.Math.min.code 2 (some .int) ∈ lw_g := mw_in (i := 544) (by decide +kernel)
theorem wx_absS : Cond.static Lib.Math.abs.name ∈ lw_g := mw_in (i := 1027) (by decide +kernel)
theorem wx_absC : Cond.code Lib.Math.abs.name Lib.Math.abs.code 1 (some .int) ∈ lw_g := mw_in (i := 1028) (by decide +kernel)
theorem wx_cl1 : Cond.methodLink "java/util/Arrays" 316 ⟨"[I", "clone", "()Ljava/lang/Object;"⟩ ∈ lw_g := mw_in (i := 724) (by decide +kernel)
theorem wx_cl2t : Cond.sameMethod "[I" "java/lang/Object" "clone" "()Ljava/lang/Object;" ∈ lw_tbl := List.mem_of_getElem? (i := 725) (by decide +kernel)
theorem wx_cl3 : Cond.native ⟨"java/lang/Object", "clone", "()Ljava/lang/Object;"⟩ ∈ lw_g := mw_in (i := 726) (by decide +kernel)
theorem wx_cl4 : Cond.instanceMethod ⟨"java/lang/Object", "clone", "()Ljava/lang/Object;"⟩ ∈ lw_g := mw_in (i := 727) (by decide +kernel)
theorem wx_cl5 : Cond.selects "[I" ⟨"[I", "clone", "()Ljava/lang/Object;"⟩ ⟨"java/lang/Object", "clone", "()Ljava/lang/Object;"⟩ ∈ lw_g := mw_in (i := 728) (by decide +kernel)
theorem wx_cl6 : Cond.classLink "java/util/Arrays" 317 "[I" ∈ lw_g := mw_in (i := 730) (by decide +kernel)
theorem wx_cl2 : Cond.sameMethod "[I" "java/lang/Object" "clone" "()Ljava/lang/Object;" ∈ lw_g := lw_g_in wx_cl2t rfl
abbrev ys_len : MethodName := ⟨"java/lang/String", "length", "()I"⟩
abbrev cs_len : ByteArray := prog_16_method_54_code
theorem wx_lenC : Cond.code ys_len cs_len 1 (some .int) ∈ lw_g := mw_in (i := 605) (by decide +kernel)
theorem wx_lenI : Cond.instanceMethod ys_len ∈ lw_g := mw_in (i := 603) (by decide +kernel)
theorem wx_lenV : Cond.selects "java/lang/String" ys_len ys_len ∈ lw_g := mw_in (i := 604) (by decide +kernel)
abbrev ys_coder : MethodName := ⟨"java/lang/String", "coder", "()B"⟩
abbrev cs_coder : ByteArray := prog_16_method_152_code
theorem wx_coderC : Cond.code ys_coder cs_coder 1 (some .byte) ∈ lw_g := mw_in (i := 609) (by decide +kernel)
theorem wx_coderI : Cond.instanceMethod ys_coder ∈ lw_g := mw_in (i := 607) (by decide +kernel)
theorem wx_coderV : Cond.selects "java/lang/String" ys_coder ys_coder ∈ lw_g := mw_in (i := 608) (by decide +kernel)
abbrev ys_chat : MethodName := ⟨"java/lang/String", "charAt", "(I)C"⟩
abbrev cs_chat : ByteArray := prog_16_method_56_code
theorem wx_chatC : Cond.code ys_chat cs_chat 2 (some .char) ∈ lw_g := mw_in (i := 615) (by decide +kernel)
theorem wx_chatI : Cond.instanceMethod ys_chat ∈ lw_g := mw_in (i := 613) (by decide +kernel)
theorem wx_chatV : Cond.selects "java/lang/String" ys_chat ys_chat ∈ lw_g := mw_in (i := 614) (by decide +kernel)
abbrev ys_lat : MethodName := ⟨"java/lang/String", "isLatin1", "()Z"⟩
abbrev cs_lat : ByteArray := prog_16_method_154_code
theorem wx_latC : Cond.code ys_lat cs_lat 1 (some .boolean) ∈ lw_g := mw_in (i := 619) (by decide +kernel)
theorem wx_latI : Cond.instanceMethod ys_lat ∈ lw_g := mw_in (i := 617) (by decide +kernel)
theorem wx_latV : Cond.selects "java/lang/String" ys_lat ys_lat ∈ lw_g := mw_in (i := 618) (by decide +kernel)
abbrev ys_lchat : MethodName := ⟨"java/lang/StringLatin1", "charAt", "([BI)C"⟩
abbrev cs_lchat : ByteArray := prog_17_method_2_code
theorem wx_lchatC : Cond.code ys_lchat cs_lchat 2 (some .char) ∈ lw_g := mw_in (i := 622) (by decide +kernel)
theorem wx_lchatS : Cond.static ys_lchat ∈ lw_g := mw_in (i := 621) (by decide +kernel)
abbrev ys_chk : MethodName := ⟨"java/lang/String", "checkIndex", "(II)V"⟩
abbrev cs_chk : ByteArray := prog_16_method_155_code
theorem wx_chkC : Cond.code ys_chk cs_chk 2 none ∈ lw_g := mw_in (i := 625) (by decide +kernel)
theorem wx_chkS : Cond.static ys_chk ∈ lw_g := mw_in (i := 624) (by decide +kernel)
abbrev ys_pre : MethodName := ⟨"jdk/internal/util/Preconditions", "checkIndex", "(IILjava/util/function/BiFunction;)I"⟩
abbrev cs_pre : ByteArray := prog_21_method_11_code
theorem wx_preC : Cond.code ys_pre cs_pre 3 (some .int) ∈ lw_g := mw_in (i := 630) (by decide +kernel)
theorem wx_preS : Cond.static ys_pre ∈ lw_g := mw_in (i := 629) (by decide +kernel)
theorem wx_i_str : Cond.initialized "java/lang/String" ∈ lw_g := mw_in (i := 87) (by decide +kernel)
theorem wx_i_lat1 : Cond.initialized "java/lang/StringLatin1" ∈ lw_g := mw_in (i := 88) (by decide +kernel)
theorem wx_i_prec : Cond.initialized "jdk/internal/util/Preconditions" ∈ lw_g := mw_in (i := 89) (by decide +kernel)
theorem wx_l_coder : Cond.methodLink "java/lang/String" 335 ys_coder ∈ lw_g := mw_in (i := 606) (by decide +kernel)
theorem wx_l_lat : Cond.methodLink "java/lang/String" 492 ys_lat ∈ lw_g := mw_in (i := 616) (by decide +kernel)
theorem wx_l_lchat : Cond.methodLink "java/lang/String" 495 ys_lchat ∈ lw_g := mw_in (i := 620) (by decide +kernel)
theorem wx_l_chk : Cond.methodLink "java/lang/StringLatin1" 9 ys_chk ∈ lw_g := mw_in (i := 623) (by decide +kernel)
theorem wx_l_pre : Cond.methodLink "java/lang/String" 1059 ys_pre ∈ lw_g := mw_in (i := 628) (by decide +kernel)
theorem wx_f_comp : Cond.fieldLink "java/lang/String" 38 "java/lang/String" "COMPACT_STRINGS" "Z" ∈ lw_g := mw_in (i := 610) (by decide +kernel)
theorem wx_f_sio : Cond.fieldLink "java/lang/String" 1053 "jdk/internal/util/Preconditions" "SIOOBE_FORMATTER" "Ljava/util/function/BiFunction;" ∈ lw_g := mw_in (i := 626) (by decide +kernel)
theorem wx_f_value : Cond.fieldLink "java/lang/String" 9 "java/lang/String" "value" "[B" ∈ lw_g := mw_in (i := 1652) (by decide +kernel)
theorem wx_f_coderf : Cond.fieldLink "java/lang/String" 15 "java/lang/String" "coder" "B" ∈ lw_g := mw_in (i := 1653) (by decide +kernel)
theorem ds_len_0 : decode cs_len 0 = .ok (.aload_n 0, 1) := by decide +kernel
theorem ds_len_1 : decode cs_len 1 = .ok (.getfield 9, 3) := by decide +kernel
theorem ds_len_4 : decode cs_len 4 = .ok (.arraylength, 1) := by decide +kernel
theorem ds_len_5 : decode cs_len 5 = .ok (.aload_n 0, 1) := by decide +kernel
theorem ds_len_6 : decode cs_len 6 = .ok (.invokevirtual 335, 3) := by decide +kernel
theorem ds_len_9 : decode cs_len 9 = .ok (.ishr, 1) := by decide +kernel
theorem ds_len_10 : decode cs_len 10 = .ok (.ireturn, 1) := by decide +kernel
theorem ds_coder_0 : decode cs_coder 0 = .ok (.getstatic 38, 3) := by decide +kernel
theorem ds_coder_3 : decode cs_coder 3 = .ok (.ifCond .eq 10, 3) := by decide +kernel
theorem ds_coder_6 : decode cs_coder 6 = .ok (.aload_n 0, 1) := by decide +kernel
theorem ds_coder_7 : decode cs_coder 7 = .ok (.getfield 15, 3) := by decide +kernel
theorem ds_coder_10 : decode cs_coder 10 = .ok (.goto 4, 3) := by decide +kernel
theorem ds_coder_13 : decode cs_coder 13 = .ok (.iconst 1, 1) := by decide +kernel
theorem ds_coder_14 : decode cs_coder 14 = .ok (.ireturn, 1) := by decide +kernel
theorem ds_chat_0 : decode cs_chat 0 = .ok (.aload_n 0, 1) := by decide +kernel
theorem ds_chat_1 : decode cs_chat 1 = .ok (.invokevirtual 492, 3) := by decide +kernel
theorem ds_chat_4 : decode cs_chat 4 = .ok (.ifCond .eq 12, 3) := by decide +kernel
theorem ds_chat_7 : decode cs_chat 7 = .ok (.aload_n 0, 1) := by decide +kernel
theorem ds_chat_8 : decode cs_chat 8 = .ok (.getfield 9, 3) := by decide +kernel
theorem ds_chat_11 : decode cs_chat 11 = .ok (.iload_n 1, 1) := by decide +kernel
theorem ds_chat_12 : decode cs_chat 12 = .ok (.invokestatic 495, 3) := by decide +kernel
theorem ds_chat_15 : decode cs_chat 15 = .ok (.ireturn, 1) := by decide +kernel
theorem ds_chat_16 : decode cs_chat 16 = .ok (.aload_n 0, 1) := by decide +kernel
theorem ds_chat_17 : decode cs_chat 17 = .ok (.getfield 9, 3) := by decide +kernel
theorem ds_chat_20 : decode cs_chat 20 = .ok (.iload_n 1, 1) := by decide +kernel
theorem ds_chat_21 : decode cs_chat 21 = .ok (.invokestatic 498, 3) := by decide +kernel
theorem ds_chat_24 : decode cs_chat 24 = .ok (.ireturn, 1) := by decide +kernel
theorem ds_lat_0 : decode cs_lat 0 = .ok (.getstatic 38, 3) := by decide +kernel
theorem ds_lat_3 : decode cs_lat 3 = .ok (.ifCond .eq 14, 3) := by decide +kernel
theorem ds_lat_6 : decode cs_lat 6 = .ok (.aload_n 0, 1) := by decide +kernel
theorem ds_lat_7 : decode cs_lat 7 = .ok (.getfield 15, 3) := by decide +kernel
theorem ds_lat_10 : decode cs_lat 10 = .ok (.ifCond .ne 7, 3) := by decide +kernel
theorem ds_lat_13 : decode cs_lat 13 = .ok (.iconst 1, 1) := by decide +kernel
theorem ds_lat_14 : decode cs_lat 14 = .ok (.goto 4, 3) := by decide +kernel
theorem ds_lat_17 : decode cs_lat 17 = .ok (.iconst 0, 1) := by decide +kernel
theorem ds_lat_18 : decode cs_lat 18 = .ok (.ireturn, 1) := by decide +kernel
theorem ds_lchat_0 : decode cs_lchat 0 = .ok (.iload_n 1, 1) := by decide +kernel
theorem ds_lchat_1 : decode cs_lchat 1 = .ok (.aload_n 0, 1) := by decide +kernel
theorem ds_lchat_2 : decode cs_lchat 2 = .ok (.arraylength, 1) := by decide +kernel
theorem ds_lchat_3 : decode cs_lchat 3 = .ok (.invokestatic 9, 3) := by decide +kernel
theorem ds_lchat_6 : decode cs_lchat 6 = .ok (.aload_n 0, 1) := by decide +kernel
theorem ds_lchat_7 : decode cs_lchat 7 = .ok (.iload_n 1, 1) := by decide +kernel
theorem ds_lchat_8 : decode cs_lchat 8 = .ok (.baload, 1) := by decide +kernel
theorem ds_lchat_9 : decode cs_lchat 9 = .ok (.sipush 255, 3) := by decide +kernel
theorem ds_lchat_12 : decode cs_lchat 12 = .ok (.iand, 1) := by decide +kernel
theorem ds_lchat_13 : decode cs_lchat 13 = .ok (.i2c, 1) := by decide +kernel
theorem ds_lchat_14 : decode cs_lchat 14 = .ok (.ireturn, 1) := by decide +kernel
theorem ds_chk_0 : decode cs_chk 0 = .ok (.iload_n 0, 1) := by decide +kernel
theorem ds_chk_1 : decode cs_chk 1 = .ok (.iload_n 1, 1) := by decide +kernel
theorem ds_chk_2 : decode cs_chk 2 = .ok (.getstatic 1053, 3) := by decide +kernel
theorem ds_chk_5 : decode cs_chk 5 = .ok (.invokestatic 1059, 3) := by decide +kernel
theorem ds_chk_8 : decode cs_chk 8 = .ok (.pop, 1) := by decide +kernel
theorem ds_chk_9 : decode cs_chk 9 = .ok (.return_, 1) := by decide +kernel
theorem ds_pre_0 : decode cs_pre 0 = .ok (.iload_n 0, 1) := by decide +kernel
theorem ds_pre_1 : decode cs_pre 1 = .ok (.ifCond .lt 8, 3) := by decide +kernel
theorem ds_pre_4 : decode cs_pre 4 = .ok (.iload_n 0, 1) := by decide +kernel
theorem ds_pre_5 : decode cs_pre 5 = .ok (.iload_n 1, 1) := by decide +kernel
theorem ds_pre_6 : decode cs_pre 6 = .ok (.if_icmp .lt 10, 3) := by decide +kernel
theorem ds_pre_9 : decode cs_pre 9 = .ok (.aload_n 2, 1) := by decide +kernel
theorem ds_pre_10 : decode cs_pre 10 = .ok (.iload_n 0, 1) := by decide +kernel
theorem ds_pre_11 : decode cs_pre 11 = .ok (.iload_n 1, 1) := by decide +kernel
theorem ds_pre_12 : decode cs_pre 12 = .ok (.invokestatic 95, 3) := by decide +kernel
theorem ds_pre_16 : decode cs_pre 16 = .ok (.iload_n 0, 1) := by decide +kernel
theorem ds_pre_17 : decode cs_pre 17 = .ok (.ireturn, 1) := by decide +kernel
