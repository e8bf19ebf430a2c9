theorem gm_125 : Cond.initialized RJ0 ∈ gw := gw_mem 125 (by decide +kernel) (by decide +kernel)
theorem gm_126 : Cond.initialized RJ1 ∈ gw := gw_mem 126 (by decide +kernel) (by decide +kernel)
theorem gm_127 : Cond.initialized RJ3 ∈ gw := gw_mem 127 (by decide +kernel) (by decide +kernel)
theorem gm_573 : Cond.instanceMethod yJ0_length_8abf5 ∈ gw := gw_mem 573 (by decide +kernel) (by decide +kernel)
theorem gm_574 : Cond.selects RJ0 yJ0_length_8abf5 yJ0_length_8abf5 ∈ gw := gw_mem 574 (by decide +kernel) (by decide +kernel)
theorem gm_575 : Cond.code yJ0_length_8abf5 cJ0_length_8abf5 1 (some .int) ∈ gw := gw_mem 575 (by decide +kernel) (by decide +kernel)
theorem gm_576 : Cond.methodLink RJ0 335 yJ0_coder_7d493 ∈ gw := gw_mem 576 (by decide +kernel) (by decide +kernel)
theorem gm_577 : Cond.instanceMethod yJ0_coder_7d493 ∈ gw := gw_mem 577 (by decide +kernel) (by decide +kernel)
theorem gm_578 : Cond.selects RJ0 yJ0_coder_7d493 yJ0_coder_7d493 ∈ gw := gw_mem 578 (by decide +kernel) (by decide +kernel)
theorem gm_579 : Cond.code yJ0_coder_7d493 cJ0_coder_7d493 1 (some .byte) ∈ gw := gw_mem 579 (by decide +kernel) (by decide +kernel)
theorem gm_580 : Cond.fieldLink RJ0 38 RJ0 "COMPACT_STRINGS" "Z" ∈ gw := gw_mem 580 (by decide +kernel) (by decide +kernel)
theorem gm_586 : Cond.methodLink RJ0 492 yJ0_isLatin1_aae02 ∈ gw := gw_mem 586 (by decide +kernel) (by decide +kernel)
theorem gm_587 : Cond.instanceMethod yJ0_isLatin1_aae02 ∈ gw := gw_mem 587 (by decide +kernel) (by decide +kernel)
theorem gm_588 : Cond.selects RJ0 yJ0_isLatin1_aae02 yJ0_isLatin1_aae02 ∈ gw := gw_mem 588 (by decide +kernel) (by decide +kernel)
theorem gm_589 : Cond.code yJ0_isLatin1_aae02 cJ0_isLatin1_aae02 1 (some .boolean) ∈ gw := gw_mem 589 (by decide +kernel) (by decide +kernel)
theorem gm_590 : Cond.methodLink RJ0 495 yJ1_charAt_3b067 ∈ gw := gw_mem 590 (by decide +kernel) (by decide +kernel)
theorem gm_591 : Cond.static yJ1_charAt_3b067 ∈ gw := gw_mem 591 (by decide +kernel) (by decide +kernel)
theorem gm_592 : Cond.code yJ1_charAt_3b067 cJ1_charAt_3b067 2 (some .char) ∈ gw := gw_mem 592 (by decide +kernel) (by decide +kernel)
theorem gm_593 : Cond.methodLink RJ1 9 yJ0_checkIndex_df160 ∈ gw := gw_mem 593 (by decide +kernel) (by decide +kernel)
theorem gm_594 : Cond.static yJ0_checkIndex_df160 ∈ gw := gw_mem 594 (by decide +kernel) (by decide +kernel)
theorem gm_595 : Cond.code yJ0_checkIndex_df160 cJ0_checkIndex_df160 2 none ∈ gw := gw_mem 595 (by decide +kernel) (by decide +kernel)
theorem gm_596 : Cond.fieldLink RJ0 1053 RJ3 "SIOOBE_FORMATTER" "Ljava/util/function/BiFunction;" ∈ gw := gw_mem 596 (by decide +kernel) (by decide +kernel)
theorem gm_598 : Cond.methodLink RJ0 1059 yJ3_checkIndex_8e157 ∈ gw := gw_mem 598 (by decide +kernel) (by decide +kernel)
theorem gm_599 : Cond.static yJ3_checkIndex_8e157 ∈ gw := gw_mem 599 (by decide +kernel) (by decide +kernel)
theorem gm_600 : Cond.code yJ3_checkIndex_8e157 cJ3_checkIndex_8e157 3 (some .int) ∈ gw := gw_mem 600 (by decide +kernel) (by decide +kernel)
theorem gm_636 : Cond.methodLink RJ0 633 yJ0_indexOf_7cf53 ∈ gw := gw_mem 636 (by decide +kernel) (by decide +kernel)
theorem gm_637 : Cond.instanceMethod yJ0_indexOf_7cf53 ∈ gw := gw_mem 637 (by decide +kernel) (by decide +kernel)
theorem gm_638 : Cond.selects RJ0 yJ0_indexOf_7cf53 yJ0_indexOf_7cf53 ∈ gw := gw_mem 638 (by decide +kernel) (by decide +kernel)
theorem gm_639 : Cond.code yJ0_indexOf_7cf53 cJ0_indexOf_7cf53 3 (some .int) ∈ gw := gw_mem 639 (by decide +kernel) (by decide +kernel)
theorem gm_640 : Cond.methodLink RJ0 505 yJ0_length_8abf5 ∈ gw := gw_mem 640 (by decide +kernel) (by decide +kernel)
theorem gm_641 : Cond.methodLink RJ0 637 yJ1_indexOf_4cfef ∈ gw := gw_mem 641 (by decide +kernel) (by decide +kernel)
theorem gm_642 : Cond.static yJ1_indexOf_4cfef ∈ gw := gw_mem 642 (by decide +kernel) (by decide +kernel)
theorem gm_643 : Cond.code yJ1_indexOf_4cfef cJ1_indexOf_4cfef 4 (some .int) ∈ gw := gw_mem 643 (by decide +kernel) (by decide +kernel)
theorem gm_644 : Cond.methodLink RJ1 88 yJ1_canEncode_9a6ad ∈ gw := gw_mem 644 (by decide +kernel) (by decide +kernel)
theorem gm_645 : Cond.static yJ1_canEncode_9a6ad ∈ gw := gw_mem 645 (by decide +kernel) (by decide +kernel)
theorem gm_646 : Cond.code yJ1_canEncode_9a6ad cJ1_canEncode_9a6ad 1 (some .boolean) ∈ gw := gw_mem 646 (by decide +kernel) (by decide +kernel)
theorem gm_647 : Cond.methodLink RJ1 92 yJ9_max_7cf53 ∈ gw := gw_mem 647 (by decide +kernel) (by decide +kernel)
theorem gm_648 : Cond.methodLink RJ1 38 yJ9_min_7cf53 ∈ gw := gw_mem 648 (by decide +kernel) (by decide +kernel)
theorem gm_651 : Cond.methodLink RJ1 95 yJ1_indexOfChar_4cfef ∈ gw := gw_mem 651 (by decide +kernel) (by decide +kernel)
theorem gm_652 : Cond.static yJ1_indexOfChar_4cfef ∈ gw := gw_mem 652 (by decide +kernel) (by decide +kernel)
theorem gm_653 : Cond.code yJ1_indexOfChar_4cfef cJ1_indexOfChar_4cfef 6 (some .int) ∈ gw := gw_mem 653 (by decide +kernel) (by decide +kernel)
theorem gm_1921 : Cond.fieldLink RJ0 9 RJ0 "value" "[B" ∈ gw := gw_mem 1921 (by decide +kernel) (by decide +kernel)
theorem gm_1922 : Cond.fieldLink RJ0 15 RJ0 "coder" "B" ∈ gw := gw_mem 1922 (by decide +kernel) (by decide +kernel)
theorem dJ0_coder_7d493_0 : decode cJ0_coder_7d493 0 = .ok (.getstatic 38, 3) := by decide +kernel
theorem dJ0_coder_7d493_3 : decode cJ0_coder_7d493 3 = .ok (.ifCond .eq 10, 3) := by decide +kernel
theorem dJ0_coder_7d493_6 : decode cJ0_coder_7d493 6 = .ok (.aload_n 0, 1) := by decide +kernel
theorem dJ0_coder_7d493_7 : decode cJ0_coder_7d493 7 = .ok (.getfield 15, 3) := by decide +kernel
theorem dJ0_coder_7d493_10 : decode cJ0_coder_7d493 10 = .ok (.goto 4, 3) := by decide +kernel
theorem dJ0_coder_7d493_13 : decode cJ0_coder_7d493 13 = .ok (.iconst 1, 1) := by decide +kernel
theorem dJ0_coder_7d493_14 : decode cJ0_coder_7d493 14 = .ok (.ireturn, 1) := by decide +kernel
theorem dJ0_isLatin1_aae02_0 : decode cJ0_isLatin1_aae02 0 = .ok (.getstatic 38, 3) := by decide +kernel
theorem dJ0_isLatin1_aae02_3 : decode cJ0_isLatin1_aae02 3 = .ok (.ifCond .eq 14, 3) := by decide +kernel
theorem dJ0_isLatin1_aae02_6 : decode cJ0_isLatin1_aae02 6 = .ok (.aload_n 0, 1) := by decide +kernel
theorem dJ0_isLatin1_aae02_7 : decode cJ0_isLatin1_aae02 7 = .ok (.getfield 15, 3) := by decide +kernel
theorem dJ0_isLatin1_aae02_10 : decode cJ0_isLatin1_aae02 10 = .ok (.ifCond .ne 7, 3) := by decide +kernel
theorem dJ0_isLatin1_aae02_13 : decode cJ0_isLatin1_aae02 13 = .ok (.iconst 1, 1) := by decide +kernel
theorem dJ0_isLatin1_aae02_14 : decode cJ0_isLatin1_aae02 14 = .ok (.goto 4, 3) := by decide +kernel
theorem dJ0_isLatin1_aae02_17 : decode cJ0_isLatin1_aae02 17 = .ok (.iconst 0, 1) := by decide +kernel
theorem dJ0_isLatin1_aae02_18 : decode cJ0_isLatin1_aae02 18 = .ok (.ireturn, 1) := by decide +kernel
theorem dJ0_length_8abf5_0 : decode cJ0_length_8abf5 0 = .ok (.aload_n 0, 1) := by decide +kernel
theorem dJ0_length_8abf5_1 : decode cJ0_length_8abf5 1 = .ok (.getfield 9, 3) := by decide +kernel
theorem dJ0_length_8abf5_4 : decode cJ0_length_8abf5 4 = .ok (.arraylength, 1) := by decide +kernel
theorem dJ0_length_8abf5_5 : decode cJ0_length_8abf5 5 = .ok (.aload_n 0, 1) := by decide +kernel
theorem dJ0_length_8abf5_6 : decode cJ0_length_8abf5 6 = .ok (.invokevirtual 335, 3) := by decide +kernel
theorem dJ0_length_8abf5_9 : decode cJ0_length_8abf5 9 = .ok (.ishr, 1) := by decide +kernel
theorem dJ0_length_8abf5_10 : decode cJ0_length_8abf5 10 = .ok (.ireturn, 1) := by decide +kernel
theorem dJ3_checkIndex_8e157_0 : decode cJ3_checkIndex_8e157 0 = .ok (.iload_n 0, 1) := by decide +kernel
theorem dJ3_checkIndex_8e157_1 : decode cJ3_checkIndex_8e157 1 = .ok (.ifCond .lt 8, 3) := by decide +kernel
theorem dJ3_checkIndex_8e157_4 : decode cJ3_checkIndex_8e157 4 = .ok (.iload_n 0, 1) := by decide +kernel
theorem dJ3_checkIndex_8e157_5 : decode cJ3_checkIndex_8e157 5 = .ok (.iload_n 1, 1) := by decide +kernel
theorem dJ3_checkIndex_8e157_6 : decode cJ3_checkIndex_8e157 6 = .ok (.if_icmp .lt 10, 3) := by decide +kernel
theorem dJ3_checkIndex_8e157_9 : decode cJ3_checkIndex_8e157 9 = .ok (.aload_n 2, 1) := by decide +kernel
theorem dJ3_checkIndex_8e157_10 : decode cJ3_checkIndex_8e157 10 = .ok (.iload_n 0, 1) := by decide +kernel
theorem dJ3_checkIndex_8e157_11 : decode cJ3_checkIndex_8e157 11 = .ok (.iload_n 1, 1) := by decide +kernel
theorem dJ3_checkIndex_8e157_12 : decode cJ3_checkIndex_8e157 12 = .ok (.invokestatic 95, 3) := by decide +kernel
theorem dJ3_checkIndex_8e157_15 : decode cJ3_checkIndex_8e157 15 = .ok (.athrow, 1) := by decide +kernel
theorem dJ3_checkIndex_8e157_16 : decode cJ3_checkIndex_8e157 16 = .ok (.iload_n 0, 1) := by decide +kernel
theorem dJ3_checkIndex_8e157_17 : decode cJ3_checkIndex_8e157 17 = .ok (.ireturn, 1) := by decide +kernel
theorem dJ0_checkIndex_df160_0 : decode cJ0_checkIndex_df160 0 = .ok (.iload_n 0, 1) := by decide +kernel
theorem dJ0_checkIndex_df160_1 : decode cJ0_checkIndex_df160 1 = .ok (.iload_n 1, 1) := by decide +kernel
theorem dJ0_checkIndex_df160_2 : decode cJ0_checkIndex_df160 2 = .ok (.getstatic 1053, 3) := by decide +kernel
theorem dJ0_checkIndex_df160_5 : decode cJ0_checkIndex_df160 5 = .ok (.invokestatic 1059, 3) := by decide +kernel
theorem dJ0_checkIndex_df160_8 : decode cJ0_checkIndex_df160 8 = .ok (.pop, 1) := by decide +kernel
theorem dJ0_checkIndex_df160_9 : decode cJ0_checkIndex_df160 9 = .ok (.return_, 1) := by decide +kernel
theorem dJ1_charAt_3b067_0 : decode cJ1_charAt_3b067 0 = .ok (.iload_n 1, 1) := by decide +kernel
theorem dJ1_charAt_3b067_1 : decode cJ1_charAt_3b067 1 = .ok (.aload_n 0, 1) := by decide +kernel
theorem dJ1_charAt_3b067_2 : decode cJ1_charAt_3b067 2 = .ok (.arraylength, 1) := by decide +kernel
theorem dJ1_charAt_3b067_3 : decode cJ1_charAt_3b067 3 = .ok (.invokestatic 9, 3) := by decide +kernel
theorem dJ1_charAt_3b067_6 : decode cJ1_charAt_3b067 6 = .ok (.aload_n 0, 1) := by decide +kernel
theorem dJ1_charAt_3b067_7 : decode cJ1_charAt_3b067 7 = .ok (.iload_n 1, 1) := by decide +kernel
theorem dJ1_charAt_3b067_8 : decode cJ1_charAt_3b067 8 = .ok (.baload, 1) := by decide +kernel
theorem dJ1_charAt_3b067_9 : decode cJ1_charAt_3b067 9 = .ok (.sipush 255, 3) := by decide +kernel
theorem dJ1_charAt_3b067_12 : decode cJ1_charAt_3b067 12 = .ok (.iand, 1) := by decide +kernel
theorem dJ1_charAt_3b067_13 : decode cJ1_charAt_3b067 13 = .ok (.i2c, 1) := by decide +kernel
theorem dJ1_charAt_3b067_14 : decode cJ1_charAt_3b067 14 = .ok (.ireturn, 1) := by decide +kernel
theorem dJ0_charAt_5068e_0 : decode cJ0_charAt_5068e 0 = .ok (.aload_n 0, 1) := by decide +kernel
theorem dJ0_charAt_5068e_1 : decode cJ0_charAt_5068e 1 = .ok (.invokevirtual 492, 3) := by decide +kernel
theorem dJ0_charAt_5068e_4 : decode cJ0_charAt_5068e 4 = .ok (.ifCond .eq 12, 3) := by decide +kernel
theorem dJ0_charAt_5068e_7 : decode cJ0_charAt_5068e 7 = .ok (.aload_n 0, 1) := by decide +kernel
theorem dJ0_charAt_5068e_8 : decode cJ0_charAt_5068e 8 = .ok (.getfield 9, 3) := by decide +kernel
theorem dJ0_charAt_5068e_11 : decode cJ0_charAt_5068e 11 = .ok (.iload_n 1, 1) := by decide +kernel
theorem dJ0_charAt_5068e_12 : decode cJ0_charAt_5068e 12 = .ok (.invokestatic 495, 3) := by decide +kernel
theorem dJ0_charAt_5068e_15 : decode cJ0_charAt_5068e 15 = .ok (.ireturn, 1) := by decide +kernel
theorem dJ0_charAt_5068e_16 : decode cJ0_charAt_5068e 16 = .ok (.aload_n 0, 1) := by decide +kernel
theorem dJ0_charAt_5068e_17 : decode cJ0_charAt_5068e 17 = .ok (.getfield 9, 3) := by decide +kernel
theorem dJ0_charAt_5068e_20 : decode cJ0_charAt_5068e 20 = .ok (.iload_n 1, 1) := by decide +kernel
theorem dJ0_charAt_5068e_21 : decode cJ0_charAt_5068e 21 = .ok (.invokestatic 498, 3) := by decide +kernel
theorem dJ0_charAt_5068e_24 : decode cJ0_charAt_5068e 24 = .ok (.ireturn, 1) := by decide +kernel
theorem dJ1_canEncode_9a6ad_0 : decode cJ1_canEncode_9a6ad 0 = .ok (.iload_n 0, 1) := by decide +kernel
theorem dJ1_canEncode_9a6ad_1 : decode cJ1_canEncode_9a6ad 1 = .ok (.ifCond .lt 14, 3) := by decide +kernel
theorem dJ1_canEncode_9a6ad_4 : decode cJ1_canEncode_9a6ad 4 = .ok (.iload_n 0, 1) := by decide +kernel
theorem dJ1_canEncode_9a6ad_5 : decode cJ1_canEncode_9a6ad 5 = .ok (.sipush 255, 3) := by decide +kernel
theorem dJ1_canEncode_9a6ad_8 : decode cJ1_canEncode_9a6ad 8 = .ok (.if_icmp .gt 7, 3) := by decide +kernel
theorem dJ1_canEncode_9a6ad_11 : decode cJ1_canEncode_9a6ad 11 = .ok (.iconst 1, 1) := by decide +kernel
theorem dJ1_canEncode_9a6ad_12 : decode cJ1_canEncode_9a6ad 12 = .ok (.goto 4, 3) := by decide +kernel
theorem dJ1_canEncode_9a6ad_15 : decode cJ1_canEncode_9a6ad 15 = .ok (.iconst 0, 1) := by decide +kernel
theorem dJ1_canEncode_9a6ad_16 : decode cJ1_canEncode_9a6ad 16 = .ok (.ireturn, 1) := by decide +kernel
theorem dJ1_indexOfChar_4cfef_0 : decode cJ1_indexOfChar_4cfef 0 = .ok (.iload_n 1, 1) := by decide +kernel
theorem dJ1_indexOfChar_4cfef_1 : decode cJ1_indexOfChar_4cfef 1 = .ok (.i2b, 1) := by decide +kernel
theorem dJ1_indexOfChar_4cfef_2 : decode cJ1_indexOfChar_4cfef 2 = .ok (.istore 4, 2) := by decide +kernel
theorem dJ1_indexOfChar_4cfef_4 : decode cJ1_indexOfChar_4cfef 4 = .ok (.iload_n 2, 1) := by decide +kernel
theorem dJ1_indexOfChar_4cfef_5 : decode cJ1_indexOfChar_4cfef 5 = .ok (.istore 5, 2) := by decide +kernel
theorem dJ1_indexOfChar_4cfef_7 : decode cJ1_indexOfChar_4cfef 7 = .ok (.iload 5, 2) := by decide +kernel
theorem dJ1_indexOfChar_4cfef_9 : decode cJ1_indexOfChar_4cfef 9 = .ok (.iload_n 3, 1) := by decide +kernel
theorem dJ1_indexOfChar_4cfef_10 : decode cJ1_indexOfChar_4cfef 10 = .ok (.if_icmp .ge 21, 3) := by decide +kernel
theorem dJ1_indexOfChar_4cfef_13 : decode cJ1_indexOfChar_4cfef 13 = .ok (.aload_n 0, 1) := by decide +kernel
theorem dJ1_indexOfChar_4cfef_14 : decode cJ1_indexOfChar_4cfef 14 = .ok (.iload 5, 2) := by decide +kernel
theorem dJ1_indexOfChar_4cfef_16 : decode cJ1_indexOfChar_4cfef 16 = .ok (.baload, 1) := by decide +kernel
theorem dJ1_indexOfChar_4cfef_17 : decode cJ1_indexOfChar_4cfef 17 = .ok (.iload 4, 2) := by decide +kernel
theorem dJ1_indexOfChar_4cfef_19 : decode cJ1_indexOfChar_4cfef 19 = .ok (.if_icmp .ne 6, 3) := by decide +kernel
theorem dJ1_indexOfChar_4cfef_22 : decode cJ1_indexOfChar_4cfef 22 = .ok (.iload 5, 2) := by decide +kernel
theorem dJ1_indexOfChar_4cfef_24 : decode cJ1_indexOfChar_4cfef 24 = .ok (.ireturn, 1) := by decide +kernel
theorem dJ1_indexOfChar_4cfef_25 : decode cJ1_indexOfChar_4cfef 25 = .ok (.iinc 5 1, 3) := by decide +kernel
theorem dJ1_indexOfChar_4cfef_28 : decode cJ1_indexOfChar_4cfef 28 = .ok (.goto (-21), 3) := by decide +kernel
theorem dJ1_indexOfChar_4cfef_31 : decode cJ1_indexOfChar_4cfef 31 = .ok (.iconst (-1), 1) := by decide +kernel
theorem dJ1_indexOfChar_4cfef_32 : decode cJ1_indexOfChar_4cfef 32 = .ok (.ireturn, 1) := by decide +kernel
theorem dJ1_indexOf_4cfef_0 : decode cJ1_indexOf_4cfef 0 = .ok (.iload_n 1, 1) := by decide +kernel
theorem dJ1_indexOf_4cfef_1 : decode cJ1_indexOf_4cfef 1 = .ok (.invokestatic 88, 3) := by decide +kernel
theorem dJ1_indexOf_4cfef_4 : decode cJ1_indexOf_4cfef 4 = .ok (.ifCond .ne 5, 3) := by decide +kernel
theorem dJ1_indexOf_4cfef_7 : decode cJ1_indexOf_4cfef 7 = .ok (.iconst (-1), 1) := by decide +kernel
theorem dJ1_indexOf_4cfef_8 : decode cJ1_indexOf_4cfef 8 = .ok (.ireturn, 1) := by decide +kernel
theorem dJ1_indexOf_4cfef_9 : decode cJ1_indexOf_4cfef 9 = .ok (.iload_n 2, 1) := by decide +kernel
theorem dJ1_indexOf_4cfef_10 : decode cJ1_indexOf_4cfef 10 = .ok (.iconst 0, 1) := by decide +kernel
theorem dJ1_indexOf_4cfef_11 : decode cJ1_indexOf_4cfef 11 = .ok (.invokestatic 92, 3) := by decide +kernel
theorem dJ1_indexOf_4cfef_14 : decode cJ1_indexOf_4cfef 14 = .ok (.istore_n 2, 1) := by decide +kernel
theorem dJ1_indexOf_4cfef_15 : decode cJ1_indexOf_4cfef 15 = .ok (.iload_n 3, 1) := by decide +kernel
theorem dJ1_indexOf_4cfef_16 : decode cJ1_indexOf_4cfef 16 = .ok (.aload_n 0, 1) := by decide +kernel
theorem dJ1_indexOf_4cfef_17 : decode cJ1_indexOf_4cfef 17 = .ok (.arraylength, 1) := by decide +kernel
theorem dJ1_indexOf_4cfef_18 : decode cJ1_indexOf_4cfef 18 = .ok (.invokestatic 38, 3) := by decide +kernel
theorem dJ1_indexOf_4cfef_21 : decode cJ1_indexOf_4cfef 21 = .ok (.istore_n 3, 1) := by decide +kernel
theorem dJ1_indexOf_4cfef_22 : decode cJ1_indexOf_4cfef 22 = .ok (.iload_n 2, 1) := by decide +kernel
theorem dJ1_indexOf_4cfef_23 : decode cJ1_indexOf_4cfef 23 = .ok (.iload_n 3, 1) := by decide +kernel
theorem dJ1_indexOf_4cfef_24 : decode cJ1_indexOf_4cfef 24 = .ok (.if_icmp .lt 5, 3) := by decide +kernel
theorem dJ1_indexOf_4cfef_27 : decode cJ1_indexOf_4cfef 27 = .ok (.iconst (-1), 1) := by decide +kernel
theorem dJ1_indexOf_4cfef_28 : decode cJ1_indexOf_4cfef 28 = .ok (.ireturn, 1) := by decide +kernel
theorem dJ1_indexOf_4cfef_29 : decode cJ1_indexOf_4cfef 29 = .ok (.aload_n 0, 1) := by decide +kernel
theorem dJ1_indexOf_4cfef_30 : decode cJ1_indexOf_4cfef 30 = .ok (.iload_n 1, 1) := by decide +kernel
theorem dJ1_indexOf_4cfef_31 : decode cJ1_indexOf_4cfef 31 = .ok (.iload_n 2, 1) := by decide +kernel
theorem dJ1_indexOf_4cfef_32 : decode cJ1_indexOf_4cfef 32 = .ok (.iload_n 3, 1) := by decide +kernel
theorem dJ1_indexOf_4cfef_33 : decode cJ1_indexOf_4cfef 33 = .ok (.invokestatic 95, 3) := by decide +kernel
theorem dJ1_indexOf_4cfef_36 : decode cJ1_indexOf_4cfef 36 = .ok (.ireturn, 1) := by decide +kernel
theorem dJ0_indexOf_7cf53_0 : decode cJ0_indexOf_7cf53 0 = .ok (.aload_n 0, 1) := by decide +kernel
theorem dJ0_indexOf_7cf53_1 : decode cJ0_indexOf_7cf53 1 = .ok (.invokevirtual 492, 3) := by decide +kernel
theorem dJ0_indexOf_7cf53_4 : decode cJ0_indexOf_7cf53 4 = .ok (.ifCond .eq 19, 3) := by decide +kernel
theorem dJ0_indexOf_7cf53_7 : decode cJ0_indexOf_7cf53 7 = .ok (.aload_n 0, 1) := by decide +kernel
theorem dJ0_indexOf_7cf53_8 : decode cJ0_indexOf_7cf53 8 = .ok (.getfield 9, 3) := by decide +kernel
theorem dJ0_indexOf_7cf53_11 : decode cJ0_indexOf_7cf53 11 = .ok (.iload_n 1, 1) := by decide +kernel
theorem dJ0_indexOf_7cf53_12 : decode cJ0_indexOf_7cf53 12 = .ok (.iload_n 2, 1) := by decide +kernel
theorem dJ0_indexOf_7cf53_13 : decode cJ0_indexOf_7cf53 13 = .ok (.aload_n 0, 1) := by decide +kernel
theorem dJ0_indexOf_7cf53_14 : decode cJ0_indexOf_7cf53 14 = .ok (.invokevirtual 505, 3) := by decide +kernel
theorem dJ0_indexOf_7cf53_17 : decode cJ0_indexOf_7cf53 17 = .ok (.invokestatic 637, 3) := by decide +kernel
theorem dJ0_indexOf_7cf53_20 : decode cJ0_indexOf_7cf53 20 = .ok (.goto 16, 3) := by decide +kernel
theorem dJ0_indexOf_7cf53_23 : decode cJ0_indexOf_7cf53 23 = .ok (.aload_n 0, 1) := by decide +kernel
theorem dJ0_indexOf_7cf53_24 : decode cJ0_indexOf_7cf53 24 = .ok (.getfield 9, 3) := by decide +kernel
theorem dJ0_indexOf_7cf53_27 : decode cJ0_indexOf_7cf53 27 = .ok (.iload_n 1, 1) := by decide +kernel
theorem dJ0_indexOf_7cf53_28 : decode cJ0_indexOf_7cf53 28 = .ok (.iload_n 2, 1) := by decide +kernel
theorem dJ0_indexOf_7cf53_29 : decode cJ0_indexOf_7cf53 29 = .ok (.aload_n 0, 1) := by decide +kernel
theorem dJ0_indexOf_7cf53_30 : decode cJ0_indexOf_7cf53 30 = .ok (.invokevirtual 505, 3) := by decide +kernel
theorem dJ0_indexOf_7cf53_33 : decode cJ0_indexOf_7cf53 33 = .ok (.invokestatic 640, 3) := by decide +kernel
theorem dJ0_indexOf_7cf53_36 : decode cJ0_indexOf_7cf53 36 = .ok (.ireturn, 1) := by decide +kernel
theorem dJ0_indexOf_0f7a4_0 : decode cJ0_indexOf_0f7a4 0 = .ok (.aload_n 0, 1) := by decide +kernel
theorem dJ0_indexOf_0f7a4_1 : decode cJ0_indexOf_0f7a4 1 = .ok (.iload_n 1, 1) := by decide +kernel
theorem dJ0_indexOf_0f7a4_2 : decode cJ0_indexOf_0f7a4 2 = .ok (.iconst 0, 1) := by decide +kernel
theorem dJ0_indexOf_0f7a4_3 : decode cJ0_indexOf_0f7a4 3 = .ok (.invokevirtual 633, 3) := by decide +kernel
theorem dJ0_indexOf_0f7a4_6 : decode cJ0_indexOf_0f7a4 6 = .ok (.ireturn, 1) := by decide +kernel
/-! the two constant texts, and the JDK's methods on them -/
def sl_len : List Nat := [116, 11]
def sl_byt : List (List Int32) := [[102, 111, 111, 100, 32, 109, 97, 112, 32, 112, 108, 97, 99, 101, 32, 108, 105, 107, 101, 115, 32, 98, 111, 114, 100, 101, 114, 32, 116, 97, 115, 116, 101, 32, 119, 105, 110, 116, 101, 114, 32, 100, 114, 97, 119, 32, 115, 99, 97, 108, 101, 32, 121, 101, 97, 114, 32, 101, 97, 116, 101, 110, 32, 99, 111, 108, 100, 32, 115, 105, 122, 101, 32, 119, 111, 114, 116, 104, 32, 104, 111, 108, 101, 115, 32, 104, 117, 110, 103, 101, 114, 32, 105, 110, 32, 102, 111, 108, 100, 101, 100, 32, 111, 110, 32, 111, 114, 32, 97, 110, 100, 32, 110, 111, 116, 32], [59, 40, 41, 60, 62, 61, 43, 45, 42, 47, 37]]
def st_A : Nat → Prop := fun _ => False
def st_S (adK adV : Nat → Nat) (A : Nat → Prop) (U : State) (H : Heap) : Prop := vk_S 2 sl_len sl_byt adK adV A U H ∧ va_Z "java/lang/String" "COMPACT_STRINGS" "Z" (.int 1) A U H ∧ va_Zq "jdk/internal/util/Preconditions" "SIOOBE_FORMATTER" "Ljava/util/function/BiFunction;" A U H
theorem st_S.moved {adK adV : Nat → Nat} {A : Nat → Prop} {u U : State} {H : Heap} (hv : u.vm.Alike U.vm) (h : st_S adK adV A u H) : st_S adK adV A U H := ⟨h.1.moved hv, va_Z.moved hv h.2.1, va_Zq.moved hv h.2.2⟩
theorem st_S.kept {adK adV : Nat → Nat} {A : Nat → Prop} {U : State} {H H1 : Heap} (h : st_S adK adV A U H) (hq : ∀ a : Nat, a < H.size → ¬ A a → H1[a]? = H[a]?) : st_S adK adV A U H1 := ⟨h.1.kept hq, h.2.1.kept hq, h.2.2.kept hq⟩
theorem st_S.narrow {adK adV : Nat → Nat} {A B : Nat → Prop} {U : State} {H : Heap} (h : st_S adK adV A U H) (hAB : ∀ q, B q → A q) : st_S adK adV B U H := ⟨h.1.narrow hAB, h.2.1.narrow hAB, h.2.2.narrow hAB⟩
def th_QJ (post : Option Value → Prop) : Array Value → State → Outcome → State → Prop := fun _ st oc t => (∃ v : Option Value, oc = .returned v ∧ post v) ∧ va_F st_A st t
def th_MetJ (l : Launch) (adK adV : Nat → Nat) (y : MethodName) (bytes : ByteArray) (maxL : Nat) (ret : Option FieldType) (rm : Room) (vs : List Value) (post : Option Value → Prop) : Prop :=
  Met l y (Cond.code y bytes maxL ret :: gw) rm (va_Pc vs (fun U => st_S adK adV st_A U U.heap)) (th_QJ post) 0 0 st_A
theorem th_blindJ {adK adV : Nat → Nat} {vs : List Value} : FrameBlind (va_Pc vs (fun U => st_S adK adV st_A U U.heap)) :=
  fun a U g mk h => ⟨h.1, st_S.moved (u := U) (U := U.calling g mk a) (Vm.Alike.refl U.vm) h.2⟩
section STJ
variable {p : Program} {l : Launch} {e : Env} {R : Room} {s : State} {m : MethodId} {args : Array Value} {below : List Frame} {meth : Method} {c : Code} {H : Heap} {locs : List Loc} {cells slots : Nat} {Q : State → Prop}
variable {cc bytes : ByteArray} {pc nL maxL n index i : Nat} {ls : Array Slot} {rest st0 As vs : List Value} {adK adV : Nat → Nat} {A : Nat → Prop} {own : String} {y : MethodName} {ret : Option FieldType} {rm : Room} {post : Option Value → Prop}
theorem th_startJ (hy : plainName y.cls = true) (hlen : (lg_sl vs).length ≤ maxL)
    (body : ∀ (p : Program) (e : Env) (s : State) (m : MethodId) (below : List Frame) (meth : Method) (c : Code) (ls : Array Slot), CallFix p m c bytes maxL s vs.toArray gw y.cls → st_S adK adV st_A s s.heap → va_S st_A s.heap s.heap [] → meth.sig.returnType = ret → meth.locks = false → lv_has ls maxL (lv_args 0 vs) →
      W p l e rm s m vs.toArray below meth c s.heap [] 0 0 (MQ below (th_QJ post) vs.toArray s 0 0 st_A) (F0 m 0 ls [])) : th_MetJ l adK adV y bytes maxL ret rm vs post := by
  refine Met.ofW (cc := bytes) (maxL := maxL) (ret := ret) hy rfl ?_
  intro p e s m args below meth c s₁ B hml hv
  obtain ⟨rfl, hE⟩ := hv
  have hts := atoms_spec (ws := Cond.code y bytes maxL ret :: gw) B.pre
  rw [lg_entry_eq]
  exact body p e s m below meth c _ ⟨B.exec, B.bytes, hml, findClass_of_methodNamed B.named, fun w hw => hts w (List.mem_cons_of_mem _ hw)⟩ hE va_S.rf B.returns B.notSynchronized (lv_entry vs hlen)
theorem th_iretJ (S : CallFix p m c cc nL s args gw own) (hS : va_S st_A s.heap H locs) {ty : FieldType} {v : Int32} (hr : meth.sig.returnType = some ty) (hn : narrow ty (.int v) = .int v) (hlocks : meth.locks = false) (hp : post (some (.int v))) (hdg : decode cc pc = .ok (.ireturn, 1)) : W p l e R s m args below meth c H locs 0 0 (MQ below (th_QJ post) args s 0 0 st_A) (F0 m pc ls [.int v]) :=
  W.zret S.1 S.2.1 hr hn (fun _ ht _ => ⟨⟨_, rfl, hp⟩, hS.F ht⟩) hS.2.2 hdg hlocks
theorem th_vretJ (S : CallFix p m c cc nL s args gw own) (hS : va_S st_A s.heap H locs) (hr : meth.sig.returnType = none) (hlocks : meth.locks = false) (hp : post none) (hdg : decode cc pc = .ok (.return_, 1)) : W p l e R s m args below meth c H locs 0 0 (MQ below (th_QJ post) args s 0 0 st_A) (F0 m pc ls []) :=
  W.vret S.1 S.2.1 hr (fun _ ht _ => ⟨⟨_, rfl, hp⟩, hS.F ht⟩) hS.2.2 hdg hlocks
theorem th_backJ {H0 : Heap} {a : Array Value} (hr : va_Run p l e R s m args below meth c H locs cells slots 0 0 (F0 m pc ls st0) rest (th_QJ post a) st_A) (hS : va_S A H0 H locs)
    (kk : ∀ (v : Option Value) (H1 : Heap) (locs1 : List Loc), post v → va_S A H0 H1 locs1 → (∀ q : Nat, q < H.size → H1[q]? = H[q]?) → W p l e R s m args below meth c H1 locs1 cells slots Q (F0 m (pc + 3) ls (v.toList ++ rest))) : W p l e R s m args below meth c H locs cells slots Q (F0 m pc ls st0) := by
  intro T0 hT X
  obtain ⟨v, st₀, t, T', L, h0, X', hL, e1, e2, ⟨⟨v2, hv, hp⟩, hz, hk⟩, st⟩ := hr T0 hT X
  cases hv
  rw [h0] at hz hk
  obtain ⟨t2, a1, b1⟩ := kk v T'.heap (locs ++ L) hp ⟨Nat.le_trans hS.1 (by rw [e1]; exact hz), fun q h1 h2 => by rw [e1, hk q (Nat.lt_of_lt_of_le h1 hS.1) (fun z => z)]; exact hS.2.1 q h1 h2, fun q hq => by
      rcases List.mem_append.mp hq with h | h
      · exact hS.2.2 q h
      · exact (hL q h).elim⟩ (fun q h1 => by rw [e1]; exact hk q h1 (fun z => z)) T' rfl X'
  exact ⟨t2, st t2 a1, b1⟩
theorem th_preJ (hE : st_S adK adV A s s.heap) (hS : va_S A s.heap H locs) : ∀ U : State, U.heap = H → s.WarmedH U.vm → va_Pc vs (fun U => st_S adK adV st_A U U.heap) vs.toArray U :=
  fun U hU hW => ⟨rfl, by show st_S adK adV st_A U U.heap; rw [hU]; exact ((hE.kept hS.2.1).moved hW.alike).narrow (fun _ z => z.elim)⟩
theorem th_callVJ (S : CallFix p m c cc nL s args gw own) (hE : st_S adK adV A s s.heap) (hS : va_S A s.heap H locs) (hi : i < 2) (hM : th_MetJ l adK adV y bytes maxL ret rm (.ref (adK i) :: As) post)
    (hcode : Cond.code y bytes maxL ret ∈ gw) (hlink : Cond.methodLink own index y ∈ gw) (hinst : Cond.instanceMethod y ∈ gw) (hsel : Cond.selects "java/lang/String" y y ∈ gw) (hini : Cond.initialized y.cls ∈ gw)
    (hd : y.cls ≠ "java/lang/invoke/MethodHandle" ∧ y.cls ≠ "java/lang/invoke/VarHandle" ∧ (parseMethodDescriptor y.desc).map (fun d => d.parameters.length) = some n) (hR : rm.cells = 0 ∧ rm.slots = 0 ∧ rm.frames + 1 ≤ R.frames ∧ 8 + (maxL + 11) + rm.locals ≤ R.locals)
    (hn : As.length = n) (hl : ls.size = nL) (hst : st0 = As.reverse ++ .ref (adK i) :: rest) (hrest : (rest.map fun v => v.category).sum ≤ 8) (hdg : decode cc pc = .ok (.invokevirtual index, 3)) (hcs : cells ≤ R.cells ∧ slots ≤ R.slots)
    (kk : ∀ (v : Option Value) (H1 : Heap) (locs1 : List Loc), post v → va_S A s.heap H1 locs1 → (∀ q : Nat, q < H.size → H1[q]? = H[q]?) → W p l e R s m args below meth c H1 locs1 cells slots Q (F0 m (pc + 3) ls (v.toList ++ rest))) : W p l e R s m args below meth c H locs cells slots Q (F0 m pc ls st0) := by
  have hts := S.2.2.2.2
  exact th_backJ (va_runV (As := As) (rest := rest) S hM ⟨th_callB S hcode hlink hini hd hR, hts _ hinst, hts _ hsel⟩ ⟨th_blindJ, vk_recv hE.1 hi hS, th_preJ hE hS⟩ rfl hn hl (by rw [hst]) (lv_room hrest) hdg hcs) hS kk
theorem th_callSJ (S : CallFix p m c cc nL s args gw own) (hE : st_S adK adV A s s.heap) (hS : va_S A s.heap H locs) (hM : th_MetJ l adK adV y bytes maxL ret rm As post)
    (hcode : Cond.code y bytes maxL ret ∈ gw) (hlink : Cond.methodLink own index y ∈ gw) (hstat : Cond.static y ∈ gw) (hini : Cond.initialized y.cls ∈ gw)
    (hd : y.cls ≠ "java/lang/invoke/MethodHandle" ∧ y.cls ≠ "java/lang/invoke/VarHandle" ∧ (parseMethodDescriptor y.desc).map (fun d => d.parameters.length) = some n) (hR : rm.cells = 0 ∧ rm.slots = 0 ∧ rm.frames + 1 ≤ R.frames ∧ 8 + (maxL + 11) + rm.locals ≤ R.locals)
    (hn : As.length = n) (hl : ls.size = nL) (hst : st0 = As.reverse ++ rest) (hrest : (rest.map fun v => v.category).sum ≤ 8) (hdg : decode cc pc = .ok (.invokestatic index, 3)) (hcs : cells ≤ R.cells ∧ slots ≤ R.slots)
    (kk : ∀ (v : Option Value) (H1 : Heap) (locs1 : List Loc), post v → va_S A s.heap H1 locs1 → (∀ q : Nat, q < H.size → H1[q]? = H[q]?) → W p l e R s m args below meth c H1 locs1 cells slots Q (F0 m (pc + 3) ls (v.toList ++ rest))) : W p l e R s m args below meth c H locs cells slots Q (F0 m pc ls st0) := by
  have hts := S.2.2.2.2
  exact th_backJ (va_runS (As := As) (rest := rest) S hM ⟨th_callB S hcode hlink hini hd hR, hts _ hstat⟩ ⟨th_blindJ, th_preJ hE hS⟩ rfl hn hl (by rw [hst]) (lv_room hrest) hdg hcs) hS kk
end STJ
def ti_J (lo hi : Int) (v : Option Value) : Prop := ∃ r : Int32, v = some (.int r) ∧ IV r lo hi
theorem sl_lt : ∀ i, i < 2 → sl_len.getD i 0 < 200 := by decide
theorem nar_c {r : Int32} (h : IV r 0 255) : ∃ b : Int32, r = b &&& 255 := by
  obtain ⟨h1, h2⟩ := h
  obtain ⟨n, hn⟩ : ∃ n : Nat, (n : Int) = r.toInt := ⟨r.toInt.toNat, by omega⟩
  have hr : r = nI n := Int32.toInt_inj.mp (by rw [nI_toInt (by omega)]; exact hn.symm)
  have hl : n < 256 := by omega
  rw [hr]
  have : ∀ n, n < 256 → nI n = nI n &&& 255 := by decide +kernel
  exact ⟨nI n, this n hl⟩
set_option maxRecDepth 100000 in
theorem s_J0_coder_7d493 (l : Launch) (adK adV : Nat → Nat) (i : Nat) (hi : i < 2) : th_MetJ l adK adV yJ0_coder_7d493 cJ0_coder_7d493 1 (some .byte) (rmk 0 0) [.ref (adK i)] (fun v => v = some (.int 0)) := by
  refine th_startJ (by decide) (Nat.le_of_ble_eq_true rfl) ?_
  intro p e s m below meth c ls S hE hS hr hlocks hl
  have hx := S.1; have hb := S.2.1; have hown := S.2.2.2.1; have hts := S.2.2.2.2
  have hl : lv_has ls 1 [(0, .ref (adK i))] := hl
  refine va_gets hx hb hE.2.1 hS hown (hts _ gm_580) (fun _ h => h) dJ0_coder_7d493_0 ?_
  refine lv_if_eq (tgt := 13) hx hb dJ0_coder_7d493_3 (by decide) (fun c1 => absurd c1 (by decide)) (fun c1 => ?_)
  refine lv_aload_n hx hb dJ0_coder_7d493_6 rfl (lv_at hl 0 rfl) ?_
  refine vk_getf hx hb (hE.1.1 i hi).2.1 hS hown (hts _ gm_1922) (fun _ h => h) dJ0_coder_7d493_7 ?_
  refine lv_goto (tgt := 14) hx hb dJ0_coder_7d493_10 (by decide) ?_
  exact th_iretJ S hS hr rfl hlocks rfl dJ0_coder_7d493_14

set_option maxRecDepth 100000 in
theorem s_J0_isLatin1_aae02 (l : Launch) (adK adV : Nat → Nat) (i : Nat) (hi : i < 2) : th_MetJ l adK adV yJ0_isLatin1_aae02 cJ0_isLatin1_aae02 1 (some .boolean) (rmk 0 0) [.ref (adK i)] (fun v => v = some (.int 1)) := by
  refine th_startJ (by decide) (Nat.le_of_ble_eq_true rfl) ?_
  intro p e s m below meth c ls S hE hS hr hlocks hl
  have hx := S.1; have hb := S.2.1; have hown := S.2.2.2.1; have hts := S.2.2.2.2
  have hl : lv_has ls 1 [(0, .ref (adK i))] := hl
  refine va_gets hx hb hE.2.1 hS hown (hts _ gm_580) (fun _ h => h) dJ0_isLatin1_aae02_0 ?_
  refine lv_if_eq (tgt := 17) hx hb dJ0_isLatin1_aae02_3 (by decide) (fun c1 => absurd c1 (by decide)) (fun c1 => ?_)
  refine lv_aload_n hx hb dJ0_isLatin1_aae02_6 rfl (lv_at hl 0 rfl) ?_
  refine vk_getf hx hb (hE.1.1 i hi).2.1 hS hown (hts _ gm_1922) (fun _ h => h) dJ0_isLatin1_aae02_7 ?_
  refine lv_if_ne (tgt := 17) hx hb dJ0_isLatin1_aae02_10 (by decide) (fun c2 => absurd rfl c2) (fun c2 => ?_)
  refine lv_iconst (v := 1) hx hb dJ0_isLatin1_aae02_13 (by decide) ?_
  refine lv_goto (tgt := 18) hx hb dJ0_isLatin1_aae02_14 (by decide) ?_
  exact th_iretJ S hS hr rfl hlocks rfl dJ0_isLatin1_aae02_18

theorem sl_shr : ∀ i, i < 2 → nI (sl_len.getD i 0) >>> ((0 : Int32) &&& 31) = nI (sl_len.getD i 0) := by decide
set_option maxRecDepth 100000 in
theorem s_J0_length_8abf5 (l : Launch) (adK adV : Nat → Nat) (i : Nat) (hi : i < 2) : th_MetJ l adK adV yJ0_length_8abf5 cJ0_length_8abf5 1 (some .int) (rmk 1 20) [.ref (adK i)] (fun v => v = some (.int (nI (sl_len.getD i 0)))) := by
  refine th_startJ (by decide) (Nat.le_of_ble_eq_true rfl) ?_
  intro p e s m below meth c ls S hE hS hr hlocks hl
  have hx := S.1; have hb := S.2.1; have hown := S.2.2.2.1; have hts := S.2.2.2.2
  have hl : lv_has ls 1 [(0, .ref (adK i))] := hl
  refine lv_aload_n hx hb dJ0_length_8abf5_0 rfl (lv_at hl 0 rfl) ?_
  refine vk_getf hx hb (hE.1.1 i hi).2.2.1 hS hown (hts _ gm_1921) (fun _ h => h) dJ0_length_8abf5_1 ?_
  refine va_tlen hx hb (hE.1.1 i hi).2.2.2 hS rfl dJ0_length_8abf5_4 ?_
  refine lv_aload_n hx hb dJ0_length_8abf5_5 rfl (lv_at hl 0 rfl) ?_
  refine th_callVJ (n := 0) (i := i) (As := []) S hE hS hi (s_J0_coder_7d493 l adK adV i hi) gm_579 gm_576 gm_577 gm_578 gm_125 (by decide +kernel) ⟨rfl, rfl, Nat.le_of_ble_eq_true rfl, Nat.le_of_ble_eq_true rfl⟩ rfl hl.1 rfl (Nat.le_of_ble_eq_true rfl) dJ0_length_8abf5_6 ⟨Nat.zero_le _, Nat.zero_le _⟩ (fun v H locs hv hS hk => ?_)
  subst hv
  refine lv_ishr hx hb dJ0_length_8abf5_9 ?_
  refine lv_topi (fun r er => ?_)
  have er2 : r = nI (sl_len.getD i 0) := er.trans (sl_shr i hi)
  rw [er2]
  exact th_iretJ S hS hr rfl hlocks rfl dJ0_length_8abf5_10

set_option maxRecDepth 100000 in
theorem s_J3_checkIndex_8e157_n (l : Launch) (adK adV : Nat → Nat) (x y : Int32) (h0 : ¬ x < 0) (h1 : x < y) : th_MetJ l adK adV yJ3_checkIndex_8e157 cJ3_checkIndex_8e157 3 (some .int) (rmk 0 0) [.int x, .int y, .null] (fun v => v = some (.int x)) := by
  refine th_startJ (by decide) (Nat.le_of_ble_eq_true rfl) ?_
  intro p e s m below meth c ls S hE hS hr hlocks hl
  have hx := S.1; have hb := S.2.1; have hown := S.2.2.2.1; have hts := S.2.2.2.2
  have hl : lv_has ls 3 [(0, .int x), (1, .int y), (2, .null)] := hl
  refine lv_iload_n hx hb dJ3_checkIndex_8e157_0 rfl (lv_at hl 0 rfl) ?_
  refine lv_if_lt (tgt := 9) hx hb dJ3_checkIndex_8e157_1 (by decide) (fun c1 => absurd c1 h0) (fun c1 => ?_)
  refine lv_iload_n hx hb dJ3_checkIndex_8e157_4 rfl (lv_at hl 0 rfl) ?_
  refine lv_iload_n hx hb dJ3_checkIndex_8e157_5 rfl (lv_at hl 1 rfl) ?_
  refine lv_icmp_lt (tgt := 16) hx hb dJ3_checkIndex_8e157_6 (by decide) (fun c2 => ?_) (fun c2 => absurd h1 c2)
  refine lv_iload_n hx hb dJ3_checkIndex_8e157_16 rfl (lv_at hl 0 rfl) ?_
  exact th_iretJ S hS hr rfl hlocks rfl dJ3_checkIndex_8e157_17

set_option maxRecDepth 100000 in
theorem s_J3_checkIndex_8e157_r (l : Launch) (adK adV : Nat → Nat) (x y : Int32) (t : Nat) (h0 : ¬ x < 0) (h1 : x < y) : th_MetJ l adK adV yJ3_checkIndex_8e157 cJ3_checkIndex_8e157 3 (some .int) (rmk 0 0) [.int x, .int y, .ref t] (fun v => v = some (.int x)) := by
  refine th_startJ (by decide) (Nat.le_of_ble_eq_true rfl) ?_
  intro p e s m below meth c ls S hE hS hr hlocks hl
  have hx := S.1; have hb := S.2.1; have hown := S.2.2.2.1; have hts := S.2.2.2.2
  have hl : lv_has ls 3 [(0, .int x), (1, .int y), (2, .ref t)] := hl
  refine lv_iload_n hx hb dJ3_checkIndex_8e157_0 rfl (lv_at hl 0 rfl) ?_
  refine lv_if_lt (tgt := 9) hx hb dJ3_checkIndex_8e157_1 (by decide) (fun c1 => absurd c1 h0) (fun c1 => ?_)
  refine lv_iload_n hx hb dJ3_checkIndex_8e157_4 rfl (lv_at hl 0 rfl) ?_
  refine lv_iload_n hx hb dJ3_checkIndex_8e157_5 rfl (lv_at hl 1 rfl) ?_
  refine lv_icmp_lt (tgt := 16) hx hb dJ3_checkIndex_8e157_6 (by decide) (fun c2 => ?_) (fun c2 => absurd h1 c2)
  refine lv_iload_n hx hb dJ3_checkIndex_8e157_16 rfl (lv_at hl 0 rfl) ?_
  exact th_iretJ S hS hr rfl hlocks rfl dJ3_checkIndex_8e157_17

set_option maxRecDepth 100000 in
theorem s_J0_checkIndex_df160 (l : Launch) (adK adV : Nat → Nat) (x y : Int32) (h0 : ¬ x < 0) (h1 : x < y) : th_MetJ l adK adV yJ0_checkIndex_df160 cJ0_checkIndex_df160 2 none (rmk 1 22) [.int x, .int y] (fun v => v = none) := by
  refine th_startJ (by decide) (Nat.le_of_ble_eq_true rfl) ?_
  intro p e s m below meth c ls S hE hS hr hlocks hl
  have hx := S.1; have hb := S.2.1; have hown := S.2.2.2.1; have hts := S.2.2.2.2
  have hl : lv_has ls 2 [(0, .int x), (1, .int y)] := hl
  refine lv_iload_n hx hb dJ0_checkIndex_df160_0 rfl (lv_at hl 0 rfl) ?_
  refine lv_iload_n hx hb dJ0_checkIndex_df160_1 rfl (lv_at hl 1 rfl) ?_
  rcases hE.2.2 with hz | ⟨t, hz⟩
  · skip
    refine va_gets hx hb hz hS hown (hts _ gm_596) (fun _ h => h) dJ0_checkIndex_df160_2 ?_
    refine th_callSJ (n := 3) (As := [.int x, .int y, .null]) S hE hS (s_J3_checkIndex_8e157_n l adK adV x y h0 h1) gm_600 gm_598 gm_599 gm_127 (by decide +kernel) ⟨rfl, rfl, Nat.le_of_ble_eq_true rfl, Nat.le_of_ble_eq_true rfl⟩ rfl hl.1 rfl (Nat.le_of_ble_eq_true rfl) dJ0_checkIndex_df160_5 ⟨Nat.zero_le _, Nat.zero_le _⟩ (fun v H locs hv hS hk => ?_)
    subst hv
    refine lv_pop hx hb dJ0_checkIndex_df160_8 rfl ?_
    exact th_vretJ S hS hr hlocks rfl dJ0_checkIndex_df160_9
  · skip
    refine va_gets hx hb hz hS hown (hts _ gm_596) (fun _ h => h) dJ0_checkIndex_df160_2 ?_
    refine th_callSJ (n := 3) (As := [.int x, .int y, .ref t]) S hE hS (s_J3_checkIndex_8e157_r l adK adV x y t h0 h1) gm_600 gm_598 gm_599 gm_127 (by decide +kernel) ⟨rfl, rfl, Nat.le_of_ble_eq_true rfl, Nat.le_of_ble_eq_true rfl⟩ rfl hl.1 rfl (Nat.le_of_ble_eq_true rfl) dJ0_checkIndex_df160_5 ⟨Nat.zero_le _, Nat.zero_le _⟩ (fun v H locs hv hS hk => ?_)
    subst hv
    refine lv_pop hx hb dJ0_checkIndex_df160_8 rfl ?_
    exact th_vretJ S hS hr hlocks rfl dJ0_checkIndex_df160_9

set_option maxRecDepth 100000 in
theorem s_J1_charAt_3b067 (l : Launch) (adK adV : Nat → Nat) (i : Nat) (hi : i < 2) (x : Int32) (h0 : ¬ x < 0) (h1 : x < nI (sl_len.getD i 0)) (hin : vp_in x (sl_len.getD i 0)) : th_MetJ l adK adV yJ1_charAt_3b067 cJ1_charAt_3b067 2 (some .char) (rmk 2 43) [.ref (adV i), .int x] (ti_J 0 255) := by
  refine th_startJ (by decide) (Nat.le_of_ble_eq_true rfl) ?_
  intro p e s m below meth c ls S hE hS hr hlocks hl
  have hx := S.1; have hb := S.2.1; have hown := S.2.2.2.1; have hts := S.2.2.2.2
  have hl : lv_has ls 2 [(0, .ref (adV i)), (1, .int x)] := hl
  refine lv_iload_n hx hb dJ1_charAt_3b067_0 rfl (lv_at hl 1 rfl) ?_
  refine lv_aload_n hx hb dJ1_charAt_3b067_1 rfl (lv_at hl 0 rfl) ?_
  refine va_tlen (v := nI (sl_len.getD i 0)) hx hb (hE.1.1 i hi).2.2.2 hS rfl dJ1_charAt_3b067_2 ?_
  refine th_callSJ (n := 2) (As := [.int x, .int (nI (sl_len.getD i 0))]) S hE hS (s_J0_checkIndex_df160 l adK adV x (nI (sl_len.getD i 0)) h0 h1) gm_595 gm_593 gm_594 gm_125 (by decide +kernel) ⟨rfl, rfl, Nat.le_of_ble_eq_true rfl, Nat.le_of_ble_eq_true rfl⟩ rfl hl.1 rfl (Nat.le_of_ble_eq_true rfl) dJ1_charAt_3b067_3 ⟨Nat.zero_le _, Nat.zero_le _⟩ (fun v H locs hv hS hk => ?_)
  subst hv
  refine lv_aload_n hx hb dJ1_charAt_3b067_6 rfl (lv_at hl 0 rfl) ?_
  refine lv_iload_n hx hb dJ1_charAt_3b067_7 rfl (lv_at hl 1 rfl) ?_
  refine va_tb hx hb (hE.1.1 i hi).2.2.2 hS hin rfl dJ1_charAt_3b067_8 ?_
  refine lv_sipush (v := 255) hx hb dJ1_charAt_3b067_9 (by decide) ?_
  refine lv_iand hx hb dJ1_charAt_3b067_12 ?_
  refine lv_topi (fun b eb => ?_)
  refine lv_i2c (v := b) hx hb dJ1_charAt_3b067_13 (by rw [eb]; exact sc_c2 _) ?_
  exact th_iretJ S hS hr (by rw [eb]; exact sc_nar _) hlocks ⟨b, rfl, by rw [eb]; exact iv_and (h2 := 255) (iv_c (by decide)) (by decide)⟩ dJ1_charAt_3b067_14

set_option maxRecDepth 100000 in
theorem s_J0_charAt_5068e (l : Launch) (adK adV : Nat → Nat) (i : Nat) (hi : i < 2) (x : Int32) (h0 : ¬ x < 0) (h1 : x < nI (sl_len.getD i 0)) (hin : vp_in x (sl_len.getD i 0)) : th_MetJ l adK adV yJ0_charAt_5068e cJ0_charAt_5068e 2 (some .char) (rmk 3 64) [.ref (adK i), .int x] (ti_J 0 255) := by
  refine th_startJ (by decide) (Nat.le_of_ble_eq_true rfl) ?_
  intro p e s m below meth c ls S hE hS hr hlocks hl
  have hx := S.1; have hb := S.2.1; have hown := S.2.2.2.1; have hts := S.2.2.2.2
  have hl : lv_has ls 2 [(0, .ref (adK i)), (1, .int x)] := hl
  refine lv_aload_n hx hb dJ0_charAt_5068e_0 rfl (lv_at hl 0 rfl) ?_
  refine th_callVJ (n := 0) (i := i) (As := []) S hE hS hi (s_J0_isLatin1_aae02 l adK adV i hi) gm_589 gm_586 gm_587 gm_588 gm_125 (by decide +kernel) ⟨rfl, rfl, Nat.le_of_ble_eq_true rfl, Nat.le_of_ble_eq_true rfl⟩ rfl hl.1 rfl (Nat.le_of_ble_eq_true rfl) dJ0_charAt_5068e_1 ⟨Nat.zero_le _, Nat.zero_le _⟩ (fun v H locs hv hS hk => ?_)
  subst hv
  refine lv_if_eq (tgt := 16) hx hb dJ0_charAt_5068e_4 (by decide) (fun c1 => absurd c1 (by decide)) (fun c1 => ?_)
  refine lv_aload_n hx hb dJ0_charAt_5068e_7 rfl (lv_at hl 0 rfl) ?_
  refine vk_getf hx hb (hE.1.1 i hi).2.2.1 hS hown (hts _ gm_1921) (fun _ h => h) dJ0_charAt_5068e_8 ?_
  refine lv_iload_n hx hb dJ0_charAt_5068e_11 rfl (lv_at hl 1 rfl) ?_
  refine th_callSJ (n := 2) (As := [.ref (adV i), .int x]) S hE hS (s_J1_charAt_3b067 l adK adV i hi x h0 h1 hin) gm_592 gm_590 gm_591 gm_126 (by decide +kernel) ⟨rfl, rfl, Nat.le_of_ble_eq_true rfl, Nat.le_of_ble_eq_true rfl⟩ rfl hl.1 rfl (Nat.le_of_ble_eq_true rfl) dJ0_charAt_5068e_12 ⟨Nat.zero_le _, Nat.zero_le _⟩ (fun v H locs hv hS hk => ?_)
  obtain ⟨r, rfl, hr2⟩ := hv
  exact th_iretJ S hS hr (by obtain ⟨b, hb2⟩ := nar_c hr2; rw [hb2]; exact sc_nar b) hlocks ⟨r, rfl, hr2⟩ dJ0_charAt_5068e_15

set_option maxRecDepth 100000 in
theorem s_J1_canEncode_9a6ad (l : Launch) (adK adV : Nat → Nat) (x : Int32) : th_MetJ l adK adV yJ1_canEncode_9a6ad cJ1_canEncode_9a6ad 1 (some .boolean) (rmk 0 0) [.int x] (ti_J 0 1) := by
  refine th_startJ (by decide) (Nat.le_of_ble_eq_true rfl) ?_
  intro p e s m below meth c ls S hE hS hr hlocks hl
  have hx := S.1; have hb := S.2.1; have hown := S.2.2.2.1; have hts := S.2.2.2.2
  have hl : lv_has ls 1 [(0, .int x)] := hl
  have k0 : W p l e (rmk 0 0) s m [.int x].toArray below meth c s.heap [] 0 0 (MQ below (th_QJ (ti_J 0 1)) [.int x].toArray s 0 0 st_A) (F0 m 15 ls []) := by
    refine lv_iconst (v := 0) hx hb dJ1_canEncode_9a6ad_15 (by decide) ?_
    exact th_iretJ S hS hr rfl hlocks ⟨0, rfl, by decide, by decide⟩ dJ1_canEncode_9a6ad_16
  refine lv_iload_n hx hb dJ1_canEncode_9a6ad_0 rfl (lv_at hl 0 rfl) ?_
  refine lv_if_lt (tgt := 15) hx hb dJ1_canEncode_9a6ad_1 (by decide) (fun c1 => k0) (fun c1 => ?_)
  refine lv_iload_n hx hb dJ1_canEncode_9a6ad_4 rfl (lv_at hl 0 rfl) ?_
  refine lv_sipush (v := 255) hx hb dJ1_canEncode_9a6ad_5 (by decide) ?_
  refine lv_icmp_gt (tgt := 15) hx hb dJ1_canEncode_9a6ad_8 (by decide) (fun c2 => k0) (fun c2 => ?_)
  refine lv_iconst (v := 1) hx hb dJ1_canEncode_9a6ad_11 (by decide) ?_
  refine lv_goto (tgt := 16) hx hb dJ1_canEncode_9a6ad_12 (by decide) ?_
  exact th_iretJ S hS hr rfl hlocks ⟨1, rfl, by decide, by decide⟩ dJ1_canEncode_9a6ad_16

set_option maxRecDepth 100000 in
theorem s_J1_indexOfChar_4cfef (l : Launch) (adK adV : Nat → Nat) (i : Nat) (hi : i < 2) (x y z : Int32) (hy : 0 ≤ y.toInt) (hz : z.toInt ≤ sl_len.getD i 0) : th_MetJ l adK adV yJ1_indexOfChar_4cfef cJ1_indexOfChar_4cfef 6 (some .int) (rmk 0 0) [.ref (adV i), .int x, .int y, .int z] (ti_J (-2147483648) 2147483647) := by
  refine th_startJ (by decide) (Nat.le_of_ble_eq_true rfl) ?_
  intro p e s m below meth c ls S hE hS hr hlocks hl
  have hx := S.1; have hb := S.2.1; have hown := S.2.2.2.1; have hts := S.2.2.2.2
  have hl : lv_has ls 6 [(0, .ref (adV i)), (1, .int x), (2, .int y), (3, .int z)] := hl
  refine lv_iload_n hx hb dJ1_indexOfChar_4cfef_0 rfl (lv_at hl 1 rfl) ?_
  refine lv_i2b hx hb dJ1_indexOfChar_4cfef_1 rfl ?_
  refine lv_topi (fun b eb => ?_)
  refine lv_istore (lv' := [(4, .int b), (0, .ref (adV i)), (1, .int x), (2, .int y), (3, .int z)]) hx hb dJ1_indexOfChar_4cfef_2 hl (by decide) rfl (fun ls hl => ?_)
  refine lv_iload_n hx hb dJ1_indexOfChar_4cfef_4 rfl (lv_at hl 3 rfl) ?_
  refine lv_istore (lv' := [(5, .int y), (4, .int b), (0, .ref (adV i)), (1, .int x), (2, .int y), (3, .int z)]) hx hb dJ1_indexOfChar_4cfef_5 hl (by decide) rfl (fun ls hl => ?_)
  have loop : ∀ (n : Nat) (w : Int32) (ls : Array Slot), 0 ≤ w.toInt → (z.toInt - w.toInt).toNat < n → lv_has ls 6 [(5, .int w), (4, .int b), (0, .ref (adV i)), (1, .int x), (2, .int y), (3, .int z)] → W p l e (rmk 0 0) s m [.ref (adV i), .int x, .int y, .int z].toArray below meth c s.heap [] 0 0 (MQ below (th_QJ (ti_J (-2147483648) 2147483647)) [.ref (adV i), .int x, .int y, .int z].toArray s 0 0 st_A) (F0 m 7 ls []) := by
    intro n
    induction n with
    | zero => intro w ls _ h; exact absurd h (Nat.not_lt_zero _)
    | succ n ih =>
      intro w ls hw hn hl
      refine lv_iload hx hb dJ1_indexOfChar_4cfef_7 (lv_at hl 0 rfl) ?_
      refine lv_iload_n hx hb dJ1_indexOfChar_4cfef_9 rfl (lv_at hl 5 rfl) ?_
      refine lv_icmp_ge (tgt := 31) hx hb dJ1_indexOfChar_4cfef_10 (by decide) (fun c1 => ?_) (fun c1 => ?_)
      · refine lv_iconst (v := (-1)) hx hb dJ1_indexOfChar_4cfef_31 (by decide) ?_
        exact th_iretJ S hS hr rfl hlocks ⟨_, rfl, iv_top _⟩ dJ1_indexOfChar_4cfef_32
      · have hlt := iv_nle c1
        refine lv_aload_n hx hb dJ1_indexOfChar_4cfef_13 rfl (lv_at hl 2 rfl) ?_
        refine lv_iload hx hb dJ1_indexOfChar_4cfef_14 (lv_at hl 0 rfl) ?_
        refine va_tb hx hb (hE.1.1 i hi).2.2.2 hS (th_in (hi := (sl_len.getD i 0 : Int) - 1) ⟨hw, by omega⟩ (by omega)) rfl dJ1_indexOfChar_4cfef_16 ?_
        refine lv_iload hx hb dJ1_indexOfChar_4cfef_17 (lv_at hl 1 rfl) ?_
        refine lv_icmp_ne (tgt := 25) hx hb dJ1_indexOfChar_4cfef_19 (by decide) (fun c2 => ?_) (fun c2 => ?_)
        · obtain ⟨w2, e2⟩ : ∃ z : Int32, z = w + Int32.ofInt 1 := ⟨_, rfl⟩
          have hsl := sl_lt i hi
          have hw2 : w2.toInt = w.toInt + 1 := by
            rw [e2]
            exact iv_addE (y := 1) (by have : (1 : Int32).toInt = 1 := by decide
                                       omega)
          refine lv_iinc (v := w2) (lv' := [(5, .int w2), (4, .int b), (0, .ref (adV i)), (1, .int x), (2, .int y), (3, .int z)]) hx hb dJ1_indexOfChar_4cfef_25 hl (k := 0) rfl e2.symm (by decide) rfl (fun ls hl => ?_)
          refine lv_goto (tgt := 7) hx hb dJ1_indexOfChar_4cfef_28 (by decide) ?_
          exact ih w2 ls (by omega) (by omega) hl
        · refine lv_iload hx hb dJ1_indexOfChar_4cfef_22 (lv_at hl 0 rfl) ?_
          exact th_iretJ S hS hr rfl hlocks ⟨_, rfl, iv_top _⟩ dJ1_indexOfChar_4cfef_24
  exact loop _ y ls hy (Nat.lt_succ_self _) hl

set_option maxRecDepth 100000 in
theorem s_J1_indexOf_4cfef (l : Launch) (adK adV : Nat → Nat) (i : Nat) (hi : i < 2) (x y z : Int32) : th_MetJ l adK adV yJ1_indexOf_4cfef cJ1_indexOf_4cfef 4 (some .int) (rmk 1 25) [.ref (adV i), .int x, .int y, .int z] (ti_J (-2147483648) 2147483647) := by
  refine th_startJ (by decide) (Nat.le_of_ble_eq_true rfl) ?_
  intro p e s m below meth c ls S hE hS hr hlocks hl
  have hx := S.1; have hb := S.2.1; have hown := S.2.2.2.1; have hts := S.2.2.2.2
  have hl : lv_has ls 4 [(0, .ref (adV i)), (1, .int x), (2, .int y), (3, .int z)] := hl
  refine lv_iload_n hx hb dJ1_indexOf_4cfef_0 rfl (lv_at hl 1 rfl) ?_
  refine th_callSJ (n := 1) (As := [.int x]) S hE hS (s_J1_canEncode_9a6ad l adK adV x) gm_646 gm_644 gm_645 gm_126 (by decide +kernel) ⟨rfl, rfl, Nat.le_of_ble_eq_true rfl, Nat.le_of_ble_eq_true rfl⟩ rfl hl.1 rfl (Nat.le_of_ble_eq_true rfl) dJ1_indexOf_4cfef_1 ⟨Nat.zero_le _, Nat.zero_le _⟩ (fun v H locs hv hS hk => ?_)
  obtain ⟨r1, rfl, -⟩ := hv
  refine lv_if_ne (tgt := 9) hx hb dJ1_indexOf_4cfef_4 (by decide) (fun c1 => ?_) (fun c1 => ?_)
  · refine lv_iload_n hx hb dJ1_indexOf_4cfef_9 rfl (lv_at hl 2 rfl) ?_
    refine lv_iconst (v := 0) hx hb dJ1_indexOf_4cfef_10 (by decide) ?_
    refine va_mmax hx hb (S.2.2.1.trans hl.1.symm) hown (hts _ gm_647) (hts _ gm_625) (hts _ gm_129) (hts _ gm_626) (Nat.le_of_ble_eq_true rfl) (Nat.le_of_ble_eq_true rfl) (Nat.zero_le _) (Nat.zero_le _) dJ1_indexOf_4cfef_11 ?_
    refine lv_topi (fun r2 er2 => ?_)
    have h2 : (0 : Int32).toInt ≤ r2.toInt := by
      rw [er2]; split <;> first | exact Int.le_refl _ | (rename_i hh; exact Int.le_of_lt (iv_lt hh)) | (rename_i hh; exact iv_nlt hh)
    refine lv_istore_n (lv' := [(2, .int r2), (0, .ref (adV i)), (1, .int x), (3, .int z)]) hx hb dJ1_indexOf_4cfef_14 rfl hl (by decide) rfl (fun ls hl => ?_)
    refine lv_iload_n hx hb dJ1_indexOf_4cfef_15 rfl (lv_at hl 3 rfl) ?_
    refine lv_aload_n hx hb dJ1_indexOf_4cfef_16 rfl (lv_at hl 1 rfl) ?_
    refine va_tlen (v := nI (sl_len.getD i 0)) hx hb (hE.1.1 i hi).2.2.2 hS rfl dJ1_indexOf_4cfef_17 ?_
    refine va_mmin hx hb (S.2.2.1.trans hl.1.symm) hown (hts _ gm_648) (hts _ gm_649) (hts _ gm_129) (hts _ gm_650) (Nat.le_of_ble_eq_true rfl) (Nat.le_of_ble_eq_true rfl) (Nat.zero_le _) (Nat.zero_le _) dJ1_indexOf_4cfef_18 ?_
    refine lv_topi (fun r3 er3 => ?_)
    have h3 : r3.toInt ≤ (nI (sl_len.getD i 0)).toInt := by rw [er3]; split <;> first | exact Int.le_refl _ | (rename_i hh; exact Int.le_of_lt (iv_lt hh)) | (rename_i hh; exact iv_nlt hh)
    refine lv_istore_n (lv' := [(3, .int r3), (2, .int r2), (0, .ref (adV i)), (1, .int x)]) hx hb dJ1_indexOf_4cfef_21 rfl hl (by decide) rfl (fun ls hl => ?_)
    refine lv_iload_n hx hb dJ1_indexOf_4cfef_22 rfl (lv_at hl 1 rfl) ?_
    refine lv_iload_n hx hb dJ1_indexOf_4cfef_23 rfl (lv_at hl 0 rfl) ?_
    refine lv_icmp_lt (tgt := 29) hx hb dJ1_indexOf_4cfef_24 (by decide) (fun c2 => ?_) (fun c2 => ?_)
    · refine lv_aload_n hx hb dJ1_indexOf_4cfef_29 rfl (lv_at hl 2 rfl) ?_
      refine lv_iload_n hx hb dJ1_indexOf_4cfef_30 rfl (lv_at hl 3 rfl) ?_
      refine lv_iload_n hx hb dJ1_indexOf_4cfef_31 rfl (lv_at hl 1 rfl) ?_
      refine lv_iload_n hx hb dJ1_indexOf_4cfef_32 rfl (lv_at hl 0 rfl) ?_
      have hsl := sl_lt i hi
      have hz0 : (0 : Int32).toInt = 0 := by decide
      have hnl : (nI (sl_len.getD i 0)).toInt = (sl_len.getD i 0 : Int) := nI_toInt (by omega)
      refine th_callSJ (n := 4) (As := [.ref (adV i), .int x, .int r2, .int r3]) S hE hS (s_J1_indexOfChar_4cfef l adK adV i hi x r2 r3 (by omega) (by omega)) gm_653 gm_651 gm_652 gm_126 (by decide +kernel) ⟨rfl, rfl, Nat.le_of_ble_eq_true rfl, Nat.le_of_ble_eq_true rfl⟩ rfl hl.1 rfl (Nat.le_of_ble_eq_true rfl) dJ1_indexOf_4cfef_33 ⟨Nat.zero_le _, Nat.zero_le _⟩ (fun v H locs hv hS hk => ?_)
      obtain ⟨r4, rfl, h4⟩ := hv
      exact th_iretJ S hS hr rfl hlocks ⟨_, rfl, iv_top _⟩ dJ1_indexOf_4cfef_36
    · refine lv_iconst (v := (-1)) hx hb dJ1_indexOf_4cfef_27 (by decide) ?_
      exact th_iretJ S hS hr rfl hlocks ⟨_, rfl, iv_top _⟩ dJ1_indexOf_4cfef_28
  · refine lv_iconst (v := (-1)) hx hb dJ1_indexOf_4cfef_7 (by decide) ?_
    exact th_iretJ S hS hr rfl hlocks ⟨_, rfl, iv_top _⟩ dJ1_indexOf_4cfef_8

set_option maxRecDepth 100000 in
theorem s_J0_indexOf_7cf53 (l : Launch) (adK adV : Nat → Nat) (i : Nat) (hi : i < 2) (x y : Int32) : th_MetJ l adK adV yJ0_indexOf_7cf53 cJ0_indexOf_7cf53 3 (some .int) (rmk 2 48) [.ref (adK i), .int x, .int y] (ti_J (-2147483648) 2147483647) := by
  refine th_startJ (by decide) (Nat.le_of_ble_eq_true rfl) ?_
  intro p e s m below meth c ls S hE hS hr hlocks hl
  have hx := S.1; have hb := S.2.1; have hown := S.2.2.2.1; have hts := S.2.2.2.2
  have hl : lv_has ls 3 [(0, .ref (adK i)), (1, .int x), (2, .int y)] := hl
  refine lv_aload_n hx hb dJ0_indexOf_7cf53_0 rfl (lv_at hl 0 rfl) ?_
  refine th_callVJ (n := 0) (i := i) (As := []) S hE hS hi (s_J0_isLatin1_aae02 l adK adV i hi) gm_589 gm_586 gm_587 gm_588 gm_125 (by decide +kernel) ⟨rfl, rfl, Nat.le_of_ble_eq_true rfl, Nat.le_of_ble_eq_true rfl⟩ rfl hl.1 rfl (Nat.le_of_ble_eq_true rfl) dJ0_indexOf_7cf53_1 ⟨Nat.zero_le _, Nat.zero_le _⟩ (fun v H locs hv hS hk => ?_)
  subst hv
  refine lv_if_eq (tgt := 23) hx hb dJ0_indexOf_7cf53_4 (by decide) (fun c1 => absurd c1 (by decide)) (fun c1 => ?_)
  refine lv_aload_n hx hb dJ0_indexOf_7cf53_7 rfl (lv_at hl 0 rfl) ?_
  refine vk_getf hx hb (hE.1.1 i hi).2.2.1 hS hown (hts _ gm_1921) (fun _ h => h) dJ0_indexOf_7cf53_8 ?_
  refine lv_iload_n hx hb dJ0_indexOf_7cf53_11 rfl (lv_at hl 1 rfl) ?_
  refine lv_iload_n hx hb dJ0_indexOf_7cf53_12 rfl (lv_at hl 2 rfl) ?_
  refine lv_aload_n hx hb dJ0_indexOf_7cf53_13 rfl (lv_at hl 0 rfl) ?_
  refine th_callVJ (n := 0) (i := i) (As := []) S hE hS hi (s_J0_length_8abf5 l adK adV i hi) gm_575 gm_640 gm_573 gm_574 gm_125 (by decide +kernel) ⟨rfl, rfl, Nat.le_of_ble_eq_true rfl, Nat.le_of_ble_eq_true rfl⟩ rfl hl.1 rfl (Nat.le_of_ble_eq_true rfl) dJ0_indexOf_7cf53_14 ⟨Nat.zero_le _, Nat.zero_le _⟩ (fun v H locs hv hS hk => ?_)
  subst hv
  refine th_callSJ (n := 4) (As := [.ref (adV i), .int x, .int y, .int (nI (sl_len.getD i 0))]) S hE hS (s_J1_indexOf_4cfef l adK adV i hi x y (nI (sl_len.getD i 0))) gm_643 gm_641 gm_642 gm_126 (by decide +kernel) ⟨rfl, rfl, Nat.le_of_ble_eq_true rfl, Nat.le_of_ble_eq_true rfl⟩ rfl hl.1 rfl (Nat.le_of_ble_eq_true rfl) dJ0_indexOf_7cf53_17 ⟨Nat.zero_le _, Nat.zero_le _⟩ (fun v H locs hv hS hk => ?_)
  obtain ⟨r4, rfl, h4⟩ := hv
  refine lv_goto (tgt := 36) hx hb dJ0_indexOf_7cf53_20 (by decide) ?_
  exact th_iretJ S hS hr rfl hlocks ⟨_, rfl, iv_top _⟩ dJ0_indexOf_7cf53_36

set_option maxRecDepth 100000 in
theorem s_J0_indexOf_0f7a4 (l : Launch) (adK adV : Nat → Nat) (i : Nat) (hi : i < 2) (x : Int32) : th_MetJ l adK adV yJ0_indexOf_0f7a4 cJ0_indexOf_0f7a4 2 (some .int) (rmk 3 70) [.ref (adK i), .int x] (ti_J (-2147483648) 2147483647) := by
  refine th_startJ (by decide) (Nat.le_of_ble_eq_true rfl) ?_
  intro p e s m below meth c ls S hE hS hr hlocks hl
  have hx := S.1; have hb := S.2.1; have hown := S.2.2.2.1; have hts := S.2.2.2.2
  have hl : lv_has ls 2 [(0, .ref (adK i)), (1, .int x)] := hl
  refine lv_aload_n hx hb dJ0_indexOf_0f7a4_0 rfl (lv_at hl 0 rfl) ?_
  refine lv_iload_n hx hb dJ0_indexOf_0f7a4_1 rfl (lv_at hl 1 rfl) ?_
  refine lv_iconst (v := 0) hx hb dJ0_indexOf_0f7a4_2 (by decide) ?_
  refine th_callVJ (n := 2) (i := i) (As := [.int x, .int 0]) S hE hS hi (s_J0_indexOf_7cf53 l adK adV i hi x 0) gm_639 gm_636 gm_637 gm_638 gm_125 (by decide +kernel) ⟨rfl, rfl, Nat.le_of_ble_eq_true rfl, Nat.le_of_ble_eq_true rfl⟩ rfl hl.1 rfl (Nat.le_of_ble_eq_true rfl) dJ0_indexOf_0f7a4_3 ⟨Nat.zero_le _, Nat.zero_le _⟩ (fun v H locs hv hS hk => ?_)
  obtain ⟨r4, rfl, h4⟩ := hv
  exact th_iretJ S hS hr rfl hlocks ⟨_, rfl, iv_top _⟩ dJ0_indexOf_0f7a4_6
