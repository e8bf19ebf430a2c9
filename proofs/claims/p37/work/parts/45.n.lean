theorem dX11_store_0 : decode cX11_store 0 = .ok (.aload_n 0, 1) := by decide +kernel
theorem dX11_store_1 : decode cX11_store 1 = .ok (.iload_n 1, 1) := by decide +kernel
theorem dX11_store_2 : decode cX11_store 2 = .ok (.invokevirtual 437, 3) := by decide +kernel
theorem dX11_store_5 : decode cX11_store 5 = .ok (.ifCond .eq 14, 3) := by decide +kernel
theorem dX11_store_8 : decode cX11_store 8 = .ok (.aload_n 0, 1) := by decide +kernel
theorem dX11_store_9 : decode cX11_store 9 = .ok (.getfield 113, 3) := by decide +kernel
theorem dX11_store_12 : decode cX11_store 12 = .ok (.iconst 0, 1) := by decide +kernel
theorem dX11_store_13 : decode cX11_store 13 = .ok (.iload_n 1, 1) := by decide +kernel
theorem dX11_store_14 : decode cX11_store 14 = .ok (.iadd, 1) := by decide +kernel
theorem dX11_store_15 : decode cX11_store 15 = .ok (.iaload, 1) := by decide +kernel
theorem dX11_store_16 : decode cX11_store 16 = .ok (.goto 4, 3) := by decide +kernel
theorem dX11_store_19 : decode cX11_store 19 = .ok (.iconst (-1), 1) := by decide +kernel
theorem dX11_store_20 : decode cX11_store 20 = .ok (.ireturn, 1) := by decide +kernel
theorem dX11_placesOn_0 : decode cX11_placesOn 0 = .ok (.iconst 0, 1) := by decide +kernel
theorem dX11_placesOn_1 : decode cX11_placesOn 1 = .ok (.istore_n 2, 1) := by decide +kernel
theorem dX11_placesOn_2 : decode cX11_placesOn 2 = .ok (.iconst 0, 1) := by decide +kernel
theorem dX11_placesOn_3 : decode cX11_placesOn 3 = .ok (.istore_n 3, 1) := by decide +kernel
theorem dX11_placesOn_4 : decode cX11_placesOn 4 = .ok (.iload_n 3, 1) := by decide +kernel
theorem dX11_placesOn_5 : decode cX11_placesOn 5 = .ok (.aload_n 0, 1) := by decide +kernel
theorem dX11_placesOn_6 : decode cX11_placesOn 6 = .ok (.getfield 27, 3) := by decide +kernel
theorem dX11_placesOn_9 : decode cX11_placesOn 9 = .ok (.aload_n 0, 1) := by decide +kernel
theorem dX11_placesOn_10 : decode cX11_placesOn 10 = .ok (.getfield 273, 3) := by decide +kernel
theorem dX11_placesOn_13 : decode cX11_placesOn 13 = .ok (.iaload, 1) := by decide +kernel
theorem dX11_placesOn_14 : decode cX11_placesOn 14 = .ok (.if_icmp .ge 24, 3) := by decide +kernel
theorem dX11_placesOn_17 : decode cX11_placesOn 17 = .ok (.aload_n 0, 1) := by decide +kernel
theorem dX11_placesOn_18 : decode cX11_placesOn 18 = .ok (.iload_n 3, 1) := by decide +kernel
theorem dX11_placesOn_19 : decode cX11_placesOn 19 = .ok (.iload_n 1, 1) := by decide +kernel
theorem dX11_placesOn_20 : decode cX11_placesOn 20 = .ok (.invokevirtual 416, 3) := by decide +kernel
theorem dX11_placesOn_23 : decode cX11_placesOn 23 = .ok (.ifCond .eq 9, 3) := by decide +kernel
theorem dX11_placesOn_26 : decode cX11_placesOn 26 = .ok (.iload_n 2, 1) := by decide +kernel
theorem dX11_placesOn_27 : decode cX11_placesOn 27 = .ok (.iconst 1, 1) := by decide +kernel
theorem dX11_placesOn_28 : decode cX11_placesOn 28 = .ok (.iload_n 3, 1) := by decide +kernel
theorem dX11_placesOn_29 : decode cX11_placesOn 29 = .ok (.ishl, 1) := by decide +kernel
theorem dX11_placesOn_30 : decode cX11_placesOn 30 = .ok (.ior, 1) := by decide +kernel
theorem dX11_placesOn_31 : decode cX11_placesOn 31 = .ok (.istore_n 2, 1) := by decide +kernel
theorem dX11_placesOn_32 : decode cX11_placesOn 32 = .ok (.iinc 3 1, 3) := by decide +kernel
theorem dX11_placesOn_35 : decode cX11_placesOn 35 = .ok (.goto (-31), 3) := by decide +kernel
theorem dX11_placesOn_38 : decode cX11_placesOn 38 = .ok (.iload_n 2, 1) := by decide +kernel
theorem dX11_placesOn_39 : decode cX11_placesOn 39 = .ok (.ireturn, 1) := by decide +kernel
theorem dX11_map_0 : decode cX11_map 0 = .ok (.aload_n 0, 1) := by decide +kernel
theorem dX11_map_1 : decode cX11_map 1 = .ok (.iload_n 1, 1) := by decide +kernel
theorem dX11_map_2 : decode cX11_map 2 = .ok (.invokevirtual 440, 3) := by decide +kernel
theorem dX11_map_5 : decode cX11_map 5 = .ok (.ifCond .ne 5, 3) := by decide +kernel
theorem dX11_map_8 : decode cX11_map 8 = .ok (.iconst (-1), 1) := by decide +kernel
theorem dX11_map_9 : decode cX11_map 9 = .ok (.ireturn, 1) := by decide +kernel
theorem dX11_map_10 : decode cX11_map 10 = .ok (.iload_n 2, 1) := by decide +kernel
theorem dX11_map_11 : decode cX11_map 11 = .ok (.tableswitch 123 0 7 #[45, 59, 65, 71, 81, 93, 103, 109], 45) := by decide +kernel
theorem dX11_map_56 : decode cX11_map 56 = .ok (.aload_n 0, 1) := by decide +kernel
theorem dX11_map_57 : decode cX11_map 57 = .ok (.getfield 45, 3) := by decide +kernel
theorem dX11_map_60 : decode cX11_map 60 = .ok (.iconst 4, 1) := by decide +kernel
theorem dX11_map_61 : decode cX11_map 61 = .ok (.aload_n 0, 1) := by decide +kernel
theorem dX11_map_62 : decode cX11_map 62 = .ok (.getfield 273, 3) := by decide +kernel
theorem dX11_map_65 : decode cX11_map 65 = .ok (.imul, 1) := by decide +kernel
theorem dX11_map_66 : decode cX11_map 66 = .ok (.iload_n 1, 1) := by decide +kernel
theorem dX11_map_67 : decode cX11_map 67 = .ok (.iadd, 1) := by decide +kernel
theorem dX11_map_68 : decode cX11_map 68 = .ok (.iaload, 1) := by decide +kernel
theorem dX11_map_69 : decode cX11_map 69 = .ok (.ireturn, 1) := by decide +kernel
theorem dX11_map_70 : decode cX11_map 70 = .ok (.aload_n 0, 1) := by decide +kernel
theorem dX11_map_71 : decode cX11_map 71 = .ok (.iload_n 1, 1) := by decide +kernel
theorem dX11_map_72 : decode cX11_map 72 = .ok (.invokevirtual 422, 3) := by decide +kernel
theorem dX11_map_75 : decode cX11_map 75 = .ok (.ireturn, 1) := by decide +kernel
theorem dX11_map_76 : decode cX11_map 76 = .ok (.aload_n 0, 1) := by decide +kernel
theorem dX11_map_77 : decode cX11_map 77 = .ok (.iload_n 1, 1) := by decide +kernel
theorem dX11_map_78 : decode cX11_map 78 = .ok (.invokevirtual 425, 3) := by decide +kernel
theorem dX11_map_81 : decode cX11_map 81 = .ok (.ireturn, 1) := by decide +kernel
theorem dX11_map_82 : decode cX11_map 82 = .ok (.aload_n 0, 1) := by decide +kernel
theorem dX11_map_83 : decode cX11_map 83 = .ok (.getfield 113, 3) := by decide +kernel
theorem dX11_map_86 : decode cX11_map 86 = .ok (.bipush 31, 2) := by decide +kernel
theorem dX11_map_88 : decode cX11_map 88 = .ok (.iload_n 1, 1) := by decide +kernel
theorem dX11_map_89 : decode cX11_map 89 = .ok (.iadd, 1) := by decide +kernel
theorem dX11_map_90 : decode cX11_map 90 = .ok (.iaload, 1) := by decide +kernel
theorem dX11_map_91 : decode cX11_map 91 = .ok (.ireturn, 1) := by decide +kernel
theorem dX11_map_92 : decode cX11_map 92 = .ok (.aload_n 0, 1) := by decide +kernel
theorem dX11_map_93 : decode cX11_map 93 = .ok (.getfield 113, 3) := by decide +kernel
theorem dX11_map_96 : decode cX11_map 96 = .ok (.bipush 39, 2) := by decide +kernel
theorem dX11_map_98 : decode cX11_map 98 = .ok (.iaload, 1) := by decide +kernel
theorem dX11_map_99 : decode cX11_map 99 = .ok (.iload_n 1, 1) := by decide +kernel
theorem dX11_map_100 : decode cX11_map 100 = .ok (.ishr, 1) := by decide +kernel
theorem dX11_map_101 : decode cX11_map 101 = .ok (.iconst 1, 1) := by decide +kernel
theorem dX11_map_102 : decode cX11_map 102 = .ok (.iand, 1) := by decide +kernel
theorem dX11_map_103 : decode cX11_map 103 = .ok (.ireturn, 1) := by decide +kernel
theorem dX11_map_104 : decode cX11_map 104 = .ok (.aload_n 0, 1) := by decide +kernel
theorem dX11_map_105 : decode cX11_map 105 = .ok (.getfield 113, 3) := by decide +kernel
theorem dX11_map_108 : decode cX11_map 108 = .ok (.bipush 35, 2) := by decide +kernel
theorem dX11_map_110 : decode cX11_map 110 = .ok (.iload_n 1, 1) := by decide +kernel
theorem dX11_map_111 : decode cX11_map 111 = .ok (.iadd, 1) := by decide +kernel
theorem dX11_map_112 : decode cX11_map 112 = .ok (.iaload, 1) := by decide +kernel
theorem dX11_map_113 : decode cX11_map 113 = .ok (.ireturn, 1) := by decide +kernel
theorem dX11_map_114 : decode cX11_map 114 = .ok (.aload_n 0, 1) := by decide +kernel
theorem dX11_map_115 : decode cX11_map 115 = .ok (.iload_n 1, 1) := by decide +kernel
theorem dX11_map_116 : decode cX11_map 116 = .ok (.invokevirtual 443, 3) := by decide +kernel
theorem dX11_map_119 : decode cX11_map 119 = .ok (.ireturn, 1) := by decide +kernel
theorem dX11_map_120 : decode cX11_map 120 = .ok (.aload_n 0, 1) := by decide +kernel
theorem dX11_map_121 : decode cX11_map 121 = .ok (.getfield 54, 3) := by decide +kernel
theorem dX11_map_124 : decode cX11_map 124 = .ok (.iconst 4, 1) := by decide +kernel
theorem dX11_map_125 : decode cX11_map 125 = .ok (.aload_n 0, 1) := by decide +kernel
theorem dX11_map_126 : decode cX11_map 126 = .ok (.getfield 273, 3) := by decide +kernel
theorem dX11_map_129 : decode cX11_map 129 = .ok (.imul, 1) := by decide +kernel
theorem dX11_map_130 : decode cX11_map 130 = .ok (.iload_n 1, 1) := by decide +kernel
theorem dX11_map_131 : decode cX11_map 131 = .ok (.iadd, 1) := by decide +kernel
theorem dX11_map_132 : decode cX11_map 132 = .ok (.iaload, 1) := by decide +kernel
theorem dX11_map_133 : decode cX11_map 133 = .ok (.ireturn, 1) := by decide +kernel
theorem dX11_map_134 : decode cX11_map 134 = .ok (.iconst (-1), 1) := by decide +kernel
theorem dX11_map_135 : decode cX11_map 135 = .ok (.ireturn, 1) := by decide +kernel
theorem dX11_place_0 : decode cX11_place 0 = .ok (.aload_n 0, 1) := by decide +kernel
theorem dX11_place_1 : decode cX11_place 1 = .ok (.iload_n 1, 1) := by decide +kernel
theorem dX11_place_2 : decode cX11_place 2 = .ok (.invokevirtual 446, 3) := by decide +kernel
theorem dX11_place_5 : decode cX11_place 5 = .ok (.ifCond .ne 5, 3) := by decide +kernel
theorem dX11_place_8 : decode cX11_place 8 = .ok (.iconst (-1), 1) := by decide +kernel
theorem dX11_place_9 : decode cX11_place 9 = .ok (.ireturn, 1) := by decide +kernel
theorem dX11_place_10 : decode cX11_place 10 = .ok (.iload_n 2, 1) := by decide +kernel
theorem dX11_place_11 : decode cX11_place 11 = .ok (.tableswitch 79 0 3 #[29, 39, 54, 64], 29) := by decide +kernel
theorem dX11_place_40 : decode cX11_place 40 = .ok (.aload_n 0, 1) := by decide +kernel
theorem dX11_place_41 : decode cX11_place 41 = .ok (.getfield 113, 3) := by decide +kernel
theorem dX11_place_44 : decode cX11_place 44 = .ok (.bipush 15, 2) := by decide +kernel
theorem dX11_place_46 : decode cX11_place 46 = .ok (.iload_n 1, 1) := by decide +kernel
theorem dX11_place_47 : decode cX11_place 47 = .ok (.iadd, 1) := by decide +kernel
theorem dX11_place_48 : decode cX11_place 48 = .ok (.iaload, 1) := by decide +kernel
theorem dX11_place_49 : decode cX11_place 49 = .ok (.ireturn, 1) := by decide +kernel
theorem dX11_place_50 : decode cX11_place 50 = .ok (.aload_n 0, 1) := by decide +kernel
theorem dX11_place_51 : decode cX11_place 51 = .ok (.getfield 60, 3) := by decide +kernel
theorem dX11_place_54 : decode cX11_place 54 = .ok (.bipush 8, 2) := by decide +kernel
theorem dX11_place_56 : decode cX11_place 56 = .ok (.aload_n 0, 1) := by decide +kernel
theorem dX11_place_57 : decode cX11_place 57 = .ok (.getfield 273, 3) := by decide +kernel
theorem dX11_place_60 : decode cX11_place 60 = .ok (.imul, 1) := by decide +kernel
theorem dX11_place_61 : decode cX11_place 61 = .ok (.iload_n 1, 1) := by decide +kernel
theorem dX11_place_62 : decode cX11_place 62 = .ok (.iadd, 1) := by decide +kernel
theorem dX11_place_63 : decode cX11_place 63 = .ok (.iaload, 1) := by decide +kernel
theorem dX11_place_64 : decode cX11_place 64 = .ok (.ireturn, 1) := by decide +kernel
theorem dX11_place_65 : decode cX11_place 65 = .ok (.aload_n 0, 1) := by decide +kernel
theorem dX11_place_66 : decode cX11_place 66 = .ok (.getfield 113, 3) := by decide +kernel
theorem dX11_place_69 : decode cX11_place 69 = .ok (.bipush 23, 2) := by decide +kernel
theorem dX11_place_71 : decode cX11_place 71 = .ok (.iload_n 1, 1) := by decide +kernel
theorem dX11_place_72 : decode cX11_place 72 = .ok (.iadd, 1) := by decide +kernel
theorem dX11_place_73 : decode cX11_place 73 = .ok (.iaload, 1) := by decide +kernel
theorem dX11_place_74 : decode cX11_place 74 = .ok (.ireturn, 1) := by decide +kernel
theorem dX11_place_75 : decode cX11_place 75 = .ok (.aload_n 0, 1) := by decide +kernel
theorem dX11_place_76 : decode cX11_place 76 = .ok (.getfield 63, 3) := by decide +kernel
theorem dX11_place_79 : decode cX11_place 79 = .ok (.bipush 8, 2) := by decide +kernel
theorem dX11_place_81 : decode cX11_place 81 = .ok (.aload_n 0, 1) := by decide +kernel
theorem dX11_place_82 : decode cX11_place 82 = .ok (.getfield 273, 3) := by decide +kernel
theorem dX11_place_85 : decode cX11_place 85 = .ok (.imul, 1) := by decide +kernel
theorem dX11_place_86 : decode cX11_place 86 = .ok (.iload_n 1, 1) := by decide +kernel
theorem dX11_place_87 : decode cX11_place 87 = .ok (.iadd, 1) := by decide +kernel
theorem dX11_place_88 : decode cX11_place 88 = .ok (.iaload, 1) := by decide +kernel
theorem dX11_place_89 : decode cX11_place 89 = .ok (.ireturn, 1) := by decide +kernel
theorem dX11_place_90 : decode cX11_place 90 = .ok (.iconst (-1), 1) := by decide +kernel
theorem dX11_place_91 : decode cX11_place 91 = .ok (.ireturn, 1) := by decide +kernel
theorem dX11_taste_0 : decode cX11_taste 0 = .ok (.aload_n 0, 1) := by decide +kernel
theorem dX11_taste_1 : decode cX11_taste 1 = .ok (.iload_n 1, 1) := by decide +kernel
theorem dX11_taste_2 : decode cX11_taste 2 = .ok (.invokevirtual 446, 3) := by decide +kernel
theorem dX11_taste_5 : decode cX11_taste 5 = .ok (.ifCond .eq 20, 3) := by decide +kernel
theorem dX11_taste_8 : decode cX11_taste 8 = .ok (.aload_n 0, 1) := by decide +kernel
theorem dX11_taste_9 : decode cX11_taste 9 = .ok (.iload_n 2, 1) := by decide +kernel
theorem dX11_taste_10 : decode cX11_taste 10 = .ok (.invokevirtual 440, 3) := by decide +kernel
theorem dX11_taste_13 : decode cX11_taste 13 = .ok (.ifCond .eq 12, 3) := by decide +kernel
theorem dX11_taste_16 : decode cX11_taste 16 = .ok (.aload_n 0, 1) := by decide +kernel
theorem dX11_taste_17 : decode cX11_taste 17 = .ok (.iload_n 1, 1) := by decide +kernel
theorem dX11_taste_18 : decode cX11_taste 18 = .ok (.iload_n 2, 1) := by decide +kernel
theorem dX11_taste_19 : decode cX11_taste 19 = .ok (.invokevirtual 419, 3) := by decide +kernel
theorem dX11_taste_22 : decode cX11_taste 22 = .ok (.goto 6, 3) := by decide +kernel
theorem dX11_taste_25 : decode cX11_taste 25 = .ok (.ldc_w 449, 3) := by decide +kernel
theorem dX11_taste_28 : decode cX11_taste 28 = .ok (.ireturn, 1) := by decide +kernel
theorem dX11_likes_0 : decode cX11_likes 0 = .ok (.aload_n 0, 1) := by decide +kernel
theorem dX11_likes_1 : decode cX11_likes 1 = .ok (.iload_n 1, 1) := by decide +kernel
theorem dX11_likes_2 : decode cX11_likes 2 = .ok (.invokevirtual 440, 3) := by decide +kernel
theorem dX11_likes_5 : decode cX11_likes 5 = .ok (.ifCond .eq 20, 3) := by decide +kernel
theorem dX11_likes_8 : decode cX11_likes 8 = .ok (.aload_n 0, 1) := by decide +kernel
theorem dX11_likes_9 : decode cX11_likes 9 = .ok (.iload_n 2, 1) := by decide +kernel
theorem dX11_likes_10 : decode cX11_likes 10 = .ok (.invokevirtual 437, 3) := by decide +kernel
theorem dX11_likes_13 : decode cX11_likes 13 = .ok (.ifCond .eq 12, 3) := by decide +kernel
theorem dX11_likes_16 : decode cX11_likes 16 = .ok (.aload_n 0, 1) := by decide +kernel
theorem dX11_likes_17 : decode cX11_likes 17 = .ok (.iload_n 1, 1) := by decide +kernel
theorem dX11_likes_18 : decode cX11_likes 18 = .ok (.iload_n 2, 1) := by decide +kernel
theorem dX11_likes_19 : decode cX11_likes 19 = .ok (.invokevirtual 413, 3) := by decide +kernel
theorem dX11_likes_22 : decode cX11_likes 22 = .ok (.goto 4, 3) := by decide +kernel
theorem dX11_likes_25 : decode cX11_likes 25 = .ok (.iconst (-1), 1) := by decide +kernel
theorem dX11_likes_26 : decode cX11_likes 26 = .ok (.ireturn, 1) := by decide +kernel
theorem dX11_trough_0 : decode cX11_trough 0 = .ok (.aload_n 0, 1) := by decide +kernel
theorem dX11_trough_1 : decode cX11_trough 1 = .ok (.iload_n 1, 1) := by decide +kernel
theorem dX11_trough_2 : decode cX11_trough 2 = .ok (.invokevirtual 440, 3) := by decide +kernel
theorem dX11_trough_5 : decode cX11_trough 5 = .ok (.ifCond .eq 26, 3) := by decide +kernel
theorem dX11_trough_8 : decode cX11_trough 8 = .ok (.aload_n 0, 1) := by decide +kernel
theorem dX11_trough_9 : decode cX11_trough 9 = .ok (.iload_n 2, 1) := by decide +kernel
theorem dX11_trough_10 : decode cX11_trough 10 = .ok (.invokevirtual 437, 3) := by decide +kernel
theorem dX11_trough_13 : decode cX11_trough 13 = .ok (.ifCond .eq 18, 3) := by decide +kernel
theorem dX11_trough_16 : decode cX11_trough 16 = .ok (.aload_n 0, 1) := by decide +kernel
theorem dX11_trough_17 : decode cX11_trough 17 = .ok (.getfield 113, 3) := by decide +kernel
theorem dX11_trough_20 : decode cX11_trough 20 = .ok (.iconst 3, 1) := by decide +kernel
theorem dX11_trough_21 : decode cX11_trough 21 = .ok (.iconst 3, 1) := by decide +kernel
theorem dX11_trough_22 : decode cX11_trough 22 = .ok (.iload_n 1, 1) := by decide +kernel
theorem dX11_trough_23 : decode cX11_trough 23 = .ok (.imul, 1) := by decide +kernel
theorem dX11_trough_24 : decode cX11_trough 24 = .ok (.iadd, 1) := by decide +kernel
theorem dX11_trough_25 : decode cX11_trough 25 = .ok (.iload_n 2, 1) := by decide +kernel
theorem dX11_trough_26 : decode cX11_trough 26 = .ok (.iadd, 1) := by decide +kernel
theorem dX11_trough_27 : decode cX11_trough 27 = .ok (.iaload, 1) := by decide +kernel
theorem dX11_trough_28 : decode cX11_trough 28 = .ok (.goto 4, 3) := by decide +kernel
theorem dX11_trough_31 : decode cX11_trough 31 = .ok (.iconst (-1), 1) := by decide +kernel
theorem dX11_trough_32 : decode cX11_trough 32 = .ok (.ireturn, 1) := by decide +kernel
theorem dX11_keepAct_0 : decode cX11_keepAct 0 = .ok (.aload_n 0, 1) := by decide +kernel
theorem dX11_keepAct_1 : decode cX11_keepAct 1 = .ok (.getfield 395, 3) := by decide +kernel
theorem dX11_keepAct_4 : decode cX11_keepAct 4 = .ok (.bipush 40, 2) := by decide +kernel
theorem dX11_keepAct_6 : decode cX11_keepAct 6 = .ok (.if_icmp .ne 43, 3) := by decide +kernel
theorem dX11_keepAct_9 : decode cX11_keepAct 9 = .ok (.iconst 0, 1) := by decide +kernel
theorem dX11_keepAct_10 : decode cX11_keepAct 10 = .ok (.istore_n 1, 1) := by decide +kernel
theorem dX11_keepAct_11 : decode cX11_keepAct 11 = .ok (.iload_n 1, 1) := by decide +kernel
theorem dX11_keepAct_12 : decode cX11_keepAct 12 = .ok (.sipush 1720, 3) := by decide +kernel
theorem dX11_keepAct_15 : decode cX11_keepAct 15 = .ok (.if_icmp .ge 24, 3) := by decide +kernel
theorem dX11_keepAct_18 : decode cX11_keepAct 18 = .ok (.aload_n 0, 1) := by decide +kernel
theorem dX11_keepAct_19 : decode cX11_keepAct 19 = .ok (.getfield 116, 3) := by decide +kernel
theorem dX11_keepAct_22 : decode cX11_keepAct 22 = .ok (.iload_n 1, 1) := by decide +kernel
theorem dX11_keepAct_23 : decode cX11_keepAct 23 = .ok (.aload_n 0, 1) := by decide +kernel
theorem dX11_keepAct_24 : decode cX11_keepAct 24 = .ok (.getfield 116, 3) := by decide +kernel
theorem dX11_keepAct_27 : decode cX11_keepAct 27 = .ok (.iload_n 1, 1) := by decide +kernel
theorem dX11_keepAct_28 : decode cX11_keepAct 28 = .ok (.bipush 43, 2) := by decide +kernel
theorem dX11_keepAct_30 : decode cX11_keepAct 30 = .ok (.iadd, 1) := by decide +kernel
theorem dX11_keepAct_31 : decode cX11_keepAct 31 = .ok (.iaload, 1) := by decide +kernel
theorem dX11_keepAct_32 : decode cX11_keepAct 32 = .ok (.iastore, 1) := by decide +kernel
theorem dX11_keepAct_33 : decode cX11_keepAct 33 = .ok (.iinc 1 1, 3) := by decide +kernel
theorem dX11_keepAct_36 : decode cX11_keepAct 36 = .ok (.goto (-25), 3) := by decide +kernel
theorem dX11_keepAct_39 : decode cX11_keepAct 39 = .ok (.aload_n 0, 1) := by decide +kernel
theorem dX11_keepAct_40 : decode cX11_keepAct 40 = .ok (.dup, 1) := by decide +kernel
theorem dX11_keepAct_41 : decode cX11_keepAct 41 = .ok (.getfield 395, 3) := by decide +kernel
theorem dX11_keepAct_44 : decode cX11_keepAct 44 = .ok (.iconst 1, 1) := by decide +kernel
theorem dX11_keepAct_45 : decode cX11_keepAct 45 = .ok (.isub, 1) := by decide +kernel
theorem dX11_keepAct_46 : decode cX11_keepAct 46 = .ok (.putfield 395, 3) := by decide +kernel
theorem dX11_keepAct_49 : decode cX11_keepAct 49 = .ok (.iconst 0, 1) := by decide +kernel
theorem dX11_keepAct_50 : decode cX11_keepAct 50 = .ok (.istore_n 1, 1) := by decide +kernel
theorem dX11_keepAct_51 : decode cX11_keepAct 51 = .ok (.iload_n 1, 1) := by decide +kernel
theorem dX11_keepAct_52 : decode cX11_keepAct 52 = .ok (.bipush 43, 2) := by decide +kernel
theorem dX11_keepAct_54 : decode cX11_keepAct 54 = .ok (.if_icmp .ge 29, 3) := by decide +kernel
theorem dX11_keepAct_57 : decode cX11_keepAct 57 = .ok (.aload_n 0, 1) := by decide +kernel
theorem dX11_keepAct_58 : decode cX11_keepAct 58 = .ok (.getfield 116, 3) := by decide +kernel
theorem dX11_keepAct_61 : decode cX11_keepAct 61 = .ok (.bipush 43, 2) := by decide +kernel
theorem dX11_keepAct_63 : decode cX11_keepAct 63 = .ok (.aload_n 0, 1) := by decide +kernel
theorem dX11_keepAct_64 : decode cX11_keepAct 64 = .ok (.getfield 395, 3) := by decide +kernel
theorem dX11_keepAct_67 : decode cX11_keepAct 67 = .ok (.imul, 1) := by decide +kernel
theorem dX11_keepAct_68 : decode cX11_keepAct 68 = .ok (.iload_n 1, 1) := by decide +kernel
theorem dX11_keepAct_69 : decode cX11_keepAct 69 = .ok (.iadd, 1) := by decide +kernel
theorem dX11_keepAct_70 : decode cX11_keepAct 70 = .ok (.aload_n 0, 1) := by decide +kernel
theorem dX11_keepAct_71 : decode cX11_keepAct 71 = .ok (.getfield 113, 3) := by decide +kernel
theorem dX11_keepAct_74 : decode cX11_keepAct 74 = .ok (.iload_n 1, 1) := by decide +kernel
theorem dX11_keepAct_75 : decode cX11_keepAct 75 = .ok (.iaload, 1) := by decide +kernel
theorem dX11_keepAct_76 : decode cX11_keepAct 76 = .ok (.iastore, 1) := by decide +kernel
theorem dX11_keepAct_77 : decode cX11_keepAct 77 = .ok (.iinc 1 1, 3) := by decide +kernel
theorem dX11_keepAct_80 : decode cX11_keepAct 80 = .ok (.goto (-29), 3) := by decide +kernel
theorem dX11_keepAct_83 : decode cX11_keepAct 83 = .ok (.aload_n 0, 1) := by decide +kernel
theorem dX11_keepAct_84 : decode cX11_keepAct 84 = .ok (.dup, 1) := by decide +kernel
theorem dX11_keepAct_85 : decode cX11_keepAct 85 = .ok (.getfield 395, 3) := by decide +kernel
theorem dX11_keepAct_88 : decode cX11_keepAct 88 = .ok (.iconst 1, 1) := by decide +kernel
theorem dX11_keepAct_89 : decode cX11_keepAct 89 = .ok (.iadd, 1) := by decide +kernel
theorem dX11_keepAct_90 : decode cX11_keepAct 90 = .ok (.putfield 395, 3) := by decide +kernel
theorem dX11_keepAct_93 : decode cX11_keepAct 93 = .ok (.aload_n 0, 1) := by decide +kernel
theorem dX11_keepAct_94 : decode cX11_keepAct 94 = .ok (.iconst 0, 1) := by decide +kernel
theorem dX11_keepAct_95 : decode cX11_keepAct 95 = .ok (.putfield 398, 3) := by decide +kernel
theorem dX11_keepAct_98 : decode cX11_keepAct 98 = .ok (.return_, 1) := by decide +kernel
theorem dX11_exchange_0 : decode cX11_exchange 0 = .ok (.iconst 0, 1) := by decide +kernel
theorem dX11_exchange_1 : decode cX11_exchange 1 = .ok (.istore_n 1, 1) := by decide +kernel
theorem dX11_exchange_2 : decode cX11_exchange 2 = .ok (.iload_n 1, 1) := by decide +kernel
theorem dX11_exchange_3 : decode cX11_exchange 3 = .ok (.bipush 43, 2) := by decide +kernel
theorem dX11_exchange_5 : decode cX11_exchange 5 = .ok (.if_icmp .ge 51, 3) := by decide +kernel
theorem dX11_exchange_8 : decode cX11_exchange 8 = .ok (.aload_n 0, 1) := by decide +kernel
theorem dX11_exchange_9 : decode cX11_exchange 9 = .ok (.getfield 116, 3) := by decide +kernel
theorem dX11_exchange_12 : decode cX11_exchange 12 = .ok (.bipush 43, 2) := by decide +kernel
theorem dX11_exchange_14 : decode cX11_exchange 14 = .ok (.aload_n 0, 1) := by decide +kernel
theorem dX11_exchange_15 : decode cX11_exchange 15 = .ok (.getfield 395, 3) := by decide +kernel
theorem dX11_exchange_18 : decode cX11_exchange 18 = .ok (.imul, 1) := by decide +kernel
theorem dX11_exchange_19 : decode cX11_exchange 19 = .ok (.iload_n 1, 1) := by decide +kernel
theorem dX11_exchange_20 : decode cX11_exchange 20 = .ok (.iadd, 1) := by decide +kernel
theorem dX11_exchange_21 : decode cX11_exchange 21 = .ok (.iaload, 1) := by decide +kernel
theorem dX11_exchange_22 : decode cX11_exchange 22 = .ok (.istore_n 2, 1) := by decide +kernel
theorem dX11_exchange_23 : decode cX11_exchange 23 = .ok (.aload_n 0, 1) := by decide +kernel
theorem dX11_exchange_24 : decode cX11_exchange 24 = .ok (.getfield 116, 3) := by decide +kernel
theorem dX11_exchange_27 : decode cX11_exchange 27 = .ok (.bipush 43, 2) := by decide +kernel
theorem dX11_exchange_29 : decode cX11_exchange 29 = .ok (.aload_n 0, 1) := by decide +kernel
theorem dX11_exchange_30 : decode cX11_exchange 30 = .ok (.getfield 395, 3) := by decide +kernel
theorem dX11_exchange_33 : decode cX11_exchange 33 = .ok (.imul, 1) := by decide +kernel
theorem dX11_exchange_34 : decode cX11_exchange 34 = .ok (.iload_n 1, 1) := by decide +kernel
theorem dX11_exchange_35 : decode cX11_exchange 35 = .ok (.iadd, 1) := by decide +kernel
theorem dX11_exchange_36 : decode cX11_exchange 36 = .ok (.aload_n 0, 1) := by decide +kernel
theorem dX11_exchange_37 : decode cX11_exchange 37 = .ok (.getfield 113, 3) := by decide +kernel
theorem dX11_exchange_40 : decode cX11_exchange 40 = .ok (.iload_n 1, 1) := by decide +kernel
theorem dX11_exchange_41 : decode cX11_exchange 41 = .ok (.iaload, 1) := by decide +kernel
theorem dX11_exchange_42 : decode cX11_exchange 42 = .ok (.iastore, 1) := by decide +kernel
theorem dX11_exchange_43 : decode cX11_exchange 43 = .ok (.aload_n 0, 1) := by decide +kernel
theorem dX11_exchange_44 : decode cX11_exchange 44 = .ok (.getfield 113, 3) := by decide +kernel
theorem dX11_exchange_47 : decode cX11_exchange 47 = .ok (.iload_n 1, 1) := by decide +kernel
theorem dX11_exchange_48 : decode cX11_exchange 48 = .ok (.iload_n 2, 1) := by decide +kernel
theorem dX11_exchange_49 : decode cX11_exchange 49 = .ok (.iastore, 1) := by decide +kernel
theorem dX11_exchange_50 : decode cX11_exchange 50 = .ok (.iinc 1 1, 3) := by decide +kernel
theorem dX11_exchange_53 : decode cX11_exchange 53 = .ok (.goto (-51), 3) := by decide +kernel
theorem dX11_exchange_56 : decode cX11_exchange 56 = .ok (.return_, 1) := by decide +kernel
theorem dX11_give_0 : decode cX11_give 0 = .ok (.aload_n 0, 1) := by decide +kernel
theorem dX11_give_1 : decode cX11_give 1 = .ok (.iload_n 1, 1) := by decide +kernel
theorem dX11_give_2 : decode cX11_give 2 = .ok (.invokevirtual 440, 3) := by decide +kernel
theorem dX11_give_5 : decode cX11_give 5 = .ok (.ifCond .eq 27, 3) := by decide +kernel
theorem dX11_give_8 : decode cX11_give 8 = .ok (.aload_n 0, 1) := by decide +kernel
theorem dX11_give_9 : decode cX11_give 9 = .ok (.iload_n 2, 1) := by decide +kernel
theorem dX11_give_10 : decode cX11_give 10 = .ok (.invokevirtual 437, 3) := by decide +kernel
theorem dX11_give_13 : decode cX11_give 13 = .ok (.ifCond .eq 19, 3) := by decide +kernel
theorem dX11_give_16 : decode cX11_give 16 = .ok (.iload_n 3, 1) := by decide +kernel
theorem dX11_give_17 : decode cX11_give 17 = .ok (.iconst 1, 1) := by decide +kernel
theorem dX11_give_18 : decode cX11_give 18 = .ok (.aload_n 0, 1) := by decide +kernel
theorem dX11_give_19 : decode cX11_give 19 = .ok (.getfield 113, 3) := by decide +kernel
theorem dX11_give_22 : decode cX11_give 22 = .ok (.iconst 0, 1) := by decide +kernel
theorem dX11_give_23 : decode cX11_give 23 = .ok (.iload_n 2, 1) := by decide +kernel
theorem dX11_give_24 : decode cX11_give 24 = .ok (.iadd, 1) := by decide +kernel
theorem dX11_give_25 : decode cX11_give 25 = .ok (.iaload, 1) := by decide +kernel
theorem dX11_give_26 : decode cX11_give 26 = .ok (.invokestatic 387, 3) := by decide +kernel
theorem dX11_give_29 : decode cX11_give 29 = .ok (.ifCond .ne 5, 3) := by decide +kernel
theorem dX11_give_32 : decode cX11_give 32 = .ok (.iconst (-1), 1) := by decide +kernel
theorem dX11_give_33 : decode cX11_give 33 = .ok (.ireturn, 1) := by decide +kernel
theorem dX11_give_34 : decode cX11_give 34 = .ok (.aload_n 0, 1) := by decide +kernel
theorem dX11_give_35 : decode cX11_give 35 = .ok (.invokevirtual 450, 3) := by decide +kernel
theorem dX11_give_38 : decode cX11_give 38 = .ok (.aload_n 0, 1) := by decide +kernel
theorem dX11_give_39 : decode cX11_give 39 = .ok (.getfield 113, 3) := by decide +kernel
theorem dX11_give_42 : decode cX11_give 42 = .ok (.iconst 0, 1) := by decide +kernel
theorem dX11_give_43 : decode cX11_give 43 = .ok (.iload_n 2, 1) := by decide +kernel
theorem dX11_give_44 : decode cX11_give 44 = .ok (.iadd, 1) := by decide +kernel
theorem dX11_give_45 : decode cX11_give 45 = .ok (.dup2, 1) := by decide +kernel
theorem dX11_give_46 : decode cX11_give 46 = .ok (.iaload, 1) := by decide +kernel
theorem dX11_give_47 : decode cX11_give 47 = .ok (.iload_n 3, 1) := by decide +kernel
theorem dX11_give_48 : decode cX11_give 48 = .ok (.isub, 1) := by decide +kernel
theorem dX11_give_49 : decode cX11_give 49 = .ok (.iastore, 1) := by decide +kernel
theorem dX11_give_50 : decode cX11_give 50 = .ok (.aload_n 0, 1) := by decide +kernel
theorem dX11_give_51 : decode cX11_give 51 = .ok (.getfield 113, 3) := by decide +kernel
theorem dX11_give_54 : decode cX11_give 54 = .ok (.iconst 3, 1) := by decide +kernel
theorem dX11_give_55 : decode cX11_give 55 = .ok (.iconst 3, 1) := by decide +kernel
theorem dX11_give_56 : decode cX11_give 56 = .ok (.iload_n 1, 1) := by decide +kernel
theorem dX11_give_57 : decode cX11_give 57 = .ok (.imul, 1) := by decide +kernel
theorem dX11_give_58 : decode cX11_give 58 = .ok (.iadd, 1) := by decide +kernel
theorem dX11_give_59 : decode cX11_give 59 = .ok (.iload_n 2, 1) := by decide +kernel
theorem dX11_give_60 : decode cX11_give 60 = .ok (.iadd, 1) := by decide +kernel
theorem dX11_give_61 : decode cX11_give 61 = .ok (.dup2, 1) := by decide +kernel
theorem dX11_give_62 : decode cX11_give 62 = .ok (.iaload, 1) := by decide +kernel
theorem dX11_give_63 : decode cX11_give 63 = .ok (.iload_n 3, 1) := by decide +kernel
theorem dX11_give_64 : decode cX11_give 64 = .ok (.iadd, 1) := by decide +kernel
theorem dX11_give_65 : decode cX11_give 65 = .ok (.iastore, 1) := by decide +kernel
theorem dX11_give_66 : decode cX11_give 66 = .ok (.aload_n 0, 1) := by decide +kernel
theorem dX11_give_67 : decode cX11_give 67 = .ok (.getfield 113, 3) := by decide +kernel
theorem dX11_give_70 : decode cX11_give 70 = .ok (.iconst 0, 1) := by decide +kernel
theorem dX11_give_71 : decode cX11_give 71 = .ok (.iload_n 2, 1) := by decide +kernel
theorem dX11_give_72 : decode cX11_give 72 = .ok (.iadd, 1) := by decide +kernel
theorem dX11_give_73 : decode cX11_give 73 = .ok (.iaload, 1) := by decide +kernel
theorem dX11_give_74 : decode cX11_give 74 = .ok (.ireturn, 1) := by decide +kernel
theorem dX11_fold_0 : decode cX11_fold 0 = .ok (.aload_n 0, 1) := by decide +kernel
theorem dX11_fold_1 : decode cX11_fold 1 = .ok (.iload_n 1, 1) := by decide +kernel
theorem dX11_fold_2 : decode cX11_fold 2 = .ok (.invokevirtual 440, 3) := by decide +kernel
theorem dX11_fold_5 : decode cX11_fold 5 = .ok (.ifCond .ne 5, 3) := by decide +kernel
theorem dX11_fold_8 : decode cX11_fold 8 = .ok (.iconst (-1), 1) := by decide +kernel
theorem dX11_fold_9 : decode cX11_fold 9 = .ok (.ireturn, 1) := by decide +kernel
theorem dX11_fold_10 : decode cX11_fold 10 = .ok (.aload_n 0, 1) := by decide +kernel
theorem dX11_fold_11 : decode cX11_fold 11 = .ok (.invokevirtual 450, 3) := by decide +kernel
theorem dX11_fold_14 : decode cX11_fold 14 = .ok (.aload_n 0, 1) := by decide +kernel
theorem dX11_fold_15 : decode cX11_fold 15 = .ok (.getfield 113, 3) := by decide +kernel
theorem dX11_fold_18 : decode cX11_fold 18 = .ok (.bipush 39, 2) := by decide +kernel
theorem dX11_fold_20 : decode cX11_fold 20 = .ok (.dup2, 1) := by decide +kernel
theorem dX11_fold_21 : decode cX11_fold 21 = .ok (.iaload, 1) := by decide +kernel
theorem dX11_fold_22 : decode cX11_fold 22 = .ok (.iconst 1, 1) := by decide +kernel
theorem dX11_fold_23 : decode cX11_fold 23 = .ok (.iload_n 1, 1) := by decide +kernel
theorem dX11_fold_24 : decode cX11_fold 24 = .ok (.ishl, 1) := by decide +kernel
theorem dX11_fold_25 : decode cX11_fold 25 = .ok (.ixor, 1) := by decide +kernel
theorem dX11_fold_26 : decode cX11_fold 26 = .ok (.iastore, 1) := by decide +kernel
theorem dX11_fold_27 : decode cX11_fold 27 = .ok (.aload_n 0, 1) := by decide +kernel
theorem dX11_fold_28 : decode cX11_fold 28 = .ok (.getfield 113, 3) := by decide +kernel
theorem dX11_fold_31 : decode cX11_fold 31 = .ok (.bipush 39, 2) := by decide +kernel
theorem dX11_fold_33 : decode cX11_fold 33 = .ok (.iaload, 1) := by decide +kernel
theorem dX11_fold_34 : decode cX11_fold 34 = .ok (.iload_n 1, 1) := by decide +kernel
theorem dX11_fold_35 : decode cX11_fold 35 = .ok (.ishr, 1) := by decide +kernel
theorem dX11_fold_36 : decode cX11_fold 36 = .ok (.iconst 1, 1) := by decide +kernel
theorem dX11_fold_37 : decode cX11_fold 37 = .ok (.iand, 1) := by decide +kernel
theorem dX11_fold_38 : decode cX11_fold 38 = .ok (.ireturn, 1) := by decide +kernel
theorem dX11_put_0 : decode cX11_put 0 = .ok (.aload_n 0, 1) := by decide +kernel
theorem dX11_put_1 : decode cX11_put 1 = .ok (.iload_n 1, 1) := by decide +kernel
theorem dX11_put_2 : decode cX11_put 2 = .ok (.invokevirtual 440, 3) := by decide +kernel
theorem dX11_put_5 : decode cX11_put 5 = .ok (.ifCond .eq 12, 3) := by decide +kernel
theorem dX11_put_8 : decode cX11_put 8 = .ok (.iload_n 2, 1) := by decide +kernel
theorem dX11_put_9 : decode cX11_put 9 = .ok (.iconst 0, 1) := by decide +kernel
theorem dX11_put_10 : decode cX11_put 10 = .ok (.iconst 3, 1) := by decide +kernel
theorem dX11_put_11 : decode cX11_put 11 = .ok (.invokestatic 387, 3) := by decide +kernel
theorem dX11_put_14 : decode cX11_put 14 = .ok (.ifCond .ne 5, 3) := by decide +kernel
theorem dX11_put_17 : decode cX11_put 17 = .ok (.iconst (-1), 1) := by decide +kernel
theorem dX11_put_18 : decode cX11_put 18 = .ok (.ireturn, 1) := by decide +kernel
theorem dX11_put_19 : decode cX11_put 19 = .ok (.aload_n 0, 1) := by decide +kernel
theorem dX11_put_20 : decode cX11_put 20 = .ok (.invokevirtual 450, 3) := by decide +kernel
theorem dX11_put_23 : decode cX11_put 23 = .ok (.aload_n 0, 1) := by decide +kernel
theorem dX11_put_24 : decode cX11_put 24 = .ok (.getfield 113, 3) := by decide +kernel
theorem dX11_put_27 : decode cX11_put 27 = .ok (.bipush 35, 2) := by decide +kernel
theorem dX11_put_29 : decode cX11_put 29 = .ok (.iload_n 1, 1) := by decide +kernel
theorem dX11_put_30 : decode cX11_put 30 = .ok (.iadd, 1) := by decide +kernel
theorem dX11_put_31 : decode cX11_put 31 = .ok (.iaload, 1) := by decide +kernel
theorem dX11_put_32 : decode cX11_put 32 = .ok (.istore_n 3, 1) := by decide +kernel
theorem dX11_put_33 : decode cX11_put 33 = .ok (.aload_n 0, 1) := by decide +kernel
theorem dX11_put_34 : decode cX11_put 34 = .ok (.getfield 113, 3) := by decide +kernel
theorem dX11_put_37 : decode cX11_put 37 = .ok (.bipush 35, 2) := by decide +kernel
theorem dX11_put_39 : decode cX11_put 39 = .ok (.iload_n 1, 1) := by decide +kernel
theorem dX11_put_40 : decode cX11_put 40 = .ok (.iadd, 1) := by decide +kernel
theorem dX11_put_41 : decode cX11_put 41 = .ok (.iload_n 2, 1) := by decide +kernel
theorem dX11_put_42 : decode cX11_put 42 = .ok (.iastore, 1) := by decide +kernel
theorem dX11_put_43 : decode cX11_put 43 = .ok (.iload_n 3, 1) := by decide +kernel
theorem dX11_put_44 : decode cX11_put 44 = .ok (.ireturn, 1) := by decide +kernel
theorem dX11_keepNow_0 : decode cX11_keepNow 0 = .ok (.iconst 0, 1) := by decide +kernel
theorem dX11_keepNow_1 : decode cX11_keepNow 1 = .ok (.istore_n 1, 1) := by decide +kernel
theorem dX11_keepNow_2 : decode cX11_keepNow 2 = .ok (.iload_n 1, 1) := by decide +kernel
theorem dX11_keepNow_3 : decode cX11_keepNow 3 = .ok (.bipush 43, 2) := by decide +kernel
theorem dX11_keepNow_5 : decode cX11_keepNow 5 = .ok (.if_icmp .ge 21, 3) := by decide +kernel
theorem dX11_keepNow_8 : decode cX11_keepNow 8 = .ok (.aload_n 0, 1) := by decide +kernel
theorem dX11_keepNow_9 : decode cX11_keepNow 9 = .ok (.getfield 119, 3) := by decide +kernel
theorem dX11_keepNow_12 : decode cX11_keepNow 12 = .ok (.iload_n 1, 1) := by decide +kernel
theorem dX11_keepNow_13 : decode cX11_keepNow 13 = .ok (.aload_n 0, 1) := by decide +kernel
theorem dX11_keepNow_14 : decode cX11_keepNow 14 = .ok (.getfield 113, 3) := by decide +kernel
theorem dX11_keepNow_17 : decode cX11_keepNow 17 = .ok (.iload_n 1, 1) := by decide +kernel
theorem dX11_keepNow_18 : decode cX11_keepNow 18 = .ok (.iaload, 1) := by decide +kernel
theorem dX11_keepNow_19 : decode cX11_keepNow 19 = .ok (.iastore, 1) := by decide +kernel
theorem dX11_keepNow_20 : decode cX11_keepNow 20 = .ok (.iinc 1 1, 3) := by decide +kernel
theorem dX11_keepNow_23 : decode cX11_keepNow 23 = .ok (.goto (-21), 3) := by decide +kernel
theorem dX11_keepNow_26 : decode cX11_keepNow 26 = .ok (.return_, 1) := by decide +kernel
theorem dX11_smaller_0 : decode cX11_smaller 0 = .ok (.iconst 0, 1) := by decide +kernel
theorem dX11_smaller_1 : decode cX11_smaller 1 = .ok (.istore_n 1, 1) := by decide +kernel
theorem dX11_smaller_2 : decode cX11_smaller 2 = .ok (.iconst 0, 1) := by decide +kernel
theorem dX11_smaller_3 : decode cX11_smaller 3 = .ok (.istore_n 2, 1) := by decide +kernel
theorem dX11_smaller_4 : decode cX11_smaller 4 = .ok (.iload_n 2, 1) := by decide +kernel
theorem dX11_smaller_5 : decode cX11_smaller 5 = .ok (.aload_n 0, 1) := by decide +kernel
theorem dX11_smaller_6 : decode cX11_smaller 6 = .ok (.getfield 27, 3) := by decide +kernel
theorem dX11_smaller_9 : decode cX11_smaller 9 = .ok (.aload_n 0, 1) := by decide +kernel
theorem dX11_smaller_10 : decode cX11_smaller 10 = .ok (.getfield 273, 3) := by decide +kernel
theorem dX11_smaller_13 : decode cX11_smaller 13 = .ok (.iaload, 1) := by decide +kernel
theorem dX11_smaller_14 : decode cX11_smaller 14 = .ok (.if_icmp .ge 36, 3) := by decide +kernel
theorem dX11_smaller_17 : decode cX11_smaller 17 = .ok (.aload_n 0, 1) := by decide +kernel
theorem dX11_smaller_18 : decode cX11_smaller 18 = .ok (.getfield 113, 3) := by decide +kernel
theorem dX11_smaller_21 : decode cX11_smaller 21 = .ok (.bipush 15, 2) := by decide +kernel
theorem dX11_smaller_23 : decode cX11_smaller 23 = .ok (.iload_n 2, 1) := by decide +kernel
theorem dX11_smaller_24 : decode cX11_smaller 24 = .ok (.iadd, 1) := by decide +kernel
theorem dX11_smaller_25 : decode cX11_smaller 25 = .ok (.iaload, 1) := by decide +kernel
theorem dX11_smaller_26 : decode cX11_smaller 26 = .ok (.aload_n 0, 1) := by decide +kernel
theorem dX11_smaller_27 : decode cX11_smaller 27 = .ok (.getfield 119, 3) := by decide +kernel
theorem dX11_smaller_30 : decode cX11_smaller 30 = .ok (.bipush 15, 2) := by decide +kernel
theorem dX11_smaller_32 : decode cX11_smaller 32 = .ok (.iload_n 2, 1) := by decide +kernel
theorem dX11_smaller_33 : decode cX11_smaller 33 = .ok (.iadd, 1) := by decide +kernel
theorem dX11_smaller_34 : decode cX11_smaller 34 = .ok (.iaload, 1) := by decide +kernel
theorem dX11_smaller_35 : decode cX11_smaller 35 = .ok (.if_icmp .ge 9, 3) := by decide +kernel
theorem dX11_smaller_38 : decode cX11_smaller 38 = .ok (.iload_n 1, 1) := by decide +kernel
theorem dX11_smaller_39 : decode cX11_smaller 39 = .ok (.iconst 1, 1) := by decide +kernel
theorem dX11_smaller_40 : decode cX11_smaller 40 = .ok (.iload_n 2, 1) := by decide +kernel
theorem dX11_smaller_41 : decode cX11_smaller 41 = .ok (.ishl, 1) := by decide +kernel
theorem dX11_smaller_42 : decode cX11_smaller 42 = .ok (.ior, 1) := by decide +kernel
theorem dX11_smaller_43 : decode cX11_smaller 43 = .ok (.istore_n 1, 1) := by decide +kernel
theorem dX11_smaller_44 : decode cX11_smaller 44 = .ok (.iinc 2 1, 3) := by decide +kernel
theorem dX11_smaller_47 : decode cX11_smaller 47 = .ok (.goto (-43), 3) := by decide +kernel
theorem dX11_smaller_50 : decode cX11_smaller 50 = .ok (.iload_n 1, 1) := by decide +kernel
theorem dX11_smaller_51 : decode cX11_smaller 51 = .ok (.ireturn, 1) := by decide +kernel
theorem dX11_year_0 : decode cX11_year 0 = .ok (.aload_n 0, 1) := by decide +kernel
theorem dX11_year_1 : decode cX11_year 1 = .ok (.getfield 113, 3) := by decide +kernel
theorem dX11_year_4 : decode cX11_year 4 = .ok (.bipush 40, 2) := by decide +kernel
theorem dX11_year_6 : decode cX11_year 6 = .ok (.iaload, 1) := by decide +kernel
theorem dX11_year_7 : decode cX11_year 7 = .ok (.sipush 999, 3) := by decide +kernel
theorem dX11_year_10 : decode cX11_year 10 = .ok (.if_icmp .ne 5, 3) := by decide +kernel
theorem dX11_year_13 : decode cX11_year 13 = .ok (.iconst (-1), 1) := by decide +kernel
theorem dX11_year_14 : decode cX11_year 14 = .ok (.ireturn, 1) := by decide +kernel
theorem dX11_year_15 : decode cX11_year 15 = .ok (.aload_n 0, 1) := by decide +kernel
theorem dX11_year_16 : decode cX11_year 16 = .ok (.invokevirtual 450, 3) := by decide +kernel
theorem dX11_year_19 : decode cX11_year 19 = .ok (.aload_n 0, 1) := by decide +kernel
theorem dX11_year_20 : decode cX11_year 20 = .ok (.invokevirtual 453, 3) := by decide +kernel
theorem dX11_year_23 : decode cX11_year 23 = .ok (.aload_n 0, 1) := by decide +kernel
theorem dX11_year_24 : decode cX11_year 24 = .ok (.invokevirtual 456, 3) := by decide +kernel
theorem dX11_year_27 : decode cX11_year 27 = .ok (.aload_n 0, 1) := by decide +kernel
theorem dX11_year_28 : decode cX11_year 28 = .ok (.invokevirtual 459, 3) := by decide +kernel
theorem dX11_year_31 : decode cX11_year 31 = .ok (.invokestatic 462, 3) := by decide +kernel
theorem dX11_year_34 : decode cX11_year 34 = .ok (.ireturn, 1) := by decide +kernel
theorem dX11_undo_0 : decode cX11_undo 0 = .ok (.aload_n 0, 1) := by decide +kernel
theorem dX11_undo_1 : decode cX11_undo 1 = .ok (.getfield 395, 3) := by decide +kernel
theorem dX11_undo_4 : decode cX11_undo 4 = .ok (.ifCond .ne 5, 3) := by decide +kernel
theorem dX11_undo_7 : decode cX11_undo 7 = .ok (.iconst 0, 1) := by decide +kernel
theorem dX11_undo_8 : decode cX11_undo 8 = .ok (.ireturn, 1) := by decide +kernel
theorem dX11_undo_9 : decode cX11_undo 9 = .ok (.aload_n 0, 1) := by decide +kernel
theorem dX11_undo_10 : decode cX11_undo 10 = .ok (.dup, 1) := by decide +kernel
theorem dX11_undo_11 : decode cX11_undo 11 = .ok (.getfield 395, 3) := by decide +kernel
theorem dX11_undo_14 : decode cX11_undo 14 = .ok (.iconst 1, 1) := by decide +kernel
theorem dX11_undo_15 : decode cX11_undo 15 = .ok (.isub, 1) := by decide +kernel
theorem dX11_undo_16 : decode cX11_undo 16 = .ok (.putfield 395, 3) := by decide +kernel
theorem dX11_undo_19 : decode cX11_undo 19 = .ok (.aload_n 0, 1) := by decide +kernel
theorem dX11_undo_20 : decode cX11_undo 20 = .ok (.dup, 1) := by decide +kernel
theorem dX11_undo_21 : decode cX11_undo 21 = .ok (.getfield 398, 3) := by decide +kernel
theorem dX11_undo_24 : decode cX11_undo 24 = .ok (.iconst 1, 1) := by decide +kernel
theorem dX11_undo_25 : decode cX11_undo 25 = .ok (.iadd, 1) := by decide +kernel
theorem dX11_undo_26 : decode cX11_undo 26 = .ok (.putfield 398, 3) := by decide +kernel
theorem dX11_undo_29 : decode cX11_undo 29 = .ok (.aload_n 0, 1) := by decide +kernel
theorem dX11_undo_30 : decode cX11_undo 30 = .ok (.invokevirtual 465, 3) := by decide +kernel
theorem dX11_undo_33 : decode cX11_undo 33 = .ok (.iconst 1, 1) := by decide +kernel
theorem dX11_undo_34 : decode cX11_undo 34 = .ok (.ireturn, 1) := by decide +kernel
theorem dX11_redo_0 : decode cX11_redo 0 = .ok (.aload_n 0, 1) := by decide +kernel
theorem dX11_redo_1 : decode cX11_redo 1 = .ok (.getfield 398, 3) := by decide +kernel
theorem dX11_redo_4 : decode cX11_redo 4 = .ok (.ifCond .ne 5, 3) := by decide +kernel
theorem dX11_redo_7 : decode cX11_redo 7 = .ok (.iconst 0, 1) := by decide +kernel
theorem dX11_redo_8 : decode cX11_redo 8 = .ok (.ireturn, 1) := by decide +kernel
theorem dX11_redo_9 : decode cX11_redo 9 = .ok (.aload_n 0, 1) := by decide +kernel
theorem dX11_redo_10 : decode cX11_redo 10 = .ok (.invokevirtual 465, 3) := by decide +kernel
theorem dX11_redo_13 : decode cX11_redo 13 = .ok (.aload_n 0, 1) := by decide +kernel
theorem dX11_redo_14 : decode cX11_redo 14 = .ok (.dup, 1) := by decide +kernel
theorem dX11_redo_15 : decode cX11_redo 15 = .ok (.getfield 395, 3) := by decide +kernel
theorem dX11_redo_18 : decode cX11_redo 18 = .ok (.iconst 1, 1) := by decide +kernel
theorem dX11_redo_19 : decode cX11_redo 19 = .ok (.iadd, 1) := by decide +kernel
theorem dX11_redo_20 : decode cX11_redo 20 = .ok (.putfield 395, 3) := by decide +kernel
theorem dX11_redo_23 : decode cX11_redo 23 = .ok (.aload_n 0, 1) := by decide +kernel
theorem dX11_redo_24 : decode cX11_redo 24 = .ok (.dup, 1) := by decide +kernel
theorem dX11_redo_25 : decode cX11_redo 25 = .ok (.getfield 398, 3) := by decide +kernel
theorem dX11_redo_28 : decode cX11_redo 28 = .ok (.iconst 1, 1) := by decide +kernel
theorem dX11_redo_29 : decode cX11_redo 29 = .ok (.isub, 1) := by decide +kernel
theorem dX11_redo_30 : decode cX11_redo 30 = .ok (.putfield 398, 3) := by decide +kernel
theorem dX11_redo_33 : decode cX11_redo 33 = .ok (.iconst 1, 1) := by decide +kernel
theorem dX11_redo_34 : decode cX11_redo 34 = .ok (.ireturn, 1) := by decide +kernel
theorem dX11_bringBack_0 : decode cX11_bringBack 0 = .ok (.iconst 0, 1) := by decide +kernel
theorem dX11_bringBack_1 : decode cX11_bringBack 1 = .ok (.istore_n 1, 1) := by decide +kernel
theorem dX11_bringBack_2 : decode cX11_bringBack 2 = .ok (.iload_n 1, 1) := by decide +kernel
theorem dX11_bringBack_3 : decode cX11_bringBack 3 = .ok (.bipush 43, 2) := by decide +kernel
theorem dX11_bringBack_5 : decode cX11_bringBack 5 = .ok (.if_icmp .ge 21, 3) := by decide +kernel
theorem dX11_bringBack_8 : decode cX11_bringBack 8 = .ok (.aload_n 0, 1) := by decide +kernel
theorem dX11_bringBack_9 : decode cX11_bringBack 9 = .ok (.getfield 113, 3) := by decide +kernel
theorem dX11_bringBack_12 : decode cX11_bringBack 12 = .ok (.iload_n 1, 1) := by decide +kernel
theorem dX11_bringBack_13 : decode cX11_bringBack 13 = .ok (.aload_n 0, 1) := by decide +kernel
theorem dX11_bringBack_14 : decode cX11_bringBack 14 = .ok (.getfield 119, 3) := by decide +kernel
theorem dX11_bringBack_17 : decode cX11_bringBack 17 = .ok (.iload_n 1, 1) := by decide +kernel
theorem dX11_bringBack_18 : decode cX11_bringBack 18 = .ok (.iaload, 1) := by decide +kernel
theorem dX11_bringBack_19 : decode cX11_bringBack 19 = .ok (.iastore, 1) := by decide +kernel
theorem dX11_bringBack_20 : decode cX11_bringBack 20 = .ok (.iinc 1 1, 3) := by decide +kernel
theorem dX11_bringBack_23 : decode cX11_bringBack 23 = .ok (.goto (-21), 3) := by decide +kernel
theorem dX11_bringBack_26 : decode cX11_bringBack 26 = .ok (.return_, 1) := by decide +kernel
theorem dX11_lost_0 : decode cX11_lost 0 = .ok (.iconst 0, 1) := by decide +kernel
theorem dX11_lost_1 : decode cX11_lost 1 = .ok (.istore_n 1, 1) := by decide +kernel
theorem dX11_lost_2 : decode cX11_lost 2 = .ok (.iconst 0, 1) := by decide +kernel
theorem dX11_lost_3 : decode cX11_lost 3 = .ok (.istore_n 2, 1) := by decide +kernel
theorem dX11_lost_4 : decode cX11_lost 4 = .ok (.iload_n 2, 1) := by decide +kernel
theorem dX11_lost_5 : decode cX11_lost 5 = .ok (.aload_n 0, 1) := by decide +kernel
theorem dX11_lost_6 : decode cX11_lost 6 = .ok (.getfield 27, 3) := by decide +kernel
theorem dX11_lost_9 : decode cX11_lost 9 = .ok (.aload_n 0, 1) := by decide +kernel
theorem dX11_lost_10 : decode cX11_lost 10 = .ok (.getfield 273, 3) := by decide +kernel
theorem dX11_lost_13 : decode cX11_lost 13 = .ok (.iaload, 1) := by decide +kernel
theorem dX11_lost_14 : decode cX11_lost 14 = .ok (.if_icmp .ge 39, 3) := by decide +kernel
theorem dX11_lost_17 : decode cX11_lost 17 = .ok (.aload_n 0, 1) := by decide +kernel
theorem dX11_lost_18 : decode cX11_lost 18 = .ok (.getfield 113, 3) := by decide +kernel
theorem dX11_lost_21 : decode cX11_lost 21 = .ok (.bipush 15, 2) := by decide +kernel
theorem dX11_lost_23 : decode cX11_lost 23 = .ok (.iload_n 2, 1) := by decide +kernel
theorem dX11_lost_24 : decode cX11_lost 24 = .ok (.iadd, 1) := by decide +kernel
theorem dX11_lost_25 : decode cX11_lost 25 = .ok (.iaload, 1) := by decide +kernel
theorem dX11_lost_26 : decode cX11_lost 26 = .ok (.ifCond .ne 21, 3) := by decide +kernel
theorem dX11_lost_29 : decode cX11_lost 29 = .ok (.aload_n 0, 1) := by decide +kernel
theorem dX11_lost_30 : decode cX11_lost 30 = .ok (.getfield 119, 3) := by decide +kernel
theorem dX11_lost_33 : decode cX11_lost 33 = .ok (.bipush 15, 2) := by decide +kernel
theorem dX11_lost_35 : decode cX11_lost 35 = .ok (.iload_n 2, 1) := by decide +kernel
theorem dX11_lost_36 : decode cX11_lost 36 = .ok (.iadd, 1) := by decide +kernel
theorem dX11_lost_37 : decode cX11_lost 37 = .ok (.iaload, 1) := by decide +kernel
theorem dX11_lost_38 : decode cX11_lost 38 = .ok (.ifCond .le 9, 3) := by decide +kernel
theorem dX11_lost_41 : decode cX11_lost 41 = .ok (.iload_n 1, 1) := by decide +kernel
theorem dX11_lost_42 : decode cX11_lost 42 = .ok (.iconst 1, 1) := by decide +kernel
theorem dX11_lost_43 : decode cX11_lost 43 = .ok (.iload_n 2, 1) := by decide +kernel
theorem dX11_lost_44 : decode cX11_lost 44 = .ok (.ishl, 1) := by decide +kernel
theorem dX11_lost_45 : decode cX11_lost 45 = .ok (.ior, 1) := by decide +kernel
theorem dX11_lost_46 : decode cX11_lost 46 = .ok (.istore_n 1, 1) := by decide +kernel
theorem dX11_lost_47 : decode cX11_lost 47 = .ok (.iinc 2 1, 3) := by decide +kernel
theorem dX11_lost_50 : decode cX11_lost 50 = .ok (.goto (-46), 3) := by decide +kernel
theorem dX11_lost_53 : decode cX11_lost 53 = .ok (.iload_n 1, 1) := by decide +kernel
theorem dX11_lost_54 : decode cX11_lost 54 = .ok (.ireturn, 1) := by decide +kernel
set_option maxRecDepth 100000 in
theorem m_X11_store (l : Launch) (D : va_G) (cT : Nat → ClassId) (T : Nat → Option Nat) (q : Nat → Int) (hT : tokm T) (hq : qkm q) (a0 : Nat) (t0 : T a0 = some 0) (y1 : Int32) (j1 : IV y1 (-2147483648) 2147483647) : th_Met l D cT T (km q) yX11_store cX11_store 2 (some .int) (rmk 2 43) [.ref a0, .int y1] (th_R T (some (.inl (-2147483648, 2147483647)))) [] := by
  refine th_start (by decide) (Nat.le_of_ble_eq_true rfl) ?_
  intro p e s m below meth c ls S hK hH hr hlocks hnm hl
  have hx := S.1
  have hb := S.2.1
  have hl : lv_has ls 2 [(0, .ref a0), (1, .int y1)] := hl
  have J20 : ∀ (H : Heap) (locs : List Loc) (ls : Array Slot) (w20_0 : Int32), IV w20_0 (-2147483648) 2147483647 → th_H D cT T (km q) H → va_S (th_A T []) s.heap H locs → lv_has ls 2 [] → W p l e (rmk 2 43) s m [.ref a0, .int y1].toArray below meth c H locs 0 0 (MQ below (th_Q D cT T (km q) (th_R T (some (.inl (-2147483648, 2147483647)))) []) [.ref a0, .int y1].toArray s 0 0 (th_A T [])) (F0 m 20 ls [.int w20_0]) := by
    intro H locs ls w20_0 iw20_0 hH hS hl
    exact th_iret S hK hH hS hr hlocks (th_R.i iw20_0) dX11_store_20
  have J20_s0_m1 : ∀ (H : Heap) (locs : List Loc) (ls : Array Slot), th_H D cT T (km q) H → va_S (th_A T []) s.heap H locs → lv_has ls 2 [] → W p l e (rmk 2 43) s m [.ref a0, .int y1].toArray below meth c H locs 0 0 (MQ below (th_Q D cT T (km q) (th_R T (some (.inl (-2147483648, 2147483647)))) []) [.ref a0, .int y1].toArray s 0 0 (th_A T [])) (F0 m 20 ls [.int (-1)]) := by
    intro H locs ls hH hS hl
    exact th_iret S hK hH hS hr hlocks (th_R.i (iv_top _)) dX11_store_20
  have J0 : ∀ (H : Heap) (locs : List Loc) (ls : Array Slot), th_H D cT T (km q) H → va_S (th_A T []) s.heap H locs → lv_has ls 2 [(0, .ref a0), (1, .int y1)] → W p l e (rmk 2 43) s m [.ref a0, .int y1].toArray below meth c H locs 0 0 (MQ below (th_Q D cT T (km q) (th_R T (some (.inl (-2147483648, 2147483647)))) []) [.ref a0, .int y1].toArray s 0 0 (th_A T [])) (F0 m 0 ls []) := by
    intro H locs ls hH hS hl
    refine lv_aload_n hx hb dX11_store_0 rfl (lv_at hl 0 rfl) ?_
    refine lv_iload_n hx hb dX11_store_1 rfl (lv_at hl 1 rfl) ?_
    refine th_callVp (n := 1) (As := [.int y1]) S hK hH hS (th_A.sub (by decide)) (m_X11_isFood l D cT T q hT hq a0 t0 (y1) j1) gm_1615 gm_1612 gm_1614 gm_79 gm_124 (by decide +kernel) ⟨rfl, rfl, Nat.le_of_ble_eq_true rfl, Nat.le_of_ble_eq_true rfl⟩ t0 km_0 rfl rfl hl.1 rfl (Nat.le_of_ble_eq_true rfl) dX11_store_2 ⟨Nat.zero_le _, Nat.zero_le _⟩ (fun x1 H locs ix1 ox1 hH hS hF1 => ?_)
    have ox1 : x1.toInt ≠ 0 → 0 ≤ y1.toInt ∧ y1.toInt < q 16 := ox1
    refine lv_if_eq (tgt := 19) hx hb dX11_store_5 (by decide) (fun c2 => ?_) (fun c2 => ?_)
    · skip
      have rlc2 : x1.toInt = (0 : Int) := congrArg Int32.toInt c2
      have ir3 : IV x1 0 0 := iv_eL c2 (iv_c (by decide) : IV 0 0 0)
      have ir3a := ir3.1; have ir3b := ir3.2
      refine lv_iconst (v := (-1)) hx hb dX11_store_19 (by decide) ?_
      exact J20_s0_m1 H locs ls  hH hS (lv_sub hl [] rfl)
    · skip
      have rlc2 : x1.toInt ≠ (0 : Int) := iv_ne c2
      have ir4 : IV x1 1 1 := iv_cutL ix1 (iv_c (by decide) : IV 0 0 0) c2 (by decide)
      have ir4a := ir4.1; have ir4b := ir4.2
      have ir5 : IV y1 0 2 := ((fun z => by have z1 := iv_ne z; have z2 : x1.toInt ≠ 0 := z1; have z60 := qkm_16 hq; exact ⟨by omega, by omega⟩) : ¬ x1 = 0 → IV y1 0 2) c2
      have ir5a := ir5.1; have ir5b := ir5.2
      refine lv_aload_n hx hb dX11_store_8 rfl (lv_at hl 0 rfl) ?_
      refine th_get S hK hH inG11 t0 km_0 rfl 52 (by decide) gm_1282 rfl rfl dX11_store_9 (fun v6 hv6 fv6 => ?_)
      obtain ⟨rf7, rfl, trf7⟩ := th_V.ref hv6
      refine lv_iconst (v := 0) hx hb dX11_store_12 (by decide) ?_
      refine lv_iload_n hx hb dX11_store_13 rfl (lv_at hl 1 rfl) ?_
      refine lv_iadd hx hb dX11_store_14 ?_
      refine lv_topi (fun x8 ex8 => ?_)
      have ix8 : IV x8 0 2 := by rw [ex8]; exact iv_add (iv_c (by decide) : IV 0 0 0) ir5 (by decide)
      have ux8 : x8.toInt = (0 : Int) + y1.toInt := by rw [ex8]; exact iv_addE (by have z1 := ((iv_c (by decide) : IV 0 0 0)).1; have z2 := ((iv_c (by decide) : IV 0 0 0)).2; have z3 := (ir5).1; have z4 := (ir5).2; omega)
      refine th_iald S hK hH trf7 km_33 (th_in (hi := 2) ix8 (by decide)) dX11_store_15 (fun v9 hv9 => ?_)
      obtain ⟨x10, rfl, ix10⟩ := th_V.int hv9
      refine lv_goto (tgt := 20) hx hb dX11_store_16 (by decide) ?_
      exact J20 H locs ls x10 ix10 hH hS (lv_sub hl [] rfl)
  exact J0 s.heap [] ls hH va_S.rf hl

set_option maxRecDepth 100000 in
theorem m_X11_placesOn (l : Launch) (D : va_G) (cT : Nat → ClassId) (T : Nat → Option Nat) (q : Nat → Int) (hT : tokm T) (hq : qkm q) (a0 : Nat) (t0 : T a0 = some 0) (y1 : Int32) (j1 : IV y1 0 3) : th_Met l D cT T (km q) yX11_placesOn cX11_placesOn 4 (some .int) (rmk 2 43) [.ref a0, .int y1] (th_R T (some (.inl (-2147483648, 2147483647)))) [] := by
  refine th_start (by decide) (Nat.le_of_ble_eq_true rfl) ?_
  intro p e s m below meth c ls S hK hH hr hlocks hnm hl
  have hx := S.1
  have hb := S.2.1
  have l1y1 := j1.1; have l2y1 := j1.2
  have hl : lv_has ls 4 [(0, .ref a0), (1, .int y1)] := hl
  have J4 : ∀ (n : Nat) (H : Heap) (locs : List Loc) (ls : Array Slot) (v4_2 : Int32) (v4_3 : Int32), IV v4_2 (-2147483648) 2147483647 → IV v4_3 0 8 → th_H D cT T (km q) H → va_S (th_A T []) s.heap H locs → lv_has ls 4 [(0, .ref a0), (1, .int y1), (2, .int v4_2), (3, .int v4_3)] → (8 + 1 - Int32.toInt v4_3).toNat < n → W p l e (rmk 2 43) s m [.ref a0, .int y1].toArray below meth c H locs 0 0 (MQ below (th_Q D cT T (km q) (th_R T (some (.inl (-2147483648, 2147483647)))) []) [.ref a0, .int y1].toArray s 0 0 (th_A T [])) (F0 m 4 ls []) := by
    intro n
    induction n with
    | zero => intro H locs ls v4_2 v4_3 iv4_2 iv4_3 hH hS hl hn; exact absurd hn (Nat.not_lt_zero _)
    | succ n ih4 =>
      intro H locs ls v4_2 v4_3 iv4_2 iv4_3 hH hS hl hn4
      have J32 : ∀ (H : Heap) (locs : List Loc) (ls : Array Slot) (v32_2 : Int32), IV v32_2 (-2147483648) 2147483647 → IV v4_3 0 7 → th_H D cT T (km q) H → va_S (th_A T []) s.heap H locs → lv_has ls 4 [(0, .ref a0), (1, .int y1), (2, .int v32_2), (3, .int v4_3)] → W p l e (rmk 2 43) s m [.ref a0, .int y1].toArray below meth c H locs 0 0 (MQ below (th_Q D cT T (km q) (th_R T (some (.inl (-2147483648, 2147483647)))) []) [.ref a0, .int y1].toArray s 0 0 (th_A T [])) (F0 m 32 ls []) := by
        intro H locs ls v32_2 iv32_2 f32_v4_3 hH hS hl
        refine th_iinc S dX11_placesOn_32 hl (k := 3) rfl (by decide) f32_v4_3 (by decide) (fun x1 ls ex1 ix1 hl => ?_)
        have hl : lv_has ls 4 [(3, .int x1), (0, .ref a0), (1, .int y1), (2, .int v32_2)] := hl
        have ix1 : IV x1 1 8 := ix1
        refine lv_goto (tgt := 4) hx hb dX11_placesOn_35 (by decide) ?_
        exact ih4 H locs ls v32_2 x1 iv32_2 (iv_w ix1 (by decide)) hH hS (lv_sub hl [1, 2, 3, 0] rfl) (th_up iv4_3 ex1 (by decide) hn4)
      have l1v4_3 := iv4_3.1; have l2v4_3 := iv4_3.2
      refine lv_iload_n hx hb dX11_placesOn_4 rfl (lv_at hl 3 rfl) ?_
      refine lv_aload_n hx hb dX11_placesOn_5 rfl (lv_at hl 0 rfl) ?_
      refine th_get S hK hH inG11 t0 km_0 rfl 13 (by decide) gm_1243 rfl rfl dX11_placesOn_6 (fun v2 hv2 fv2 => ?_)
      obtain ⟨rf3, rfl, trf3⟩ := th_V.ref hv2
      refine lv_aload_n hx hb dX11_placesOn_9 rfl (lv_at hl 0 rfl) ?_
      refine th_get S hK hH inG11 t0 km_0 rfl 41 (by decide) gm_1271 rfl rfl dX11_placesOn_10 (fun v4 hv4 fv4 => ?_)
      obtain ⟨x5, rfl, ix5⟩ := th_V.int hv4
      have kx5a : q 10 ≤ x5.toInt := ix5.1
      have kx5b : x5.toInt ≤ q 10 := ix5.2
      have ix5 : IV x5 0 1 := iv_w ix5 (qkm_10 hq)
      refine th_iald S hK hH trf3 km_5 (th_in (hi := 1) ix5 (by decide)) dX11_placesOn_13 (fun v6 hv6 => ?_)
      obtain ⟨x7, rfl, ix7⟩ := th_bkA hv6 ix5 (by omega)
      have kx7a : q 18 ≤ x7.toInt := ix7.1
      have kx7b : x7.toInt ≤ q 18 := ix7.2
      have ix7 : IV x7 0 8 := iv_w ix7 (qkm_18 hq)
      refine lv_icmp_ge (tgt := 38) hx hb dX11_placesOn_14 (by decide) (fun c8 => ?_) (fun c8 => ?_)
      · skip
        have rlc8 : x7.toInt ≤ v4_3.toInt := iv_le c8
        refine lv_iload_n hx hb dX11_placesOn_38 rfl (lv_at hl 2 rfl) ?_
        exact th_iret S hK hH hS hr hlocks (th_R.i iv4_2) dX11_placesOn_39
      · skip
        have rlc8 : v4_3.toInt < x7.toInt := iv_nle c8
        have ir9 : IV v4_3 0 7 := iv_uL iv4_3 ix7 (iv_nle c8) (by decide)
        have ir9a := ir9.1; have ir9b := ir9.2
        have ir10 : IV x7 1 8 := iv_uR iv4_3 ix7 (iv_nle c8) (by decide)
        have ir10a := ir10.1; have ir10b := ir10.2
        refine lv_aload_n hx hb dX11_placesOn_17 rfl (lv_at hl 0 rfl) ?_
        refine lv_iload_n hx hb dX11_placesOn_18 rfl (lv_at hl 3 rfl) ?_
        refine lv_iload_n hx hb dX11_placesOn_19 rfl (lv_at hl 1 rfl) ?_
        refine th_callVi (n := 2) (As := [.int v4_3, .int y1]) S hK hH hS (th_A.sub (by decide)) (m_X11_isOn l D cT T q hT hq a0 t0 (v4_3) ir9 (y1) (iv_top _)) gm_1664 gm_1661 gm_1663 gm_88 gm_124 (by decide +kernel) ⟨rfl, rfl, Nat.le_of_ble_eq_true rfl, Nat.le_of_ble_eq_true rfl⟩ t0 km_0 rfl rfl hl.1 rfl (Nat.le_of_ble_eq_true rfl) dX11_placesOn_20 ⟨Nat.zero_le _, Nat.zero_le _⟩ (fun x11 H locs ix11 hH hS hF1 => ?_)
        refine lv_if_eq (tgt := 32) hx hb dX11_placesOn_23 (by decide) (fun c12 => ?_) (fun c12 => ?_)
        · skip
          have rlc12 : x11.toInt = (0 : Int) := congrArg Int32.toInt c12
          have ir13 : IV x11 0 0 := iv_eL c12 (iv_c (by decide) : IV 0 0 0)
          have ir13a := ir13.1; have ir13b := ir13.2
          exact J32 H locs ls v4_2 iv4_2 ir9 hH hS (lv_sub hl [0, 1, 2, 3] rfl)
        · skip
          have rlc12 : x11.toInt ≠ (0 : Int) := iv_ne c12
          have ir14 : IV x11 1 1 := iv_cutL ix11 (iv_c (by decide) : IV 0 0 0) c12 (by decide)
          have ir14a := ir14.1; have ir14b := ir14.2
          refine lv_iload_n hx hb dX11_placesOn_26 rfl (lv_at hl 2 rfl) ?_
          refine lv_iconst (v := 1) hx hb dX11_placesOn_27 (by decide) ?_
          refine lv_iload_n hx hb dX11_placesOn_28 rfl (lv_at hl 3 rfl) ?_
          refine lv_ishl hx hb dX11_placesOn_29 ?_
          refine lv_topi (fun x15 ex15 => ?_)
          have ix15 := iv_top x15
          have ix15 : IV x15 1 1073741824 := by rw [ex15]; exact iv_shl1 (iv_w ir9 (by decide))
          refine lv_ior hx hb dX11_placesOn_30 ?_
          refine lv_topi (fun x16 ex16 => ?_)
          have ix16 := iv_top x16
          refine lv_istore_n (lv' := [(2, .int x16), (0, .ref a0), (1, .int y1), (3, .int v4_3)]) hx hb dX11_placesOn_31 rfl hl (by decide) rfl (fun ls hl => ?_)
          exact J32 H locs ls x16 ix16 ir9 hH hS (lv_sub hl [1, 2, 0, 3] rfl)
  have J0 : ∀ (H : Heap) (locs : List Loc) (ls : Array Slot), th_H D cT T (km q) H → va_S (th_A T []) s.heap H locs → lv_has ls 4 [(0, .ref a0), (1, .int y1)] → W p l e (rmk 2 43) s m [.ref a0, .int y1].toArray below meth c H locs 0 0 (MQ below (th_Q D cT T (km q) (th_R T (some (.inl (-2147483648, 2147483647)))) []) [.ref a0, .int y1].toArray s 0 0 (th_A T [])) (F0 m 0 ls []) := by
    intro H locs ls hH hS hl
    refine lv_iconst (v := 0) hx hb dX11_placesOn_0 (by decide) ?_
    refine lv_istore_n (lv' := [(2, .int 0), (0, .ref a0), (1, .int y1)]) hx hb dX11_placesOn_1 rfl hl (by decide) rfl (fun ls hl => ?_)
    refine lv_iconst (v := 0) hx hb dX11_placesOn_2 (by decide) ?_
    refine lv_istore_n (lv' := [(3, .int 0), (2, .int 0), (0, .ref a0), (1, .int y1)]) hx hb dX11_placesOn_3 rfl hl (by decide) rfl (fun ls hl => ?_)
    exact J4 ((8 + 1 - Int32.toInt 0).toNat + 1) H locs ls 0 0 (iv_top _) (iv_w (iv_c (by decide) : IV 0 0 0) (by decide)) hH hS (lv_sub hl [2, 3, 1, 0] rfl) (Nat.lt_succ_self _)
  exact J0 s.heap [] ls hH va_S.rf hl

set_option maxRecDepth 100000 in
theorem m_X11_map (l : Launch) (D : va_G) (cT : Nat → ClassId) (T : Nat → Option Nat) (q : Nat → Int) (hT : tokm T) (hq : qkm q) (a0 : Nat) (t0 : T a0 = some 0) (y1 : Int32) (j1 : IV y1 (-2147483648) 2147483647) (y2 : Int32) (j2 : IV y2 (-2147483648) 2147483647) : th_Met l D cT T (km q) yX11_map cX11_map 3 (some .int) (rmk 3 69) [.ref a0, .int y1, .int y2] (th_R T (some (.inl (-2147483648, 2147483647)))) [0, 32] := by
  refine th_start (by decide) (Nat.le_of_ble_eq_true rfl) ?_
  intro p e s m below meth c ls S hK hH hr hlocks hnm hl
  have hx := S.1
  have hb := S.2.1
  have hl : lv_has ls 3 [(0, .ref a0), (1, .int y1), (2, .int y2)] := hl
  have J0 : ∀ (H : Heap) (locs : List Loc) (ls : Array Slot), th_H D cT T (km q) H → va_S (th_A T [0, 32]) s.heap H locs → lv_has ls 3 [(0, .ref a0), (1, .int y1), (2, .int y2)] → W p l e (rmk 3 69) s m [.ref a0, .int y1, .int y2].toArray below meth c H locs 0 0 (MQ below (th_Q D cT T (km q) (th_R T (some (.inl (-2147483648, 2147483647)))) [0, 32]) [.ref a0, .int y1, .int y2].toArray s 0 0 (th_A T [0, 32])) (F0 m 0 ls []) := by
    intro H locs ls hH hS hl
    refine lv_aload_n hx hb dX11_map_0 rfl (lv_at hl 0 rfl) ?_
    refine lv_iload_n hx hb dX11_map_1 rfl (lv_at hl 1 rfl) ?_
    refine th_callVp (n := 1) (As := [.int y1]) S hK hH hS (th_A.sub (by decide)) (m_X11_isMap l D cT T q hT hq a0 t0 (y1) j1) gm_1626 gm_1623 gm_1625 gm_80 gm_124 (by decide +kernel) ⟨rfl, rfl, Nat.le_of_ble_eq_true rfl, Nat.le_of_ble_eq_true rfl⟩ t0 km_0 rfl rfl hl.1 rfl (Nat.le_of_ble_eq_true rfl) dX11_map_2 ⟨Nat.zero_le _, Nat.zero_le _⟩ (fun x1 H locs ix1 ox1 hH hS hF1 => ?_)
    have ox1 : x1.toInt ≠ 0 → 0 ≤ y1.toInt ∧ y1.toInt < q 11 := ox1
    refine lv_if_ne (tgt := 10) hx hb dX11_map_5 (by decide) (fun c2 => ?_) (fun c2 => ?_)
    · skip
      have rlc2 : x1.toInt ≠ (0 : Int) := iv_ne c2
      have ir3 : IV x1 1 1 := iv_cutL ix1 (iv_c (by decide) : IV 0 0 0) c2 (by decide)
      have ir3a := ir3.1; have ir3b := ir3.2
      have ir4 : IV y1 0 3 := ((fun z => by have z1 := iv_ne z; have z2 : x1.toInt ≠ 0 := z1; have z60 := qkm_11 hq; exact ⟨by omega, by omega⟩) : ¬ x1 = 0 → IV y1 0 3) c2
      have ir4a := ir4.1; have ir4b := ir4.2
      refine lv_iload_n hx hb dX11_map_10 rfl (lv_at hl 2 rfl) ?_
      by_cases c5 : y2.toInt < 0 ∨ 7 < y2.toInt
      · refine lv_tableOut (tgt := 134) hx hb dX11_map_11 c5 (by decide) ?_
        refine lv_iconst (v := (-1)) hx hb dX11_map_134 (by decide) ?_
        exact th_iret S hK hH hS hr hlocks (th_R.i (iv_top _)) dX11_map_135
      · rcases (show y2.toInt = 0 ∨ y2.toInt = 1 ∨ y2.toInt = 2 ∨ y2.toInt = 3 ∨ y2.toInt = 4 ∨ y2.toInt = 5 ∨ y2.toInt = 6 ∨ y2.toInt = 7 by omega) with c5b | c5b | c5b | c5b | c5b | c5b | c5b | c5b
        · refine lv_tableIn (tgt := 56) (off := 45) hx hb dX11_map_11 (by omega) (by omega) (by rw [c5b]; rfl) (by decide) ?_
          refine lv_aload_n hx hb dX11_map_56 rfl (lv_at hl 0 rfl) ?_
          refine th_get S hK hH inG11 t0 km_0 rfl 19 (by decide) gm_1249 rfl rfl dX11_map_57 (fun v6 hv6 fv6 => ?_)
          obtain ⟨rf7, rfl, trf7⟩ := th_V.ref hv6
          refine lv_iconst (v := 4) hx hb dX11_map_60 (by decide) ?_
          refine lv_aload_n hx hb dX11_map_61 rfl (lv_at hl 0 rfl) ?_
          refine th_get S hK hH inG11 t0 km_0 rfl 41 (by decide) gm_1271 rfl rfl dX11_map_62 (fun v8 hv8 fv8 => ?_)
          obtain ⟨x9, rfl, ix9⟩ := th_V.int hv8
          have kx9a : q 10 ≤ x9.toInt := ix9.1
          have kx9b : x9.toInt ≤ q 10 := ix9.2
          have ix9 : IV x9 0 1 := iv_w ix9 (qkm_10 hq)
          refine lv_imul hx hb dX11_map_65 ?_
          refine lv_topi (fun x10 ex10 => ?_)
          have ix10 : IV x10 0 4 := by rw [ex10]; exact iv_mul (iv_c (by decide) : IV 4 4 4) ix9 (by decide) (by decide)
          have ux10 : x10.toInt = (4 : Int) * x9.toInt := by rw [ex10]; exact iv_mulE (iv_corner ((iv_c (by decide) : IV 4 4 4)).1 ((iv_c (by decide) : IV 4 4 4)).2 (ix9).1 (ix9).2 (by decide))
          refine lv_iload_n hx hb dX11_map_66 rfl (lv_at hl 1 rfl) ?_
          refine lv_iadd hx hb dX11_map_67 ?_
          refine lv_topi (fun x11 ex11 => ?_)
          have ix11 : IV x11 0 7 := by rw [ex11]; exact iv_add ix10 ir4 (by decide)
          have ux11 : x11.toInt = x10.toInt + y1.toInt := by rw [ex11]; exact iv_addE (by have z1 := (ix10).1; have z2 := (ix10).2; have z3 := (ir4).1; have z4 := (ir4).2; omega)
          refine th_iald S hK hH trf7 km_11 (th_in (hi := 7) ix11 (by decide)) dX11_map_68 (fun v12 hv12 => ?_)
          obtain ⟨x13, rfl, ix13⟩ := th_V.int hv12
          exact th_iret S hK hH hS hr hlocks (th_R.i ix13) dX11_map_69
        · refine lv_tableIn (tgt := 70) (off := 59) hx hb dX11_map_11 (by omega) (by omega) (by rw [c5b]; rfl) (by decide) ?_
          refine lv_aload_n hx hb dX11_map_70 rfl (lv_at hl 0 rfl) ?_
          refine lv_iload_n hx hb dX11_map_71 rfl (lv_at hl 1 rfl) ?_
          refine th_callVi (n := 1) (As := [.int y1]) S hK hH hS (th_A.sub (by decide)) (m_X11_hungerOf l D cT T q hT hq a0 t0 (y1) ir4 (show y1.toInt < q 11 by first | assumption | omega)) gm_1630 gm_1627 gm_1629 gm_81 gm_124 (by decide +kernel) ⟨rfl, rfl, Nat.le_of_ble_eq_true rfl, Nat.le_of_ble_eq_true rfl⟩ t0 km_0 rfl rfl hl.1 rfl (Nat.le_of_ble_eq_true rfl) dX11_map_72 ⟨Nat.zero_le _, Nat.zero_le _⟩ (fun x14 H locs ix14 hH hS hF1 => ?_)
          exact th_iret S hK hH hS hr hlocks (th_R.i (iv_top _)) dX11_map_75
        · refine lv_tableIn (tgt := 76) (off := 65) hx hb dX11_map_11 (by omega) (by omega) (by rw [c5b]; rfl) (by decide) ?_
          refine lv_aload_n hx hb dX11_map_76 rfl (lv_at hl 0 rfl) ?_
          refine lv_iload_n hx hb dX11_map_77 rfl (lv_at hl 1 rfl) ?_
          refine th_callVi (n := 1) (As := [.int y1]) S hK hH hS (th_A.sub (by decide)) (m_X11_givenTo l D cT T q hT hq a0 t0 (y1) ir4) gm_1652 gm_1649 gm_1651 gm_85 gm_124 (by decide +kernel) ⟨rfl, rfl, Nat.le_of_ble_eq_true rfl, Nat.le_of_ble_eq_true rfl⟩ t0 km_0 rfl rfl hl.1 rfl (Nat.le_of_ble_eq_true rfl) dX11_map_78 ⟨Nat.zero_le _, Nat.zero_le _⟩ (fun x15 H locs ix15 hH hS hF1 => ?_)
          exact th_iret S hK hH hS hr hlocks (th_R.i ix15) dX11_map_81
        · refine lv_tableIn (tgt := 82) (off := 71) hx hb dX11_map_11 (by omega) (by omega) (by rw [c5b]; rfl) (by decide) ?_
          refine lv_aload_n hx hb dX11_map_82 rfl (lv_at hl 0 rfl) ?_
          refine th_get S hK hH inG11 t0 km_0 rfl 52 (by decide) gm_1282 rfl rfl dX11_map_83 (fun v16 hv16 fv16 => ?_)
          obtain ⟨rf17, rfl, trf17⟩ := th_V.ref hv16
          refine lv_bipush (v := 31) hx hb dX11_map_86 (by decide) ?_
          refine lv_iload_n hx hb dX11_map_88 rfl (lv_at hl 1 rfl) ?_
          refine lv_iadd hx hb dX11_map_89 ?_
          refine lv_topi (fun x18 ex18 => ?_)
          have ix18 : IV x18 31 34 := by rw [ex18]; exact iv_add (iv_c (by decide) : IV 31 31 31) ir4 (by decide)
          have ux18 : x18.toInt = (31 : Int) + y1.toInt := by rw [ex18]; exact iv_addE (by have z1 := ((iv_c (by decide) : IV 31 31 31)).1; have z2 := ((iv_c (by decide) : IV 31 31 31)).2; have z3 := (ir4).1; have z4 := (ir4).2; omega)
          refine th_iald S hK hH trf17 km_33 (th_in (hi := 34) (iv_w ix18 (by decide)) (by decide)) dX11_map_90 (fun v19 hv19 => ?_)
          obtain ⟨x20, rfl, ix20⟩ := th_V.int hv19
          exact th_iret S hK hH hS hr hlocks (th_R.i ix20) dX11_map_91
        · refine lv_tableIn (tgt := 92) (off := 81) hx hb dX11_map_11 (by omega) (by omega) (by rw [c5b]; rfl) (by decide) ?_
          refine lv_aload_n hx hb dX11_map_92 rfl (lv_at hl 0 rfl) ?_
          refine th_get S hK hH inG11 t0 km_0 rfl 52 (by decide) gm_1282 rfl rfl dX11_map_93 (fun v21 hv21 fv21 => ?_)
          obtain ⟨rf22, rfl, trf22⟩ := th_V.ref hv21
          refine lv_bipush (v := 39) hx hb dX11_map_96 (by decide) ?_
          refine th_iald S hK hH trf22 km_33 (th_in (hi := 39) (iv_w (iv_c (by decide) : IV 39 39 39) (by decide)) (by decide)) dX11_map_98 (fun v23 hv23 => ?_)
          obtain ⟨x24, rfl, ix24⟩ := th_V.int hv23
          refine lv_iload_n hx hb dX11_map_99 rfl (lv_at hl 1 rfl) ?_
          refine lv_ishr hx hb dX11_map_100 ?_
          refine lv_topi (fun x25 ex25 => ?_)
          have ix25 := iv_top x25
          refine lv_iconst (v := 1) hx hb dX11_map_101 (by decide) ?_
          refine lv_iand hx hb dX11_map_102 ?_
          refine lv_topi (fun x26 ex26 => ?_)
          have ix26 : IV x26 0 1 := by rw [ex26]; exact iv_and (h2 := 1) (iv_w (iv_c (by decide) : IV 1 1 1) (by decide)) (by decide)
          exact th_iret S hK hH hS hr hlocks (th_R.i (iv_top _)) dX11_map_103
        · refine lv_tableIn (tgt := 104) (off := 93) hx hb dX11_map_11 (by omega) (by omega) (by rw [c5b]; rfl) (by decide) ?_
          refine lv_aload_n hx hb dX11_map_104 rfl (lv_at hl 0 rfl) ?_
          refine th_get S hK hH inG11 t0 km_0 rfl 52 (by decide) gm_1282 rfl rfl dX11_map_105 (fun v27 hv27 fv27 => ?_)
          obtain ⟨rf28, rfl, trf28⟩ := th_V.ref hv27
          refine lv_bipush (v := 35) hx hb dX11_map_108 (by decide) ?_
          refine lv_iload_n hx hb dX11_map_110 rfl (lv_at hl 1 rfl) ?_
          refine lv_iadd hx hb dX11_map_111 ?_
          refine lv_topi (fun x29 ex29 => ?_)
          have ix29 : IV x29 35 38 := by rw [ex29]; exact iv_add (iv_c (by decide) : IV 35 35 35) ir4 (by decide)
          have ux29 : x29.toInt = (35 : Int) + y1.toInt := by rw [ex29]; exact iv_addE (by have z1 := ((iv_c (by decide) : IV 35 35 35)).1; have z2 := ((iv_c (by decide) : IV 35 35 35)).2; have z3 := (ir4).1; have z4 := (ir4).2; omega)
          refine th_iald S hK hH trf28 km_33 (th_in (hi := 38) (iv_w ix29 (by decide)) (by decide)) dX11_map_112 (fun v30 hv30 => ?_)
          obtain ⟨x31, rfl, ix31⟩ := th_V.int hv30
          exact th_iret S hK hH hS hr hlocks (th_R.i ix31) dX11_map_113
        · refine lv_tableIn (tgt := 114) (off := 103) hx hb dX11_map_11 (by omega) (by omega) (by rw [c5b]; rfl) (by decide) ?_
          refine lv_aload_n hx hb dX11_map_114 rfl (lv_at hl 0 rfl) ?_
          refine lv_iload_n hx hb dX11_map_115 rfl (lv_at hl 1 rfl) ?_
          refine th_callVi (n := 1) (As := [.int y1]) S hK hH hS (th_A.sub (by decide)) (m_X11_placesOn l D cT T q hT hq a0 t0 (y1) ir4) gm_1660 gm_1657 gm_1659 gm_87 gm_124 (by decide +kernel) ⟨rfl, rfl, Nat.le_of_ble_eq_true rfl, Nat.le_of_ble_eq_true rfl⟩ t0 km_0 rfl rfl hl.1 rfl (Nat.le_of_ble_eq_true rfl) dX11_map_116 ⟨Nat.zero_le _, Nat.zero_le _⟩ (fun x32 H locs ix32 hH hS hF1 => ?_)
          exact th_iret S hK hH hS hr hlocks (th_R.i ix32) dX11_map_119
        · refine lv_tableIn (tgt := 120) (off := 109) hx hb dX11_map_11 (by omega) (by omega) (by rw [c5b]; rfl) (by decide) ?_
          refine lv_aload_n hx hb dX11_map_120 rfl (lv_at hl 0 rfl) ?_
          refine th_get S hK hH inG11 t0 km_0 rfl 22 (by decide) gm_1252 rfl rfl dX11_map_121 (fun v33 hv33 fv33 => ?_)
          obtain ⟨rf34, rfl, trf34⟩ := th_V.ref hv33
          refine lv_iconst (v := 4) hx hb dX11_map_124 (by decide) ?_
          refine lv_aload_n hx hb dX11_map_125 rfl (lv_at hl 0 rfl) ?_
          refine th_get S hK hH inG11 t0 km_0 rfl 41 (by decide) gm_1271 rfl rfl dX11_map_126 (fun v35 hv35 fv35 => ?_)
          obtain ⟨x36, rfl, ix36⟩ := th_V.int hv35
          have kx36a : q 10 ≤ x36.toInt := ix36.1
          have kx36b : x36.toInt ≤ q 10 := ix36.2
          have ix36 : IV x36 0 1 := iv_w ix36 (qkm_10 hq)
          refine lv_imul hx hb dX11_map_129 ?_
          refine lv_topi (fun x37 ex37 => ?_)
          have ix37 : IV x37 0 4 := by rw [ex37]; exact iv_mul (iv_c (by decide) : IV 4 4 4) ix36 (by decide) (by decide)
          have ux37 : x37.toInt = (4 : Int) * x36.toInt := by rw [ex37]; exact iv_mulE (iv_corner ((iv_c (by decide) : IV 4 4 4)).1 ((iv_c (by decide) : IV 4 4 4)).2 (ix36).1 (ix36).2 (by decide))
          refine lv_iload_n hx hb dX11_map_130 rfl (lv_at hl 1 rfl) ?_
          refine lv_iadd hx hb dX11_map_131 ?_
          refine lv_topi (fun x38 ex38 => ?_)
          have ix38 : IV x38 0 7 := by rw [ex38]; exact iv_add ix37 ir4 (by decide)
          have ux38 : x38.toInt = x37.toInt + y1.toInt := by rw [ex38]; exact iv_addE (by have z1 := (ix37).1; have z2 := (ix37).2; have z3 := (ir4).1; have z4 := (ir4).2; omega)
          refine th_iald S hK hH trf34 km_14 (th_in (hi := 7) ix38 (by decide)) dX11_map_132 (fun v39 hv39 => ?_)
          obtain ⟨x40, rfl, ix40⟩ := th_V.int hv39
          exact th_iret S hK hH hS hr hlocks (th_R.i ix40) dX11_map_133
    · skip
      have rlc2 : x1.toInt = (0 : Int) := congrArg Int32.toInt c2
      have ir41 : IV x1 0 0 := iv_eL c2 (iv_c (by decide) : IV 0 0 0)
      have ir41a := ir41.1; have ir41b := ir41.2
      refine lv_iconst (v := (-1)) hx hb dX11_map_8 (by decide) ?_
      exact th_iret S hK hH hS hr hlocks (th_R.i (iv_top _)) dX11_map_9
  exact J0 s.heap [] ls hH va_S.rf hl

set_option maxRecDepth 100000 in
theorem m_X11_place (l : Launch) (D : va_G) (cT : Nat → ClassId) (T : Nat → Option Nat) (q : Nat → Int) (hT : tokm T) (hq : qkm q) (a0 : Nat) (t0 : T a0 = some 0) (y1 : Int32) (j1 : IV y1 (-2147483648) 2147483647) (y2 : Int32) (j2 : IV y2 (-2147483648) 2147483647) : th_Met l D cT T (km q) yX11_place cX11_place 3 (some .int) (rmk 2 43) [.ref a0, .int y1, .int y2] (th_R T (some (.inl (-2147483648, 2147483647)))) [] := by
  refine th_start (by decide) (Nat.le_of_ble_eq_true rfl) ?_
  intro p e s m below meth c ls S hK hH hr hlocks hnm hl
  have hx := S.1
  have hb := S.2.1
  have hl : lv_has ls 3 [(0, .ref a0), (1, .int y1), (2, .int y2)] := hl
  have J0 : ∀ (H : Heap) (locs : List Loc) (ls : Array Slot), th_H D cT T (km q) H → va_S (th_A T []) s.heap H locs → lv_has ls 3 [(0, .ref a0), (1, .int y1), (2, .int y2)] → W p l e (rmk 2 43) s m [.ref a0, .int y1, .int y2].toArray below meth c H locs 0 0 (MQ below (th_Q D cT T (km q) (th_R T (some (.inl (-2147483648, 2147483647)))) []) [.ref a0, .int y1, .int y2].toArray s 0 0 (th_A T [])) (F0 m 0 ls []) := by
    intro H locs ls hH hS hl
    refine lv_aload_n hx hb dX11_place_0 rfl (lv_at hl 0 rfl) ?_
    refine lv_iload_n hx hb dX11_place_1 rfl (lv_at hl 1 rfl) ?_
    refine th_callVp (n := 1) (As := [.int y1]) S hK hH hS (th_A.sub (by decide)) (m_X11_isPlace l D cT T q hT hq a0 t0 (y1) j1) gm_1672 gm_1669 gm_1671 gm_89 gm_124 (by decide +kernel) ⟨rfl, rfl, Nat.le_of_ble_eq_true rfl, Nat.le_of_ble_eq_true rfl⟩ t0 km_0 rfl rfl hl.1 rfl (Nat.le_of_ble_eq_true rfl) dX11_place_2 ⟨Nat.zero_le _, Nat.zero_le _⟩ (fun x1 H locs ix1 ox1 hH hS hF1 => ?_)
    have ox1 : x1.toInt ≠ 0 → 0 ≤ y1.toInt ∧ y1.toInt < q 18 := ox1
    refine lv_if_ne (tgt := 10) hx hb dX11_place_5 (by decide) (fun c2 => ?_) (fun c2 => ?_)
    · skip
      have rlc2 : x1.toInt ≠ (0 : Int) := iv_ne c2
      have ir3 : IV x1 1 1 := iv_cutL ix1 (iv_c (by decide) : IV 0 0 0) c2 (by decide)
      have ir3a := ir3.1; have ir3b := ir3.2
      have ir4 : IV y1 0 7 := ((fun z => by have z1 := iv_ne z; have z2 : x1.toInt ≠ 0 := z1; have z60 := qkm_18 hq; exact ⟨by omega, by omega⟩) : ¬ x1 = 0 → IV y1 0 7) c2
      have ir4a := ir4.1; have ir4b := ir4.2
      refine lv_iload_n hx hb dX11_place_10 rfl (lv_at hl 2 rfl) ?_
      by_cases c5 : y2.toInt < 0 ∨ 3 < y2.toInt
      · refine lv_tableOut (tgt := 90) hx hb dX11_place_11 c5 (by decide) ?_
        refine lv_iconst (v := (-1)) hx hb dX11_place_90 (by decide) ?_
        exact th_iret S hK hH hS hr hlocks (th_R.i (iv_top _)) dX11_place_91
      · rcases (show y2.toInt = 0 ∨ y2.toInt = 1 ∨ y2.toInt = 2 ∨ y2.toInt = 3 by omega) with c5b | c5b | c5b | c5b
        · refine lv_tableIn (tgt := 40) (off := 29) hx hb dX11_place_11 (by omega) (by omega) (by rw [c5b]; rfl) (by decide) ?_
          refine lv_aload_n hx hb dX11_place_40 rfl (lv_at hl 0 rfl) ?_
          refine th_get S hK hH inG11 t0 km_0 rfl 52 (by decide) gm_1282 rfl rfl dX11_place_41 (fun v6 hv6 fv6 => ?_)
          obtain ⟨rf7, rfl, trf7⟩ := th_V.ref hv6
          refine lv_bipush (v := 15) hx hb dX11_place_44 (by decide) ?_
          refine lv_iload_n hx hb dX11_place_46 rfl (lv_at hl 1 rfl) ?_
          refine lv_iadd hx hb dX11_place_47 ?_
          refine lv_topi (fun x8 ex8 => ?_)
          have ix8 : IV x8 15 22 := by rw [ex8]; exact iv_add (iv_c (by decide) : IV 15 15 15) ir4 (by decide)
          have ux8 : x8.toInt = (15 : Int) + y1.toInt := by rw [ex8]; exact iv_addE (by have z1 := ((iv_c (by decide) : IV 15 15 15)).1; have z2 := ((iv_c (by decide) : IV 15 15 15)).2; have z3 := (ir4).1; have z4 := (ir4).2; omega)
          refine th_iald S hK hH trf7 km_33 (th_in (hi := 22) (iv_w ix8 (by decide)) (by decide)) dX11_place_48 (fun v9 hv9 => ?_)
          obtain ⟨x10, rfl, ix10⟩ := th_V.int hv9
          exact th_iret S hK hH hS hr hlocks (th_R.i ix10) dX11_place_49
        · refine lv_tableIn (tgt := 50) (off := 39) hx hb dX11_place_11 (by omega) (by omega) (by rw [c5b]; rfl) (by decide) ?_
          refine lv_aload_n hx hb dX11_place_50 rfl (lv_at hl 0 rfl) ?_
          refine th_get S hK hH inG11 t0 km_0 rfl 24 (by decide) gm_1254 rfl rfl dX11_place_51 (fun v11 hv11 fv11 => ?_)
          obtain ⟨rf12, rfl, trf12⟩ := th_V.ref hv11
          refine lv_bipush (v := 8) hx hb dX11_place_54 (by decide) ?_
          refine lv_aload_n hx hb dX11_place_56 rfl (lv_at hl 0 rfl) ?_
          refine th_get S hK hH inG11 t0 km_0 rfl 41 (by decide) gm_1271 rfl rfl dX11_place_57 (fun v13 hv13 fv13 => ?_)
          obtain ⟨x14, rfl, ix14⟩ := th_V.int hv13
          have kx14a : q 10 ≤ x14.toInt := ix14.1
          have kx14b : x14.toInt ≤ q 10 := ix14.2
          have ix14 : IV x14 0 1 := iv_w ix14 (qkm_10 hq)
          refine lv_imul hx hb dX11_place_60 ?_
          refine lv_topi (fun x15 ex15 => ?_)
          have ix15 : IV x15 0 8 := by rw [ex15]; exact iv_mul (iv_c (by decide) : IV 8 8 8) ix14 (by decide) (by decide)
          have ux15 : x15.toInt = (8 : Int) * x14.toInt := by rw [ex15]; exact iv_mulE (iv_corner ((iv_c (by decide) : IV 8 8 8)).1 ((iv_c (by decide) : IV 8 8 8)).2 (ix14).1 (ix14).2 (by decide))
          refine lv_iload_n hx hb dX11_place_61 rfl (lv_at hl 1 rfl) ?_
          refine lv_iadd hx hb dX11_place_62 ?_
          refine lv_topi (fun x16 ex16 => ?_)
          have ix16 : IV x16 0 15 := by rw [ex16]; exact iv_add ix15 ir4 (by decide)
          have ux16 : x16.toInt = x15.toInt + y1.toInt := by rw [ex16]; exact iv_addE (by have z1 := (ix15).1; have z2 := (ix15).2; have z3 := (ir4).1; have z4 := (ir4).2; omega)
          refine th_iald S hK hH trf12 km_16 (th_in (hi := 15) ix16 (by decide)) dX11_place_63 (fun v17 hv17 => ?_)
          obtain ⟨x18, rfl, ix18⟩ := th_V.int hv17
          exact th_iret S hK hH hS hr hlocks (th_R.i ix18) dX11_place_64
        · refine lv_tableIn (tgt := 65) (off := 54) hx hb dX11_place_11 (by omega) (by omega) (by rw [c5b]; rfl) (by decide) ?_
          refine lv_aload_n hx hb dX11_place_65 rfl (lv_at hl 0 rfl) ?_
          refine th_get S hK hH inG11 t0 km_0 rfl 52 (by decide) gm_1282 rfl rfl dX11_place_66 (fun v19 hv19 fv19 => ?_)
          obtain ⟨rf20, rfl, trf20⟩ := th_V.ref hv19
          refine lv_bipush (v := 23) hx hb dX11_place_69 (by decide) ?_
          refine lv_iload_n hx hb dX11_place_71 rfl (lv_at hl 1 rfl) ?_
          refine lv_iadd hx hb dX11_place_72 ?_
          refine lv_topi (fun x21 ex21 => ?_)
          have ix21 : IV x21 23 30 := by rw [ex21]; exact iv_add (iv_c (by decide) : IV 23 23 23) ir4 (by decide)
          have ux21 : x21.toInt = (23 : Int) + y1.toInt := by rw [ex21]; exact iv_addE (by have z1 := ((iv_c (by decide) : IV 23 23 23)).1; have z2 := ((iv_c (by decide) : IV 23 23 23)).2; have z3 := (ir4).1; have z4 := (ir4).2; omega)
          refine th_iald S hK hH trf20 km_33 (th_in (hi := 30) (iv_w ix21 (by decide)) (by decide)) dX11_place_73 (fun v22 hv22 => ?_)
          obtain ⟨x23, rfl, ix23⟩ := th_V.int hv22
          exact th_iret S hK hH hS hr hlocks (th_R.i ix23) dX11_place_74
        · refine lv_tableIn (tgt := 75) (off := 64) hx hb dX11_place_11 (by omega) (by omega) (by rw [c5b]; rfl) (by decide) ?_
          refine lv_aload_n hx hb dX11_place_75 rfl (lv_at hl 0 rfl) ?_
          refine th_get S hK hH inG11 t0 km_0 rfl 25 (by decide) gm_1255 rfl rfl dX11_place_76 (fun v24 hv24 fv24 => ?_)
          obtain ⟨rf25, rfl, trf25⟩ := th_V.ref hv24
          refine lv_bipush (v := 8) hx hb dX11_place_79 (by decide) ?_
          refine lv_aload_n hx hb dX11_place_81 rfl (lv_at hl 0 rfl) ?_
          refine th_get S hK hH inG11 t0 km_0 rfl 41 (by decide) gm_1271 rfl rfl dX11_place_82 (fun v26 hv26 fv26 => ?_)
          obtain ⟨x27, rfl, ix27⟩ := th_V.int hv26
          have kx27a : q 10 ≤ x27.toInt := ix27.1
          have kx27b : x27.toInt ≤ q 10 := ix27.2
          have ix27 : IV x27 0 1 := iv_w ix27 (qkm_10 hq)
          refine lv_imul hx hb dX11_place_85 ?_
          refine lv_topi (fun x28 ex28 => ?_)
          have ix28 : IV x28 0 8 := by rw [ex28]; exact iv_mul (iv_c (by decide) : IV 8 8 8) ix27 (by decide) (by decide)
          have ux28 : x28.toInt = (8 : Int) * x27.toInt := by rw [ex28]; exact iv_mulE (iv_corner ((iv_c (by decide) : IV 8 8 8)).1 ((iv_c (by decide) : IV 8 8 8)).2 (ix27).1 (ix27).2 (by decide))
          refine lv_iload_n hx hb dX11_place_86 rfl (lv_at hl 1 rfl) ?_
          refine lv_iadd hx hb dX11_place_87 ?_
          refine lv_topi (fun x29 ex29 => ?_)
          have ix29 : IV x29 0 15 := by rw [ex29]; exact iv_add ix28 ir4 (by decide)
          have ux29 : x29.toInt = x28.toInt + y1.toInt := by rw [ex29]; exact iv_addE (by have z1 := (ix28).1; have z2 := (ix28).2; have z3 := (ir4).1; have z4 := (ir4).2; omega)
          refine th_iald S hK hH trf25 km_17 (th_in (hi := 15) ix29 (by decide)) dX11_place_88 (fun v30 hv30 => ?_)
          obtain ⟨x31, rfl, ix31⟩ := th_V.int hv30
          exact th_iret S hK hH hS hr hlocks (th_R.i ix31) dX11_place_89
    · skip
      have rlc2 : x1.toInt = (0 : Int) := congrArg Int32.toInt c2
      have ir32 : IV x1 0 0 := iv_eL c2 (iv_c (by decide) : IV 0 0 0)
      have ir32a := ir32.1; have ir32b := ir32.2
      refine lv_iconst (v := (-1)) hx hb dX11_place_8 (by decide) ?_
      exact th_iret S hK hH hS hr hlocks (th_R.i (iv_top _)) dX11_place_9
  exact J0 s.heap [] ls hH va_S.rf hl

set_option maxRecDepth 100000 in
theorem m_X11_taste (l : Launch) (D : va_G) (cT : Nat → ClassId) (T : Nat → Option Nat) (q : Nat → Int) (hT : tokm T) (hq : qkm q) (a0 : Nat) (t0 : T a0 = some 0) (y1 : Int32) (j1 : IV y1 (-2147483648) 2147483647) (y2 : Int32) (j2 : IV y2 (-2147483648) 2147483647) : th_Met l D cT T (km q) yX11_taste cX11_taste 3 (some .int) (rmk 3 68) [.ref a0, .int y1, .int y2] (th_R T (some (.inl (-2147483648, 2147483647)))) [0, 32] := by
  refine th_start (by decide) (Nat.le_of_ble_eq_true rfl) ?_
  intro p e s m below meth c ls S hK hH hr hlocks hnm hl
  have hx := S.1
  have hb := S.2.1
  have hl : lv_has ls 3 [(0, .ref a0), (1, .int y1), (2, .int y2)] := hl
  have J28 : ∀ (H : Heap) (locs : List Loc) (ls : Array Slot) (w28_0 : Int32), IV w28_0 (-2147483648) 2147483647 → th_H D cT T (km q) H → va_S (th_A T [0, 32]) s.heap H locs → lv_has ls 3 [] → W p l e (rmk 3 68) s m [.ref a0, .int y1, .int y2].toArray below meth c H locs 0 0 (MQ below (th_Q D cT T (km q) (th_R T (some (.inl (-2147483648, 2147483647)))) [0, 32]) [.ref a0, .int y1, .int y2].toArray s 0 0 (th_A T [0, 32])) (F0 m 28 ls [.int w28_0]) := by
    intro H locs ls w28_0 iw28_0 hH hS hl
    exact th_iret S hK hH hS hr hlocks (th_R.i iw28_0) dX11_taste_28
  have J28_s0_m1000000 : ∀ (H : Heap) (locs : List Loc) (ls : Array Slot), th_H D cT T (km q) H → va_S (th_A T [0, 32]) s.heap H locs → lv_has ls 3 [] → W p l e (rmk 3 68) s m [.ref a0, .int y1, .int y2].toArray below meth c H locs 0 0 (MQ below (th_Q D cT T (km q) (th_R T (some (.inl (-2147483648, 2147483647)))) [0, 32]) [.ref a0, .int y1, .int y2].toArray s 0 0 (th_A T [0, 32])) (F0 m 28 ls [.int (-1000000)]) := by
    intro H locs ls hH hS hl
    exact th_iret S hK hH hS hr hlocks (th_R.i (iv_top _)) dX11_taste_28
  have J25 : ∀ (H : Heap) (locs : List Loc) (ls : Array Slot), th_H D cT T (km q) H → va_S (th_A T [0, 32]) s.heap H locs → lv_has ls 3 [] → W p l e (rmk 3 68) s m [.ref a0, .int y1, .int y2].toArray below meth c H locs 0 0 (MQ below (th_Q D cT T (km q) (th_R T (some (.inl (-2147483648, 2147483647)))) [0, 32]) [.ref a0, .int y1, .int y2].toArray s 0 0 (th_A T [0, 32])) (F0 m 25 ls []) := by
    intro H locs ls hH hS hl
    refine lv_ldcw (v := (-1000000)) hx hb S.2.2.2.1 (S.2.2.2.2 _ gm_1681) dX11_taste_25 ?_
    exact J28_s0_m1000000 H locs ls  hH hS (lv_sub hl [] rfl)
  have J0 : ∀ (H : Heap) (locs : List Loc) (ls : Array Slot), th_H D cT T (km q) H → va_S (th_A T [0, 32]) s.heap H locs → lv_has ls 3 [(0, .ref a0), (1, .int y1), (2, .int y2)] → W p l e (rmk 3 68) s m [.ref a0, .int y1, .int y2].toArray below meth c H locs 0 0 (MQ below (th_Q D cT T (km q) (th_R T (some (.inl (-2147483648, 2147483647)))) [0, 32]) [.ref a0, .int y1, .int y2].toArray s 0 0 (th_A T [0, 32])) (F0 m 0 ls []) := by
    intro H locs ls hH hS hl
    refine lv_aload_n hx hb dX11_taste_0 rfl (lv_at hl 0 rfl) ?_
    refine lv_iload_n hx hb dX11_taste_1 rfl (lv_at hl 1 rfl) ?_
    refine th_callVp (n := 1) (As := [.int y1]) S hK hH hS (th_A.sub (by decide)) (m_X11_isPlace l D cT T q hT hq a0 t0 (y1) j1) gm_1672 gm_1669 gm_1671 gm_89 gm_124 (by decide +kernel) ⟨rfl, rfl, Nat.le_of_ble_eq_true rfl, Nat.le_of_ble_eq_true rfl⟩ t0 km_0 rfl rfl hl.1 rfl (Nat.le_of_ble_eq_true rfl) dX11_taste_2 ⟨Nat.zero_le _, Nat.zero_le _⟩ (fun x1 H locs ix1 ox1 hH hS hF1 => ?_)
    have ox1 : x1.toInt ≠ 0 → 0 ≤ y1.toInt ∧ y1.toInt < q 18 := ox1
    refine lv_if_eq (tgt := 25) hx hb dX11_taste_5 (by decide) (fun c2 => ?_) (fun c2 => ?_)
    · skip
      have rlc2 : x1.toInt = (0 : Int) := congrArg Int32.toInt c2
      have ir3 : IV x1 0 0 := iv_eL c2 (iv_c (by decide) : IV 0 0 0)
      have ir3a := ir3.1; have ir3b := ir3.2
      exact J25 H locs ls  hH hS (lv_sub hl [] rfl)
    · skip
      have rlc2 : x1.toInt ≠ (0 : Int) := iv_ne c2
      have ir4 : IV x1 1 1 := iv_cutL ix1 (iv_c (by decide) : IV 0 0 0) c2 (by decide)
      have ir4a := ir4.1; have ir4b := ir4.2
      have ir5 : IV y1 0 7 := ((fun z => by have z1 := iv_ne z; have z2 : x1.toInt ≠ 0 := z1; have z60 := qkm_18 hq; exact ⟨by omega, by omega⟩) : ¬ x1 = 0 → IV y1 0 7) c2
      have ir5a := ir5.1; have ir5b := ir5.2
      refine lv_aload_n hx hb dX11_taste_8 rfl (lv_at hl 0 rfl) ?_
      refine lv_iload_n hx hb dX11_taste_9 rfl (lv_at hl 2 rfl) ?_
      refine th_callVp (n := 1) (As := [.int y2]) S hK hH hS (th_A.sub (by decide)) (m_X11_isMap l D cT T q hT hq a0 t0 (y2) j2) gm_1626 gm_1623 gm_1625 gm_80 gm_124 (by decide +kernel) ⟨rfl, rfl, Nat.le_of_ble_eq_true rfl, Nat.le_of_ble_eq_true rfl⟩ t0 km_0 rfl rfl hl.1 rfl (Nat.le_of_ble_eq_true rfl) dX11_taste_10 ⟨Nat.zero_le _, Nat.zero_le _⟩ (fun x6 H locs ix6 ox6 hH hS hF1 => ?_)
      have ox6 : x6.toInt ≠ 0 → 0 ≤ y2.toInt ∧ y2.toInt < q 11 := ox6
      refine lv_if_eq (tgt := 25) hx hb dX11_taste_13 (by decide) (fun c7 => ?_) (fun c7 => ?_)
      · skip
        have rlc7 : x6.toInt = (0 : Int) := congrArg Int32.toInt c7
        have ir8 : IV x6 0 0 := iv_eL c7 (iv_c (by decide) : IV 0 0 0)
        have ir8a := ir8.1; have ir8b := ir8.2
        exact J25 H locs ls  hH hS (lv_sub hl [] rfl)
      · skip
        have rlc7 : x6.toInt ≠ (0 : Int) := iv_ne c7
        have ir9 : IV x6 1 1 := iv_cutL ix6 (iv_c (by decide) : IV 0 0 0) c7 (by decide)
        have ir9a := ir9.1; have ir9b := ir9.2
        have ir10 : IV y2 0 3 := ((fun z => by have z1 := iv_ne z; have z2 : x6.toInt ≠ 0 := z1; have z60 := qkm_11 hq; exact ⟨by omega, by omega⟩) : ¬ x6 = 0 → IV y2 0 3) c7
        have ir10a := ir10.1; have ir10b := ir10.2
        refine lv_aload_n hx hb dX11_taste_16 rfl (lv_at hl 0 rfl) ?_
        refine lv_iload_n hx hb dX11_taste_17 rfl (lv_at hl 1 rfl) ?_
        refine lv_iload_n hx hb dX11_taste_18 rfl (lv_at hl 2 rfl) ?_
        refine th_callVi (n := 2) (As := [.int y1, .int y2]) S hK hH hS (th_A.sub (by decide)) (m_X11_tasteOf l D cT T q hT hq a0 t0 (y1) ir5 (y2) ir10) gm_1680 gm_1677 gm_1679 gm_90 gm_124 (by decide +kernel) ⟨rfl, rfl, Nat.le_of_ble_eq_true rfl, Nat.le_of_ble_eq_true rfl⟩ t0 km_0 rfl rfl hl.1 rfl (Nat.le_of_ble_eq_true rfl) dX11_taste_19 ⟨Nat.zero_le _, Nat.zero_le _⟩ (fun x11 H locs ix11 hH hS hF1 => ?_)
        refine lv_goto (tgt := 28) hx hb dX11_taste_22 (by decide) ?_
        exact J28 H locs ls x11 ix11 hH hS (lv_sub hl [] rfl)
  exact J0 s.heap [] ls hH va_S.rf hl

set_option maxRecDepth 100000 in
theorem m_X11_likes (l : Launch) (D : va_G) (cT : Nat → ClassId) (T : Nat → Option Nat) (q : Nat → Int) (hT : tokm T) (hq : qkm q) (a0 : Nat) (t0 : T a0 = some 0) (y1 : Int32) (j1 : IV y1 (-2147483648) 2147483647) (y2 : Int32) (j2 : IV y2 (-2147483648) 2147483647) : th_Met l D cT T (km q) yX11_likes cX11_likes 3 (some .int) (rmk 2 43) [.ref a0, .int y1, .int y2] (th_R T (some (.inl (-2147483648, 2147483647)))) [] := by
  refine th_start (by decide) (Nat.le_of_ble_eq_true rfl) ?_
  intro p e s m below meth c ls S hK hH hr hlocks hnm hl
  have hx := S.1
  have hb := S.2.1
  have hl : lv_has ls 3 [(0, .ref a0), (1, .int y1), (2, .int y2)] := hl
  have J26 : ∀ (H : Heap) (locs : List Loc) (ls : Array Slot) (w26_0 : Int32), IV w26_0 (-2147483648) 2147483647 → th_H D cT T (km q) H → va_S (th_A T []) s.heap H locs → lv_has ls 3 [] → W p l e (rmk 2 43) s m [.ref a0, .int y1, .int y2].toArray below meth c H locs 0 0 (MQ below (th_Q D cT T (km q) (th_R T (some (.inl (-2147483648, 2147483647)))) []) [.ref a0, .int y1, .int y2].toArray s 0 0 (th_A T [])) (F0 m 26 ls [.int w26_0]) := by
    intro H locs ls w26_0 iw26_0 hH hS hl
    exact th_iret S hK hH hS hr hlocks (th_R.i iw26_0) dX11_likes_26
  have J26_s0_m1 : ∀ (H : Heap) (locs : List Loc) (ls : Array Slot), th_H D cT T (km q) H → va_S (th_A T []) s.heap H locs → lv_has ls 3 [] → W p l e (rmk 2 43) s m [.ref a0, .int y1, .int y2].toArray below meth c H locs 0 0 (MQ below (th_Q D cT T (km q) (th_R T (some (.inl (-2147483648, 2147483647)))) []) [.ref a0, .int y1, .int y2].toArray s 0 0 (th_A T [])) (F0 m 26 ls [.int (-1)]) := by
    intro H locs ls hH hS hl
    exact th_iret S hK hH hS hr hlocks (th_R.i (iv_top _)) dX11_likes_26
  have J25 : ∀ (H : Heap) (locs : List Loc) (ls : Array Slot), th_H D cT T (km q) H → va_S (th_A T []) s.heap H locs → lv_has ls 3 [] → W p l e (rmk 2 43) s m [.ref a0, .int y1, .int y2].toArray below meth c H locs 0 0 (MQ below (th_Q D cT T (km q) (th_R T (some (.inl (-2147483648, 2147483647)))) []) [.ref a0, .int y1, .int y2].toArray s 0 0 (th_A T [])) (F0 m 25 ls []) := by
    intro H locs ls hH hS hl
    refine lv_iconst (v := (-1)) hx hb dX11_likes_25 (by decide) ?_
    exact J26_s0_m1 H locs ls  hH hS (lv_sub hl [] rfl)
  have J0 : ∀ (H : Heap) (locs : List Loc) (ls : Array Slot), th_H D cT T (km q) H → va_S (th_A T []) s.heap H locs → lv_has ls 3 [(0, .ref a0), (1, .int y1), (2, .int y2)] → W p l e (rmk 2 43) s m [.ref a0, .int y1, .int y2].toArray below meth c H locs 0 0 (MQ below (th_Q D cT T (km q) (th_R T (some (.inl (-2147483648, 2147483647)))) []) [.ref a0, .int y1, .int y2].toArray s 0 0 (th_A T [])) (F0 m 0 ls []) := by
    intro H locs ls hH hS hl
    refine lv_aload_n hx hb dX11_likes_0 rfl (lv_at hl 0 rfl) ?_
    refine lv_iload_n hx hb dX11_likes_1 rfl (lv_at hl 1 rfl) ?_
    refine th_callVp (n := 1) (As := [.int y1]) S hK hH hS (th_A.sub (by decide)) (m_X11_isMap l D cT T q hT hq a0 t0 (y1) j1) gm_1626 gm_1623 gm_1625 gm_80 gm_124 (by decide +kernel) ⟨rfl, rfl, Nat.le_of_ble_eq_true rfl, Nat.le_of_ble_eq_true rfl⟩ t0 km_0 rfl rfl hl.1 rfl (Nat.le_of_ble_eq_true rfl) dX11_likes_2 ⟨Nat.zero_le _, Nat.zero_le _⟩ (fun x1 H locs ix1 ox1 hH hS hF1 => ?_)
    have ox1 : x1.toInt ≠ 0 → 0 ≤ y1.toInt ∧ y1.toInt < q 11 := ox1
    refine lv_if_eq (tgt := 25) hx hb dX11_likes_5 (by decide) (fun c2 => ?_) (fun c2 => ?_)
    · skip
      have rlc2 : x1.toInt = (0 : Int) := congrArg Int32.toInt c2
      have ir3 : IV x1 0 0 := iv_eL c2 (iv_c (by decide) : IV 0 0 0)
      have ir3a := ir3.1; have ir3b := ir3.2
      exact J25 H locs ls  hH hS (lv_sub hl [] rfl)
    · skip
      have rlc2 : x1.toInt ≠ (0 : Int) := iv_ne c2
      have ir4 : IV x1 1 1 := iv_cutL ix1 (iv_c (by decide) : IV 0 0 0) c2 (by decide)
      have ir4a := ir4.1; have ir4b := ir4.2
      have ir5 : IV y1 0 3 := ((fun z => by have z1 := iv_ne z; have z2 : x1.toInt ≠ 0 := z1; have z60 := qkm_11 hq; exact ⟨by omega, by omega⟩) : ¬ x1 = 0 → IV y1 0 3) c2
      have ir5a := ir5.1; have ir5b := ir5.2
      refine lv_aload_n hx hb dX11_likes_8 rfl (lv_at hl 0 rfl) ?_
      refine lv_iload_n hx hb dX11_likes_9 rfl (lv_at hl 2 rfl) ?_
      refine th_callVp (n := 1) (As := [.int y2]) S hK hH hS (th_A.sub (by decide)) (m_X11_isFood l D cT T q hT hq a0 t0 (y2) j2) gm_1615 gm_1612 gm_1614 gm_79 gm_124 (by decide +kernel) ⟨rfl, rfl, Nat.le_of_ble_eq_true rfl, Nat.le_of_ble_eq_true rfl⟩ t0 km_0 rfl rfl hl.1 rfl (Nat.le_of_ble_eq_true rfl) dX11_likes_10 ⟨Nat.zero_le _, Nat.zero_le _⟩ (fun x6 H locs ix6 ox6 hH hS hF1 => ?_)
      have ox6 : x6.toInt ≠ 0 → 0 ≤ y2.toInt ∧ y2.toInt < q 16 := ox6
      refine lv_if_eq (tgt := 25) hx hb dX11_likes_13 (by decide) (fun c7 => ?_) (fun c7 => ?_)
      · skip
        have rlc7 : x6.toInt = (0 : Int) := congrArg Int32.toInt c7
        have ir8 : IV x6 0 0 := iv_eL c7 (iv_c (by decide) : IV 0 0 0)
        have ir8a := ir8.1; have ir8b := ir8.2
        exact J25 H locs ls  hH hS (lv_sub hl [] rfl)
      · skip
        have rlc7 : x6.toInt ≠ (0 : Int) := iv_ne c7
        have ir9 : IV x6 1 1 := iv_cutL ix6 (iv_c (by decide) : IV 0 0 0) c7 (by decide)
        have ir9a := ir9.1; have ir9b := ir9.2
        have ir10 : IV y2 0 2 := ((fun z => by have z1 := iv_ne z; have z2 : x6.toInt ≠ 0 := z1; have z60 := qkm_16 hq; exact ⟨by omega, by omega⟩) : ¬ x6 = 0 → IV y2 0 2) c7
        have ir10a := ir10.1; have ir10b := ir10.2
        refine lv_aload_n hx hb dX11_likes_16 rfl (lv_at hl 0 rfl) ?_
        refine lv_iload_n hx hb dX11_likes_17 rfl (lv_at hl 1 rfl) ?_
        refine lv_iload_n hx hb dX11_likes_18 rfl (lv_at hl 2 rfl) ?_
        refine th_callVi (n := 2) (As := [.int y1, .int y2]) S hK hH hS (th_A.sub (by decide)) (m_X11_likedBy l D cT T q hT hq a0 t0 (y1) ir5 (y2) ir10) gm_1656 gm_1653 gm_1655 gm_86 gm_124 (by decide +kernel) ⟨rfl, rfl, Nat.le_of_ble_eq_true rfl, Nat.le_of_ble_eq_true rfl⟩ t0 km_0 rfl rfl hl.1 rfl (Nat.le_of_ble_eq_true rfl) dX11_likes_19 ⟨Nat.zero_le _, Nat.zero_le _⟩ (fun x11 H locs ix11 hH hS hF1 => ?_)
        refine lv_goto (tgt := 26) hx hb dX11_likes_22 (by decide) ?_
        exact J26 H locs ls x11 ix11 hH hS (lv_sub hl [] rfl)
  exact J0 s.heap [] ls hH va_S.rf hl

set_option maxRecDepth 100000 in
theorem m_X11_trough (l : Launch) (D : va_G) (cT : Nat → ClassId) (T : Nat → Option Nat) (q : Nat → Int) (hT : tokm T) (hq : qkm q) (a0 : Nat) (t0 : T a0 = some 0) (y1 : Int32) (j1 : IV y1 (-2147483648) 2147483647) (y2 : Int32) (j2 : IV y2 (-2147483648) 2147483647) : th_Met l D cT T (km q) yX11_trough cX11_trough 3 (some .int) (rmk 2 43) [.ref a0, .int y1, .int y2] (th_R T (some (.inl (-2147483648, 2147483647)))) [] := by
  refine th_start (by decide) (Nat.le_of_ble_eq_true rfl) ?_
  intro p e s m below meth c ls S hK hH hr hlocks hnm hl
  have hx := S.1
  have hb := S.2.1
  have hl : lv_has ls 3 [(0, .ref a0), (1, .int y1), (2, .int y2)] := hl
  have J32 : ∀ (H : Heap) (locs : List Loc) (ls : Array Slot) (w32_0 : Int32), IV w32_0 (-2147483648) 2147483647 → th_H D cT T (km q) H → va_S (th_A T []) s.heap H locs → lv_has ls 3 [] → W p l e (rmk 2 43) s m [.ref a0, .int y1, .int y2].toArray below meth c H locs 0 0 (MQ below (th_Q D cT T (km q) (th_R T (some (.inl (-2147483648, 2147483647)))) []) [.ref a0, .int y1, .int y2].toArray s 0 0 (th_A T [])) (F0 m 32 ls [.int w32_0]) := by
    intro H locs ls w32_0 iw32_0 hH hS hl
    exact th_iret S hK hH hS hr hlocks (th_R.i iw32_0) dX11_trough_32
  have J32_s0_m1 : ∀ (H : Heap) (locs : List Loc) (ls : Array Slot), th_H D cT T (km q) H → va_S (th_A T []) s.heap H locs → lv_has ls 3 [] → W p l e (rmk 2 43) s m [.ref a0, .int y1, .int y2].toArray below meth c H locs 0 0 (MQ below (th_Q D cT T (km q) (th_R T (some (.inl (-2147483648, 2147483647)))) []) [.ref a0, .int y1, .int y2].toArray s 0 0 (th_A T [])) (F0 m 32 ls [.int (-1)]) := by
    intro H locs ls hH hS hl
    exact th_iret S hK hH hS hr hlocks (th_R.i (iv_top _)) dX11_trough_32
  have J31 : ∀ (H : Heap) (locs : List Loc) (ls : Array Slot), th_H D cT T (km q) H → va_S (th_A T []) s.heap H locs → lv_has ls 3 [] → W p l e (rmk 2 43) s m [.ref a0, .int y1, .int y2].toArray below meth c H locs 0 0 (MQ below (th_Q D cT T (km q) (th_R T (some (.inl (-2147483648, 2147483647)))) []) [.ref a0, .int y1, .int y2].toArray s 0 0 (th_A T [])) (F0 m 31 ls []) := by
    intro H locs ls hH hS hl
    refine lv_iconst (v := (-1)) hx hb dX11_trough_31 (by decide) ?_
    exact J32_s0_m1 H locs ls  hH hS (lv_sub hl [] rfl)
  have J0 : ∀ (H : Heap) (locs : List Loc) (ls : Array Slot), th_H D cT T (km q) H → va_S (th_A T []) s.heap H locs → lv_has ls 3 [(0, .ref a0), (1, .int y1), (2, .int y2)] → W p l e (rmk 2 43) s m [.ref a0, .int y1, .int y2].toArray below meth c H locs 0 0 (MQ below (th_Q D cT T (km q) (th_R T (some (.inl (-2147483648, 2147483647)))) []) [.ref a0, .int y1, .int y2].toArray s 0 0 (th_A T [])) (F0 m 0 ls []) := by
    intro H locs ls hH hS hl
    refine lv_aload_n hx hb dX11_trough_0 rfl (lv_at hl 0 rfl) ?_
    refine lv_iload_n hx hb dX11_trough_1 rfl (lv_at hl 1 rfl) ?_
    refine th_callVp (n := 1) (As := [.int y1]) S hK hH hS (th_A.sub (by decide)) (m_X11_isMap l D cT T q hT hq a0 t0 (y1) j1) gm_1626 gm_1623 gm_1625 gm_80 gm_124 (by decide +kernel) ⟨rfl, rfl, Nat.le_of_ble_eq_true rfl, Nat.le_of_ble_eq_true rfl⟩ t0 km_0 rfl rfl hl.1 rfl (Nat.le_of_ble_eq_true rfl) dX11_trough_2 ⟨Nat.zero_le _, Nat.zero_le _⟩ (fun x1 H locs ix1 ox1 hH hS hF1 => ?_)
    have ox1 : x1.toInt ≠ 0 → 0 ≤ y1.toInt ∧ y1.toInt < q 11 := ox1
    refine lv_if_eq (tgt := 31) hx hb dX11_trough_5 (by decide) (fun c2 => ?_) (fun c2 => ?_)
    · skip
      have rlc2 : x1.toInt = (0 : Int) := congrArg Int32.toInt c2
      have ir3 : IV x1 0 0 := iv_eL c2 (iv_c (by decide) : IV 0 0 0)
      have ir3a := ir3.1; have ir3b := ir3.2
      exact J31 H locs ls  hH hS (lv_sub hl [] rfl)
    · skip
      have rlc2 : x1.toInt ≠ (0 : Int) := iv_ne c2
      have ir4 : IV x1 1 1 := iv_cutL ix1 (iv_c (by decide) : IV 0 0 0) c2 (by decide)
      have ir4a := ir4.1; have ir4b := ir4.2
      have ir5 : IV y1 0 3 := ((fun z => by have z1 := iv_ne z; have z2 : x1.toInt ≠ 0 := z1; have z60 := qkm_11 hq; exact ⟨by omega, by omega⟩) : ¬ x1 = 0 → IV y1 0 3) c2
      have ir5a := ir5.1; have ir5b := ir5.2
      refine lv_aload_n hx hb dX11_trough_8 rfl (lv_at hl 0 rfl) ?_
      refine lv_iload_n hx hb dX11_trough_9 rfl (lv_at hl 2 rfl) ?_
      refine th_callVp (n := 1) (As := [.int y2]) S hK hH hS (th_A.sub (by decide)) (m_X11_isFood l D cT T q hT hq a0 t0 (y2) j2) gm_1615 gm_1612 gm_1614 gm_79 gm_124 (by decide +kernel) ⟨rfl, rfl, Nat.le_of_ble_eq_true rfl, Nat.le_of_ble_eq_true rfl⟩ t0 km_0 rfl rfl hl.1 rfl (Nat.le_of_ble_eq_true rfl) dX11_trough_10 ⟨Nat.zero_le _, Nat.zero_le _⟩ (fun x6 H locs ix6 ox6 hH hS hF1 => ?_)
      have ox6 : x6.toInt ≠ 0 → 0 ≤ y2.toInt ∧ y2.toInt < q 16 := ox6
      refine lv_if_eq (tgt := 31) hx hb dX11_trough_13 (by decide) (fun c7 => ?_) (fun c7 => ?_)
      · skip
        have rlc7 : x6.toInt = (0 : Int) := congrArg Int32.toInt c7
        have ir8 : IV x6 0 0 := iv_eL c7 (iv_c (by decide) : IV 0 0 0)
        have ir8a := ir8.1; have ir8b := ir8.2
        exact J31 H locs ls  hH hS (lv_sub hl [] rfl)
      · skip
        have rlc7 : x6.toInt ≠ (0 : Int) := iv_ne c7
        have ir9 : IV x6 1 1 := iv_cutL ix6 (iv_c (by decide) : IV 0 0 0) c7 (by decide)
        have ir9a := ir9.1; have ir9b := ir9.2
        have ir10 : IV y2 0 2 := ((fun z => by have z1 := iv_ne z; have z2 : x6.toInt ≠ 0 := z1; have z60 := qkm_16 hq; exact ⟨by omega, by omega⟩) : ¬ x6 = 0 → IV y2 0 2) c7
        have ir10a := ir10.1; have ir10b := ir10.2
        refine lv_aload_n hx hb dX11_trough_16 rfl (lv_at hl 0 rfl) ?_
        refine th_get S hK hH inG11 t0 km_0 rfl 52 (by decide) gm_1282 rfl rfl dX11_trough_17 (fun v11 hv11 fv11 => ?_)
        obtain ⟨rf12, rfl, trf12⟩ := th_V.ref hv11
        refine lv_iconst (v := 3) hx hb dX11_trough_20 (by decide) ?_
        refine lv_iconst (v := 3) hx hb dX11_trough_21 (by decide) ?_
        refine lv_iload_n hx hb dX11_trough_22 rfl (lv_at hl 1 rfl) ?_
        refine lv_imul hx hb dX11_trough_23 ?_
        refine lv_topi (fun x13 ex13 => ?_)
        have ix13 : IV x13 0 9 := by rw [ex13]; exact iv_mul (iv_c (by decide) : IV 3 3 3) ir5 (by decide) (by decide)
        have ux13 : x13.toInt = (3 : Int) * y1.toInt := by rw [ex13]; exact iv_mulE (iv_corner ((iv_c (by decide) : IV 3 3 3)).1 ((iv_c (by decide) : IV 3 3 3)).2 (ir5).1 (ir5).2 (by decide))
        refine lv_iadd hx hb dX11_trough_24 ?_
        refine lv_topi (fun x14 ex14 => ?_)
        have ix14 : IV x14 3 12 := by rw [ex14]; exact iv_add (iv_c (by decide) : IV 3 3 3) ix13 (by decide)
        have ux14 : x14.toInt = (3 : Int) + x13.toInt := by rw [ex14]; exact iv_addE (by have z1 := ((iv_c (by decide) : IV 3 3 3)).1; have z2 := ((iv_c (by decide) : IV 3 3 3)).2; have z3 := (ix13).1; have z4 := (ix13).2; omega)
        refine lv_iload_n hx hb dX11_trough_25 rfl (lv_at hl 2 rfl) ?_
        refine lv_iadd hx hb dX11_trough_26 ?_
        refine lv_topi (fun x15 ex15 => ?_)
        have ix15 : IV x15 3 14 := by rw [ex15]; exact iv_add ix14 ir10 (by decide)
        have ux15 : x15.toInt = x14.toInt + y2.toInt := by rw [ex15]; exact iv_addE (by have z1 := (ix14).1; have z2 := (ix14).2; have z3 := (ir10).1; have z4 := (ir10).2; omega)
        refine th_iald S hK hH trf12 km_33 (th_in (hi := 14) (iv_w ix15 (by decide)) (by decide)) dX11_trough_27 (fun v16 hv16 => ?_)
        obtain ⟨x17, rfl, ix17⟩ := th_V.int hv16
        refine lv_goto (tgt := 32) hx hb dX11_trough_28 (by decide) ?_
        exact J32 H locs ls x17 ix17 hH hS (lv_sub hl [] rfl)
  exact J0 s.heap [] ls hH va_S.rf hl

set_option maxRecDepth 100000 in
theorem m_X11_keepAct (l : Launch) (D : va_G) (cT : Nat → ClassId) (T : Nat → Option Nat) (q : Nat → Int) (hT : tokm T) (hq : qkm q) (a0 : Nat) (t0 : T a0 = some 0) (hp0 : q 7 + q 8 ≤ 40) : th_MetM l D cT T q yX11_keepAct cX11_keepAct 2 none (rmk 0 0) [.ref a0] (fun v q2 => v = none ∧ qkm q2 ∧ fr [7, 8] q q2 ∧ (q2 7 + q2 8 ≤ 40)) [0, 34] := by
  refine th_startM (by decide) (Nat.le_of_ble_eq_true rfl) ?_
  intro p e s m below meth c ls S hK hH hr hlocks hnm hl
  have hx := S.1
  have hb := S.2.1
  have hl : lv_has ls 2 [(0, .ref a0)] := hl
  have J51 : ∀ (n : Nat) (q51 : Nat → Int) (H : Heap) (locs : List Loc) (ls : Array Slot) (v51_1 : Int32), qkm q51 → fr [7, 8] q q51 → IV v51_1 0 43 → (q51 7 ≤ 39) → th_H D cT T (km q51) H → va_S (th_A T [0, 34]) s.heap H locs → lv_has ls 2 [(0, .ref a0), (1, .int v51_1)] → (43 + 1 - Int32.toInt v51_1).toNat < n → W p l e (rmk 0 0) s m [.ref a0].toArray below meth c H locs 0 0 (MQ below (th_QM D cT T (fun v q2 => v = none ∧ qkm q2 ∧ fr [7, 8] q q2 ∧ (q2 7 + q2 8 ≤ 40)) [0, 34]) [.ref a0].toArray s 0 0 (th_A T [0, 34])) (F0 m 51 ls []) := by
    intro n
    induction n with
    | zero => intro q51 H locs ls v51_1 hq51 h051 iv51_1 v51_inv0 hH hS hl hn; exact absurd hn (Nat.not_lt_zero _)
    | succ n ih51 =>
      intro q51 H locs ls v51_1 hq51 h051 iv51_1 v51_inv0 hH hS hl hn51
      have l1v51_1 := iv51_1.1; have l2v51_1 := iv51_1.2
      refine lv_iload_n hx hb dX11_keepAct_51 rfl (lv_at hl 1 rfl) ?_
      refine lv_bipush (v := 43) hx hb dX11_keepAct_52 (by decide) ?_
      refine lv_icmp_ge (tgt := 83) hx hb dX11_keepAct_54 (by decide) (fun c1 => ?_) (fun c1 => ?_)
      · skip
        have rlc1 : (43 : Int) ≤ v51_1.toInt := iv_le c1
        have ir2 : IV v51_1 43 43 := iv_vR (iv_c (by decide) : IV 43 43 43) iv51_1 (iv_le c1) (by decide)
        have ir2a := ir2.1; have ir2b := ir2.2
        refine lv_aload_n hx hb dX11_keepAct_83 rfl (lv_at hl 0 rfl) ?_
        refine lv_dup hx hb dX11_keepAct_84 rfl ?_
        refine th_get S hK hH inG11 t0 km_0 rfl 54 (by decide) gm_1284 rfl rfl dX11_keepAct_85 (fun v3 hv3 fv3 => ?_)
        obtain ⟨x4, rfl, ix4⟩ := th_V.int hv3
        have kx4a : q51 7 ≤ x4.toInt := ix4.1
        have kx4b : x4.toInt ≤ q51 7 := ix4.2
        have bx4 := qkm_7 hq51
        have ix4 : IV x4 0 40 := iv_w ix4 (qkm_7 hq51)
        refine lv_iconst (v := 1) hx hb dX11_keepAct_88 (by decide) ?_
        refine lv_iadd hx hb dX11_keepAct_89 ?_
        refine lv_topi (fun x5 ex5 => ?_)
        have ix5 : IV x5 1 41 := by rw [ex5]; exact iv_add ix4 (iv_c (by decide) : IV 1 1 1) (by decide)
        have ux5 : x5.toInt = x4.toInt + (1 : Int) := by rw [ex5]; exact iv_addE (by have z1 := (ix4).1; have z2 := (ix4).2; have z3 := ((iv_c (by decide) : IV 1 1 1)).1; have z4 := ((iv_c (by decide) : IV 1 1 1)).2; omega)
        obtain ⟨n7, en7⟩ : ∃ z : Int, z = Int32.toInt x5 := ⟨_, rfl⟩
        refine mput_7 S hK hH hS ⟨0, by decide, t0⟩ hT t0 en7 gm_1284 dX11_keepAct_90 (fun q6 H locs eq6 hH hS hq1 => ?_)
        have hqq6 : qkm q6 := by rw [eq6]; exact qum_ok7 hq51 (by have z1 := (ix5).1; have z2 := (ix5).2; exact ⟨by omega, by omega⟩)
        have h0q6 : fr [7, 8] q q6 := by rw [eq6]; exact fr_up h051 (by decide)
        have wq6_7 : q6 7 = n7 := by rw [eq6]; rfl
        have wq6_8 : q6 8 = q51 8 := by rw [eq6]; rfl
        refine lv_aload_n hx hb dX11_keepAct_93 rfl (lv_at hl 0 rfl) ?_
        refine lv_iconst (v := 0) hx hb dX11_keepAct_94 (by decide) ?_
        obtain ⟨n9, en9⟩ : ∃ z : Int, z = Int32.toInt 0 := ⟨_, rfl⟩
        have fn9 : n9 = 0 := by rw [en9]; rfl
        refine mput_8 S hK hH hS ⟨0, by decide, t0⟩ hT t0 en9 gm_1285 dX11_keepAct_95 (fun q8 H locs eq8 hH hS hq1 => ?_)
        have hqq8 : qkm q8 := by rw [eq8]; exact qum_ok8 hqq6 (iv_z en9 (iv_w (iv_c (by decide) : IV 0 0 0) (by decide)))
        have h0q8 : fr [7, 8] q q8 := by rw [eq8]; exact fr_up h0q6 (by decide)
        have wq8_7 : q8 7 = q6 7 := by rw [eq8]; rfl
        have wq8_8 : q8 8 = n9 := by rw [eq8]; rfl
        exact th_vretM S hK hH hS hr hlocks ⟨rfl, hqq8, h0q8, (show q8 7 + q8 8 ≤ 40 by omega)⟩ dX11_keepAct_98
      · skip
        have rlc1 : v51_1.toInt < (43 : Int) := iv_nle c1
        have ir10 : IV v51_1 0 42 := iv_uL iv51_1 (iv_c (by decide) : IV 43 43 43) (iv_nle c1) (by decide)
        have ir10a := ir10.1; have ir10b := ir10.2
        refine lv_aload_n hx hb dX11_keepAct_57 rfl (lv_at hl 0 rfl) ?_
        refine th_get S hK hH inG11 t0 km_0 rfl 53 (by decide) gm_1283 rfl rfl dX11_keepAct_58 (fun v11 hv11 fv11 => ?_)
        obtain ⟨rf12, rfl, trf12⟩ := th_V.ref hv11
        refine lv_bipush (v := 43) hx hb dX11_keepAct_61 (by decide) ?_
        refine lv_aload_n hx hb dX11_keepAct_63 rfl (lv_at hl 0 rfl) ?_
        refine th_get S hK hH inG11 t0 km_0 rfl 54 (by decide) gm_1284 rfl rfl dX11_keepAct_64 (fun v13 hv13 fv13 => ?_)
        obtain ⟨x14, rfl, ix14⟩ := th_V.int hv13
        have kx14a : q51 7 ≤ x14.toInt := ix14.1
        have kx14b : x14.toInt ≤ q51 7 := ix14.2
        have bx14 := qkm_7 hq51
        have ix14 : IV x14 0 40 := iv_w ix14 (qkm_7 hq51)
        refine lv_imul hx hb dX11_keepAct_67 ?_
        refine lv_topi (fun x15 ex15 => ?_)
        have ix15 : IV x15 0 1720 := by rw [ex15]; exact iv_mul (iv_c (by decide) : IV 43 43 43) ix14 (by decide) (by decide)
        have ux15 : x15.toInt = (43 : Int) * x14.toInt := by rw [ex15]; exact iv_mulE (iv_corner ((iv_c (by decide) : IV 43 43 43)).1 ((iv_c (by decide) : IV 43 43 43)).2 (ix14).1 (ix14).2 (by decide))
        refine lv_iload_n hx hb dX11_keepAct_68 rfl (lv_at hl 1 rfl) ?_
        refine lv_iadd hx hb dX11_keepAct_69 ?_
        refine lv_topi (fun x16 ex16 => ?_)
        have ix16 : IV x16 0 1762 := by rw [ex16]; exact iv_add ix15 ir10 (by decide)
        have ux16 : x16.toInt = x15.toInt + v51_1.toInt := by rw [ex16]; exact iv_addE (by have z1 := (ix15).1; have z2 := (ix15).2; have z3 := (ir10).1; have z4 := (ir10).2; omega)
        refine lv_aload_n hx hb dX11_keepAct_70 rfl (lv_at hl 0 rfl) ?_
        refine th_get S hK hH inG11 t0 km_0 rfl 52 (by decide) gm_1282 rfl rfl dX11_keepAct_71 (fun v17 hv17 fv17 => ?_)
        obtain ⟨rf18, rfl, trf18⟩ := th_V.ref hv17
        refine lv_iload_n hx hb dX11_keepAct_74 rfl (lv_at hl 1 rfl) ?_
        refine th_iald S hK hH trf18 km_33 (th_in (hi := 42) ir10 (by decide)) dX11_keepAct_75 (fun v19 hv19 => ?_)
        obtain ⟨x20, rfl, ix20⟩ := th_V.int hv19
        refine th_iast S hK hH hS ⟨34, by decide, trf12⟩ trf12 km_34 (th_in (hi := 1762) ix16 (by decide)) (th_iv ix20) dX11_keepAct_76 (fun H locs hH hS hq1 => ?_)
        have f21 := fv11.kept (hq1 _ (th_ne t0 trf12 (by decide)))
        refine th_iinc S dX11_keepAct_77 hl (k := 1) rfl (by decide) ir10 (by decide) (fun x22 ls ex22 ix22 hl => ?_)
        have hl : lv_has ls 2 [(1, .int x22), (0, .ref a0)] := hl
        have ix22 : IV x22 1 43 := ix22
        refine lv_goto (tgt := 51) hx hb dX11_keepAct_80 (by decide) ?_
        exact ih51 q51 H locs ls x22 hq51 h051 (iv_w ix22 (by decide)) (show q51 7 ≤ 39 by omega) hH hS (lv_sub hl [1, 0] rfl) (th_up iv51_1 ex22 (by decide) hn51)
  have J49 : ∀ (q49 : Nat → Int) (H : Heap) (locs : List Loc) (ls : Array Slot), qkm q49 → fr [7, 8] q q49 → (q49 7 ≤ 39) → th_H D cT T (km q49) H → va_S (th_A T [0, 34]) s.heap H locs → lv_has ls 2 [(0, .ref a0)] → W p l e (rmk 0 0) s m [.ref a0].toArray below meth c H locs 0 0 (MQ below (th_QM D cT T (fun v q2 => v = none ∧ qkm q2 ∧ fr [7, 8] q q2 ∧ (q2 7 + q2 8 ≤ 40)) [0, 34]) [.ref a0].toArray s 0 0 (th_A T [0, 34])) (F0 m 49 ls []) := by
    intro q49 H locs ls hq49 h049 v49_inv0 hH hS hl
    refine lv_iconst (v := 0) hx hb dX11_keepAct_49 (by decide) ?_
    refine lv_istore_n (lv' := [(1, .int 0), (0, .ref a0)]) hx hb dX11_keepAct_50 rfl hl (by decide) rfl (fun ls hl => ?_)
    exact J51 ((43 + 1 - Int32.toInt 0).toNat + 1) q49 H locs ls 0 hq49 h049 (iv_w (iv_c (by decide) : IV 0 0 0) (by decide)) (show q49 7 ≤ 39 by omega) hH hS (lv_sub hl [1, 0] rfl) (Nat.lt_succ_self _)
  have J11 : ∀ (n : Nat) (H : Heap) (locs : List Loc) (ls : Array Slot) (v11_1 : Int32), IV v11_1 0 1720 → (q 7 = 40) → th_H D cT T (km q) H → va_S (th_A T [0, 34]) s.heap H locs → lv_has ls 2 [(0, .ref a0), (1, .int v11_1)] → (1720 + 1 - Int32.toInt v11_1).toNat < n → W p l e (rmk 0 0) s m [.ref a0].toArray below meth c H locs 0 0 (MQ below (th_QM D cT T (fun v q2 => v = none ∧ qkm q2 ∧ fr [7, 8] q q2 ∧ (q2 7 + q2 8 ≤ 40)) [0, 34]) [.ref a0].toArray s 0 0 (th_A T [0, 34])) (F0 m 11 ls []) := by
    intro n
    induction n with
    | zero => intro H locs ls v11_1 iv11_1 v11_inv0 hH hS hl hn; exact absurd hn (Nat.not_lt_zero _)
    | succ n ih11 =>
      intro H locs ls v11_1 iv11_1 v11_inv0 hH hS hl hn11
      have l1v11_1 := iv11_1.1; have l2v11_1 := iv11_1.2
      refine lv_iload_n hx hb dX11_keepAct_11 rfl (lv_at hl 1 rfl) ?_
      refine lv_sipush (v := 1720) hx hb dX11_keepAct_12 (by decide) ?_
      refine lv_icmp_ge (tgt := 39) hx hb dX11_keepAct_15 (by decide) (fun c23 => ?_) (fun c23 => ?_)
      · skip
        have rlc23 : (1720 : Int) ≤ v11_1.toInt := iv_le c23
        have ir24 : IV v11_1 1720 1720 := iv_vR (iv_c (by decide) : IV 1720 1720 1720) iv11_1 (iv_le c23) (by decide)
        have ir24a := ir24.1; have ir24b := ir24.2
        refine lv_aload_n hx hb dX11_keepAct_39 rfl (lv_at hl 0 rfl) ?_
        refine lv_dup hx hb dX11_keepAct_40 rfl ?_
        refine th_get S hK hH inG11 t0 km_0 rfl 54 (by decide) gm_1284 rfl rfl dX11_keepAct_41 (fun v25 hv25 fv25 => ?_)
        obtain ⟨x26, rfl, ix26⟩ := th_V.int hv25
        have kx26a : q 7 ≤ x26.toInt := ix26.1
        have kx26b : x26.toInt ≤ q 7 := ix26.2
        have bx26 := qkm_7 hq
        have ix26 : IV x26 0 40 := iv_w ix26 (qkm_7 hq)
        refine lv_iconst (v := 1) hx hb dX11_keepAct_44 (by decide) ?_
        refine lv_isub hx hb dX11_keepAct_45 ?_
        refine lv_topi (fun x27 ex27 => ?_)
        have ix27 : IV x27 (-1) 39 := by rw [ex27]; exact iv_sub ix26 (iv_c (by decide) : IV 1 1 1) (by decide)
        have ux27 : x27.toInt = x26.toInt - (1 : Int) := by rw [ex27]; exact iv_subE (by have z1 := (ix26).1; have z2 := (ix26).2; have z3 := ((iv_c (by decide) : IV 1 1 1)).1; have z4 := ((iv_c (by decide) : IV 1 1 1)).2; omega)
        obtain ⟨n29, en29⟩ : ∃ z : Int, z = Int32.toInt x27 := ⟨_, rfl⟩
        refine mput_7 S hK hH hS ⟨0, by decide, t0⟩ hT t0 en29 gm_1284 dX11_keepAct_46 (fun q28 H locs eq28 hH hS hq1 => ?_)
        have hqq28 : qkm q28 := by rw [eq28]; exact qum_ok7 hq (by have z1 := (ix27).1; have z2 := (ix27).2; exact ⟨by omega, by omega⟩)
        have h0q28 : fr [7, 8] q q28 := by rw [eq28]; exact fr_up fr_rf (by decide)
        have wq28_7 : q28 7 = n29 := by rw [eq28]; rfl
        have wq28_8 : q28 8 = q 8 := by rw [eq28]; rfl
        exact J49 q28 H locs ls hqq28 h0q28 (show q28 7 ≤ 39 by omega) hH hS (lv_sub hl [0] rfl)
      · skip
        have rlc23 : v11_1.toInt < (1720 : Int) := iv_nle c23
        have ir30 : IV v11_1 0 1719 := iv_uL iv11_1 (iv_c (by decide) : IV 1720 1720 1720) (iv_nle c23) (by decide)
        have ir30a := ir30.1; have ir30b := ir30.2
        refine lv_aload_n hx hb dX11_keepAct_18 rfl (lv_at hl 0 rfl) ?_
        refine th_get S hK hH inG11 t0 km_0 rfl 53 (by decide) gm_1283 rfl rfl dX11_keepAct_19 (fun v31 hv31 fv31 => ?_)
        obtain ⟨rf32, rfl, trf32⟩ := th_V.ref hv31
        refine lv_iload_n hx hb dX11_keepAct_22 rfl (lv_at hl 1 rfl) ?_
        refine lv_aload_n hx hb dX11_keepAct_23 rfl (lv_at hl 0 rfl) ?_
        refine th_getK S hK fv31 inG11 rfl (by decide) gm_1283 rfl dX11_keepAct_24 ?_
        refine lv_iload_n hx hb dX11_keepAct_27 rfl (lv_at hl 1 rfl) ?_
        refine lv_bipush (v := 43) hx hb dX11_keepAct_28 (by decide) ?_
        refine lv_iadd hx hb dX11_keepAct_30 ?_
        refine lv_topi (fun x34 ex34 => ?_)
        have ix34 : IV x34 43 1762 := by rw [ex34]; exact iv_add ir30 (iv_c (by decide) : IV 43 43 43) (by decide)
        have ux34 : x34.toInt = v11_1.toInt + (43 : Int) := by rw [ex34]; exact iv_addE (by have z1 := (ir30).1; have z2 := (ir30).2; have z3 := ((iv_c (by decide) : IV 43 43 43)).1; have z4 := ((iv_c (by decide) : IV 43 43 43)).2; omega)
        refine th_iald S hK hH trf32 km_34 (th_in (hi := 1762) (iv_w ix34 (by decide)) (by decide)) dX11_keepAct_31 (fun v35 hv35 => ?_)
        obtain ⟨x36, rfl, ix36⟩ := th_V.int hv35
        refine th_iast S hK hH hS ⟨34, by decide, trf32⟩ trf32 km_34 (th_in (hi := 1719) ir30 (by decide)) (th_iv ix36) dX11_keepAct_32 (fun H locs hH hS hq1 => ?_)
        have f37 := fv31.kept (hq1 _ (th_ne t0 trf32 (by decide)))
        refine th_iinc S dX11_keepAct_33 hl (k := 1) rfl (by decide) ir30 (by decide) (fun x38 ls ex38 ix38 hl => ?_)
        have hl : lv_has ls 2 [(1, .int x38), (0, .ref a0)] := hl
        have ix38 : IV x38 1 1720 := ix38
        refine lv_goto (tgt := 11) hx hb dX11_keepAct_36 (by decide) ?_
        exact ih11 H locs ls x38 (iv_w ix38 (by decide)) (show q 7 = 40 by omega) hH hS (lv_sub hl [1, 0] rfl) (th_up iv11_1 ex38 (by decide) hn11)
  have J0 : ∀ (H : Heap) (locs : List Loc) (ls : Array Slot), th_H D cT T (km q) H → va_S (th_A T [0, 34]) s.heap H locs → lv_has ls 2 [(0, .ref a0)] → W p l e (rmk 0 0) s m [.ref a0].toArray below meth c H locs 0 0 (MQ below (th_QM D cT T (fun v q2 => v = none ∧ qkm q2 ∧ fr [7, 8] q q2 ∧ (q2 7 + q2 8 ≤ 40)) [0, 34]) [.ref a0].toArray s 0 0 (th_A T [0, 34])) (F0 m 0 ls []) := by
    intro H locs ls hH hS hl
    refine lv_aload_n hx hb dX11_keepAct_0 rfl (lv_at hl 0 rfl) ?_
    refine th_get S hK hH inG11 t0 km_0 rfl 54 (by decide) gm_1284 rfl rfl dX11_keepAct_1 (fun v39 hv39 fv39 => ?_)
    obtain ⟨x40, rfl, ix40⟩ := th_V.int hv39
    have kx40a : q 7 ≤ x40.toInt := ix40.1
    have kx40b : x40.toInt ≤ q 7 := ix40.2
    have bx40 := qkm_7 hq
    have ix40 : IV x40 0 40 := iv_w ix40 (qkm_7 hq)
    refine lv_bipush (v := 40) hx hb dX11_keepAct_4 (by decide) ?_
    refine lv_icmp_ne (tgt := 49) hx hb dX11_keepAct_6 (by decide) (fun c41 => ?_) (fun c41 => ?_)
    · skip
      have rlc41 : x40.toInt ≠ (40 : Int) := iv_ne c41
      have ir42 : IV x40 0 39 := iv_cutH ix40 (iv_c (by decide) : IV 40 40 40) c41 (by decide)
      have ir42a := ir42.1; have ir42b := ir42.2
      exact J49 q H locs ls hq fr_rf (show q 7 ≤ 39 by omega) hH hS (lv_sub hl [0] rfl)
    · skip
      have rlc41 : x40.toInt = (40 : Int) := congrArg Int32.toInt c41
      have ir43 : IV x40 40 40 := ⟨(iv_eL c41 (iv_c (by decide) : IV 40 40 40)).1, ix40.2⟩
      have ir43a := ir43.1; have ir43b := ir43.2
      refine lv_iconst (v := 0) hx hb dX11_keepAct_9 (by decide) ?_
      refine lv_istore_n (lv' := [(1, .int 0), (0, .ref a0)]) hx hb dX11_keepAct_10 rfl hl (by decide) rfl (fun ls hl => ?_)
      exact J11 ((1720 + 1 - Int32.toInt 0).toNat + 1) H locs ls 0 (iv_w (iv_c (by decide) : IV 0 0 0) (by decide)) (show q 7 = 40 by omega) hH hS (lv_sub hl [1, 0] rfl) (Nat.lt_succ_self _)
  exact J0 s.heap [] ls hH va_S.rf hl

set_option maxRecDepth 100000 in
theorem m_X11_exchange (l : Launch) (D : va_G) (cT : Nat → ClassId) (T : Nat → Option Nat) (q : Nat → Int) (hT : tokm T) (hq : qkm q) (a0 : Nat) (t0 : T a0 = some 0) : th_Met l D cT T (km q) yX11_exchange cX11_exchange 3 none (rmk 0 0) [.ref a0] (th_R T none) [33, 34] := by
  refine th_start (by decide) (Nat.le_of_ble_eq_true rfl) ?_
  intro p e s m below meth c ls S hK hH hr hlocks hnm hl
  have hx := S.1
  have hb := S.2.1
  have hl : lv_has ls 3 [(0, .ref a0)] := hl
  have J2 : ∀ (n : Nat) (H : Heap) (locs : List Loc) (ls : Array Slot) (v2_1 : Int32), IV v2_1 0 43 → th_H D cT T (km q) H → va_S (th_A T [33, 34]) s.heap H locs → lv_has ls 3 [(0, .ref a0), (1, .int v2_1)] → (43 + 1 - Int32.toInt v2_1).toNat < n → W p l e (rmk 0 0) s m [.ref a0].toArray below meth c H locs 0 0 (MQ below (th_Q D cT T (km q) (th_R T none) [33, 34]) [.ref a0].toArray s 0 0 (th_A T [33, 34])) (F0 m 2 ls []) := by
    intro n
    induction n with
    | zero => intro H locs ls v2_1 iv2_1 hH hS hl hn; exact absurd hn (Nat.not_lt_zero _)
    | succ n ih2 =>
      intro H locs ls v2_1 iv2_1 hH hS hl hn2
      have l1v2_1 := iv2_1.1; have l2v2_1 := iv2_1.2
      refine lv_iload_n hx hb dX11_exchange_2 rfl (lv_at hl 1 rfl) ?_
      refine lv_bipush (v := 43) hx hb dX11_exchange_3 (by decide) ?_
      refine lv_icmp_ge (tgt := 56) hx hb dX11_exchange_5 (by decide) (fun c1 => ?_) (fun c1 => ?_)
      · skip
        have rlc1 : (43 : Int) ≤ v2_1.toInt := iv_le c1
        have ir2 : IV v2_1 43 43 := iv_vR (iv_c (by decide) : IV 43 43 43) iv2_1 (iv_le c1) (by decide)
        have ir2a := ir2.1; have ir2b := ir2.2
        exact th_vret S hK hH hS hr hlocks rfl dX11_exchange_56
      · skip
        have rlc1 : v2_1.toInt < (43 : Int) := iv_nle c1
        have ir3 : IV v2_1 0 42 := iv_uL iv2_1 (iv_c (by decide) : IV 43 43 43) (iv_nle c1) (by decide)
        have ir3a := ir3.1; have ir3b := ir3.2
        refine lv_aload_n hx hb dX11_exchange_8 rfl (lv_at hl 0 rfl) ?_
        refine th_get S hK hH inG11 t0 km_0 rfl 53 (by decide) gm_1283 rfl rfl dX11_exchange_9 (fun v4 hv4 fv4 => ?_)
        obtain ⟨rf5, rfl, trf5⟩ := th_V.ref hv4
        refine lv_bipush (v := 43) hx hb dX11_exchange_12 (by decide) ?_
        refine lv_aload_n hx hb dX11_exchange_14 rfl (lv_at hl 0 rfl) ?_
        refine th_get S hK hH inG11 t0 km_0 rfl 54 (by decide) gm_1284 rfl rfl dX11_exchange_15 (fun v6 hv6 fv6 => ?_)
        obtain ⟨x7, rfl, ix7⟩ := th_V.int hv6
        have kx7a : q 7 ≤ x7.toInt := ix7.1
        have kx7b : x7.toInt ≤ q 7 := ix7.2
        have ix7 : IV x7 0 40 := iv_w ix7 (qkm_7 hq)
        refine lv_imul hx hb dX11_exchange_18 ?_
        refine lv_topi (fun x8 ex8 => ?_)
        have ix8 : IV x8 0 1720 := by rw [ex8]; exact iv_mul (iv_c (by decide) : IV 43 43 43) ix7 (by decide) (by decide)
        have ux8 : x8.toInt = (43 : Int) * x7.toInt := by rw [ex8]; exact iv_mulE (iv_corner ((iv_c (by decide) : IV 43 43 43)).1 ((iv_c (by decide) : IV 43 43 43)).2 (ix7).1 (ix7).2 (by decide))
        refine lv_iload_n hx hb dX11_exchange_19 rfl (lv_at hl 1 rfl) ?_
        refine lv_iadd hx hb dX11_exchange_20 ?_
        refine lv_topi (fun x9 ex9 => ?_)
        have ix9 : IV x9 0 1762 := by rw [ex9]; exact iv_add ix8 ir3 (by decide)
        have ux9 : x9.toInt = x8.toInt + v2_1.toInt := by rw [ex9]; exact iv_addE (by have z1 := (ix8).1; have z2 := (ix8).2; have z3 := (ir3).1; have z4 := (ir3).2; omega)
        refine th_iald S hK hH trf5 km_34 (th_in (hi := 1762) ix9 (by decide)) dX11_exchange_21 (fun v10 hv10 => ?_)
        obtain ⟨x11, rfl, ix11⟩ := th_V.int hv10
        refine lv_istore_n (lv' := [(2, .int x11), (0, .ref a0), (1, .int v2_1)]) hx hb dX11_exchange_22 rfl hl (by decide) rfl (fun ls hl => ?_)
        refine lv_aload_n hx hb dX11_exchange_23 rfl (lv_at hl 1 rfl) ?_
        refine th_getK S hK fv4 inG11 rfl (by decide) gm_1283 rfl dX11_exchange_24 ?_
        refine lv_bipush (v := 43) hx hb dX11_exchange_27 (by decide) ?_
        refine lv_aload_n hx hb dX11_exchange_29 rfl (lv_at hl 1 rfl) ?_
        refine th_get S hK hH inG11 t0 km_0 rfl 54 (by decide) gm_1284 rfl rfl dX11_exchange_30 (fun v13 hv13 fv13 => ?_)
        obtain ⟨x14, rfl, ix14⟩ := th_V.int hv13
        have kx14a : q 7 ≤ x14.toInt := ix14.1
        have kx14b : x14.toInt ≤ q 7 := ix14.2
        have ix14 : IV x14 0 40 := iv_w ix14 (qkm_7 hq)
        refine lv_imul hx hb dX11_exchange_33 ?_
        refine lv_topi (fun x15 ex15 => ?_)
        have ix15 : IV x15 0 1720 := by rw [ex15]; exact iv_mul (iv_c (by decide) : IV 43 43 43) ix14 (by decide) (by decide)
        have ux15 : x15.toInt = (43 : Int) * x14.toInt := by rw [ex15]; exact iv_mulE (iv_corner ((iv_c (by decide) : IV 43 43 43)).1 ((iv_c (by decide) : IV 43 43 43)).2 (ix14).1 (ix14).2 (by decide))
        refine lv_iload_n hx hb dX11_exchange_34 rfl (lv_at hl 2 rfl) ?_
        refine lv_iadd hx hb dX11_exchange_35 ?_
        refine lv_topi (fun x16 ex16 => ?_)
        have ix16 : IV x16 0 1762 := by rw [ex16]; exact iv_add ix15 ir3 (by decide)
        have ux16 : x16.toInt = x15.toInt + v2_1.toInt := by rw [ex16]; exact iv_addE (by have z1 := (ix15).1; have z2 := (ix15).2; have z3 := (ir3).1; have z4 := (ir3).2; omega)
        refine lv_aload_n hx hb dX11_exchange_36 rfl (lv_at hl 1 rfl) ?_
        refine th_get S hK hH inG11 t0 km_0 rfl 52 (by decide) gm_1282 rfl rfl dX11_exchange_37 (fun v17 hv17 fv17 => ?_)
        obtain ⟨rf18, rfl, trf18⟩ := th_V.ref hv17
        refine lv_iload_n hx hb dX11_exchange_40 rfl (lv_at hl 2 rfl) ?_
        refine th_iald S hK hH trf18 km_33 (th_in (hi := 42) ir3 (by decide)) dX11_exchange_41 (fun v19 hv19 => ?_)
        obtain ⟨x20, rfl, ix20⟩ := th_V.int hv19
        refine th_iast S hK hH hS ⟨34, by decide, trf5⟩ trf5 km_34 (th_in (hi := 1762) ix16 (by decide)) (th_iv ix20) dX11_exchange_42 (fun H locs hH hS hq1 => ?_)
        have f21 := fv4.kept (hq1 _ (th_ne t0 trf5 (by decide)))
        have f22 := fv17.kept (hq1 _ (th_ne t0 trf5 (by decide)))
        refine lv_aload_n hx hb dX11_exchange_43 rfl (lv_at hl 1 rfl) ?_
        refine th_getK S hK f22 inG11 rfl (by decide) gm_1282 rfl dX11_exchange_44 ?_
        refine lv_iload_n hx hb dX11_exchange_47 rfl (lv_at hl 2 rfl) ?_
        refine lv_iload_n hx hb dX11_exchange_48 rfl (lv_at hl 0 rfl) ?_
        refine th_iast S hK hH hS ⟨33, by decide, trf18⟩ trf18 km_33 (th_in (hi := 42) ir3 (by decide)) (th_iv ix11) dX11_exchange_49 (fun H locs hH hS hq1 => ?_)
        have f24 := f21.kept (hq1 _ (th_ne t0 trf18 (by decide)))
        have f25 := f22.kept (hq1 _ (th_ne t0 trf18 (by decide)))
        refine th_iinc S dX11_exchange_50 hl (k := 2) rfl (by decide) ir3 (by decide) (fun x26 ls ex26 ix26 hl => ?_)
        have hl : lv_has ls 3 [(1, .int x26), (2, .int x11), (0, .ref a0)] := hl
        have ix26 : IV x26 1 43 := ix26
        refine lv_goto (tgt := 2) hx hb dX11_exchange_53 (by decide) ?_
        exact ih2 H locs ls x26 (iv_w ix26 (by decide)) hH hS (lv_sub hl [2, 0] rfl) (th_up iv2_1 ex26 (by decide) hn2)
  have J0 : ∀ (H : Heap) (locs : List Loc) (ls : Array Slot), th_H D cT T (km q) H → va_S (th_A T [33, 34]) s.heap H locs → lv_has ls 3 [(0, .ref a0)] → W p l e (rmk 0 0) s m [.ref a0].toArray below meth c H locs 0 0 (MQ below (th_Q D cT T (km q) (th_R T none) [33, 34]) [.ref a0].toArray s 0 0 (th_A T [33, 34])) (F0 m 0 ls []) := by
    intro H locs ls hH hS hl
    refine lv_iconst (v := 0) hx hb dX11_exchange_0 (by decide) ?_
    refine lv_istore_n (lv' := [(1, .int 0), (0, .ref a0)]) hx hb dX11_exchange_1 rfl hl (by decide) rfl (fun ls hl => ?_)
    exact J2 ((43 + 1 - Int32.toInt 0).toNat + 1) H locs ls 0 (iv_w (iv_c (by decide) : IV 0 0 0) (by decide)) hH hS (lv_sub hl [1, 0] rfl) (Nat.lt_succ_self _)
  exact J0 s.heap [] ls hH va_S.rf hl

set_option maxRecDepth 100000 in
theorem m_X11_give (l : Launch) (D : va_G) (cT : Nat → ClassId) (T : Nat → Option Nat) (q : Nat → Int) (hT : tokm T) (hq : qkm q) (a0 : Nat) (t0 : T a0 = some 0) (y1 : Int32) (j1 : IV y1 (-2147483648) 2147483647) (y2 : Int32) (j2 : IV y2 (-2147483648) 2147483647) (y3 : Int32) (j3 : IV y3 (-2147483648) 2147483647) (hp0 : q 7 + q 8 ≤ 40) : th_MetM l D cT T q yX11_give cX11_give 4 (some .int) (rmk 2 43) [.ref a0, .int y1, .int y2, .int y3] (fun v q2 => ∃ r : Int32, v = some (.int r) ∧ IV r (-2147483648) 2147483647 ∧ qkm q2 ∧ fr [7, 8] q q2 ∧ (q2 7 + q2 8 ≤ 40)) [0, 33, 34] := by
  refine th_startM (by decide) (Nat.le_of_ble_eq_true rfl) ?_
  intro p e s m below meth c ls S hK hH hr hlocks hnm hl
  have hx := S.1
  have hb := S.2.1
  have hl : lv_has ls 4 [(0, .ref a0), (1, .int y1), (2, .int y2), (3, .int y3)] := hl
  have J32 : ∀ (H : Heap) (locs : List Loc) (ls : Array Slot), th_H D cT T (km q) H → va_S (th_A T [0, 33, 34]) s.heap H locs → lv_has ls 4 [] → W p l e (rmk 2 43) s m [.ref a0, .int y1, .int y2, .int y3].toArray below meth c H locs 0 0 (MQ below (th_QM D cT T (fun v q2 => ∃ r : Int32, v = some (.int r) ∧ IV r (-2147483648) 2147483647 ∧ qkm q2 ∧ fr [7, 8] q q2 ∧ (q2 7 + q2 8 ≤ 40)) [0, 33, 34]) [.ref a0, .int y1, .int y2, .int y3].toArray s 0 0 (th_A T [0, 33, 34])) (F0 m 32 ls []) := by
    intro H locs ls hH hS hl
    refine lv_iconst (v := (-1)) hx hb dX11_give_32 (by decide) ?_
    exact th_iretM S hK hH hS hr hlocks ⟨_, rfl, (iv_top _), hq, fr_rf, (show q 7 + q 8 ≤ 40 by omega)⟩ dX11_give_33
  have J0 : ∀ (H : Heap) (locs : List Loc) (ls : Array Slot), th_H D cT T (km q) H → va_S (th_A T [0, 33, 34]) s.heap H locs → lv_has ls 4 [(0, .ref a0), (1, .int y1), (2, .int y2), (3, .int y3)] → W p l e (rmk 2 43) s m [.ref a0, .int y1, .int y2, .int y3].toArray below meth c H locs 0 0 (MQ below (th_QM D cT T (fun v q2 => ∃ r : Int32, v = some (.int r) ∧ IV r (-2147483648) 2147483647 ∧ qkm q2 ∧ fr [7, 8] q q2 ∧ (q2 7 + q2 8 ≤ 40)) [0, 33, 34]) [.ref a0, .int y1, .int y2, .int y3].toArray s 0 0 (th_A T [0, 33, 34])) (F0 m 0 ls []) := by
    intro H locs ls hH hS hl
    refine lv_aload_n hx hb dX11_give_0 rfl (lv_at hl 0 rfl) ?_
    refine lv_iload_n hx hb dX11_give_1 rfl (lv_at hl 1 rfl) ?_
    refine th_callVp (n := 1) (As := [.int y1]) S hK hH hS (th_A.sub (by decide)) (m_X11_isMap l D cT T q hT hq a0 t0 (y1) j1) gm_1626 gm_1623 gm_1625 gm_80 gm_124 (by decide +kernel) ⟨rfl, rfl, Nat.le_of_ble_eq_true rfl, Nat.le_of_ble_eq_true rfl⟩ t0 km_0 rfl rfl hl.1 rfl (Nat.le_of_ble_eq_true rfl) dX11_give_2 ⟨Nat.zero_le _, Nat.zero_le _⟩ (fun x1 H locs ix1 ox1 hH hS hF1 => ?_)
    have ox1 : x1.toInt ≠ 0 → 0 ≤ y1.toInt ∧ y1.toInt < q 11 := ox1
    have l1x1 := ix1.1; have l2x1 := ix1.2
    refine lv_if_eq (tgt := 32) hx hb dX11_give_5 (by decide) (fun c2 => ?_) (fun c2 => ?_)
    · skip
      have rlc2 : x1.toInt = (0 : Int) := congrArg Int32.toInt c2
      have ir3 : IV x1 0 0 := iv_eL c2 (iv_c (by decide) : IV 0 0 0)
      have ir3a := ir3.1; have ir3b := ir3.2
      exact J32 H locs ls  hH hS (lv_sub hl [] rfl)
    · skip
      have rlc2 : x1.toInt ≠ (0 : Int) := iv_ne c2
      have ir4 : IV x1 1 1 := iv_cutL ix1 (iv_c (by decide) : IV 0 0 0) c2 (by decide)
      have ir4a := ir4.1; have ir4b := ir4.2
      have ir5 : IV y1 0 3 := ((fun z => by have z1 := iv_ne z; have z2 : x1.toInt ≠ 0 := z1; have z60 := qkm_11 hq; exact ⟨by omega, by omega⟩) : ¬ x1 = 0 → IV y1 0 3) c2
      have ir5a := ir5.1; have ir5b := ir5.2
      refine lv_aload_n hx hb dX11_give_8 rfl (lv_at hl 0 rfl) ?_
      refine lv_iload_n hx hb dX11_give_9 rfl (lv_at hl 2 rfl) ?_
      refine th_callVp (n := 1) (As := [.int y2]) S hK hH hS (th_A.sub (by decide)) (m_X11_isFood l D cT T q hT hq a0 t0 (y2) j2) gm_1615 gm_1612 gm_1614 gm_79 gm_124 (by decide +kernel) ⟨rfl, rfl, Nat.le_of_ble_eq_true rfl, Nat.le_of_ble_eq_true rfl⟩ t0 km_0 rfl rfl hl.1 rfl (Nat.le_of_ble_eq_true rfl) dX11_give_10 ⟨Nat.zero_le _, Nat.zero_le _⟩ (fun x6 H locs ix6 ox6 hH hS hF1 => ?_)
      have ox6 : x6.toInt ≠ 0 → 0 ≤ y2.toInt ∧ y2.toInt < q 16 := ox6
      have l1x6 := ix6.1; have l2x6 := ix6.2
      refine lv_if_eq (tgt := 32) hx hb dX11_give_13 (by decide) (fun c7 => ?_) (fun c7 => ?_)
      · skip
        have rlc7 : x6.toInt = (0 : Int) := congrArg Int32.toInt c7
        have ir8 : IV x6 0 0 := iv_eL c7 (iv_c (by decide) : IV 0 0 0)
        have ir8a := ir8.1; have ir8b := ir8.2
        exact J32 H locs ls  hH hS (lv_sub hl [] rfl)
      · skip
        have rlc7 : x6.toInt ≠ (0 : Int) := iv_ne c7
        have ir9 : IV x6 1 1 := iv_cutL ix6 (iv_c (by decide) : IV 0 0 0) c7 (by decide)
        have ir9a := ir9.1; have ir9b := ir9.2
        have ir10 : IV y2 0 2 := ((fun z => by have z1 := iv_ne z; have z2 : x6.toInt ≠ 0 := z1; have z60 := qkm_16 hq; exact ⟨by omega, by omega⟩) : ¬ x6 = 0 → IV y2 0 2) c7
        have ir10a := ir10.1; have ir10b := ir10.2
        refine lv_iload_n hx hb dX11_give_16 rfl (lv_at hl 3 rfl) ?_
        refine lv_iconst (v := 1) hx hb dX11_give_17 (by decide) ?_
        refine lv_aload_n hx hb dX11_give_18 rfl (lv_at hl 0 rfl) ?_
        refine th_get S hK hH inG11 t0 km_0 rfl 52 (by decide) gm_1282 rfl rfl dX11_give_19 (fun v11 hv11 fv11 => ?_)
        obtain ⟨rf12, rfl, trf12⟩ := th_V.ref hv11
        refine lv_iconst (v := 0) hx hb dX11_give_22 (by decide) ?_
        refine lv_iload_n hx hb dX11_give_23 rfl (lv_at hl 2 rfl) ?_
        refine lv_iadd hx hb dX11_give_24 ?_
        refine lv_topi (fun x13 ex13 => ?_)
        have ix13 : IV x13 0 2 := by rw [ex13]; exact iv_add (iv_c (by decide) : IV 0 0 0) ir10 (by decide)
        have ux13 : x13.toInt = (0 : Int) + y2.toInt := by rw [ex13]; exact iv_addE (by have z1 := ((iv_c (by decide) : IV 0 0 0)).1; have z2 := ((iv_c (by decide) : IV 0 0 0)).2; have z3 := (ir10).1; have z4 := (ir10).2; omega)
        refine th_iald S hK hH trf12 km_33 (th_in (hi := 2) ix13 (by decide)) dX11_give_25 (fun v14 hv14 => ?_)
        obtain ⟨x15, rfl, ix15⟩ := th_V.int hv14
        refine th_callSp (n := 3) (As := [.int y3, .int 1, .int x15]) S hK hH hS (th_A.sub (by decide)) (m_X11_isIn l D cT T q hT hq (y3) j3 (1) (iv_top _) (x15) ix15) gm_1618 gm_1616 gm_1617 gm_124 (by decide +kernel) ⟨rfl, rfl, Nat.le_of_ble_eq_true rfl, Nat.le_of_ble_eq_true rfl⟩ rfl hl.1 rfl (Nat.le_of_ble_eq_true rfl) dX11_give_26 ⟨Nat.zero_le _, Nat.zero_le _⟩ (fun x16 H locs ix16 ox16 hH hS hF1 => ?_)
        obtain ⟨ox16_0, ox16_1⟩ := ox16
        have ox16_0 : x16.toInt ≠ 0 → (1 : Int) ≤ y3.toInt ∧ y3.toInt ≤ x15.toInt := ox16_0
        have ox16_1 : x16.toInt = 0 → y3.toInt < (1 : Int) ∨ x15.toInt < y3.toInt := ox16_1
        have l1x16 := ix16.1; have l2x16 := ix16.2
        have f17 := fv11.kept (hF1 _ fv11.lt (th_off t0 (by decide)))
        refine lv_if_ne (tgt := 34) hx hb dX11_give_29 (by decide) (fun c18 => ?_) (fun c18 => ?_)
        · skip
          have rlc18 : x16.toInt ≠ (0 : Int) := iv_ne c18
          have ir19 : IV x16 1 1 := iv_cutL ix16 (iv_c (by decide) : IV 0 0 0) c18 (by decide)
          have ir19a := ir19.1; have ir19b := ir19.2
          have ir20 : IV y3 1 2147483647 := ((fun z => by have z1 := iv_ne z; have z2 : x16.toInt ≠ 0 := z1; have z4 := ((iv_c (by decide) : IV 1 1 1)).1; have z5 := (ix15).2; exact ⟨by omega, by omega⟩) : ¬ x16 = 0 → IV y3 1 2147483647) c18
          have ir20a := ir20.1; have ir20b := ir20.2
          refine lv_aload_n hx hb dX11_give_34 rfl (lv_at hl 0 rfl) ?_
          refine th_callVM (n := 0) (As := []) S hK hH hS (th_A.sub (by decide)) (m_X11_keepAct l D cT T q hT hq a0 t0 (show q 7 + q 8 ≤ 40 by omega)) gm_1697 gm_1694 gm_1696 gm_91 gm_124 (by decide +kernel) ⟨rfl, rfl, Nat.le_of_ble_eq_true rfl, Nat.le_of_ble_eq_true rfl⟩ t0 km_0 rfl rfl hl.1 rfl (Nat.le_of_ble_eq_true rfl) dX11_give_35 ⟨Nat.zero_le _, Nat.zero_le _⟩ (fun wq21 q21 H locs hEq21 hH hS hF1 => ?_)
          obtain ⟨rfl, hqq21, g0q21, pq21_0⟩ := hEq21
          show W p l e (rmk 2 43) s m [.ref a0, .int y1, .int y2, .int y3].toArray below meth c H locs 0 0 (MQ below (th_QM D cT T (fun v q2 => ∃ r : Int32, v = some (.int r) ∧ IV r (-2147483648) 2147483647 ∧ qkm q2 ∧ fr [7, 8] q q2 ∧ (q2 7 + q2 8 ≤ 40)) [0, 33, 34]) [.ref a0, .int y1, .int y2, .int y3].toArray s 0 0 (th_A T [0, 33, 34])) (F0 m 38 ls [])
          have pq21_0 : q21 7 + q21 8 ≤ 40 := pq21_0
          have h0q21 : fr [7, 8] q q21 := fr_tr fr_rf g0q21 (by decide)
          refine lv_aload_n hx hb dX11_give_38 rfl (lv_at hl 0 rfl) ?_
          refine th_get S hK hH inG11 t0 km_0 rfl 52 (by decide) gm_1282 rfl rfl dX11_give_39 (fun v22 hv22 fv22 => ?_)
          obtain ⟨rf23, rfl, trf23⟩ := th_V.ref hv22
          refine lv_iconst (v := 0) hx hb dX11_give_42 (by decide) ?_
          refine lv_iload_n hx hb dX11_give_43 rfl (lv_at hl 2 rfl) ?_
          refine lv_iadd hx hb dX11_give_44 ?_
          refine lv_topi (fun x24 ex24 => ?_)
          have zx24 : x13 = x24 := ex13.trans ex24.symm
          subst zx24
          refine lv_dup2_11 hx hb dX11_give_45 rfl rfl ?_
          refine th_iald S hK hH trf23 km_33 (th_in (hi := 2) ix13 (by decide)) dX11_give_46 (fun v25 hv25 => ?_)
          obtain ⟨x26, rfl, ix26⟩ := th_V.int hv25
          refine lv_iload_n hx hb dX11_give_47 rfl (lv_at hl 3 rfl) ?_
          refine lv_isub hx hb dX11_give_48 ?_
          refine lv_topi (fun x27 ex27 => ?_)
          have ix27 := iv_top x27
          refine th_iast S hK hH hS ⟨33, by decide, trf23⟩ trf23 km_33 (th_in (hi := 2) ix13 (by decide)) (th_iv ix27) dX11_give_49 (fun H locs hH hS hq1 => ?_)
          have f28 := fv22.kept (hq1 _ (th_ne t0 trf23 (by decide)))
          refine lv_aload_n hx hb dX11_give_50 rfl (lv_at hl 0 rfl) ?_
          refine th_getK S hK f28 inG11 rfl (by decide) gm_1282 rfl dX11_give_51 ?_
          refine lv_iconst (v := 3) hx hb dX11_give_54 (by decide) ?_
          refine lv_iconst (v := 3) hx hb dX11_give_55 (by decide) ?_
          refine lv_iload_n hx hb dX11_give_56 rfl (lv_at hl 1 rfl) ?_
          refine lv_imul hx hb dX11_give_57 ?_
          refine lv_topi (fun x30 ex30 => ?_)
          have ix30 : IV x30 0 9 := by rw [ex30]; exact iv_mul (iv_c (by decide) : IV 3 3 3) ir5 (by decide) (by decide)
          have ux30 : x30.toInt = (3 : Int) * y1.toInt := by rw [ex30]; exact iv_mulE (iv_corner ((iv_c (by decide) : IV 3 3 3)).1 ((iv_c (by decide) : IV 3 3 3)).2 (ir5).1 (ir5).2 (by decide))
          refine lv_iadd hx hb dX11_give_58 ?_
          refine lv_topi (fun x31 ex31 => ?_)
          have ix31 : IV x31 3 12 := by rw [ex31]; exact iv_add (iv_c (by decide) : IV 3 3 3) ix30 (by decide)
          have ux31 : x31.toInt = (3 : Int) + x30.toInt := by rw [ex31]; exact iv_addE (by have z1 := ((iv_c (by decide) : IV 3 3 3)).1; have z2 := ((iv_c (by decide) : IV 3 3 3)).2; have z3 := (ix30).1; have z4 := (ix30).2; omega)
          refine lv_iload_n hx hb dX11_give_59 rfl (lv_at hl 2 rfl) ?_
          refine lv_iadd hx hb dX11_give_60 ?_
          refine lv_topi (fun x32 ex32 => ?_)
          have ix32 : IV x32 3 14 := by rw [ex32]; exact iv_add ix31 ir10 (by decide)
          have ux32 : x32.toInt = x31.toInt + y2.toInt := by rw [ex32]; exact iv_addE (by have z1 := (ix31).1; have z2 := (ix31).2; have z3 := (ir10).1; have z4 := (ir10).2; omega)
          refine lv_dup2_11 hx hb dX11_give_61 rfl rfl ?_
          refine th_iald S hK hH trf23 km_33 (th_in (hi := 14) (iv_w ix32 (by decide)) (by decide)) dX11_give_62 (fun v33 hv33 => ?_)
          obtain ⟨x34, rfl, ix34⟩ := th_V.int hv33
          refine lv_iload_n hx hb dX11_give_63 rfl (lv_at hl 3 rfl) ?_
          refine lv_iadd hx hb dX11_give_64 ?_
          refine lv_topi (fun x35 ex35 => ?_)
          have ix35 := iv_top x35
          refine th_iast S hK hH hS ⟨33, by decide, trf23⟩ trf23 km_33 (th_in (hi := 14) (iv_w ix32 (by decide)) (by decide)) (th_iv ix35) dX11_give_65 (fun H locs hH hS hq1 => ?_)
          have f36 := f28.kept (hq1 _ (th_ne t0 trf23 (by decide)))
          refine lv_aload_n hx hb dX11_give_66 rfl (lv_at hl 0 rfl) ?_
          refine th_getK S hK f36 inG11 rfl (by decide) gm_1282 rfl dX11_give_67 ?_
          refine lv_iconst (v := 0) hx hb dX11_give_70 (by decide) ?_
          refine lv_iload_n hx hb dX11_give_71 rfl (lv_at hl 2 rfl) ?_
          refine lv_iadd hx hb dX11_give_72 ?_
          refine lv_topi (fun x38 ex38 => ?_)
          have zx38 : x13 = x38 := ex13.trans ex38.symm
          subst zx38
          refine th_iald S hK hH trf23 km_33 (th_in (hi := 2) ix13 (by decide)) dX11_give_73 (fun v39 hv39 => ?_)
          obtain ⟨x40, rfl, ix40⟩ := th_V.int hv39
          exact th_iretM S hK hH hS hr hlocks ⟨_, rfl, ix40, hqq21, h0q21, (show q21 7 + q21 8 ≤ 40 by omega)⟩ dX11_give_74
        · skip
          have rlc18 : x16.toInt = (0 : Int) := congrArg Int32.toInt c18
          have ir41 : IV x16 0 0 := iv_eL c18 (iv_c (by decide) : IV 0 0 0)
          have ir41a := ir41.1; have ir41b := ir41.2
          exact J32 H locs ls  hH hS (lv_sub hl [] rfl)
  exact J0 s.heap [] ls hH va_S.rf hl

set_option maxRecDepth 100000 in
theorem m_X11_fold (l : Launch) (D : va_G) (cT : Nat → ClassId) (T : Nat → Option Nat) (q : Nat → Int) (hT : tokm T) (hq : qkm q) (a0 : Nat) (t0 : T a0 = some 0) (y1 : Int32) (j1 : IV y1 (-2147483648) 2147483647) (hp0 : q 7 + q 8 ≤ 40) : th_MetM l D cT T q yX11_fold cX11_fold 2 (some .int) (rmk 2 43) [.ref a0, .int y1] (fun v q2 => ∃ r : Int32, v = some (.int r) ∧ IV r (-1) 1 ∧ qkm q2 ∧ fr [7, 8] q q2 ∧ (q2 7 + q2 8 ≤ 40)) [0, 33, 34] := by
  refine th_startM (by decide) (Nat.le_of_ble_eq_true rfl) ?_
  intro p e s m below meth c ls S hK hH hr hlocks hnm hl
  have hx := S.1
  have hb := S.2.1
  have hl : lv_has ls 2 [(0, .ref a0), (1, .int y1)] := hl
  have J0 : ∀ (H : Heap) (locs : List Loc) (ls : Array Slot), th_H D cT T (km q) H → va_S (th_A T [0, 33, 34]) s.heap H locs → lv_has ls 2 [(0, .ref a0), (1, .int y1)] → W p l e (rmk 2 43) s m [.ref a0, .int y1].toArray below meth c H locs 0 0 (MQ below (th_QM D cT T (fun v q2 => ∃ r : Int32, v = some (.int r) ∧ IV r (-1) 1 ∧ qkm q2 ∧ fr [7, 8] q q2 ∧ (q2 7 + q2 8 ≤ 40)) [0, 33, 34]) [.ref a0, .int y1].toArray s 0 0 (th_A T [0, 33, 34])) (F0 m 0 ls []) := by
    intro H locs ls hH hS hl
    refine lv_aload_n hx hb dX11_fold_0 rfl (lv_at hl 0 rfl) ?_
    refine lv_iload_n hx hb dX11_fold_1 rfl (lv_at hl 1 rfl) ?_
    refine th_callVp (n := 1) (As := [.int y1]) S hK hH hS (th_A.sub (by decide)) (m_X11_isMap l D cT T q hT hq a0 t0 (y1) j1) gm_1626 gm_1623 gm_1625 gm_80 gm_124 (by decide +kernel) ⟨rfl, rfl, Nat.le_of_ble_eq_true rfl, Nat.le_of_ble_eq_true rfl⟩ t0 km_0 rfl rfl hl.1 rfl (Nat.le_of_ble_eq_true rfl) dX11_fold_2 ⟨Nat.zero_le _, Nat.zero_le _⟩ (fun x1 H locs ix1 ox1 hH hS hF1 => ?_)
    have ox1 : x1.toInt ≠ 0 → 0 ≤ y1.toInt ∧ y1.toInt < q 11 := ox1
    have l1x1 := ix1.1; have l2x1 := ix1.2
    refine lv_if_ne (tgt := 10) hx hb dX11_fold_5 (by decide) (fun c2 => ?_) (fun c2 => ?_)
    · skip
      have rlc2 : x1.toInt ≠ (0 : Int) := iv_ne c2
      have ir3 : IV x1 1 1 := iv_cutL ix1 (iv_c (by decide) : IV 0 0 0) c2 (by decide)
      have ir3a := ir3.1; have ir3b := ir3.2
      have ir4 : IV y1 0 3 := ((fun z => by have z1 := iv_ne z; have z2 : x1.toInt ≠ 0 := z1; have z60 := qkm_11 hq; exact ⟨by omega, by omega⟩) : ¬ x1 = 0 → IV y1 0 3) c2
      have ir4a := ir4.1; have ir4b := ir4.2
      refine lv_aload_n hx hb dX11_fold_10 rfl (lv_at hl 0 rfl) ?_
      refine th_callVM (n := 0) (As := []) S hK hH hS (th_A.sub (by decide)) (m_X11_keepAct l D cT T q hT hq a0 t0 (show q 7 + q 8 ≤ 40 by omega)) gm_1697 gm_1694 gm_1696 gm_91 gm_124 (by decide +kernel) ⟨rfl, rfl, Nat.le_of_ble_eq_true rfl, Nat.le_of_ble_eq_true rfl⟩ t0 km_0 rfl rfl hl.1 rfl (Nat.le_of_ble_eq_true rfl) dX11_fold_11 ⟨Nat.zero_le _, Nat.zero_le _⟩ (fun wq5 q5 H locs hEq5 hH hS hF1 => ?_)
      obtain ⟨rfl, hqq5, g0q5, pq5_0⟩ := hEq5
      show W p l e (rmk 2 43) s m [.ref a0, .int y1].toArray below meth c H locs 0 0 (MQ below (th_QM D cT T (fun v q2 => ∃ r : Int32, v = some (.int r) ∧ IV r (-1) 1 ∧ qkm q2 ∧ fr [7, 8] q q2 ∧ (q2 7 + q2 8 ≤ 40)) [0, 33, 34]) [.ref a0, .int y1].toArray s 0 0 (th_A T [0, 33, 34])) (F0 m 14 ls [])
      have pq5_0 : q5 7 + q5 8 ≤ 40 := pq5_0
      have h0q5 : fr [7, 8] q q5 := fr_tr fr_rf g0q5 (by decide)
      refine lv_aload_n hx hb dX11_fold_14 rfl (lv_at hl 0 rfl) ?_
      refine th_get S hK hH inG11 t0 km_0 rfl 52 (by decide) gm_1282 rfl rfl dX11_fold_15 (fun v6 hv6 fv6 => ?_)
      obtain ⟨rf7, rfl, trf7⟩ := th_V.ref hv6
      refine lv_bipush (v := 39) hx hb dX11_fold_18 (by decide) ?_
      refine lv_dup2_11 hx hb dX11_fold_20 rfl rfl ?_
      refine th_iald S hK hH trf7 km_33 (th_in (hi := 39) (iv_w (iv_c (by decide) : IV 39 39 39) (by decide)) (by decide)) dX11_fold_21 (fun v8 hv8 => ?_)
      obtain ⟨x9, rfl, ix9⟩ := th_V.int hv8
      refine lv_iconst (v := 1) hx hb dX11_fold_22 (by decide) ?_
      refine lv_iload_n hx hb dX11_fold_23 rfl (lv_at hl 1 rfl) ?_
      refine lv_ishl hx hb dX11_fold_24 ?_
      refine lv_topi (fun x10 ex10 => ?_)
      have ix10 := iv_top x10
      have ix10 : IV x10 1 1073741824 := by rw [ex10]; exact iv_shl1 (iv_w ir4 (by decide))
      refine lv_ixor hx hb dX11_fold_25 ?_
      refine lv_topi (fun x11 ex11 => ?_)
      have ix11 := iv_top x11
      refine th_iast S hK hH hS ⟨33, by decide, trf7⟩ trf7 km_33 (th_in (hi := 39) (iv_w (iv_c (by decide) : IV 39 39 39) (by decide)) (by decide)) (th_iv ix11) dX11_fold_26 (fun H locs hH hS hq1 => ?_)
      have f12 := fv6.kept (hq1 _ (th_ne t0 trf7 (by decide)))
      refine lv_aload_n hx hb dX11_fold_27 rfl (lv_at hl 0 rfl) ?_
      refine th_getK S hK f12 inG11 rfl (by decide) gm_1282 rfl dX11_fold_28 ?_
      refine lv_bipush (v := 39) hx hb dX11_fold_31 (by decide) ?_
      refine th_iald S hK hH trf7 km_33 (th_in (hi := 39) (iv_w (iv_c (by decide) : IV 39 39 39) (by decide)) (by decide)) dX11_fold_33 (fun v14 hv14 => ?_)
      obtain ⟨x15, rfl, ix15⟩ := th_V.int hv14
      refine lv_iload_n hx hb dX11_fold_34 rfl (lv_at hl 1 rfl) ?_
      refine lv_ishr hx hb dX11_fold_35 ?_
      refine lv_topi (fun x16 ex16 => ?_)
      have ix16 := iv_top x16
      refine lv_iconst (v := 1) hx hb dX11_fold_36 (by decide) ?_
      refine lv_iand hx hb dX11_fold_37 ?_
      refine lv_topi (fun x17 ex17 => ?_)
      have ix17 : IV x17 0 1 := by rw [ex17]; exact iv_and (h2 := 1) (iv_w (iv_c (by decide) : IV 1 1 1) (by decide)) (by decide)
      exact th_iretM S hK hH hS hr hlocks ⟨_, rfl, (iv_w ix17 (by decide)), hqq5, h0q5, (show q5 7 + q5 8 ≤ 40 by omega)⟩ dX11_fold_38
    · skip
      have rlc2 : x1.toInt = (0 : Int) := congrArg Int32.toInt c2
      have ir18 : IV x1 0 0 := iv_eL c2 (iv_c (by decide) : IV 0 0 0)
      have ir18a := ir18.1; have ir18b := ir18.2
      refine lv_iconst (v := (-1)) hx hb dX11_fold_8 (by decide) ?_
      exact th_iretM S hK hH hS hr hlocks ⟨_, rfl, (iv_w (iv_c (by decide) : IV (-1) (-1) (-1)) (by decide)), hq, fr_rf, (show q 7 + q 8 ≤ 40 by omega)⟩ dX11_fold_9
  exact J0 s.heap [] ls hH va_S.rf hl

set_option maxRecDepth 100000 in
theorem m_X11_put (l : Launch) (D : va_G) (cT : Nat → ClassId) (T : Nat → Option Nat) (q : Nat → Int) (hT : tokm T) (hq : qkm q) (a0 : Nat) (t0 : T a0 = some 0) (y1 : Int32) (j1 : IV y1 (-2147483648) 2147483647) (y2 : Int32) (j2 : IV y2 (-2147483648) 2147483647) (hp0 : q 7 + q 8 ≤ 40) : th_MetM l D cT T q yX11_put cX11_put 4 (some .int) (rmk 2 43) [.ref a0, .int y1, .int y2] (fun v q2 => ∃ r : Int32, v = some (.int r) ∧ IV r (-2147483648) 2147483647 ∧ qkm q2 ∧ fr [7, 8] q q2 ∧ (q2 7 + q2 8 ≤ 40)) [0, 33, 34] := by
  refine th_startM (by decide) (Nat.le_of_ble_eq_true rfl) ?_
  intro p e s m below meth c ls S hK hH hr hlocks hnm hl
  have hx := S.1
  have hb := S.2.1
  have hl : lv_has ls 4 [(0, .ref a0), (1, .int y1), (2, .int y2)] := hl
  have J17 : ∀ (H : Heap) (locs : List Loc) (ls : Array Slot), th_H D cT T (km q) H → va_S (th_A T [0, 33, 34]) s.heap H locs → lv_has ls 4 [] → W p l e (rmk 2 43) s m [.ref a0, .int y1, .int y2].toArray below meth c H locs 0 0 (MQ below (th_QM D cT T (fun v q2 => ∃ r : Int32, v = some (.int r) ∧ IV r (-2147483648) 2147483647 ∧ qkm q2 ∧ fr [7, 8] q q2 ∧ (q2 7 + q2 8 ≤ 40)) [0, 33, 34]) [.ref a0, .int y1, .int y2].toArray s 0 0 (th_A T [0, 33, 34])) (F0 m 17 ls []) := by
    intro H locs ls hH hS hl
    refine lv_iconst (v := (-1)) hx hb dX11_put_17 (by decide) ?_
    exact th_iretM S hK hH hS hr hlocks ⟨_, rfl, (iv_top _), hq, fr_rf, (show q 7 + q 8 ≤ 40 by omega)⟩ dX11_put_18
  have J0 : ∀ (H : Heap) (locs : List Loc) (ls : Array Slot), th_H D cT T (km q) H → va_S (th_A T [0, 33, 34]) s.heap H locs → lv_has ls 4 [(0, .ref a0), (1, .int y1), (2, .int y2)] → W p l e (rmk 2 43) s m [.ref a0, .int y1, .int y2].toArray below meth c H locs 0 0 (MQ below (th_QM D cT T (fun v q2 => ∃ r : Int32, v = some (.int r) ∧ IV r (-2147483648) 2147483647 ∧ qkm q2 ∧ fr [7, 8] q q2 ∧ (q2 7 + q2 8 ≤ 40)) [0, 33, 34]) [.ref a0, .int y1, .int y2].toArray s 0 0 (th_A T [0, 33, 34])) (F0 m 0 ls []) := by
    intro H locs ls hH hS hl
    refine lv_aload_n hx hb dX11_put_0 rfl (lv_at hl 0 rfl) ?_
    refine lv_iload_n hx hb dX11_put_1 rfl (lv_at hl 1 rfl) ?_
    refine th_callVp (n := 1) (As := [.int y1]) S hK hH hS (th_A.sub (by decide)) (m_X11_isMap l D cT T q hT hq a0 t0 (y1) j1) gm_1626 gm_1623 gm_1625 gm_80 gm_124 (by decide +kernel) ⟨rfl, rfl, Nat.le_of_ble_eq_true rfl, Nat.le_of_ble_eq_true rfl⟩ t0 km_0 rfl rfl hl.1 rfl (Nat.le_of_ble_eq_true rfl) dX11_put_2 ⟨Nat.zero_le _, Nat.zero_le _⟩ (fun x1 H locs ix1 ox1 hH hS hF1 => ?_)
    have ox1 : x1.toInt ≠ 0 → 0 ≤ y1.toInt ∧ y1.toInt < q 11 := ox1
    have l1x1 := ix1.1; have l2x1 := ix1.2
    refine lv_if_eq (tgt := 17) hx hb dX11_put_5 (by decide) (fun c2 => ?_) (fun c2 => ?_)
    · skip
      have rlc2 : x1.toInt = (0 : Int) := congrArg Int32.toInt c2
      have ir3 : IV x1 0 0 := iv_eL c2 (iv_c (by decide) : IV 0 0 0)
      have ir3a := ir3.1; have ir3b := ir3.2
      exact J17 H locs ls  hH hS (lv_sub hl [] rfl)
    · skip
      have rlc2 : x1.toInt ≠ (0 : Int) := iv_ne c2
      have ir4 : IV x1 1 1 := iv_cutL ix1 (iv_c (by decide) : IV 0 0 0) c2 (by decide)
      have ir4a := ir4.1; have ir4b := ir4.2
      have ir5 : IV y1 0 3 := ((fun z => by have z1 := iv_ne z; have z2 : x1.toInt ≠ 0 := z1; have z60 := qkm_11 hq; exact ⟨by omega, by omega⟩) : ¬ x1 = 0 → IV y1 0 3) c2
      have ir5a := ir5.1; have ir5b := ir5.2
      refine lv_iload_n hx hb dX11_put_8 rfl (lv_at hl 2 rfl) ?_
      refine lv_iconst (v := 0) hx hb dX11_put_9 (by decide) ?_
      refine lv_iconst (v := 3) hx hb dX11_put_10 (by decide) ?_
      refine th_callSp (n := 3) (As := [.int y2, .int 0, .int 3]) S hK hH hS (th_A.sub (by decide)) (m_X11_isIn l D cT T q hT hq (y2) j2 (0) (iv_top _) (3) (iv_top _)) gm_1618 gm_1616 gm_1617 gm_124 (by decide +kernel) ⟨rfl, rfl, Nat.le_of_ble_eq_true rfl, Nat.le_of_ble_eq_true rfl⟩ rfl hl.1 rfl (Nat.le_of_ble_eq_true rfl) dX11_put_11 ⟨Nat.zero_le _, Nat.zero_le _⟩ (fun x6 H locs ix6 ox6 hH hS hF1 => ?_)
      obtain ⟨ox6_0, ox6_1⟩ := ox6
      have ox6_0 : x6.toInt ≠ 0 → (0 : Int) ≤ y2.toInt ∧ y2.toInt ≤ (3 : Int) := ox6_0
      have ox6_1 : x6.toInt = 0 → y2.toInt < (0 : Int) ∨ (3 : Int) < y2.toInt := ox6_1
      have l1x6 := ix6.1; have l2x6 := ix6.2
      refine lv_if_ne (tgt := 19) hx hb dX11_put_14 (by decide) (fun c7 => ?_) (fun c7 => ?_)
      · skip
        have rlc7 : x6.toInt ≠ (0 : Int) := iv_ne c7
        have ir8 : IV x6 1 1 := iv_cutL ix6 (iv_c (by decide) : IV 0 0 0) c7 (by decide)
        have ir8a := ir8.1; have ir8b := ir8.2
        have ir9 : IV y2 0 3 := ((fun z => by have z1 := iv_ne z; have z2 : x6.toInt ≠ 0 := z1; have z4 := ((iv_c (by decide) : IV 0 0 0)).1; have z5 := ((iv_c (by decide) : IV 3 3 3)).2; exact ⟨by omega, by omega⟩) : ¬ x6 = 0 → IV y2 0 3) c7
        have ir9a := ir9.1; have ir9b := ir9.2
        refine lv_aload_n hx hb dX11_put_19 rfl (lv_at hl 0 rfl) ?_
        refine th_callVM (n := 0) (As := []) S hK hH hS (th_A.sub (by decide)) (m_X11_keepAct l D cT T q hT hq a0 t0 (show q 7 + q 8 ≤ 40 by omega)) gm_1697 gm_1694 gm_1696 gm_91 gm_124 (by decide +kernel) ⟨rfl, rfl, Nat.le_of_ble_eq_true rfl, Nat.le_of_ble_eq_true rfl⟩ t0 km_0 rfl rfl hl.1 rfl (Nat.le_of_ble_eq_true rfl) dX11_put_20 ⟨Nat.zero_le _, Nat.zero_le _⟩ (fun wq10 q10 H locs hEq10 hH hS hF1 => ?_)
        obtain ⟨rfl, hqq10, g0q10, pq10_0⟩ := hEq10
        show W p l e (rmk 2 43) s m [.ref a0, .int y1, .int y2].toArray below meth c H locs 0 0 (MQ below (th_QM D cT T (fun v q2 => ∃ r : Int32, v = some (.int r) ∧ IV r (-2147483648) 2147483647 ∧ qkm q2 ∧ fr [7, 8] q q2 ∧ (q2 7 + q2 8 ≤ 40)) [0, 33, 34]) [.ref a0, .int y1, .int y2].toArray s 0 0 (th_A T [0, 33, 34])) (F0 m 23 ls [])
        have pq10_0 : q10 7 + q10 8 ≤ 40 := pq10_0
        have h0q10 : fr [7, 8] q q10 := fr_tr fr_rf g0q10 (by decide)
        refine lv_aload_n hx hb dX11_put_23 rfl (lv_at hl 0 rfl) ?_
        refine th_get S hK hH inG11 t0 km_0 rfl 52 (by decide) gm_1282 rfl rfl dX11_put_24 (fun v11 hv11 fv11 => ?_)
        obtain ⟨rf12, rfl, trf12⟩ := th_V.ref hv11
        refine lv_bipush (v := 35) hx hb dX11_put_27 (by decide) ?_
        refine lv_iload_n hx hb dX11_put_29 rfl (lv_at hl 1 rfl) ?_
        refine lv_iadd hx hb dX11_put_30 ?_
        refine lv_topi (fun x13 ex13 => ?_)
        have ix13 : IV x13 35 38 := by rw [ex13]; exact iv_add (iv_c (by decide) : IV 35 35 35) ir5 (by decide)
        have ux13 : x13.toInt = (35 : Int) + y1.toInt := by rw [ex13]; exact iv_addE (by have z1 := ((iv_c (by decide) : IV 35 35 35)).1; have z2 := ((iv_c (by decide) : IV 35 35 35)).2; have z3 := (ir5).1; have z4 := (ir5).2; omega)
        refine th_iald S hK hH trf12 km_33 (th_in (hi := 38) (iv_w ix13 (by decide)) (by decide)) dX11_put_31 (fun v14 hv14 => ?_)
        obtain ⟨x15, rfl, ix15⟩ := th_V.int hv14
        refine lv_istore_n (lv' := [(3, .int x15), (0, .ref a0), (1, .int y1), (2, .int y2)]) hx hb dX11_put_32 rfl hl (by decide) rfl (fun ls hl => ?_)
        refine lv_aload_n hx hb dX11_put_33 rfl (lv_at hl 1 rfl) ?_
        refine th_getK S hK fv11 inG11 rfl (by decide) gm_1282 rfl dX11_put_34 ?_
        refine lv_bipush (v := 35) hx hb dX11_put_37 (by decide) ?_
        refine lv_iload_n hx hb dX11_put_39 rfl (lv_at hl 2 rfl) ?_
        refine lv_iadd hx hb dX11_put_40 ?_
        refine lv_topi (fun x17 ex17 => ?_)
        have zx17 : x13 = x17 := ex13.trans ex17.symm
        subst zx17
        refine lv_iload_n hx hb dX11_put_41 rfl (lv_at hl 3 rfl) ?_
        refine th_iast S hK hH hS ⟨33, by decide, trf12⟩ trf12 km_33 (th_in (hi := 38) (iv_w ix13 (by decide)) (by decide)) (th_iv (iv_top _)) dX11_put_42 (fun H locs hH hS hq1 => ?_)
        have f18 := fv11.kept (hq1 _ (th_ne t0 trf12 (by decide)))
        refine lv_iload_n hx hb dX11_put_43 rfl (lv_at hl 0 rfl) ?_
        exact th_iretM S hK hH hS hr hlocks ⟨_, rfl, ix15, hqq10, h0q10, (show q10 7 + q10 8 ≤ 40 by omega)⟩ dX11_put_44
      · skip
        have rlc7 : x6.toInt = (0 : Int) := congrArg Int32.toInt c7
        have ir19 : IV x6 0 0 := iv_eL c7 (iv_c (by decide) : IV 0 0 0)
        have ir19a := ir19.1; have ir19b := ir19.2
        exact J17 H locs ls  hH hS (lv_sub hl [] rfl)
  exact J0 s.heap [] ls hH va_S.rf hl

set_option maxRecDepth 100000 in
theorem m_X11_keepNow (l : Launch) (D : va_G) (cT : Nat → ClassId) (T : Nat → Option Nat) (q : Nat → Int) (hT : tokm T) (hq : qkm q) (a0 : Nat) (t0 : T a0 = some 0) : th_Met l D cT T (km q) yX11_keepNow cX11_keepNow 2 none (rmk 0 0) [.ref a0] (th_R T none) [35] := by
  refine th_start (by decide) (Nat.le_of_ble_eq_true rfl) ?_
  intro p e s m below meth c ls S hK hH hr hlocks hnm hl
  have hx := S.1
  have hb := S.2.1
  have hl : lv_has ls 2 [(0, .ref a0)] := hl
  have J2 : ∀ (n : Nat) (H : Heap) (locs : List Loc) (ls : Array Slot) (v2_1 : Int32), IV v2_1 0 43 → th_H D cT T (km q) H → va_S (th_A T [35]) s.heap H locs → lv_has ls 2 [(0, .ref a0), (1, .int v2_1)] → (43 + 1 - Int32.toInt v2_1).toNat < n → W p l e (rmk 0 0) s m [.ref a0].toArray below meth c H locs 0 0 (MQ below (th_Q D cT T (km q) (th_R T none) [35]) [.ref a0].toArray s 0 0 (th_A T [35])) (F0 m 2 ls []) := by
    intro n
    induction n with
    | zero => intro H locs ls v2_1 iv2_1 hH hS hl hn; exact absurd hn (Nat.not_lt_zero _)
    | succ n ih2 =>
      intro H locs ls v2_1 iv2_1 hH hS hl hn2
      have l1v2_1 := iv2_1.1; have l2v2_1 := iv2_1.2
      refine lv_iload_n hx hb dX11_keepNow_2 rfl (lv_at hl 1 rfl) ?_
      refine lv_bipush (v := 43) hx hb dX11_keepNow_3 (by decide) ?_
      refine lv_icmp_ge (tgt := 26) hx hb dX11_keepNow_5 (by decide) (fun c1 => ?_) (fun c1 => ?_)
      · skip
        have rlc1 : (43 : Int) ≤ v2_1.toInt := iv_le c1
        have ir2 : IV v2_1 43 43 := iv_vR (iv_c (by decide) : IV 43 43 43) iv2_1 (iv_le c1) (by decide)
        have ir2a := ir2.1; have ir2b := ir2.2
        exact th_vret S hK hH hS hr hlocks rfl dX11_keepNow_26
      · skip
        have rlc1 : v2_1.toInt < (43 : Int) := iv_nle c1
        have ir3 : IV v2_1 0 42 := iv_uL iv2_1 (iv_c (by decide) : IV 43 43 43) (iv_nle c1) (by decide)
        have ir3a := ir3.1; have ir3b := ir3.2
        refine lv_aload_n hx hb dX11_keepNow_8 rfl (lv_at hl 0 rfl) ?_
        refine th_get S hK hH inG11 t0 km_0 rfl 56 (by decide) gm_1286 rfl rfl dX11_keepNow_9 (fun v4 hv4 fv4 => ?_)
        obtain ⟨rf5, rfl, trf5⟩ := th_V.ref hv4
        refine lv_iload_n hx hb dX11_keepNow_12 rfl (lv_at hl 1 rfl) ?_
        refine lv_aload_n hx hb dX11_keepNow_13 rfl (lv_at hl 0 rfl) ?_
        refine th_get S hK hH inG11 t0 km_0 rfl 52 (by decide) gm_1282 rfl rfl dX11_keepNow_14 (fun v6 hv6 fv6 => ?_)
        obtain ⟨rf7, rfl, trf7⟩ := th_V.ref hv6
        refine lv_iload_n hx hb dX11_keepNow_17 rfl (lv_at hl 1 rfl) ?_
        refine th_iald S hK hH trf7 km_33 (th_in (hi := 42) ir3 (by decide)) dX11_keepNow_18 (fun v8 hv8 => ?_)
        obtain ⟨x9, rfl, ix9⟩ := th_V.int hv8
        refine th_iast S hK hH hS ⟨35, by decide, trf5⟩ trf5 km_35 (th_in (hi := 42) ir3 (by decide)) (th_iv ix9) dX11_keepNow_19 (fun H locs hH hS hq1 => ?_)
        refine th_iinc S dX11_keepNow_20 hl (k := 1) rfl (by decide) ir3 (by decide) (fun x10 ls ex10 ix10 hl => ?_)
        have hl : lv_has ls 2 [(1, .int x10), (0, .ref a0)] := hl
        have ix10 : IV x10 1 43 := ix10
        refine lv_goto (tgt := 2) hx hb dX11_keepNow_23 (by decide) ?_
        exact ih2 H locs ls x10 (iv_w ix10 (by decide)) hH hS (lv_sub hl [1, 0] rfl) (th_up iv2_1 ex10 (by decide) hn2)
  have J0 : ∀ (H : Heap) (locs : List Loc) (ls : Array Slot), th_H D cT T (km q) H → va_S (th_A T [35]) s.heap H locs → lv_has ls 2 [(0, .ref a0)] → W p l e (rmk 0 0) s m [.ref a0].toArray below meth c H locs 0 0 (MQ below (th_Q D cT T (km q) (th_R T none) [35]) [.ref a0].toArray s 0 0 (th_A T [35])) (F0 m 0 ls []) := by
    intro H locs ls hH hS hl
    refine lv_iconst (v := 0) hx hb dX11_keepNow_0 (by decide) ?_
    refine lv_istore_n (lv' := [(1, .int 0), (0, .ref a0)]) hx hb dX11_keepNow_1 rfl hl (by decide) rfl (fun ls hl => ?_)
    exact J2 ((43 + 1 - Int32.toInt 0).toNat + 1) H locs ls 0 (iv_w (iv_c (by decide) : IV 0 0 0) (by decide)) hH hS (lv_sub hl [1, 0] rfl) (Nat.lt_succ_self _)
  exact J0 s.heap [] ls hH va_S.rf hl

set_option maxRecDepth 100000 in
theorem m_X11_smaller (l : Launch) (D : va_G) (cT : Nat → ClassId) (T : Nat → Option Nat) (q : Nat → Int) (hT : tokm T) (hq : qkm q) (a0 : Nat) (t0 : T a0 = some 0) : th_Met l D cT T (km q) yX11_smaller cX11_smaller 3 (some .int) (rmk 0 0) [.ref a0] (th_R T (some (.inl (-2147483648, 2147483647)))) [] := by
  refine th_start (by decide) (Nat.le_of_ble_eq_true rfl) ?_
  intro p e s m below meth c ls S hK hH hr hlocks hnm hl
  have hx := S.1
  have hb := S.2.1
  have hl : lv_has ls 3 [(0, .ref a0)] := hl
  have J4 : ∀ (n : Nat) (H : Heap) (locs : List Loc) (ls : Array Slot) (v4_1 : Int32) (v4_2 : Int32), IV v4_1 (-2147483648) 2147483647 → IV v4_2 0 8 → th_H D cT T (km q) H → va_S (th_A T []) s.heap H locs → lv_has ls 3 [(0, .ref a0), (1, .int v4_1), (2, .int v4_2)] → (8 + 1 - Int32.toInt v4_2).toNat < n → W p l e (rmk 0 0) s m [.ref a0].toArray below meth c H locs 0 0 (MQ below (th_Q D cT T (km q) (th_R T (some (.inl (-2147483648, 2147483647)))) []) [.ref a0].toArray s 0 0 (th_A T [])) (F0 m 4 ls []) := by
    intro n
    induction n with
    | zero => intro H locs ls v4_1 v4_2 iv4_1 iv4_2 hH hS hl hn; exact absurd hn (Nat.not_lt_zero _)
    | succ n ih4 =>
      intro H locs ls v4_1 v4_2 iv4_1 iv4_2 hH hS hl hn4
      have J44 : ∀ (H : Heap) (locs : List Loc) (ls : Array Slot) (v44_1 : Int32), IV v44_1 (-2147483648) 2147483647 → IV v4_2 0 7 → th_H D cT T (km q) H → va_S (th_A T []) s.heap H locs → lv_has ls 3 [(0, .ref a0), (1, .int v44_1), (2, .int v4_2)] → W p l e (rmk 0 0) s m [.ref a0].toArray below meth c H locs 0 0 (MQ below (th_Q D cT T (km q) (th_R T (some (.inl (-2147483648, 2147483647)))) []) [.ref a0].toArray s 0 0 (th_A T [])) (F0 m 44 ls []) := by
        intro H locs ls v44_1 iv44_1 f44_v4_2 hH hS hl
        refine th_iinc S dX11_smaller_44 hl (k := 2) rfl (by decide) f44_v4_2 (by decide) (fun x1 ls ex1 ix1 hl => ?_)
        have hl : lv_has ls 3 [(2, .int x1), (0, .ref a0), (1, .int v44_1)] := hl
        have ix1 : IV x1 1 8 := ix1
        refine lv_goto (tgt := 4) hx hb dX11_smaller_47 (by decide) ?_
        exact ih4 H locs ls v44_1 x1 iv44_1 (iv_w ix1 (by decide)) hH hS (lv_sub hl [1, 2, 0] rfl) (th_up iv4_2 ex1 (by decide) hn4)
      have l1v4_2 := iv4_2.1; have l2v4_2 := iv4_2.2
      refine lv_iload_n hx hb dX11_smaller_4 rfl (lv_at hl 2 rfl) ?_
      refine lv_aload_n hx hb dX11_smaller_5 rfl (lv_at hl 0 rfl) ?_
      refine th_get S hK hH inG11 t0 km_0 rfl 13 (by decide) gm_1243 rfl rfl dX11_smaller_6 (fun v2 hv2 fv2 => ?_)
      obtain ⟨rf3, rfl, trf3⟩ := th_V.ref hv2
      refine lv_aload_n hx hb dX11_smaller_9 rfl (lv_at hl 0 rfl) ?_
      refine th_get S hK hH inG11 t0 km_0 rfl 41 (by decide) gm_1271 rfl rfl dX11_smaller_10 (fun v4 hv4 fv4 => ?_)
      obtain ⟨x5, rfl, ix5⟩ := th_V.int hv4
      have kx5a : q 10 ≤ x5.toInt := ix5.1
      have kx5b : x5.toInt ≤ q 10 := ix5.2
      have ix5 : IV x5 0 1 := iv_w ix5 (qkm_10 hq)
      refine th_iald S hK hH trf3 km_5 (th_in (hi := 1) ix5 (by decide)) dX11_smaller_13 (fun v6 hv6 => ?_)
      obtain ⟨x7, rfl, ix7⟩ := th_bkA hv6 ix5 (by omega)
      have kx7a : q 18 ≤ x7.toInt := ix7.1
      have kx7b : x7.toInt ≤ q 18 := ix7.2
      have ix7 : IV x7 0 8 := iv_w ix7 (qkm_18 hq)
      refine lv_icmp_ge (tgt := 50) hx hb dX11_smaller_14 (by decide) (fun c8 => ?_) (fun c8 => ?_)
      · skip
        have rlc8 : x7.toInt ≤ v4_2.toInt := iv_le c8
        refine lv_iload_n hx hb dX11_smaller_50 rfl (lv_at hl 1 rfl) ?_
        exact th_iret S hK hH hS hr hlocks (th_R.i iv4_1) dX11_smaller_51
      · skip
        have rlc8 : v4_2.toInt < x7.toInt := iv_nle c8
        have ir9 : IV v4_2 0 7 := iv_uL iv4_2 ix7 (iv_nle c8) (by decide)
        have ir9a := ir9.1; have ir9b := ir9.2
        have ir10 : IV x7 1 8 := iv_uR iv4_2 ix7 (iv_nle c8) (by decide)
        have ir10a := ir10.1; have ir10b := ir10.2
        refine lv_aload_n hx hb dX11_smaller_17 rfl (lv_at hl 0 rfl) ?_
        refine th_get S hK hH inG11 t0 km_0 rfl 52 (by decide) gm_1282 rfl rfl dX11_smaller_18 (fun v11 hv11 fv11 => ?_)
        obtain ⟨rf12, rfl, trf12⟩ := th_V.ref hv11
        refine lv_bipush (v := 15) hx hb dX11_smaller_21 (by decide) ?_
        refine lv_iload_n hx hb dX11_smaller_23 rfl (lv_at hl 2 rfl) ?_
        refine lv_iadd hx hb dX11_smaller_24 ?_
        refine lv_topi (fun x13 ex13 => ?_)
        have ix13 : IV x13 15 22 := by rw [ex13]; exact iv_add (iv_c (by decide) : IV 15 15 15) ir9 (by decide)
        have ux13 : x13.toInt = (15 : Int) + v4_2.toInt := by rw [ex13]; exact iv_addE (by have z1 := ((iv_c (by decide) : IV 15 15 15)).1; have z2 := ((iv_c (by decide) : IV 15 15 15)).2; have z3 := (ir9).1; have z4 := (ir9).2; omega)
        refine th_iald S hK hH trf12 km_33 (th_in (hi := 22) (iv_w ix13 (by decide)) (by decide)) dX11_smaller_25 (fun v14 hv14 => ?_)
        obtain ⟨x15, rfl, ix15⟩ := th_V.int hv14
        refine lv_aload_n hx hb dX11_smaller_26 rfl (lv_at hl 0 rfl) ?_
        refine th_get S hK hH inG11 t0 km_0 rfl 56 (by decide) gm_1286 rfl rfl dX11_smaller_27 (fun v16 hv16 fv16 => ?_)
        obtain ⟨rf17, rfl, trf17⟩ := th_V.ref hv16
        refine lv_bipush (v := 15) hx hb dX11_smaller_30 (by decide) ?_
        refine lv_iload_n hx hb dX11_smaller_32 rfl (lv_at hl 2 rfl) ?_
        refine lv_iadd hx hb dX11_smaller_33 ?_
        refine lv_topi (fun x18 ex18 => ?_)
        have zx18 : x13 = x18 := ex13.trans ex18.symm
        subst zx18
        refine th_iald S hK hH trf17 km_35 (th_in (hi := 22) (iv_w ix13 (by decide)) (by decide)) dX11_smaller_34 (fun v19 hv19 => ?_)
        obtain ⟨x20, rfl, ix20⟩ := th_V.int hv19
        refine lv_icmp_ge (tgt := 44) hx hb dX11_smaller_35 (by decide) (fun c21 => ?_) (fun c21 => ?_)
        · skip
          have rlc21 : x20.toInt ≤ x15.toInt := iv_le c21
          exact J44 H locs ls v4_1 iv4_1 ir9 hH hS (lv_sub hl [0, 1, 2] rfl)
        · skip
          have rlc21 : x15.toInt < x20.toInt := iv_nle c21
          have ir22 : IV x15 (-2147483648) 2147483646 := iv_uL ix15 ix20 (iv_nle c21) (by decide)
          have ir22a := ir22.1; have ir22b := ir22.2
          have ir23 : IV x20 (-2147483647) 2147483647 := iv_uR ix15 ix20 (iv_nle c21) (by decide)
          have ir23a := ir23.1; have ir23b := ir23.2
          refine lv_iload_n hx hb dX11_smaller_38 rfl (lv_at hl 1 rfl) ?_
          refine lv_iconst (v := 1) hx hb dX11_smaller_39 (by decide) ?_
          refine lv_iload_n hx hb dX11_smaller_40 rfl (lv_at hl 2 rfl) ?_
          refine lv_ishl hx hb dX11_smaller_41 ?_
          refine lv_topi (fun x24 ex24 => ?_)
          have ix24 := iv_top x24
          have ix24 : IV x24 1 1073741824 := by rw [ex24]; exact iv_shl1 (iv_w ir9 (by decide))
          refine lv_ior hx hb dX11_smaller_42 ?_
          refine lv_topi (fun x25 ex25 => ?_)
          have ix25 := iv_top x25
          refine lv_istore_n (lv' := [(1, .int x25), (0, .ref a0), (2, .int v4_2)]) hx hb dX11_smaller_43 rfl hl (by decide) rfl (fun ls hl => ?_)
          exact J44 H locs ls x25 ix25 ir9 hH hS (lv_sub hl [1, 0, 2] rfl)
  have J0 : ∀ (H : Heap) (locs : List Loc) (ls : Array Slot), th_H D cT T (km q) H → va_S (th_A T []) s.heap H locs → lv_has ls 3 [(0, .ref a0)] → W p l e (rmk 0 0) s m [.ref a0].toArray below meth c H locs 0 0 (MQ below (th_Q D cT T (km q) (th_R T (some (.inl (-2147483648, 2147483647)))) []) [.ref a0].toArray s 0 0 (th_A T [])) (F0 m 0 ls []) := by
    intro H locs ls hH hS hl
    refine lv_iconst (v := 0) hx hb dX11_smaller_0 (by decide) ?_
    refine lv_istore_n (lv' := [(1, .int 0), (0, .ref a0)]) hx hb dX11_smaller_1 rfl hl (by decide) rfl (fun ls hl => ?_)
    refine lv_iconst (v := 0) hx hb dX11_smaller_2 (by decide) ?_
    refine lv_istore_n (lv' := [(2, .int 0), (1, .int 0), (0, .ref a0)]) hx hb dX11_smaller_3 rfl hl (by decide) rfl (fun ls hl => ?_)
    exact J4 ((8 + 1 - Int32.toInt 0).toNat + 1) H locs ls 0 0 (iv_top _) (iv_w (iv_c (by decide) : IV 0 0 0) (by decide)) hH hS (lv_sub hl [2, 1, 0] rfl) (Nat.lt_succ_self _)
  exact J0 s.heap [] ls hH va_S.rf hl

set_option maxRecDepth 100000 in
theorem m_X11_year (l : Launch) (D : va_G) (cT : Nat → ClassId) (T : Nat → Option Nat) (q : Nat → Int) (hT : tokm T) (hq : qkm q) (a0 : Nat) (t0 : T a0 = some 0) (hp0 : q 7 + q 8 ≤ 40) : th_MetM l D cT T q yX11_year cX11_year 1 (some .int) (rmk 6 138) [.ref a0] (fun v q2 => ∃ r : Int32, v = some (.int r) ∧ IV r (-2147483648) 2147483647 ∧ qkm q2 ∧ fr [7, 8] q q2 ∧ (q2 7 + q2 8 ≤ 40)) [0, 32, 33, 34, 35] := by
  refine th_startM (by decide) (Nat.le_of_ble_eq_true rfl) ?_
  intro p e s m below meth c ls S hK hH hr hlocks hnm hl
  have hx := S.1
  have hb := S.2.1
  have hl : lv_has ls 1 [(0, .ref a0)] := hl
  have J0 : ∀ (H : Heap) (locs : List Loc) (ls : Array Slot), th_H D cT T (km q) H → va_S (th_A T [0, 32, 33, 34, 35]) s.heap H locs → lv_has ls 1 [(0, .ref a0)] → W p l e (rmk 6 138) s m [.ref a0].toArray below meth c H locs 0 0 (MQ below (th_QM D cT T (fun v q2 => ∃ r : Int32, v = some (.int r) ∧ IV r (-2147483648) 2147483647 ∧ qkm q2 ∧ fr [7, 8] q q2 ∧ (q2 7 + q2 8 ≤ 40)) [0, 32, 33, 34, 35]) [.ref a0].toArray s 0 0 (th_A T [0, 32, 33, 34, 35])) (F0 m 0 ls []) := by
    intro H locs ls hH hS hl
    refine lv_aload_n hx hb dX11_year_0 rfl (lv_at hl 0 rfl) ?_
    refine th_get S hK hH inG11 t0 km_0 rfl 52 (by decide) gm_1282 rfl rfl dX11_year_1 (fun v1 hv1 fv1 => ?_)
    obtain ⟨rf2, rfl, trf2⟩ := th_V.ref hv1
    refine lv_bipush (v := 40) hx hb dX11_year_4 (by decide) ?_
    refine th_iald S hK hH trf2 km_33 (th_in (hi := 40) (iv_w (iv_c (by decide) : IV 40 40 40) (by decide)) (by decide)) dX11_year_6 (fun v3 hv3 => ?_)
    obtain ⟨x4, rfl, ix4⟩ := th_V.int hv3
    refine lv_sipush (v := 999) hx hb dX11_year_7 (by decide) ?_
    refine lv_icmp_ne (tgt := 15) hx hb dX11_year_10 (by decide) (fun c5 => ?_) (fun c5 => ?_)
    · skip
      have rlc5 : x4.toInt ≠ (999 : Int) := iv_ne c5
      refine lv_aload_n hx hb dX11_year_15 rfl (lv_at hl 0 rfl) ?_
      refine th_callVM (n := 0) (As := []) S hK hH hS (th_A.sub (by decide)) (m_X11_keepAct l D cT T q hT hq a0 t0 (show q 7 + q 8 ≤ 40 by omega)) gm_1697 gm_1694 gm_1696 gm_91 gm_124 (by decide +kernel) ⟨rfl, rfl, Nat.le_of_ble_eq_true rfl, Nat.le_of_ble_eq_true rfl⟩ t0 km_0 rfl rfl hl.1 rfl (Nat.le_of_ble_eq_true rfl) dX11_year_16 ⟨Nat.zero_le _, Nat.zero_le _⟩ (fun wq6 q6 H locs hEq6 hH hS hF1 => ?_)
      obtain ⟨rfl, hqq6, g0q6, pq6_0⟩ := hEq6
      show W p l e (rmk 6 138) s m [.ref a0].toArray below meth c H locs 0 0 (MQ below (th_QM D cT T (fun v q2 => ∃ r : Int32, v = some (.int r) ∧ IV r (-2147483648) 2147483647 ∧ qkm q2 ∧ fr [7, 8] q q2 ∧ (q2 7 + q2 8 ≤ 40)) [0, 32, 33, 34, 35]) [.ref a0].toArray s 0 0 (th_A T [0, 32, 33, 34, 35])) (F0 m 19 ls [])
      have pq6_0 : q6 7 + q6 8 ≤ 40 := pq6_0
      have h0q6 : fr [7, 8] q q6 := fr_tr fr_rf g0q6 (by decide)
      refine lv_aload_n hx hb dX11_year_19 rfl (lv_at hl 0 rfl) ?_
      refine th_callVv (n := 0) (As := []) S hK hH hS (th_A.sub (by decide)) (m_X11_keepNow l D cT T q6 hT hqq6 a0 t0) gm_1713 gm_1710 gm_1712 gm_92 gm_124 (by decide +kernel) ⟨rfl, rfl, Nat.le_of_ble_eq_true rfl, Nat.le_of_ble_eq_true rfl⟩ t0 km_0 rfl rfl hl.1 rfl (Nat.le_of_ble_eq_true rfl) dX11_year_20 ⟨Nat.zero_le _, Nat.zero_le _⟩ (fun H locs hH hS hF1 => ?_)
      refine lv_aload_n hx hb dX11_year_23 rfl (lv_at hl 0 rfl) ?_
      refine th_callVv (n := 0) (As := []) S hK hH hS (th_A.sub (by decide)) (m_X11_goYear l D cT T q6 hT hqq6 a0 t0) gm_1717 gm_1714 gm_1716 gm_93 gm_124 (by decide +kernel) ⟨rfl, rfl, Nat.le_of_ble_eq_true rfl, Nat.le_of_ble_eq_true rfl⟩ t0 km_0 rfl rfl hl.1 rfl (Nat.le_of_ble_eq_true rfl) dX11_year_24 ⟨Nat.zero_le _, Nat.zero_le _⟩ (fun H locs hH hS hF1 => ?_)
      refine lv_aload_n hx hb dX11_year_27 rfl (lv_at hl 0 rfl) ?_
      refine th_callVi (n := 0) (As := []) S hK hH hS (th_A.sub (by decide)) (m_X11_smaller l D cT T q6 hT hqq6 a0 t0) gm_1733 gm_1730 gm_1732 gm_97 gm_124 (by decide +kernel) ⟨rfl, rfl, Nat.le_of_ble_eq_true rfl, Nat.le_of_ble_eq_true rfl⟩ t0 km_0 rfl rfl hl.1 rfl (Nat.le_of_ble_eq_true rfl) dX11_year_28 ⟨Nat.zero_le _, Nat.zero_le _⟩ (fun x7 H locs ix7 hH hS hF1 => ?_)
      refine th_callSi (n := 1) (As := [.int x7]) S hK hH hS (th_A.sub (by decide)) (m_X11_bitsOf l D cT T q6 hT hqq6 (x7) ix7) gm_1736 gm_1734 gm_1735 gm_124 (by decide +kernel) ⟨rfl, rfl, Nat.le_of_ble_eq_true rfl, Nat.le_of_ble_eq_true rfl⟩ rfl hl.1 rfl (Nat.le_of_ble_eq_true rfl) dX11_year_31 ⟨Nat.zero_le _, Nat.zero_le _⟩ (fun x8 H locs ix8 hH hS hF1 => ?_)
      exact th_iretM S hK hH hS hr hlocks ⟨_, rfl, ix8, hqq6, h0q6, (show q6 7 + q6 8 ≤ 40 by omega)⟩ dX11_year_34
    · skip
      have rlc5 : x4.toInt = (999 : Int) := congrArg Int32.toInt c5
      have ir9 : IV x4 999 999 := iv_eL c5 (iv_c (by decide) : IV 999 999 999)
      have ir9a := ir9.1; have ir9b := ir9.2
      refine lv_iconst (v := (-1)) hx hb dX11_year_13 (by decide) ?_
      exact th_iretM S hK hH hS hr hlocks ⟨_, rfl, (iv_top _), hq, fr_rf, (show q 7 + q 8 ≤ 40 by omega)⟩ dX11_year_14
  exact J0 s.heap [] ls hH va_S.rf hl

set_option maxRecDepth 100000 in
theorem m_X11_undo (l : Launch) (D : va_G) (cT : Nat → ClassId) (T : Nat → Option Nat) (q : Nat → Int) (hT : tokm T) (hq : qkm q) (a0 : Nat) (t0 : T a0 = some 0) (hp0 : q 7 + q 8 ≤ 40) : th_MetM l D cT T q yX11_undo cX11_undo 1 (some .boolean) (rmk 1 22) [.ref a0] (fun v q2 => ∃ r : Int32, v = some (.int r) ∧ IV r 0 1 ∧ qkm q2 ∧ fr [7, 8] q q2 ∧ (q2 7 + q2 8 ≤ 40)) [0, 33, 34] := by
  refine th_startM (by decide) (Nat.le_of_ble_eq_true rfl) ?_
  intro p e s m below meth c ls S hK hH hr hlocks hnm hl
  have hx := S.1
  have hb := S.2.1
  have hl : lv_has ls 1 [(0, .ref a0)] := hl
  have J0 : ∀ (H : Heap) (locs : List Loc) (ls : Array Slot), th_H D cT T (km q) H → va_S (th_A T [0, 33, 34]) s.heap H locs → lv_has ls 1 [(0, .ref a0)] → W p l e (rmk 1 22) s m [.ref a0].toArray below meth c H locs 0 0 (MQ below (th_QM D cT T (fun v q2 => ∃ r : Int32, v = some (.int r) ∧ IV r 0 1 ∧ qkm q2 ∧ fr [7, 8] q q2 ∧ (q2 7 + q2 8 ≤ 40)) [0, 33, 34]) [.ref a0].toArray s 0 0 (th_A T [0, 33, 34])) (F0 m 0 ls []) := by
    intro H locs ls hH hS hl
    refine lv_aload_n hx hb dX11_undo_0 rfl (lv_at hl 0 rfl) ?_
    refine th_get S hK hH inG11 t0 km_0 rfl 54 (by decide) gm_1284 rfl rfl dX11_undo_1 (fun v1 hv1 fv1 => ?_)
    obtain ⟨x2, rfl, ix2⟩ := th_V.int hv1
    have kx2a : q 7 ≤ x2.toInt := ix2.1
    have kx2b : x2.toInt ≤ q 7 := ix2.2
    have bx2 := qkm_7 hq
    have ix2 : IV x2 0 40 := iv_w ix2 (qkm_7 hq)
    refine lv_if_ne (tgt := 9) hx hb dX11_undo_4 (by decide) (fun c3 => ?_) (fun c3 => ?_)
    · skip
      have rlc3 : x2.toInt ≠ (0 : Int) := iv_ne c3
      have ir4 : IV x2 1 40 := iv_cutL ix2 (iv_c (by decide) : IV 0 0 0) c3 (by decide)
      have ir4a := ir4.1; have ir4b := ir4.2
      refine lv_aload_n hx hb dX11_undo_9 rfl (lv_at hl 0 rfl) ?_
      refine lv_dup hx hb dX11_undo_10 rfl ?_
      refine th_get S hK hH inG11 t0 km_0 rfl 54 (by decide) gm_1284 rfl rfl dX11_undo_11 (fun v5 hv5 fv5 => ?_)
      obtain ⟨x6, rfl, ix6⟩ := th_V.int hv5
      have kx6a : q 7 ≤ x6.toInt := ix6.1
      have kx6b : x6.toInt ≤ q 7 := ix6.2
      have bx6 := qkm_7 hq
      have ix6 : IV x6 0 40 := iv_w ix6 (qkm_7 hq)
      refine lv_iconst (v := 1) hx hb dX11_undo_14 (by decide) ?_
      refine lv_isub hx hb dX11_undo_15 ?_
      refine lv_topi (fun x7 ex7 => ?_)
      have ix7 : IV x7 (-1) 39 := by rw [ex7]; exact iv_sub ix6 (iv_c (by decide) : IV 1 1 1) (by decide)
      have ux7 : x7.toInt = x6.toInt - (1 : Int) := by rw [ex7]; exact iv_subE (by have z1 := (ix6).1; have z2 := (ix6).2; have z3 := ((iv_c (by decide) : IV 1 1 1)).1; have z4 := ((iv_c (by decide) : IV 1 1 1)).2; omega)
      obtain ⟨n9, en9⟩ : ∃ z : Int, z = Int32.toInt x7 := ⟨_, rfl⟩
      refine mput_7 S hK hH hS ⟨0, by decide, t0⟩ hT t0 en9 gm_1284 dX11_undo_16 (fun q8 H locs eq8 hH hS hq1 => ?_)
      have hqq8 : qkm q8 := by rw [eq8]; exact qum_ok7 hq (by have z1 := (ix7).1; have z2 := (ix7).2; exact ⟨by omega, by omega⟩)
      have h0q8 : fr [7, 8] q q8 := by rw [eq8]; exact fr_up fr_rf (by decide)
      have wq8_7 : q8 7 = n9 := by rw [eq8]; rfl
      have wq8_8 : q8 8 = q 8 := by rw [eq8]; rfl
      refine lv_aload_n hx hb dX11_undo_19 rfl (lv_at hl 0 rfl) ?_
      refine lv_dup hx hb dX11_undo_20 rfl ?_
      refine th_get S hK hH inG11 t0 km_0 rfl 55 (by decide) gm_1285 rfl rfl dX11_undo_21 (fun v10 hv10 fv10 => ?_)
      obtain ⟨x11, rfl, ix11⟩ := th_V.int hv10
      have kx11a : q8 8 ≤ x11.toInt := ix11.1
      have kx11b : x11.toInt ≤ q8 8 := ix11.2
      have bx11 := qkm_8 hqq8
      have ix11 : IV x11 0 40 := iv_w ix11 (qkm_8 hqq8)
      refine lv_iconst (v := 1) hx hb dX11_undo_24 (by decide) ?_
      refine lv_iadd hx hb dX11_undo_25 ?_
      refine lv_topi (fun x12 ex12 => ?_)
      have ix12 : IV x12 1 41 := by rw [ex12]; exact iv_add ix11 (iv_c (by decide) : IV 1 1 1) (by decide)
      have ux12 : x12.toInt = x11.toInt + (1 : Int) := by rw [ex12]; exact iv_addE (by have z1 := (ix11).1; have z2 := (ix11).2; have z3 := ((iv_c (by decide) : IV 1 1 1)).1; have z4 := ((iv_c (by decide) : IV 1 1 1)).2; omega)
      obtain ⟨n14, en14⟩ : ∃ z : Int, z = Int32.toInt x12 := ⟨_, rfl⟩
      refine mput_8 S hK hH hS ⟨0, by decide, t0⟩ hT t0 en14 gm_1285 dX11_undo_26 (fun q13 H locs eq13 hH hS hq1 => ?_)
      have hqq13 : qkm q13 := by rw [eq13]; exact qum_ok8 hqq8 (by have z1 := (ix12).1; have z2 := (ix12).2; exact ⟨by omega, by omega⟩)
      have h0q13 : fr [7, 8] q q13 := by rw [eq13]; exact fr_up h0q8 (by decide)
      have wq13_7 : q13 7 = q8 7 := by rw [eq13]; rfl
      have wq13_8 : q13 8 = n14 := by rw [eq13]; rfl
      refine lv_aload_n hx hb dX11_undo_29 rfl (lv_at hl 0 rfl) ?_
      refine th_callVv (n := 0) (As := []) S hK hH hS (th_A.sub (by decide)) (m_X11_exchange l D cT T q13 hT hqq13 a0 t0) gm_1744 gm_1741 gm_1743 gm_98 gm_124 (by decide +kernel) ⟨rfl, rfl, Nat.le_of_ble_eq_true rfl, Nat.le_of_ble_eq_true rfl⟩ t0 km_0 rfl rfl hl.1 rfl (Nat.le_of_ble_eq_true rfl) dX11_undo_30 ⟨Nat.zero_le _, Nat.zero_le _⟩ (fun H locs hH hS hF1 => ?_)
      refine lv_iconst (v := 1) hx hb dX11_undo_33 (by decide) ?_
      exact th_zretM S hK hH hS hr hlocks (iv_w (iv_c (by decide) : IV 1 1 1) (by decide)) ⟨_, rfl, (iv_w (iv_c (by decide) : IV 1 1 1) (by decide)), hqq13, h0q13, (show q13 7 + q13 8 ≤ 40 by omega)⟩ dX11_undo_34
    · skip
      have rlc3 : x2.toInt = (0 : Int) := congrArg Int32.toInt c3
      have ir15 : IV x2 0 0 := iv_eL c3 (iv_c (by decide) : IV 0 0 0)
      have ir15a := ir15.1; have ir15b := ir15.2
      refine lv_iconst (v := 0) hx hb dX11_undo_7 (by decide) ?_
      exact th_zretM S hK hH hS hr hlocks (iv_w (iv_c (by decide) : IV 0 0 0) (by decide)) ⟨_, rfl, (iv_w (iv_c (by decide) : IV 0 0 0) (by decide)), hq, fr_rf, (show q 7 + q 8 ≤ 40 by omega)⟩ dX11_undo_8
  exact J0 s.heap [] ls hH va_S.rf hl

set_option maxRecDepth 100000 in
theorem m_X11_redo (l : Launch) (D : va_G) (cT : Nat → ClassId) (T : Nat → Option Nat) (q : Nat → Int) (hT : tokm T) (hq : qkm q) (a0 : Nat) (t0 : T a0 = some 0) (hp0 : q 7 + q 8 ≤ 40) : th_MetM l D cT T q yX11_redo cX11_redo 1 (some .boolean) (rmk 1 22) [.ref a0] (fun v q2 => ∃ r : Int32, v = some (.int r) ∧ IV r 0 1 ∧ qkm q2 ∧ fr [7, 8] q q2 ∧ (q2 7 + q2 8 ≤ 40)) [0, 33, 34] := by
  refine th_startM (by decide) (Nat.le_of_ble_eq_true rfl) ?_
  intro p e s m below meth c ls S hK hH hr hlocks hnm hl
  have hx := S.1
  have hb := S.2.1
  have hl : lv_has ls 1 [(0, .ref a0)] := hl
  have J0 : ∀ (H : Heap) (locs : List Loc) (ls : Array Slot), th_H D cT T (km q) H → va_S (th_A T [0, 33, 34]) s.heap H locs → lv_has ls 1 [(0, .ref a0)] → W p l e (rmk 1 22) s m [.ref a0].toArray below meth c H locs 0 0 (MQ below (th_QM D cT T (fun v q2 => ∃ r : Int32, v = some (.int r) ∧ IV r 0 1 ∧ qkm q2 ∧ fr [7, 8] q q2 ∧ (q2 7 + q2 8 ≤ 40)) [0, 33, 34]) [.ref a0].toArray s 0 0 (th_A T [0, 33, 34])) (F0 m 0 ls []) := by
    intro H locs ls hH hS hl
    refine lv_aload_n hx hb dX11_redo_0 rfl (lv_at hl 0 rfl) ?_
    refine th_get S hK hH inG11 t0 km_0 rfl 55 (by decide) gm_1285 rfl rfl dX11_redo_1 (fun v1 hv1 fv1 => ?_)
    obtain ⟨x2, rfl, ix2⟩ := th_V.int hv1
    have kx2a : q 8 ≤ x2.toInt := ix2.1
    have kx2b : x2.toInt ≤ q 8 := ix2.2
    have bx2 := qkm_8 hq
    have ix2 : IV x2 0 40 := iv_w ix2 (qkm_8 hq)
    refine lv_if_ne (tgt := 9) hx hb dX11_redo_4 (by decide) (fun c3 => ?_) (fun c3 => ?_)
    · skip
      have rlc3 : x2.toInt ≠ (0 : Int) := iv_ne c3
      have ir4 : IV x2 1 40 := iv_cutL ix2 (iv_c (by decide) : IV 0 0 0) c3 (by decide)
      have ir4a := ir4.1; have ir4b := ir4.2
      refine lv_aload_n hx hb dX11_redo_9 rfl (lv_at hl 0 rfl) ?_
      refine th_callVv (n := 0) (As := []) S hK hH hS (th_A.sub (by decide)) (m_X11_exchange l D cT T q hT hq a0 t0) gm_1744 gm_1741 gm_1743 gm_98 gm_124 (by decide +kernel) ⟨rfl, rfl, Nat.le_of_ble_eq_true rfl, Nat.le_of_ble_eq_true rfl⟩ t0 km_0 rfl rfl hl.1 rfl (Nat.le_of_ble_eq_true rfl) dX11_redo_10 ⟨Nat.zero_le _, Nat.zero_le _⟩ (fun H locs hH hS hF1 => ?_)
      refine lv_aload_n hx hb dX11_redo_13 rfl (lv_at hl 0 rfl) ?_
      refine lv_dup hx hb dX11_redo_14 rfl ?_
      refine th_get S hK hH inG11 t0 km_0 rfl 54 (by decide) gm_1284 rfl rfl dX11_redo_15 (fun v5 hv5 fv5 => ?_)
      obtain ⟨x6, rfl, ix6⟩ := th_V.int hv5
      have kx6a : q 7 ≤ x6.toInt := ix6.1
      have kx6b : x6.toInt ≤ q 7 := ix6.2
      have bx6 := qkm_7 hq
      have ix6 : IV x6 0 40 := iv_w ix6 (qkm_7 hq)
      refine lv_iconst (v := 1) hx hb dX11_redo_18 (by decide) ?_
      refine lv_iadd hx hb dX11_redo_19 ?_
      refine lv_topi (fun x7 ex7 => ?_)
      have ix7 : IV x7 1 41 := by rw [ex7]; exact iv_add ix6 (iv_c (by decide) : IV 1 1 1) (by decide)
      have ux7 : x7.toInt = x6.toInt + (1 : Int) := by rw [ex7]; exact iv_addE (by have z1 := (ix6).1; have z2 := (ix6).2; have z3 := ((iv_c (by decide) : IV 1 1 1)).1; have z4 := ((iv_c (by decide) : IV 1 1 1)).2; omega)
      obtain ⟨n9, en9⟩ : ∃ z : Int, z = Int32.toInt x7 := ⟨_, rfl⟩
      refine mput_7 S hK hH hS ⟨0, by decide, t0⟩ hT t0 en9 gm_1284 dX11_redo_20 (fun q8 H locs eq8 hH hS hq1 => ?_)
      have hqq8 : qkm q8 := by rw [eq8]; exact qum_ok7 hq (by have z1 := (ix7).1; have z2 := (ix7).2; exact ⟨by omega, by omega⟩)
      have h0q8 : fr [7, 8] q q8 := by rw [eq8]; exact fr_up fr_rf (by decide)
      have wq8_7 : q8 7 = n9 := by rw [eq8]; rfl
      have wq8_8 : q8 8 = q 8 := by rw [eq8]; rfl
      refine lv_aload_n hx hb dX11_redo_23 rfl (lv_at hl 0 rfl) ?_
      refine lv_dup hx hb dX11_redo_24 rfl ?_
      refine th_get S hK hH inG11 t0 km_0 rfl 55 (by decide) gm_1285 rfl rfl dX11_redo_25 (fun v10 hv10 fv10 => ?_)
      obtain ⟨x11, rfl, ix11⟩ := th_V.int hv10
      have kx11a : q8 8 ≤ x11.toInt := ix11.1
      have kx11b : x11.toInt ≤ q8 8 := ix11.2
      have bx11 := qkm_8 hqq8
      have ix11 : IV x11 0 40 := iv_w ix11 (qkm_8 hqq8)
      refine lv_iconst (v := 1) hx hb dX11_redo_28 (by decide) ?_
      refine lv_isub hx hb dX11_redo_29 ?_
      refine lv_topi (fun x12 ex12 => ?_)
      have ix12 : IV x12 (-1) 39 := by rw [ex12]; exact iv_sub ix11 (iv_c (by decide) : IV 1 1 1) (by decide)
      have ux12 : x12.toInt = x11.toInt - (1 : Int) := by rw [ex12]; exact iv_subE (by have z1 := (ix11).1; have z2 := (ix11).2; have z3 := ((iv_c (by decide) : IV 1 1 1)).1; have z4 := ((iv_c (by decide) : IV 1 1 1)).2; omega)
      obtain ⟨n14, en14⟩ : ∃ z : Int, z = Int32.toInt x12 := ⟨_, rfl⟩
      refine mput_8 S hK hH hS ⟨0, by decide, t0⟩ hT t0 en14 gm_1285 dX11_redo_30 (fun q13 H locs eq13 hH hS hq1 => ?_)
      have hqq13 : qkm q13 := by rw [eq13]; exact qum_ok8 hqq8 (by have z1 := (ix12).1; have z2 := (ix12).2; exact ⟨by omega, by omega⟩)
      have h0q13 : fr [7, 8] q q13 := by rw [eq13]; exact fr_up h0q8 (by decide)
      have wq13_7 : q13 7 = q8 7 := by rw [eq13]; rfl
      have wq13_8 : q13 8 = n14 := by rw [eq13]; rfl
      refine lv_iconst (v := 1) hx hb dX11_redo_33 (by decide) ?_
      exact th_zretM S hK hH hS hr hlocks (iv_w (iv_c (by decide) : IV 1 1 1) (by decide)) ⟨_, rfl, (iv_w (iv_c (by decide) : IV 1 1 1) (by decide)), hqq13, h0q13, (show q13 7 + q13 8 ≤ 40 by omega)⟩ dX11_redo_34
    · skip
      have rlc3 : x2.toInt = (0 : Int) := congrArg Int32.toInt c3
      have ir15 : IV x2 0 0 := iv_eL c3 (iv_c (by decide) : IV 0 0 0)
      have ir15a := ir15.1; have ir15b := ir15.2
      refine lv_iconst (v := 0) hx hb dX11_redo_7 (by decide) ?_
      exact th_zretM S hK hH hS hr hlocks (iv_w (iv_c (by decide) : IV 0 0 0) (by decide)) ⟨_, rfl, (iv_w (iv_c (by decide) : IV 0 0 0) (by decide)), hq, fr_rf, (show q 7 + q 8 ≤ 40 by omega)⟩ dX11_redo_8
  exact J0 s.heap [] ls hH va_S.rf hl

set_option maxRecDepth 100000 in
theorem m_X11_bringBack (l : Launch) (D : va_G) (cT : Nat → ClassId) (T : Nat → Option Nat) (q : Nat → Int) (hT : tokm T) (hq : qkm q) (a0 : Nat) (t0 : T a0 = some 0) : th_Met l D cT T (km q) yX11_bringBack cX11_bringBack 2 none (rmk 0 0) [.ref a0] (th_R T none) [33] := by
  refine th_start (by decide) (Nat.le_of_ble_eq_true rfl) ?_
  intro p e s m below meth c ls S hK hH hr hlocks hnm hl
  have hx := S.1
  have hb := S.2.1
  have hl : lv_has ls 2 [(0, .ref a0)] := hl
  have J2 : ∀ (n : Nat) (H : Heap) (locs : List Loc) (ls : Array Slot) (v2_1 : Int32), IV v2_1 0 43 → th_H D cT T (km q) H → va_S (th_A T [33]) s.heap H locs → lv_has ls 2 [(0, .ref a0), (1, .int v2_1)] → (43 + 1 - Int32.toInt v2_1).toNat < n → W p l e (rmk 0 0) s m [.ref a0].toArray below meth c H locs 0 0 (MQ below (th_Q D cT T (km q) (th_R T none) [33]) [.ref a0].toArray s 0 0 (th_A T [33])) (F0 m 2 ls []) := by
    intro n
    induction n with
    | zero => intro H locs ls v2_1 iv2_1 hH hS hl hn; exact absurd hn (Nat.not_lt_zero _)
    | succ n ih2 =>
      intro H locs ls v2_1 iv2_1 hH hS hl hn2
      have l1v2_1 := iv2_1.1; have l2v2_1 := iv2_1.2
      refine lv_iload_n hx hb dX11_bringBack_2 rfl (lv_at hl 1 rfl) ?_
      refine lv_bipush (v := 43) hx hb dX11_bringBack_3 (by decide) ?_
      refine lv_icmp_ge (tgt := 26) hx hb dX11_bringBack_5 (by decide) (fun c1 => ?_) (fun c1 => ?_)
      · skip
        have rlc1 : (43 : Int) ≤ v2_1.toInt := iv_le c1
        have ir2 : IV v2_1 43 43 := iv_vR (iv_c (by decide) : IV 43 43 43) iv2_1 (iv_le c1) (by decide)
        have ir2a := ir2.1; have ir2b := ir2.2
        exact th_vret S hK hH hS hr hlocks rfl dX11_bringBack_26
      · skip
        have rlc1 : v2_1.toInt < (43 : Int) := iv_nle c1
        have ir3 : IV v2_1 0 42 := iv_uL iv2_1 (iv_c (by decide) : IV 43 43 43) (iv_nle c1) (by decide)
        have ir3a := ir3.1; have ir3b := ir3.2
        refine lv_aload_n hx hb dX11_bringBack_8 rfl (lv_at hl 0 rfl) ?_
        refine th_get S hK hH inG11 t0 km_0 rfl 52 (by decide) gm_1282 rfl rfl dX11_bringBack_9 (fun v4 hv4 fv4 => ?_)
        obtain ⟨rf5, rfl, trf5⟩ := th_V.ref hv4
        refine lv_iload_n hx hb dX11_bringBack_12 rfl (lv_at hl 1 rfl) ?_
        refine lv_aload_n hx hb dX11_bringBack_13 rfl (lv_at hl 0 rfl) ?_
        refine th_get S hK hH inG11 t0 km_0 rfl 56 (by decide) gm_1286 rfl rfl dX11_bringBack_14 (fun v6 hv6 fv6 => ?_)
        obtain ⟨rf7, rfl, trf7⟩ := th_V.ref hv6
        refine lv_iload_n hx hb dX11_bringBack_17 rfl (lv_at hl 1 rfl) ?_
        refine th_iald S hK hH trf7 km_35 (th_in (hi := 42) ir3 (by decide)) dX11_bringBack_18 (fun v8 hv8 => ?_)
        obtain ⟨x9, rfl, ix9⟩ := th_V.int hv8
        refine th_iast S hK hH hS ⟨33, by decide, trf5⟩ trf5 km_33 (th_in (hi := 42) ir3 (by decide)) (th_iv ix9) dX11_bringBack_19 (fun H locs hH hS hq1 => ?_)
        refine th_iinc S dX11_bringBack_20 hl (k := 1) rfl (by decide) ir3 (by decide) (fun x10 ls ex10 ix10 hl => ?_)
        have hl : lv_has ls 2 [(1, .int x10), (0, .ref a0)] := hl
        have ix10 : IV x10 1 43 := ix10
        refine lv_goto (tgt := 2) hx hb dX11_bringBack_23 (by decide) ?_
        exact ih2 H locs ls x10 (iv_w ix10 (by decide)) hH hS (lv_sub hl [1, 0] rfl) (th_up iv2_1 ex10 (by decide) hn2)
  have J0 : ∀ (H : Heap) (locs : List Loc) (ls : Array Slot), th_H D cT T (km q) H → va_S (th_A T [33]) s.heap H locs → lv_has ls 2 [(0, .ref a0)] → W p l e (rmk 0 0) s m [.ref a0].toArray below meth c H locs 0 0 (MQ below (th_Q D cT T (km q) (th_R T none) [33]) [.ref a0].toArray s 0 0 (th_A T [33])) (F0 m 0 ls []) := by
    intro H locs ls hH hS hl
    refine lv_iconst (v := 0) hx hb dX11_bringBack_0 (by decide) ?_
    refine lv_istore_n (lv' := [(1, .int 0), (0, .ref a0)]) hx hb dX11_bringBack_1 rfl hl (by decide) rfl (fun ls hl => ?_)
    exact J2 ((43 + 1 - Int32.toInt 0).toNat + 1) H locs ls 0 (iv_w (iv_c (by decide) : IV 0 0 0) (by decide)) hH hS (lv_sub hl [1, 0] rfl) (Nat.lt_succ_self _)
  exact J0 s.heap [] ls hH va_S.rf hl

set_option maxRecDepth 100000 in
theorem m_X11_lost (l : Launch) (D : va_G) (cT : Nat → ClassId) (T : Nat → Option Nat) (q : Nat → Int) (hT : tokm T) (hq : qkm q) (a0 : Nat) (t0 : T a0 = some 0) : th_Met l D cT T (km q) yX11_lost cX11_lost 3 (some .int) (rmk 0 0) [.ref a0] (th_R T (some (.inl (-2147483648, 2147483647)))) [] := by
  refine th_start (by decide) (Nat.le_of_ble_eq_true rfl) ?_
  intro p e s m below meth c ls S hK hH hr hlocks hnm hl
  have hx := S.1
  have hb := S.2.1
  have hl : lv_has ls 3 [(0, .ref a0)] := hl
  have J4 : ∀ (n : Nat) (H : Heap) (locs : List Loc) (ls : Array Slot) (v4_1 : Int32) (v4_2 : Int32), IV v4_1 (-2147483648) 2147483647 → IV v4_2 0 8 → th_H D cT T (km q) H → va_S (th_A T []) s.heap H locs → lv_has ls 3 [(0, .ref a0), (1, .int v4_1), (2, .int v4_2)] → (8 + 1 - Int32.toInt v4_2).toNat < n → W p l e (rmk 0 0) s m [.ref a0].toArray below meth c H locs 0 0 (MQ below (th_Q D cT T (km q) (th_R T (some (.inl (-2147483648, 2147483647)))) []) [.ref a0].toArray s 0 0 (th_A T [])) (F0 m 4 ls []) := by
    intro n
    induction n with
    | zero => intro H locs ls v4_1 v4_2 iv4_1 iv4_2 hH hS hl hn; exact absurd hn (Nat.not_lt_zero _)
    | succ n ih4 =>
      intro H locs ls v4_1 v4_2 iv4_1 iv4_2 hH hS hl hn4
      have J47 : ∀ (H : Heap) (locs : List Loc) (ls : Array Slot) (v47_1 : Int32), IV v47_1 (-2147483648) 2147483647 → IV v4_2 0 7 → th_H D cT T (km q) H → va_S (th_A T []) s.heap H locs → lv_has ls 3 [(0, .ref a0), (1, .int v47_1), (2, .int v4_2)] → W p l e (rmk 0 0) s m [.ref a0].toArray below meth c H locs 0 0 (MQ below (th_Q D cT T (km q) (th_R T (some (.inl (-2147483648, 2147483647)))) []) [.ref a0].toArray s 0 0 (th_A T [])) (F0 m 47 ls []) := by
        intro H locs ls v47_1 iv47_1 f47_v4_2 hH hS hl
        refine th_iinc S dX11_lost_47 hl (k := 2) rfl (by decide) f47_v4_2 (by decide) (fun x1 ls ex1 ix1 hl => ?_)
        have hl : lv_has ls 3 [(2, .int x1), (0, .ref a0), (1, .int v47_1)] := hl
        have ix1 : IV x1 1 8 := ix1
        refine lv_goto (tgt := 4) hx hb dX11_lost_50 (by decide) ?_
        exact ih4 H locs ls v47_1 x1 iv47_1 (iv_w ix1 (by decide)) hH hS (lv_sub hl [1, 2, 0] rfl) (th_up iv4_2 ex1 (by decide) hn4)
      have l1v4_2 := iv4_2.1; have l2v4_2 := iv4_2.2
      refine lv_iload_n hx hb dX11_lost_4 rfl (lv_at hl 2 rfl) ?_
      refine lv_aload_n hx hb dX11_lost_5 rfl (lv_at hl 0 rfl) ?_
      refine th_get S hK hH inG11 t0 km_0 rfl 13 (by decide) gm_1243 rfl rfl dX11_lost_6 (fun v2 hv2 fv2 => ?_)
      obtain ⟨rf3, rfl, trf3⟩ := th_V.ref hv2
      refine lv_aload_n hx hb dX11_lost_9 rfl (lv_at hl 0 rfl) ?_
      refine th_get S hK hH inG11 t0 km_0 rfl 41 (by decide) gm_1271 rfl rfl dX11_lost_10 (fun v4 hv4 fv4 => ?_)
      obtain ⟨x5, rfl, ix5⟩ := th_V.int hv4
      have kx5a : q 10 ≤ x5.toInt := ix5.1
      have kx5b : x5.toInt ≤ q 10 := ix5.2
      have ix5 : IV x5 0 1 := iv_w ix5 (qkm_10 hq)
      refine th_iald S hK hH trf3 km_5 (th_in (hi := 1) ix5 (by decide)) dX11_lost_13 (fun v6 hv6 => ?_)
      obtain ⟨x7, rfl, ix7⟩ := th_bkA hv6 ix5 (by omega)
      have kx7a : q 18 ≤ x7.toInt := ix7.1
      have kx7b : x7.toInt ≤ q 18 := ix7.2
      have ix7 : IV x7 0 8 := iv_w ix7 (qkm_18 hq)
      refine lv_icmp_ge (tgt := 53) hx hb dX11_lost_14 (by decide) (fun c8 => ?_) (fun c8 => ?_)
      · skip
        have rlc8 : x7.toInt ≤ v4_2.toInt := iv_le c8
        refine lv_iload_n hx hb dX11_lost_53 rfl (lv_at hl 1 rfl) ?_
        exact th_iret S hK hH hS hr hlocks (th_R.i iv4_1) dX11_lost_54
      · skip
        have rlc8 : v4_2.toInt < x7.toInt := iv_nle c8
        have ir9 : IV v4_2 0 7 := iv_uL iv4_2 ix7 (iv_nle c8) (by decide)
        have ir9a := ir9.1; have ir9b := ir9.2
        have ir10 : IV x7 1 8 := iv_uR iv4_2 ix7 (iv_nle c8) (by decide)
        have ir10a := ir10.1; have ir10b := ir10.2
        refine lv_aload_n hx hb dX11_lost_17 rfl (lv_at hl 0 rfl) ?_
        refine th_get S hK hH inG11 t0 km_0 rfl 52 (by decide) gm_1282 rfl rfl dX11_lost_18 (fun v11 hv11 fv11 => ?_)
        obtain ⟨rf12, rfl, trf12⟩ := th_V.ref hv11
        refine lv_bipush (v := 15) hx hb dX11_lost_21 (by decide) ?_
        refine lv_iload_n hx hb dX11_lost_23 rfl (lv_at hl 2 rfl) ?_
        refine lv_iadd hx hb dX11_lost_24 ?_
        refine lv_topi (fun x13 ex13 => ?_)
        have ix13 : IV x13 15 22 := by rw [ex13]; exact iv_add (iv_c (by decide) : IV 15 15 15) ir9 (by decide)
        have ux13 : x13.toInt = (15 : Int) + v4_2.toInt := by rw [ex13]; exact iv_addE (by have z1 := ((iv_c (by decide) : IV 15 15 15)).1; have z2 := ((iv_c (by decide) : IV 15 15 15)).2; have z3 := (ir9).1; have z4 := (ir9).2; omega)
        refine th_iald S hK hH trf12 km_33 (th_in (hi := 22) (iv_w ix13 (by decide)) (by decide)) dX11_lost_25 (fun v14 hv14 => ?_)
        obtain ⟨x15, rfl, ix15⟩ := th_V.int hv14
        refine lv_if_ne (tgt := 47) hx hb dX11_lost_26 (by decide) (fun c16 => ?_) (fun c16 => ?_)
        · skip
          have rlc16 : x15.toInt ≠ (0 : Int) := iv_ne c16
          exact J47 H locs ls v4_1 iv4_1 ir9 hH hS (lv_sub hl [0, 1, 2] rfl)
        · skip
          have rlc16 : x15.toInt = (0 : Int) := congrArg Int32.toInt c16
          have ir17 : IV x15 0 0 := iv_eL c16 (iv_c (by decide) : IV 0 0 0)
          have ir17a := ir17.1; have ir17b := ir17.2
          refine lv_aload_n hx hb dX11_lost_29 rfl (lv_at hl 0 rfl) ?_
          refine th_get S hK hH inG11 t0 km_0 rfl 56 (by decide) gm_1286 rfl rfl dX11_lost_30 (fun v18 hv18 fv18 => ?_)
          obtain ⟨rf19, rfl, trf19⟩ := th_V.ref hv18
          refine lv_bipush (v := 15) hx hb dX11_lost_33 (by decide) ?_
          refine lv_iload_n hx hb dX11_lost_35 rfl (lv_at hl 2 rfl) ?_
          refine lv_iadd hx hb dX11_lost_36 ?_
          refine lv_topi (fun x20 ex20 => ?_)
          have zx20 : x13 = x20 := ex13.trans ex20.symm
          subst zx20
          refine th_iald S hK hH trf19 km_35 (th_in (hi := 22) (iv_w ix13 (by decide)) (by decide)) dX11_lost_37 (fun v21 hv21 => ?_)
          obtain ⟨x22, rfl, ix22⟩ := th_V.int hv21
          refine lv_if_le (tgt := 47) hx hb dX11_lost_38 (by decide) (fun c23 => ?_) (fun c23 => ?_)
          · skip
            have rlc23 : x22.toInt ≤ (0 : Int) := iv_le c23
            have ir24 : IV x22 (-2147483648) 0 := iv_vL ix22 (iv_c (by decide) : IV 0 0 0) (iv_le c23) (by decide)
            have ir24a := ir24.1; have ir24b := ir24.2
            exact J47 H locs ls v4_1 iv4_1 ir9 hH hS (lv_sub hl [0, 1, 2] rfl)
          · skip
            have rlc23 : (0 : Int) < x22.toInt := iv_nle c23
            have ir25 : IV x22 1 2147483647 := iv_uR (iv_c (by decide) : IV 0 0 0) ix22 (iv_nle c23) (by decide)
            have ir25a := ir25.1; have ir25b := ir25.2
            refine lv_iload_n hx hb dX11_lost_41 rfl (lv_at hl 1 rfl) ?_
            refine lv_iconst (v := 1) hx hb dX11_lost_42 (by decide) ?_
            refine lv_iload_n hx hb dX11_lost_43 rfl (lv_at hl 2 rfl) ?_
            refine lv_ishl hx hb dX11_lost_44 ?_
            refine lv_topi (fun x26 ex26 => ?_)
            have ix26 := iv_top x26
            have ix26 : IV x26 1 1073741824 := by rw [ex26]; exact iv_shl1 (iv_w ir9 (by decide))
            refine lv_ior hx hb dX11_lost_45 ?_
            refine lv_topi (fun x27 ex27 => ?_)
            have ix27 := iv_top x27
            refine lv_istore_n (lv' := [(1, .int x27), (0, .ref a0), (2, .int v4_2)]) hx hb dX11_lost_46 rfl hl (by decide) rfl (fun ls hl => ?_)
            exact J47 H locs ls x27 ix27 ir9 hH hS (lv_sub hl [1, 0, 2] rfl)
  have J0 : ∀ (H : Heap) (locs : List Loc) (ls : Array Slot), th_H D cT T (km q) H → va_S (th_A T []) s.heap H locs → lv_has ls 3 [(0, .ref a0)] → W p l e (rmk 0 0) s m [.ref a0].toArray below meth c H locs 0 0 (MQ below (th_Q D cT T (km q) (th_R T (some (.inl (-2147483648, 2147483647)))) []) [.ref a0].toArray s 0 0 (th_A T [])) (F0 m 0 ls []) := by
    intro H locs ls hH hS hl
    refine lv_iconst (v := 0) hx hb dX11_lost_0 (by decide) ?_
    refine lv_istore_n (lv' := [(1, .int 0), (0, .ref a0)]) hx hb dX11_lost_1 rfl hl (by decide) rfl (fun ls hl => ?_)
    refine lv_iconst (v := 0) hx hb dX11_lost_2 (by decide) ?_
    refine lv_istore_n (lv' := [(2, .int 0), (1, .int 0), (0, .ref a0)]) hx hb dX11_lost_3 rfl hl (by decide) rfl (fun ls hl => ?_)
    exact J4 ((8 + 1 - Int32.toInt 0).toNat + 1) H locs ls 0 0 (iv_top _) (iv_w (iv_c (by decide) : IV 0 0 0) (by decide)) hH hS (lv_sub hl [2, 1, 0] rfl) (Nat.lt_succ_self _)
  exact J0 s.heap [] ls hH va_S.rf hl
