theorem dX9_nextTrial_0 : decode cX9_nextTrial 0 = .ok (.aload_n 0, 1) := by decide +kernel
theorem dX9_nextTrial_1 : decode cX9_nextTrial 1 = .ok (.iload_n 1, 1) := by decide +kernel
theorem dX9_nextTrial_2 : decode cX9_nextTrial 2 = .ok (.iload 4, 2) := by decide +kernel
theorem dX9_nextTrial_4 : decode cX9_nextTrial 4 = .ok (.invokevirtual 52, 3) := by decide +kernel
theorem dX9_nextTrial_7 : decode cX9_nextTrial 7 = .ok (.istore 5, 2) := by decide +kernel
theorem dX9_nextTrial_9 : decode cX9_nextTrial 9 = .ok (.iload 5, 2) := by decide +kernel
theorem dX9_nextTrial_11 : decode cX9_nextTrial 11 = .ok (.ifCond .ne 5, 3) := by decide +kernel
theorem dX9_nextTrial_14 : decode cX9_nextTrial 14 = .ok (.iconst (-1), 1) := by decide +kernel
theorem dX9_nextTrial_15 : decode cX9_nextTrial 15 = .ok (.ireturn, 1) := by decide +kernel
theorem dX9_nextTrial_16 : decode cX9_nextTrial 16 = .ok (.iconst (-1), 1) := by decide +kernel
theorem dX9_nextTrial_17 : decode cX9_nextTrial 17 = .ok (.istore 6, 2) := by decide +kernel
theorem dX9_nextTrial_19 : decode cX9_nextTrial 19 = .ok (.iload 5, 2) := by decide +kernel
theorem dX9_nextTrial_21 : decode cX9_nextTrial 21 = .ok (.iconst 1, 1) := by decide +kernel
theorem dX9_nextTrial_22 : decode cX9_nextTrial 22 = .ok (.iadd, 1) := by decide +kernel
theorem dX9_nextTrial_23 : decode cX9_nextTrial 23 = .ok (.istore 7, 2) := by decide +kernel
theorem dX9_nextTrial_25 : decode cX9_nextTrial 25 = .ok (.iconst 0, 1) := by decide +kernel
theorem dX9_nextTrial_26 : decode cX9_nextTrial 26 = .ok (.istore 8, 2) := by decide +kernel
theorem dX9_nextTrial_28 : decode cX9_nextTrial 28 = .ok (.iload 8, 2) := by decide +kernel
theorem dX9_nextTrial_30 : decode cX9_nextTrial 30 = .ok (.iload_n 1, 1) := by decide +kernel
theorem dX9_nextTrial_31 : decode cX9_nextTrial 31 = .ok (.if_icmp .ge 69, 3) := by decide +kernel
theorem dX9_nextTrial_34 : decode cX9_nextTrial 34 = .ok (.iconst 1, 1) := by decide +kernel
theorem dX9_nextTrial_35 : decode cX9_nextTrial 35 = .ok (.istore 9, 2) := by decide +kernel
theorem dX9_nextTrial_37 : decode cX9_nextTrial 37 = .ok (.iload 9, 2) := by decide +kernel
theorem dX9_nextTrial_39 : decode cX9_nextTrial 39 = .ok (.bipush 9, 2) := by decide +kernel
theorem dX9_nextTrial_41 : decode cX9_nextTrial 41 = .ok (.if_icmp .gt 53, 3) := by decide +kernel
theorem dX9_nextTrial_44 : decode cX9_nextTrial 44 = .ok (.aload_n 0, 1) := by decide +kernel
theorem dX9_nextTrial_45 : decode cX9_nextTrial 45 = .ok (.iload 8, 2) := by decide +kernel
theorem dX9_nextTrial_47 : decode cX9_nextTrial 47 = .ok (.iload 9, 2) := by decide +kernel
theorem dX9_nextTrial_49 : decode cX9_nextTrial 49 = .ok (.iload_n 2, 1) := by decide +kernel
theorem dX9_nextTrial_50 : decode cX9_nextTrial 50 = .ok (.invokevirtual 56, 3) := by decide +kernel
theorem dX9_nextTrial_53 : decode cX9_nextTrial 53 = .ok (.istore 10, 2) := by decide +kernel
theorem dX9_nextTrial_55 : decode cX9_nextTrial 55 = .ok (.iload 10, 2) := by decide +kernel
theorem dX9_nextTrial_57 : decode cX9_nextTrial 57 = .ok (.iload 5, 2) := by decide +kernel
theorem dX9_nextTrial_59 : decode cX9_nextTrial 59 = .ok (.iload 10, 2) := by decide +kernel
theorem dX9_nextTrial_61 : decode cX9_nextTrial 61 = .ok (.isub, 1) := by decide +kernel
theorem dX9_nextTrial_62 : decode cX9_nextTrial 62 = .ok (.invokestatic 60, 3) := by decide +kernel
theorem dX9_nextTrial_65 : decode cX9_nextTrial 65 = .ok (.istore 11, 2) := by decide +kernel
theorem dX9_nextTrial_67 : decode cX9_nextTrial 67 = .ok (.iload 11, 2) := by decide +kernel
theorem dX9_nextTrial_69 : decode cX9_nextTrial 69 = .ok (.iload 7, 2) := by decide +kernel
theorem dX9_nextTrial_71 : decode cX9_nextTrial 71 = .ok (.if_icmp .ge 17, 3) := by decide +kernel
theorem dX9_nextTrial_74 : decode cX9_nextTrial 74 = .ok (.iload 11, 2) := by decide +kernel
theorem dX9_nextTrial_76 : decode cX9_nextTrial 76 = .ok (.istore 7, 2) := by decide +kernel
theorem dX9_nextTrial_78 : decode cX9_nextTrial 78 = .ok (.bipush 10, 2) := by decide +kernel
theorem dX9_nextTrial_80 : decode cX9_nextTrial 80 = .ok (.iload 8, 2) := by decide +kernel
theorem dX9_nextTrial_82 : decode cX9_nextTrial 82 = .ok (.imul, 1) := by decide +kernel
theorem dX9_nextTrial_83 : decode cX9_nextTrial 83 = .ok (.iload 9, 2) := by decide +kernel
theorem dX9_nextTrial_85 : decode cX9_nextTrial 85 = .ok (.iadd, 1) := by decide +kernel
theorem dX9_nextTrial_86 : decode cX9_nextTrial 86 = .ok (.istore 6, 2) := by decide +kernel
theorem dX9_nextTrial_88 : decode cX9_nextTrial 88 = .ok (.iinc 9 1, 3) := by decide +kernel
theorem dX9_nextTrial_91 : decode cX9_nextTrial 91 = .ok (.goto (-54), 3) := by decide +kernel
theorem dX9_nextTrial_94 : decode cX9_nextTrial 94 = .ok (.iinc 8 1, 3) := by decide +kernel
theorem dX9_nextTrial_97 : decode cX9_nextTrial 97 = .ok (.goto (-69), 3) := by decide +kernel
theorem dX9_nextTrial_100 : decode cX9_nextTrial 100 = .ok (.iload_n 3, 1) := by decide +kernel
theorem dX9_nextTrial_101 : decode cX9_nextTrial 101 = .ok (.ifCond .ne 8, 3) := by decide +kernel
theorem dX9_nextTrial_104 : decode cX9_nextTrial 104 = .ok (.iload 6, 2) := by decide +kernel
theorem dX9_nextTrial_106 : decode cX9_nextTrial 106 = .ok (.goto 5, 3) := by decide +kernel
theorem dX9_nextTrial_109 : decode cX9_nextTrial 109 = .ok (.iload 7, 2) := by decide +kernel
theorem dX9_nextTrial_111 : decode cX9_nextTrial 111 = .ok (.ireturn, 1) := by decide +kernel
theorem dX10_feed_0 : decode cX10_feed 0 = .ok (.aload_n 0, 1) := by decide +kernel
theorem dX10_feed_1 : decode cX10_feed 1 = .ok (.getfield 12, 3) := by decide +kernel
theorem dX10_feed_4 : decode cX10_feed 4 = .ok (.getfield 82, 3) := by decide +kernel
theorem dX10_feed_7 : decode cX10_feed 7 = .ok (.bipush 20, 2) := by decide +kernel
theorem dX10_feed_9 : decode cX10_feed 9 = .ok (.iadd, 1) := by decide +kernel
theorem dX10_feed_10 : decode cX10_feed 10 = .ok (.sipush 1600, 3) := by decide +kernel
theorem dX10_feed_13 : decode cX10_feed 13 = .ok (.if_icmp .le 5, 3) := by decide +kernel
theorem dX10_feed_16 : decode cX10_feed 16 = .ok (.iconst (-1), 1) := by decide +kernel
theorem dX10_feed_17 : decode cX10_feed 17 = .ok (.ireturn, 1) := by decide +kernel
theorem dX10_feed_18 : decode cX10_feed 18 = .ok (.aload_n 0, 1) := by decide +kernel
theorem dX10_feed_19 : decode cX10_feed 19 = .ok (.getfield 12, 3) := by decide +kernel
theorem dX10_feed_22 : decode cX10_feed 22 = .ok (.iload_n 1, 1) := by decide +kernel
theorem dX10_feed_23 : decode cX10_feed 23 = .ok (.invokevirtual 85, 3) := by decide +kernel
theorem dX10_feed_26 : decode cX10_feed 26 = .ok (.aload_n 0, 1) := by decide +kernel
theorem dX10_feed_27 : decode cX10_feed 27 = .ok (.getfield 12, 3) := by decide +kernel
theorem dX10_feed_30 : decode cX10_feed 30 = .ok (.iload_n 2, 1) := by decide +kernel
theorem dX10_feed_31 : decode cX10_feed 31 = .ok (.invokevirtual 85, 3) := by decide +kernel
theorem dX10_feed_34 : decode cX10_feed 34 = .ok (.aload_n 0, 1) := by decide +kernel
theorem dX10_feed_35 : decode cX10_feed 35 = .ok (.getfield 12, 3) := by decide +kernel
theorem dX10_feed_38 : decode cX10_feed 38 = .ok (.iload_n 3, 1) := by decide +kernel
theorem dX10_feed_39 : decode cX10_feed 39 = .ok (.invokevirtual 85, 3) := by decide +kernel
theorem dX10_feed_42 : decode cX10_feed 42 = .ok (.aload_n 0, 1) := by decide +kernel
theorem dX10_feed_43 : decode cX10_feed 43 = .ok (.getfield 12, 3) := by decide +kernel
theorem dX10_feed_46 : decode cX10_feed 46 = .ok (.iload 4, 2) := by decide +kernel
theorem dX10_feed_48 : decode cX10_feed 48 = .ok (.invokevirtual 85, 3) := by decide +kernel
theorem dX10_feed_51 : decode cX10_feed 51 = .ok (.aload_n 0, 1) := by decide +kernel
theorem dX10_feed_52 : decode cX10_feed 52 = .ok (.getfield 12, 3) := by decide +kernel
theorem dX10_feed_55 : decode cX10_feed 55 = .ok (.iload 5, 2) := by decide +kernel
theorem dX10_feed_57 : decode cX10_feed 57 = .ok (.invokevirtual 85, 3) := by decide +kernel
theorem dX10_feed_60 : decode cX10_feed 60 = .ok (.aload_n 0, 1) := by decide +kernel
theorem dX10_feed_61 : decode cX10_feed 61 = .ok (.getfield 12, 3) := by decide +kernel
theorem dX10_feed_64 : decode cX10_feed 64 = .ok (.getfield 82, 3) := by decide +kernel
theorem dX10_feed_67 : decode cX10_feed 67 = .ok (.ireturn, 1) := by decide +kernel
theorem dX10_end_0 : decode cX10_end 0 = .ok (.iload_n 1, 1) := by decide +kernel
theorem dX10_end_1 : decode cX10_end 1 = .ok (.ifCond .lt 14, 3) := by decide +kernel
theorem dX10_end_4 : decode cX10_end 4 = .ok (.iload_n 1, 1) := by decide +kernel
theorem dX10_end_5 : decode cX10_end 5 = .ok (.aload_n 0, 1) := by decide +kernel
theorem dX10_end_6 : decode cX10_end 6 = .ok (.getfield 12, 3) := by decide +kernel
theorem dX10_end_9 : decode cX10_end 9 = .ok (.getfield 82, 3) := by decide +kernel
theorem dX10_end_12 : decode cX10_end 12 = .ok (.if_icmp .le 5, 3) := by decide +kernel
theorem dX10_end_15 : decode cX10_end 15 = .ok (.iconst (-1), 1) := by decide +kernel
theorem dX10_end_16 : decode cX10_end 16 = .ok (.ireturn, 1) := by decide +kernel
theorem dX10_end_17 : decode cX10_end 17 = .ok (.aload_n 0, 1) := by decide +kernel
theorem dX10_end_18 : decode cX10_end 18 = .ok (.getfield 12, 3) := by decide +kernel
theorem dX10_end_21 : decode cX10_end 21 = .ok (.iload_n 1, 1) := by decide +kernel
theorem dX10_end_22 : decode cX10_end 22 = .ok (.putfield 82, 3) := by decide +kernel
theorem dX10_end_25 : decode cX10_end 25 = .ok (.iload_n 1, 1) := by decide +kernel
theorem dX10_end_26 : decode cX10_end 26 = .ok (.ireturn, 1) := by decide +kernel
theorem dX10_fault_0 : decode cX10_fault 0 = .ok (.iload_n 1, 1) := by decide +kernel
theorem dX10_fault_1 : decode cX10_fault 1 = .ok (.ifCond .ne 11, 3) := by decide +kernel
theorem dX10_fault_4 : decode cX10_fault 4 = .ok (.aload_n 0, 1) := by decide +kernel
theorem dX10_fault_5 : decode cX10_fault 5 = .ok (.getfield 21, 3) := by decide +kernel
theorem dX10_fault_8 : decode cX10_fault 8 = .ok (.getfield 117, 3) := by decide +kernel
theorem dX10_fault_11 : decode cX10_fault 11 = .ok (.ireturn, 1) := by decide +kernel
theorem dX10_fault_12 : decode cX10_fault 12 = .ok (.iload_n 1, 1) := by decide +kernel
theorem dX10_fault_13 : decode cX10_fault 13 = .ok (.iconst 1, 1) := by decide +kernel
theorem dX10_fault_14 : decode cX10_fault 14 = .ok (.if_icmp .ne 13, 3) := by decide +kernel
theorem dX10_fault_17 : decode cX10_fault 17 = .ok (.aload_n 0, 1) := by decide +kernel
theorem dX10_fault_18 : decode cX10_fault 18 = .ok (.getfield 21, 3) := by decide +kernel
theorem dX10_fault_21 : decode cX10_fault 21 = .ok (.getfield 120, 3) := by decide +kernel
theorem dX10_fault_24 : decode cX10_fault 24 = .ok (.goto 4, 3) := by decide +kernel
theorem dX10_fault_27 : decode cX10_fault 27 = .ok (.iconst (-1), 1) := by decide +kernel
theorem dX10_fault_28 : decode cX10_fault 28 = .ok (.ireturn, 1) := by decide +kernel
theorem dX10_isFood_0 : decode cX10_isFood 0 = .ok (.iload_n 1, 1) := by decide +kernel
theorem dX10_isFood_1 : decode cX10_isFood 1 = .ok (.ifCond .lt 18, 3) := by decide +kernel
theorem dX10_isFood_4 : decode cX10_isFood 4 = .ok (.iload_n 1, 1) := by decide +kernel
theorem dX10_isFood_5 : decode cX10_isFood 5 = .ok (.aload_n 0, 1) := by decide +kernel
theorem dX10_isFood_6 : decode cX10_isFood 6 = .ok (.getfield 28, 3) := by decide +kernel
theorem dX10_isFood_9 : decode cX10_isFood 9 = .ok (.getfield 263, 3) := by decide +kernel
theorem dX10_isFood_12 : decode cX10_isFood 12 = .ok (.if_icmp .ge 7, 3) := by decide +kernel
theorem dX10_isFood_15 : decode cX10_isFood 15 = .ok (.iconst 1, 1) := by decide +kernel
theorem dX10_isFood_16 : decode cX10_isFood 16 = .ok (.goto 4, 3) := by decide +kernel
theorem dX10_isFood_19 : decode cX10_isFood 19 = .ok (.iconst 0, 1) := by decide +kernel
theorem dX10_isFood_20 : decode cX10_isFood 20 = .ok (.ireturn, 1) := by decide +kernel
theorem dX10_store_0 : decode cX10_store 0 = .ok (.aload_n 0, 1) := by decide +kernel
theorem dX10_store_1 : decode cX10_store 1 = .ok (.iload_n 1, 1) := by decide +kernel
theorem dX10_store_2 : decode cX10_store 2 = .ok (.invokevirtual 123, 3) := by decide +kernel
theorem dX10_store_5 : decode cX10_store 5 = .ok (.ifCond .eq 20, 3) := by decide +kernel
theorem dX10_store_8 : decode cX10_store 8 = .ok (.aload_n 0, 1) := by decide +kernel
theorem dX10_store_9 : decode cX10_store 9 = .ok (.getfield 44, 3) := by decide +kernel
theorem dX10_store_12 : decode cX10_store 12 = .ok (.invokevirtual 127, 3) := by decide +kernel
theorem dX10_store_15 : decode cX10_store 15 = .ok (.getfield 131, 3) := by decide +kernel
theorem dX10_store_18 : decode cX10_store 18 = .ok (.iconst 0, 1) := by decide +kernel
theorem dX10_store_19 : decode cX10_store 19 = .ok (.iload_n 1, 1) := by decide +kernel
theorem dX10_store_20 : decode cX10_store 20 = .ok (.iadd, 1) := by decide +kernel
theorem dX10_store_21 : decode cX10_store 21 = .ok (.iaload, 1) := by decide +kernel
theorem dX10_store_22 : decode cX10_store 22 = .ok (.goto 4, 3) := by decide +kernel
theorem dX10_store_25 : decode cX10_store 25 = .ok (.iconst (-1), 1) := by decide +kernel
theorem dX10_store_26 : decode cX10_store 26 = .ok (.ireturn, 1) := by decide +kernel
theorem dX10_isMap_0 : decode cX10_isMap 0 = .ok (.iload_n 1, 1) := by decide +kernel
theorem dX10_isMap_1 : decode cX10_isMap 1 = .ok (.ifCond .lt 18, 3) := by decide +kernel
theorem dX10_isMap_4 : decode cX10_isMap 4 = .ok (.iload_n 1, 1) := by decide +kernel
theorem dX10_isMap_5 : decode cX10_isMap 5 = .ok (.aload_n 0, 1) := by decide +kernel
theorem dX10_isMap_6 : decode cX10_isMap 6 = .ok (.getfield 28, 3) := by decide +kernel
theorem dX10_isMap_9 : decode cX10_isMap 9 = .ok (.getfield 114, 3) := by decide +kernel
theorem dX10_isMap_12 : decode cX10_isMap 12 = .ok (.if_icmp .ge 7, 3) := by decide +kernel
theorem dX10_isMap_15 : decode cX10_isMap 15 = .ok (.iconst 1, 1) := by decide +kernel
theorem dX10_isMap_16 : decode cX10_isMap 16 = .ok (.goto 4, 3) := by decide +kernel
theorem dX10_isMap_19 : decode cX10_isMap 19 = .ok (.iconst 0, 1) := by decide +kernel
theorem dX10_isMap_20 : decode cX10_isMap 20 = .ok (.ireturn, 1) := by decide +kernel
theorem dX10_map_0 : decode cX10_map 0 = .ok (.aload_n 0, 1) := by decide +kernel
theorem dX10_map_1 : decode cX10_map 1 = .ok (.iload_n 1, 1) := by decide +kernel
theorem dX10_map_2 : decode cX10_map 2 = .ok (.invokevirtual 135, 3) := by decide +kernel
theorem dX10_map_5 : decode cX10_map 5 = .ok (.ifCond .ne 5, 3) := by decide +kernel
theorem dX10_map_8 : decode cX10_map 8 = .ok (.iconst (-1), 1) := by decide +kernel
theorem dX10_map_9 : decode cX10_map 9 = .ok (.ireturn, 1) := by decide +kernel
theorem dX10_map_10 : decode cX10_map 10 = .ok (.aload_n 0, 1) := by decide +kernel
theorem dX10_map_11 : decode cX10_map 11 = .ok (.getfield 44, 3) := by decide +kernel
theorem dX10_map_14 : decode cX10_map 14 = .ok (.invokevirtual 127, 3) := by decide +kernel
theorem dX10_map_17 : decode cX10_map 17 = .ok (.astore_n 3, 1) := by decide +kernel
theorem dX10_map_18 : decode cX10_map 18 = .ok (.iload_n 2, 1) := by decide +kernel
theorem dX10_map_19 : decode cX10_map 19 = .ok (.tableswitch 127 0 7 #[45, 55, 65, 75, 85, 97, 107, 117], 45) := by decide +kernel
theorem dX10_map_64 : decode cX10_map 64 = .ok (.aload_n 0, 1) := by decide +kernel
theorem dX10_map_65 : decode cX10_map 65 = .ok (.getfield 28, 3) := by decide +kernel
theorem dX10_map_68 : decode cX10_map 68 = .ok (.getfield 138, 3) := by decide +kernel
theorem dX10_map_71 : decode cX10_map 71 = .ok (.iload_n 1, 1) := by decide +kernel
theorem dX10_map_72 : decode cX10_map 72 = .ok (.iaload, 1) := by decide +kernel
theorem dX10_map_73 : decode cX10_map 73 = .ok (.ireturn, 1) := by decide +kernel
theorem dX10_map_74 : decode cX10_map 74 = .ok (.aload_n 0, 1) := by decide +kernel
theorem dX10_map_75 : decode cX10_map 75 = .ok (.getfield 37, 3) := by decide +kernel
theorem dX10_map_78 : decode cX10_map 78 = .ok (.aload_n 3, 1) := by decide +kernel
theorem dX10_map_79 : decode cX10_map 79 = .ok (.iload_n 1, 1) := by decide +kernel
theorem dX10_map_80 : decode cX10_map 80 = .ok (.invokevirtual 141, 3) := by decide +kernel
theorem dX10_map_83 : decode cX10_map 83 = .ok (.ireturn, 1) := by decide +kernel
theorem dX10_map_84 : decode cX10_map 84 = .ok (.aload_n 0, 1) := by decide +kernel
theorem dX10_map_85 : decode cX10_map 85 = .ok (.getfield 37, 3) := by decide +kernel
theorem dX10_map_88 : decode cX10_map 88 = .ok (.aload_n 3, 1) := by decide +kernel
theorem dX10_map_89 : decode cX10_map 89 = .ok (.iload_n 1, 1) := by decide +kernel
theorem dX10_map_90 : decode cX10_map 90 = .ok (.invokevirtual 145, 3) := by decide +kernel
theorem dX10_map_93 : decode cX10_map 93 = .ok (.ireturn, 1) := by decide +kernel
theorem dX10_map_94 : decode cX10_map 94 = .ok (.aload_n 3, 1) := by decide +kernel
theorem dX10_map_95 : decode cX10_map 95 = .ok (.getfield 131, 3) := by decide +kernel
theorem dX10_map_98 : decode cX10_map 98 = .ok (.bipush 31, 2) := by decide +kernel
theorem dX10_map_100 : decode cX10_map 100 = .ok (.iload_n 1, 1) := by decide +kernel
theorem dX10_map_101 : decode cX10_map 101 = .ok (.iadd, 1) := by decide +kernel
theorem dX10_map_102 : decode cX10_map 102 = .ok (.iaload, 1) := by decide +kernel
theorem dX10_map_103 : decode cX10_map 103 = .ok (.ireturn, 1) := by decide +kernel
theorem dX10_map_104 : decode cX10_map 104 = .ok (.aload_n 3, 1) := by decide +kernel
theorem dX10_map_105 : decode cX10_map 105 = .ok (.getfield 131, 3) := by decide +kernel
theorem dX10_map_108 : decode cX10_map 108 = .ok (.bipush 39, 2) := by decide +kernel
theorem dX10_map_110 : decode cX10_map 110 = .ok (.iaload, 1) := by decide +kernel
theorem dX10_map_111 : decode cX10_map 111 = .ok (.iload_n 1, 1) := by decide +kernel
theorem dX10_map_112 : decode cX10_map 112 = .ok (.ishr, 1) := by decide +kernel
theorem dX10_map_113 : decode cX10_map 113 = .ok (.iconst 1, 1) := by decide +kernel
theorem dX10_map_114 : decode cX10_map 114 = .ok (.iand, 1) := by decide +kernel
theorem dX10_map_115 : decode cX10_map 115 = .ok (.ireturn, 1) := by decide +kernel
theorem dX10_map_116 : decode cX10_map 116 = .ok (.aload_n 3, 1) := by decide +kernel
theorem dX10_map_117 : decode cX10_map 117 = .ok (.getfield 131, 3) := by decide +kernel
theorem dX10_map_120 : decode cX10_map 120 = .ok (.bipush 35, 2) := by decide +kernel
theorem dX10_map_122 : decode cX10_map 122 = .ok (.iload_n 1, 1) := by decide +kernel
theorem dX10_map_123 : decode cX10_map 123 = .ok (.iadd, 1) := by decide +kernel
theorem dX10_map_124 : decode cX10_map 124 = .ok (.iaload, 1) := by decide +kernel
theorem dX10_map_125 : decode cX10_map 125 = .ok (.ireturn, 1) := by decide +kernel
theorem dX10_map_126 : decode cX10_map 126 = .ok (.aload_n 0, 1) := by decide +kernel
theorem dX10_map_127 : decode cX10_map 127 = .ok (.getfield 28, 3) := by decide +kernel
theorem dX10_map_130 : decode cX10_map 130 = .ok (.getfield 148, 3) := by decide +kernel
theorem dX10_map_133 : decode cX10_map 133 = .ok (.iload_n 1, 1) := by decide +kernel
theorem dX10_map_134 : decode cX10_map 134 = .ok (.iaload, 1) := by decide +kernel
theorem dX10_map_135 : decode cX10_map 135 = .ok (.ireturn, 1) := by decide +kernel
theorem dX10_map_136 : decode cX10_map 136 = .ok (.aload_n 0, 1) := by decide +kernel
theorem dX10_map_137 : decode cX10_map 137 = .ok (.getfield 28, 3) := by decide +kernel
theorem dX10_map_140 : decode cX10_map 140 = .ok (.getfield 151, 3) := by decide +kernel
theorem dX10_map_143 : decode cX10_map 143 = .ok (.iload_n 1, 1) := by decide +kernel
theorem dX10_map_144 : decode cX10_map 144 = .ok (.iaload, 1) := by decide +kernel
theorem dX10_map_145 : decode cX10_map 145 = .ok (.ireturn, 1) := by decide +kernel
theorem dX10_map_146 : decode cX10_map 146 = .ok (.iconst (-1), 1) := by decide +kernel
theorem dX10_map_147 : decode cX10_map 147 = .ok (.ireturn, 1) := by decide +kernel
theorem dX10_isPlace_0 : decode cX10_isPlace 0 = .ok (.iload_n 1, 1) := by decide +kernel
theorem dX10_isPlace_1 : decode cX10_isPlace 1 = .ok (.ifCond .lt 18, 3) := by decide +kernel
theorem dX10_isPlace_4 : decode cX10_isPlace 4 = .ok (.iload_n 1, 1) := by decide +kernel
theorem dX10_isPlace_5 : decode cX10_isPlace 5 = .ok (.aload_n 0, 1) := by decide +kernel
theorem dX10_isPlace_6 : decode cX10_isPlace 6 = .ok (.getfield 28, 3) := by decide +kernel
theorem dX10_isPlace_9 : decode cX10_isPlace 9 = .ok (.getfield 219, 3) := by decide +kernel
theorem dX10_isPlace_12 : decode cX10_isPlace 12 = .ok (.if_icmp .ge 7, 3) := by decide +kernel
theorem dX10_isPlace_15 : decode cX10_isPlace 15 = .ok (.iconst 1, 1) := by decide +kernel
theorem dX10_isPlace_16 : decode cX10_isPlace 16 = .ok (.goto 4, 3) := by decide +kernel
theorem dX10_isPlace_19 : decode cX10_isPlace 19 = .ok (.iconst 0, 1) := by decide +kernel
theorem dX10_isPlace_20 : decode cX10_isPlace 20 = .ok (.ireturn, 1) := by decide +kernel
theorem dX10_place_0 : decode cX10_place 0 = .ok (.aload_n 0, 1) := by decide +kernel
theorem dX10_place_1 : decode cX10_place 1 = .ok (.iload_n 1, 1) := by decide +kernel
theorem dX10_place_2 : decode cX10_place 2 = .ok (.invokevirtual 154, 3) := by decide +kernel
theorem dX10_place_5 : decode cX10_place 5 = .ok (.ifCond .ne 5, 3) := by decide +kernel
theorem dX10_place_8 : decode cX10_place 8 = .ok (.iconst (-1), 1) := by decide +kernel
theorem dX10_place_9 : decode cX10_place 9 = .ok (.ireturn, 1) := by decide +kernel
theorem dX10_place_10 : decode cX10_place 10 = .ok (.iload_n 2, 1) := by decide +kernel
theorem dX10_place_11 : decode cX10_place 11 = .ok (.tableswitch 81 0 3 #[29, 45, 55, 71], 29) := by decide +kernel
theorem dX10_place_40 : decode cX10_place 40 = .ok (.aload_n 0, 1) := by decide +kernel
theorem dX10_place_41 : decode cX10_place 41 = .ok (.getfield 44, 3) := by decide +kernel
theorem dX10_place_44 : decode cX10_place 44 = .ok (.invokevirtual 127, 3) := by decide +kernel
theorem dX10_place_47 : decode cX10_place 47 = .ok (.getfield 131, 3) := by decide +kernel
theorem dX10_place_50 : decode cX10_place 50 = .ok (.bipush 15, 2) := by decide +kernel
theorem dX10_place_52 : decode cX10_place 52 = .ok (.iload_n 1, 1) := by decide +kernel
theorem dX10_place_53 : decode cX10_place 53 = .ok (.iadd, 1) := by decide +kernel
theorem dX10_place_54 : decode cX10_place 54 = .ok (.iaload, 1) := by decide +kernel
theorem dX10_place_55 : decode cX10_place 55 = .ok (.ireturn, 1) := by decide +kernel
theorem dX10_place_56 : decode cX10_place 56 = .ok (.aload_n 0, 1) := by decide +kernel
theorem dX10_place_57 : decode cX10_place 57 = .ok (.getfield 28, 3) := by decide +kernel
theorem dX10_place_60 : decode cX10_place 60 = .ok (.getfield 157, 3) := by decide +kernel
theorem dX10_place_63 : decode cX10_place 63 = .ok (.iload_n 1, 1) := by decide +kernel
theorem dX10_place_64 : decode cX10_place 64 = .ok (.iaload, 1) := by decide +kernel
theorem dX10_place_65 : decode cX10_place 65 = .ok (.ireturn, 1) := by decide +kernel
theorem dX10_place_66 : decode cX10_place 66 = .ok (.aload_n 0, 1) := by decide +kernel
theorem dX10_place_67 : decode cX10_place 67 = .ok (.getfield 44, 3) := by decide +kernel
theorem dX10_place_70 : decode cX10_place 70 = .ok (.invokevirtual 127, 3) := by decide +kernel
theorem dX10_place_73 : decode cX10_place 73 = .ok (.getfield 131, 3) := by decide +kernel
theorem dX10_place_76 : decode cX10_place 76 = .ok (.bipush 23, 2) := by decide +kernel
theorem dX10_place_78 : decode cX10_place 78 = .ok (.iload_n 1, 1) := by decide +kernel
theorem dX10_place_79 : decode cX10_place 79 = .ok (.iadd, 1) := by decide +kernel
theorem dX10_place_80 : decode cX10_place 80 = .ok (.iaload, 1) := by decide +kernel
theorem dX10_place_81 : decode cX10_place 81 = .ok (.ireturn, 1) := by decide +kernel
theorem dX10_place_82 : decode cX10_place 82 = .ok (.aload_n 0, 1) := by decide +kernel
theorem dX10_place_83 : decode cX10_place 83 = .ok (.getfield 28, 3) := by decide +kernel
theorem dX10_place_86 : decode cX10_place 86 = .ok (.getfield 160, 3) := by decide +kernel
theorem dX10_place_89 : decode cX10_place 89 = .ok (.iload_n 1, 1) := by decide +kernel
theorem dX10_place_90 : decode cX10_place 90 = .ok (.iaload, 1) := by decide +kernel
theorem dX10_place_91 : decode cX10_place 91 = .ok (.ireturn, 1) := by decide +kernel
theorem dX10_place_92 : decode cX10_place 92 = .ok (.iconst (-1), 1) := by decide +kernel
theorem dX10_place_93 : decode cX10_place 93 = .ok (.ireturn, 1) := by decide +kernel
theorem dX10_taste_0 : decode cX10_taste 0 = .ok (.aload_n 0, 1) := by decide +kernel
theorem dX10_taste_1 : decode cX10_taste 1 = .ok (.iload_n 1, 1) := by decide +kernel
theorem dX10_taste_2 : decode cX10_taste 2 = .ok (.invokevirtual 154, 3) := by decide +kernel
theorem dX10_taste_5 : decode cX10_taste 5 = .ok (.ifCond .eq 11, 3) := by decide +kernel
theorem dX10_taste_8 : decode cX10_taste 8 = .ok (.aload_n 0, 1) := by decide +kernel
theorem dX10_taste_9 : decode cX10_taste 9 = .ok (.iload_n 2, 1) := by decide +kernel
theorem dX10_taste_10 : decode cX10_taste 10 = .ok (.invokevirtual 135, 3) := by decide +kernel
theorem dX10_taste_13 : decode cX10_taste 13 = .ok (.ifCond .ne 6, 3) := by decide +kernel
theorem dX10_taste_16 : decode cX10_taste 16 = .ok (.ldc 163, 2) := by decide +kernel
theorem dX10_taste_18 : decode cX10_taste 18 = .ok (.ireturn, 1) := by decide +kernel
theorem dX10_taste_19 : decode cX10_taste 19 = .ok (.aload_n 0, 1) := by decide +kernel
theorem dX10_taste_20 : decode cX10_taste 20 = .ok (.getfield 37, 3) := by decide +kernel
theorem dX10_taste_23 : decode cX10_taste 23 = .ok (.aload_n 0, 1) := by decide +kernel
theorem dX10_taste_24 : decode cX10_taste 24 = .ok (.getfield 44, 3) := by decide +kernel
theorem dX10_taste_27 : decode cX10_taste 27 = .ok (.invokevirtual 127, 3) := by decide +kernel
theorem dX10_taste_30 : decode cX10_taste 30 = .ok (.iload_n 1, 1) := by decide +kernel
theorem dX10_taste_31 : decode cX10_taste 31 = .ok (.iload_n 2, 1) := by decide +kernel
theorem dX10_taste_32 : decode cX10_taste 32 = .ok (.invokevirtual 164, 3) := by decide +kernel
theorem dX10_taste_35 : decode cX10_taste 35 = .ok (.ireturn, 1) := by decide +kernel
theorem dX10_likes_0 : decode cX10_likes 0 = .ok (.aload_n 0, 1) := by decide +kernel
theorem dX10_likes_1 : decode cX10_likes 1 = .ok (.iload_n 1, 1) := by decide +kernel
theorem dX10_likes_2 : decode cX10_likes 2 = .ok (.invokevirtual 135, 3) := by decide +kernel
theorem dX10_likes_5 : decode cX10_likes 5 = .ok (.ifCond .eq 27, 3) := by decide +kernel
theorem dX10_likes_8 : decode cX10_likes 8 = .ok (.aload_n 0, 1) := by decide +kernel
theorem dX10_likes_9 : decode cX10_likes 9 = .ok (.iload_n 2, 1) := by decide +kernel
theorem dX10_likes_10 : decode cX10_likes 10 = .ok (.invokevirtual 123, 3) := by decide +kernel
theorem dX10_likes_13 : decode cX10_likes 13 = .ok (.ifCond .eq 19, 3) := by decide +kernel
theorem dX10_likes_16 : decode cX10_likes 16 = .ok (.aload_n 0, 1) := by decide +kernel
theorem dX10_likes_17 : decode cX10_likes 17 = .ok (.getfield 28, 3) := by decide +kernel
theorem dX10_likes_20 : decode cX10_likes 20 = .ok (.getfield 168, 3) := by decide +kernel
theorem dX10_likes_23 : decode cX10_likes 23 = .ok (.iload_n 1, 1) := by decide +kernel
theorem dX10_likes_24 : decode cX10_likes 24 = .ok (.iconst 3, 1) := by decide +kernel
theorem dX10_likes_25 : decode cX10_likes 25 = .ok (.imul, 1) := by decide +kernel
theorem dX10_likes_26 : decode cX10_likes 26 = .ok (.iload_n 2, 1) := by decide +kernel
theorem dX10_likes_27 : decode cX10_likes 27 = .ok (.iadd, 1) := by decide +kernel
theorem dX10_likes_28 : decode cX10_likes 28 = .ok (.iaload, 1) := by decide +kernel
theorem dX10_likes_29 : decode cX10_likes 29 = .ok (.goto 4, 3) := by decide +kernel
theorem dX10_likes_32 : decode cX10_likes 32 = .ok (.iconst (-1), 1) := by decide +kernel
theorem dX10_likes_33 : decode cX10_likes 33 = .ok (.ireturn, 1) := by decide +kernel
theorem dX10_trough_0 : decode cX10_trough 0 = .ok (.aload_n 0, 1) := by decide +kernel
theorem dX10_trough_1 : decode cX10_trough 1 = .ok (.iload_n 1, 1) := by decide +kernel
theorem dX10_trough_2 : decode cX10_trough 2 = .ok (.invokevirtual 135, 3) := by decide +kernel
theorem dX10_trough_5 : decode cX10_trough 5 = .ok (.ifCond .eq 32, 3) := by decide +kernel
theorem dX10_trough_8 : decode cX10_trough 8 = .ok (.aload_n 0, 1) := by decide +kernel
theorem dX10_trough_9 : decode cX10_trough 9 = .ok (.iload_n 2, 1) := by decide +kernel
theorem dX10_trough_10 : decode cX10_trough 10 = .ok (.invokevirtual 123, 3) := by decide +kernel
theorem dX10_trough_13 : decode cX10_trough 13 = .ok (.ifCond .eq 24, 3) := by decide +kernel
theorem dX10_trough_16 : decode cX10_trough 16 = .ok (.aload_n 0, 1) := by decide +kernel
theorem dX10_trough_17 : decode cX10_trough 17 = .ok (.getfield 44, 3) := by decide +kernel
theorem dX10_trough_20 : decode cX10_trough 20 = .ok (.invokevirtual 127, 3) := by decide +kernel
theorem dX10_trough_23 : decode cX10_trough 23 = .ok (.getfield 131, 3) := by decide +kernel
theorem dX10_trough_26 : decode cX10_trough 26 = .ok (.iconst 3, 1) := by decide +kernel
theorem dX10_trough_27 : decode cX10_trough 27 = .ok (.iload_n 1, 1) := by decide +kernel
theorem dX10_trough_28 : decode cX10_trough 28 = .ok (.iconst 3, 1) := by decide +kernel
theorem dX10_trough_29 : decode cX10_trough 29 = .ok (.imul, 1) := by decide +kernel
theorem dX10_trough_30 : decode cX10_trough 30 = .ok (.iadd, 1) := by decide +kernel
theorem dX10_trough_31 : decode cX10_trough 31 = .ok (.iload_n 2, 1) := by decide +kernel
theorem dX10_trough_32 : decode cX10_trough 32 = .ok (.iadd, 1) := by decide +kernel
theorem dX10_trough_33 : decode cX10_trough 33 = .ok (.iaload, 1) := by decide +kernel
theorem dX10_trough_34 : decode cX10_trough 34 = .ok (.goto 4, 3) := by decide +kernel
theorem dX10_trough_37 : decode cX10_trough 37 = .ok (.iconst (-1), 1) := by decide +kernel
theorem dX10_trough_38 : decode cX10_trough 38 = .ok (.ireturn, 1) := by decide +kernel
theorem dX10_needs_0 : decode cX10_needs 0 = .ok (.aload_n 0, 1) := by decide +kernel
theorem dX10_needs_1 : decode cX10_needs 1 = .ok (.iload_n 1, 1) := by decide +kernel
theorem dX10_needs_2 : decode cX10_needs 2 = .ok (.invokevirtual 135, 3) := by decide +kernel
theorem dX10_needs_5 : decode cX10_needs 5 = .ok (.ifCond .eq 11, 3) := by decide +kernel
theorem dX10_needs_8 : decode cX10_needs 8 = .ok (.aload_n 0, 1) := by decide +kernel
theorem dX10_needs_9 : decode cX10_needs 9 = .ok (.iload_n 2, 1) := by decide +kernel
theorem dX10_needs_10 : decode cX10_needs 10 = .ok (.invokevirtual 123, 3) := by decide +kernel
theorem dX10_needs_13 : decode cX10_needs 13 = .ok (.ifCond .ne 5, 3) := by decide +kernel
theorem dX10_needs_16 : decode cX10_needs 16 = .ok (.iconst (-1), 1) := by decide +kernel
theorem dX10_needs_17 : decode cX10_needs 17 = .ok (.ireturn, 1) := by decide +kernel
theorem dX10_needs_18 : decode cX10_needs 18 = .ok (.aload_n 0, 1) := by decide +kernel
theorem dX10_needs_19 : decode cX10_needs 19 = .ok (.getfield 37, 3) := by decide +kernel
theorem dX10_needs_22 : decode cX10_needs 22 = .ok (.aload_n 0, 1) := by decide +kernel
theorem dX10_needs_23 : decode cX10_needs 23 = .ok (.getfield 44, 3) := by decide +kernel
theorem dX10_needs_26 : decode cX10_needs 26 = .ok (.invokevirtual 127, 3) := by decide +kernel
theorem dX10_needs_29 : decode cX10_needs 29 = .ok (.iload_n 1, 1) := by decide +kernel
theorem dX10_needs_30 : decode cX10_needs 30 = .ok (.invokevirtual 141, 3) := by decide +kernel
theorem dX10_needs_33 : decode cX10_needs 33 = .ok (.aload_n 0, 1) := by decide +kernel
theorem dX10_needs_34 : decode cX10_needs 34 = .ok (.getfield 37, 3) := by decide +kernel
theorem dX10_needs_37 : decode cX10_needs 37 = .ok (.aload_n 0, 1) := by decide +kernel
theorem dX10_needs_38 : decode cX10_needs 38 = .ok (.getfield 44, 3) := by decide +kernel
theorem dX10_needs_41 : decode cX10_needs 41 = .ok (.invokevirtual 127, 3) := by decide +kernel
theorem dX10_needs_44 : decode cX10_needs 44 = .ok (.iload_n 1, 1) := by decide +kernel
theorem dX10_needs_45 : decode cX10_needs 45 = .ok (.invokevirtual 145, 3) := by decide +kernel
theorem dX10_needs_48 : decode cX10_needs 48 = .ok (.isub, 1) := by decide +kernel
theorem dX10_needs_49 : decode cX10_needs 49 = .ok (.istore_n 3, 1) := by decide +kernel
theorem dX10_needs_50 : decode cX10_needs 50 = .ok (.iload_n 3, 1) := by decide +kernel
theorem dX10_needs_51 : decode cX10_needs 51 = .ok (.ifCond .gt 5, 3) := by decide +kernel
theorem dX10_needs_54 : decode cX10_needs 54 = .ok (.iconst 0, 1) := by decide +kernel
theorem dX10_needs_55 : decode cX10_needs 55 = .ok (.ireturn, 1) := by decide +kernel
theorem dX10_needs_56 : decode cX10_needs 56 = .ok (.aload_n 0, 1) := by decide +kernel
theorem dX10_needs_57 : decode cX10_needs 57 = .ok (.getfield 28, 3) := by decide +kernel
theorem dX10_needs_60 : decode cX10_needs 60 = .ok (.getfield 168, 3) := by decide +kernel
theorem dX10_needs_63 : decode cX10_needs 63 = .ok (.iload_n 1, 1) := by decide +kernel
theorem dX10_needs_64 : decode cX10_needs 64 = .ok (.iconst 3, 1) := by decide +kernel
theorem dX10_needs_65 : decode cX10_needs 65 = .ok (.imul, 1) := by decide +kernel
theorem dX10_needs_66 : decode cX10_needs 66 = .ok (.iload_n 2, 1) := by decide +kernel
theorem dX10_needs_67 : decode cX10_needs 67 = .ok (.iadd, 1) := by decide +kernel
theorem dX10_needs_68 : decode cX10_needs 68 = .ok (.iaload, 1) := by decide +kernel
theorem dX10_needs_69 : decode cX10_needs 69 = .ok (.istore 4, 2) := by decide +kernel
theorem dX10_needs_71 : decode cX10_needs 71 = .ok (.iload 4, 2) := by decide +kernel
theorem dX10_needs_73 : decode cX10_needs 73 = .ok (.ifCond .gt 7, 3) := by decide +kernel
theorem dX10_needs_76 : decode cX10_needs 76 = .ok (.iconst (-1), 1) := by decide +kernel
theorem dX10_needs_77 : decode cX10_needs 77 = .ok (.goto 12, 3) := by decide +kernel
theorem dX10_needs_80 : decode cX10_needs 80 = .ok (.iload_n 3, 1) := by decide +kernel
theorem dX10_needs_81 : decode cX10_needs 81 = .ok (.iload 4, 2) := by decide +kernel
theorem dX10_needs_83 : decode cX10_needs 83 = .ok (.iadd, 1) := by decide +kernel
theorem dX10_needs_84 : decode cX10_needs 84 = .ok (.iconst 1, 1) := by decide +kernel
theorem dX10_needs_85 : decode cX10_needs 85 = .ok (.isub, 1) := by decide +kernel
theorem dX10_needs_86 : decode cX10_needs 86 = .ok (.iload 4, 2) := by decide +kernel
theorem dX10_needs_88 : decode cX10_needs 88 = .ok (.idiv, 1) := by decide +kernel
theorem dX10_needs_89 : decode cX10_needs 89 = .ok (.ireturn, 1) := by decide +kernel
theorem dX10_over_0 : decode cX10_over 0 = .ok (.aload_n 0, 1) := by decide +kernel
theorem dX10_over_1 : decode cX10_over 1 = .ok (.iload_n 1, 1) := by decide +kernel
theorem dX10_over_2 : decode cX10_over 2 = .ok (.invokevirtual 135, 3) := by decide +kernel
theorem dX10_over_5 : decode cX10_over 5 = .ok (.ifCond .ne 5, 3) := by decide +kernel
theorem dX10_over_8 : decode cX10_over 8 = .ok (.iconst (-1), 1) := by decide +kernel
theorem dX10_over_9 : decode cX10_over 9 = .ok (.ireturn, 1) := by decide +kernel
theorem dX10_over_10 : decode cX10_over 10 = .ok (.iconst 0, 1) := by decide +kernel
theorem dX10_over_11 : decode cX10_over 11 = .ok (.aload_n 0, 1) := by decide +kernel
theorem dX10_over_12 : decode cX10_over 12 = .ok (.getfield 37, 3) := by decide +kernel
theorem dX10_over_15 : decode cX10_over 15 = .ok (.aload_n 0, 1) := by decide +kernel
theorem dX10_over_16 : decode cX10_over 16 = .ok (.getfield 44, 3) := by decide +kernel
theorem dX10_over_19 : decode cX10_over 19 = .ok (.invokevirtual 127, 3) := by decide +kernel
theorem dX10_over_22 : decode cX10_over 22 = .ok (.iload_n 1, 1) := by decide +kernel
theorem dX10_over_23 : decode cX10_over 23 = .ok (.invokevirtual 145, 3) := by decide +kernel
theorem dX10_over_26 : decode cX10_over 26 = .ok (.aload_n 0, 1) := by decide +kernel
theorem dX10_over_27 : decode cX10_over 27 = .ok (.getfield 37, 3) := by decide +kernel
theorem dX10_over_30 : decode cX10_over 30 = .ok (.aload_n 0, 1) := by decide +kernel
theorem dX10_over_31 : decode cX10_over 31 = .ok (.getfield 44, 3) := by decide +kernel
theorem dX10_over_34 : decode cX10_over 34 = .ok (.invokevirtual 127, 3) := by decide +kernel
theorem dX10_over_37 : decode cX10_over 37 = .ok (.iload_n 1, 1) := by decide +kernel
theorem dX10_over_38 : decode cX10_over 38 = .ok (.invokevirtual 141, 3) := by decide +kernel
theorem dX10_over_41 : decode cX10_over 41 = .ok (.isub, 1) := by decide +kernel
theorem dX10_over_42 : decode cX10_over 42 = .ok (.invokestatic 193, 3) := by decide +kernel
theorem dX10_over_45 : decode cX10_over 45 = .ok (.ireturn, 1) := by decide +kernel
theorem dX10_gone_0 : decode cX10_gone 0 = .ok (.aload_n 0, 1) := by decide +kernel
theorem dX10_gone_1 : decode cX10_gone 1 = .ok (.getfield 37, 3) := by decide +kernel
theorem dX10_gone_4 : decode cX10_gone 4 = .ok (.aload_n 0, 1) := by decide +kernel
theorem dX10_gone_5 : decode cX10_gone 5 = .ok (.getfield 44, 3) := by decide +kernel
theorem dX10_gone_8 : decode cX10_gone 8 = .ok (.invokevirtual 127, 3) := by decide +kernel
theorem dX10_gone_11 : decode cX10_gone 11 = .ok (.invokevirtual 213, 3) := by decide +kernel
theorem dX10_gone_14 : decode cX10_gone 14 = .ok (.ireturn, 1) := by decide +kernel
theorem dX10_least_0 : decode cX10_least 0 = .ok (.aload_n 0, 1) := by decide +kernel
theorem dX10_least_1 : decode cX10_least 1 = .ok (.getfield 28, 3) := by decide +kernel
theorem dX10_least_4 : decode cX10_least 4 = .ok (.getfield 114, 3) := by decide +kernel
theorem dX10_least_7 : decode cX10_least 7 = .ok (.ifCond .ne 5, 3) := by decide +kernel
theorem dX10_least_10 : decode cX10_least 10 = .ok (.iconst 0, 1) := by decide +kernel
theorem dX10_least_11 : decode cX10_least 11 = .ok (.ireturn, 1) := by decide +kernel
theorem dX10_least_12 : decode cX10_least 12 = .ok (.iconst 1, 1) := by decide +kernel
theorem dX10_least_13 : decode cX10_least 13 = .ok (.istore_n 1, 1) := by decide +kernel
theorem dX10_least_14 : decode cX10_least 14 = .ok (.iload_n 1, 1) := by decide +kernel
theorem dX10_least_15 : decode cX10_least 15 = .ok (.iconst 4, 1) := by decide +kernel
theorem dX10_least_16 : decode cX10_least 16 = .ok (.if_icmp .gt 22, 3) := by decide +kernel
theorem dX10_least_19 : decode cX10_least 19 = .ok (.aload_n 0, 1) := by decide +kernel
theorem dX10_least_20 : decode cX10_least 20 = .ok (.getfield 60, 3) := by decide +kernel
theorem dX10_least_23 : decode cX10_least 23 = .ok (.iload_n 1, 1) := by decide +kernel
theorem dX10_least_24 : decode cX10_least 24 = .ok (.invokevirtual 234, 3) := by decide +kernel
theorem dX10_least_27 : decode cX10_least 27 = .ok (.ifCond .le 5, 3) := by decide +kernel
theorem dX10_least_30 : decode cX10_least 30 = .ok (.iload_n 1, 1) := by decide +kernel
theorem dX10_least_31 : decode cX10_least 31 = .ok (.ireturn, 1) := by decide +kernel
theorem dX10_least_32 : decode cX10_least 32 = .ok (.iinc 1 1, 3) := by decide +kernel
theorem dX10_least_35 : decode cX10_least 35 = .ok (.goto (-21), 3) := by decide +kernel
theorem dX10_least_38 : decode cX10_least 38 = .ok (.iconst (-1), 1) := by decide +kernel
theorem dX10_least_39 : decode cX10_least 39 = .ok (.ireturn, 1) := by decide +kernel
theorem dX10_bites_0 : decode cX10_bites 0 = .ok (.iconst 0, 1) := by decide +kernel
theorem dX10_bites_1 : decode cX10_bites 1 = .ok (.istore_n 1, 1) := by decide +kernel
theorem dX10_bites_2 : decode cX10_bites 2 = .ok (.iconst 0, 1) := by decide +kernel
theorem dX10_bites_3 : decode cX10_bites 3 = .ok (.istore_n 2, 1) := by decide +kernel
theorem dX10_bites_4 : decode cX10_bites 4 = .ok (.iload_n 2, 1) := by decide +kernel
theorem dX10_bites_5 : decode cX10_bites 5 = .ok (.aload_n 0, 1) := by decide +kernel
theorem dX10_bites_6 : decode cX10_bites 6 = .ok (.getfield 28, 3) := by decide +kernel
theorem dX10_bites_9 : decode cX10_bites 9 = .ok (.getfield 114, 3) := by decide +kernel
theorem dX10_bites_12 : decode cX10_bites 12 = .ok (.if_icmp .ge 27, 3) := by decide +kernel
theorem dX10_bites_15 : decode cX10_bites 15 = .ok (.iload_n 1, 1) := by decide +kernel
theorem dX10_bites_16 : decode cX10_bites 16 = .ok (.aload_n 0, 1) := by decide +kernel
theorem dX10_bites_17 : decode cX10_bites 17 = .ok (.getfield 37, 3) := by decide +kernel
theorem dX10_bites_20 : decode cX10_bites 20 = .ok (.aload_n 0, 1) := by decide +kernel
theorem dX10_bites_21 : decode cX10_bites 21 = .ok (.getfield 44, 3) := by decide +kernel
theorem dX10_bites_24 : decode cX10_bites 24 = .ok (.invokevirtual 127, 3) := by decide +kernel
theorem dX10_bites_27 : decode cX10_bites 27 = .ok (.iload_n 2, 1) := by decide +kernel
theorem dX10_bites_28 : decode cX10_bites 28 = .ok (.invokevirtual 237, 3) := by decide +kernel
theorem dX10_bites_31 : decode cX10_bites 31 = .ok (.iadd, 1) := by decide +kernel
theorem dX10_bites_32 : decode cX10_bites 32 = .ok (.istore_n 1, 1) := by decide +kernel
theorem dX10_bites_33 : decode cX10_bites 33 = .ok (.iinc 2 1, 3) := by decide +kernel
theorem dX10_bites_36 : decode cX10_bites 36 = .ok (.goto (-32), 3) := by decide +kernel
theorem dX10_bites_39 : decode cX10_bites 39 = .ok (.iload_n 1, 1) := by decide +kernel
theorem dX10_bites_40 : decode cX10_bites 40 = .ok (.iconst 2, 1) := by decide +kernel
theorem dX10_bites_41 : decode cX10_bites 41 = .ok (.idiv, 1) := by decide +kernel
theorem dX10_bites_42 : decode cX10_bites 42 = .ok (.ireturn, 1) := by decide +kernel
theorem dX10_lies_0 : decode cX10_lies 0 = .ok (.iload_n 1, 1) := by decide +kernel
theorem dX10_lies_1 : decode cX10_lies 1 = .ok (.ifCond .lt 19, 3) := by decide +kernel
theorem dX10_lies_4 : decode cX10_lies 4 = .ok (.iload_n 1, 1) := by decide +kernel
theorem dX10_lies_5 : decode cX10_lies 5 = .ok (.aload_n 0, 1) := by decide +kernel
theorem dX10_lies_6 : decode cX10_lies 6 = .ok (.getfield 60, 3) := by decide +kernel
theorem dX10_lies_9 : decode cX10_lies 9 = .ok (.getfield 108, 3) := by decide +kernel
theorem dX10_lies_12 : decode cX10_lies 12 = .ok (.if_icmp .ge 8, 3) := by decide +kernel
theorem dX10_lies_15 : decode cX10_lies 15 = .ok (.iload_n 1, 1) := by decide +kernel
theorem dX10_lies_16 : decode cX10_lies 16 = .ok (.iconst 4, 1) := by decide +kernel
theorem dX10_lies_17 : decode cX10_lies 17 = .ok (.if_icmp .lt 7, 3) := by decide +kernel
theorem dX10_lies_20 : decode cX10_lies 20 = .ok (.iconst (-1), 1) := by decide +kernel
theorem dX10_lies_21 : decode cX10_lies 21 = .ok (.goto 12, 3) := by decide +kernel
theorem dX10_lies_24 : decode cX10_lies 24 = .ok (.aload_n 0, 1) := by decide +kernel
theorem dX10_lies_25 : decode cX10_lies 25 = .ok (.getfield 60, 3) := by decide +kernel
theorem dX10_lies_28 : decode cX10_lies 28 = .ok (.getfield 243, 3) := by decide +kernel
theorem dX10_lies_31 : decode cX10_lies 31 = .ok (.iload_n 1, 1) := by decide +kernel
theorem dX10_lies_32 : decode cX10_lies 32 = .ok (.iaload, 1) := by decide +kernel
theorem dX10_lies_33 : decode cX10_lies 33 = .ok (.ireturn, 1) := by decide +kernel
theorem dX10_isAmount_0 : decode cX10_isAmount 0 = .ok (.iload_n 0, 1) := by decide +kernel
theorem dX10_isAmount_1 : decode cX10_isAmount 1 = .ok (.ifCond .lt 13, 3) := by decide +kernel
theorem dX10_isAmount_4 : decode cX10_isAmount 4 = .ok (.iload_n 0, 1) := by decide +kernel
theorem dX10_isAmount_5 : decode cX10_isAmount 5 = .ok (.bipush 9, 2) := by decide +kernel
theorem dX10_isAmount_7 : decode cX10_isAmount 7 = .ok (.if_icmp .gt 7, 3) := by decide +kernel
theorem dX10_isAmount_10 : decode cX10_isAmount 10 = .ok (.iconst 1, 1) := by decide +kernel
theorem dX10_isAmount_11 : decode cX10_isAmount 11 = .ok (.goto 4, 3) := by decide +kernel
theorem dX10_isAmount_14 : decode cX10_isAmount 14 = .ok (.iconst 0, 1) := by decide +kernel
theorem dX10_isAmount_15 : decode cX10_isAmount 15 = .ok (.ireturn, 1) := by decide +kernel
theorem dX10_isTrialHunger_0 : decode cX10_isTrialHunger 0 = .ok (.iload_n 0, 1) := by decide +kernel
theorem dX10_isTrialHunger_1 : decode cX10_isTrialHunger 1 = .ok (.iconst 1, 1) := by decide +kernel
theorem dX10_isTrialHunger_2 : decode cX10_isTrialHunger 2 = .ok (.if_icmp .lt 13, 3) := by decide +kernel
theorem dX10_isTrialHunger_5 : decode cX10_isTrialHunger 5 = .ok (.iload_n 0, 1) := by decide +kernel
theorem dX10_isTrialHunger_6 : decode cX10_isTrialHunger 6 = .ok (.bipush 99, 2) := by decide +kernel
theorem dX10_isTrialHunger_8 : decode cX10_isTrialHunger 8 = .ok (.if_icmp .gt 7, 3) := by decide +kernel
theorem dX10_isTrialHunger_11 : decode cX10_isTrialHunger 11 = .ok (.iconst 1, 1) := by decide +kernel
theorem dX10_isTrialHunger_12 : decode cX10_isTrialHunger 12 = .ok (.goto 4, 3) := by decide +kernel
theorem dX10_isTrialHunger_15 : decode cX10_isTrialHunger 15 = .ok (.iconst 0, 1) := by decide +kernel
theorem dX10_isTrialHunger_16 : decode cX10_isTrialHunger 16 = .ok (.ireturn, 1) := by decide +kernel
theorem dX10_trial_0 : decode cX10_trial 0 = .ok (.iload_n 1, 1) := by decide +kernel
theorem dX10_trial_1 : decode cX10_trial 1 = .ok (.invokestatic 246, 3) := by decide +kernel
theorem dX10_trial_4 : decode cX10_trial 4 = .ok (.ifCond .eq 25, 3) := by decide +kernel
theorem dX10_trial_7 : decode cX10_trial 7 = .ok (.iload_n 2, 1) := by decide +kernel
theorem dX10_trial_8 : decode cX10_trial 8 = .ok (.invokestatic 246, 3) := by decide +kernel
theorem dX10_trial_11 : decode cX10_trial 11 = .ok (.ifCond .eq 18, 3) := by decide +kernel
theorem dX10_trial_14 : decode cX10_trial 14 = .ok (.iload_n 3, 1) := by decide +kernel
theorem dX10_trial_15 : decode cX10_trial 15 = .ok (.invokestatic 246, 3) := by decide +kernel
theorem dX10_trial_18 : decode cX10_trial 18 = .ok (.ifCond .eq 11, 3) := by decide +kernel
theorem dX10_trial_21 : decode cX10_trial 21 = .ok (.iload 4, 2) := by decide +kernel
theorem dX10_trial_23 : decode cX10_trial 23 = .ok (.invokestatic 249, 3) := by decide +kernel
theorem dX10_trial_26 : decode cX10_trial 26 = .ok (.ifCond .ne 5, 3) := by decide +kernel
theorem dX10_trial_29 : decode cX10_trial 29 = .ok (.iconst (-1), 1) := by decide +kernel
theorem dX10_trial_30 : decode cX10_trial 30 = .ok (.ireturn, 1) := by decide +kernel
theorem dX10_trial_31 : decode cX10_trial 31 = .ok (.aload_n 0, 1) := by decide +kernel
theorem dX10_trial_32 : decode cX10_trial 32 = .ok (.getfield 67, 3) := by decide +kernel
theorem dX10_trial_35 : decode cX10_trial 35 = .ok (.iload_n 1, 1) := by decide +kernel
theorem dX10_trial_36 : decode cX10_trial 36 = .ok (.iload_n 2, 1) := by decide +kernel
theorem dX10_trial_37 : decode cX10_trial 37 = .ok (.iload_n 3, 1) := by decide +kernel
theorem dX10_trial_38 : decode cX10_trial 38 = .ok (.iload 4, 2) := by decide +kernel
theorem dX10_trial_40 : decode cX10_trial 40 = .ok (.iload 5, 2) := by decide +kernel
theorem dX10_trial_42 : decode cX10_trial 42 = .ok (.invokevirtual 252, 3) := by decide +kernel
theorem dX10_trial_45 : decode cX10_trial 45 = .ok (.ireturn, 1) := by decide +kernel
theorem dX10_untell_0 : decode cX10_untell 0 = .ok (.aload_n 0, 1) := by decide +kernel
theorem dX10_untell_1 : decode cX10_untell 1 = .ok (.getfield 67, 3) := by decide +kernel
theorem dX10_untell_4 : decode cX10_untell 4 = .ok (.iload_n 1, 1) := by decide +kernel
theorem dX10_untell_5 : decode cX10_untell 5 = .ok (.invokevirtual 256, 3) := by decide +kernel
theorem dX10_untell_8 : decode cX10_untell 8 = .ok (.ireturn, 1) := by decide +kernel
theorem dX10_fit_0 : decode cX10_fit 0 = .ok (.aload_n 0, 1) := by decide +kernel
theorem dX10_fit_1 : decode cX10_fit 1 = .ok (.getfield 67, 3) := by decide +kernel
theorem dX10_fit_4 : decode cX10_fit 4 = .ok (.aload_n 0, 1) := by decide +kernel
theorem dX10_fit_5 : decode cX10_fit 5 = .ok (.getfield 28, 3) := by decide +kernel
theorem dX10_fit_8 : decode cX10_fit 8 = .ok (.getfield 263, 3) := by decide +kernel
theorem dX10_fit_11 : decode cX10_fit 11 = .ok (.iload_n 1, 1) := by decide +kernel
theorem dX10_fit_12 : decode cX10_fit 12 = .ok (.invokevirtual 266, 3) := by decide +kernel
theorem dX10_fit_15 : decode cX10_fit 15 = .ok (.ireturn, 1) := by decide +kernel
theorem dX10_sure_0 : decode cX10_sure 0 = .ok (.aload_n 0, 1) := by decide +kernel
theorem dX10_sure_1 : decode cX10_sure 1 = .ok (.iload_n 1, 1) := by decide +kernel
theorem dX10_sure_2 : decode cX10_sure 2 = .ok (.invokevirtual 123, 3) := by decide +kernel
theorem dX10_sure_5 : decode cX10_sure 5 = .ok (.ifCond .eq 22, 3) := by decide +kernel
theorem dX10_sure_8 : decode cX10_sure 8 = .ok (.aload_n 0, 1) := by decide +kernel
theorem dX10_sure_9 : decode cX10_sure 9 = .ok (.getfield 67, 3) := by decide +kernel
theorem dX10_sure_12 : decode cX10_sure 12 = .ok (.aload_n 0, 1) := by decide +kernel
theorem dX10_sure_13 : decode cX10_sure 13 = .ok (.getfield 28, 3) := by decide +kernel
theorem dX10_sure_16 : decode cX10_sure 16 = .ok (.getfield 263, 3) := by decide +kernel
theorem dX10_sure_19 : decode cX10_sure 19 = .ok (.iload_n 1, 1) := by decide +kernel
theorem dX10_sure_20 : decode cX10_sure 20 = .ok (.iload_n 2, 1) := by decide +kernel
theorem dX10_sure_21 : decode cX10_sure 21 = .ok (.invokevirtual 269, 3) := by decide +kernel
theorem dX10_sure_24 : decode cX10_sure 24 = .ok (.goto 4, 3) := by decide +kernel
theorem dX10_sure_27 : decode cX10_sure 27 = .ok (.iconst (-1), 1) := by decide +kernel
theorem dX10_sure_28 : decode cX10_sure 28 = .ok (.ireturn, 1) := by decide +kernel
theorem dX10_ask_0 : decode cX10_ask 0 = .ok (.iload_n 1, 1) := by decide +kernel
theorem dX10_ask_1 : decode cX10_ask 1 = .ok (.invokestatic 249, 3) := by decide +kernel
theorem dX10_ask_4 : decode cX10_ask 4 = .ok (.ifCond .eq 22, 3) := by decide +kernel
theorem dX10_ask_7 : decode cX10_ask 7 = .ok (.iload_n 2, 1) := by decide +kernel
theorem dX10_ask_8 : decode cX10_ask 8 = .ok (.ifCond .lt 18, 3) := by decide +kernel
theorem dX10_ask_11 : decode cX10_ask 11 = .ok (.iload_n 2, 1) := by decide +kernel
theorem dX10_ask_12 : decode cX10_ask 12 = .ok (.iconst 1, 1) := by decide +kernel
theorem dX10_ask_13 : decode cX10_ask 13 = .ok (.if_icmp .gt 13, 3) := by decide +kernel
theorem dX10_ask_16 : decode cX10_ask 16 = .ok (.aload_n 0, 1) := by decide +kernel
theorem dX10_ask_17 : decode cX10_ask 17 = .ok (.getfield 28, 3) := by decide +kernel
theorem dX10_ask_20 : decode cX10_ask 20 = .ok (.getfield 263, 3) := by decide +kernel
theorem dX10_ask_23 : decode cX10_ask 23 = .ok (.ifCond .ne 5, 3) := by decide +kernel
theorem dX10_ask_26 : decode cX10_ask 26 = .ok (.iconst (-1), 1) := by decide +kernel
theorem dX10_ask_27 : decode cX10_ask 27 = .ok (.ireturn, 1) := by decide +kernel
theorem dX10_ask_28 : decode cX10_ask 28 = .ok (.aload_n 0, 1) := by decide +kernel
theorem dX10_ask_29 : decode cX10_ask 29 = .ok (.getfield 67, 3) := by decide +kernel
theorem dX10_ask_32 : decode cX10_ask 32 = .ok (.aload_n 0, 1) := by decide +kernel
theorem dX10_ask_33 : decode cX10_ask 33 = .ok (.getfield 28, 3) := by decide +kernel
theorem dX10_ask_36 : decode cX10_ask 36 = .ok (.getfield 263, 3) := by decide +kernel
theorem dX10_ask_39 : decode cX10_ask 39 = .ok (.iload_n 1, 1) := by decide +kernel
theorem dX10_ask_40 : decode cX10_ask 40 = .ok (.iload_n 2, 1) := by decide +kernel
theorem dX10_ask_41 : decode cX10_ask 41 = .ok (.iload_n 3, 1) := by decide +kernel
theorem dX10_ask_42 : decode cX10_ask 42 = .ok (.invokevirtual 273, 3) := by decide +kernel
theorem dX10_ask_45 : decode cX10_ask 45 = .ok (.ireturn, 1) := by decide +kernel
theorem dX10_about_0 : decode cX10_about 0 = .ok (.aload_n 0, 1) := by decide +kernel
theorem dX10_about_1 : decode cX10_about 1 = .ok (.getfield 44, 3) := by decide +kernel
theorem dX10_about_4 : decode cX10_about 4 = .ok (.invokevirtual 127, 3) := by decide +kernel
theorem dX10_about_7 : decode cX10_about 7 = .ok (.getfield 131, 3) := by decide +kernel
theorem dX10_about_10 : decode cX10_about 10 = .ok (.astore_n 2, 1) := by decide +kernel
theorem dX10_about_11 : decode cX10_about 11 = .ok (.iload_n 1, 1) := by decide +kernel
theorem dX10_about_12 : decode cX10_about 12 = .ok (.tableswitch 187 0 14 #[76, 84, 92, 100, 108, 113, 118, 123, 128, 136, 144, 152, 160, 168, 179], 76) := by decide +kernel
theorem dX10_about_88 : decode cX10_about 88 = .ok (.aload_n 0, 1) := by decide +kernel
theorem dX10_about_89 : decode cX10_about 89 = .ok (.getfield 28, 3) := by decide +kernel
theorem dX10_about_92 : decode cX10_about 92 = .ok (.getfield 114, 3) := by decide +kernel
theorem dX10_about_95 : decode cX10_about 95 = .ok (.ireturn, 1) := by decide +kernel
theorem dX10_about_96 : decode cX10_about 96 = .ok (.aload_n 0, 1) := by decide +kernel
theorem dX10_about_97 : decode cX10_about 97 = .ok (.getfield 28, 3) := by decide +kernel
theorem dX10_about_100 : decode cX10_about 100 = .ok (.getfield 263, 3) := by decide +kernel
theorem dX10_about_103 : decode cX10_about 103 = .ok (.ireturn, 1) := by decide +kernel
theorem dX10_about_104 : decode cX10_about 104 = .ok (.aload_n 0, 1) := by decide +kernel
theorem dX10_about_105 : decode cX10_about 105 = .ok (.getfield 28, 3) := by decide +kernel
theorem dX10_about_108 : decode cX10_about 108 = .ok (.getfield 219, 3) := by decide +kernel
theorem dX10_about_111 : decode cX10_about 111 = .ok (.ireturn, 1) := by decide +kernel
theorem dX10_about_112 : decode cX10_about 112 = .ok (.aload_n 0, 1) := by decide +kernel
theorem dX10_about_113 : decode cX10_about 113 = .ok (.getfield 28, 3) := by decide +kernel
theorem dX10_about_116 : decode cX10_about 116 = .ok (.getfield 280, 3) := by decide +kernel
theorem dX10_about_119 : decode cX10_about 119 = .ok (.ireturn, 1) := by decide +kernel
theorem dX10_about_120 : decode cX10_about 120 = .ok (.aload_n 2, 1) := by decide +kernel
theorem dX10_about_121 : decode cX10_about 121 = .ok (.bipush 40, 2) := by decide +kernel
theorem dX10_about_123 : decode cX10_about 123 = .ok (.iaload, 1) := by decide +kernel
theorem dX10_about_124 : decode cX10_about 124 = .ok (.ireturn, 1) := by decide +kernel
theorem dX10_about_125 : decode cX10_about 125 = .ok (.aload_n 2, 1) := by decide +kernel
theorem dX10_about_126 : decode cX10_about 126 = .ok (.bipush 41, 2) := by decide +kernel
theorem dX10_about_128 : decode cX10_about 128 = .ok (.iaload, 1) := by decide +kernel
theorem dX10_about_129 : decode cX10_about 129 = .ok (.ireturn, 1) := by decide +kernel
theorem dX10_about_130 : decode cX10_about 130 = .ok (.aload_n 2, 1) := by decide +kernel
theorem dX10_about_131 : decode cX10_about 131 = .ok (.bipush 42, 2) := by decide +kernel
theorem dX10_about_133 : decode cX10_about 133 = .ok (.iaload, 1) := by decide +kernel
theorem dX10_about_134 : decode cX10_about 134 = .ok (.ireturn, 1) := by decide +kernel
theorem dX10_about_135 : decode cX10_about 135 = .ok (.aload_n 2, 1) := by decide +kernel
theorem dX10_about_136 : decode cX10_about 136 = .ok (.bipush 39, 2) := by decide +kernel
theorem dX10_about_138 : decode cX10_about 138 = .ok (.iaload, 1) := by decide +kernel
theorem dX10_about_139 : decode cX10_about 139 = .ok (.ireturn, 1) := by decide +kernel
theorem dX10_about_140 : decode cX10_about 140 = .ok (.aload_n 0, 1) := by decide +kernel
theorem dX10_about_141 : decode cX10_about 141 = .ok (.getfield 44, 3) := by decide +kernel
theorem dX10_about_144 : decode cX10_about 144 = .ok (.getfield 283, 3) := by decide +kernel
theorem dX10_about_147 : decode cX10_about 147 = .ok (.ireturn, 1) := by decide +kernel
theorem dX10_about_148 : decode cX10_about 148 = .ok (.aload_n 0, 1) := by decide +kernel
theorem dX10_about_149 : decode cX10_about 149 = .ok (.getfield 44, 3) := by decide +kernel
theorem dX10_about_152 : decode cX10_about 152 = .ok (.getfield 286, 3) := by decide +kernel
theorem dX10_about_155 : decode cX10_about 155 = .ok (.ireturn, 1) := by decide +kernel
theorem dX10_about_156 : decode cX10_about 156 = .ok (.aload_n 0, 1) := by decide +kernel
theorem dX10_about_157 : decode cX10_about 157 = .ok (.getfield 67, 3) := by decide +kernel
theorem dX10_about_160 : decode cX10_about 160 = .ok (.getfield 111, 3) := by decide +kernel
theorem dX10_about_163 : decode cX10_about 163 = .ok (.ireturn, 1) := by decide +kernel
theorem dX10_about_164 : decode cX10_about 164 = .ok (.aload_n 0, 1) := by decide +kernel
theorem dX10_about_165 : decode cX10_about 165 = .ok (.getfield 67, 3) := by decide +kernel
theorem dX10_about_168 : decode cX10_about 168 = .ok (.getfield 259, 3) := by decide +kernel
theorem dX10_about_171 : decode cX10_about 171 = .ok (.ireturn, 1) := by decide +kernel
theorem dX10_about_172 : decode cX10_about 172 = .ok (.aload_n 0, 1) := by decide +kernel
theorem dX10_about_173 : decode cX10_about 173 = .ok (.getfield 12, 3) := by decide +kernel
theorem dX10_about_176 : decode cX10_about 176 = .ok (.getfield 82, 3) := by decide +kernel
theorem dX10_about_179 : decode cX10_about 179 = .ok (.ireturn, 1) := by decide +kernel
theorem dX10_about_180 : decode cX10_about 180 = .ok (.aload_n 0, 1) := by decide +kernel
theorem dX10_about_181 : decode cX10_about 181 = .ok (.getfield 28, 3) := by decide +kernel
theorem dX10_about_184 : decode cX10_about 184 = .ok (.getfield 289, 3) := by decide +kernel
theorem dX10_about_187 : decode cX10_about 187 = .ok (.getfield 293, 3) := by decide +kernel
theorem dX10_about_190 : decode cX10_about 190 = .ok (.ireturn, 1) := by decide +kernel
theorem dX10_about_191 : decode cX10_about 191 = .ok (.aload_n 0, 1) := by decide +kernel
theorem dX10_about_192 : decode cX10_about 192 = .ok (.getfield 60, 3) := by decide +kernel
theorem dX10_about_195 : decode cX10_about 195 = .ok (.getfield 108, 3) := by decide +kernel
theorem dX10_about_198 : decode cX10_about 198 = .ok (.ireturn, 1) := by decide +kernel
theorem dX10_about_199 : decode cX10_about 199 = .ok (.iconst (-1), 1) := by decide +kernel
theorem dX10_about_200 : decode cX10_about 200 = .ok (.ireturn, 1) := by decide +kernel
set_option maxRecDepth 100000 in
theorem m_X9_nextTrial (l : Launch) (D : va_G) (cT : Nat → ClassId) (T : Nat → Option Nat) (q : Nat → Int) (hq : qok q) (a0 : Nat) (t0 : T a0 = some 8) (y1 : Int32) (j1 : IV y1 0 3) (y2 : Int32) (j2 : IV y2 (-2147483648) 2147483647) (y3 : Int32) (j3 : IV y3 (-2147483648) 2147483647) (y4 : Int32) (j4 : IV y4 (-2147483648) 2147483647) : th_Met l D cT T (kd q) yX9_nextTrial cX9_nextTrial 12 (some .int) (rmk 3 78) [.ref a0, .int y1, .int y2, .int y3, .int y4] (th_R T (some (.inl (-2147483648, 2147483647)))) [45] := by
  refine th_start (by decide) (Nat.le_of_ble_eq_true rfl) ?_
  intro p e s m below meth c ls S hK hH hr hlocks hnm hl
  have hx := S.1
  have hb := S.2.1
  have hl : lv_has ls 12 [(0, .ref a0), (1, .int y1), (2, .int y2), (3, .int y3), (4, .int y4)] := hl
  have J111 : ∀ (H : Heap) (locs : List Loc) (ls : Array Slot) (w111_0 : Int32), IV w111_0 (-2147483648) 2147483647 → th_H D cT T (kd q) H → va_S (th_A T [45]) s.heap H locs → lv_has ls 12 [] → W p l e (rmk 3 78) s m [.ref a0, .int y1, .int y2, .int y3, .int y4].toArray below meth c H locs 0 0 (MQ below (th_Q D cT T (kd q) (th_R T (some (.inl (-2147483648, 2147483647)))) [45]) [.ref a0, .int y1, .int y2, .int y3, .int y4].toArray s 0 0 (th_A T [45])) (F0 m 111 ls [.int w111_0]) := by
    intro H locs ls w111_0 iw111_0 hH hS hl
    exact th_iret S hK hH hS hr hlocks (th_R.i iw111_0) dX9_nextTrial_111
  have J28 : ∀ (n : Nat) (H : Heap) (locs : List Loc) (ls : Array Slot) (v28_5 : Int32) (v28_6 : Int32) (v28_7 : Int32) (v28_8 : Int32), IV v28_5 (-2147483648) 2147483647 → IV v28_6 (-1) 29 → IV v28_7 (-2147483648) 2147483647 → IV v28_8 0 3 → th_H D cT T (kd q) H → va_S (th_A T [45]) s.heap H locs → lv_has ls 12 [(0, .ref a0), (1, .int y1), (2, .int y2), (3, .int y3), (5, .int v28_5), (6, .int v28_6), (7, .int v28_7), (8, .int v28_8)] → (3 + 1 - v28_8.toInt).toNat < n → W p l e (rmk 3 78) s m [.ref a0, .int y1, .int y2, .int y3, .int y4].toArray below meth c H locs 0 0 (MQ below (th_Q D cT T (kd q) (th_R T (some (.inl (-2147483648, 2147483647)))) [45]) [.ref a0, .int y1, .int y2, .int y3, .int y4].toArray s 0 0 (th_A T [45])) (F0 m 28 ls []) := by
    intro n
    induction n with
    | zero => intro H locs ls v28_5 v28_6 v28_7 v28_8 iv28_5 iv28_6 iv28_7 iv28_8 hH hS hl hn; exact absurd hn (Nat.not_lt_zero _)
    | succ n ih28 =>
      intro H locs ls v28_5 v28_6 v28_7 v28_8 iv28_5 iv28_6 iv28_7 iv28_8 hH hS hl hn28
      have J37 : ∀ (n : Nat) (H : Heap) (locs : List Loc) (ls : Array Slot) (v37_6 : Int32) (v37_7 : Int32) (v37_9 : Int32), IV v37_6 (-1) 29 → IV v37_7 (-2147483648) 2147483647 → IV v37_9 1 10 → IV v28_8 0 2 → IV y1 1 3 → th_H D cT T (kd q) H → va_S (th_A T [45]) s.heap H locs → lv_has ls 12 [(0, .ref a0), (1, .int y1), (2, .int y2), (3, .int y3), (5, .int v28_5), (6, .int v37_6), (7, .int v37_7), (8, .int v28_8), (9, .int v37_9)] → (10 + 1 - v37_9.toInt).toNat < n → W p l e (rmk 3 78) s m [.ref a0, .int y1, .int y2, .int y3, .int y4].toArray below meth c H locs 0 0 (MQ below (th_Q D cT T (kd q) (th_R T (some (.inl (-2147483648, 2147483647)))) [45]) [.ref a0, .int y1, .int y2, .int y3, .int y4].toArray s 0 0 (th_A T [45])) (F0 m 37 ls []) := by
        intro n
        induction n with
        | zero => intro H locs ls v37_6 v37_7 v37_9 iv37_6 iv37_7 iv37_9 f37_v28_8 f37_y1 hH hS hl hn; exact absurd hn (Nat.not_lt_zero _)
        | succ n ih37 =>
          intro H locs ls v37_6 v37_7 v37_9 iv37_6 iv37_7 iv37_9 f37_v28_8 f37_y1 hH hS hl hn37
          have J88 : ∀ (H : Heap) (locs : List Loc) (ls : Array Slot) (v88_6 : Int32) (v88_7 : Int32), IV v88_6 (-1) 29 → IV v88_7 (-2147483648) 2147483647 → IV v28_8 0 2 → IV v37_9 1 9 → IV y1 1 3 → th_H D cT T (kd q) H → va_S (th_A T [45]) s.heap H locs → lv_has ls 12 [(0, .ref a0), (1, .int y1), (2, .int y2), (3, .int y3), (5, .int v28_5), (6, .int v88_6), (7, .int v88_7), (8, .int v28_8), (9, .int v37_9)] → W p l e (rmk 3 78) s m [.ref a0, .int y1, .int y2, .int y3, .int y4].toArray below meth c H locs 0 0 (MQ below (th_Q D cT T (kd q) (th_R T (some (.inl (-2147483648, 2147483647)))) [45]) [.ref a0, .int y1, .int y2, .int y3, .int y4].toArray s 0 0 (th_A T [45])) (F0 m 88 ls []) := by
            intro H locs ls v88_6 v88_7 iv88_6 iv88_7 f88_v28_8 f88_v37_9 f88_y1 hH hS hl
            refine th_iinc S dX9_nextTrial_88 hl (k := 8) rfl (by decide) f88_v37_9 (by decide) (fun x1 ls ex1 ix1 hl => ?_)
            have hl : lv_has ls 12 [(9, .int x1), (0, .ref a0), (1, .int y1), (2, .int y2), (3, .int y3), (5, .int v28_5), (6, .int v88_6), (7, .int v88_7), (8, .int v28_8)] := hl
            have ix1 : IV x1 2 10 := ix1
            refine lv_goto (tgt := 37) hx hb dX9_nextTrial_91 (by decide) ?_
            exact ih37 H locs ls v88_6 v88_7 x1 iv88_6 iv88_7 (iv_w ix1 (by decide)) f88_v28_8 f88_y1 hH hS (lv_sub hl [1, 2, 3, 4, 5, 6, 7, 8, 0] rfl) (th_up iv37_9 ex1 (by decide) hn37)
          refine lv_iload hx hb dX9_nextTrial_37 (lv_at hl 8 rfl) ?_
          refine lv_bipush (v := 9) hx hb dX9_nextTrial_39 (by decide) ?_
          refine lv_icmp_gt (tgt := 94) hx hb dX9_nextTrial_41 (by decide) (fun c2 => ?_) (fun c2 => ?_)
          · skip
            have ir3 : IV v37_9 10 10 := iv_uR (iv_c (by decide) : IV 9 9 9) iv37_9 (iv_lt c2) (by decide)
            refine th_iinc S dX9_nextTrial_94 hl (k := 7) rfl (by decide) f37_v28_8 (by decide) (fun x4 ls ex4 ix4 hl => ?_)
            have hl : lv_has ls 12 [(8, .int x4), (0, .ref a0), (1, .int y1), (2, .int y2), (3, .int y3), (5, .int v28_5), (6, .int v37_6), (7, .int v37_7), (9, .int v37_9)] := hl
            have ix4 : IV x4 1 3 := ix4
            refine lv_goto (tgt := 28) hx hb dX9_nextTrial_97 (by decide) ?_
            exact ih28 H locs ls v28_5 v37_6 v37_7 x4 iv28_5 iv37_6 iv37_7 (iv_w ix4 (by decide)) hH hS (lv_sub hl [1, 2, 3, 4, 5, 6, 7, 0] rfl) (th_up iv28_8 ex4 (by decide) hn28)
          · skip
            have ir5 : IV v37_9 1 9 := iv_vL iv37_9 (iv_c (by decide) : IV 9 9 9) (iv_nlt c2) (by decide)
            refine lv_aload_n hx hb dX9_nextTrial_44 rfl (lv_at hl 0 rfl) ?_
            refine lv_iload hx hb dX9_nextTrial_45 (lv_at hl 7 rfl) ?_
            refine lv_iload hx hb dX9_nextTrial_47 (lv_at hl 8 rfl) ?_
            refine lv_iload_n hx hb dX9_nextTrial_49 rfl (lv_at hl 2 rfl) ?_
            refine th_callVi (n := 3) (As := [.int v28_8, .int v37_9, .int y2]) S hK hH hS (th_A.sub (by decide)) (m_X9_fullBy l D cT T q hq a0 t0 (v28_8) f37_v28_8 (v37_9) ir5 (y2) j2) gm_1197 gm_1194 gm_1196 gm_43 gm_123 (by decide +kernel) ⟨rfl, rfl, Nat.le_of_ble_eq_true rfl, Nat.le_of_ble_eq_true rfl⟩ t0 kd_8 rfl rfl hl.1 rfl (Nat.le_of_ble_eq_true rfl) dX9_nextTrial_50 ⟨Nat.zero_le _, Nat.zero_le _⟩ (fun x6 H locs ix6 hH hS hF1 => ?_)
            refine lv_istore (lv' := [(10, .int x6), (0, .ref a0), (1, .int y1), (2, .int y2), (3, .int y3), (5, .int v28_5), (6, .int v37_6), (7, .int v37_7), (8, .int v28_8), (9, .int v37_9)]) hx hb dX9_nextTrial_53 hl (by decide) rfl (fun ls hl => ?_)
            refine lv_iload hx hb dX9_nextTrial_55 (lv_at hl 0 rfl) ?_
            refine lv_iload hx hb dX9_nextTrial_57 (lv_at hl 5 rfl) ?_
            refine lv_iload hx hb dX9_nextTrial_59 (lv_at hl 0 rfl) ?_
            refine lv_isub hx hb dX9_nextTrial_61 ?_
            refine lv_topi (fun x7 ex7 => ?_)
            have ix7 := iv_top x7
            refine va_mmax hx hb (S.2.2.1.trans hl.1.symm) S.2.2.2.1 (S.2.2.2.2 _ gm_1198) (S.2.2.2.2 _ gm_625) (S.2.2.2.2 _ gm_129) (S.2.2.2.2 _ gm_626) (Nat.le_of_ble_eq_true rfl) (Nat.le_of_ble_eq_true rfl) (Nat.zero_le _) (Nat.zero_le _) dX9_nextTrial_62 ?_
            refine lv_topi (fun x8 ex8 => ?_)
            have ix8 : IV x8 (-2147483648) 2147483647 := by rw [ex8]; exact iv_max ix6 ix7 (by decide)
            refine lv_istore (lv' := [(11, .int x8), (10, .int x6), (0, .ref a0), (1, .int y1), (2, .int y2), (3, .int y3), (5, .int v28_5), (6, .int v37_6), (7, .int v37_7), (8, .int v28_8), (9, .int v37_9)]) hx hb dX9_nextTrial_65 hl (by decide) rfl (fun ls hl => ?_)
            refine lv_iload hx hb dX9_nextTrial_67 (lv_at hl 0 rfl) ?_
            refine lv_iload hx hb dX9_nextTrial_69 (lv_at hl 8 rfl) ?_
            refine lv_icmp_ge (tgt := 88) hx hb dX9_nextTrial_71 (by decide) (fun c9 => ?_) (fun c9 => ?_)
            · skip
              exact J88 H locs ls v37_6 v37_7 iv37_6 iv37_7 f37_v28_8 ir5 f37_y1 hH hS (lv_sub hl [2, 3, 4, 5, 6, 7, 8, 9, 10] rfl)
            · skip
              have ir10 : IV x8 (-2147483648) 2147483646 := iv_uL ix8 iv37_7 (iv_nle c9) (by decide)
              have ir11 : IV v37_7 (-2147483647) 2147483647 := iv_uR ix8 iv37_7 (iv_nle c9) (by decide)
              refine lv_iload hx hb dX9_nextTrial_74 (lv_at hl 0 rfl) ?_
              refine lv_istore (lv' := [(7, .int x8), (11, .int x8), (10, .int x6), (0, .ref a0), (1, .int y1), (2, .int y2), (3, .int y3), (5, .int v28_5), (6, .int v37_6), (8, .int v28_8), (9, .int v37_9)]) hx hb dX9_nextTrial_76 hl (by decide) rfl (fun ls hl => ?_)
              refine lv_bipush (v := 10) hx hb dX9_nextTrial_78 (by decide) ?_
              refine lv_iload hx hb dX9_nextTrial_80 (lv_at hl 9 rfl) ?_
              refine lv_imul hx hb dX9_nextTrial_82 ?_
              refine lv_topi (fun x12 ex12 => ?_)
              have ix12 : IV x12 0 20 := by rw [ex12]; exact iv_mul (iv_c (by decide) : IV 10 10 10) f37_v28_8 (by decide) (by decide)
              refine lv_iload hx hb dX9_nextTrial_83 (lv_at hl 10 rfl) ?_
              refine lv_iadd hx hb dX9_nextTrial_85 ?_
              refine lv_topi (fun x13 ex13 => ?_)
              have ix13 : IV x13 1 29 := by rw [ex13]; exact iv_add ix12 ir5 (by decide)
              refine lv_istore (lv' := [(6, .int x13), (7, .int x8), (11, .int x8), (10, .int x6), (0, .ref a0), (1, .int y1), (2, .int y2), (3, .int y3), (5, .int v28_5), (8, .int v28_8), (9, .int v37_9)]) hx hb dX9_nextTrial_86 hl (by decide) rfl (fun ls hl => ?_)
              exact J88 H locs ls x13 x8 (iv_w ix13 (by decide)) (iv_top _) f37_v28_8 ir5 f37_y1 hH hS (lv_sub hl [4, 5, 6, 7, 8, 0, 1, 9, 10] rfl)
      refine lv_iload hx hb dX9_nextTrial_28 (lv_at hl 7 rfl) ?_
      refine lv_iload_n hx hb dX9_nextTrial_30 rfl (lv_at hl 1 rfl) ?_
      refine lv_icmp_ge (tgt := 100) hx hb dX9_nextTrial_31 (by decide) (fun c14 => ?_) (fun c14 => ?_)
      · skip
        refine lv_iload_n hx hb dX9_nextTrial_100 rfl (lv_at hl 3 rfl) ?_
        refine lv_if_ne (tgt := 109) hx hb dX9_nextTrial_101 (by decide) (fun c15 => ?_) (fun c15 => ?_)
        · skip
          refine lv_iload hx hb dX9_nextTrial_109 (lv_at hl 6 rfl) ?_
          exact J111 H locs ls v28_7 iv28_7 hH hS (lv_sub hl [] rfl)
        · skip
          have ir16 : IV y3 0 0 := iv_eL c15 (iv_c (by decide) : IV 0 0 0)
          refine lv_iload hx hb dX9_nextTrial_104 (lv_at hl 5 rfl) ?_
          refine lv_goto (tgt := 111) hx hb dX9_nextTrial_106 (by decide) ?_
          exact J111 H locs ls v28_6 (iv_top _) hH hS (lv_sub hl [] rfl)
      · skip
        have ir17 : IV v28_8 0 2 := iv_uL iv28_8 j1 (iv_nle c14) (by decide)
        have ir18 : IV y1 1 3 := iv_uR iv28_8 j1 (iv_nle c14) (by decide)
        refine lv_iconst (v := 1) hx hb dX9_nextTrial_34 (by decide) ?_
        refine lv_istore (lv' := [(9, .int 1), (0, .ref a0), (1, .int y1), (2, .int y2), (3, .int y3), (5, .int v28_5), (6, .int v28_6), (7, .int v28_7), (8, .int v28_8)]) hx hb dX9_nextTrial_35 hl (by decide) rfl (fun ls hl => ?_)
        exact J37 ((10 + 1 - Int32.toInt 1).toNat + 1) H locs ls v28_6 v28_7 1 iv28_6 iv28_7 (iv_w (iv_c (by decide) : IV 1 1 1) (by decide)) ir17 ir18 hH hS (lv_sub hl [1, 2, 3, 4, 5, 6, 7, 8, 0] rfl) (Nat.lt_succ_self _)
  have J0 : ∀ (H : Heap) (locs : List Loc) (ls : Array Slot), th_H D cT T (kd q) H → va_S (th_A T [45]) s.heap H locs → lv_has ls 12 [(0, .ref a0), (1, .int y1), (2, .int y2), (3, .int y3), (4, .int y4)] → W p l e (rmk 3 78) s m [.ref a0, .int y1, .int y2, .int y3, .int y4].toArray below meth c H locs 0 0 (MQ below (th_Q D cT T (kd q) (th_R T (some (.inl (-2147483648, 2147483647)))) [45]) [.ref a0, .int y1, .int y2, .int y3, .int y4].toArray s 0 0 (th_A T [45])) (F0 m 0 ls []) := by
    intro H locs ls hH hS hl
    refine lv_aload_n hx hb dX9_nextTrial_0 rfl (lv_at hl 0 rfl) ?_
    refine lv_iload_n hx hb dX9_nextTrial_1 rfl (lv_at hl 1 rfl) ?_
    refine lv_iload hx hb dX9_nextTrial_2 (lv_at hl 4 rfl) ?_
    refine th_callVi (n := 2) (As := [.int y1, .int y4]) S hK hH hS (th_A.sub (by decide)) (m_X9_countFitting l D cT T q hq a0 t0 (y1) j1 (y4) j4) gm_1167 gm_1185 gm_1165 gm_1166 gm_123 (by decide +kernel) ⟨rfl, rfl, Nat.le_of_ble_eq_true rfl, Nat.le_of_ble_eq_true rfl⟩ t0 kd_8 rfl rfl hl.1 rfl (Nat.le_of_ble_eq_true rfl) dX9_nextTrial_4 ⟨Nat.zero_le _, Nat.zero_le _⟩ (fun x19 H locs ix19 hH hS hF1 => ?_)
    refine lv_istore (lv' := [(5, .int x19), (0, .ref a0), (1, .int y1), (2, .int y2), (3, .int y3), (4, .int y4)]) hx hb dX9_nextTrial_7 hl (by decide) rfl (fun ls hl => ?_)
    refine lv_iload hx hb dX9_nextTrial_9 (lv_at hl 0 rfl) ?_
    refine lv_if_ne (tgt := 16) hx hb dX9_nextTrial_11 (by decide) (fun c20 => ?_) (fun c20 => ?_)
    · skip
      refine lv_iconst (v := (-1)) hx hb dX9_nextTrial_16 (by decide) ?_
      refine lv_istore (lv' := [(6, .int (-1)), (5, .int x19), (0, .ref a0), (1, .int y1), (2, .int y2), (3, .int y3), (4, .int y4)]) hx hb dX9_nextTrial_17 hl (by decide) rfl (fun ls hl => ?_)
      refine lv_iload hx hb dX9_nextTrial_19 (lv_at hl 1 rfl) ?_
      refine lv_iconst (v := 1) hx hb dX9_nextTrial_21 (by decide) ?_
      refine lv_iadd hx hb dX9_nextTrial_22 ?_
      refine lv_topi (fun x21 ex21 => ?_)
      have ix21 := iv_top x21
      refine lv_istore (lv' := [(7, .int x21), (6, .int (-1)), (5, .int x19), (0, .ref a0), (1, .int y1), (2, .int y2), (3, .int y3), (4, .int y4)]) hx hb dX9_nextTrial_23 hl (by decide) rfl (fun ls hl => ?_)
      refine lv_iconst (v := 0) hx hb dX9_nextTrial_25 (by decide) ?_
      refine lv_istore (lv' := [(8, .int 0), (7, .int x21), (6, .int (-1)), (5, .int x19), (0, .ref a0), (1, .int y1), (2, .int y2), (3, .int y3), (4, .int y4)]) hx hb dX9_nextTrial_26 hl (by decide) rfl (fun ls hl => ?_)
      exact J28 ((3 + 1 - Int32.toInt 0).toNat + 1) H locs ls x19 (-1) x21 0 ix19 (iv_w (iv_c (by decide) : IV (-1) (-1) (-1)) (by decide)) ix21 (iv_w (iv_c (by decide) : IV 0 0 0) (by decide)) hH hS (lv_sub hl [4, 5, 6, 7, 3, 2, 1, 0] rfl) (Nat.lt_succ_self _)
    · skip
      have ir22 : IV x19 0 0 := iv_eL c20 (iv_c (by decide) : IV 0 0 0)
      refine lv_iconst (v := (-1)) hx hb dX9_nextTrial_14 (by decide) ?_
      exact th_iret S hK hH hS hr hlocks (th_R.i (iv_top _)) dX9_nextTrial_15
  exact J0 s.heap [] ls hH va_S.rf hl

set_option maxRecDepth 100000 in
theorem m_X10_feed (l : Launch) (D : va_G) (cT : Nat → ClassId) (T : Nat → Option Nat) (q : Nat → Int) (hq : qok q) (a0 : Nat) (t0 : T a0 = some 0) (y1 : Int32) (j1 : IV y1 (-2147483648) 2147483647) (y2 : Int32) (j2 : IV y2 (-2147483648) 2147483647) (y3 : Int32) (j3 : IV y3 (-2147483648) 2147483647) (y4 : Int32) (j4 : IV y4 (-2147483648) 2147483647) (y5 : Int32) (j5 : IV y5 (-2147483648) 2147483647) : th_Met l D cT T (kd q) yX10_feed cX10_feed 6 (some .int) (rmk 1 22) [.ref a0, .int y1, .int y2, .int y3, .int y4, .int y5] (th_R T (some (.inl (-1, 1600)))) [1, 11] := by
  refine th_start (by decide) (Nat.le_of_ble_eq_true rfl) ?_
  intro p e s m below meth c ls S hK hH hr hlocks hnm hl
  have hx := S.1
  have hb := S.2.1
  have hl : lv_has ls 6 [(0, .ref a0), (1, .int y1), (2, .int y2), (3, .int y3), (4, .int y4), (5, .int y5)] := hl
  have J0 : ∀ (H : Heap) (locs : List Loc) (ls : Array Slot), th_H D cT T (kd q) H → va_S (th_A T [1, 11]) s.heap H locs → lv_has ls 6 [(0, .ref a0), (1, .int y1), (2, .int y2), (3, .int y3), (4, .int y4), (5, .int y5)] → W p l e (rmk 1 22) s m [.ref a0, .int y1, .int y2, .int y3, .int y4, .int y5].toArray below meth c H locs 0 0 (MQ below (th_Q D cT T (kd q) (th_R T (some (.inl (-1, 1600)))) [1, 11]) [.ref a0, .int y1, .int y2, .int y3, .int y4, .int y5].toArray s 0 0 (th_A T [1, 11])) (F0 m 0 ls []) := by
    intro H locs ls hH hS hl
    refine lv_aload_n hx hb dX10_feed_0 rfl (lv_at hl 0 rfl) ?_
    refine th_get S hK hH inG10 t0 kd_0 rfl 0 (by decide) gm_505 rfl rfl dX10_feed_1 (fun v1 hv1 fv1 => ?_)
    obtain ⟨a2, rfl, ta2⟩ := th_V.ref hv1
    refine th_get S hK hH inG8 ta2 kd_1 rfl 4 (by decide) gm_156 rfl rfl dX10_feed_4 (fun v3 hv3 fv3 => ?_)
    obtain ⟨x4, rfl, ix4⟩ := th_V.int hv3
    refine lv_bipush (v := 20) hx hb dX10_feed_7 (by decide) ?_
    refine lv_iadd hx hb dX10_feed_9 ?_
    refine lv_topi (fun x5 ex5 => ?_)
    have ix5 : IV x5 20 1620 := by rw [ex5]; exact iv_add ix4 (iv_c (by decide) : IV 20 20 20) (by decide)
    refine lv_sipush (v := 1600) hx hb dX10_feed_10 (by decide) ?_
    refine lv_icmp_le (tgt := 18) hx hb dX10_feed_13 (by decide) (fun c6 => ?_) (fun c6 => ?_)
    · skip
      have ir7 : IV x5 20 1600 := iv_vL ix5 (iv_c (by decide) : IV 1600 1600 1600) (iv_le c6) (by decide)
      refine lv_aload_n hx hb dX10_feed_18 rfl (lv_at hl 0 rfl) ?_
      refine th_getK S hK fv1 inG10 rfl (by decide) gm_505 rfl dX10_feed_19 ?_
      refine lv_iload_n hx hb dX10_feed_22 rfl (lv_at hl 1 rfl) ?_
      refine th_callVv (n := 1) (As := [.int y1]) S hK hH hS (th_A.sub (by decide)) (m_X8_append l D cT T q hq a2 ta2 (y1) j1) gm_543 gm_540 gm_541 gm_542 gm_114 (by decide +kernel) ⟨rfl, rfl, Nat.le_of_ble_eq_true rfl, Nat.le_of_ble_eq_true rfl⟩ ta2 kd_1 rfl rfl hl.1 rfl (Nat.le_of_ble_eq_true rfl) dX10_feed_23 ⟨Nat.zero_le _, Nat.zero_le _⟩ (fun H locs hH hS hF1 => ?_)
      have f9 := fv1.kept (hF1 _ fv1.lt (th_off t0 (by decide)))
      refine lv_aload_n hx hb dX10_feed_26 rfl (lv_at hl 0 rfl) ?_
      refine th_getK S hK f9 inG10 rfl (by decide) gm_505 rfl dX10_feed_27 ?_
      refine lv_iload_n hx hb dX10_feed_30 rfl (lv_at hl 2 rfl) ?_
      refine th_callVv (n := 1) (As := [.int y2]) S hK hH hS (th_A.sub (by decide)) (m_X8_append l D cT T q hq a2 ta2 (y2) j2) gm_543 gm_540 gm_541 gm_542 gm_114 (by decide +kernel) ⟨rfl, rfl, Nat.le_of_ble_eq_true rfl, Nat.le_of_ble_eq_true rfl⟩ ta2 kd_1 rfl rfl hl.1 rfl (Nat.le_of_ble_eq_true rfl) dX10_feed_31 ⟨Nat.zero_le _, Nat.zero_le _⟩ (fun H locs hH hS hF1 => ?_)
      have f11 := f9.kept (hF1 _ f9.lt (th_off t0 (by decide)))
      refine lv_aload_n hx hb dX10_feed_34 rfl (lv_at hl 0 rfl) ?_
      refine th_getK S hK f11 inG10 rfl (by decide) gm_505 rfl dX10_feed_35 ?_
      refine lv_iload_n hx hb dX10_feed_38 rfl (lv_at hl 3 rfl) ?_
      refine th_callVv (n := 1) (As := [.int y3]) S hK hH hS (th_A.sub (by decide)) (m_X8_append l D cT T q hq a2 ta2 (y3) j3) gm_543 gm_540 gm_541 gm_542 gm_114 (by decide +kernel) ⟨rfl, rfl, Nat.le_of_ble_eq_true rfl, Nat.le_of_ble_eq_true rfl⟩ ta2 kd_1 rfl rfl hl.1 rfl (Nat.le_of_ble_eq_true rfl) dX10_feed_39 ⟨Nat.zero_le _, Nat.zero_le _⟩ (fun H locs hH hS hF1 => ?_)
      have f13 := f11.kept (hF1 _ f11.lt (th_off t0 (by decide)))
      refine lv_aload_n hx hb dX10_feed_42 rfl (lv_at hl 0 rfl) ?_
      refine th_getK S hK f13 inG10 rfl (by decide) gm_505 rfl dX10_feed_43 ?_
      refine lv_iload hx hb dX10_feed_46 (lv_at hl 4 rfl) ?_
      refine th_callVv (n := 1) (As := [.int y4]) S hK hH hS (th_A.sub (by decide)) (m_X8_append l D cT T q hq a2 ta2 (y4) j4) gm_543 gm_540 gm_541 gm_542 gm_114 (by decide +kernel) ⟨rfl, rfl, Nat.le_of_ble_eq_true rfl, Nat.le_of_ble_eq_true rfl⟩ ta2 kd_1 rfl rfl hl.1 rfl (Nat.le_of_ble_eq_true rfl) dX10_feed_48 ⟨Nat.zero_le _, Nat.zero_le _⟩ (fun H locs hH hS hF1 => ?_)
      have f15 := f13.kept (hF1 _ f13.lt (th_off t0 (by decide)))
      refine lv_aload_n hx hb dX10_feed_51 rfl (lv_at hl 0 rfl) ?_
      refine th_getK S hK f15 inG10 rfl (by decide) gm_505 rfl dX10_feed_52 ?_
      refine lv_iload hx hb dX10_feed_55 (lv_at hl 5 rfl) ?_
      refine th_callVv (n := 1) (As := [.int y5]) S hK hH hS (th_A.sub (by decide)) (m_X8_append l D cT T q hq a2 ta2 (y5) j5) gm_543 gm_540 gm_541 gm_542 gm_114 (by decide +kernel) ⟨rfl, rfl, Nat.le_of_ble_eq_true rfl, Nat.le_of_ble_eq_true rfl⟩ ta2 kd_1 rfl rfl hl.1 rfl (Nat.le_of_ble_eq_true rfl) dX10_feed_57 ⟨Nat.zero_le _, Nat.zero_le _⟩ (fun H locs hH hS hF1 => ?_)
      have f17 := f15.kept (hF1 _ f15.lt (th_off t0 (by decide)))
      refine lv_aload_n hx hb dX10_feed_60 rfl (lv_at hl 0 rfl) ?_
      refine th_getK S hK f17 inG10 rfl (by decide) gm_505 rfl dX10_feed_61 ?_
      refine th_get S hK hH inG8 ta2 kd_1 rfl 4 (by decide) gm_156 rfl rfl dX10_feed_64 (fun v19 hv19 fv19 => ?_)
      obtain ⟨x20, rfl, ix20⟩ := th_V.int hv19
      exact th_iret S hK hH hS hr hlocks (th_R.i (iv_w ix20 (by decide))) dX10_feed_67
    · skip
      have ir21 : IV x5 1601 1620 := iv_uR (iv_c (by decide) : IV 1600 1600 1600) ix5 (iv_nle c6) (by decide)
      refine lv_iconst (v := (-1)) hx hb dX10_feed_16 (by decide) ?_
      exact th_iret S hK hH hS hr hlocks (th_R.i (iv_w (iv_c (by decide) : IV (-1) (-1) (-1)) (by decide))) dX10_feed_17
  exact J0 s.heap [] ls hH va_S.rf hl

set_option maxRecDepth 100000 in
theorem m_X10_end (l : Launch) (D : va_G) (cT : Nat → ClassId) (T : Nat → Option Nat) (q : Nat → Int) (hq : qok q) (a0 : Nat) (t0 : T a0 = some 0) (y1 : Int32) (j1 : IV y1 (-2147483648) 2147483647) : th_Met l D cT T (kd q) yX10_end cX10_end 2 (some .int) (rmk 0 0) [.ref a0, .int y1] (th_R T (some (.inl (-1, 1600)))) [1] := by
  refine th_start (by decide) (Nat.le_of_ble_eq_true rfl) ?_
  intro p e s m below meth c ls S hK hH hr hlocks hnm hl
  have hx := S.1
  have hb := S.2.1
  have hl : lv_has ls 2 [(0, .ref a0), (1, .int y1)] := hl
  have J15 : ∀ (H : Heap) (locs : List Loc) (ls : Array Slot), th_H D cT T (kd q) H → va_S (th_A T [1]) s.heap H locs → lv_has ls 2 [] → W p l e (rmk 0 0) s m [.ref a0, .int y1].toArray below meth c H locs 0 0 (MQ below (th_Q D cT T (kd q) (th_R T (some (.inl (-1, 1600)))) [1]) [.ref a0, .int y1].toArray s 0 0 (th_A T [1])) (F0 m 15 ls []) := by
    intro H locs ls hH hS hl
    refine lv_iconst (v := (-1)) hx hb dX10_end_15 (by decide) ?_
    exact th_iret S hK hH hS hr hlocks (th_R.i (iv_w (iv_c (by decide) : IV (-1) (-1) (-1)) (by decide))) dX10_end_16
  have J0 : ∀ (H : Heap) (locs : List Loc) (ls : Array Slot), th_H D cT T (kd q) H → va_S (th_A T [1]) s.heap H locs → lv_has ls 2 [(0, .ref a0), (1, .int y1)] → W p l e (rmk 0 0) s m [.ref a0, .int y1].toArray below meth c H locs 0 0 (MQ below (th_Q D cT T (kd q) (th_R T (some (.inl (-1, 1600)))) [1]) [.ref a0, .int y1].toArray s 0 0 (th_A T [1])) (F0 m 0 ls []) := by
    intro H locs ls hH hS hl
    refine lv_iload_n hx hb dX10_end_0 rfl (lv_at hl 1 rfl) ?_
    refine lv_if_lt (tgt := 15) hx hb dX10_end_1 (by decide) (fun c1 => ?_) (fun c1 => ?_)
    · skip
      have ir2 : IV y1 (-2147483648) (-1) := iv_uL j1 (iv_c (by decide) : IV 0 0 0) (iv_lt c1) (by decide)
      exact J15 H locs ls  hH hS (lv_sub hl [] rfl)
    · skip
      have ir3 : IV y1 0 2147483647 := iv_vR (iv_c (by decide) : IV 0 0 0) j1 (iv_nlt c1) (by decide)
      refine lv_iload_n hx hb dX10_end_4 rfl (lv_at hl 1 rfl) ?_
      refine lv_aload_n hx hb dX10_end_5 rfl (lv_at hl 0 rfl) ?_
      refine th_get S hK hH inG10 t0 kd_0 rfl 0 (by decide) gm_505 rfl rfl dX10_end_6 (fun v4 hv4 fv4 => ?_)
      obtain ⟨a5, rfl, ta5⟩ := th_V.ref hv4
      refine th_get S hK hH inG8 ta5 kd_1 rfl 4 (by decide) gm_156 rfl rfl dX10_end_9 (fun v6 hv6 fv6 => ?_)
      obtain ⟨x7, rfl, ix7⟩ := th_V.int hv6
      refine lv_icmp_le (tgt := 17) hx hb dX10_end_12 (by decide) (fun c8 => ?_) (fun c8 => ?_)
      · skip
        have ir9 : IV y1 0 1600 := iv_vL ir3 ix7 (iv_le c8) (by decide)
        refine lv_aload_n hx hb dX10_end_17 rfl (lv_at hl 0 rfl) ?_
        refine th_getK S hK fv4 inG10 rfl (by decide) gm_505 rfl dX10_end_18 ?_
        refine lv_iload_n hx hb dX10_end_21 rfl (lv_at hl 1 rfl) ?_
        refine th_put S hK hH hS ⟨1, by decide, ta5⟩ inG8 tyX8 tyX8_ok nmX8 ta5 kd_1 rfl 4 (by decide) gm_156 rfl rfl rfl rfl (th_iv ir9) (fun _ _ => trivial) (ty := .int) (by decide +kernel) rfl rfl dX10_end_22 (fun H locs hH hS hq1 hp1 => ?_)
        have f11 := fv4.kept (hq1 _ (th_ne t0 ta5 (by decide)))
        have f12 := hp1.1
        refine lv_iload_n hx hb dX10_end_25 rfl (lv_at hl 1 rfl) ?_
        exact th_iret S hK hH hS hr hlocks (th_R.i (iv_w ir9 (by decide))) dX10_end_26
      · skip
        have ir13 : IV y1 1 2147483647 := iv_uR ix7 ir3 (iv_nle c8) (by decide)
        exact J15 H locs ls  hH hS (lv_sub hl [] rfl)
  exact J0 s.heap [] ls hH va_S.rf hl

set_option maxRecDepth 100000 in
theorem m_X10_fault (l : Launch) (D : va_G) (cT : Nat → ClassId) (T : Nat → Option Nat) (q : Nat → Int) (hq : qok q) (a0 : Nat) (t0 : T a0 = some 0) (y1 : Int32) (j1 : IV y1 (-2147483648) 2147483647) : th_Met l D cT T (kd q) yX10_fault cX10_fault 2 (some .int) (rmk 0 0) [.ref a0, .int y1] (th_R T (some (.inl (-2147483648, 2147483647)))) [] := by
  refine th_start (by decide) (Nat.le_of_ble_eq_true rfl) ?_
  intro p e s m below meth c ls S hK hH hr hlocks hnm hl
  have hx := S.1
  have hb := S.2.1
  have hl : lv_has ls 2 [(0, .ref a0), (1, .int y1)] := hl
  have J28 : ∀ (H : Heap) (locs : List Loc) (ls : Array Slot) (w28_0 : Int32), IV w28_0 (-2147483648) 2147483647 → th_H D cT T (kd q) H → va_S (th_A T []) s.heap H locs → lv_has ls 2 [] → W p l e (rmk 0 0) s m [.ref a0, .int y1].toArray below meth c H locs 0 0 (MQ below (th_Q D cT T (kd q) (th_R T (some (.inl (-2147483648, 2147483647)))) []) [.ref a0, .int y1].toArray s 0 0 (th_A T [])) (F0 m 28 ls [.int w28_0]) := by
    intro H locs ls w28_0 iw28_0 hH hS hl
    exact th_iret S hK hH hS hr hlocks (th_R.i iw28_0) dX10_fault_28
  have J28_s0_m1 : ∀ (H : Heap) (locs : List Loc) (ls : Array Slot), th_H D cT T (kd q) H → va_S (th_A T []) s.heap H locs → lv_has ls 2 [] → W p l e (rmk 0 0) s m [.ref a0, .int y1].toArray below meth c H locs 0 0 (MQ below (th_Q D cT T (kd q) (th_R T (some (.inl (-2147483648, 2147483647)))) []) [.ref a0, .int y1].toArray s 0 0 (th_A T [])) (F0 m 28 ls [.int (-1)]) := by
    intro H locs ls hH hS hl
    exact th_iret S hK hH hS hr hlocks (th_R.i (iv_top _)) dX10_fault_28
  have J0 : ∀ (H : Heap) (locs : List Loc) (ls : Array Slot), th_H D cT T (kd q) H → va_S (th_A T []) s.heap H locs → lv_has ls 2 [(0, .ref a0), (1, .int y1)] → W p l e (rmk 0 0) s m [.ref a0, .int y1].toArray below meth c H locs 0 0 (MQ below (th_Q D cT T (kd q) (th_R T (some (.inl (-2147483648, 2147483647)))) []) [.ref a0, .int y1].toArray s 0 0 (th_A T [])) (F0 m 0 ls []) := by
    intro H locs ls hH hS hl
    refine lv_iload_n hx hb dX10_fault_0 rfl (lv_at hl 1 rfl) ?_
    refine lv_if_ne (tgt := 12) hx hb dX10_fault_1 (by decide) (fun c1 => ?_) (fun c1 => ?_)
    · skip
      refine lv_iload_n hx hb dX10_fault_12 rfl (lv_at hl 1 rfl) ?_
      refine lv_iconst (v := 1) hx hb dX10_fault_13 (by decide) ?_
      refine lv_icmp_ne (tgt := 27) hx hb dX10_fault_14 (by decide) (fun c2 => ?_) (fun c2 => ?_)
      · skip
        refine lv_iconst (v := (-1)) hx hb dX10_fault_27 (by decide) ?_
        exact J28_s0_m1 H locs ls  hH hS (lv_sub hl [] rfl)
      · skip
        have ir3 : IV y1 1 1 := iv_eL c2 (iv_c (by decide) : IV 1 1 1)
        refine lv_aload_n hx hb dX10_fault_17 rfl (lv_at hl 0 rfl) ?_
        refine th_get S hK hH inG10 t0 kd_0 rfl 1 (by decide) gm_506 rfl rfl dX10_fault_18 (fun v4 hv4 fv4 => ?_)
        obtain ⟨a5, rfl, ta5⟩ := th_V.ref hv4
        refine th_get S hK hH inG6 ta5 kd_2 rfl 5 (by decide) gm_347 rfl rfl dX10_fault_21 (fun v6 hv6 fv6 => ?_)
        obtain ⟨x7, rfl, ix7⟩ := th_V.int hv6
        refine lv_goto (tgt := 28) hx hb dX10_fault_24 (by decide) ?_
        exact J28 H locs ls x7 ix7 hH hS (lv_sub hl [] rfl)
    · skip
      have ir8 : IV y1 0 0 := iv_eL c1 (iv_c (by decide) : IV 0 0 0)
      refine lv_aload_n hx hb dX10_fault_4 rfl (lv_at hl 0 rfl) ?_
      refine th_get S hK hH inG10 t0 kd_0 rfl 1 (by decide) gm_506 rfl rfl dX10_fault_5 (fun v9 hv9 fv9 => ?_)
      obtain ⟨a10, rfl, ta10⟩ := th_V.ref hv9
      refine th_get S hK hH inG6 ta10 kd_2 rfl 4 (by decide) gm_345 rfl rfl dX10_fault_8 (fun v11 hv11 fv11 => ?_)
      obtain ⟨x12, rfl, ix12⟩ := th_V.int hv11
      exact th_iret S hK hH hS hr hlocks (th_R.i ix12) dX10_fault_11
  exact J0 s.heap [] ls hH va_S.rf hl

set_option maxRecDepth 100000 in
theorem m_X10_isFood (l : Launch) (D : va_G) (cT : Nat → ClassId) (T : Nat → Option Nat) (q : Nat → Int) (hq : qok q) (a0 : Nat) (t0 : T a0 = some 0) (y1 : Int32) (j1 : IV y1 (-2147483648) 2147483647) : th_Met l D cT T (kd q) yX10_isFood cX10_isFood 2 (some .boolean) (rmk 0 0) [.ref a0, .int y1] (th_RG y1 0 2) [] := by
  refine th_start (by decide) (Nat.le_of_ble_eq_true rfl) ?_
  intro p e s m below meth c ls S hK hH hr hlocks hnm hl
  have hx := S.1
  have hb := S.2.1
  have hl : lv_has ls 2 [(0, .ref a0), (1, .int y1)] := hl
  have J20_s0_0 : ∀ (H : Heap) (locs : List Loc) (ls : Array Slot), th_H D cT T (kd q) H → va_S (th_A T []) s.heap H locs → lv_has ls 2 [] → W p l e (rmk 0 0) s m [.ref a0, .int y1].toArray below meth c H locs 0 0 (MQ below (th_Q D cT T (kd q) (th_RG y1 0 2) []) [.ref a0, .int y1].toArray s 0 0 (th_A T [])) (F0 m 20 ls [.int 0]) := by
    intro H locs ls hH hS hl
    exact th_zret S hK hH hS hr hlocks (iv_w (iv_c (by decide) : IV 0 0 0) (by decide)) (th_RG.i (iv_w (iv_c (by decide) : IV 0 0 0) (by decide)) (fun z => absurd rfl z)) dX10_isFood_20
  have J20_s0_1 : ∀ (H : Heap) (locs : List Loc) (ls : Array Slot), IV y1 0 2 → th_H D cT T (kd q) H → va_S (th_A T []) s.heap H locs → lv_has ls 2 [] → W p l e (rmk 0 0) s m [.ref a0, .int y1].toArray below meth c H locs 0 0 (MQ below (th_Q D cT T (kd q) (th_RG y1 0 2) []) [.ref a0, .int y1].toArray s 0 0 (th_A T [])) (F0 m 20 ls [.int 1]) := by
    intro H locs ls f20_y1 hH hS hl
    exact th_zret S hK hH hS hr hlocks (iv_w (iv_c (by decide) : IV 1 1 1) (by decide)) (th_RG.i (iv_w (iv_c (by decide) : IV 1 1 1) (by decide)) (fun _ => f20_y1)) dX10_isFood_20
  have J19 : ∀ (H : Heap) (locs : List Loc) (ls : Array Slot), th_H D cT T (kd q) H → va_S (th_A T []) s.heap H locs → lv_has ls 2 [] → W p l e (rmk 0 0) s m [.ref a0, .int y1].toArray below meth c H locs 0 0 (MQ below (th_Q D cT T (kd q) (th_RG y1 0 2) []) [.ref a0, .int y1].toArray s 0 0 (th_A T [])) (F0 m 19 ls []) := by
    intro H locs ls hH hS hl
    refine lv_iconst (v := 0) hx hb dX10_isFood_19 (by decide) ?_
    exact J20_s0_0 H locs ls  hH hS (lv_sub hl [] rfl)
  have J0 : ∀ (H : Heap) (locs : List Loc) (ls : Array Slot), th_H D cT T (kd q) H → va_S (th_A T []) s.heap H locs → lv_has ls 2 [(0, .ref a0), (1, .int y1)] → W p l e (rmk 0 0) s m [.ref a0, .int y1].toArray below meth c H locs 0 0 (MQ below (th_Q D cT T (kd q) (th_RG y1 0 2) []) [.ref a0, .int y1].toArray s 0 0 (th_A T [])) (F0 m 0 ls []) := by
    intro H locs ls hH hS hl
    refine lv_iload_n hx hb dX10_isFood_0 rfl (lv_at hl 1 rfl) ?_
    refine lv_if_lt (tgt := 19) hx hb dX10_isFood_1 (by decide) (fun c1 => ?_) (fun c1 => ?_)
    · skip
      have ir2 : IV y1 (-2147483648) (-1) := iv_uL j1 (iv_c (by decide) : IV 0 0 0) (iv_lt c1) (by decide)
      exact J19 H locs ls  hH hS (lv_sub hl [] rfl)
    · skip
      have ir3 : IV y1 0 2147483647 := iv_vR (iv_c (by decide) : IV 0 0 0) j1 (iv_nlt c1) (by decide)
      refine lv_iload_n hx hb dX10_isFood_4 rfl (lv_at hl 1 rfl) ?_
      refine lv_aload_n hx hb dX10_isFood_5 rfl (lv_at hl 0 rfl) ?_
      refine th_get S hK hH inG10 t0 kd_0 rfl 2 (by decide) gm_507 rfl rfl dX10_isFood_6 (fun v4 hv4 fv4 => ?_)
      obtain ⟨a5, rfl, ta5⟩ := th_V.ref hv4
      refine th_get S hK hH inG4 ta5 kd_3 rfl 11 (by decide) gm_277 rfl rfl dX10_isFood_9 (fun v6 hv6 fv6 => ?_)
      obtain ⟨x7, rfl, ix7⟩ := th_V.int hv6
      refine lv_icmp_ge (tgt := 19) hx hb dX10_isFood_12 (by decide) (fun c8 => ?_) (fun c8 => ?_)
      · skip
        exact J19 H locs ls  hH hS (lv_sub hl [] rfl)
      · skip
        have ir9 : IV y1 0 2 := iv_uL ir3 ix7 (iv_nle c8) (by decide)
        have ir10 : IV x7 1 3 := iv_uR ir3 ix7 (iv_nle c8) (by decide)
        refine lv_iconst (v := 1) hx hb dX10_isFood_15 (by decide) ?_
        refine lv_goto (tgt := 20) hx hb dX10_isFood_16 (by decide) ?_
        exact J20_s0_1 H locs ls ir9 hH hS (lv_sub hl [] rfl)
  exact J0 s.heap [] ls hH va_S.rf hl

set_option maxRecDepth 100000 in
theorem m_X10_store (l : Launch) (D : va_G) (cT : Nat → ClassId) (T : Nat → Option Nat) (q : Nat → Int) (hq : qok q) (a0 : Nat) (t0 : T a0 = some 0) (y1 : Int32) (j1 : IV y1 (-2147483648) 2147483647) : th_Met l D cT T (kd q) yX10_store cX10_store 2 (some .int) (rmk 1 21) [.ref a0, .int y1] (th_R T (some (.inl (-2147483648, 2147483647)))) [] := by
  refine th_start (by decide) (Nat.le_of_ble_eq_true rfl) ?_
  intro p e s m below meth c ls S hK hH hr hlocks hnm hl
  have hx := S.1
  have hb := S.2.1
  have hl : lv_has ls 2 [(0, .ref a0), (1, .int y1)] := hl
  have J26 : ∀ (H : Heap) (locs : List Loc) (ls : Array Slot) (w26_0 : Int32), IV w26_0 (-2147483648) 2147483647 → th_H D cT T (kd q) H → va_S (th_A T []) s.heap H locs → lv_has ls 2 [] → W p l e (rmk 1 21) s m [.ref a0, .int y1].toArray below meth c H locs 0 0 (MQ below (th_Q D cT T (kd q) (th_R T (some (.inl (-2147483648, 2147483647)))) []) [.ref a0, .int y1].toArray s 0 0 (th_A T [])) (F0 m 26 ls [.int w26_0]) := by
    intro H locs ls w26_0 iw26_0 hH hS hl
    exact th_iret S hK hH hS hr hlocks (th_R.i iw26_0) dX10_store_26
  have J26_s0_m1 : ∀ (H : Heap) (locs : List Loc) (ls : Array Slot), th_H D cT T (kd q) H → va_S (th_A T []) s.heap H locs → lv_has ls 2 [] → W p l e (rmk 1 21) s m [.ref a0, .int y1].toArray below meth c H locs 0 0 (MQ below (th_Q D cT T (kd q) (th_R T (some (.inl (-2147483648, 2147483647)))) []) [.ref a0, .int y1].toArray s 0 0 (th_A T [])) (F0 m 26 ls [.int (-1)]) := by
    intro H locs ls hH hS hl
    exact th_iret S hK hH hS hr hlocks (th_R.i (iv_top _)) dX10_store_26
  have J0 : ∀ (H : Heap) (locs : List Loc) (ls : Array Slot), th_H D cT T (kd q) H → va_S (th_A T []) s.heap H locs → lv_has ls 2 [(0, .ref a0), (1, .int y1)] → W p l e (rmk 1 21) s m [.ref a0, .int y1].toArray below meth c H locs 0 0 (MQ below (th_Q D cT T (kd q) (th_R T (some (.inl (-2147483648, 2147483647)))) []) [.ref a0, .int y1].toArray s 0 0 (th_A T [])) (F0 m 0 ls []) := by
    intro H locs ls hH hS hl
    refine lv_aload_n hx hb dX10_store_0 rfl (lv_at hl 0 rfl) ?_
    refine lv_iload_n hx hb dX10_store_1 rfl (lv_at hl 1 rfl) ?_
    refine th_callVg (n := 1) (As := [.int y1]) S hK hH hS (th_A.sub (by decide)) (m_X10_isFood l D cT T q hq a0 t0 (y1) j1) gm_824 gm_821 gm_823 gm_23 gm_113 (by decide +kernel) ⟨rfl, rfl, Nat.le_of_ble_eq_true rfl, Nat.le_of_ble_eq_true rfl⟩ t0 kd_0 rfl rfl hl.1 rfl (Nat.le_of_ble_eq_true rfl) dX10_store_2 ⟨Nat.zero_le _, Nat.zero_le _⟩ (fun x1 H locs ix1 ox1 hH hS hF1 => ?_)
    refine lv_if_eq (tgt := 25) hx hb dX10_store_5 (by decide) (fun c2 => ?_) (fun c2 => ?_)
    · skip
      have ir3 : IV x1 0 0 := iv_eL c2 (iv_c (by decide) : IV 0 0 0)
      refine lv_iconst (v := (-1)) hx hb dX10_store_25 (by decide) ?_
      exact J26_s0_m1 H locs ls  hH hS (lv_sub hl [] rfl)
    · skip
      have ir4 : IV x1 1 1 := iv_cutL ix1 (iv_c (by decide) : IV 0 0 0) c2 (by decide)
      have ir5 : IV y1 0 2 := ox1 c2
      refine lv_aload_n hx hb dX10_store_8 rfl (lv_at hl 0 rfl) ?_
      refine th_get S hK hH inG10 t0 kd_0 rfl 4 (by decide) gm_509 rfl rfl dX10_store_9 (fun v6 hv6 fv6 => ?_)
      obtain ⟨a7, rfl, ta7⟩ := th_V.ref hv6
      refine th_callVr (n := 0) (As := []) S hK hH hS (th_A.sub (by decide)) (m_X3_now l D cT T q hq a7 ta7) gm_828 gm_825 gm_826 gm_827 gm_120 (by decide +kernel) ⟨rfl, rfl, Nat.le_of_ble_eq_true rfl, Nat.le_of_ble_eq_true rfl⟩ ta7 kd_5 rfl rfl hl.1 rfl (Nat.le_of_ble_eq_true rfl) dX10_store_12 ⟨Nat.zero_le _, Nat.zero_le _⟩ (fun a8 H locs ta8 hH hS hF1 => ?_)
      refine th_get S hK hH inG7 ta8 kd_10 rfl 0 (by decide) gm_231 rfl rfl dX10_store_15 (fun v9 hv9 fv9 => ?_)
      obtain ⟨a10, rfl, ta10⟩ := th_V.ref hv9
      refine lv_iconst (v := 0) hx hb dX10_store_18 (by decide) ?_
      refine lv_iload_n hx hb dX10_store_19 rfl (lv_at hl 1 rfl) ?_
      refine lv_iadd hx hb dX10_store_20 ?_
      refine lv_topi (fun x11 ex11 => ?_)
      have ix11 : IV x11 0 2 := by rw [ex11]; exact iv_add (iv_c (by decide) : IV 0 0 0) ir5 (by decide)
      refine th_iald S hK hH ta10 kd_29 (th_in (hi := 2) ix11 (by decide)) dX10_store_21 (fun v12 hv12 => ?_)
      obtain ⟨x13, rfl, ix13⟩ := th_V.int hv12
      refine lv_goto (tgt := 26) hx hb dX10_store_22 (by decide) ?_
      exact J26 H locs ls x13 ix13 hH hS (lv_sub hl [] rfl)
  exact J0 s.heap [] ls hH va_S.rf hl

set_option maxRecDepth 100000 in
theorem m_X10_isMap (l : Launch) (D : va_G) (cT : Nat → ClassId) (T : Nat → Option Nat) (q : Nat → Int) (hq : qok q) (a0 : Nat) (t0 : T a0 = some 0) (y1 : Int32) (j1 : IV y1 (-2147483648) 2147483647) : th_Met l D cT T (kd q) yX10_isMap cX10_isMap 2 (some .boolean) (rmk 0 0) [.ref a0, .int y1] (th_RG y1 0 3) [] := by
  refine th_start (by decide) (Nat.le_of_ble_eq_true rfl) ?_
  intro p e s m below meth c ls S hK hH hr hlocks hnm hl
  have hx := S.1
  have hb := S.2.1
  have hl : lv_has ls 2 [(0, .ref a0), (1, .int y1)] := hl
  have J20_s0_0 : ∀ (H : Heap) (locs : List Loc) (ls : Array Slot), th_H D cT T (kd q) H → va_S (th_A T []) s.heap H locs → lv_has ls 2 [] → W p l e (rmk 0 0) s m [.ref a0, .int y1].toArray below meth c H locs 0 0 (MQ below (th_Q D cT T (kd q) (th_RG y1 0 3) []) [.ref a0, .int y1].toArray s 0 0 (th_A T [])) (F0 m 20 ls [.int 0]) := by
    intro H locs ls hH hS hl
    exact th_zret S hK hH hS hr hlocks (iv_w (iv_c (by decide) : IV 0 0 0) (by decide)) (th_RG.i (iv_w (iv_c (by decide) : IV 0 0 0) (by decide)) (fun z => absurd rfl z)) dX10_isMap_20
  have J20_s0_1 : ∀ (H : Heap) (locs : List Loc) (ls : Array Slot), IV y1 0 3 → th_H D cT T (kd q) H → va_S (th_A T []) s.heap H locs → lv_has ls 2 [] → W p l e (rmk 0 0) s m [.ref a0, .int y1].toArray below meth c H locs 0 0 (MQ below (th_Q D cT T (kd q) (th_RG y1 0 3) []) [.ref a0, .int y1].toArray s 0 0 (th_A T [])) (F0 m 20 ls [.int 1]) := by
    intro H locs ls f20_y1 hH hS hl
    exact th_zret S hK hH hS hr hlocks (iv_w (iv_c (by decide) : IV 1 1 1) (by decide)) (th_RG.i (iv_w (iv_c (by decide) : IV 1 1 1) (by decide)) (fun _ => f20_y1)) dX10_isMap_20
  have J19 : ∀ (H : Heap) (locs : List Loc) (ls : Array Slot), th_H D cT T (kd q) H → va_S (th_A T []) s.heap H locs → lv_has ls 2 [] → W p l e (rmk 0 0) s m [.ref a0, .int y1].toArray below meth c H locs 0 0 (MQ below (th_Q D cT T (kd q) (th_RG y1 0 3) []) [.ref a0, .int y1].toArray s 0 0 (th_A T [])) (F0 m 19 ls []) := by
    intro H locs ls hH hS hl
    refine lv_iconst (v := 0) hx hb dX10_isMap_19 (by decide) ?_
    exact J20_s0_0 H locs ls  hH hS (lv_sub hl [] rfl)
  have J0 : ∀ (H : Heap) (locs : List Loc) (ls : Array Slot), th_H D cT T (kd q) H → va_S (th_A T []) s.heap H locs → lv_has ls 2 [(0, .ref a0), (1, .int y1)] → W p l e (rmk 0 0) s m [.ref a0, .int y1].toArray below meth c H locs 0 0 (MQ below (th_Q D cT T (kd q) (th_RG y1 0 3) []) [.ref a0, .int y1].toArray s 0 0 (th_A T [])) (F0 m 0 ls []) := by
    intro H locs ls hH hS hl
    refine lv_iload_n hx hb dX10_isMap_0 rfl (lv_at hl 1 rfl) ?_
    refine lv_if_lt (tgt := 19) hx hb dX10_isMap_1 (by decide) (fun c1 => ?_) (fun c1 => ?_)
    · skip
      have ir2 : IV y1 (-2147483648) (-1) := iv_uL j1 (iv_c (by decide) : IV 0 0 0) (iv_lt c1) (by decide)
      exact J19 H locs ls  hH hS (lv_sub hl [] rfl)
    · skip
      have ir3 : IV y1 0 2147483647 := iv_vR (iv_c (by decide) : IV 0 0 0) j1 (iv_nlt c1) (by decide)
      refine lv_iload_n hx hb dX10_isMap_4 rfl (lv_at hl 1 rfl) ?_
      refine lv_aload_n hx hb dX10_isMap_5 rfl (lv_at hl 0 rfl) ?_
      refine th_get S hK hH inG10 t0 kd_0 rfl 2 (by decide) gm_507 rfl rfl dX10_isMap_6 (fun v4 hv4 fv4 => ?_)
      obtain ⟨a5, rfl, ta5⟩ := th_V.ref hv4
      refine th_get S hK hH inG4 ta5 kd_3 rfl 12 (by decide) gm_282 rfl rfl dX10_isMap_9 (fun v6 hv6 fv6 => ?_)
      obtain ⟨x7, rfl, ix7⟩ := th_V.int hv6
      refine lv_icmp_ge (tgt := 19) hx hb dX10_isMap_12 (by decide) (fun c8 => ?_) (fun c8 => ?_)
      · skip
        exact J19 H locs ls  hH hS (lv_sub hl [] rfl)
      · skip
        have ir9 : IV y1 0 3 := iv_uL ir3 ix7 (iv_nle c8) (by decide)
        have ir10 : IV x7 1 4 := iv_uR ir3 ix7 (iv_nle c8) (by decide)
        refine lv_iconst (v := 1) hx hb dX10_isMap_15 (by decide) ?_
        refine lv_goto (tgt := 20) hx hb dX10_isMap_16 (by decide) ?_
        exact J20_s0_1 H locs ls ir9 hH hS (lv_sub hl [] rfl)
  exact J0 s.heap [] ls hH va_S.rf hl

set_option maxRecDepth 100000 in
theorem m_X10_map (l : Launch) (D : va_G) (cT : Nat → ClassId) (T : Nat → Option Nat) (q : Nat → Int) (hq : qok q) (a0 : Nat) (t0 : T a0 = some 0) (y1 : Int32) (j1 : IV y1 (-2147483648) 2147483647) (y2 : Int32) (j2 : IV y2 (-2147483648) 2147483647) : th_Met l D cT T (kd q) yX10_map cX10_map 4 (some .int) (rmk 2 51) [.ref a0, .int y1, .int y2] (th_R T (some (.inl (-2147483648, 2147483647)))) [18, 19] := by
  refine th_start (by decide) (Nat.le_of_ble_eq_true rfl) ?_
  intro p e s m below meth c ls S hK hH hr hlocks hnm hl
  have hx := S.1
  have hb := S.2.1
  have hl : lv_has ls 4 [(0, .ref a0), (1, .int y1), (2, .int y2)] := hl
  have J0 : ∀ (H : Heap) (locs : List Loc) (ls : Array Slot), th_H D cT T (kd q) H → va_S (th_A T [18, 19]) s.heap H locs → lv_has ls 4 [(0, .ref a0), (1, .int y1), (2, .int y2)] → W p l e (rmk 2 51) s m [.ref a0, .int y1, .int y2].toArray below meth c H locs 0 0 (MQ below (th_Q D cT T (kd q) (th_R T (some (.inl (-2147483648, 2147483647)))) [18, 19]) [.ref a0, .int y1, .int y2].toArray s 0 0 (th_A T [18, 19])) (F0 m 0 ls []) := by
    intro H locs ls hH hS hl
    refine lv_aload_n hx hb dX10_map_0 rfl (lv_at hl 0 rfl) ?_
    refine lv_iload_n hx hb dX10_map_1 rfl (lv_at hl 1 rfl) ?_
    refine th_callVg (n := 1) (As := [.int y1]) S hK hH hS (th_A.sub (by decide)) (m_X10_isMap l D cT T q hq a0 t0 (y1) j1) gm_836 gm_833 gm_835 gm_24 gm_113 (by decide +kernel) ⟨rfl, rfl, Nat.le_of_ble_eq_true rfl, Nat.le_of_ble_eq_true rfl⟩ t0 kd_0 rfl rfl hl.1 rfl (Nat.le_of_ble_eq_true rfl) dX10_map_2 ⟨Nat.zero_le _, Nat.zero_le _⟩ (fun x1 H locs ix1 ox1 hH hS hF1 => ?_)
    refine lv_if_ne (tgt := 10) hx hb dX10_map_5 (by decide) (fun c2 => ?_) (fun c2 => ?_)
    · skip
      have ir3 : IV x1 1 1 := iv_cutL ix1 (iv_c (by decide) : IV 0 0 0) c2 (by decide)
      have ir4 : IV y1 0 3 := ox1 c2
      refine lv_aload_n hx hb dX10_map_10 rfl (lv_at hl 0 rfl) ?_
      refine th_get S hK hH inG10 t0 kd_0 rfl 4 (by decide) gm_509 rfl rfl dX10_map_11 (fun v5 hv5 fv5 => ?_)
      obtain ⟨a6, rfl, ta6⟩ := th_V.ref hv5
      refine th_callVr (n := 0) (As := []) S hK hH hS (th_A.sub (by decide)) (m_X3_now l D cT T q hq a6 ta6) gm_828 gm_825 gm_826 gm_827 gm_120 (by decide +kernel) ⟨rfl, rfl, Nat.le_of_ble_eq_true rfl, Nat.le_of_ble_eq_true rfl⟩ ta6 kd_5 rfl rfl hl.1 rfl (Nat.le_of_ble_eq_true rfl) dX10_map_14 ⟨Nat.zero_le _, Nat.zero_le _⟩ (fun a7 H locs ta7 hH hS hF1 => ?_)
      refine lv_astore_n (lv' := [(3, .ref a7), (0, .ref a0), (1, .int y1), (2, .int y2)]) hx hb dX10_map_17 rfl hl (by decide) rfl (fun ls hl => ?_)
      refine lv_iload_n hx hb dX10_map_18 rfl (lv_at hl 3 rfl) ?_
      by_cases c8 : y2.toInt < 0 ∨ 7 < y2.toInt
      · refine lv_tableOut (tgt := 146) hx hb dX10_map_19 c8 (by decide) ?_
        refine lv_iconst (v := (-1)) hx hb dX10_map_146 (by decide) ?_
        exact th_iret S hK hH hS hr hlocks (th_R.i (iv_top _)) dX10_map_147
      · rcases (show y2.toInt = 0 ∨ y2.toInt = 1 ∨ y2.toInt = 2 ∨ y2.toInt = 3 ∨ y2.toInt = 4 ∨ y2.toInt = 5 ∨ y2.toInt = 6 ∨ y2.toInt = 7 by omega) with c8b | c8b | c8b | c8b | c8b | c8b | c8b | c8b
        · refine lv_tableIn (tgt := 64) (off := 45) hx hb dX10_map_19 (by omega) (by omega) (by rw [c8b]; rfl) (by decide) ?_
          refine lv_aload_n hx hb dX10_map_64 rfl (lv_at hl 1 rfl) ?_
          refine th_get S hK hH inG10 t0 kd_0 rfl 2 (by decide) gm_507 rfl rfl dX10_map_65 (fun v9 hv9 fv9 => ?_)
          obtain ⟨a10, rfl, ta10⟩ := th_V.ref hv9
          refine th_get S hK hH inG4 ta10 kd_3 rfl 3 (by decide) gm_244 rfl rfl dX10_map_68 (fun v11 hv11 fv11 => ?_)
          obtain ⟨a12, rfl, ta12⟩ := th_V.ref hv11
          refine lv_iload_n hx hb dX10_map_71 rfl (lv_at hl 2 rfl) ?_
          refine th_iald S hK hH ta12 kd_23 (th_in (hi := 3) ir4 (by decide)) dX10_map_72 (fun v13 hv13 => ?_)
          obtain ⟨x14, rfl, ix14⟩ := th_V.int hv13
          exact th_iret S hK hH hS hr hlocks (th_R.i ix14) dX10_map_73
        · refine lv_tableIn (tgt := 74) (off := 55) hx hb dX10_map_19 (by omega) (by omega) (by rw [c8b]; rfl) (by decide) ?_
          refine lv_aload_n hx hb dX10_map_74 rfl (lv_at hl 1 rfl) ?_
          refine th_get S hK hH inG10 t0 kd_0 rfl 3 (by decide) gm_508 rfl rfl dX10_map_75 (fun v15 hv15 fv15 => ?_)
          obtain ⟨a16, rfl, ta16⟩ := th_V.ref hv15
          refine lv_aload_n hx hb dX10_map_78 rfl (lv_at hl 0 rfl) ?_
          refine lv_iload_n hx hb dX10_map_79 rfl (lv_at hl 2 rfl) ?_
          refine th_callVi (n := 2) (As := [.ref a7, .int y1]) S hK hH hS (th_A.sub (by decide)) (m_X0_hungerOf l D cT T q hq a16 ta16 a7 ta7 (y1) ir4) gm_840 gm_837 gm_838 gm_839 gm_119 (by decide +kernel) ⟨rfl, rfl, Nat.le_of_ble_eq_true rfl, Nat.le_of_ble_eq_true rfl⟩ ta16 kd_4 rfl rfl hl.1 rfl (Nat.le_of_ble_eq_true rfl) dX10_map_80 ⟨Nat.zero_le _, Nat.zero_le _⟩ (fun x17 H locs ix17 hH hS hF1 => ?_)
          have f18 := fv15.kept (hF1 _ fv15.lt (th_off t0 (by decide)))
          exact th_iret S hK hH hS hr hlocks (th_R.i (iv_top _)) dX10_map_83
        · refine lv_tableIn (tgt := 84) (off := 65) hx hb dX10_map_19 (by omega) (by omega) (by rw [c8b]; rfl) (by decide) ?_
          refine lv_aload_n hx hb dX10_map_84 rfl (lv_at hl 1 rfl) ?_
          refine th_get S hK hH inG10 t0 kd_0 rfl 3 (by decide) gm_508 rfl rfl dX10_map_85 (fun v19 hv19 fv19 => ?_)
          obtain ⟨a20, rfl, ta20⟩ := th_V.ref hv19
          refine lv_aload_n hx hb dX10_map_88 rfl (lv_at hl 0 rfl) ?_
          refine lv_iload_n hx hb dX10_map_89 rfl (lv_at hl 2 rfl) ?_
          refine th_callVi (n := 2) (As := [.ref a7, .int y1]) S hK hH hS (th_A.sub (by decide)) (m_X0_givenTo l D cT T q hq a20 ta20 a7 ta7 (y1) ir4) gm_858 gm_855 gm_856 gm_857 gm_119 (by decide +kernel) ⟨rfl, rfl, Nat.le_of_ble_eq_true rfl, Nat.le_of_ble_eq_true rfl⟩ ta20 kd_4 rfl rfl hl.1 rfl (Nat.le_of_ble_eq_true rfl) dX10_map_90 ⟨Nat.zero_le _, Nat.zero_le _⟩ (fun x21 H locs ix21 hH hS hF1 => ?_)
          have f22 := fv19.kept (hF1 _ fv19.lt (th_off t0 (by decide)))
          exact th_iret S hK hH hS hr hlocks (th_R.i ix21) dX10_map_93
        · refine lv_tableIn (tgt := 94) (off := 75) hx hb dX10_map_19 (by omega) (by omega) (by rw [c8b]; rfl) (by decide) ?_
          refine lv_aload_n hx hb dX10_map_94 rfl (lv_at hl 0 rfl) ?_
          refine th_get S hK hH inG7 ta7 kd_10 rfl 0 (by decide) gm_231 rfl rfl dX10_map_95 (fun v23 hv23 fv23 => ?_)
          obtain ⟨a24, rfl, ta24⟩ := th_V.ref hv23
          refine lv_bipush (v := 31) hx hb dX10_map_98 (by decide) ?_
          refine lv_iload_n hx hb dX10_map_100 rfl (lv_at hl 2 rfl) ?_
          refine lv_iadd hx hb dX10_map_101 ?_
          refine lv_topi (fun x25 ex25 => ?_)
          have ix25 : IV x25 31 34 := by rw [ex25]; exact iv_add (iv_c (by decide) : IV 31 31 31) ir4 (by decide)
          refine th_iald S hK hH ta24 kd_29 (th_in (hi := 34) (iv_w ix25 (by decide)) (by decide)) dX10_map_102 (fun v26 hv26 => ?_)
          obtain ⟨x27, rfl, ix27⟩ := th_V.int hv26
          exact th_iret S hK hH hS hr hlocks (th_R.i ix27) dX10_map_103
        · refine lv_tableIn (tgt := 104) (off := 85) hx hb dX10_map_19 (by omega) (by omega) (by rw [c8b]; rfl) (by decide) ?_
          refine lv_aload_n hx hb dX10_map_104 rfl (lv_at hl 0 rfl) ?_
          refine th_get S hK hH inG7 ta7 kd_10 rfl 0 (by decide) gm_231 rfl rfl dX10_map_105 (fun v28 hv28 fv28 => ?_)
          obtain ⟨a29, rfl, ta29⟩ := th_V.ref hv28
          refine lv_bipush (v := 39) hx hb dX10_map_108 (by decide) ?_
          refine th_iald S hK hH ta29 kd_29 (th_in (hi := 39) (iv_w (iv_c (by decide) : IV 39 39 39) (by decide)) (by decide)) dX10_map_110 (fun v30 hv30 => ?_)
          obtain ⟨x31, rfl, ix31⟩ := th_V.int hv30
          refine lv_iload_n hx hb dX10_map_111 rfl (lv_at hl 2 rfl) ?_
          refine lv_ishr hx hb dX10_map_112 ?_
          refine lv_topi (fun x32 ex32 => ?_)
          have ix32 := iv_top x32
          refine lv_iconst (v := 1) hx hb dX10_map_113 (by decide) ?_
          refine lv_iand hx hb dX10_map_114 ?_
          refine lv_topi (fun x33 ex33 => ?_)
          have ix33 : IV x33 0 1 := by rw [ex33]; exact iv_and (h2 := 1) (iv_w (iv_c (by decide) : IV 1 1 1) (by decide)) (by decide)
          exact th_iret S hK hH hS hr hlocks (th_R.i (iv_top _)) dX10_map_115
        · refine lv_tableIn (tgt := 116) (off := 97) hx hb dX10_map_19 (by omega) (by omega) (by rw [c8b]; rfl) (by decide) ?_
          refine lv_aload_n hx hb dX10_map_116 rfl (lv_at hl 0 rfl) ?_
          refine th_get S hK hH inG7 ta7 kd_10 rfl 0 (by decide) gm_231 rfl rfl dX10_map_117 (fun v34 hv34 fv34 => ?_)
          obtain ⟨a35, rfl, ta35⟩ := th_V.ref hv34
          refine lv_bipush (v := 35) hx hb dX10_map_120 (by decide) ?_
          refine lv_iload_n hx hb dX10_map_122 rfl (lv_at hl 2 rfl) ?_
          refine lv_iadd hx hb dX10_map_123 ?_
          refine lv_topi (fun x36 ex36 => ?_)
          have ix36 : IV x36 35 38 := by rw [ex36]; exact iv_add (iv_c (by decide) : IV 35 35 35) ir4 (by decide)
          refine th_iald S hK hH ta35 kd_29 (th_in (hi := 38) (iv_w ix36 (by decide)) (by decide)) dX10_map_124 (fun v37 hv37 => ?_)
          obtain ⟨x38, rfl, ix38⟩ := th_V.int hv37
          exact th_iret S hK hH hS hr hlocks (th_R.i ix38) dX10_map_125
        · refine lv_tableIn (tgt := 126) (off := 107) hx hb dX10_map_19 (by omega) (by omega) (by rw [c8b]; rfl) (by decide) ?_
          refine lv_aload_n hx hb dX10_map_126 rfl (lv_at hl 1 rfl) ?_
          refine th_get S hK hH inG10 t0 kd_0 rfl 2 (by decide) gm_507 rfl rfl dX10_map_127 (fun v39 hv39 fv39 => ?_)
          obtain ⟨a40, rfl, ta40⟩ := th_V.ref hv39
          refine th_get S hK hH inG4 ta40 kd_3 rfl 6 (by decide) gm_255 rfl rfl dX10_map_130 (fun v41 hv41 fv41 => ?_)
          obtain ⟨a42, rfl, ta42⟩ := th_V.ref hv41
          refine lv_iload_n hx hb dX10_map_133 rfl (lv_at hl 2 rfl) ?_
          refine th_iald S hK hH ta42 kd_26 (th_in (hi := 3) ir4 (by decide)) dX10_map_134 (fun v43 hv43 => ?_)
          obtain ⟨x44, rfl, ix44⟩ := th_V.int hv43
          exact th_iret S hK hH hS hr hlocks (th_R.i ix44) dX10_map_135
        · refine lv_tableIn (tgt := 136) (off := 117) hx hb dX10_map_19 (by omega) (by omega) (by rw [c8b]; rfl) (by decide) ?_
          refine lv_aload_n hx hb dX10_map_136 rfl (lv_at hl 1 rfl) ?_
          refine th_get S hK hH inG10 t0 kd_0 rfl 2 (by decide) gm_507 rfl rfl dX10_map_137 (fun v45 hv45 fv45 => ?_)
          obtain ⟨a46, rfl, ta46⟩ := th_V.ref hv45
          refine th_get S hK hH inG4 ta46 kd_3 rfl 7 (by decide) gm_259 rfl rfl dX10_map_140 (fun v47 hv47 fv47 => ?_)
          obtain ⟨a48, rfl, ta48⟩ := th_V.ref hv47
          refine lv_iload_n hx hb dX10_map_143 rfl (lv_at hl 2 rfl) ?_
          refine th_iald S hK hH ta48 kd_27 (th_in (hi := 3) ir4 (by decide)) dX10_map_144 (fun v49 hv49 => ?_)
          obtain ⟨x50, rfl, ix50⟩ := th_V.int hv49
          exact th_iret S hK hH hS hr hlocks (th_R.i ix50) dX10_map_145
    · skip
      have ir51 : IV x1 0 0 := iv_eL c2 (iv_c (by decide) : IV 0 0 0)
      refine lv_iconst (v := (-1)) hx hb dX10_map_8 (by decide) ?_
      exact th_iret S hK hH hS hr hlocks (th_R.i (iv_top _)) dX10_map_9
  exact J0 s.heap [] ls hH va_S.rf hl

set_option maxRecDepth 100000 in
theorem m_X10_isPlace (l : Launch) (D : va_G) (cT : Nat → ClassId) (T : Nat → Option Nat) (q : Nat → Int) (hq : qok q) (a0 : Nat) (t0 : T a0 = some 0) (y1 : Int32) (j1 : IV y1 (-2147483648) 2147483647) : th_Met l D cT T (kd q) yX10_isPlace cX10_isPlace 2 (some .boolean) (rmk 0 0) [.ref a0, .int y1] (th_RG y1 0 7) [] := by
  refine th_start (by decide) (Nat.le_of_ble_eq_true rfl) ?_
  intro p e s m below meth c ls S hK hH hr hlocks hnm hl
  have hx := S.1
  have hb := S.2.1
  have hl : lv_has ls 2 [(0, .ref a0), (1, .int y1)] := hl
  have J20_s0_0 : ∀ (H : Heap) (locs : List Loc) (ls : Array Slot), th_H D cT T (kd q) H → va_S (th_A T []) s.heap H locs → lv_has ls 2 [] → W p l e (rmk 0 0) s m [.ref a0, .int y1].toArray below meth c H locs 0 0 (MQ below (th_Q D cT T (kd q) (th_RG y1 0 7) []) [.ref a0, .int y1].toArray s 0 0 (th_A T [])) (F0 m 20 ls [.int 0]) := by
    intro H locs ls hH hS hl
    exact th_zret S hK hH hS hr hlocks (iv_w (iv_c (by decide) : IV 0 0 0) (by decide)) (th_RG.i (iv_w (iv_c (by decide) : IV 0 0 0) (by decide)) (fun z => absurd rfl z)) dX10_isPlace_20
  have J20_s0_1 : ∀ (H : Heap) (locs : List Loc) (ls : Array Slot), IV y1 0 7 → th_H D cT T (kd q) H → va_S (th_A T []) s.heap H locs → lv_has ls 2 [] → W p l e (rmk 0 0) s m [.ref a0, .int y1].toArray below meth c H locs 0 0 (MQ below (th_Q D cT T (kd q) (th_RG y1 0 7) []) [.ref a0, .int y1].toArray s 0 0 (th_A T [])) (F0 m 20 ls [.int 1]) := by
    intro H locs ls f20_y1 hH hS hl
    exact th_zret S hK hH hS hr hlocks (iv_w (iv_c (by decide) : IV 1 1 1) (by decide)) (th_RG.i (iv_w (iv_c (by decide) : IV 1 1 1) (by decide)) (fun _ => f20_y1)) dX10_isPlace_20
  have J19 : ∀ (H : Heap) (locs : List Loc) (ls : Array Slot), th_H D cT T (kd q) H → va_S (th_A T []) s.heap H locs → lv_has ls 2 [] → W p l e (rmk 0 0) s m [.ref a0, .int y1].toArray below meth c H locs 0 0 (MQ below (th_Q D cT T (kd q) (th_RG y1 0 7) []) [.ref a0, .int y1].toArray s 0 0 (th_A T [])) (F0 m 19 ls []) := by
    intro H locs ls hH hS hl
    refine lv_iconst (v := 0) hx hb dX10_isPlace_19 (by decide) ?_
    exact J20_s0_0 H locs ls  hH hS (lv_sub hl [] rfl)
  have J0 : ∀ (H : Heap) (locs : List Loc) (ls : Array Slot), th_H D cT T (kd q) H → va_S (th_A T []) s.heap H locs → lv_has ls 2 [(0, .ref a0), (1, .int y1)] → W p l e (rmk 0 0) s m [.ref a0, .int y1].toArray below meth c H locs 0 0 (MQ below (th_Q D cT T (kd q) (th_RG y1 0 7) []) [.ref a0, .int y1].toArray s 0 0 (th_A T [])) (F0 m 0 ls []) := by
    intro H locs ls hH hS hl
    refine lv_iload_n hx hb dX10_isPlace_0 rfl (lv_at hl 1 rfl) ?_
    refine lv_if_lt (tgt := 19) hx hb dX10_isPlace_1 (by decide) (fun c1 => ?_) (fun c1 => ?_)
    · skip
      have ir2 : IV y1 (-2147483648) (-1) := iv_uL j1 (iv_c (by decide) : IV 0 0 0) (iv_lt c1) (by decide)
      exact J19 H locs ls  hH hS (lv_sub hl [] rfl)
    · skip
      have ir3 : IV y1 0 2147483647 := iv_vR (iv_c (by decide) : IV 0 0 0) j1 (iv_nlt c1) (by decide)
      refine lv_iload_n hx hb dX10_isPlace_4 rfl (lv_at hl 1 rfl) ?_
      refine lv_aload_n hx hb dX10_isPlace_5 rfl (lv_at hl 0 rfl) ?_
      refine th_get S hK hH inG10 t0 kd_0 rfl 2 (by decide) gm_507 rfl rfl dX10_isPlace_6 (fun v4 hv4 fv4 => ?_)
      obtain ⟨a5, rfl, ta5⟩ := th_V.ref hv4
      refine th_get S hK hH inG4 ta5 kd_3 rfl 13 (by decide) gm_287 rfl rfl dX10_isPlace_9 (fun v6 hv6 fv6 => ?_)
      obtain ⟨x7, rfl, ix7⟩ := th_V.int hv6
      refine lv_icmp_ge (tgt := 19) hx hb dX10_isPlace_12 (by decide) (fun c8 => ?_) (fun c8 => ?_)
      · skip
        exact J19 H locs ls  hH hS (lv_sub hl [] rfl)
      · skip
        have ir9 : IV y1 0 7 := iv_uL ir3 ix7 (iv_nle c8) (by decide)
        have ir10 : IV x7 1 8 := iv_uR ir3 ix7 (iv_nle c8) (by decide)
        refine lv_iconst (v := 1) hx hb dX10_isPlace_15 (by decide) ?_
        refine lv_goto (tgt := 20) hx hb dX10_isPlace_16 (by decide) ?_
        exact J20_s0_1 H locs ls ir9 hH hS (lv_sub hl [] rfl)
  exact J0 s.heap [] ls hH va_S.rf hl

set_option maxRecDepth 100000 in
theorem m_X10_place (l : Launch) (D : va_G) (cT : Nat → ClassId) (T : Nat → Option Nat) (q : Nat → Int) (hq : qok q) (a0 : Nat) (t0 : T a0 = some 0) (y1 : Int32) (j1 : IV y1 (-2147483648) 2147483647) (y2 : Int32) (j2 : IV y2 (-2147483648) 2147483647) : th_Met l D cT T (kd q) yX10_place cX10_place 3 (some .int) (rmk 1 21) [.ref a0, .int y1, .int y2] (th_R T (some (.inl (-2147483648, 2147483647)))) [] := by
  refine th_start (by decide) (Nat.le_of_ble_eq_true rfl) ?_
  intro p e s m below meth c ls S hK hH hr hlocks hnm hl
  have hx := S.1
  have hb := S.2.1
  have hl : lv_has ls 3 [(0, .ref a0), (1, .int y1), (2, .int y2)] := hl
  have J0 : ∀ (H : Heap) (locs : List Loc) (ls : Array Slot), th_H D cT T (kd q) H → va_S (th_A T []) s.heap H locs → lv_has ls 3 [(0, .ref a0), (1, .int y1), (2, .int y2)] → W p l e (rmk 1 21) s m [.ref a0, .int y1, .int y2].toArray below meth c H locs 0 0 (MQ below (th_Q D cT T (kd q) (th_R T (some (.inl (-2147483648, 2147483647)))) []) [.ref a0, .int y1, .int y2].toArray s 0 0 (th_A T [])) (F0 m 0 ls []) := by
    intro H locs ls hH hS hl
    refine lv_aload_n hx hb dX10_place_0 rfl (lv_at hl 0 rfl) ?_
    refine lv_iload_n hx hb dX10_place_1 rfl (lv_at hl 1 rfl) ?_
    refine th_callVg (n := 1) (As := [.int y1]) S hK hH hS (th_A.sub (by decide)) (m_X10_isPlace l D cT T q hq a0 t0 (y1) j1) gm_866 gm_863 gm_865 gm_26 gm_113 (by decide +kernel) ⟨rfl, rfl, Nat.le_of_ble_eq_true rfl, Nat.le_of_ble_eq_true rfl⟩ t0 kd_0 rfl rfl hl.1 rfl (Nat.le_of_ble_eq_true rfl) dX10_place_2 ⟨Nat.zero_le _, Nat.zero_le _⟩ (fun x1 H locs ix1 ox1 hH hS hF1 => ?_)
    refine lv_if_ne (tgt := 10) hx hb dX10_place_5 (by decide) (fun c2 => ?_) (fun c2 => ?_)
    · skip
      have ir3 : IV x1 1 1 := iv_cutL ix1 (iv_c (by decide) : IV 0 0 0) c2 (by decide)
      have ir4 : IV y1 0 7 := ox1 c2
      refine lv_iload_n hx hb dX10_place_10 rfl (lv_at hl 2 rfl) ?_
      by_cases c5 : y2.toInt < 0 ∨ 3 < y2.toInt
      · refine lv_tableOut (tgt := 92) hx hb dX10_place_11 c5 (by decide) ?_
        refine lv_iconst (v := (-1)) hx hb dX10_place_92 (by decide) ?_
        exact th_iret S hK hH hS hr hlocks (th_R.i (iv_top _)) dX10_place_93
      · rcases (show y2.toInt = 0 ∨ y2.toInt = 1 ∨ y2.toInt = 2 ∨ y2.toInt = 3 by omega) with c5b | c5b | c5b | c5b
        · refine lv_tableIn (tgt := 40) (off := 29) hx hb dX10_place_11 (by omega) (by omega) (by rw [c5b]; rfl) (by decide) ?_
          refine lv_aload_n hx hb dX10_place_40 rfl (lv_at hl 0 rfl) ?_
          refine th_get S hK hH inG10 t0 kd_0 rfl 4 (by decide) gm_509 rfl rfl dX10_place_41 (fun v6 hv6 fv6 => ?_)
          obtain ⟨a7, rfl, ta7⟩ := th_V.ref hv6
          refine th_callVr (n := 0) (As := []) S hK hH hS (th_A.sub (by decide)) (m_X3_now l D cT T q hq a7 ta7) gm_828 gm_825 gm_826 gm_827 gm_120 (by decide +kernel) ⟨rfl, rfl, Nat.le_of_ble_eq_true rfl, Nat.le_of_ble_eq_true rfl⟩ ta7 kd_5 rfl rfl hl.1 rfl (Nat.le_of_ble_eq_true rfl) dX10_place_44 ⟨Nat.zero_le _, Nat.zero_le _⟩ (fun a8 H locs ta8 hH hS hF1 => ?_)
          have f9 := fv6.kept (hF1 _ fv6.lt (th_off t0 (by decide)))
          refine th_get S hK hH inG7 ta8 kd_10 rfl 0 (by decide) gm_231 rfl rfl dX10_place_47 (fun v10 hv10 fv10 => ?_)
          obtain ⟨a11, rfl, ta11⟩ := th_V.ref hv10
          refine lv_bipush (v := 15) hx hb dX10_place_50 (by decide) ?_
          refine lv_iload_n hx hb dX10_place_52 rfl (lv_at hl 1 rfl) ?_
          refine lv_iadd hx hb dX10_place_53 ?_
          refine lv_topi (fun x12 ex12 => ?_)
          have ix12 : IV x12 15 22 := by rw [ex12]; exact iv_add (iv_c (by decide) : IV 15 15 15) ir4 (by decide)
          refine th_iald S hK hH ta11 kd_29 (th_in (hi := 22) (iv_w ix12 (by decide)) (by decide)) dX10_place_54 (fun v13 hv13 => ?_)
          obtain ⟨x14, rfl, ix14⟩ := th_V.int hv13
          exact th_iret S hK hH hS hr hlocks (th_R.i ix14) dX10_place_55
        · refine lv_tableIn (tgt := 56) (off := 45) hx hb dX10_place_11 (by omega) (by omega) (by rw [c5b]; rfl) (by decide) ?_
          refine lv_aload_n hx hb dX10_place_56 rfl (lv_at hl 0 rfl) ?_
          refine th_get S hK hH inG10 t0 kd_0 rfl 2 (by decide) gm_507 rfl rfl dX10_place_57 (fun v15 hv15 fv15 => ?_)
          obtain ⟨a16, rfl, ta16⟩ := th_V.ref hv15
          refine th_get S hK hH inG4 ta16 kd_3 rfl 4 (by decide) gm_248 rfl rfl dX10_place_60 (fun v17 hv17 fv17 => ?_)
          obtain ⟨a18, rfl, ta18⟩ := th_V.ref hv17
          refine lv_iload_n hx hb dX10_place_63 rfl (lv_at hl 1 rfl) ?_
          refine th_iald S hK hH ta18 kd_24 (th_in (hi := 7) ir4 (by decide)) dX10_place_64 (fun v19 hv19 => ?_)
          obtain ⟨x20, rfl, ix20⟩ := th_V.int hv19
          exact th_iret S hK hH hS hr hlocks (th_R.i ix20) dX10_place_65
        · refine lv_tableIn (tgt := 66) (off := 55) hx hb dX10_place_11 (by omega) (by omega) (by rw [c5b]; rfl) (by decide) ?_
          refine lv_aload_n hx hb dX10_place_66 rfl (lv_at hl 0 rfl) ?_
          refine th_get S hK hH inG10 t0 kd_0 rfl 4 (by decide) gm_509 rfl rfl dX10_place_67 (fun v21 hv21 fv21 => ?_)
          obtain ⟨a22, rfl, ta22⟩ := th_V.ref hv21
          refine th_callVr (n := 0) (As := []) S hK hH hS (th_A.sub (by decide)) (m_X3_now l D cT T q hq a22 ta22) gm_828 gm_825 gm_826 gm_827 gm_120 (by decide +kernel) ⟨rfl, rfl, Nat.le_of_ble_eq_true rfl, Nat.le_of_ble_eq_true rfl⟩ ta22 kd_5 rfl rfl hl.1 rfl (Nat.le_of_ble_eq_true rfl) dX10_place_70 ⟨Nat.zero_le _, Nat.zero_le _⟩ (fun a23 H locs ta23 hH hS hF1 => ?_)
          have f24 := fv21.kept (hF1 _ fv21.lt (th_off t0 (by decide)))
          refine th_get S hK hH inG7 ta23 kd_10 rfl 0 (by decide) gm_231 rfl rfl dX10_place_73 (fun v25 hv25 fv25 => ?_)
          obtain ⟨a26, rfl, ta26⟩ := th_V.ref hv25
          refine lv_bipush (v := 23) hx hb dX10_place_76 (by decide) ?_
          refine lv_iload_n hx hb dX10_place_78 rfl (lv_at hl 1 rfl) ?_
          refine lv_iadd hx hb dX10_place_79 ?_
          refine lv_topi (fun x27 ex27 => ?_)
          have ix27 : IV x27 23 30 := by rw [ex27]; exact iv_add (iv_c (by decide) : IV 23 23 23) ir4 (by decide)
          refine th_iald S hK hH ta26 kd_29 (th_in (hi := 30) (iv_w ix27 (by decide)) (by decide)) dX10_place_80 (fun v28 hv28 => ?_)
          obtain ⟨x29, rfl, ix29⟩ := th_V.int hv28
          exact th_iret S hK hH hS hr hlocks (th_R.i ix29) dX10_place_81
        · refine lv_tableIn (tgt := 82) (off := 71) hx hb dX10_place_11 (by omega) (by omega) (by rw [c5b]; rfl) (by decide) ?_
          refine lv_aload_n hx hb dX10_place_82 rfl (lv_at hl 0 rfl) ?_
          refine th_get S hK hH inG10 t0 kd_0 rfl 2 (by decide) gm_507 rfl rfl dX10_place_83 (fun v30 hv30 fv30 => ?_)
          obtain ⟨a31, rfl, ta31⟩ := th_V.ref hv30
          refine th_get S hK hH inG4 ta31 kd_3 rfl 5 (by decide) gm_251 rfl rfl dX10_place_86 (fun v32 hv32 fv32 => ?_)
          obtain ⟨a33, rfl, ta33⟩ := th_V.ref hv32
          refine lv_iload_n hx hb dX10_place_89 rfl (lv_at hl 1 rfl) ?_
          refine th_iald S hK hH ta33 kd_25 (th_in (hi := 7) ir4 (by decide)) dX10_place_90 (fun v34 hv34 => ?_)
          obtain ⟨x35, rfl, ix35⟩ := th_V.int hv34
          exact th_iret S hK hH hS hr hlocks (th_R.i ix35) dX10_place_91
    · skip
      have ir36 : IV x1 0 0 := iv_eL c2 (iv_c (by decide) : IV 0 0 0)
      refine lv_iconst (v := (-1)) hx hb dX10_place_8 (by decide) ?_
      exact th_iret S hK hH hS hr hlocks (th_R.i (iv_top _)) dX10_place_9
  exact J0 s.heap [] ls hH va_S.rf hl

set_option maxRecDepth 100000 in
theorem m_X10_taste (l : Launch) (D : va_G) (cT : Nat → ClassId) (T : Nat → Option Nat) (q : Nat → Int) (hq : qok q) (a0 : Nat) (t0 : T a0 = some 0) (y1 : Int32) (j1 : IV y1 (-2147483648) 2147483647) (y2 : Int32) (j2 : IV y2 (-2147483648) 2147483647) : th_Met l D cT T (kd q) yX10_taste cX10_taste 3 (some .int) (rmk 2 51) [.ref a0, .int y1, .int y2] (th_R T (some (.inl (-2147483648, 2147483647)))) [18, 19] := by
  refine th_start (by decide) (Nat.le_of_ble_eq_true rfl) ?_
  intro p e s m below meth c ls S hK hH hr hlocks hnm hl
  have hx := S.1
  have hb := S.2.1
  have hl : lv_has ls 3 [(0, .ref a0), (1, .int y1), (2, .int y2)] := hl
  have J16 : ∀ (H : Heap) (locs : List Loc) (ls : Array Slot), th_H D cT T (kd q) H → va_S (th_A T [18, 19]) s.heap H locs → lv_has ls 3 [] → W p l e (rmk 2 51) s m [.ref a0, .int y1, .int y2].toArray below meth c H locs 0 0 (MQ below (th_Q D cT T (kd q) (th_R T (some (.inl (-2147483648, 2147483647)))) [18, 19]) [.ref a0, .int y1, .int y2].toArray s 0 0 (th_A T [18, 19])) (F0 m 16 ls []) := by
    intro H locs ls hH hS hl
    refine lv_ldc (v := (-1000000)) hx hb S.2.2.2.1 (S.2.2.2.2 _ gm_871) dX10_taste_16 ?_
    exact th_iret S hK hH hS hr hlocks (th_R.i (iv_top _)) dX10_taste_18
  have J0 : ∀ (H : Heap) (locs : List Loc) (ls : Array Slot), th_H D cT T (kd q) H → va_S (th_A T [18, 19]) s.heap H locs → lv_has ls 3 [(0, .ref a0), (1, .int y1), (2, .int y2)] → W p l e (rmk 2 51) s m [.ref a0, .int y1, .int y2].toArray below meth c H locs 0 0 (MQ below (th_Q D cT T (kd q) (th_R T (some (.inl (-2147483648, 2147483647)))) [18, 19]) [.ref a0, .int y1, .int y2].toArray s 0 0 (th_A T [18, 19])) (F0 m 0 ls []) := by
    intro H locs ls hH hS hl
    refine lv_aload_n hx hb dX10_taste_0 rfl (lv_at hl 0 rfl) ?_
    refine lv_iload_n hx hb dX10_taste_1 rfl (lv_at hl 1 rfl) ?_
    refine th_callVg (n := 1) (As := [.int y1]) S hK hH hS (th_A.sub (by decide)) (m_X10_isPlace l D cT T q hq a0 t0 (y1) j1) gm_866 gm_863 gm_865 gm_26 gm_113 (by decide +kernel) ⟨rfl, rfl, Nat.le_of_ble_eq_true rfl, Nat.le_of_ble_eq_true rfl⟩ t0 kd_0 rfl rfl hl.1 rfl (Nat.le_of_ble_eq_true rfl) dX10_taste_2 ⟨Nat.zero_le _, Nat.zero_le _⟩ (fun x1 H locs ix1 ox1 hH hS hF1 => ?_)
    refine lv_if_eq (tgt := 16) hx hb dX10_taste_5 (by decide) (fun c2 => ?_) (fun c2 => ?_)
    · skip
      have ir3 : IV x1 0 0 := iv_eL c2 (iv_c (by decide) : IV 0 0 0)
      exact J16 H locs ls  hH hS (lv_sub hl [] rfl)
    · skip
      have ir4 : IV x1 1 1 := iv_cutL ix1 (iv_c (by decide) : IV 0 0 0) c2 (by decide)
      have ir5 : IV y1 0 7 := ox1 c2
      refine lv_aload_n hx hb dX10_taste_8 rfl (lv_at hl 0 rfl) ?_
      refine lv_iload_n hx hb dX10_taste_9 rfl (lv_at hl 2 rfl) ?_
      refine th_callVg (n := 1) (As := [.int y2]) S hK hH hS (th_A.sub (by decide)) (m_X10_isMap l D cT T q hq a0 t0 (y2) j2) gm_836 gm_833 gm_835 gm_24 gm_113 (by decide +kernel) ⟨rfl, rfl, Nat.le_of_ble_eq_true rfl, Nat.le_of_ble_eq_true rfl⟩ t0 kd_0 rfl rfl hl.1 rfl (Nat.le_of_ble_eq_true rfl) dX10_taste_10 ⟨Nat.zero_le _, Nat.zero_le _⟩ (fun x6 H locs ix6 ox6 hH hS hF1 => ?_)
      refine lv_if_ne (tgt := 19) hx hb dX10_taste_13 (by decide) (fun c7 => ?_) (fun c7 => ?_)
      · skip
        have ir8 : IV x6 1 1 := iv_cutL ix6 (iv_c (by decide) : IV 0 0 0) c7 (by decide)
        have ir9 : IV y2 0 3 := ox6 c7
        refine lv_aload_n hx hb dX10_taste_19 rfl (lv_at hl 0 rfl) ?_
        refine th_get S hK hH inG10 t0 kd_0 rfl 3 (by decide) gm_508 rfl rfl dX10_taste_20 (fun v10 hv10 fv10 => ?_)
        obtain ⟨a11, rfl, ta11⟩ := th_V.ref hv10
        refine lv_aload_n hx hb dX10_taste_23 rfl (lv_at hl 0 rfl) ?_
        refine th_get S hK hH inG10 t0 kd_0 rfl 4 (by decide) gm_509 rfl rfl dX10_taste_24 (fun v12 hv12 fv12 => ?_)
        obtain ⟨a13, rfl, ta13⟩ := th_V.ref hv12
        refine th_callVr (n := 0) (As := []) S hK hH hS (th_A.sub (by decide)) (m_X3_now l D cT T q hq a13 ta13) gm_828 gm_825 gm_826 gm_827 gm_120 (by decide +kernel) ⟨rfl, rfl, Nat.le_of_ble_eq_true rfl, Nat.le_of_ble_eq_true rfl⟩ ta13 kd_5 rfl rfl hl.1 rfl (Nat.le_of_ble_eq_true rfl) dX10_taste_27 ⟨Nat.zero_le _, Nat.zero_le _⟩ (fun a14 H locs ta14 hH hS hF1 => ?_)
        refine lv_iload_n hx hb dX10_taste_30 rfl (lv_at hl 1 rfl) ?_
        refine lv_iload_n hx hb dX10_taste_31 rfl (lv_at hl 2 rfl) ?_
        refine th_callVi (n := 3) (As := [.ref a14, .int y1, .int y2]) S hK hH hS (th_A.sub (by decide)) (m_X0_tasteOf l D cT T q hq a11 ta11 a14 ta14 (y1) ir5 (y2) ir9) gm_875 gm_872 gm_873 gm_874 gm_119 (by decide +kernel) ⟨rfl, rfl, Nat.le_of_ble_eq_true rfl, Nat.le_of_ble_eq_true rfl⟩ ta11 kd_4 rfl rfl hl.1 rfl (Nat.le_of_ble_eq_true rfl) dX10_taste_32 ⟨Nat.zero_le _, Nat.zero_le _⟩ (fun x15 H locs ix15 hH hS hF1 => ?_)
        exact th_iret S hK hH hS hr hlocks (th_R.i ix15) dX10_taste_35
      · skip
        have ir16 : IV x6 0 0 := iv_eL c7 (iv_c (by decide) : IV 0 0 0)
        exact J16 H locs ls  hH hS (lv_sub hl [] rfl)
  exact J0 s.heap [] ls hH va_S.rf hl

set_option maxRecDepth 100000 in
theorem m_X10_likes (l : Launch) (D : va_G) (cT : Nat → ClassId) (T : Nat → Option Nat) (q : Nat → Int) (hq : qok q) (a0 : Nat) (t0 : T a0 = some 0) (y1 : Int32) (j1 : IV y1 (-2147483648) 2147483647) (y2 : Int32) (j2 : IV y2 (-2147483648) 2147483647) : th_Met l D cT T (kd q) yX10_likes cX10_likes 3 (some .int) (rmk 1 21) [.ref a0, .int y1, .int y2] (th_R T (some (.inl (-2147483648, 2147483647)))) [] := by
  refine th_start (by decide) (Nat.le_of_ble_eq_true rfl) ?_
  intro p e s m below meth c ls S hK hH hr hlocks hnm hl
  have hx := S.1
  have hb := S.2.1
  have hl : lv_has ls 3 [(0, .ref a0), (1, .int y1), (2, .int y2)] := hl
  have J33 : ∀ (H : Heap) (locs : List Loc) (ls : Array Slot) (w33_0 : Int32), IV w33_0 (-2147483648) 2147483647 → th_H D cT T (kd q) H → va_S (th_A T []) s.heap H locs → lv_has ls 3 [] → W p l e (rmk 1 21) s m [.ref a0, .int y1, .int y2].toArray below meth c H locs 0 0 (MQ below (th_Q D cT T (kd q) (th_R T (some (.inl (-2147483648, 2147483647)))) []) [.ref a0, .int y1, .int y2].toArray s 0 0 (th_A T [])) (F0 m 33 ls [.int w33_0]) := by
    intro H locs ls w33_0 iw33_0 hH hS hl
    exact th_iret S hK hH hS hr hlocks (th_R.i iw33_0) dX10_likes_33
  have J33_s0_m1 : ∀ (H : Heap) (locs : List Loc) (ls : Array Slot), th_H D cT T (kd q) H → va_S (th_A T []) s.heap H locs → lv_has ls 3 [] → W p l e (rmk 1 21) s m [.ref a0, .int y1, .int y2].toArray below meth c H locs 0 0 (MQ below (th_Q D cT T (kd q) (th_R T (some (.inl (-2147483648, 2147483647)))) []) [.ref a0, .int y1, .int y2].toArray s 0 0 (th_A T [])) (F0 m 33 ls [.int (-1)]) := by
    intro H locs ls hH hS hl
    exact th_iret S hK hH hS hr hlocks (th_R.i (iv_top _)) dX10_likes_33
  have J32 : ∀ (H : Heap) (locs : List Loc) (ls : Array Slot), th_H D cT T (kd q) H → va_S (th_A T []) s.heap H locs → lv_has ls 3 [] → W p l e (rmk 1 21) s m [.ref a0, .int y1, .int y2].toArray below meth c H locs 0 0 (MQ below (th_Q D cT T (kd q) (th_R T (some (.inl (-2147483648, 2147483647)))) []) [.ref a0, .int y1, .int y2].toArray s 0 0 (th_A T [])) (F0 m 32 ls []) := by
    intro H locs ls hH hS hl
    refine lv_iconst (v := (-1)) hx hb dX10_likes_32 (by decide) ?_
    exact J33_s0_m1 H locs ls  hH hS (lv_sub hl [] rfl)
  have J0 : ∀ (H : Heap) (locs : List Loc) (ls : Array Slot), th_H D cT T (kd q) H → va_S (th_A T []) s.heap H locs → lv_has ls 3 [(0, .ref a0), (1, .int y1), (2, .int y2)] → W p l e (rmk 1 21) s m [.ref a0, .int y1, .int y2].toArray below meth c H locs 0 0 (MQ below (th_Q D cT T (kd q) (th_R T (some (.inl (-2147483648, 2147483647)))) []) [.ref a0, .int y1, .int y2].toArray s 0 0 (th_A T [])) (F0 m 0 ls []) := by
    intro H locs ls hH hS hl
    refine lv_aload_n hx hb dX10_likes_0 rfl (lv_at hl 0 rfl) ?_
    refine lv_iload_n hx hb dX10_likes_1 rfl (lv_at hl 1 rfl) ?_
    refine th_callVg (n := 1) (As := [.int y1]) S hK hH hS (th_A.sub (by decide)) (m_X10_isMap l D cT T q hq a0 t0 (y1) j1) gm_836 gm_833 gm_835 gm_24 gm_113 (by decide +kernel) ⟨rfl, rfl, Nat.le_of_ble_eq_true rfl, Nat.le_of_ble_eq_true rfl⟩ t0 kd_0 rfl rfl hl.1 rfl (Nat.le_of_ble_eq_true rfl) dX10_likes_2 ⟨Nat.zero_le _, Nat.zero_le _⟩ (fun x1 H locs ix1 ox1 hH hS hF1 => ?_)
    refine lv_if_eq (tgt := 32) hx hb dX10_likes_5 (by decide) (fun c2 => ?_) (fun c2 => ?_)
    · skip
      have ir3 : IV x1 0 0 := iv_eL c2 (iv_c (by decide) : IV 0 0 0)
      exact J32 H locs ls  hH hS (lv_sub hl [] rfl)
    · skip
      have ir4 : IV x1 1 1 := iv_cutL ix1 (iv_c (by decide) : IV 0 0 0) c2 (by decide)
      have ir5 : IV y1 0 3 := ox1 c2
      refine lv_aload_n hx hb dX10_likes_8 rfl (lv_at hl 0 rfl) ?_
      refine lv_iload_n hx hb dX10_likes_9 rfl (lv_at hl 2 rfl) ?_
      refine th_callVg (n := 1) (As := [.int y2]) S hK hH hS (th_A.sub (by decide)) (m_X10_isFood l D cT T q hq a0 t0 (y2) j2) gm_824 gm_821 gm_823 gm_23 gm_113 (by decide +kernel) ⟨rfl, rfl, Nat.le_of_ble_eq_true rfl, Nat.le_of_ble_eq_true rfl⟩ t0 kd_0 rfl rfl hl.1 rfl (Nat.le_of_ble_eq_true rfl) dX10_likes_10 ⟨Nat.zero_le _, Nat.zero_le _⟩ (fun x6 H locs ix6 ox6 hH hS hF1 => ?_)
      refine lv_if_eq (tgt := 32) hx hb dX10_likes_13 (by decide) (fun c7 => ?_) (fun c7 => ?_)
      · skip
        have ir8 : IV x6 0 0 := iv_eL c7 (iv_c (by decide) : IV 0 0 0)
        exact J32 H locs ls  hH hS (lv_sub hl [] rfl)
      · skip
        have ir9 : IV x6 1 1 := iv_cutL ix6 (iv_c (by decide) : IV 0 0 0) c7 (by decide)
        have ir10 : IV y2 0 2 := ox6 c7
        refine lv_aload_n hx hb dX10_likes_16 rfl (lv_at hl 0 rfl) ?_
        refine th_get S hK hH inG10 t0 kd_0 rfl 2 (by decide) gm_507 rfl rfl dX10_likes_17 (fun v11 hv11 fv11 => ?_)
        obtain ⟨a12, rfl, ta12⟩ := th_V.ref hv11
        refine th_get S hK hH inG4 ta12 kd_3 rfl 8 (by decide) gm_266 rfl rfl dX10_likes_20 (fun v13 hv13 fv13 => ?_)
        obtain ⟨a14, rfl, ta14⟩ := th_V.ref hv13
        refine lv_iload_n hx hb dX10_likes_23 rfl (lv_at hl 1 rfl) ?_
        refine lv_iconst (v := 3) hx hb dX10_likes_24 (by decide) ?_
        refine lv_imul hx hb dX10_likes_25 ?_
        refine lv_topi (fun x15 ex15 => ?_)
        have ix15 : IV x15 0 9 := by rw [ex15]; exact iv_mul ir5 (iv_c (by decide) : IV 3 3 3) (by decide) (by decide)
        refine lv_iload_n hx hb dX10_likes_26 rfl (lv_at hl 2 rfl) ?_
        refine lv_iadd hx hb dX10_likes_27 ?_
        refine lv_topi (fun x16 ex16 => ?_)
        have ix16 : IV x16 0 11 := by rw [ex16]; exact iv_add ix15 ir10 (by decide)
        refine th_iald S hK hH ta14 kd_28 (th_in (hi := 11) ix16 (by decide)) dX10_likes_28 (fun v17 hv17 => ?_)
        obtain ⟨x18, rfl, ix18⟩ := th_V.int hv17
        refine lv_goto (tgt := 33) hx hb dX10_likes_29 (by decide) ?_
        exact J33 H locs ls x18 ix18 hH hS (lv_sub hl [] rfl)
  exact J0 s.heap [] ls hH va_S.rf hl

set_option maxRecDepth 100000 in
theorem m_X10_trough (l : Launch) (D : va_G) (cT : Nat → ClassId) (T : Nat → Option Nat) (q : Nat → Int) (hq : qok q) (a0 : Nat) (t0 : T a0 = some 0) (y1 : Int32) (j1 : IV y1 (-2147483648) 2147483647) (y2 : Int32) (j2 : IV y2 (-2147483648) 2147483647) : th_Met l D cT T (kd q) yX10_trough cX10_trough 3 (some .int) (rmk 1 21) [.ref a0, .int y1, .int y2] (th_R T (some (.inl (-2147483648, 2147483647)))) [] := by
  refine th_start (by decide) (Nat.le_of_ble_eq_true rfl) ?_
  intro p e s m below meth c ls S hK hH hr hlocks hnm hl
  have hx := S.1
  have hb := S.2.1
  have hl : lv_has ls 3 [(0, .ref a0), (1, .int y1), (2, .int y2)] := hl
  have J38 : ∀ (H : Heap) (locs : List Loc) (ls : Array Slot) (w38_0 : Int32), IV w38_0 (-2147483648) 2147483647 → th_H D cT T (kd q) H → va_S (th_A T []) s.heap H locs → lv_has ls 3 [] → W p l e (rmk 1 21) s m [.ref a0, .int y1, .int y2].toArray below meth c H locs 0 0 (MQ below (th_Q D cT T (kd q) (th_R T (some (.inl (-2147483648, 2147483647)))) []) [.ref a0, .int y1, .int y2].toArray s 0 0 (th_A T [])) (F0 m 38 ls [.int w38_0]) := by
    intro H locs ls w38_0 iw38_0 hH hS hl
    exact th_iret S hK hH hS hr hlocks (th_R.i iw38_0) dX10_trough_38
  have J38_s0_m1 : ∀ (H : Heap) (locs : List Loc) (ls : Array Slot), th_H D cT T (kd q) H → va_S (th_A T []) s.heap H locs → lv_has ls 3 [] → W p l e (rmk 1 21) s m [.ref a0, .int y1, .int y2].toArray below meth c H locs 0 0 (MQ below (th_Q D cT T (kd q) (th_R T (some (.inl (-2147483648, 2147483647)))) []) [.ref a0, .int y1, .int y2].toArray s 0 0 (th_A T [])) (F0 m 38 ls [.int (-1)]) := by
    intro H locs ls hH hS hl
    exact th_iret S hK hH hS hr hlocks (th_R.i (iv_top _)) dX10_trough_38
  have J37 : ∀ (H : Heap) (locs : List Loc) (ls : Array Slot), th_H D cT T (kd q) H → va_S (th_A T []) s.heap H locs → lv_has ls 3 [] → W p l e (rmk 1 21) s m [.ref a0, .int y1, .int y2].toArray below meth c H locs 0 0 (MQ below (th_Q D cT T (kd q) (th_R T (some (.inl (-2147483648, 2147483647)))) []) [.ref a0, .int y1, .int y2].toArray s 0 0 (th_A T [])) (F0 m 37 ls []) := by
    intro H locs ls hH hS hl
    refine lv_iconst (v := (-1)) hx hb dX10_trough_37 (by decide) ?_
    exact J38_s0_m1 H locs ls  hH hS (lv_sub hl [] rfl)
  have J0 : ∀ (H : Heap) (locs : List Loc) (ls : Array Slot), th_H D cT T (kd q) H → va_S (th_A T []) s.heap H locs → lv_has ls 3 [(0, .ref a0), (1, .int y1), (2, .int y2)] → W p l e (rmk 1 21) s m [.ref a0, .int y1, .int y2].toArray below meth c H locs 0 0 (MQ below (th_Q D cT T (kd q) (th_R T (some (.inl (-2147483648, 2147483647)))) []) [.ref a0, .int y1, .int y2].toArray s 0 0 (th_A T [])) (F0 m 0 ls []) := by
    intro H locs ls hH hS hl
    refine lv_aload_n hx hb dX10_trough_0 rfl (lv_at hl 0 rfl) ?_
    refine lv_iload_n hx hb dX10_trough_1 rfl (lv_at hl 1 rfl) ?_
    refine th_callVg (n := 1) (As := [.int y1]) S hK hH hS (th_A.sub (by decide)) (m_X10_isMap l D cT T q hq a0 t0 (y1) j1) gm_836 gm_833 gm_835 gm_24 gm_113 (by decide +kernel) ⟨rfl, rfl, Nat.le_of_ble_eq_true rfl, Nat.le_of_ble_eq_true rfl⟩ t0 kd_0 rfl rfl hl.1 rfl (Nat.le_of_ble_eq_true rfl) dX10_trough_2 ⟨Nat.zero_le _, Nat.zero_le _⟩ (fun x1 H locs ix1 ox1 hH hS hF1 => ?_)
    refine lv_if_eq (tgt := 37) hx hb dX10_trough_5 (by decide) (fun c2 => ?_) (fun c2 => ?_)
    · skip
      have ir3 : IV x1 0 0 := iv_eL c2 (iv_c (by decide) : IV 0 0 0)
      exact J37 H locs ls  hH hS (lv_sub hl [] rfl)
    · skip
      have ir4 : IV x1 1 1 := iv_cutL ix1 (iv_c (by decide) : IV 0 0 0) c2 (by decide)
      have ir5 : IV y1 0 3 := ox1 c2
      refine lv_aload_n hx hb dX10_trough_8 rfl (lv_at hl 0 rfl) ?_
      refine lv_iload_n hx hb dX10_trough_9 rfl (lv_at hl 2 rfl) ?_
      refine th_callVg (n := 1) (As := [.int y2]) S hK hH hS (th_A.sub (by decide)) (m_X10_isFood l D cT T q hq a0 t0 (y2) j2) gm_824 gm_821 gm_823 gm_23 gm_113 (by decide +kernel) ⟨rfl, rfl, Nat.le_of_ble_eq_true rfl, Nat.le_of_ble_eq_true rfl⟩ t0 kd_0 rfl rfl hl.1 rfl (Nat.le_of_ble_eq_true rfl) dX10_trough_10 ⟨Nat.zero_le _, Nat.zero_le _⟩ (fun x6 H locs ix6 ox6 hH hS hF1 => ?_)
      refine lv_if_eq (tgt := 37) hx hb dX10_trough_13 (by decide) (fun c7 => ?_) (fun c7 => ?_)
      · skip
        have ir8 : IV x6 0 0 := iv_eL c7 (iv_c (by decide) : IV 0 0 0)
        exact J37 H locs ls  hH hS (lv_sub hl [] rfl)
      · skip
        have ir9 : IV x6 1 1 := iv_cutL ix6 (iv_c (by decide) : IV 0 0 0) c7 (by decide)
        have ir10 : IV y2 0 2 := ox6 c7
        refine lv_aload_n hx hb dX10_trough_16 rfl (lv_at hl 0 rfl) ?_
        refine th_get S hK hH inG10 t0 kd_0 rfl 4 (by decide) gm_509 rfl rfl dX10_trough_17 (fun v11 hv11 fv11 => ?_)
        obtain ⟨a12, rfl, ta12⟩ := th_V.ref hv11
        refine th_callVr (n := 0) (As := []) S hK hH hS (th_A.sub (by decide)) (m_X3_now l D cT T q hq a12 ta12) gm_828 gm_825 gm_826 gm_827 gm_120 (by decide +kernel) ⟨rfl, rfl, Nat.le_of_ble_eq_true rfl, Nat.le_of_ble_eq_true rfl⟩ ta12 kd_5 rfl rfl hl.1 rfl (Nat.le_of_ble_eq_true rfl) dX10_trough_20 ⟨Nat.zero_le _, Nat.zero_le _⟩ (fun a13 H locs ta13 hH hS hF1 => ?_)
        refine th_get S hK hH inG7 ta13 kd_10 rfl 0 (by decide) gm_231 rfl rfl dX10_trough_23 (fun v14 hv14 fv14 => ?_)
        obtain ⟨a15, rfl, ta15⟩ := th_V.ref hv14
        refine lv_iconst (v := 3) hx hb dX10_trough_26 (by decide) ?_
        refine lv_iload_n hx hb dX10_trough_27 rfl (lv_at hl 1 rfl) ?_
        refine lv_iconst (v := 3) hx hb dX10_trough_28 (by decide) ?_
        refine lv_imul hx hb dX10_trough_29 ?_
        refine lv_topi (fun x16 ex16 => ?_)
        have ix16 : IV x16 0 9 := by rw [ex16]; exact iv_mul ir5 (iv_c (by decide) : IV 3 3 3) (by decide) (by decide)
        refine lv_iadd hx hb dX10_trough_30 ?_
        refine lv_topi (fun x17 ex17 => ?_)
        have ix17 : IV x17 3 12 := by rw [ex17]; exact iv_add (iv_c (by decide) : IV 3 3 3) ix16 (by decide)
        refine lv_iload_n hx hb dX10_trough_31 rfl (lv_at hl 2 rfl) ?_
        refine lv_iadd hx hb dX10_trough_32 ?_
        refine lv_topi (fun x18 ex18 => ?_)
        have ix18 : IV x18 3 14 := by rw [ex18]; exact iv_add ix17 ir10 (by decide)
        refine th_iald S hK hH ta15 kd_29 (th_in (hi := 14) (iv_w ix18 (by decide)) (by decide)) dX10_trough_33 (fun v19 hv19 => ?_)
        obtain ⟨x20, rfl, ix20⟩ := th_V.int hv19
        refine lv_goto (tgt := 38) hx hb dX10_trough_34 (by decide) ?_
        exact J38 H locs ls x20 ix20 hH hS (lv_sub hl [] rfl)
  exact J0 s.heap [] ls hH va_S.rf hl

set_option maxRecDepth 100000 in
theorem m_X10_needs (l : Launch) (D : va_G) (cT : Nat → ClassId) (T : Nat → Option Nat) (q : Nat → Int) (hq : qok q) (a0 : Nat) (t0 : T a0 = some 0) (y1 : Int32) (j1 : IV y1 (-2147483648) 2147483647) (y2 : Int32) (j2 : IV y2 (-2147483648) 2147483647) : th_Met l D cT T (kd q) yX10_needs cX10_needs 5 (some .int) (rmk 2 51) [.ref a0, .int y1, .int y2] (th_R T (some (.inl (-2147483648, 2147483647)))) [18, 19] := by
  refine th_start (by decide) (Nat.le_of_ble_eq_true rfl) ?_
  intro p e s m below meth c ls S hK hH hr hlocks hnm hl
  have hx := S.1
  have hb := S.2.1
  have hl : lv_has ls 5 [(0, .ref a0), (1, .int y1), (2, .int y2)] := hl
  have J89 : ∀ (H : Heap) (locs : List Loc) (ls : Array Slot) (w89_0 : Int32), IV w89_0 (-2147483648) 2147483647 → th_H D cT T (kd q) H → va_S (th_A T [18, 19]) s.heap H locs → lv_has ls 5 [] → W p l e (rmk 2 51) s m [.ref a0, .int y1, .int y2].toArray below meth c H locs 0 0 (MQ below (th_Q D cT T (kd q) (th_R T (some (.inl (-2147483648, 2147483647)))) [18, 19]) [.ref a0, .int y1, .int y2].toArray s 0 0 (th_A T [18, 19])) (F0 m 89 ls [.int w89_0]) := by
    intro H locs ls w89_0 iw89_0 hH hS hl
    exact th_iret S hK hH hS hr hlocks (th_R.i iw89_0) dX10_needs_89
  have J89_s0_m1 : ∀ (H : Heap) (locs : List Loc) (ls : Array Slot), th_H D cT T (kd q) H → va_S (th_A T [18, 19]) s.heap H locs → lv_has ls 5 [] → W p l e (rmk 2 51) s m [.ref a0, .int y1, .int y2].toArray below meth c H locs 0 0 (MQ below (th_Q D cT T (kd q) (th_R T (some (.inl (-2147483648, 2147483647)))) [18, 19]) [.ref a0, .int y1, .int y2].toArray s 0 0 (th_A T [18, 19])) (F0 m 89 ls [.int (-1)]) := by
    intro H locs ls hH hS hl
    exact th_iret S hK hH hS hr hlocks (th_R.i (iv_top _)) dX10_needs_89
  have J16 : ∀ (H : Heap) (locs : List Loc) (ls : Array Slot), th_H D cT T (kd q) H → va_S (th_A T [18, 19]) s.heap H locs → lv_has ls 5 [] → W p l e (rmk 2 51) s m [.ref a0, .int y1, .int y2].toArray below meth c H locs 0 0 (MQ below (th_Q D cT T (kd q) (th_R T (some (.inl (-2147483648, 2147483647)))) [18, 19]) [.ref a0, .int y1, .int y2].toArray s 0 0 (th_A T [18, 19])) (F0 m 16 ls []) := by
    intro H locs ls hH hS hl
    refine lv_iconst (v := (-1)) hx hb dX10_needs_16 (by decide) ?_
    exact th_iret S hK hH hS hr hlocks (th_R.i (iv_top _)) dX10_needs_17
  have J0 : ∀ (H : Heap) (locs : List Loc) (ls : Array Slot), th_H D cT T (kd q) H → va_S (th_A T [18, 19]) s.heap H locs → lv_has ls 5 [(0, .ref a0), (1, .int y1), (2, .int y2)] → W p l e (rmk 2 51) s m [.ref a0, .int y1, .int y2].toArray below meth c H locs 0 0 (MQ below (th_Q D cT T (kd q) (th_R T (some (.inl (-2147483648, 2147483647)))) [18, 19]) [.ref a0, .int y1, .int y2].toArray s 0 0 (th_A T [18, 19])) (F0 m 0 ls []) := by
    intro H locs ls hH hS hl
    refine lv_aload_n hx hb dX10_needs_0 rfl (lv_at hl 0 rfl) ?_
    refine lv_iload_n hx hb dX10_needs_1 rfl (lv_at hl 1 rfl) ?_
    refine th_callVg (n := 1) (As := [.int y1]) S hK hH hS (th_A.sub (by decide)) (m_X10_isMap l D cT T q hq a0 t0 (y1) j1) gm_836 gm_833 gm_835 gm_24 gm_113 (by decide +kernel) ⟨rfl, rfl, Nat.le_of_ble_eq_true rfl, Nat.le_of_ble_eq_true rfl⟩ t0 kd_0 rfl rfl hl.1 rfl (Nat.le_of_ble_eq_true rfl) dX10_needs_2 ⟨Nat.zero_le _, Nat.zero_le _⟩ (fun x1 H locs ix1 ox1 hH hS hF1 => ?_)
    refine lv_if_eq (tgt := 16) hx hb dX10_needs_5 (by decide) (fun c2 => ?_) (fun c2 => ?_)
    · skip
      have ir3 : IV x1 0 0 := iv_eL c2 (iv_c (by decide) : IV 0 0 0)
      exact J16 H locs ls  hH hS (lv_sub hl [] rfl)
    · skip
      have ir4 : IV x1 1 1 := iv_cutL ix1 (iv_c (by decide) : IV 0 0 0) c2 (by decide)
      have ir5 : IV y1 0 3 := ox1 c2
      refine lv_aload_n hx hb dX10_needs_8 rfl (lv_at hl 0 rfl) ?_
      refine lv_iload_n hx hb dX10_needs_9 rfl (lv_at hl 2 rfl) ?_
      refine th_callVg (n := 1) (As := [.int y2]) S hK hH hS (th_A.sub (by decide)) (m_X10_isFood l D cT T q hq a0 t0 (y2) j2) gm_824 gm_821 gm_823 gm_23 gm_113 (by decide +kernel) ⟨rfl, rfl, Nat.le_of_ble_eq_true rfl, Nat.le_of_ble_eq_true rfl⟩ t0 kd_0 rfl rfl hl.1 rfl (Nat.le_of_ble_eq_true rfl) dX10_needs_10 ⟨Nat.zero_le _, Nat.zero_le _⟩ (fun x6 H locs ix6 ox6 hH hS hF1 => ?_)
      refine lv_if_ne (tgt := 18) hx hb dX10_needs_13 (by decide) (fun c7 => ?_) (fun c7 => ?_)
      · skip
        have ir8 : IV x6 1 1 := iv_cutL ix6 (iv_c (by decide) : IV 0 0 0) c7 (by decide)
        have ir9 : IV y2 0 2 := ox6 c7
        refine lv_aload_n hx hb dX10_needs_18 rfl (lv_at hl 0 rfl) ?_
        refine th_get S hK hH inG10 t0 kd_0 rfl 3 (by decide) gm_508 rfl rfl dX10_needs_19 (fun v10 hv10 fv10 => ?_)
        obtain ⟨a11, rfl, ta11⟩ := th_V.ref hv10
        refine lv_aload_n hx hb dX10_needs_22 rfl (lv_at hl 0 rfl) ?_
        refine th_get S hK hH inG10 t0 kd_0 rfl 4 (by decide) gm_509 rfl rfl dX10_needs_23 (fun v12 hv12 fv12 => ?_)
        obtain ⟨a13, rfl, ta13⟩ := th_V.ref hv12
        refine th_callVr (n := 0) (As := []) S hK hH hS (th_A.sub (by decide)) (m_X3_now l D cT T q hq a13 ta13) gm_828 gm_825 gm_826 gm_827 gm_120 (by decide +kernel) ⟨rfl, rfl, Nat.le_of_ble_eq_true rfl, Nat.le_of_ble_eq_true rfl⟩ ta13 kd_5 rfl rfl hl.1 rfl (Nat.le_of_ble_eq_true rfl) dX10_needs_26 ⟨Nat.zero_le _, Nat.zero_le _⟩ (fun a14 H locs ta14 hH hS hF1 => ?_)
        have f15 := fv10.kept (hF1 _ fv10.lt (th_off t0 (by decide)))
        have f16 := fv12.kept (hF1 _ fv12.lt (th_off t0 (by decide)))
        refine lv_iload_n hx hb dX10_needs_29 rfl (lv_at hl 1 rfl) ?_
        refine th_callVi (n := 2) (As := [.ref a14, .int y1]) S hK hH hS (th_A.sub (by decide)) (m_X0_hungerOf l D cT T q hq a11 ta11 a14 ta14 (y1) ir5) gm_840 gm_837 gm_838 gm_839 gm_119 (by decide +kernel) ⟨rfl, rfl, Nat.le_of_ble_eq_true rfl, Nat.le_of_ble_eq_true rfl⟩ ta11 kd_4 rfl rfl hl.1 rfl (Nat.le_of_ble_eq_true rfl) dX10_needs_30 ⟨Nat.zero_le _, Nat.zero_le _⟩ (fun x17 H locs ix17 hH hS hF1 => ?_)
        have f18 := f15.kept (hF1 _ f15.lt (th_off t0 (by decide)))
        have f19 := f16.kept (hF1 _ f16.lt (th_off t0 (by decide)))
        refine lv_aload_n hx hb dX10_needs_33 rfl (lv_at hl 0 rfl) ?_
        refine th_getK S hK f18 inG10 rfl (by decide) gm_508 rfl dX10_needs_34 ?_
        refine lv_aload_n hx hb dX10_needs_37 rfl (lv_at hl 0 rfl) ?_
        refine th_getK S hK f19 inG10 rfl (by decide) gm_509 rfl dX10_needs_38 ?_
        refine th_callVr (n := 0) (As := []) S hK hH hS (th_A.sub (by decide)) (m_X3_now l D cT T q hq a13 ta13) gm_828 gm_825 gm_826 gm_827 gm_120 (by decide +kernel) ⟨rfl, rfl, Nat.le_of_ble_eq_true rfl, Nat.le_of_ble_eq_true rfl⟩ ta13 kd_5 rfl rfl hl.1 rfl (Nat.le_of_ble_eq_true rfl) dX10_needs_41 ⟨Nat.zero_le _, Nat.zero_le _⟩ (fun a22 H locs ta22 hH hS hF1 => ?_)
        have f23 := f18.kept (hF1 _ f18.lt (th_off t0 (by decide)))
        have f24 := f19.kept (hF1 _ f19.lt (th_off t0 (by decide)))
        refine lv_iload_n hx hb dX10_needs_44 rfl (lv_at hl 1 rfl) ?_
        refine th_callVi (n := 2) (As := [.ref a22, .int y1]) S hK hH hS (th_A.sub (by decide)) (m_X0_givenTo l D cT T q hq a11 ta11 a22 ta22 (y1) ir5) gm_858 gm_855 gm_856 gm_857 gm_119 (by decide +kernel) ⟨rfl, rfl, Nat.le_of_ble_eq_true rfl, Nat.le_of_ble_eq_true rfl⟩ ta11 kd_4 rfl rfl hl.1 rfl (Nat.le_of_ble_eq_true rfl) dX10_needs_45 ⟨Nat.zero_le _, Nat.zero_le _⟩ (fun x25 H locs ix25 hH hS hF1 => ?_)
        have f26 := f23.kept (hF1 _ f23.lt (th_off t0 (by decide)))
        have f27 := f24.kept (hF1 _ f24.lt (th_off t0 (by decide)))
        refine lv_isub hx hb dX10_needs_48 ?_
        refine lv_topi (fun x28 ex28 => ?_)
        have ix28 := iv_top x28
        refine lv_istore_n (lv' := [(3, .int x28), (0, .ref a0), (1, .int y1), (2, .int y2)]) hx hb dX10_needs_49 rfl hl (by decide) rfl (fun ls hl => ?_)
        refine lv_iload_n hx hb dX10_needs_50 rfl (lv_at hl 0 rfl) ?_
        refine lv_if_gt (tgt := 56) hx hb dX10_needs_51 (by decide) (fun c29 => ?_) (fun c29 => ?_)
        · skip
          have ir30 : IV x28 1 2147483647 := iv_uR (iv_c (by decide) : IV 0 0 0) ix28 (iv_lt c29) (by decide)
          refine lv_aload_n hx hb dX10_needs_56 rfl (lv_at hl 1 rfl) ?_
          refine th_get S hK hH inG10 t0 kd_0 rfl 2 (by decide) gm_507 rfl rfl dX10_needs_57 (fun v31 hv31 fv31 => ?_)
          obtain ⟨a32, rfl, ta32⟩ := th_V.ref hv31
          refine th_get S hK hH inG4 ta32 kd_3 rfl 8 (by decide) gm_266 rfl rfl dX10_needs_60 (fun v33 hv33 fv33 => ?_)
          obtain ⟨a34, rfl, ta34⟩ := th_V.ref hv33
          refine lv_iload_n hx hb dX10_needs_63 rfl (lv_at hl 2 rfl) ?_
          refine lv_iconst (v := 3) hx hb dX10_needs_64 (by decide) ?_
          refine lv_imul hx hb dX10_needs_65 ?_
          refine lv_topi (fun x35 ex35 => ?_)
          have ix35 : IV x35 0 9 := by rw [ex35]; exact iv_mul ir5 (iv_c (by decide) : IV 3 3 3) (by decide) (by decide)
          refine lv_iload_n hx hb dX10_needs_66 rfl (lv_at hl 3 rfl) ?_
          refine lv_iadd hx hb dX10_needs_67 ?_
          refine lv_topi (fun x36 ex36 => ?_)
          have ix36 : IV x36 0 11 := by rw [ex36]; exact iv_add ix35 ir9 (by decide)
          refine th_iald S hK hH ta34 kd_28 (th_in (hi := 11) ix36 (by decide)) dX10_needs_68 (fun v37 hv37 => ?_)
          obtain ⟨x38, rfl, ix38⟩ := th_V.int hv37
          refine lv_istore (lv' := [(4, .int x38), (3, .int x28), (0, .ref a0), (1, .int y1), (2, .int y2)]) hx hb dX10_needs_69 hl (by decide) rfl (fun ls hl => ?_)
          refine lv_iload hx hb dX10_needs_71 (lv_at hl 0 rfl) ?_
          refine lv_if_gt (tgt := 80) hx hb dX10_needs_73 (by decide) (fun c39 => ?_) (fun c39 => ?_)
          · skip
            have ir40 : IV x38 1 2147483647 := iv_uR (iv_c (by decide) : IV 0 0 0) ix38 (iv_lt c39) (by decide)
            refine lv_iload_n hx hb dX10_needs_80 rfl (lv_at hl 1 rfl) ?_
            refine lv_iload hx hb dX10_needs_81 (lv_at hl 0 rfl) ?_
            refine lv_iadd hx hb dX10_needs_83 ?_
            refine lv_topi (fun x41 ex41 => ?_)
            have ix41 := iv_top x41
            refine lv_iconst (v := 1) hx hb dX10_needs_84 (by decide) ?_
            refine lv_isub hx hb dX10_needs_85 ?_
            refine lv_topi (fun x42 ex42 => ?_)
            have ix42 := iv_top x42
            refine lv_iload hx hb dX10_needs_86 (lv_at hl 0 rfl) ?_
            refine lv_idiv hx hb dX10_needs_88 (iv_n0 ir40 (by decide)) ?_
            refine lv_topi (fun x43 ex43 => ?_)
            have ix43 := iv_top x43
            exact J89 H locs ls x43 ix43 hH hS (lv_sub hl [] rfl)
          · skip
            have ir44 : IV x38 (-2147483648) 0 := iv_vL ix38 (iv_c (by decide) : IV 0 0 0) (iv_nlt c39) (by decide)
            refine lv_iconst (v := (-1)) hx hb dX10_needs_76 (by decide) ?_
            refine lv_goto (tgt := 89) hx hb dX10_needs_77 (by decide) ?_
            exact J89_s0_m1 H locs ls  hH hS (lv_sub hl [] rfl)
        · skip
          have ir45 : IV x28 (-2147483648) 0 := iv_vL ix28 (iv_c (by decide) : IV 0 0 0) (iv_nlt c29) (by decide)
          refine lv_iconst (v := 0) hx hb dX10_needs_54 (by decide) ?_
          exact th_iret S hK hH hS hr hlocks (th_R.i (iv_top _)) dX10_needs_55
      · skip
        have ir46 : IV x6 0 0 := iv_eL c7 (iv_c (by decide) : IV 0 0 0)
        exact J16 H locs ls  hH hS (lv_sub hl [] rfl)
  exact J0 s.heap [] ls hH va_S.rf hl

set_option maxRecDepth 100000 in
theorem m_X10_over (l : Launch) (D : va_G) (cT : Nat → ClassId) (T : Nat → Option Nat) (q : Nat → Int) (hq : qok q) (a0 : Nat) (t0 : T a0 = some 0) (y1 : Int32) (j1 : IV y1 (-2147483648) 2147483647) : th_Met l D cT T (kd q) yX10_over cX10_over 2 (some .int) (rmk 2 51) [.ref a0, .int y1] (th_R T (some (.inl (-1, 2147483647)))) [18, 19] := by
  refine th_start (by decide) (Nat.le_of_ble_eq_true rfl) ?_
  intro p e s m below meth c ls S hK hH hr hlocks hnm hl
  have hx := S.1
  have hb := S.2.1
  have hl : lv_has ls 2 [(0, .ref a0), (1, .int y1)] := hl
  have J0 : ∀ (H : Heap) (locs : List Loc) (ls : Array Slot), th_H D cT T (kd q) H → va_S (th_A T [18, 19]) s.heap H locs → lv_has ls 2 [(0, .ref a0), (1, .int y1)] → W p l e (rmk 2 51) s m [.ref a0, .int y1].toArray below meth c H locs 0 0 (MQ below (th_Q D cT T (kd q) (th_R T (some (.inl (-1, 2147483647)))) [18, 19]) [.ref a0, .int y1].toArray s 0 0 (th_A T [18, 19])) (F0 m 0 ls []) := by
    intro H locs ls hH hS hl
    refine lv_aload_n hx hb dX10_over_0 rfl (lv_at hl 0 rfl) ?_
    refine lv_iload_n hx hb dX10_over_1 rfl (lv_at hl 1 rfl) ?_
    refine th_callVg (n := 1) (As := [.int y1]) S hK hH hS (th_A.sub (by decide)) (m_X10_isMap l D cT T q hq a0 t0 (y1) j1) gm_836 gm_833 gm_835 gm_24 gm_113 (by decide +kernel) ⟨rfl, rfl, Nat.le_of_ble_eq_true rfl, Nat.le_of_ble_eq_true rfl⟩ t0 kd_0 rfl rfl hl.1 rfl (Nat.le_of_ble_eq_true rfl) dX10_over_2 ⟨Nat.zero_le _, Nat.zero_le _⟩ (fun x1 H locs ix1 ox1 hH hS hF1 => ?_)
    refine lv_if_ne (tgt := 10) hx hb dX10_over_5 (by decide) (fun c2 => ?_) (fun c2 => ?_)
    · skip
      have ir3 : IV x1 1 1 := iv_cutL ix1 (iv_c (by decide) : IV 0 0 0) c2 (by decide)
      have ir4 : IV y1 0 3 := ox1 c2
      refine lv_iconst (v := 0) hx hb dX10_over_10 (by decide) ?_
      refine lv_aload_n hx hb dX10_over_11 rfl (lv_at hl 0 rfl) ?_
      refine th_get S hK hH inG10 t0 kd_0 rfl 3 (by decide) gm_508 rfl rfl dX10_over_12 (fun v5 hv5 fv5 => ?_)
      obtain ⟨a6, rfl, ta6⟩ := th_V.ref hv5
      refine lv_aload_n hx hb dX10_over_15 rfl (lv_at hl 0 rfl) ?_
      refine th_get S hK hH inG10 t0 kd_0 rfl 4 (by decide) gm_509 rfl rfl dX10_over_16 (fun v7 hv7 fv7 => ?_)
      obtain ⟨a8, rfl, ta8⟩ := th_V.ref hv7
      refine th_callVr (n := 0) (As := []) S hK hH hS (th_A.sub (by decide)) (m_X3_now l D cT T q hq a8 ta8) gm_828 gm_825 gm_826 gm_827 gm_120 (by decide +kernel) ⟨rfl, rfl, Nat.le_of_ble_eq_true rfl, Nat.le_of_ble_eq_true rfl⟩ ta8 kd_5 rfl rfl hl.1 rfl (Nat.le_of_ble_eq_true rfl) dX10_over_19 ⟨Nat.zero_le _, Nat.zero_le _⟩ (fun a9 H locs ta9 hH hS hF1 => ?_)
      have f10 := fv5.kept (hF1 _ fv5.lt (th_off t0 (by decide)))
      have f11 := fv7.kept (hF1 _ fv7.lt (th_off t0 (by decide)))
      refine lv_iload_n hx hb dX10_over_22 rfl (lv_at hl 1 rfl) ?_
      refine th_callVi (n := 2) (As := [.ref a9, .int y1]) S hK hH hS (th_A.sub (by decide)) (m_X0_givenTo l D cT T q hq a6 ta6 a9 ta9 (y1) ir4) gm_858 gm_855 gm_856 gm_857 gm_119 (by decide +kernel) ⟨rfl, rfl, Nat.le_of_ble_eq_true rfl, Nat.le_of_ble_eq_true rfl⟩ ta6 kd_4 rfl rfl hl.1 rfl (Nat.le_of_ble_eq_true rfl) dX10_over_23 ⟨Nat.zero_le _, Nat.zero_le _⟩ (fun x12 H locs ix12 hH hS hF1 => ?_)
      have f13 := f10.kept (hF1 _ f10.lt (th_off t0 (by decide)))
      have f14 := f11.kept (hF1 _ f11.lt (th_off t0 (by decide)))
      refine lv_aload_n hx hb dX10_over_26 rfl (lv_at hl 0 rfl) ?_
      refine th_getK S hK f13 inG10 rfl (by decide) gm_508 rfl dX10_over_27 ?_
      refine lv_aload_n hx hb dX10_over_30 rfl (lv_at hl 0 rfl) ?_
      refine th_getK S hK f14 inG10 rfl (by decide) gm_509 rfl dX10_over_31 ?_
      refine th_callVr (n := 0) (As := []) S hK hH hS (th_A.sub (by decide)) (m_X3_now l D cT T q hq a8 ta8) gm_828 gm_825 gm_826 gm_827 gm_120 (by decide +kernel) ⟨rfl, rfl, Nat.le_of_ble_eq_true rfl, Nat.le_of_ble_eq_true rfl⟩ ta8 kd_5 rfl rfl hl.1 rfl (Nat.le_of_ble_eq_true rfl) dX10_over_34 ⟨Nat.zero_le _, Nat.zero_le _⟩ (fun a17 H locs ta17 hH hS hF1 => ?_)
      have f18 := f13.kept (hF1 _ f13.lt (th_off t0 (by decide)))
      have f19 := f14.kept (hF1 _ f14.lt (th_off t0 (by decide)))
      refine lv_iload_n hx hb dX10_over_37 rfl (lv_at hl 1 rfl) ?_
      refine th_callVi (n := 2) (As := [.ref a17, .int y1]) S hK hH hS (th_A.sub (by decide)) (m_X0_hungerOf l D cT T q hq a6 ta6 a17 ta17 (y1) ir4) gm_840 gm_837 gm_838 gm_839 gm_119 (by decide +kernel) ⟨rfl, rfl, Nat.le_of_ble_eq_true rfl, Nat.le_of_ble_eq_true rfl⟩ ta6 kd_4 rfl rfl hl.1 rfl (Nat.le_of_ble_eq_true rfl) dX10_over_38 ⟨Nat.zero_le _, Nat.zero_le _⟩ (fun x20 H locs ix20 hH hS hF1 => ?_)
      have f21 := f18.kept (hF1 _ f18.lt (th_off t0 (by decide)))
      have f22 := f19.kept (hF1 _ f19.lt (th_off t0 (by decide)))
      refine lv_isub hx hb dX10_over_41 ?_
      refine lv_topi (fun x23 ex23 => ?_)
      have ix23 := iv_top x23
      refine va_mmax hx hb (S.2.2.1.trans hl.1.symm) S.2.2.2.1 (S.2.2.2.2 _ gm_967) (S.2.2.2.2 _ gm_625) (S.2.2.2.2 _ gm_129) (S.2.2.2.2 _ gm_626) (Nat.le_of_ble_eq_true rfl) (Nat.le_of_ble_eq_true rfl) (Nat.zero_le _) (Nat.zero_le _) dX10_over_42 ?_
      refine lv_topi (fun x24 ex24 => ?_)
      have ix24 : IV x24 0 2147483647 := by rw [ex24]; exact iv_max (iv_c (by decide) : IV 0 0 0) ix23 (by decide)
      exact th_iret S hK hH hS hr hlocks (th_R.i (iv_w ix24 (by decide))) dX10_over_45
    · skip
      have ir25 : IV x1 0 0 := iv_eL c2 (iv_c (by decide) : IV 0 0 0)
      refine lv_iconst (v := (-1)) hx hb dX10_over_8 (by decide) ?_
      exact th_iret S hK hH hS hr hlocks (th_R.i (iv_w (iv_c (by decide) : IV (-1) (-1) (-1)) (by decide))) dX10_over_9
  exact J0 s.heap [] ls hH va_S.rf hl

set_option maxRecDepth 100000 in
theorem m_X10_gone (l : Launch) (D : va_G) (cT : Nat → ClassId) (T : Nat → Option Nat) (q : Nat → Int) (hq : qok q) (a0 : Nat) (t0 : T a0 = some 0) : th_Met l D cT T (kd q) yX10_gone cX10_gone 1 (some .int) (rmk 1 23) [.ref a0] (th_R T (some (.inl (-2147483648, 2147483647)))) [] := by
  refine th_start (by decide) (Nat.le_of_ble_eq_true rfl) ?_
  intro p e s m below meth c ls S hK hH hr hlocks hnm hl
  have hx := S.1
  have hb := S.2.1
  have hl : lv_has ls 1 [(0, .ref a0)] := hl
  have J0 : ∀ (H : Heap) (locs : List Loc) (ls : Array Slot), th_H D cT T (kd q) H → va_S (th_A T []) s.heap H locs → lv_has ls 1 [(0, .ref a0)] → W p l e (rmk 1 23) s m [.ref a0].toArray below meth c H locs 0 0 (MQ below (th_Q D cT T (kd q) (th_R T (some (.inl (-2147483648, 2147483647)))) []) [.ref a0].toArray s 0 0 (th_A T [])) (F0 m 0 ls []) := by
    intro H locs ls hH hS hl
    refine lv_aload_n hx hb dX10_gone_0 rfl (lv_at hl 0 rfl) ?_
    refine th_get S hK hH inG10 t0 kd_0 rfl 3 (by decide) gm_508 rfl rfl dX10_gone_1 (fun v1 hv1 fv1 => ?_)
    obtain ⟨a2, rfl, ta2⟩ := th_V.ref hv1
    refine lv_aload_n hx hb dX10_gone_4 rfl (lv_at hl 0 rfl) ?_
    refine th_get S hK hH inG10 t0 kd_0 rfl 4 (by decide) gm_509 rfl rfl dX10_gone_5 (fun v3 hv3 fv3 => ?_)
    obtain ⟨a4, rfl, ta4⟩ := th_V.ref hv3
    refine th_callVr (n := 0) (As := []) S hK hH hS (th_A.sub (by decide)) (m_X3_now l D cT T q hq a4 ta4) gm_828 gm_825 gm_826 gm_827 gm_120 (by decide +kernel) ⟨rfl, rfl, Nat.le_of_ble_eq_true rfl, Nat.le_of_ble_eq_true rfl⟩ ta4 kd_5 rfl rfl hl.1 rfl (Nat.le_of_ble_eq_true rfl) dX10_gone_8 ⟨Nat.zero_le _, Nat.zero_le _⟩ (fun a5 H locs ta5 hH hS hF1 => ?_)
    refine th_callVi (n := 1) (As := [.ref a5]) S hK hH hS (th_A.sub (by decide)) (m_X0_goneIn l D cT T q hq a2 ta2 a5 ta5) gm_998 gm_1011 gm_996 gm_997 gm_119 (by decide +kernel) ⟨rfl, rfl, Nat.le_of_ble_eq_true rfl, Nat.le_of_ble_eq_true rfl⟩ ta2 kd_4 rfl rfl hl.1 rfl (Nat.le_of_ble_eq_true rfl) dX10_gone_11 ⟨Nat.zero_le _, Nat.zero_le _⟩ (fun x6 H locs ix6 hH hS hF1 => ?_)
    exact th_iret S hK hH hS hr hlocks (th_R.i ix6) dX10_gone_14
  exact J0 s.heap [] ls hH va_S.rf hl

set_option maxRecDepth 100000 in
theorem m_X10_least (l : Launch) (D : va_G) (cT : Nat → ClassId) (T : Nat → Option Nat) (q : Nat → Int) (hq : qok q) (a0 : Nat) (t0 : T a0 = some 0) : th_Met l D cT T (kd q) yX10_least cX10_least 2 (some .int) (rmk 3 75) [.ref a0] (th_R T (some (.inl (-1, 4)))) [38] := by
  refine th_start (by decide) (Nat.le_of_ble_eq_true rfl) ?_
  intro p e s m below meth c ls S hK hH hr hlocks hnm hl
  have hx := S.1
  have hb := S.2.1
  have hl : lv_has ls 2 [(0, .ref a0)] := hl
  have J14 : ∀ (n : Nat) (H : Heap) (locs : List Loc) (ls : Array Slot) (v14_1 : Int32), IV v14_1 1 5 → th_H D cT T (kd q) H → va_S (th_A T [38]) s.heap H locs → lv_has ls 2 [(0, .ref a0), (1, .int v14_1)] → (5 + 1 - v14_1.toInt).toNat < n → W p l e (rmk 3 75) s m [.ref a0].toArray below meth c H locs 0 0 (MQ below (th_Q D cT T (kd q) (th_R T (some (.inl (-1, 4)))) [38]) [.ref a0].toArray s 0 0 (th_A T [38])) (F0 m 14 ls []) := by
    intro n
    induction n with
    | zero => intro H locs ls v14_1 iv14_1 hH hS hl hn; exact absurd hn (Nat.not_lt_zero _)
    | succ n ih14 =>
      intro H locs ls v14_1 iv14_1 hH hS hl hn14
      refine lv_iload_n hx hb dX10_least_14 rfl (lv_at hl 1 rfl) ?_
      refine lv_iconst (v := 4) hx hb dX10_least_15 (by decide) ?_
      refine lv_icmp_gt (tgt := 38) hx hb dX10_least_16 (by decide) (fun c1 => ?_) (fun c1 => ?_)
      · skip
        have ir2 : IV v14_1 5 5 := iv_uR (iv_c (by decide) : IV 4 4 4) iv14_1 (iv_lt c1) (by decide)
        refine lv_iconst (v := (-1)) hx hb dX10_least_38 (by decide) ?_
        exact th_iret S hK hH hS hr hlocks (th_R.i (iv_w (iv_c (by decide) : IV (-1) (-1) (-1)) (by decide))) dX10_least_39
      · skip
        have ir3 : IV v14_1 1 4 := iv_vL iv14_1 (iv_c (by decide) : IV 4 4 4) (iv_nlt c1) (by decide)
        refine lv_aload_n hx hb dX10_least_19 rfl (lv_at hl 0 rfl) ?_
        refine th_get S hK hH inG10 t0 kd_0 rfl 6 (by decide) gm_511 rfl rfl dX10_least_20 (fun v4 hv4 fv4 => ?_)
        obtain ⟨a5, rfl, ta5⟩ := th_V.ref hv4
        refine lv_iload_n hx hb dX10_least_23 rfl (lv_at hl 1 rfl) ?_
        refine th_callVi (n := 1) (As := [.int v14_1]) S hK hH hS (th_A.sub (by decide)) (m_X5_waysInto l D cT T q hq a5 ta5 (v14_1) ir3) gm_1097 gm_1110 gm_1095 gm_1096 gm_122 (by decide +kernel) ⟨rfl, rfl, Nat.le_of_ble_eq_true rfl, Nat.le_of_ble_eq_true rfl⟩ ta5 kd_7 rfl rfl hl.1 rfl (Nat.le_of_ble_eq_true rfl) dX10_least_24 ⟨Nat.zero_le _, Nat.zero_le _⟩ (fun x6 H locs ix6 hH hS hF1 => ?_)
        refine lv_if_le (tgt := 32) hx hb dX10_least_27 (by decide) (fun c7 => ?_) (fun c7 => ?_)
        · skip
          have ir8 : IV x6 (-2147483648) 0 := iv_vL ix6 (iv_c (by decide) : IV 0 0 0) (iv_le c7) (by decide)
          refine th_iinc S dX10_least_32 hl (k := 1) rfl (by decide) ir3 (by decide) (fun x9 ls ex9 ix9 hl => ?_)
          have hl : lv_has ls 2 [(1, .int x9), (0, .ref a0)] := hl
          have ix9 : IV x9 2 5 := ix9
          refine lv_goto (tgt := 14) hx hb dX10_least_35 (by decide) ?_
          exact ih14 H locs ls x9 (iv_w ix9 (by decide)) hH hS (lv_sub hl [1, 0] rfl) (th_up iv14_1 ex9 (by decide) hn14)
        · skip
          have ir10 : IV x6 1 2147483647 := iv_uR (iv_c (by decide) : IV 0 0 0) ix6 (iv_nle c7) (by decide)
          refine lv_iload_n hx hb dX10_least_30 rfl (lv_at hl 1 rfl) ?_
          exact th_iret S hK hH hS hr hlocks (th_R.i (iv_w ir3 (by decide))) dX10_least_31
  have J0 : ∀ (H : Heap) (locs : List Loc) (ls : Array Slot), th_H D cT T (kd q) H → va_S (th_A T [38]) s.heap H locs → lv_has ls 2 [(0, .ref a0)] → W p l e (rmk 3 75) s m [.ref a0].toArray below meth c H locs 0 0 (MQ below (th_Q D cT T (kd q) (th_R T (some (.inl (-1, 4)))) [38]) [.ref a0].toArray s 0 0 (th_A T [38])) (F0 m 0 ls []) := by
    intro H locs ls hH hS hl
    refine lv_aload_n hx hb dX10_least_0 rfl (lv_at hl 0 rfl) ?_
    refine th_get S hK hH inG10 t0 kd_0 rfl 2 (by decide) gm_507 rfl rfl dX10_least_1 (fun v11 hv11 fv11 => ?_)
    obtain ⟨a12, rfl, ta12⟩ := th_V.ref hv11
    refine th_get S hK hH inG4 ta12 kd_3 rfl 12 (by decide) gm_282 rfl rfl dX10_least_4 (fun v13 hv13 fv13 => ?_)
    obtain ⟨x14, rfl, ix14⟩ := th_V.int hv13
    refine lv_if_ne (tgt := 12) hx hb dX10_least_7 (by decide) (fun c15 => ?_) (fun c15 => ?_)
    · skip
      have ir16 : IV x14 1 4 := iv_cutL ix14 (iv_c (by decide) : IV 0 0 0) c15 (by decide)
      refine lv_iconst (v := 1) hx hb dX10_least_12 (by decide) ?_
      refine lv_istore_n (lv' := [(1, .int 1), (0, .ref a0)]) hx hb dX10_least_13 rfl hl (by decide) rfl (fun ls hl => ?_)
      exact J14 ((5 + 1 - Int32.toInt 1).toNat + 1) H locs ls 1 (iv_w (iv_c (by decide) : IV 1 1 1) (by decide)) hH hS (lv_sub hl [1, 0] rfl) (Nat.lt_succ_self _)
    · skip
      have ir17 : IV x14 0 0 := iv_eL c15 (iv_c (by decide) : IV 0 0 0)
      refine lv_iconst (v := 0) hx hb dX10_least_10 (by decide) ?_
      exact th_iret S hK hH hS hr hlocks (th_R.i (iv_w (iv_c (by decide) : IV 0 0 0) (by decide))) dX10_least_11
  exact J0 s.heap [] ls hH va_S.rf hl

set_option maxRecDepth 100000 in
theorem m_X10_bites (l : Launch) (D : va_G) (cT : Nat → ClassId) (T : Nat → Option Nat) (q : Nat → Int) (hq : qok q) (a0 : Nat) (t0 : T a0 = some 0) : th_Met l D cT T (kd q) yX10_bites cX10_bites 3 (some .int) (rmk 1 26) [.ref a0] (th_R T (some (.inl (-2147483648, 2147483647)))) [] := by
  refine th_start (by decide) (Nat.le_of_ble_eq_true rfl) ?_
  intro p e s m below meth c ls S hK hH hr hlocks hnm hl
  have hx := S.1
  have hb := S.2.1
  have hl : lv_has ls 3 [(0, .ref a0)] := hl
  have J4 : ∀ (n : Nat) (H : Heap) (locs : List Loc) (ls : Array Slot) (v4_1 : Int32) (v4_2 : Int32), IV v4_1 (-2147483648) 2147483647 → IV v4_2 0 4 → th_H D cT T (kd q) H → va_S (th_A T []) s.heap H locs → lv_has ls 3 [(0, .ref a0), (1, .int v4_1), (2, .int v4_2)] → (4 + 1 - v4_2.toInt).toNat < n → W p l e (rmk 1 26) s m [.ref a0].toArray below meth c H locs 0 0 (MQ below (th_Q D cT T (kd q) (th_R T (some (.inl (-2147483648, 2147483647)))) []) [.ref a0].toArray s 0 0 (th_A T [])) (F0 m 4 ls []) := by
    intro n
    induction n with
    | zero => intro H locs ls v4_1 v4_2 iv4_1 iv4_2 hH hS hl hn; exact absurd hn (Nat.not_lt_zero _)
    | succ n ih4 =>
      intro H locs ls v4_1 v4_2 iv4_1 iv4_2 hH hS hl hn4
      refine lv_iload_n hx hb dX10_bites_4 rfl (lv_at hl 2 rfl) ?_
      refine lv_aload_n hx hb dX10_bites_5 rfl (lv_at hl 0 rfl) ?_
      refine th_get S hK hH inG10 t0 kd_0 rfl 2 (by decide) gm_507 rfl rfl dX10_bites_6 (fun v1 hv1 fv1 => ?_)
      obtain ⟨a2, rfl, ta2⟩ := th_V.ref hv1
      refine th_get S hK hH inG4 ta2 kd_3 rfl 12 (by decide) gm_282 rfl rfl dX10_bites_9 (fun v3 hv3 fv3 => ?_)
      obtain ⟨x4, rfl, ix4⟩ := th_V.int hv3
      refine lv_icmp_ge (tgt := 39) hx hb dX10_bites_12 (by decide) (fun c5 => ?_) (fun c5 => ?_)
      · skip
        refine lv_iload_n hx hb dX10_bites_39 rfl (lv_at hl 1 rfl) ?_
        refine lv_iconst (v := 2) hx hb dX10_bites_40 (by decide) ?_
        refine lv_idiv hx hb dX10_bites_41 (iv_n0 (iv_c (by decide) : IV 2 2 2) (by decide)) ?_
        refine lv_topi (fun x6 ex6 => ?_)
        have ix6 := iv_top x6
        exact th_iret S hK hH hS hr hlocks (th_R.i ix6) dX10_bites_42
      · skip
        have ir7 : IV v4_2 0 3 := iv_uL iv4_2 ix4 (iv_nle c5) (by decide)
        have ir8 : IV x4 1 4 := iv_uR iv4_2 ix4 (iv_nle c5) (by decide)
        refine lv_iload_n hx hb dX10_bites_15 rfl (lv_at hl 1 rfl) ?_
        refine lv_aload_n hx hb dX10_bites_16 rfl (lv_at hl 0 rfl) ?_
        refine th_get S hK hH inG10 t0 kd_0 rfl 3 (by decide) gm_508 rfl rfl dX10_bites_17 (fun v9 hv9 fv9 => ?_)
        obtain ⟨a10, rfl, ta10⟩ := th_V.ref hv9
        refine lv_aload_n hx hb dX10_bites_20 rfl (lv_at hl 0 rfl) ?_
        refine th_get S hK hH inG10 t0 kd_0 rfl 4 (by decide) gm_509 rfl rfl dX10_bites_21 (fun v11 hv11 fv11 => ?_)
        obtain ⟨a12, rfl, ta12⟩ := th_V.ref hv11
        refine th_callVr (n := 0) (As := []) S hK hH hS (th_A.sub (by decide)) (m_X3_now l D cT T q hq a12 ta12) gm_828 gm_825 gm_826 gm_827 gm_120 (by decide +kernel) ⟨rfl, rfl, Nat.le_of_ble_eq_true rfl, Nat.le_of_ble_eq_true rfl⟩ ta12 kd_5 rfl rfl hl.1 rfl (Nat.le_of_ble_eq_true rfl) dX10_bites_24 ⟨Nat.zero_le _, Nat.zero_le _⟩ (fun a13 H locs ta13 hH hS hF1 => ?_)
        refine lv_iload_n hx hb dX10_bites_27 rfl (lv_at hl 2 rfl) ?_
        refine th_callVi (n := 2) (As := [.ref a13, .int v4_2]) S hK hH hS (th_A.sub (by decide)) (m_X0_bitingBorders l D cT T q hq a10 ta10 a13 ta13 (v4_2) ir7) gm_854 gm_1115 gm_852 gm_853 gm_119 (by decide +kernel) ⟨rfl, rfl, Nat.le_of_ble_eq_true rfl, Nat.le_of_ble_eq_true rfl⟩ ta10 kd_4 rfl rfl hl.1 rfl (Nat.le_of_ble_eq_true rfl) dX10_bites_28 ⟨Nat.zero_le _, Nat.zero_le _⟩ (fun x14 H locs ix14 hH hS hF1 => ?_)
        refine lv_iadd hx hb dX10_bites_31 ?_
        refine lv_topi (fun x15 ex15 => ?_)
        have ix15 := iv_top x15
        refine lv_istore_n (lv' := [(1, .int x15), (0, .ref a0), (2, .int v4_2)]) hx hb dX10_bites_32 rfl hl (by decide) rfl (fun ls hl => ?_)
        refine th_iinc S dX10_bites_33 hl (k := 2) rfl (by decide) ir7 (by decide) (fun x16 ls ex16 ix16 hl => ?_)
        have hl : lv_has ls 3 [(2, .int x16), (1, .int x15), (0, .ref a0)] := hl
        have ix16 : IV x16 1 4 := ix16
        refine lv_goto (tgt := 4) hx hb dX10_bites_36 (by decide) ?_
        exact ih4 H locs ls x15 x16 ix15 (iv_w ix16 (by decide)) hH hS (lv_sub hl [2, 1, 0] rfl) (th_up iv4_2 ex16 (by decide) hn4)
  have J0 : ∀ (H : Heap) (locs : List Loc) (ls : Array Slot), th_H D cT T (kd q) H → va_S (th_A T []) s.heap H locs → lv_has ls 3 [(0, .ref a0)] → W p l e (rmk 1 26) s m [.ref a0].toArray below meth c H locs 0 0 (MQ below (th_Q D cT T (kd q) (th_R T (some (.inl (-2147483648, 2147483647)))) []) [.ref a0].toArray s 0 0 (th_A T [])) (F0 m 0 ls []) := by
    intro H locs ls hH hS hl
    refine lv_iconst (v := 0) hx hb dX10_bites_0 (by decide) ?_
    refine lv_istore_n (lv' := [(1, .int 0), (0, .ref a0)]) hx hb dX10_bites_1 rfl hl (by decide) rfl (fun ls hl => ?_)
    refine lv_iconst (v := 0) hx hb dX10_bites_2 (by decide) ?_
    refine lv_istore_n (lv' := [(2, .int 0), (1, .int 0), (0, .ref a0)]) hx hb dX10_bites_3 rfl hl (by decide) rfl (fun ls hl => ?_)
    exact J4 ((4 + 1 - Int32.toInt 0).toNat + 1) H locs ls 0 0 (iv_top _) (iv_w (iv_c (by decide) : IV 0 0 0) (by decide)) hH hS (lv_sub hl [2, 1, 0] rfl) (Nat.lt_succ_self _)
  exact J0 s.heap [] ls hH va_S.rf hl

set_option maxRecDepth 100000 in
theorem m_X10_lies (l : Launch) (D : va_G) (cT : Nat → ClassId) (T : Nat → Option Nat) (q : Nat → Int) (hq : qok q) (a0 : Nat) (t0 : T a0 = some 0) (y1 : Int32) (j1 : IV y1 (-2147483648) 2147483647) : th_Met l D cT T (kd q) yX10_lies cX10_lies 2 (some .int) (rmk 0 0) [.ref a0, .int y1] (th_R T (some (.inl (-2147483648, 2147483647)))) [] := by
  refine th_start (by decide) (Nat.le_of_ble_eq_true rfl) ?_
  intro p e s m below meth c ls S hK hH hr hlocks hnm hl
  have hx := S.1
  have hb := S.2.1
  have hl : lv_has ls 2 [(0, .ref a0), (1, .int y1)] := hl
  have J33 : ∀ (H : Heap) (locs : List Loc) (ls : Array Slot) (w33_0 : Int32), IV w33_0 (-2147483648) 2147483647 → th_H D cT T (kd q) H → va_S (th_A T []) s.heap H locs → lv_has ls 2 [] → W p l e (rmk 0 0) s m [.ref a0, .int y1].toArray below meth c H locs 0 0 (MQ below (th_Q D cT T (kd q) (th_R T (some (.inl (-2147483648, 2147483647)))) []) [.ref a0, .int y1].toArray s 0 0 (th_A T [])) (F0 m 33 ls [.int w33_0]) := by
    intro H locs ls w33_0 iw33_0 hH hS hl
    exact th_iret S hK hH hS hr hlocks (th_R.i iw33_0) dX10_lies_33
  have J33_s0_m1 : ∀ (H : Heap) (locs : List Loc) (ls : Array Slot), th_H D cT T (kd q) H → va_S (th_A T []) s.heap H locs → lv_has ls 2 [] → W p l e (rmk 0 0) s m [.ref a0, .int y1].toArray below meth c H locs 0 0 (MQ below (th_Q D cT T (kd q) (th_R T (some (.inl (-2147483648, 2147483647)))) []) [.ref a0, .int y1].toArray s 0 0 (th_A T [])) (F0 m 33 ls [.int (-1)]) := by
    intro H locs ls hH hS hl
    exact th_iret S hK hH hS hr hlocks (th_R.i (iv_top _)) dX10_lies_33
  have J20 : ∀ (H : Heap) (locs : List Loc) (ls : Array Slot), th_H D cT T (kd q) H → va_S (th_A T []) s.heap H locs → lv_has ls 2 [] → W p l e (rmk 0 0) s m [.ref a0, .int y1].toArray below meth c H locs 0 0 (MQ below (th_Q D cT T (kd q) (th_R T (some (.inl (-2147483648, 2147483647)))) []) [.ref a0, .int y1].toArray s 0 0 (th_A T [])) (F0 m 20 ls []) := by
    intro H locs ls hH hS hl
    refine lv_iconst (v := (-1)) hx hb dX10_lies_20 (by decide) ?_
    refine lv_goto (tgt := 33) hx hb dX10_lies_21 (by decide) ?_
    exact J33_s0_m1 H locs ls  hH hS (lv_sub hl [] rfl)
  have J0 : ∀ (H : Heap) (locs : List Loc) (ls : Array Slot), th_H D cT T (kd q) H → va_S (th_A T []) s.heap H locs → lv_has ls 2 [(0, .ref a0), (1, .int y1)] → W p l e (rmk 0 0) s m [.ref a0, .int y1].toArray below meth c H locs 0 0 (MQ below (th_Q D cT T (kd q) (th_R T (some (.inl (-2147483648, 2147483647)))) []) [.ref a0, .int y1].toArray s 0 0 (th_A T [])) (F0 m 0 ls []) := by
    intro H locs ls hH hS hl
    refine lv_iload_n hx hb dX10_lies_0 rfl (lv_at hl 1 rfl) ?_
    refine lv_if_lt (tgt := 20) hx hb dX10_lies_1 (by decide) (fun c1 => ?_) (fun c1 => ?_)
    · skip
      have ir2 : IV y1 (-2147483648) (-1) := iv_uL j1 (iv_c (by decide) : IV 0 0 0) (iv_lt c1) (by decide)
      exact J20 H locs ls  hH hS (lv_sub hl [] rfl)
    · skip
      have ir3 : IV y1 0 2147483647 := iv_vR (iv_c (by decide) : IV 0 0 0) j1 (iv_nlt c1) (by decide)
      refine lv_iload_n hx hb dX10_lies_4 rfl (lv_at hl 1 rfl) ?_
      refine lv_aload_n hx hb dX10_lies_5 rfl (lv_at hl 0 rfl) ?_
      refine th_get S hK hH inG10 t0 kd_0 rfl 6 (by decide) gm_511 rfl rfl dX10_lies_6 (fun v4 hv4 fv4 => ?_)
      obtain ⟨a5, rfl, ta5⟩ := th_V.ref hv4
      refine th_get S hK hH inG5 ta5 kd_7 rfl 2 (by decide) gm_431 rfl rfl dX10_lies_9 (fun v6 hv6 fv6 => ?_)
      obtain ⟨x7, rfl, ix7⟩ := th_V.int hv6
      refine lv_icmp_ge (tgt := 20) hx hb dX10_lies_12 (by decide) (fun c8 => ?_) (fun c8 => ?_)
      · skip
        exact J20 H locs ls  hH hS (lv_sub hl [] rfl)
      · skip
        have ir9 : IV y1 0 2147483646 := iv_uL ir3 ix7 (iv_nle c8) (by decide)
        have ir10 : IV x7 1 2147483647 := iv_uR ir3 ix7 (iv_nle c8) (by decide)
        refine lv_iload_n hx hb dX10_lies_15 rfl (lv_at hl 1 rfl) ?_
        refine lv_iconst (v := 4) hx hb dX10_lies_16 (by decide) ?_
        refine lv_icmp_lt (tgt := 24) hx hb dX10_lies_17 (by decide) (fun c11 => ?_) (fun c11 => ?_)
        · skip
          have ir12 : IV y1 0 3 := iv_uL ir9 (iv_c (by decide) : IV 4 4 4) (iv_lt c11) (by decide)
          refine lv_aload_n hx hb dX10_lies_24 rfl (lv_at hl 0 rfl) ?_
          refine th_getK S hK fv4 inG10 rfl (by decide) gm_511 rfl dX10_lies_25 ?_
          refine th_get S hK hH inG5 ta5 kd_7 rfl 1 (by decide) gm_429 rfl rfl dX10_lies_28 (fun v14 hv14 fv14 => ?_)
          obtain ⟨a15, rfl, ta15⟩ := th_V.ref hv14
          refine lv_iload_n hx hb dX10_lies_31 rfl (lv_at hl 1 rfl) ?_
          refine th_iald S hK hH ta15 kd_34 (th_in (hi := 3) ir12 (by decide)) dX10_lies_32 (fun v16 hv16 => ?_)
          obtain ⟨x17, rfl, ix17⟩ := th_V.int hv16
          exact J33 H locs ls x17 ix17 hH hS (lv_sub hl [] rfl)
        · skip
          have ir18 : IV y1 4 2147483646 := iv_vR (iv_c (by decide) : IV 4 4 4) ir9 (iv_nlt c11) (by decide)
          exact J20 H locs ls  hH hS (lv_sub hl [] rfl)
  exact J0 s.heap [] ls hH va_S.rf hl

set_option maxRecDepth 100000 in
theorem m_X10_isAmount (l : Launch) (D : va_G) (cT : Nat → ClassId) (T : Nat → Option Nat) (q : Nat → Int) (hq : qok q) (y0 : Int32) (j0 : IV y0 (-2147483648) 2147483647) : th_Met l D cT T (kd q) yX10_isAmount cX10_isAmount 1 (some .boolean) (rmk 0 0) [.int y0] (th_RG y0 0 9) [] := by
  refine th_start (by decide) (Nat.le_of_ble_eq_true rfl) ?_
  intro p e s m below meth c ls S hK hH hr hlocks hnm hl
  have hx := S.1
  have hb := S.2.1
  have hl : lv_has ls 1 [(0, .int y0)] := hl
  have J15_s0_0 : ∀ (H : Heap) (locs : List Loc) (ls : Array Slot), th_H D cT T (kd q) H → va_S (th_A T []) s.heap H locs → lv_has ls 1 [] → W p l e (rmk 0 0) s m [.int y0].toArray below meth c H locs 0 0 (MQ below (th_Q D cT T (kd q) (th_RG y0 0 9) []) [.int y0].toArray s 0 0 (th_A T [])) (F0 m 15 ls [.int 0]) := by
    intro H locs ls hH hS hl
    exact th_zret S hK hH hS hr hlocks (iv_w (iv_c (by decide) : IV 0 0 0) (by decide)) (th_RG.i (iv_w (iv_c (by decide) : IV 0 0 0) (by decide)) (fun z => absurd rfl z)) dX10_isAmount_15
  have J15_s0_1 : ∀ (H : Heap) (locs : List Loc) (ls : Array Slot), IV y0 0 9 → th_H D cT T (kd q) H → va_S (th_A T []) s.heap H locs → lv_has ls 1 [] → W p l e (rmk 0 0) s m [.int y0].toArray below meth c H locs 0 0 (MQ below (th_Q D cT T (kd q) (th_RG y0 0 9) []) [.int y0].toArray s 0 0 (th_A T [])) (F0 m 15 ls [.int 1]) := by
    intro H locs ls f15_y0 hH hS hl
    exact th_zret S hK hH hS hr hlocks (iv_w (iv_c (by decide) : IV 1 1 1) (by decide)) (th_RG.i (iv_w (iv_c (by decide) : IV 1 1 1) (by decide)) (fun _ => f15_y0)) dX10_isAmount_15
  have J14 : ∀ (H : Heap) (locs : List Loc) (ls : Array Slot), th_H D cT T (kd q) H → va_S (th_A T []) s.heap H locs → lv_has ls 1 [] → W p l e (rmk 0 0) s m [.int y0].toArray below meth c H locs 0 0 (MQ below (th_Q D cT T (kd q) (th_RG y0 0 9) []) [.int y0].toArray s 0 0 (th_A T [])) (F0 m 14 ls []) := by
    intro H locs ls hH hS hl
    refine lv_iconst (v := 0) hx hb dX10_isAmount_14 (by decide) ?_
    exact J15_s0_0 H locs ls  hH hS (lv_sub hl [] rfl)
  have J0 : ∀ (H : Heap) (locs : List Loc) (ls : Array Slot), th_H D cT T (kd q) H → va_S (th_A T []) s.heap H locs → lv_has ls 1 [(0, .int y0)] → W p l e (rmk 0 0) s m [.int y0].toArray below meth c H locs 0 0 (MQ below (th_Q D cT T (kd q) (th_RG y0 0 9) []) [.int y0].toArray s 0 0 (th_A T [])) (F0 m 0 ls []) := by
    intro H locs ls hH hS hl
    refine lv_iload_n hx hb dX10_isAmount_0 rfl (lv_at hl 0 rfl) ?_
    refine lv_if_lt (tgt := 14) hx hb dX10_isAmount_1 (by decide) (fun c1 => ?_) (fun c1 => ?_)
    · skip
      have ir2 : IV y0 (-2147483648) (-1) := iv_uL j0 (iv_c (by decide) : IV 0 0 0) (iv_lt c1) (by decide)
      exact J14 H locs ls  hH hS (lv_sub hl [] rfl)
    · skip
      have ir3 : IV y0 0 2147483647 := iv_vR (iv_c (by decide) : IV 0 0 0) j0 (iv_nlt c1) (by decide)
      refine lv_iload_n hx hb dX10_isAmount_4 rfl (lv_at hl 0 rfl) ?_
      refine lv_bipush (v := 9) hx hb dX10_isAmount_5 (by decide) ?_
      refine lv_icmp_gt (tgt := 14) hx hb dX10_isAmount_7 (by decide) (fun c4 => ?_) (fun c4 => ?_)
      · skip
        have ir5 : IV y0 10 2147483647 := iv_uR (iv_c (by decide) : IV 9 9 9) ir3 (iv_lt c4) (by decide)
        exact J14 H locs ls  hH hS (lv_sub hl [] rfl)
      · skip
        have ir6 : IV y0 0 9 := iv_vL ir3 (iv_c (by decide) : IV 9 9 9) (iv_nlt c4) (by decide)
        refine lv_iconst (v := 1) hx hb dX10_isAmount_10 (by decide) ?_
        refine lv_goto (tgt := 15) hx hb dX10_isAmount_11 (by decide) ?_
        exact J15_s0_1 H locs ls ir6 hH hS (lv_sub hl [] rfl)
  exact J0 s.heap [] ls hH va_S.rf hl

set_option maxRecDepth 100000 in
theorem m_X10_isTrialHunger (l : Launch) (D : va_G) (cT : Nat → ClassId) (T : Nat → Option Nat) (q : Nat → Int) (hq : qok q) (y0 : Int32) (j0 : IV y0 (-2147483648) 2147483647) : th_Met l D cT T (kd q) yX10_isTrialHunger cX10_isTrialHunger 1 (some .boolean) (rmk 0 0) [.int y0] (th_RG y0 1 99) [] := by
  refine th_start (by decide) (Nat.le_of_ble_eq_true rfl) ?_
  intro p e s m below meth c ls S hK hH hr hlocks hnm hl
  have hx := S.1
  have hb := S.2.1
  have hl : lv_has ls 1 [(0, .int y0)] := hl
  have J16_s0_0 : ∀ (H : Heap) (locs : List Loc) (ls : Array Slot), th_H D cT T (kd q) H → va_S (th_A T []) s.heap H locs → lv_has ls 1 [] → W p l e (rmk 0 0) s m [.int y0].toArray below meth c H locs 0 0 (MQ below (th_Q D cT T (kd q) (th_RG y0 1 99) []) [.int y0].toArray s 0 0 (th_A T [])) (F0 m 16 ls [.int 0]) := by
    intro H locs ls hH hS hl
    exact th_zret S hK hH hS hr hlocks (iv_w (iv_c (by decide) : IV 0 0 0) (by decide)) (th_RG.i (iv_w (iv_c (by decide) : IV 0 0 0) (by decide)) (fun z => absurd rfl z)) dX10_isTrialHunger_16
  have J16_s0_1 : ∀ (H : Heap) (locs : List Loc) (ls : Array Slot), IV y0 1 99 → th_H D cT T (kd q) H → va_S (th_A T []) s.heap H locs → lv_has ls 1 [] → W p l e (rmk 0 0) s m [.int y0].toArray below meth c H locs 0 0 (MQ below (th_Q D cT T (kd q) (th_RG y0 1 99) []) [.int y0].toArray s 0 0 (th_A T [])) (F0 m 16 ls [.int 1]) := by
    intro H locs ls f16_y0 hH hS hl
    exact th_zret S hK hH hS hr hlocks (iv_w (iv_c (by decide) : IV 1 1 1) (by decide)) (th_RG.i (iv_w (iv_c (by decide) : IV 1 1 1) (by decide)) (fun _ => f16_y0)) dX10_isTrialHunger_16
  have J15 : ∀ (H : Heap) (locs : List Loc) (ls : Array Slot), th_H D cT T (kd q) H → va_S (th_A T []) s.heap H locs → lv_has ls 1 [] → W p l e (rmk 0 0) s m [.int y0].toArray below meth c H locs 0 0 (MQ below (th_Q D cT T (kd q) (th_RG y0 1 99) []) [.int y0].toArray s 0 0 (th_A T [])) (F0 m 15 ls []) := by
    intro H locs ls hH hS hl
    refine lv_iconst (v := 0) hx hb dX10_isTrialHunger_15 (by decide) ?_
    exact J16_s0_0 H locs ls  hH hS (lv_sub hl [] rfl)
  have J0 : ∀ (H : Heap) (locs : List Loc) (ls : Array Slot), th_H D cT T (kd q) H → va_S (th_A T []) s.heap H locs → lv_has ls 1 [(0, .int y0)] → W p l e (rmk 0 0) s m [.int y0].toArray below meth c H locs 0 0 (MQ below (th_Q D cT T (kd q) (th_RG y0 1 99) []) [.int y0].toArray s 0 0 (th_A T [])) (F0 m 0 ls []) := by
    intro H locs ls hH hS hl
    refine lv_iload_n hx hb dX10_isTrialHunger_0 rfl (lv_at hl 0 rfl) ?_
    refine lv_iconst (v := 1) hx hb dX10_isTrialHunger_1 (by decide) ?_
    refine lv_icmp_lt (tgt := 15) hx hb dX10_isTrialHunger_2 (by decide) (fun c1 => ?_) (fun c1 => ?_)
    · skip
      have ir2 : IV y0 (-2147483648) 0 := iv_uL j0 (iv_c (by decide) : IV 1 1 1) (iv_lt c1) (by decide)
      exact J15 H locs ls  hH hS (lv_sub hl [] rfl)
    · skip
      have ir3 : IV y0 1 2147483647 := iv_vR (iv_c (by decide) : IV 1 1 1) j0 (iv_nlt c1) (by decide)
      refine lv_iload_n hx hb dX10_isTrialHunger_5 rfl (lv_at hl 0 rfl) ?_
      refine lv_bipush (v := 99) hx hb dX10_isTrialHunger_6 (by decide) ?_
      refine lv_icmp_gt (tgt := 15) hx hb dX10_isTrialHunger_8 (by decide) (fun c4 => ?_) (fun c4 => ?_)
      · skip
        have ir5 : IV y0 100 2147483647 := iv_uR (iv_c (by decide) : IV 99 99 99) ir3 (iv_lt c4) (by decide)
        exact J15 H locs ls  hH hS (lv_sub hl [] rfl)
      · skip
        have ir6 : IV y0 1 99 := iv_vL ir3 (iv_c (by decide) : IV 99 99 99) (iv_nlt c4) (by decide)
        refine lv_iconst (v := 1) hx hb dX10_isTrialHunger_11 (by decide) ?_
        refine lv_goto (tgt := 16) hx hb dX10_isTrialHunger_12 (by decide) ?_
        exact J16_s0_1 H locs ls ir6 hH hS (lv_sub hl [] rfl)
  exact J0 s.heap [] ls hH va_S.rf hl

set_option maxRecDepth 100000 in
theorem m_X10_trial (l : Launch) (D : va_G) (cT : Nat → ClassId) (T : Nat → Option Nat) (q : Nat → Int) (hq : qok q) (a0 : Nat) (t0 : T a0 = some 0) (y1 : Int32) (j1 : IV y1 (-2147483648) 2147483647) (y2 : Int32) (j2 : IV y2 (-2147483648) 2147483647) (y3 : Int32) (j3 : IV y3 (-2147483648) 2147483647) (y4 : Int32) (j4 : IV y4 (-2147483648) 2147483647) (y5 : Int32) (j5 : IV y5 0 1) : th_Met l D cT T (kd q) yX10_trial cX10_trial 6 (some .int) (rmk 1 25) [.ref a0, .int y1, .int y2, .int y3, .int y4, .int y5] (th_R T (some (.inl (-1, 29)))) [8, 40, 41, 42, 43, 44] := by
  refine th_start (by decide) (Nat.le_of_ble_eq_true rfl) ?_
  intro p e s m below meth c ls S hK hH hr hlocks hnm hl
  have hx := S.1
  have hb := S.2.1
  have hl : lv_has ls 6 [(0, .ref a0), (1, .int y1), (2, .int y2), (3, .int y3), (4, .int y4), (5, .int y5)] := hl
  have J29 : ∀ (H : Heap) (locs : List Loc) (ls : Array Slot), th_H D cT T (kd q) H → va_S (th_A T [8, 40, 41, 42, 43, 44]) s.heap H locs → lv_has ls 6 [] → W p l e (rmk 1 25) s m [.ref a0, .int y1, .int y2, .int y3, .int y4, .int y5].toArray below meth c H locs 0 0 (MQ below (th_Q D cT T (kd q) (th_R T (some (.inl (-1, 29)))) [8, 40, 41, 42, 43, 44]) [.ref a0, .int y1, .int y2, .int y3, .int y4, .int y5].toArray s 0 0 (th_A T [8, 40, 41, 42, 43, 44])) (F0 m 29 ls []) := by
    intro H locs ls hH hS hl
    refine lv_iconst (v := (-1)) hx hb dX10_trial_29 (by decide) ?_
    exact th_iret S hK hH hS hr hlocks (th_R.i (iv_w (iv_c (by decide) : IV (-1) (-1) (-1)) (by decide))) dX10_trial_30
  have J0 : ∀ (H : Heap) (locs : List Loc) (ls : Array Slot), th_H D cT T (kd q) H → va_S (th_A T [8, 40, 41, 42, 43, 44]) s.heap H locs → lv_has ls 6 [(0, .ref a0), (1, .int y1), (2, .int y2), (3, .int y3), (4, .int y4), (5, .int y5)] → W p l e (rmk 1 25) s m [.ref a0, .int y1, .int y2, .int y3, .int y4, .int y5].toArray below meth c H locs 0 0 (MQ below (th_Q D cT T (kd q) (th_R T (some (.inl (-1, 29)))) [8, 40, 41, 42, 43, 44]) [.ref a0, .int y1, .int y2, .int y3, .int y4, .int y5].toArray s 0 0 (th_A T [8, 40, 41, 42, 43, 44])) (F0 m 0 ls []) := by
    intro H locs ls hH hS hl
    refine lv_iload_n hx hb dX10_trial_0 rfl (lv_at hl 1 rfl) ?_
    refine th_callSg (n := 1) (As := [.int y1]) S hK hH hS (th_A.sub (by decide)) (m_X10_isAmount l D cT T q hq (y1) j1) gm_1139 gm_1137 gm_1138 gm_113 (by decide +kernel) ⟨rfl, rfl, Nat.le_of_ble_eq_true rfl, Nat.le_of_ble_eq_true rfl⟩ rfl hl.1 rfl (Nat.le_of_ble_eq_true rfl) dX10_trial_1 ⟨Nat.zero_le _, Nat.zero_le _⟩ (fun x1 H locs ix1 ox1 hH hS hF1 => ?_)
    refine lv_if_eq (tgt := 29) hx hb dX10_trial_4 (by decide) (fun c2 => ?_) (fun c2 => ?_)
    · skip
      have ir3 : IV x1 0 0 := iv_eL c2 (iv_c (by decide) : IV 0 0 0)
      exact J29 H locs ls  hH hS (lv_sub hl [] rfl)
    · skip
      have ir4 : IV x1 1 1 := iv_cutL ix1 (iv_c (by decide) : IV 0 0 0) c2 (by decide)
      have ir5 : IV y1 0 9 := ox1 c2
      refine lv_iload_n hx hb dX10_trial_7 rfl (lv_at hl 2 rfl) ?_
      refine th_callSg (n := 1) (As := [.int y2]) S hK hH hS (th_A.sub (by decide)) (m_X10_isAmount l D cT T q hq (y2) j2) gm_1139 gm_1137 gm_1138 gm_113 (by decide +kernel) ⟨rfl, rfl, Nat.le_of_ble_eq_true rfl, Nat.le_of_ble_eq_true rfl⟩ rfl hl.1 rfl (Nat.le_of_ble_eq_true rfl) dX10_trial_8 ⟨Nat.zero_le _, Nat.zero_le _⟩ (fun x6 H locs ix6 ox6 hH hS hF1 => ?_)
      refine lv_if_eq (tgt := 29) hx hb dX10_trial_11 (by decide) (fun c7 => ?_) (fun c7 => ?_)
      · skip
        have ir8 : IV x6 0 0 := iv_eL c7 (iv_c (by decide) : IV 0 0 0)
        exact J29 H locs ls  hH hS (lv_sub hl [] rfl)
      · skip
        have ir9 : IV x6 1 1 := iv_cutL ix6 (iv_c (by decide) : IV 0 0 0) c7 (by decide)
        have ir10 : IV y2 0 9 := ox6 c7
        refine lv_iload_n hx hb dX10_trial_14 rfl (lv_at hl 3 rfl) ?_
        refine th_callSg (n := 1) (As := [.int y3]) S hK hH hS (th_A.sub (by decide)) (m_X10_isAmount l D cT T q hq (y3) j3) gm_1139 gm_1137 gm_1138 gm_113 (by decide +kernel) ⟨rfl, rfl, Nat.le_of_ble_eq_true rfl, Nat.le_of_ble_eq_true rfl⟩ rfl hl.1 rfl (Nat.le_of_ble_eq_true rfl) dX10_trial_15 ⟨Nat.zero_le _, Nat.zero_le _⟩ (fun x11 H locs ix11 ox11 hH hS hF1 => ?_)
        refine lv_if_eq (tgt := 29) hx hb dX10_trial_18 (by decide) (fun c12 => ?_) (fun c12 => ?_)
        · skip
          have ir13 : IV x11 0 0 := iv_eL c12 (iv_c (by decide) : IV 0 0 0)
          exact J29 H locs ls  hH hS (lv_sub hl [] rfl)
        · skip
          have ir14 : IV x11 1 1 := iv_cutL ix11 (iv_c (by decide) : IV 0 0 0) c12 (by decide)
          have ir15 : IV y3 0 9 := ox11 c12
          refine lv_iload hx hb dX10_trial_21 (lv_at hl 4 rfl) ?_
          refine th_callSg (n := 1) (As := [.int y4]) S hK hH hS (th_A.sub (by decide)) (m_X10_isTrialHunger l D cT T q hq (y4) j4) gm_1142 gm_1140 gm_1141 gm_113 (by decide +kernel) ⟨rfl, rfl, Nat.le_of_ble_eq_true rfl, Nat.le_of_ble_eq_true rfl⟩ rfl hl.1 rfl (Nat.le_of_ble_eq_true rfl) dX10_trial_23 ⟨Nat.zero_le _, Nat.zero_le _⟩ (fun x16 H locs ix16 ox16 hH hS hF1 => ?_)
          refine lv_if_ne (tgt := 31) hx hb dX10_trial_26 (by decide) (fun c17 => ?_) (fun c17 => ?_)
          · skip
            have ir18 : IV x16 1 1 := iv_cutL ix16 (iv_c (by decide) : IV 0 0 0) c17 (by decide)
            have ir19 : IV y4 1 99 := ox16 c17
            refine lv_aload_n hx hb dX10_trial_31 rfl (lv_at hl 0 rfl) ?_
            refine th_get S hK hH inG10 t0 kd_0 rfl 7 (by decide) gm_512 rfl rfl dX10_trial_32 (fun v20 hv20 fv20 => ?_)
            obtain ⟨a21, rfl, ta21⟩ := th_V.ref hv20
            refine lv_iload_n hx hb dX10_trial_35 rfl (lv_at hl 1 rfl) ?_
            refine lv_iload_n hx hb dX10_trial_36 rfl (lv_at hl 2 rfl) ?_
            refine lv_iload_n hx hb dX10_trial_37 rfl (lv_at hl 3 rfl) ?_
            refine lv_iload hx hb dX10_trial_38 (lv_at hl 4 rfl) ?_
            refine lv_iload hx hb dX10_trial_40 (lv_at hl 5 rfl) ?_
            refine th_callVi (n := 5) (As := [.int y1, .int y2, .int y3, .int y4, .int y5]) S hK hH hS (th_A.sub (by decide)) (m_X9_tell l D cT T q hq a21 ta21 (y1) (iv_top _) (y2) (iv_top _) (y3) (iv_top _) (y4) (iv_top _) (y5) j5) gm_1146 gm_1143 gm_1144 gm_1145 gm_123 (by decide +kernel) ⟨rfl, rfl, Nat.le_of_ble_eq_true rfl, Nat.le_of_ble_eq_true rfl⟩ ta21 kd_8 rfl rfl hl.1 rfl (Nat.le_of_ble_eq_true rfl) dX10_trial_42 ⟨Nat.zero_le _, Nat.zero_le _⟩ (fun x22 H locs ix22 hH hS hF1 => ?_)
            exact th_iret S hK hH hS hr hlocks (th_R.i ix22) dX10_trial_45
          · skip
            have ir23 : IV x16 0 0 := iv_eL c17 (iv_c (by decide) : IV 0 0 0)
            exact J29 H locs ls  hH hS (lv_sub hl [] rfl)
  exact J0 s.heap [] ls hH va_S.rf hl

set_option maxRecDepth 100000 in
theorem m_X10_untell (l : Launch) (D : va_G) (cT : Nat → ClassId) (T : Nat → Option Nat) (q : Nat → Int) (hq : qok q) (a0 : Nat) (t0 : T a0 = some 0) (y1 : Int32) (j1 : IV y1 (-2147483648) 2147483647) : th_Met l D cT T (kd q) yX10_untell cX10_untell 2 (some .boolean) (rmk 1 21) [.ref a0, .int y1] (th_R T (some (.inl (0, 1)))) [44] := by
  refine th_start (by decide) (Nat.le_of_ble_eq_true rfl) ?_
  intro p e s m below meth c ls S hK hH hr hlocks hnm hl
  have hx := S.1
  have hb := S.2.1
  have hl : lv_has ls 2 [(0, .ref a0), (1, .int y1)] := hl
  have J0 : ∀ (H : Heap) (locs : List Loc) (ls : Array Slot), th_H D cT T (kd q) H → va_S (th_A T [44]) s.heap H locs → lv_has ls 2 [(0, .ref a0), (1, .int y1)] → W p l e (rmk 1 21) s m [.ref a0, .int y1].toArray below meth c H locs 0 0 (MQ below (th_Q D cT T (kd q) (th_R T (some (.inl (0, 1)))) [44]) [.ref a0, .int y1].toArray s 0 0 (th_A T [44])) (F0 m 0 ls []) := by
    intro H locs ls hH hS hl
    refine lv_aload_n hx hb dX10_untell_0 rfl (lv_at hl 0 rfl) ?_
    refine th_get S hK hH inG10 t0 kd_0 rfl 7 (by decide) gm_512 rfl rfl dX10_untell_1 (fun v1 hv1 fv1 => ?_)
    obtain ⟨a2, rfl, ta2⟩ := th_V.ref hv1
    refine lv_iload_n hx hb dX10_untell_4 rfl (lv_at hl 1 rfl) ?_
    refine th_callVi (n := 1) (As := [.int y1]) S hK hH hS (th_A.sub (by decide)) (m_X9_takeBack l D cT T q hq a2 ta2 (y1) j1) gm_1154 gm_1151 gm_1152 gm_1153 gm_123 (by decide +kernel) ⟨rfl, rfl, Nat.le_of_ble_eq_true rfl, Nat.le_of_ble_eq_true rfl⟩ ta2 kd_8 rfl rfl hl.1 rfl (Nat.le_of_ble_eq_true rfl) dX10_untell_5 ⟨Nat.zero_le _, Nat.zero_le _⟩ (fun x3 H locs ix3 hH hS hF1 => ?_)
    exact th_zret S hK hH hS hr hlocks ix3 (th_R.i ix3) dX10_untell_8
  exact J0 s.heap [] ls hH va_S.rf hl

set_option maxRecDepth 100000 in
theorem m_X10_fit (l : Launch) (D : va_G) (cT : Nat → ClassId) (T : Nat → Option Nat) (q : Nat → Int) (hq : qok q) (a0 : Nat) (t0 : T a0 = some 0) (y1 : Int32) (j1 : IV y1 (-2147483648) 2147483647) : th_Met l D cT T (kd q) yX10_fit cX10_fit 2 (some .int) (rmk 3 78) [.ref a0, .int y1] (th_R T (some (.inl (-2147483648, 2147483647)))) [45] := by
  refine th_start (by decide) (Nat.le_of_ble_eq_true rfl) ?_
  intro p e s m below meth c ls S hK hH hr hlocks hnm hl
  have hx := S.1
  have hb := S.2.1
  have hl : lv_has ls 2 [(0, .ref a0), (1, .int y1)] := hl
  have J0 : ∀ (H : Heap) (locs : List Loc) (ls : Array Slot), th_H D cT T (kd q) H → va_S (th_A T [45]) s.heap H locs → lv_has ls 2 [(0, .ref a0), (1, .int y1)] → W p l e (rmk 3 78) s m [.ref a0, .int y1].toArray below meth c H locs 0 0 (MQ below (th_Q D cT T (kd q) (th_R T (some (.inl (-2147483648, 2147483647)))) [45]) [.ref a0, .int y1].toArray s 0 0 (th_A T [45])) (F0 m 0 ls []) := by
    intro H locs ls hH hS hl
    refine lv_aload_n hx hb dX10_fit_0 rfl (lv_at hl 0 rfl) ?_
    refine th_get S hK hH inG10 t0 kd_0 rfl 7 (by decide) gm_512 rfl rfl dX10_fit_1 (fun v1 hv1 fv1 => ?_)
    obtain ⟨a2, rfl, ta2⟩ := th_V.ref hv1
    refine lv_aload_n hx hb dX10_fit_4 rfl (lv_at hl 0 rfl) ?_
    refine th_get S hK hH inG10 t0 kd_0 rfl 2 (by decide) gm_507 rfl rfl dX10_fit_5 (fun v3 hv3 fv3 => ?_)
    obtain ⟨a4, rfl, ta4⟩ := th_V.ref hv3
    refine th_get S hK hH inG4 ta4 kd_3 rfl 11 (by decide) gm_277 rfl rfl dX10_fit_8 (fun v5 hv5 fv5 => ?_)
    obtain ⟨x6, rfl, ix6⟩ := th_V.int hv5
    refine lv_iload_n hx hb dX10_fit_11 rfl (lv_at hl 1 rfl) ?_
    refine th_callVi (n := 2) (As := [.int x6, .int y1]) S hK hH hS (th_A.sub (by decide)) (m_X9_countFitting l D cT T q hq a2 ta2 (x6) ix6 (y1) j1) gm_1167 gm_1164 gm_1165 gm_1166 gm_123 (by decide +kernel) ⟨rfl, rfl, Nat.le_of_ble_eq_true rfl, Nat.le_of_ble_eq_true rfl⟩ ta2 kd_8 rfl rfl hl.1 rfl (Nat.le_of_ble_eq_true rfl) dX10_fit_12 ⟨Nat.zero_le _, Nat.zero_le _⟩ (fun x7 H locs ix7 hH hS hF1 => ?_)
    exact th_iret S hK hH hS hr hlocks (th_R.i ix7) dX10_fit_15
  exact J0 s.heap [] ls hH va_S.rf hl

set_option maxRecDepth 100000 in
theorem m_X10_sure (l : Launch) (D : va_G) (cT : Nat → ClassId) (T : Nat → Option Nat) (q : Nat → Int) (hq : qok q) (a0 : Nat) (t0 : T a0 = some 0) (y1 : Int32) (j1 : IV y1 (-2147483648) 2147483647) (y2 : Int32) (j2 : IV y2 (-2147483648) 2147483647) : th_Met l D cT T (kd q) yX10_sure cX10_sure 3 (some .int) (rmk 4 103) [.ref a0, .int y1, .int y2] (th_R T (some (.inl (-2, 5)))) [45] := by
  refine th_start (by decide) (Nat.le_of_ble_eq_true rfl) ?_
  intro p e s m below meth c ls S hK hH hr hlocks hnm hl
  have hx := S.1
  have hb := S.2.1
  have hl : lv_has ls 3 [(0, .ref a0), (1, .int y1), (2, .int y2)] := hl
  have J28 : ∀ (H : Heap) (locs : List Loc) (ls : Array Slot) (w28_0 : Int32), IV w28_0 (-2) 5 → th_H D cT T (kd q) H → va_S (th_A T [45]) s.heap H locs → lv_has ls 3 [] → W p l e (rmk 4 103) s m [.ref a0, .int y1, .int y2].toArray below meth c H locs 0 0 (MQ below (th_Q D cT T (kd q) (th_R T (some (.inl (-2, 5)))) [45]) [.ref a0, .int y1, .int y2].toArray s 0 0 (th_A T [45])) (F0 m 28 ls [.int w28_0]) := by
    intro H locs ls w28_0 iw28_0 hH hS hl
    exact th_iret S hK hH hS hr hlocks (th_R.i iw28_0) dX10_sure_28
  have J28_s0_m1 : ∀ (H : Heap) (locs : List Loc) (ls : Array Slot), th_H D cT T (kd q) H → va_S (th_A T [45]) s.heap H locs → lv_has ls 3 [] → W p l e (rmk 4 103) s m [.ref a0, .int y1, .int y2].toArray below meth c H locs 0 0 (MQ below (th_Q D cT T (kd q) (th_R T (some (.inl (-2, 5)))) [45]) [.ref a0, .int y1, .int y2].toArray s 0 0 (th_A T [45])) (F0 m 28 ls [.int (-1)]) := by
    intro H locs ls hH hS hl
    exact th_iret S hK hH hS hr hlocks (th_R.i (iv_w (iv_c (by decide) : IV (-1) (-1) (-1)) (by decide))) dX10_sure_28
  have J0 : ∀ (H : Heap) (locs : List Loc) (ls : Array Slot), th_H D cT T (kd q) H → va_S (th_A T [45]) s.heap H locs → lv_has ls 3 [(0, .ref a0), (1, .int y1), (2, .int y2)] → W p l e (rmk 4 103) s m [.ref a0, .int y1, .int y2].toArray below meth c H locs 0 0 (MQ below (th_Q D cT T (kd q) (th_R T (some (.inl (-2, 5)))) [45]) [.ref a0, .int y1, .int y2].toArray s 0 0 (th_A T [45])) (F0 m 0 ls []) := by
    intro H locs ls hH hS hl
    refine lv_aload_n hx hb dX10_sure_0 rfl (lv_at hl 0 rfl) ?_
    refine lv_iload_n hx hb dX10_sure_1 rfl (lv_at hl 1 rfl) ?_
    refine th_callVg (n := 1) (As := [.int y1]) S hK hH hS (th_A.sub (by decide)) (m_X10_isFood l D cT T q hq a0 t0 (y1) j1) gm_824 gm_821 gm_823 gm_23 gm_113 (by decide +kernel) ⟨rfl, rfl, Nat.le_of_ble_eq_true rfl, Nat.le_of_ble_eq_true rfl⟩ t0 kd_0 rfl rfl hl.1 rfl (Nat.le_of_ble_eq_true rfl) dX10_sure_2 ⟨Nat.zero_le _, Nat.zero_le _⟩ (fun x1 H locs ix1 ox1 hH hS hF1 => ?_)
    refine lv_if_eq (tgt := 27) hx hb dX10_sure_5 (by decide) (fun c2 => ?_) (fun c2 => ?_)
    · skip
      have ir3 : IV x1 0 0 := iv_eL c2 (iv_c (by decide) : IV 0 0 0)
      refine lv_iconst (v := (-1)) hx hb dX10_sure_27 (by decide) ?_
      exact J28_s0_m1 H locs ls  hH hS (lv_sub hl [] rfl)
    · skip
      have ir4 : IV x1 1 1 := iv_cutL ix1 (iv_c (by decide) : IV 0 0 0) c2 (by decide)
      have ir5 : IV y1 0 2 := ox1 c2
      refine lv_aload_n hx hb dX10_sure_8 rfl (lv_at hl 0 rfl) ?_
      refine th_get S hK hH inG10 t0 kd_0 rfl 7 (by decide) gm_512 rfl rfl dX10_sure_9 (fun v6 hv6 fv6 => ?_)
      obtain ⟨a7, rfl, ta7⟩ := th_V.ref hv6
      refine lv_aload_n hx hb dX10_sure_12 rfl (lv_at hl 0 rfl) ?_
      refine th_get S hK hH inG10 t0 kd_0 rfl 2 (by decide) gm_507 rfl rfl dX10_sure_13 (fun v8 hv8 fv8 => ?_)
      obtain ⟨a9, rfl, ta9⟩ := th_V.ref hv8
      refine th_get S hK hH inG4 ta9 kd_3 rfl 11 (by decide) gm_277 rfl rfl dX10_sure_16 (fun v10 hv10 fv10 => ?_)
      obtain ⟨x11, rfl, ix11⟩ := th_V.int hv10
      refine lv_iload_n hx hb dX10_sure_19 rfl (lv_at hl 1 rfl) ?_
      refine lv_iload_n hx hb dX10_sure_20 rfl (lv_at hl 2 rfl) ?_
      refine th_callVi (n := 3) (As := [.int x11, .int y1, .int y2]) S hK hH hS (th_A.sub (by decide)) (m_X9_sureLiking l D cT T q hq a7 ta7 (x11) ix11 (y1) ir5 (y2) j2) gm_1184 gm_1181 gm_1182 gm_1183 gm_123 (by decide +kernel) ⟨rfl, rfl, Nat.le_of_ble_eq_true rfl, Nat.le_of_ble_eq_true rfl⟩ ta7 kd_8 rfl rfl hl.1 rfl (Nat.le_of_ble_eq_true rfl) dX10_sure_21 ⟨Nat.zero_le _, Nat.zero_le _⟩ (fun x12 H locs ix12 hH hS hF1 => ?_)
      refine lv_goto (tgt := 28) hx hb dX10_sure_24 (by decide) ?_
      exact J28 H locs ls x12 ix12 hH hS (lv_sub hl [] rfl)
  exact J0 s.heap [] ls hH va_S.rf hl

set_option maxRecDepth 100000 in
theorem m_X10_ask (l : Launch) (D : va_G) (cT : Nat → ClassId) (T : Nat → Option Nat) (q : Nat → Int) (hq : qok q) (a0 : Nat) (t0 : T a0 = some 0) (y1 : Int32) (j1 : IV y1 (-2147483648) 2147483647) (y2 : Int32) (j2 : IV y2 (-2147483648) 2147483647) (y3 : Int32) (j3 : IV y3 (-2147483648) 2147483647) : th_Met l D cT T (kd q) yX10_ask cX10_ask 4 (some .int) (rmk 4 109) [.ref a0, .int y1, .int y2, .int y3] (th_R T (some (.inl (-2147483648, 2147483647)))) [45] := by
  refine th_start (by decide) (Nat.le_of_ble_eq_true rfl) ?_
  intro p e s m below meth c ls S hK hH hr hlocks hnm hl
  have hx := S.1
  have hb := S.2.1
  have hl : lv_has ls 4 [(0, .ref a0), (1, .int y1), (2, .int y2), (3, .int y3)] := hl
  have J26 : ∀ (H : Heap) (locs : List Loc) (ls : Array Slot), th_H D cT T (kd q) H → va_S (th_A T [45]) s.heap H locs → lv_has ls 4 [] → W p l e (rmk 4 109) s m [.ref a0, .int y1, .int y2, .int y3].toArray below meth c H locs 0 0 (MQ below (th_Q D cT T (kd q) (th_R T (some (.inl (-2147483648, 2147483647)))) [45]) [.ref a0, .int y1, .int y2, .int y3].toArray s 0 0 (th_A T [45])) (F0 m 26 ls []) := by
    intro H locs ls hH hS hl
    refine lv_iconst (v := (-1)) hx hb dX10_ask_26 (by decide) ?_
    exact th_iret S hK hH hS hr hlocks (th_R.i (iv_top _)) dX10_ask_27
  have J0 : ∀ (H : Heap) (locs : List Loc) (ls : Array Slot), th_H D cT T (kd q) H → va_S (th_A T [45]) s.heap H locs → lv_has ls 4 [(0, .ref a0), (1, .int y1), (2, .int y2), (3, .int y3)] → W p l e (rmk 4 109) s m [.ref a0, .int y1, .int y2, .int y3].toArray below meth c H locs 0 0 (MQ below (th_Q D cT T (kd q) (th_R T (some (.inl (-2147483648, 2147483647)))) [45]) [.ref a0, .int y1, .int y2, .int y3].toArray s 0 0 (th_A T [45])) (F0 m 0 ls []) := by
    intro H locs ls hH hS hl
    refine lv_iload_n hx hb dX10_ask_0 rfl (lv_at hl 1 rfl) ?_
    refine th_callSg (n := 1) (As := [.int y1]) S hK hH hS (th_A.sub (by decide)) (m_X10_isTrialHunger l D cT T q hq (y1) j1) gm_1142 gm_1140 gm_1141 gm_113 (by decide +kernel) ⟨rfl, rfl, Nat.le_of_ble_eq_true rfl, Nat.le_of_ble_eq_true rfl⟩ rfl hl.1 rfl (Nat.le_of_ble_eq_true rfl) dX10_ask_1 ⟨Nat.zero_le _, Nat.zero_le _⟩ (fun x1 H locs ix1 ox1 hH hS hF1 => ?_)
    refine lv_if_eq (tgt := 26) hx hb dX10_ask_4 (by decide) (fun c2 => ?_) (fun c2 => ?_)
    · skip
      have ir3 : IV x1 0 0 := iv_eL c2 (iv_c (by decide) : IV 0 0 0)
      exact J26 H locs ls  hH hS (lv_sub hl [] rfl)
    · skip
      have ir4 : IV x1 1 1 := iv_cutL ix1 (iv_c (by decide) : IV 0 0 0) c2 (by decide)
      have ir5 : IV y1 1 99 := ox1 c2
      refine lv_iload_n hx hb dX10_ask_7 rfl (lv_at hl 2 rfl) ?_
      refine lv_if_lt (tgt := 26) hx hb dX10_ask_8 (by decide) (fun c6 => ?_) (fun c6 => ?_)
      · skip
        have ir7 : IV y2 (-2147483648) (-1) := iv_uL j2 (iv_c (by decide) : IV 0 0 0) (iv_lt c6) (by decide)
        exact J26 H locs ls  hH hS (lv_sub hl [] rfl)
      · skip
        have ir8 : IV y2 0 2147483647 := iv_vR (iv_c (by decide) : IV 0 0 0) j2 (iv_nlt c6) (by decide)
        refine lv_iload_n hx hb dX10_ask_11 rfl (lv_at hl 2 rfl) ?_
        refine lv_iconst (v := 1) hx hb dX10_ask_12 (by decide) ?_
        refine lv_icmp_gt (tgt := 26) hx hb dX10_ask_13 (by decide) (fun c9 => ?_) (fun c9 => ?_)
        · skip
          have ir10 : IV y2 2 2147483647 := iv_uR (iv_c (by decide) : IV 1 1 1) ir8 (iv_lt c9) (by decide)
          exact J26 H locs ls  hH hS (lv_sub hl [] rfl)
        · skip
          have ir11 : IV y2 0 1 := iv_vL ir8 (iv_c (by decide) : IV 1 1 1) (iv_nlt c9) (by decide)
          refine lv_aload_n hx hb dX10_ask_16 rfl (lv_at hl 0 rfl) ?_
          refine th_get S hK hH inG10 t0 kd_0 rfl 2 (by decide) gm_507 rfl rfl dX10_ask_17 (fun v12 hv12 fv12 => ?_)
          obtain ⟨a13, rfl, ta13⟩ := th_V.ref hv12
          refine th_get S hK hH inG4 ta13 kd_3 rfl 11 (by decide) gm_277 rfl rfl dX10_ask_20 (fun v14 hv14 fv14 => ?_)
          obtain ⟨x15, rfl, ix15⟩ := th_V.int hv14
          refine lv_if_ne (tgt := 28) hx hb dX10_ask_23 (by decide) (fun c16 => ?_) (fun c16 => ?_)
          · skip
            have ir17 : IV x15 1 3 := iv_cutL ix15 (iv_c (by decide) : IV 0 0 0) c16 (by decide)
            refine lv_aload_n hx hb dX10_ask_28 rfl (lv_at hl 0 rfl) ?_
            refine th_get S hK hH inG10 t0 kd_0 rfl 7 (by decide) gm_512 rfl rfl dX10_ask_29 (fun v18 hv18 fv18 => ?_)
            obtain ⟨a19, rfl, ta19⟩ := th_V.ref hv18
            refine lv_aload_n hx hb dX10_ask_32 rfl (lv_at hl 0 rfl) ?_
            refine th_getK S hK fv12 inG10 rfl (by decide) gm_507 rfl dX10_ask_33 ?_
            refine th_getK S hK fv14 inG4 rfl (by decide) gm_277 rfl dX10_ask_36 ?_
            refine lv_iload_n hx hb dX10_ask_39 rfl (lv_at hl 1 rfl) ?_
            refine lv_iload_n hx hb dX10_ask_40 rfl (lv_at hl 2 rfl) ?_
            refine lv_iload_n hx hb dX10_ask_41 rfl (lv_at hl 3 rfl) ?_
            refine th_callVi (n := 4) (As := [.int x15, .int y1, .int y2, .int y3]) S hK hH hS (th_A.sub (by decide)) (m_X9_nextTrial l D cT T q hq a19 ta19 (x15) (iv_w ir17 (by decide)) (y1) (iv_top _) (y2) (iv_top _) (y3) j3) gm_1193 gm_1190 gm_1191 gm_1192 gm_123 (by decide +kernel) ⟨rfl, rfl, Nat.le_of_ble_eq_true rfl, Nat.le_of_ble_eq_true rfl⟩ ta19 kd_8 rfl rfl hl.1 rfl (Nat.le_of_ble_eq_true rfl) dX10_ask_42 ⟨Nat.zero_le _, Nat.zero_le _⟩ (fun x22 H locs ix22 hH hS hF1 => ?_)
            have f23 := fv12.kept (hF1 _ fv12.lt (th_off t0 (by decide)))
            have f24 := fv14.kept (hF1 _ fv14.lt (th_off ta13 (by decide)))
            exact th_iret S hK hH hS hr hlocks (th_R.i ix22) dX10_ask_45
          · skip
            have ir25 : IV x15 0 0 := iv_eL c16 (iv_c (by decide) : IV 0 0 0)
            exact J26 H locs ls  hH hS (lv_sub hl [] rfl)
  exact J0 s.heap [] ls hH va_S.rf hl

set_option maxRecDepth 100000 in
theorem m_X10_about (l : Launch) (D : va_G) (cT : Nat → ClassId) (T : Nat → Option Nat) (q : Nat → Int) (hq : qok q) (a0 : Nat) (t0 : T a0 = some 0) (y1 : Int32) (j1 : IV y1 (-2147483648) 2147483647) : th_Met l D cT T (kd q) yX10_about cX10_about 3 (some .int) (rmk 1 20) [.ref a0, .int y1] (th_R T (some (.inl (-2147483648, 2147483647)))) [] := by
  refine th_start (by decide) (Nat.le_of_ble_eq_true rfl) ?_
  intro p e s m below meth c ls S hK hH hr hlocks hnm hl
  have hx := S.1
  have hb := S.2.1
  have hl : lv_has ls 3 [(0, .ref a0), (1, .int y1)] := hl
  have J0 : ∀ (H : Heap) (locs : List Loc) (ls : Array Slot), th_H D cT T (kd q) H → va_S (th_A T []) s.heap H locs → lv_has ls 3 [(0, .ref a0), (1, .int y1)] → W p l e (rmk 1 20) s m [.ref a0, .int y1].toArray below meth c H locs 0 0 (MQ below (th_Q D cT T (kd q) (th_R T (some (.inl (-2147483648, 2147483647)))) []) [.ref a0, .int y1].toArray s 0 0 (th_A T [])) (F0 m 0 ls []) := by
    intro H locs ls hH hS hl
    refine lv_aload_n hx hb dX10_about_0 rfl (lv_at hl 0 rfl) ?_
    refine th_get S hK hH inG10 t0 kd_0 rfl 4 (by decide) gm_509 rfl rfl dX10_about_1 (fun v1 hv1 fv1 => ?_)
    obtain ⟨a2, rfl, ta2⟩ := th_V.ref hv1
    refine th_callVr (n := 0) (As := []) S hK hH hS (th_A.sub (by decide)) (m_X3_now l D cT T q hq a2 ta2) gm_828 gm_825 gm_826 gm_827 gm_120 (by decide +kernel) ⟨rfl, rfl, Nat.le_of_ble_eq_true rfl, Nat.le_of_ble_eq_true rfl⟩ ta2 kd_5 rfl rfl hl.1 rfl (Nat.le_of_ble_eq_true rfl) dX10_about_4 ⟨Nat.zero_le _, Nat.zero_le _⟩ (fun a3 H locs ta3 hH hS hF1 => ?_)
    have f4 := fv1.kept (hF1 _ fv1.lt (th_off t0 (by decide)))
    refine th_get S hK hH inG7 ta3 kd_10 rfl 0 (by decide) gm_231 rfl rfl dX10_about_7 (fun v5 hv5 fv5 => ?_)
    obtain ⟨a6, rfl, ta6⟩ := th_V.ref hv5
    refine lv_astore_n (lv' := [(2, .ref a6), (0, .ref a0), (1, .int y1)]) hx hb dX10_about_10 rfl hl (by decide) rfl (fun ls hl => ?_)
    refine lv_iload_n hx hb dX10_about_11 rfl (lv_at hl 2 rfl) ?_
    by_cases c7 : y1.toInt < 0 ∨ 14 < y1.toInt
    · refine lv_tableOut (tgt := 199) hx hb dX10_about_12 c7 (by decide) ?_
      refine lv_iconst (v := (-1)) hx hb dX10_about_199 (by decide) ?_
      exact th_iret S hK hH hS hr hlocks (th_R.i (iv_top _)) dX10_about_200
    · rcases (show y1.toInt = 0 ∨ y1.toInt = 1 ∨ y1.toInt = 2 ∨ y1.toInt = 3 ∨ y1.toInt = 4 ∨ y1.toInt = 5 ∨ y1.toInt = 6 ∨ y1.toInt = 7 ∨ y1.toInt = 8 ∨ y1.toInt = 9 ∨ y1.toInt = 10 ∨ y1.toInt = 11 ∨ y1.toInt = 12 ∨ y1.toInt = 13 ∨ y1.toInt = 14 by omega) with c7b | c7b | c7b | c7b | c7b | c7b | c7b | c7b | c7b | c7b | c7b | c7b | c7b | c7b | c7b
      · refine lv_tableIn (tgt := 88) (off := 76) hx hb dX10_about_12 (by omega) (by omega) (by rw [c7b]; rfl) (by decide) ?_
        refine lv_aload_n hx hb dX10_about_88 rfl (lv_at hl 1 rfl) ?_
        refine th_get S hK hH inG10 t0 kd_0 rfl 2 (by decide) gm_507 rfl rfl dX10_about_89 (fun v8 hv8 fv8 => ?_)
        obtain ⟨a9, rfl, ta9⟩ := th_V.ref hv8
        refine th_get S hK hH inG4 ta9 kd_3 rfl 12 (by decide) gm_282 rfl rfl dX10_about_92 (fun v10 hv10 fv10 => ?_)
        obtain ⟨x11, rfl, ix11⟩ := th_V.int hv10
        exact th_iret S hK hH hS hr hlocks (th_R.i (iv_top _)) dX10_about_95
      · refine lv_tableIn (tgt := 96) (off := 84) hx hb dX10_about_12 (by omega) (by omega) (by rw [c7b]; rfl) (by decide) ?_
        refine lv_aload_n hx hb dX10_about_96 rfl (lv_at hl 1 rfl) ?_
        refine th_get S hK hH inG10 t0 kd_0 rfl 2 (by decide) gm_507 rfl rfl dX10_about_97 (fun v12 hv12 fv12 => ?_)
        obtain ⟨a13, rfl, ta13⟩ := th_V.ref hv12
        refine th_get S hK hH inG4 ta13 kd_3 rfl 11 (by decide) gm_277 rfl rfl dX10_about_100 (fun v14 hv14 fv14 => ?_)
        obtain ⟨x15, rfl, ix15⟩ := th_V.int hv14
        exact th_iret S hK hH hS hr hlocks (th_R.i (iv_top _)) dX10_about_103
      · refine lv_tableIn (tgt := 104) (off := 92) hx hb dX10_about_12 (by omega) (by omega) (by rw [c7b]; rfl) (by decide) ?_
        refine lv_aload_n hx hb dX10_about_104 rfl (lv_at hl 1 rfl) ?_
        refine th_get S hK hH inG10 t0 kd_0 rfl 2 (by decide) gm_507 rfl rfl dX10_about_105 (fun v16 hv16 fv16 => ?_)
        obtain ⟨a17, rfl, ta17⟩ := th_V.ref hv16
        refine th_get S hK hH inG4 ta17 kd_3 rfl 13 (by decide) gm_287 rfl rfl dX10_about_108 (fun v18 hv18 fv18 => ?_)
        obtain ⟨x19, rfl, ix19⟩ := th_V.int hv18
        exact th_iret S hK hH hS hr hlocks (th_R.i (iv_top _)) dX10_about_111
      · refine lv_tableIn (tgt := 112) (off := 100) hx hb dX10_about_12 (by omega) (by omega) (by rw [c7b]; rfl) (by decide) ?_
        refine lv_aload_n hx hb dX10_about_112 rfl (lv_at hl 1 rfl) ?_
        refine th_get S hK hH inG10 t0 kd_0 rfl 2 (by decide) gm_507 rfl rfl dX10_about_113 (fun v20 hv20 fv20 => ?_)
        obtain ⟨a21, rfl, ta21⟩ := th_V.ref hv20
        refine th_get S hK hH inG4 ta21 kd_3 rfl 14 (by decide) gm_290 rfl rfl dX10_about_116 (fun v22 hv22 fv22 => ?_)
        obtain ⟨x23, rfl, ix23⟩ := th_V.int hv22
        exact th_iret S hK hH hS hr hlocks (th_R.i ix23) dX10_about_119
      · refine lv_tableIn (tgt := 120) (off := 108) hx hb dX10_about_12 (by omega) (by omega) (by rw [c7b]; rfl) (by decide) ?_
        refine lv_aload_n hx hb dX10_about_120 rfl (lv_at hl 0 rfl) ?_
        refine lv_bipush (v := 40) hx hb dX10_about_121 (by decide) ?_
        refine th_iald S hK hH ta6 kd_29 (th_in (hi := 40) (iv_w (iv_c (by decide) : IV 40 40 40) (by decide)) (by decide)) dX10_about_123 (fun v24 hv24 => ?_)
        obtain ⟨x25, rfl, ix25⟩ := th_V.int hv24
        exact th_iret S hK hH hS hr hlocks (th_R.i ix25) dX10_about_124
      · refine lv_tableIn (tgt := 125) (off := 113) hx hb dX10_about_12 (by omega) (by omega) (by rw [c7b]; rfl) (by decide) ?_
        refine lv_aload_n hx hb dX10_about_125 rfl (lv_at hl 0 rfl) ?_
        refine lv_bipush (v := 41) hx hb dX10_about_126 (by decide) ?_
        refine th_iald S hK hH ta6 kd_29 (th_in (hi := 41) (iv_w (iv_c (by decide) : IV 41 41 41) (by decide)) (by decide)) dX10_about_128 (fun v26 hv26 => ?_)
        obtain ⟨x27, rfl, ix27⟩ := th_V.int hv26
        exact th_iret S hK hH hS hr hlocks (th_R.i ix27) dX10_about_129
      · refine lv_tableIn (tgt := 130) (off := 118) hx hb dX10_about_12 (by omega) (by omega) (by rw [c7b]; rfl) (by decide) ?_
        refine lv_aload_n hx hb dX10_about_130 rfl (lv_at hl 0 rfl) ?_
        refine lv_bipush (v := 42) hx hb dX10_about_131 (by decide) ?_
        refine th_iald S hK hH ta6 kd_29 (th_in (hi := 42) (iv_w (iv_c (by decide) : IV 42 42 42) (by decide)) (by decide)) dX10_about_133 (fun v28 hv28 => ?_)
        obtain ⟨x29, rfl, ix29⟩ := th_V.int hv28
        exact th_iret S hK hH hS hr hlocks (th_R.i ix29) dX10_about_134
      · refine lv_tableIn (tgt := 135) (off := 123) hx hb dX10_about_12 (by omega) (by omega) (by rw [c7b]; rfl) (by decide) ?_
        refine lv_aload_n hx hb dX10_about_135 rfl (lv_at hl 0 rfl) ?_
        refine lv_bipush (v := 39) hx hb dX10_about_136 (by decide) ?_
        refine th_iald S hK hH ta6 kd_29 (th_in (hi := 39) (iv_w (iv_c (by decide) : IV 39 39 39) (by decide)) (by decide)) dX10_about_138 (fun v30 hv30 => ?_)
        obtain ⟨x31, rfl, ix31⟩ := th_V.int hv30
        exact th_iret S hK hH hS hr hlocks (th_R.i ix31) dX10_about_139
      · refine lv_tableIn (tgt := 140) (off := 128) hx hb dX10_about_12 (by omega) (by omega) (by rw [c7b]; rfl) (by decide) ?_
        refine lv_aload_n hx hb dX10_about_140 rfl (lv_at hl 1 rfl) ?_
        refine th_getK S hK f4 inG10 rfl (by decide) gm_509 rfl dX10_about_141 ?_
        refine th_get S hK hH inG3 ta2 kd_5 rfl 2 (by decide) gm_388 rfl rfl dX10_about_144 (fun v33 hv33 fv33 => ?_)
        obtain ⟨x34, rfl, ix34⟩ := th_V.int hv33
        have kx34 := ix34
        have ix34 : IV x34 0 40 := iv_w ix34 (qok_1 hq)
        exact th_iret S hK hH hS hr hlocks (th_R.i (iv_top _)) dX10_about_147
      · refine lv_tableIn (tgt := 148) (off := 136) hx hb dX10_about_12 (by omega) (by omega) (by rw [c7b]; rfl) (by decide) ?_
        refine lv_aload_n hx hb dX10_about_148 rfl (lv_at hl 1 rfl) ?_
        refine th_getK S hK f4 inG10 rfl (by decide) gm_509 rfl dX10_about_149 ?_
        refine th_get S hK hH inG3 ta2 kd_5 rfl 3 (by decide) gm_390 rfl rfl dX10_about_152 (fun v36 hv36 fv36 => ?_)
        obtain ⟨x37, rfl, ix37⟩ := th_V.int hv36
        have kx37 := ix37
        have ix37 : IV x37 0 40 := iv_w ix37 (qok_2 hq)
        exact th_iret S hK hH hS hr hlocks (th_R.i (iv_top _)) dX10_about_155
      · refine lv_tableIn (tgt := 156) (off := 144) hx hb dX10_about_12 (by omega) (by omega) (by rw [c7b]; rfl) (by decide) ?_
        refine lv_aload_n hx hb dX10_about_156 rfl (lv_at hl 1 rfl) ?_
        refine th_get S hK hH inG10 t0 kd_0 rfl 7 (by decide) gm_512 rfl rfl dX10_about_157 (fun v38 hv38 fv38 => ?_)
        obtain ⟨a39, rfl, ta39⟩ := th_V.ref hv38
        refine th_get S hK hH inG9 ta39 kd_8 rfl 6 (by decide) gm_482 rfl rfl dX10_about_160 (fun v40 hv40 fv40 => ?_)
        obtain ⟨x41, rfl, ix41⟩ := th_V.int hv40
        exact th_iret S hK hH hS hr hlocks (th_R.i (iv_top _)) dX10_about_163
      · refine lv_tableIn (tgt := 164) (off := 152) hx hb dX10_about_12 (by omega) (by omega) (by rw [c7b]; rfl) (by decide) ?_
        refine lv_aload_n hx hb dX10_about_164 rfl (lv_at hl 1 rfl) ?_
        refine th_get S hK hH inG10 t0 kd_0 rfl 7 (by decide) gm_512 rfl rfl dX10_about_165 (fun v42 hv42 fv42 => ?_)
        obtain ⟨a43, rfl, ta43⟩ := th_V.ref hv42
        refine th_get S hK hH inG9 ta43 kd_8 rfl 7 (by decide) gm_484 rfl rfl dX10_about_168 (fun v44 hv44 fv44 => ?_)
        obtain ⟨x45, rfl, ix45⟩ := th_V.int hv44
        have kx45 := ix45
        have ix45 : IV x45 0 100000 := iv_w ix45 (qok_0 hq)
        exact th_iret S hK hH hS hr hlocks (th_R.i (iv_top _)) dX10_about_171
      · refine lv_tableIn (tgt := 172) (off := 160) hx hb dX10_about_12 (by omega) (by omega) (by rw [c7b]; rfl) (by decide) ?_
        refine lv_aload_n hx hb dX10_about_172 rfl (lv_at hl 1 rfl) ?_
        refine th_get S hK hH inG10 t0 kd_0 rfl 0 (by decide) gm_505 rfl rfl dX10_about_173 (fun v46 hv46 fv46 => ?_)
        obtain ⟨a47, rfl, ta47⟩ := th_V.ref hv46
        refine th_get S hK hH inG8 ta47 kd_1 rfl 4 (by decide) gm_156 rfl rfl dX10_about_176 (fun v48 hv48 fv48 => ?_)
        obtain ⟨x49, rfl, ix49⟩ := th_V.int hv48
        exact th_iret S hK hH hS hr hlocks (th_R.i (iv_top _)) dX10_about_179
      · refine lv_tableIn (tgt := 180) (off := 168) hx hb dX10_about_12 (by omega) (by omega) (by rw [c7b]; rfl) (by decide) ?_
        refine lv_aload_n hx hb dX10_about_180 rfl (lv_at hl 1 rfl) ?_
        refine th_get S hK hH inG10 t0 kd_0 rfl 2 (by decide) gm_507 rfl rfl dX10_about_181 (fun v50 hv50 fv50 => ?_)
        obtain ⟨a51, rfl, ta51⟩ := th_V.ref hv50
        refine th_get S hK hH inG4 ta51 kd_3 rfl 9 (by decide) gm_270 rfl rfl dX10_about_184 (fun v52 hv52 fv52 => ?_)
        obtain ⟨a53, rfl, ta53⟩ := th_V.ref hv52
        refine th_get S hK hH inG2 ta53 kd_9 rfl 6 (by decide) gm_203 rfl rfl dX10_about_187 (fun v54 hv54 fv54 => ?_)
        obtain ⟨x55, rfl, ix55⟩ := th_V.int hv54
        exact th_iret S hK hH hS hr hlocks (th_R.i ix55) dX10_about_190
      · refine lv_tableIn (tgt := 191) (off := 179) hx hb dX10_about_12 (by omega) (by omega) (by rw [c7b]; rfl) (by decide) ?_
        refine lv_aload_n hx hb dX10_about_191 rfl (lv_at hl 1 rfl) ?_
        refine th_get S hK hH inG10 t0 kd_0 rfl 6 (by decide) gm_511 rfl rfl dX10_about_192 (fun v56 hv56 fv56 => ?_)
        obtain ⟨a57, rfl, ta57⟩ := th_V.ref hv56
        refine th_get S hK hH inG5 ta57 kd_7 rfl 2 (by decide) gm_431 rfl rfl dX10_about_195 (fun v58 hv58 fv58 => ?_)
        obtain ⟨x59, rfl, ix59⟩ := th_V.int hv58
        exact th_iret S hK hH hS hr hlocks (th_R.i ix59) dX10_about_198
  exact J0 s.heap [] ls hH va_S.rf hl
