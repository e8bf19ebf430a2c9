theorem dX6_placeLine_0 : decode cX6_placeLine 0 = .ok (.aload_n 0, 1) := by decide +kernel
theorem dX6_placeLine_1 : decode cX6_placeLine 1 = .ok (.getfield 12, 3) := by decide +kernel
theorem dX6_placeLine_4 : decode cX6_placeLine 4 = .ok (.getfield 120, 3) := by decide +kernel
theorem dX6_placeLine_7 : decode cX6_placeLine 7 = .ok (.istore_n 1, 1) := by decide +kernel
theorem dX6_placeLine_8 : decode cX6_placeLine 8 = .ok (.aload_n 0, 1) := by decide +kernel
theorem dX6_placeLine_9 : decode cX6_placeLine 9 = .ok (.aload_n 0, 1) := by decide +kernel
theorem dX6_placeLine_10 : decode cX6_placeLine 10 = .ok (.getfield 12, 3) := by decide +kernel
theorem dX6_placeLine_13 : decode cX6_placeLine 13 = .ok (.getfield 123, 3) := by decide +kernel
theorem dX6_placeLine_16 : decode cX6_placeLine 16 = .ok (.iload_n 1, 1) := by decide +kernel
theorem dX6_placeLine_17 : decode cX6_placeLine 17 = .ok (.invokevirtual 103, 3) := by decide +kernel
theorem dX6_placeLine_20 : decode cX6_placeLine 20 = .ok (.ifCond .eq 13, 3) := by decide +kernel
theorem dX6_placeLine_23 : decode cX6_placeLine 23 = .ok (.aload_n 0, 1) := by decide +kernel
theorem dX6_placeLine_24 : decode cX6_placeLine 24 = .ok (.sipush 140, 3) := by decide +kernel
theorem dX6_placeLine_27 : decode cX6_placeLine 27 = .ok (.invokevirtual 93, 3) := by decide +kernel
theorem dX6_placeLine_30 : decode cX6_placeLine 30 = .ok (.ifCond .ne 5, 3) := by decide +kernel
theorem dX6_placeLine_33 : decode cX6_placeLine 33 = .ok (.iconst 0, 1) := by decide +kernel
theorem dX6_placeLine_34 : decode cX6_placeLine 34 = .ok (.ireturn, 1) := by decide +kernel
theorem dX6_placeLine_35 : decode cX6_placeLine 35 = .ok (.aload_n 0, 1) := by decide +kernel
theorem dX6_placeLine_36 : decode cX6_placeLine 36 = .ok (.iconst 1, 1) := by decide +kernel
theorem dX6_placeLine_37 : decode cX6_placeLine 37 = .ok (.bipush 60, 2) := by decide +kernel
theorem dX6_placeLine_39 : decode cX6_placeLine 39 = .ok (.invokevirtual 107, 3) := by decide +kernel
theorem dX6_placeLine_42 : decode cX6_placeLine 42 = .ok (.istore_n 2, 1) := by decide +kernel
theorem dX6_placeLine_43 : decode cX6_placeLine 43 = .ok (.iload_n 2, 1) := by decide +kernel
theorem dX6_placeLine_44 : decode cX6_placeLine 44 = .ok (.ifCond .lt 13, 3) := by decide +kernel
theorem dX6_placeLine_47 : decode cX6_placeLine 47 = .ok (.aload_n 0, 1) := by decide +kernel
theorem dX6_placeLine_48 : decode cX6_placeLine 48 = .ok (.sipush 141, 3) := by decide +kernel
theorem dX6_placeLine_51 : decode cX6_placeLine 51 = .ok (.invokevirtual 93, 3) := by decide +kernel
theorem dX6_placeLine_54 : decode cX6_placeLine 54 = .ok (.ifCond .ne 5, 3) := by decide +kernel
theorem dX6_placeLine_57 : decode cX6_placeLine 57 = .ok (.iconst 0, 1) := by decide +kernel
theorem dX6_placeLine_58 : decode cX6_placeLine 58 = .ok (.ireturn, 1) := by decide +kernel
theorem dX6_placeLine_59 : decode cX6_placeLine 59 = .ok (.aload_n 0, 1) := by decide +kernel
theorem dX6_placeLine_60 : decode cX6_placeLine 60 = .ok (.iconst 0, 1) := by decide +kernel
theorem dX6_placeLine_61 : decode cX6_placeLine 61 = .ok (.bipush 9, 2) := by decide +kernel
theorem dX6_placeLine_63 : decode cX6_placeLine 63 = .ok (.invokevirtual 107, 3) := by decide +kernel
theorem dX6_placeLine_66 : decode cX6_placeLine 66 = .ok (.istore_n 3, 1) := by decide +kernel
theorem dX6_placeLine_67 : decode cX6_placeLine 67 = .ok (.iload_n 3, 1) := by decide +kernel
theorem dX6_placeLine_68 : decode cX6_placeLine 68 = .ok (.ifCond .lt 21, 3) := by decide +kernel
theorem dX6_placeLine_71 : decode cX6_placeLine 71 = .ok (.aload_n 0, 1) := by decide +kernel
theorem dX6_placeLine_72 : decode cX6_placeLine 72 = .ok (.sipush 146, 3) := by decide +kernel
theorem dX6_placeLine_75 : decode cX6_placeLine 75 = .ok (.invokevirtual 93, 3) := by decide +kernel
theorem dX6_placeLine_78 : decode cX6_placeLine 78 = .ok (.ifCond .eq 11, 3) := by decide +kernel
theorem dX6_placeLine_81 : decode cX6_placeLine 81 = .ok (.aload_n 0, 1) := by decide +kernel
theorem dX6_placeLine_82 : decode cX6_placeLine 82 = .ok (.iload_n 1, 1) := by decide +kernel
theorem dX6_placeLine_83 : decode cX6_placeLine 83 = .ok (.invokevirtual 126, 3) := by decide +kernel
theorem dX6_placeLine_86 : decode cX6_placeLine 86 = .ok (.ifCond .ne 5, 3) := by decide +kernel
theorem dX6_placeLine_89 : decode cX6_placeLine 89 = .ok (.iconst 0, 1) := by decide +kernel
theorem dX6_placeLine_90 : decode cX6_placeLine 90 = .ok (.ireturn, 1) := by decide +kernel
theorem dX6_placeLine_91 : decode cX6_placeLine 91 = .ok (.aload_n 0, 1) := by decide +kernel
theorem dX6_placeLine_92 : decode cX6_placeLine 92 = .ok (.getfield 12, 3) := by decide +kernel
theorem dX6_placeLine_95 : decode cX6_placeLine 95 = .ok (.getfield 80, 3) := by decide +kernel
theorem dX6_placeLine_98 : decode cX6_placeLine 98 = .ok (.getfield 84, 3) := by decide +kernel
theorem dX6_placeLine_101 : decode cX6_placeLine 101 = .ok (.bipush 15, 2) := by decide +kernel
theorem dX6_placeLine_103 : decode cX6_placeLine 103 = .ok (.iload_n 1, 1) := by decide +kernel
theorem dX6_placeLine_104 : decode cX6_placeLine 104 = .ok (.iadd, 1) := by decide +kernel
theorem dX6_placeLine_105 : decode cX6_placeLine 105 = .ok (.iload_n 2, 1) := by decide +kernel
theorem dX6_placeLine_106 : decode cX6_placeLine 106 = .ok (.iastore, 1) := by decide +kernel
theorem dX6_placeLine_107 : decode cX6_placeLine 107 = .ok (.aload_n 0, 1) := by decide +kernel
theorem dX6_placeLine_108 : decode cX6_placeLine 108 = .ok (.getfield 12, 3) := by decide +kernel
theorem dX6_placeLine_111 : decode cX6_placeLine 111 = .ok (.getfield 129, 3) := by decide +kernel
theorem dX6_placeLine_114 : decode cX6_placeLine 114 = .ok (.iload_n 1, 1) := by decide +kernel
theorem dX6_placeLine_115 : decode cX6_placeLine 115 = .ok (.iload_n 3, 1) := by decide +kernel
theorem dX6_placeLine_116 : decode cX6_placeLine 116 = .ok (.iastore, 1) := by decide +kernel
theorem dX6_placeLine_117 : decode cX6_placeLine 117 = .ok (.aload_n 0, 1) := by decide +kernel
theorem dX6_placeLine_118 : decode cX6_placeLine 118 = .ok (.getfield 12, 3) := by decide +kernel
theorem dX6_placeLine_121 : decode cX6_placeLine 121 = .ok (.dup, 1) := by decide +kernel
theorem dX6_placeLine_122 : decode cX6_placeLine 122 = .ok (.getfield 120, 3) := by decide +kernel
theorem dX6_placeLine_125 : decode cX6_placeLine 125 = .ok (.iconst 1, 1) := by decide +kernel
theorem dX6_placeLine_126 : decode cX6_placeLine 126 = .ok (.iadd, 1) := by decide +kernel
theorem dX6_placeLine_127 : decode cX6_placeLine 127 = .ok (.putfield 120, 3) := by decide +kernel
theorem dX6_placeLine_130 : decode cX6_placeLine 130 = .ok (.iconst 1, 1) := by decide +kernel
theorem dX6_placeLine_131 : decode cX6_placeLine 131 = .ok (.ireturn, 1) := by decide +kernel
theorem dX6_likesLine_0 : decode cX6_likesLine 0 = .ok (.aload_n 0, 1) := by decide +kernel
theorem dX6_likesLine_1 : decode cX6_likesLine 1 = .ok (.aload_n 0, 1) := by decide +kernel
theorem dX6_likesLine_2 : decode cX6_likesLine 2 = .ok (.getfield 12, 3) := by decide +kernel
theorem dX6_likesLine_5 : decode cX6_likesLine 5 = .ok (.getfield 114, 3) := by decide +kernel
theorem dX6_likesLine_8 : decode cX6_likesLine 8 = .ok (.aload_n 0, 1) := by decide +kernel
theorem dX6_likesLine_9 : decode cX6_likesLine 9 = .ok (.getfield 12, 3) := by decide +kernel
theorem dX6_likesLine_12 : decode cX6_likesLine 12 = .ok (.getfield 111, 3) := by decide +kernel
theorem dX6_likesLine_15 : decode cX6_likesLine 15 = .ok (.invokevirtual 132, 3) := by decide +kernel
theorem dX6_likesLine_18 : decode cX6_likesLine 18 = .ok (.istore_n 1, 1) := by decide +kernel
theorem dX6_likesLine_19 : decode cX6_likesLine 19 = .ok (.iload_n 1, 1) := by decide +kernel
theorem dX6_likesLine_20 : decode cX6_likesLine 20 = .ok (.ifCond .ge 5, 3) := by decide +kernel
theorem dX6_likesLine_23 : decode cX6_likesLine 23 = .ok (.iconst 0, 1) := by decide +kernel
theorem dX6_likesLine_24 : decode cX6_likesLine 24 = .ok (.ireturn, 1) := by decide +kernel
theorem dX6_likesLine_25 : decode cX6_likesLine 25 = .ok (.aload_n 0, 1) := by decide +kernel
theorem dX6_likesLine_26 : decode cX6_likesLine 26 = .ok (.dup, 1) := by decide +kernel
theorem dX6_likesLine_27 : decode cX6_likesLine 27 = .ok (.getfield 18, 3) := by decide +kernel
theorem dX6_likesLine_30 : decode cX6_likesLine 30 = .ok (.iconst 1, 1) := by decide +kernel
theorem dX6_likesLine_31 : decode cX6_likesLine 31 = .ok (.iadd, 1) := by decide +kernel
theorem dX6_likesLine_32 : decode cX6_likesLine 32 = .ok (.putfield 18, 3) := by decide +kernel
theorem dX6_likesLine_35 : decode cX6_likesLine 35 = .ok (.aload_n 0, 1) := by decide +kernel
theorem dX6_likesLine_36 : decode cX6_likesLine 36 = .ok (.aload_n 0, 1) := by decide +kernel
theorem dX6_likesLine_37 : decode cX6_likesLine 37 = .ok (.getfield 12, 3) := by decide +kernel
theorem dX6_likesLine_40 : decode cX6_likesLine 40 = .ok (.getfield 96, 3) := by decide +kernel
theorem dX6_likesLine_43 : decode cX6_likesLine 43 = .ok (.aload_n 0, 1) := by decide +kernel
theorem dX6_likesLine_44 : decode cX6_likesLine 44 = .ok (.getfield 12, 3) := by decide +kernel
theorem dX6_likesLine_47 : decode cX6_likesLine 47 = .ok (.getfield 100, 3) := by decide +kernel
theorem dX6_likesLine_50 : decode cX6_likesLine 50 = .ok (.invokevirtual 132, 3) := by decide +kernel
theorem dX6_likesLine_53 : decode cX6_likesLine 53 = .ok (.istore_n 2, 1) := by decide +kernel
theorem dX6_likesLine_54 : decode cX6_likesLine 54 = .ok (.iload_n 2, 1) := by decide +kernel
theorem dX6_likesLine_55 : decode cX6_likesLine 55 = .ok (.ifCond .ge 5, 3) := by decide +kernel
theorem dX6_likesLine_58 : decode cX6_likesLine 58 = .ok (.iconst 0, 1) := by decide +kernel
theorem dX6_likesLine_59 : decode cX6_likesLine 59 = .ok (.ireturn, 1) := by decide +kernel
theorem dX6_likesLine_60 : decode cX6_likesLine 60 = .ok (.iload_n 1, 1) := by decide +kernel
theorem dX6_likesLine_61 : decode cX6_likesLine 61 = .ok (.iconst 3, 1) := by decide +kernel
theorem dX6_likesLine_62 : decode cX6_likesLine 62 = .ok (.imul, 1) := by decide +kernel
theorem dX6_likesLine_63 : decode cX6_likesLine 63 = .ok (.iload_n 2, 1) := by decide +kernel
theorem dX6_likesLine_64 : decode cX6_likesLine 64 = .ok (.iadd, 1) := by decide +kernel
theorem dX6_likesLine_65 : decode cX6_likesLine 65 = .ok (.istore_n 3, 1) := by decide +kernel
theorem dX6_likesLine_66 : decode cX6_likesLine 66 = .ok (.aload_n 0, 1) := by decide +kernel
theorem dX6_likesLine_67 : decode cX6_likesLine 67 = .ok (.getfield 12, 3) := by decide +kernel
theorem dX6_likesLine_70 : decode cX6_likesLine 70 = .ok (.getfield 142, 3) := by decide +kernel
theorem dX6_likesLine_73 : decode cX6_likesLine 73 = .ok (.iload_n 3, 1) := by decide +kernel
theorem dX6_likesLine_74 : decode cX6_likesLine 74 = .ok (.ishr, 1) := by decide +kernel
theorem dX6_likesLine_75 : decode cX6_likesLine 75 = .ok (.iconst 1, 1) := by decide +kernel
theorem dX6_likesLine_76 : decode cX6_likesLine 76 = .ok (.iand, 1) := by decide +kernel
theorem dX6_likesLine_77 : decode cX6_likesLine 77 = .ok (.ifCond .eq 9, 3) := by decide +kernel
theorem dX6_likesLine_80 : decode cX6_likesLine 80 = .ok (.aload_n 0, 1) := by decide +kernel
theorem dX6_likesLine_81 : decode cX6_likesLine 81 = .ok (.iconst 3, 1) := by decide +kernel
theorem dX6_likesLine_82 : decode cX6_likesLine 82 = .ok (.invokevirtual 51, 3) := by decide +kernel
theorem dX6_likesLine_85 : decode cX6_likesLine 85 = .ok (.ireturn, 1) := by decide +kernel
theorem dX6_likesLine_86 : decode cX6_likesLine 86 = .ok (.aload_n 0, 1) := by decide +kernel
theorem dX6_likesLine_87 : decode cX6_likesLine 87 = .ok (.dup, 1) := by decide +kernel
theorem dX6_likesLine_88 : decode cX6_likesLine 88 = .ok (.getfield 18, 3) := by decide +kernel
theorem dX6_likesLine_91 : decode cX6_likesLine 91 = .ok (.iconst 1, 1) := by decide +kernel
theorem dX6_likesLine_92 : decode cX6_likesLine 92 = .ok (.iadd, 1) := by decide +kernel
theorem dX6_likesLine_93 : decode cX6_likesLine 93 = .ok (.putfield 18, 3) := by decide +kernel
theorem dX6_likesLine_96 : decode cX6_likesLine 96 = .ok (.aload_n 0, 1) := by decide +kernel
theorem dX6_likesLine_97 : decode cX6_likesLine 97 = .ok (.iconst 0, 1) := by decide +kernel
theorem dX6_likesLine_98 : decode cX6_likesLine 98 = .ok (.bipush 9, 2) := by decide +kernel
theorem dX6_likesLine_100 : decode cX6_likesLine 100 = .ok (.invokevirtual 107, 3) := by decide +kernel
theorem dX6_likesLine_103 : decode cX6_likesLine 103 = .ok (.istore 4, 2) := by decide +kernel
theorem dX6_likesLine_105 : decode cX6_likesLine 105 = .ok (.iload 4, 2) := by decide +kernel
theorem dX6_likesLine_107 : decode cX6_likesLine 107 = .ok (.ifCond .ge 5, 3) := by decide +kernel
theorem dX6_likesLine_110 : decode cX6_likesLine 110 = .ok (.iconst 0, 1) := by decide +kernel
theorem dX6_likesLine_111 : decode cX6_likesLine 111 = .ok (.ireturn, 1) := by decide +kernel
theorem dX6_likesLine_112 : decode cX6_likesLine 112 = .ok (.aload_n 0, 1) := by decide +kernel
theorem dX6_likesLine_113 : decode cX6_likesLine 113 = .ok (.getfield 12, 3) := by decide +kernel
theorem dX6_likesLine_116 : decode cX6_likesLine 116 = .ok (.dup, 1) := by decide +kernel
theorem dX6_likesLine_117 : decode cX6_likesLine 117 = .ok (.getfield 142, 3) := by decide +kernel
theorem dX6_likesLine_120 : decode cX6_likesLine 120 = .ok (.iconst 1, 1) := by decide +kernel
theorem dX6_likesLine_121 : decode cX6_likesLine 121 = .ok (.iload_n 3, 1) := by decide +kernel
theorem dX6_likesLine_122 : decode cX6_likesLine 122 = .ok (.ishl, 1) := by decide +kernel
theorem dX6_likesLine_123 : decode cX6_likesLine 123 = .ok (.ior, 1) := by decide +kernel
theorem dX6_likesLine_124 : decode cX6_likesLine 124 = .ok (.putfield 142, 3) := by decide +kernel
theorem dX6_likesLine_127 : decode cX6_likesLine 127 = .ok (.aload_n 0, 1) := by decide +kernel
theorem dX6_likesLine_128 : decode cX6_likesLine 128 = .ok (.getfield 12, 3) := by decide +kernel
theorem dX6_likesLine_131 : decode cX6_likesLine 131 = .ok (.getfield 145, 3) := by decide +kernel
theorem dX6_likesLine_134 : decode cX6_likesLine 134 = .ok (.iload_n 3, 1) := by decide +kernel
theorem dX6_likesLine_135 : decode cX6_likesLine 135 = .ok (.iload 4, 2) := by decide +kernel
theorem dX6_likesLine_137 : decode cX6_likesLine 137 = .ok (.iastore, 1) := by decide +kernel
theorem dX6_likesLine_138 : decode cX6_likesLine 138 = .ok (.iconst 1, 1) := by decide +kernel
theorem dX6_likesLine_139 : decode cX6_likesLine 139 = .ok (.ireturn, 1) := by decide +kernel
theorem dX6_borderLine_0 : decode cX6_borderLine 0 = .ok (.aload_n 0, 1) := by decide +kernel
theorem dX6_borderLine_1 : decode cX6_borderLine 1 = .ok (.aload_n 0, 1) := by decide +kernel
theorem dX6_borderLine_2 : decode cX6_borderLine 2 = .ok (.getfield 12, 3) := by decide +kernel
theorem dX6_borderLine_5 : decode cX6_borderLine 5 = .ok (.getfield 114, 3) := by decide +kernel
theorem dX6_borderLine_8 : decode cX6_borderLine 8 = .ok (.aload_n 0, 1) := by decide +kernel
theorem dX6_borderLine_9 : decode cX6_borderLine 9 = .ok (.getfield 12, 3) := by decide +kernel
theorem dX6_borderLine_12 : decode cX6_borderLine 12 = .ok (.getfield 111, 3) := by decide +kernel
theorem dX6_borderLine_15 : decode cX6_borderLine 15 = .ok (.invokevirtual 132, 3) := by decide +kernel
theorem dX6_borderLine_18 : decode cX6_borderLine 18 = .ok (.istore_n 1, 1) := by decide +kernel
theorem dX6_borderLine_19 : decode cX6_borderLine 19 = .ok (.iload_n 1, 1) := by decide +kernel
theorem dX6_borderLine_20 : decode cX6_borderLine 20 = .ok (.ifCond .ge 5, 3) := by decide +kernel
theorem dX6_borderLine_23 : decode cX6_borderLine 23 = .ok (.iconst 0, 1) := by decide +kernel
theorem dX6_borderLine_24 : decode cX6_borderLine 24 = .ok (.ireturn, 1) := by decide +kernel
theorem dX6_borderLine_25 : decode cX6_borderLine 25 = .ok (.aload_n 0, 1) := by decide +kernel
theorem dX6_borderLine_26 : decode cX6_borderLine 26 = .ok (.dup, 1) := by decide +kernel
theorem dX6_borderLine_27 : decode cX6_borderLine 27 = .ok (.getfield 18, 3) := by decide +kernel
theorem dX6_borderLine_30 : decode cX6_borderLine 30 = .ok (.iconst 1, 1) := by decide +kernel
theorem dX6_borderLine_31 : decode cX6_borderLine 31 = .ok (.iadd, 1) := by decide +kernel
theorem dX6_borderLine_32 : decode cX6_borderLine 32 = .ok (.putfield 18, 3) := by decide +kernel
theorem dX6_borderLine_35 : decode cX6_borderLine 35 = .ok (.aload_n 0, 1) := by decide +kernel
theorem dX6_borderLine_36 : decode cX6_borderLine 36 = .ok (.aload_n 0, 1) := by decide +kernel
theorem dX6_borderLine_37 : decode cX6_borderLine 37 = .ok (.getfield 12, 3) := by decide +kernel
theorem dX6_borderLine_40 : decode cX6_borderLine 40 = .ok (.getfield 114, 3) := by decide +kernel
theorem dX6_borderLine_43 : decode cX6_borderLine 43 = .ok (.aload_n 0, 1) := by decide +kernel
theorem dX6_borderLine_44 : decode cX6_borderLine 44 = .ok (.getfield 12, 3) := by decide +kernel
theorem dX6_borderLine_47 : decode cX6_borderLine 47 = .ok (.getfield 111, 3) := by decide +kernel
theorem dX6_borderLine_50 : decode cX6_borderLine 50 = .ok (.invokevirtual 132, 3) := by decide +kernel
theorem dX6_borderLine_53 : decode cX6_borderLine 53 = .ok (.istore_n 2, 1) := by decide +kernel
theorem dX6_borderLine_54 : decode cX6_borderLine 54 = .ok (.iload_n 2, 1) := by decide +kernel
theorem dX6_borderLine_55 : decode cX6_borderLine 55 = .ok (.ifCond .ge 5, 3) := by decide +kernel
theorem dX6_borderLine_58 : decode cX6_borderLine 58 = .ok (.iconst 0, 1) := by decide +kernel
theorem dX6_borderLine_59 : decode cX6_borderLine 59 = .ok (.ireturn, 1) := by decide +kernel
theorem dX6_borderLine_60 : decode cX6_borderLine 60 = .ok (.iload_n 1, 1) := by decide +kernel
theorem dX6_borderLine_61 : decode cX6_borderLine 61 = .ok (.iload_n 2, 1) := by decide +kernel
theorem dX6_borderLine_62 : decode cX6_borderLine 62 = .ok (.if_icmp .eq 19, 3) := by decide +kernel
theorem dX6_borderLine_65 : decode cX6_borderLine 65 = .ok (.aload_n 0, 1) := by decide +kernel
theorem dX6_borderLine_66 : decode cX6_borderLine 66 = .ok (.getfield 12, 3) := by decide +kernel
theorem dX6_borderLine_69 : decode cX6_borderLine 69 = .ok (.getfield 148, 3) := by decide +kernel
theorem dX6_borderLine_72 : decode cX6_borderLine 72 = .ok (.iload_n 1, 1) := by decide +kernel
theorem dX6_borderLine_73 : decode cX6_borderLine 73 = .ok (.iaload, 1) := by decide +kernel
theorem dX6_borderLine_74 : decode cX6_borderLine 74 = .ok (.iload_n 2, 1) := by decide +kernel
theorem dX6_borderLine_75 : decode cX6_borderLine 75 = .ok (.ishr, 1) := by decide +kernel
theorem dX6_borderLine_76 : decode cX6_borderLine 76 = .ok (.iconst 1, 1) := by decide +kernel
theorem dX6_borderLine_77 : decode cX6_borderLine 77 = .ok (.iand, 1) := by decide +kernel
theorem dX6_borderLine_78 : decode cX6_borderLine 78 = .ok (.ifCond .eq 9, 3) := by decide +kernel
theorem dX6_borderLine_81 : decode cX6_borderLine 81 = .ok (.aload_n 0, 1) := by decide +kernel
theorem dX6_borderLine_82 : decode cX6_borderLine 82 = .ok (.iconst 3, 1) := by decide +kernel
theorem dX6_borderLine_83 : decode cX6_borderLine 83 = .ok (.invokevirtual 51, 3) := by decide +kernel
theorem dX6_borderLine_86 : decode cX6_borderLine 86 = .ok (.ireturn, 1) := by decide +kernel
theorem dX6_borderLine_87 : decode cX6_borderLine 87 = .ok (.aload_n 0, 1) := by decide +kernel
theorem dX6_borderLine_88 : decode cX6_borderLine 88 = .ok (.dup, 1) := by decide +kernel
theorem dX6_borderLine_89 : decode cX6_borderLine 89 = .ok (.getfield 18, 3) := by decide +kernel
theorem dX6_borderLine_92 : decode cX6_borderLine 92 = .ok (.iconst 1, 1) := by decide +kernel
theorem dX6_borderLine_93 : decode cX6_borderLine 93 = .ok (.iadd, 1) := by decide +kernel
theorem dX6_borderLine_94 : decode cX6_borderLine 94 = .ok (.putfield 18, 3) := by decide +kernel
theorem dX6_borderLine_97 : decode cX6_borderLine 97 = .ok (.aload_n 0, 1) := by decide +kernel
theorem dX6_borderLine_98 : decode cX6_borderLine 98 = .ok (.getfield 12, 3) := by decide +kernel
theorem dX6_borderLine_101 : decode cX6_borderLine 101 = .ok (.getfield 148, 3) := by decide +kernel
theorem dX6_borderLine_104 : decode cX6_borderLine 104 = .ok (.iload_n 1, 1) := by decide +kernel
theorem dX6_borderLine_105 : decode cX6_borderLine 105 = .ok (.dup2, 1) := by decide +kernel
theorem dX6_borderLine_106 : decode cX6_borderLine 106 = .ok (.iaload, 1) := by decide +kernel
theorem dX6_borderLine_107 : decode cX6_borderLine 107 = .ok (.iconst 1, 1) := by decide +kernel
theorem dX6_borderLine_108 : decode cX6_borderLine 108 = .ok (.iload_n 2, 1) := by decide +kernel
theorem dX6_borderLine_109 : decode cX6_borderLine 109 = .ok (.ishl, 1) := by decide +kernel
theorem dX6_borderLine_110 : decode cX6_borderLine 110 = .ok (.ior, 1) := by decide +kernel
theorem dX6_borderLine_111 : decode cX6_borderLine 111 = .ok (.iastore, 1) := by decide +kernel
theorem dX6_borderLine_112 : decode cX6_borderLine 112 = .ok (.aload_n 0, 1) := by decide +kernel
theorem dX6_borderLine_113 : decode cX6_borderLine 113 = .ok (.getfield 12, 3) := by decide +kernel
theorem dX6_borderLine_116 : decode cX6_borderLine 116 = .ok (.getfield 148, 3) := by decide +kernel
theorem dX6_borderLine_119 : decode cX6_borderLine 119 = .ok (.iload_n 2, 1) := by decide +kernel
theorem dX6_borderLine_120 : decode cX6_borderLine 120 = .ok (.dup2, 1) := by decide +kernel
theorem dX6_borderLine_121 : decode cX6_borderLine 121 = .ok (.iaload, 1) := by decide +kernel
theorem dX6_borderLine_122 : decode cX6_borderLine 122 = .ok (.iconst 1, 1) := by decide +kernel
theorem dX6_borderLine_123 : decode cX6_borderLine 123 = .ok (.iload_n 1, 1) := by decide +kernel
theorem dX6_borderLine_124 : decode cX6_borderLine 124 = .ok (.ishl, 1) := by decide +kernel
theorem dX6_borderLine_125 : decode cX6_borderLine 125 = .ok (.ior, 1) := by decide +kernel
theorem dX6_borderLine_126 : decode cX6_borderLine 126 = .ok (.iastore, 1) := by decide +kernel
theorem dX6_borderLine_127 : decode cX6_borderLine 127 = .ok (.aload_n 0, 1) := by decide +kernel
theorem dX6_borderLine_128 : decode cX6_borderLine 128 = .ok (.getfield 12, 3) := by decide +kernel
theorem dX6_borderLine_131 : decode cX6_borderLine 131 = .ok (.dup, 1) := by decide +kernel
theorem dX6_borderLine_132 : decode cX6_borderLine 132 = .ok (.getfield 151, 3) := by decide +kernel
theorem dX6_borderLine_135 : decode cX6_borderLine 135 = .ok (.iconst 1, 1) := by decide +kernel
theorem dX6_borderLine_136 : decode cX6_borderLine 136 = .ok (.iadd, 1) := by decide +kernel
theorem dX6_borderLine_137 : decode cX6_borderLine 137 = .ok (.putfield 151, 3) := by decide +kernel
theorem dX6_borderLine_140 : decode cX6_borderLine 140 = .ok (.iconst 1, 1) := by decide +kernel
theorem dX6_borderLine_141 : decode cX6_borderLine 141 = .ok (.ireturn, 1) := by decide +kernel
theorem dX6_drawLine_0 : decode cX6_drawLine 0 = .ok (.aload_n 0, 1) := by decide +kernel
theorem dX6_drawLine_1 : decode cX6_drawLine 1 = .ok (.iconst 0, 1) := by decide +kernel
theorem dX6_drawLine_2 : decode cX6_drawLine 2 = .ok (.sipush 999, 3) := by decide +kernel
theorem dX6_drawLine_5 : decode cX6_drawLine 5 = .ok (.invokevirtual 107, 3) := by decide +kernel
theorem dX6_drawLine_8 : decode cX6_drawLine 8 = .ok (.istore_n 1, 1) := by decide +kernel
theorem dX6_drawLine_9 : decode cX6_drawLine 9 = .ok (.iload_n 1, 1) := by decide +kernel
theorem dX6_drawLine_10 : decode cX6_drawLine 10 = .ok (.ifCond .ge 5, 3) := by decide +kernel
theorem dX6_drawLine_13 : decode cX6_drawLine 13 = .ok (.iconst 0, 1) := by decide +kernel
theorem dX6_drawLine_14 : decode cX6_drawLine 14 = .ok (.ireturn, 1) := by decide +kernel
theorem dX6_drawLine_15 : decode cX6_drawLine 15 = .ok (.aload_n 0, 1) := by decide +kernel
theorem dX6_drawLine_16 : decode cX6_drawLine 16 = .ok (.getfield 12, 3) := by decide +kernel
theorem dX6_drawLine_19 : decode cX6_drawLine 19 = .ok (.iconst 1, 1) := by decide +kernel
theorem dX6_drawLine_20 : decode cX6_drawLine 20 = .ok (.putfield 154, 3) := by decide +kernel
theorem dX6_drawLine_23 : decode cX6_drawLine 23 = .ok (.aload_n 0, 1) := by decide +kernel
theorem dX6_drawLine_24 : decode cX6_drawLine 24 = .ok (.getfield 12, 3) := by decide +kernel
theorem dX6_drawLine_27 : decode cX6_drawLine 27 = .ok (.getfield 80, 3) := by decide +kernel
theorem dX6_drawLine_30 : decode cX6_drawLine 30 = .ok (.getfield 84, 3) := by decide +kernel
theorem dX6_drawLine_33 : decode cX6_drawLine 33 = .ok (.bipush 42, 2) := by decide +kernel
theorem dX6_drawLine_35 : decode cX6_drawLine 35 = .ok (.iload_n 1, 1) := by decide +kernel
theorem dX6_drawLine_36 : decode cX6_drawLine 36 = .ok (.iastore, 1) := by decide +kernel
theorem dX6_drawLine_37 : decode cX6_drawLine 37 = .ok (.iconst 1, 1) := by decide +kernel
theorem dX6_drawLine_38 : decode cX6_drawLine 38 = .ok (.ireturn, 1) := by decide +kernel
theorem dX6_readAll_0 : decode cX6_readAll 0 = .ok (.aload_n 0, 1) := by decide +kernel
theorem dX6_readAll_1 : decode cX6_readAll 1 = .ok (.getfield 12, 3) := by decide +kernel
theorem dX6_readAll_4 : decode cX6_readAll 4 = .ok (.invokevirtual 35, 3) := by decide +kernel
theorem dX6_readAll_7 : decode cX6_readAll 7 = .ok (.aload_n 0, 1) := by decide +kernel
theorem dX6_readAll_8 : decode cX6_readAll 8 = .ok (.iconst 0, 1) := by decide +kernel
theorem dX6_readAll_9 : decode cX6_readAll 9 = .ok (.putfield 18, 3) := by decide +kernel
theorem dX6_readAll_12 : decode cX6_readAll 12 = .ok (.aload_n 0, 1) := by decide +kernel
theorem dX6_readAll_13 : decode cX6_readAll 13 = .ok (.iconst 0, 1) := by decide +kernel
theorem dX6_readAll_14 : decode cX6_readAll 14 = .ok (.putfield 25, 3) := by decide +kernel
theorem dX6_readAll_17 : decode cX6_readAll 17 = .ok (.aload_n 0, 1) := by decide +kernel
theorem dX6_readAll_18 : decode cX6_readAll 18 = .ok (.iconst (-1), 1) := by decide +kernel
theorem dX6_readAll_19 : decode cX6_readAll 19 = .ok (.putfield 28, 3) := by decide +kernel
theorem dX6_readAll_22 : decode cX6_readAll 22 = .ok (.iconst 1, 1) := by decide +kernel
theorem dX6_readAll_23 : decode cX6_readAll 23 = .ok (.istore_n 1, 1) := by decide +kernel
theorem dX6_readAll_24 : decode cX6_readAll 24 = .ok (.iconst 0, 1) := by decide +kernel
theorem dX6_readAll_25 : decode cX6_readAll 25 = .ok (.istore_n 2, 1) := by decide +kernel
theorem dX6_readAll_26 : decode cX6_readAll 26 = .ok (.iload_n 1, 1) := by decide +kernel
theorem dX6_readAll_27 : decode cX6_readAll 27 = .ok (.ifCond .eq 209, 3) := by decide +kernel
theorem dX6_readAll_30 : decode cX6_readAll 30 = .ok (.iload_n 2, 1) := by decide +kernel
theorem dX6_readAll_31 : decode cX6_readAll 31 = .ok (.aload_n 0, 1) := by decide +kernel
theorem dX6_readAll_32 : decode cX6_readAll 32 = .ok (.getfield 31, 3) := by decide +kernel
theorem dX6_readAll_35 : decode cX6_readAll 35 = .ok (.getfield 38, 3) := by decide +kernel
theorem dX6_readAll_38 : decode cX6_readAll 38 = .ok (.if_icmp .ge 198, 3) := by decide +kernel
theorem dX6_readAll_41 : decode cX6_readAll 41 = .ok (.aload_n 0, 1) := by decide +kernel
theorem dX6_readAll_42 : decode cX6_readAll 42 = .ok (.invokevirtual 43, 3) := by decide +kernel
theorem dX6_readAll_45 : decode cX6_readAll 45 = .ok (.ifCond .eq 191, 3) := by decide +kernel
theorem dX6_readAll_48 : decode cX6_readAll 48 = .ok (.aload_n 0, 1) := by decide +kernel
theorem dX6_readAll_49 : decode cX6_readAll 49 = .ok (.invokevirtual 43, 3) := by decide +kernel
theorem dX6_readAll_52 : decode cX6_readAll 52 = .ok (.istore_n 3, 1) := by decide +kernel
theorem dX6_readAll_53 : decode cX6_readAll 53 = .ok (.aload_n 0, 1) := by decide +kernel
theorem dX6_readAll_54 : decode cX6_readAll 54 = .ok (.getfield 12, 3) := by decide +kernel
theorem dX6_readAll_57 : decode cX6_readAll 57 = .ok (.iload_n 3, 1) := by decide +kernel
theorem dX6_readAll_58 : decode cX6_readAll 58 = .ok (.invokevirtual 47, 3) := by decide +kernel
theorem dX6_readAll_61 : decode cX6_readAll 61 = .ok (.ifCond .ne 9, 3) := by decide +kernel
theorem dX6_readAll_64 : decode cX6_readAll 64 = .ok (.aload_n 0, 1) := by decide +kernel
theorem dX6_readAll_65 : decode cX6_readAll 65 = .ok (.iconst 2, 1) := by decide +kernel
theorem dX6_readAll_66 : decode cX6_readAll 66 = .ok (.invokevirtual 51, 3) := by decide +kernel
theorem dX6_readAll_69 : decode cX6_readAll 69 = .ok (.ireturn, 1) := by decide +kernel
theorem dX6_readAll_70 : decode cX6_readAll 70 = .ok (.aload_n 0, 1) := by decide +kernel
theorem dX6_readAll_71 : decode cX6_readAll 71 = .ok (.dup, 1) := by decide +kernel
theorem dX6_readAll_72 : decode cX6_readAll 72 = .ok (.getfield 18, 3) := by decide +kernel
theorem dX6_readAll_75 : decode cX6_readAll 75 = .ok (.iconst 1, 1) := by decide +kernel
theorem dX6_readAll_76 : decode cX6_readAll 76 = .ok (.iadd, 1) := by decide +kernel
theorem dX6_readAll_77 : decode cX6_readAll 77 = .ok (.putfield 18, 3) := by decide +kernel
theorem dX6_readAll_80 : decode cX6_readAll 80 = .ok (.iload_n 3, 1) := by decide +kernel
theorem dX6_readAll_81 : decode cX6_readAll 81 = .ok (.tableswitch 125 128 134 #[43, 51, 59, 67, 75, 83, 100], 43) := by decide +kernel
theorem dX6_readAll_124 : decode cX6_readAll 124 = .ok (.aload_n 0, 1) := by decide +kernel
theorem dX6_readAll_125 : decode cX6_readAll 125 = .ok (.invokevirtual 54, 3) := by decide +kernel
theorem dX6_readAll_128 : decode cX6_readAll 128 = .ok (.istore_n 1, 1) := by decide +kernel
theorem dX6_readAll_129 : decode cX6_readAll 129 = .ok (.goto 82, 3) := by decide +kernel
theorem dX6_readAll_132 : decode cX6_readAll 132 = .ok (.aload_n 0, 1) := by decide +kernel
theorem dX6_readAll_133 : decode cX6_readAll 133 = .ok (.invokevirtual 58, 3) := by decide +kernel
theorem dX6_readAll_136 : decode cX6_readAll 136 = .ok (.istore_n 1, 1) := by decide +kernel
theorem dX6_readAll_137 : decode cX6_readAll 137 = .ok (.goto 74, 3) := by decide +kernel
theorem dX6_readAll_140 : decode cX6_readAll 140 = .ok (.aload_n 0, 1) := by decide +kernel
theorem dX6_readAll_141 : decode cX6_readAll 141 = .ok (.invokevirtual 61, 3) := by decide +kernel
theorem dX6_readAll_144 : decode cX6_readAll 144 = .ok (.istore_n 1, 1) := by decide +kernel
theorem dX6_readAll_145 : decode cX6_readAll 145 = .ok (.goto 66, 3) := by decide +kernel
theorem dX6_readAll_148 : decode cX6_readAll 148 = .ok (.aload_n 0, 1) := by decide +kernel
theorem dX6_readAll_149 : decode cX6_readAll 149 = .ok (.invokevirtual 64, 3) := by decide +kernel
theorem dX6_readAll_152 : decode cX6_readAll 152 = .ok (.istore_n 1, 1) := by decide +kernel
theorem dX6_readAll_153 : decode cX6_readAll 153 = .ok (.goto 58, 3) := by decide +kernel
theorem dX6_readAll_156 : decode cX6_readAll 156 = .ok (.aload_n 0, 1) := by decide +kernel
theorem dX6_readAll_157 : decode cX6_readAll 157 = .ok (.invokevirtual 67, 3) := by decide +kernel
theorem dX6_readAll_160 : decode cX6_readAll 160 = .ok (.istore_n 1, 1) := by decide +kernel
theorem dX6_readAll_161 : decode cX6_readAll 161 = .ok (.goto 50, 3) := by decide +kernel
theorem dX6_readAll_164 : decode cX6_readAll 164 = .ok (.aload_n 0, 1) := by decide +kernel
theorem dX6_readAll_165 : decode cX6_readAll 165 = .ok (.getfield 12, 3) := by decide +kernel
theorem dX6_readAll_168 : decode cX6_readAll 168 = .ok (.iconst 1, 1) := by decide +kernel
theorem dX6_readAll_169 : decode cX6_readAll 169 = .ok (.putfield 70, 3) := by decide +kernel
theorem dX6_readAll_172 : decode cX6_readAll 172 = .ok (.aload_n 0, 1) := by decide +kernel
theorem dX6_readAll_173 : decode cX6_readAll 173 = .ok (.iconst 4, 1) := by decide +kernel
theorem dX6_readAll_174 : decode cX6_readAll 174 = .ok (.invokevirtual 74, 3) := by decide +kernel
theorem dX6_readAll_177 : decode cX6_readAll 177 = .ok (.istore_n 1, 1) := by decide +kernel
theorem dX6_readAll_178 : decode cX6_readAll 178 = .ok (.goto 33, 3) := by decide +kernel
theorem dX6_readAll_181 : decode cX6_readAll 181 = .ok (.aload_n 0, 1) := by decide +kernel
theorem dX6_readAll_182 : decode cX6_readAll 182 = .ok (.getfield 12, 3) := by decide +kernel
theorem dX6_readAll_185 : decode cX6_readAll 185 = .ok (.iconst 1, 1) := by decide +kernel
theorem dX6_readAll_186 : decode cX6_readAll 186 = .ok (.putfield 77, 3) := by decide +kernel
theorem dX6_readAll_189 : decode cX6_readAll 189 = .ok (.aload_n 0, 1) := by decide +kernel
theorem dX6_readAll_190 : decode cX6_readAll 190 = .ok (.getfield 12, 3) := by decide +kernel
theorem dX6_readAll_193 : decode cX6_readAll 193 = .ok (.getfield 80, 3) := by decide +kernel
theorem dX6_readAll_196 : decode cX6_readAll 196 = .ok (.getfield 84, 3) := by decide +kernel
theorem dX6_readAll_199 : decode cX6_readAll 199 = .ok (.bipush 41, 2) := by decide +kernel
theorem dX6_readAll_201 : decode cX6_readAll 201 = .ok (.iconst 1, 1) := by decide +kernel
theorem dX6_readAll_202 : decode cX6_readAll 202 = .ok (.iastore, 1) := by decide +kernel
theorem dX6_readAll_203 : decode cX6_readAll 203 = .ok (.goto 8, 3) := by decide +kernel
theorem dX6_readAll_206 : decode cX6_readAll 206 = .ok (.aload_n 0, 1) := by decide +kernel
theorem dX6_readAll_207 : decode cX6_readAll 207 = .ok (.invokevirtual 90, 3) := by decide +kernel
theorem dX6_readAll_210 : decode cX6_readAll 210 = .ok (.istore_n 1, 1) := by decide +kernel
theorem dX6_readAll_211 : decode cX6_readAll 211 = .ok (.iload_n 1, 1) := by decide +kernel
theorem dX6_readAll_212 : decode cX6_readAll 212 = .ok (.ifCond .eq 16, 3) := by decide +kernel
theorem dX6_readAll_215 : decode cX6_readAll 215 = .ok (.aload_n 0, 1) := by decide +kernel
theorem dX6_readAll_216 : decode cX6_readAll 216 = .ok (.bipush 59, 2) := by decide +kernel
theorem dX6_readAll_218 : decode cX6_readAll 218 = .ok (.invokevirtual 93, 3) := by decide +kernel
theorem dX6_readAll_221 : decode cX6_readAll 221 = .ok (.ifCond .eq 7, 3) := by decide +kernel
theorem dX6_readAll_224 : decode cX6_readAll 224 = .ok (.iconst 1, 1) := by decide +kernel
theorem dX6_readAll_225 : decode cX6_readAll 225 = .ok (.goto 4, 3) := by decide +kernel
theorem dX6_readAll_228 : decode cX6_readAll 228 = .ok (.iconst 0, 1) := by decide +kernel
theorem dX6_readAll_229 : decode cX6_readAll 229 = .ok (.istore_n 1, 1) := by decide +kernel
theorem dX6_readAll_230 : decode cX6_readAll 230 = .ok (.iinc 2 1, 3) := by decide +kernel
theorem dX6_readAll_233 : decode cX6_readAll 233 = .ok (.goto (-207), 3) := by decide +kernel
theorem dX6_readAll_236 : decode cX6_readAll 236 = .ok (.iload_n 1, 1) := by decide +kernel
theorem dX6_readAll_237 : decode cX6_readAll 237 = .ok (.ireturn, 1) := by decide +kernel
theorem dX8_append_0 : decode cX8_append 0 = .ok (.bipush 24, 2) := by decide +kernel
theorem dX8_append_2 : decode cX8_append 2 = .ok (.istore_n 2, 1) := by decide +kernel
theorem dX8_append_3 : decode cX8_append 3 = .ok (.iload_n 2, 1) := by decide +kernel
theorem dX8_append_4 : decode cX8_append 4 = .ok (.ifCond .lt 42, 3) := by decide +kernel
theorem dX8_append_7 : decode cX8_append 7 = .ok (.aload_n 0, 1) := by decide +kernel
theorem dX8_append_8 : decode cX8_append 8 = .ok (.getfield 26, 3) := by decide +kernel
theorem dX8_append_11 : decode cX8_append 11 = .ok (.sipush 1600, 3) := by decide +kernel
theorem dX8_append_14 : decode cX8_append 14 = .ok (.if_icmp .ge 32, 3) := by decide +kernel
theorem dX8_append_17 : decode cX8_append 17 = .ok (.aload_n 0, 1) := by decide +kernel
theorem dX8_append_18 : decode cX8_append 18 = .ok (.getfield 9, 3) := by decide +kernel
theorem dX8_append_21 : decode cX8_append 21 = .ok (.aload_n 0, 1) := by decide +kernel
theorem dX8_append_22 : decode cX8_append 22 = .ok (.getfield 26, 3) := by decide +kernel
theorem dX8_append_25 : decode cX8_append 25 = .ok (.iload_n 1, 1) := by decide +kernel
theorem dX8_append_26 : decode cX8_append 26 = .ok (.iload_n 2, 1) := by decide +kernel
theorem dX8_append_27 : decode cX8_append 27 = .ok (.ishr, 1) := by decide +kernel
theorem dX8_append_28 : decode cX8_append 28 = .ok (.i2b, 1) := by decide +kernel
theorem dX8_append_29 : decode cX8_append 29 = .ok (.bastore, 1) := by decide +kernel
theorem dX8_append_30 : decode cX8_append 30 = .ok (.aload_n 0, 1) := by decide +kernel
theorem dX8_append_31 : decode cX8_append 31 = .ok (.dup, 1) := by decide +kernel
theorem dX8_append_32 : decode cX8_append 32 = .ok (.getfield 26, 3) := by decide +kernel
theorem dX8_append_35 : decode cX8_append 35 = .ok (.iconst 1, 1) := by decide +kernel
theorem dX8_append_36 : decode cX8_append 36 = .ok (.iadd, 1) := by decide +kernel
theorem dX8_append_37 : decode cX8_append 37 = .ok (.putfield 26, 3) := by decide +kernel
theorem dX8_append_40 : decode cX8_append 40 = .ok (.iinc 2 (-8), 3) := by decide +kernel
theorem dX8_append_43 : decode cX8_append 43 = .ok (.goto (-40), 3) := by decide +kernel
theorem dX8_append_46 : decode cX8_append 46 = .ok (.return_, 1) := by decide +kernel
theorem dX8_isLetter_0 : decode cX8_isLetter 0 = .ok (.iload_n 1, 1) := by decide +kernel
theorem dX8_isLetter_1 : decode cX8_isLetter 1 = .ok (.ifCond .lt 37, 3) := by decide +kernel
theorem dX8_isLetter_4 : decode cX8_isLetter 4 = .ok (.iload_n 1, 1) := by decide +kernel
theorem dX8_isLetter_5 : decode cX8_isLetter 5 = .ok (.aload_n 0, 1) := by decide +kernel
theorem dX8_isLetter_6 : decode cX8_isLetter 6 = .ok (.getfield 26, 3) := by decide +kernel
theorem dX8_isLetter_9 : decode cX8_isLetter 9 = .ok (.if_icmp .ge 29, 3) := by decide +kernel
theorem dX8_isLetter_12 : decode cX8_isLetter 12 = .ok (.aload_n 0, 1) := by decide +kernel
theorem dX8_isLetter_13 : decode cX8_isLetter 13 = .ok (.getfield 9, 3) := by decide +kernel
theorem dX8_isLetter_16 : decode cX8_isLetter 16 = .ok (.iload_n 1, 1) := by decide +kernel
theorem dX8_isLetter_17 : decode cX8_isLetter 17 = .ok (.baload, 1) := by decide +kernel
theorem dX8_isLetter_18 : decode cX8_isLetter 18 = .ok (.bipush 97, 2) := by decide +kernel
theorem dX8_isLetter_20 : decode cX8_isLetter 20 = .ok (.if_icmp .lt 18, 3) := by decide +kernel
theorem dX8_isLetter_23 : decode cX8_isLetter 23 = .ok (.aload_n 0, 1) := by decide +kernel
theorem dX8_isLetter_24 : decode cX8_isLetter 24 = .ok (.getfield 9, 3) := by decide +kernel
theorem dX8_isLetter_27 : decode cX8_isLetter 27 = .ok (.iload_n 1, 1) := by decide +kernel
theorem dX8_isLetter_28 : decode cX8_isLetter 28 = .ok (.baload, 1) := by decide +kernel
theorem dX8_isLetter_29 : decode cX8_isLetter 29 = .ok (.bipush 122, 2) := by decide +kernel
theorem dX8_isLetter_31 : decode cX8_isLetter 31 = .ok (.if_icmp .gt 7, 3) := by decide +kernel
theorem dX8_isLetter_34 : decode cX8_isLetter 34 = .ok (.iconst 1, 1) := by decide +kernel
theorem dX8_isLetter_35 : decode cX8_isLetter 35 = .ok (.goto 4, 3) := by decide +kernel
theorem dX8_isLetter_38 : decode cX8_isLetter 38 = .ok (.iconst 0, 1) := by decide +kernel
theorem dX8_isLetter_39 : decode cX8_isLetter 39 = .ok (.ireturn, 1) := by decide +kernel
theorem dX8_isDigit_0 : decode cX8_isDigit 0 = .ok (.iload_n 1, 1) := by decide +kernel
theorem dX8_isDigit_1 : decode cX8_isDigit 1 = .ok (.ifCond .lt 37, 3) := by decide +kernel
theorem dX8_isDigit_4 : decode cX8_isDigit 4 = .ok (.iload_n 1, 1) := by decide +kernel
theorem dX8_isDigit_5 : decode cX8_isDigit 5 = .ok (.aload_n 0, 1) := by decide +kernel
theorem dX8_isDigit_6 : decode cX8_isDigit 6 = .ok (.getfield 26, 3) := by decide +kernel
theorem dX8_isDigit_9 : decode cX8_isDigit 9 = .ok (.if_icmp .ge 29, 3) := by decide +kernel
theorem dX8_isDigit_12 : decode cX8_isDigit 12 = .ok (.aload_n 0, 1) := by decide +kernel
theorem dX8_isDigit_13 : decode cX8_isDigit 13 = .ok (.getfield 9, 3) := by decide +kernel
theorem dX8_isDigit_16 : decode cX8_isDigit 16 = .ok (.iload_n 1, 1) := by decide +kernel
theorem dX8_isDigit_17 : decode cX8_isDigit 17 = .ok (.baload, 1) := by decide +kernel
theorem dX8_isDigit_18 : decode cX8_isDigit 18 = .ok (.bipush 48, 2) := by decide +kernel
theorem dX8_isDigit_20 : decode cX8_isDigit 20 = .ok (.if_icmp .lt 18, 3) := by decide +kernel
theorem dX8_isDigit_23 : decode cX8_isDigit 23 = .ok (.aload_n 0, 1) := by decide +kernel
theorem dX8_isDigit_24 : decode cX8_isDigit 24 = .ok (.getfield 9, 3) := by decide +kernel
theorem dX8_isDigit_27 : decode cX8_isDigit 27 = .ok (.iload_n 1, 1) := by decide +kernel
theorem dX8_isDigit_28 : decode cX8_isDigit 28 = .ok (.baload, 1) := by decide +kernel
theorem dX8_isDigit_29 : decode cX8_isDigit 29 = .ok (.bipush 57, 2) := by decide +kernel
theorem dX8_isDigit_31 : decode cX8_isDigit 31 = .ok (.if_icmp .gt 7, 3) := by decide +kernel
theorem dX8_isDigit_34 : decode cX8_isDigit 34 = .ok (.iconst 1, 1) := by decide +kernel
theorem dX8_isDigit_35 : decode cX8_isDigit 35 = .ok (.goto 4, 3) := by decide +kernel
theorem dX8_isDigit_38 : decode cX8_isDigit 38 = .ok (.iconst 0, 1) := by decide +kernel
theorem dX8_isDigit_39 : decode cX8_isDigit 39 = .ok (.ireturn, 1) := by decide +kernel
theorem dX8_addToken_0 : decode cX8_addToken 0 = .ok (.aload_n 0, 1) := by decide +kernel
theorem dX8_addToken_1 : decode cX8_addToken 1 = .ok (.getfield 30, 3) := by decide +kernel
theorem dX8_addToken_4 : decode cX8_addToken 4 = .ok (.aload_n 0, 1) := by decide +kernel
theorem dX8_addToken_5 : decode cX8_addToken 5 = .ok (.getfield 15, 3) := by decide +kernel
theorem dX8_addToken_8 : decode cX8_addToken 8 = .ok (.arraylength, 1) := by decide +kernel
theorem dX8_addToken_9 : decode cX8_addToken 9 = .ok (.if_icmp .ge 43, 3) := by decide +kernel
theorem dX8_addToken_12 : decode cX8_addToken 12 = .ok (.aload_n 0, 1) := by decide +kernel
theorem dX8_addToken_13 : decode cX8_addToken 13 = .ok (.getfield 15, 3) := by decide +kernel
theorem dX8_addToken_16 : decode cX8_addToken 16 = .ok (.aload_n 0, 1) := by decide +kernel
theorem dX8_addToken_17 : decode cX8_addToken 17 = .ok (.getfield 30, 3) := by decide +kernel
theorem dX8_addToken_20 : decode cX8_addToken 20 = .ok (.iload_n 1, 1) := by decide +kernel
theorem dX8_addToken_21 : decode cX8_addToken 21 = .ok (.iastore, 1) := by decide +kernel
theorem dX8_addToken_22 : decode cX8_addToken 22 = .ok (.aload_n 0, 1) := by decide +kernel
theorem dX8_addToken_23 : decode cX8_addToken 23 = .ok (.getfield 19, 3) := by decide +kernel
theorem dX8_addToken_26 : decode cX8_addToken 26 = .ok (.aload_n 0, 1) := by decide +kernel
theorem dX8_addToken_27 : decode cX8_addToken 27 = .ok (.getfield 30, 3) := by decide +kernel
theorem dX8_addToken_30 : decode cX8_addToken 30 = .ok (.iload_n 2, 1) := by decide +kernel
theorem dX8_addToken_31 : decode cX8_addToken 31 = .ok (.iastore, 1) := by decide +kernel
theorem dX8_addToken_32 : decode cX8_addToken 32 = .ok (.aload_n 0, 1) := by decide +kernel
theorem dX8_addToken_33 : decode cX8_addToken 33 = .ok (.getfield 22, 3) := by decide +kernel
theorem dX8_addToken_36 : decode cX8_addToken 36 = .ok (.aload_n 0, 1) := by decide +kernel
theorem dX8_addToken_37 : decode cX8_addToken 37 = .ok (.getfield 30, 3) := by decide +kernel
theorem dX8_addToken_40 : decode cX8_addToken 40 = .ok (.lload_n 3, 1) := by decide +kernel
theorem dX8_addToken_41 : decode cX8_addToken 41 = .ok (.lastore, 1) := by decide +kernel
theorem dX8_addToken_42 : decode cX8_addToken 42 = .ok (.aload_n 0, 1) := by decide +kernel
theorem dX8_addToken_43 : decode cX8_addToken 43 = .ok (.dup, 1) := by decide +kernel
theorem dX8_addToken_44 : decode cX8_addToken 44 = .ok (.getfield 30, 3) := by decide +kernel
theorem dX8_addToken_47 : decode cX8_addToken 47 = .ok (.iconst 1, 1) := by decide +kernel
theorem dX8_addToken_48 : decode cX8_addToken 48 = .ok (.iadd, 1) := by decide +kernel
theorem dX8_addToken_49 : decode cX8_addToken 49 = .ok (.putfield 30, 3) := by decide +kernel
theorem dX8_addToken_52 : decode cX8_addToken 52 = .ok (.return_, 1) := by decide +kernel
theorem dX8_scanNumber_0 : decode cX8_scanNumber 0 = .ok (.iconst 0, 1) := by decide +kernel
theorem dX8_scanNumber_1 : decode cX8_scanNumber 1 = .ok (.istore_n 2, 1) := by decide +kernel
theorem dX8_scanNumber_2 : decode cX8_scanNumber 2 = .ok (.iconst 0, 1) := by decide +kernel
theorem dX8_scanNumber_3 : decode cX8_scanNumber 3 = .ok (.istore_n 3, 1) := by decide +kernel
theorem dX8_scanNumber_4 : decode cX8_scanNumber 4 = .ok (.iload_n 3, 1) := by decide +kernel
theorem dX8_scanNumber_5 : decode cX8_scanNumber 5 = .ok (.iconst 4, 1) := by decide +kernel
theorem dX8_scanNumber_6 : decode cX8_scanNumber 6 = .ok (.if_icmp .ge 36, 3) := by decide +kernel
theorem dX8_scanNumber_9 : decode cX8_scanNumber 9 = .ok (.aload_n 0, 1) := by decide +kernel
theorem dX8_scanNumber_10 : decode cX8_scanNumber 10 = .ok (.iload_n 1, 1) := by decide +kernel
theorem dX8_scanNumber_11 : decode cX8_scanNumber 11 = .ok (.iload_n 3, 1) := by decide +kernel
theorem dX8_scanNumber_12 : decode cX8_scanNumber 12 = .ok (.iadd, 1) := by decide +kernel
theorem dX8_scanNumber_13 : decode cX8_scanNumber 13 = .ok (.invokevirtual 37, 3) := by decide +kernel
theorem dX8_scanNumber_16 : decode cX8_scanNumber 16 = .ok (.ifCond .eq 26, 3) := by decide +kernel
theorem dX8_scanNumber_19 : decode cX8_scanNumber 19 = .ok (.iload_n 2, 1) := by decide +kernel
theorem dX8_scanNumber_20 : decode cX8_scanNumber 20 = .ok (.bipush 10, 2) := by decide +kernel
theorem dX8_scanNumber_22 : decode cX8_scanNumber 22 = .ok (.imul, 1) := by decide +kernel
theorem dX8_scanNumber_23 : decode cX8_scanNumber 23 = .ok (.aload_n 0, 1) := by decide +kernel
theorem dX8_scanNumber_24 : decode cX8_scanNumber 24 = .ok (.getfield 9, 3) := by decide +kernel
theorem dX8_scanNumber_27 : decode cX8_scanNumber 27 = .ok (.iload_n 1, 1) := by decide +kernel
theorem dX8_scanNumber_28 : decode cX8_scanNumber 28 = .ok (.iload_n 3, 1) := by decide +kernel
theorem dX8_scanNumber_29 : decode cX8_scanNumber 29 = .ok (.iadd, 1) := by decide +kernel
theorem dX8_scanNumber_30 : decode cX8_scanNumber 30 = .ok (.baload, 1) := by decide +kernel
theorem dX8_scanNumber_31 : decode cX8_scanNumber 31 = .ok (.iadd, 1) := by decide +kernel
theorem dX8_scanNumber_32 : decode cX8_scanNumber 32 = .ok (.bipush 48, 2) := by decide +kernel
theorem dX8_scanNumber_34 : decode cX8_scanNumber 34 = .ok (.isub, 1) := by decide +kernel
theorem dX8_scanNumber_35 : decode cX8_scanNumber 35 = .ok (.istore_n 2, 1) := by decide +kernel
theorem dX8_scanNumber_36 : decode cX8_scanNumber 36 = .ok (.iinc 3 1, 3) := by decide +kernel
theorem dX8_scanNumber_39 : decode cX8_scanNumber 39 = .ok (.goto (-35), 3) := by decide +kernel
theorem dX8_scanNumber_42 : decode cX8_scanNumber 42 = .ok (.aload_n 0, 1) := by decide +kernel
theorem dX8_scanNumber_43 : decode cX8_scanNumber 43 = .ok (.iconst 3, 1) := by decide +kernel
theorem dX8_scanNumber_44 : decode cX8_scanNumber 44 = .ok (.iload_n 1, 1) := by decide +kernel
theorem dX8_scanNumber_45 : decode cX8_scanNumber 45 = .ok (.iload_n 2, 1) := by decide +kernel
theorem dX8_scanNumber_46 : decode cX8_scanNumber 46 = .ok (.i2l, 1) := by decide +kernel
theorem dX8_scanNumber_47 : decode cX8_scanNumber 47 = .ok (.invokevirtual 54, 3) := by decide +kernel
theorem dX8_scanNumber_50 : decode cX8_scanNumber 50 = .ok (.iconst 1, 1) := by decide +kernel
theorem dX8_scanNumber_51 : decode cX8_scanNumber 51 = .ok (.iload_n 3, 1) := by decide +kernel
theorem dX8_scanNumber_52 : decode cX8_scanNumber 52 = .ok (.invokestatic 62, 3) := by decide +kernel
theorem dX8_scanNumber_55 : decode cX8_scanNumber 55 = .ok (.ireturn, 1) := by decide +kernel
theorem dX9_tell_0 : decode cX9_tell 0 = .ok (.aload_n 0, 1) := by decide +kernel
theorem dX9_tell_1 : decode cX9_tell 1 = .ok (.getfield 31, 3) := by decide +kernel
theorem dX9_tell_4 : decode cX9_tell 4 = .ok (.bipush 30, 2) := by decide +kernel
theorem dX9_tell_6 : decode cX9_tell 6 = .ok (.if_icmp .lt 5, 3) := by decide +kernel
theorem dX9_tell_9 : decode cX9_tell 9 = .ok (.iconst (-1), 1) := by decide +kernel
theorem dX9_tell_10 : decode cX9_tell 10 = .ok (.ireturn, 1) := by decide +kernel
theorem dX9_tell_11 : decode cX9_tell 11 = .ok (.aload_n 0, 1) := by decide +kernel
theorem dX9_tell_12 : decode cX9_tell 12 = .ok (.getfield 11, 3) := by decide +kernel
theorem dX9_tell_15 : decode cX9_tell 15 = .ok (.aload_n 0, 1) := by decide +kernel
theorem dX9_tell_16 : decode cX9_tell 16 = .ok (.getfield 31, 3) := by decide +kernel
theorem dX9_tell_19 : decode cX9_tell 19 = .ok (.iconst 3, 1) := by decide +kernel
theorem dX9_tell_20 : decode cX9_tell 20 = .ok (.imul, 1) := by decide +kernel
theorem dX9_tell_21 : decode cX9_tell 21 = .ok (.iload_n 1, 1) := by decide +kernel
theorem dX9_tell_22 : decode cX9_tell 22 = .ok (.iastore, 1) := by decide +kernel
theorem dX9_tell_23 : decode cX9_tell 23 = .ok (.aload_n 0, 1) := by decide +kernel
theorem dX9_tell_24 : decode cX9_tell 24 = .ok (.getfield 11, 3) := by decide +kernel
theorem dX9_tell_27 : decode cX9_tell 27 = .ok (.aload_n 0, 1) := by decide +kernel
theorem dX9_tell_28 : decode cX9_tell 28 = .ok (.getfield 31, 3) := by decide +kernel
theorem dX9_tell_31 : decode cX9_tell 31 = .ok (.iconst 3, 1) := by decide +kernel
theorem dX9_tell_32 : decode cX9_tell 32 = .ok (.imul, 1) := by decide +kernel
theorem dX9_tell_33 : decode cX9_tell 33 = .ok (.iconst 1, 1) := by decide +kernel
theorem dX9_tell_34 : decode cX9_tell 34 = .ok (.iadd, 1) := by decide +kernel
theorem dX9_tell_35 : decode cX9_tell 35 = .ok (.iload_n 2, 1) := by decide +kernel
theorem dX9_tell_36 : decode cX9_tell 36 = .ok (.iastore, 1) := by decide +kernel
theorem dX9_tell_37 : decode cX9_tell 37 = .ok (.aload_n 0, 1) := by decide +kernel
theorem dX9_tell_38 : decode cX9_tell 38 = .ok (.getfield 11, 3) := by decide +kernel
theorem dX9_tell_41 : decode cX9_tell 41 = .ok (.aload_n 0, 1) := by decide +kernel
theorem dX9_tell_42 : decode cX9_tell 42 = .ok (.getfield 31, 3) := by decide +kernel
theorem dX9_tell_45 : decode cX9_tell 45 = .ok (.iconst 3, 1) := by decide +kernel
theorem dX9_tell_46 : decode cX9_tell 46 = .ok (.imul, 1) := by decide +kernel
theorem dX9_tell_47 : decode cX9_tell 47 = .ok (.iconst 2, 1) := by decide +kernel
theorem dX9_tell_48 : decode cX9_tell 48 = .ok (.iadd, 1) := by decide +kernel
theorem dX9_tell_49 : decode cX9_tell 49 = .ok (.iload_n 3, 1) := by decide +kernel
theorem dX9_tell_50 : decode cX9_tell 50 = .ok (.iastore, 1) := by decide +kernel
theorem dX9_tell_51 : decode cX9_tell 51 = .ok (.aload_n 0, 1) := by decide +kernel
theorem dX9_tell_52 : decode cX9_tell 52 = .ok (.getfield 15, 3) := by decide +kernel
theorem dX9_tell_55 : decode cX9_tell 55 = .ok (.aload_n 0, 1) := by decide +kernel
theorem dX9_tell_56 : decode cX9_tell 56 = .ok (.getfield 31, 3) := by decide +kernel
theorem dX9_tell_59 : decode cX9_tell 59 = .ok (.iload 4, 2) := by decide +kernel
theorem dX9_tell_61 : decode cX9_tell 61 = .ok (.iastore, 1) := by decide +kernel
theorem dX9_tell_62 : decode cX9_tell 62 = .ok (.aload_n 0, 1) := by decide +kernel
theorem dX9_tell_63 : decode cX9_tell 63 = .ok (.getfield 18, 3) := by decide +kernel
theorem dX9_tell_66 : decode cX9_tell 66 = .ok (.aload_n 0, 1) := by decide +kernel
theorem dX9_tell_67 : decode cX9_tell 67 = .ok (.getfield 31, 3) := by decide +kernel
theorem dX9_tell_70 : decode cX9_tell 70 = .ok (.iload 5, 2) := by decide +kernel
theorem dX9_tell_72 : decode cX9_tell 72 = .ok (.bastore, 1) := by decide +kernel
theorem dX9_tell_73 : decode cX9_tell 73 = .ok (.aload_n 0, 1) := by decide +kernel
theorem dX9_tell_74 : decode cX9_tell 74 = .ok (.getfield 22, 3) := by decide +kernel
theorem dX9_tell_77 : decode cX9_tell 77 = .ok (.aload_n 0, 1) := by decide +kernel
theorem dX9_tell_78 : decode cX9_tell 78 = .ok (.getfield 31, 3) := by decide +kernel
theorem dX9_tell_81 : decode cX9_tell 81 = .ok (.aload_n 0, 1) := by decide +kernel
theorem dX9_tell_82 : decode cX9_tell 82 = .ok (.getfield 35, 3) := by decide +kernel
theorem dX9_tell_85 : decode cX9_tell 85 = .ok (.iastore, 1) := by decide +kernel
theorem dX9_tell_86 : decode cX9_tell 86 = .ok (.aload_n 0, 1) := by decide +kernel
theorem dX9_tell_87 : decode cX9_tell 87 = .ok (.getfield 25, 3) := by decide +kernel
theorem dX9_tell_90 : decode cX9_tell 90 = .ok (.aload_n 0, 1) := by decide +kernel
theorem dX9_tell_91 : decode cX9_tell 91 = .ok (.getfield 31, 3) := by decide +kernel
theorem dX9_tell_94 : decode cX9_tell 94 = .ok (.iconst (-1), 1) := by decide +kernel
theorem dX9_tell_95 : decode cX9_tell 95 = .ok (.iastore, 1) := by decide +kernel
theorem dX9_tell_96 : decode cX9_tell 96 = .ok (.aload_n 0, 1) := by decide +kernel
theorem dX9_tell_97 : decode cX9_tell 97 = .ok (.dup, 1) := by decide +kernel
theorem dX9_tell_98 : decode cX9_tell 98 = .ok (.getfield 31, 3) := by decide +kernel
theorem dX9_tell_101 : decode cX9_tell 101 = .ok (.iconst 1, 1) := by decide +kernel
theorem dX9_tell_102 : decode cX9_tell 102 = .ok (.iadd, 1) := by decide +kernel
theorem dX9_tell_103 : decode cX9_tell 103 = .ok (.putfield 31, 3) := by decide +kernel
theorem dX9_tell_106 : decode cX9_tell 106 = .ok (.aload_n 0, 1) := by decide +kernel
theorem dX9_tell_107 : decode cX9_tell 107 = .ok (.getfield 31, 3) := by decide +kernel
theorem dX9_tell_110 : decode cX9_tell 110 = .ok (.iconst 1, 1) := by decide +kernel
theorem dX9_tell_111 : decode cX9_tell 111 = .ok (.isub, 1) := by decide +kernel
theorem dX9_tell_112 : decode cX9_tell 112 = .ok (.ireturn, 1) := by decide +kernel
theorem dX9_takeBack_0 : decode cX9_takeBack 0 = .ok (.iload_n 1, 1) := by decide +kernel
theorem dX9_takeBack_1 : decode cX9_takeBack 1 = .ok (.ifCond .lt 21, 3) := by decide +kernel
theorem dX9_takeBack_4 : decode cX9_takeBack 4 = .ok (.iload_n 1, 1) := by decide +kernel
theorem dX9_takeBack_5 : decode cX9_takeBack 5 = .ok (.aload_n 0, 1) := by decide +kernel
theorem dX9_takeBack_6 : decode cX9_takeBack 6 = .ok (.getfield 31, 3) := by decide +kernel
theorem dX9_takeBack_9 : decode cX9_takeBack 9 = .ok (.if_icmp .ge 13, 3) := by decide +kernel
theorem dX9_takeBack_12 : decode cX9_takeBack 12 = .ok (.aload_n 0, 1) := by decide +kernel
theorem dX9_takeBack_13 : decode cX9_takeBack 13 = .ok (.getfield 25, 3) := by decide +kernel
theorem dX9_takeBack_16 : decode cX9_takeBack 16 = .ok (.iload_n 1, 1) := by decide +kernel
theorem dX9_takeBack_17 : decode cX9_takeBack 17 = .ok (.iaload, 1) := by decide +kernel
theorem dX9_takeBack_18 : decode cX9_takeBack 18 = .ok (.iconst (-1), 1) := by decide +kernel
theorem dX9_takeBack_19 : decode cX9_takeBack 19 = .ok (.if_icmp .eq 5, 3) := by decide +kernel
theorem dX9_takeBack_22 : decode cX9_takeBack 22 = .ok (.iconst 0, 1) := by decide +kernel
theorem dX9_takeBack_23 : decode cX9_takeBack 23 = .ok (.ireturn, 1) := by decide +kernel
theorem dX9_takeBack_24 : decode cX9_takeBack 24 = .ok (.aload_n 0, 1) := by decide +kernel
theorem dX9_takeBack_25 : decode cX9_takeBack 25 = .ok (.getfield 25, 3) := by decide +kernel
theorem dX9_takeBack_28 : decode cX9_takeBack 28 = .ok (.iload_n 1, 1) := by decide +kernel
theorem dX9_takeBack_29 : decode cX9_takeBack 29 = .ok (.aload_n 0, 1) := by decide +kernel
theorem dX9_takeBack_30 : decode cX9_takeBack 30 = .ok (.getfield 35, 3) := by decide +kernel
theorem dX9_takeBack_33 : decode cX9_takeBack 33 = .ok (.iastore, 1) := by decide +kernel
theorem dX9_takeBack_34 : decode cX9_takeBack 34 = .ok (.iconst 1, 1) := by decide +kernel
theorem dX9_takeBack_35 : decode cX9_takeBack 35 = .ok (.ireturn, 1) := by decide +kernel
theorem dX9_counts_0 : decode cX9_counts 0 = .ok (.aload_n 0, 1) := by decide +kernel
theorem dX9_counts_1 : decode cX9_counts 1 = .ok (.getfield 25, 3) := by decide +kernel
theorem dX9_counts_4 : decode cX9_counts 4 = .ok (.iload_n 1, 1) := by decide +kernel
theorem dX9_counts_5 : decode cX9_counts 5 = .ok (.iaload, 1) := by decide +kernel
theorem dX9_counts_6 : decode cX9_counts 6 = .ok (.iconst (-1), 1) := by decide +kernel
theorem dX9_counts_7 : decode cX9_counts 7 = .ok (.if_icmp .eq 17, 3) := by decide +kernel
theorem dX9_counts_10 : decode cX9_counts 10 = .ok (.aload_n 0, 1) := by decide +kernel
theorem dX9_counts_11 : decode cX9_counts 11 = .ok (.getfield 25, 3) := by decide +kernel
theorem dX9_counts_14 : decode cX9_counts 14 = .ok (.iload_n 1, 1) := by decide +kernel
theorem dX9_counts_15 : decode cX9_counts 15 = .ok (.iaload, 1) := by decide +kernel
theorem dX9_counts_16 : decode cX9_counts 16 = .ok (.iload_n 2, 1) := by decide +kernel
theorem dX9_counts_17 : decode cX9_counts 17 = .ok (.if_icmp .gt 7, 3) := by decide +kernel
theorem dX9_counts_20 : decode cX9_counts 20 = .ok (.iconst 1, 1) := by decide +kernel
theorem dX9_counts_21 : decode cX9_counts 21 = .ok (.goto 4, 3) := by decide +kernel
theorem dX9_counts_24 : decode cX9_counts 24 = .ok (.iconst 0, 1) := by decide +kernel
theorem dX9_counts_25 : decode cX9_counts 25 = .ok (.istore_n 3, 1) := by decide +kernel
theorem dX9_counts_26 : decode cX9_counts 26 = .ok (.aload_n 0, 1) := by decide +kernel
theorem dX9_counts_27 : decode cX9_counts 27 = .ok (.getfield 22, 3) := by decide +kernel
theorem dX9_counts_30 : decode cX9_counts 30 = .ok (.iload_n 1, 1) := by decide +kernel
theorem dX9_counts_31 : decode cX9_counts 31 = .ok (.iaload, 1) := by decide +kernel
theorem dX9_counts_32 : decode cX9_counts 32 = .ok (.iload_n 2, 1) := by decide +kernel
theorem dX9_counts_33 : decode cX9_counts 33 = .ok (.if_icmp .gt 11, 3) := by decide +kernel
theorem dX9_counts_36 : decode cX9_counts 36 = .ok (.iload_n 3, 1) := by decide +kernel
theorem dX9_counts_37 : decode cX9_counts 37 = .ok (.ifCond .ne 7, 3) := by decide +kernel
theorem dX9_counts_40 : decode cX9_counts 40 = .ok (.iconst 1, 1) := by decide +kernel
theorem dX9_counts_41 : decode cX9_counts 41 = .ok (.goto 4, 3) := by decide +kernel
theorem dX9_counts_44 : decode cX9_counts 44 = .ok (.iconst 0, 1) := by decide +kernel
theorem dX9_counts_45 : decode cX9_counts 45 = .ok (.ireturn, 1) := by decide +kernel
theorem dX9_fits_0 : decode cX9_fits 0 = .ok (.iconst 0, 1) := by decide +kernel
theorem dX9_fits_1 : decode cX9_fits 1 = .ok (.istore 5, 2) := by decide +kernel
theorem dX9_fits_3 : decode cX9_fits 3 = .ok (.iload 5, 2) := by decide +kernel
theorem dX9_fits_5 : decode cX9_fits 5 = .ok (.aload_n 0, 1) := by decide +kernel
theorem dX9_fits_6 : decode cX9_fits 6 = .ok (.getfield 31, 3) := by decide +kernel
theorem dX9_fits_9 : decode cX9_fits 9 = .ok (.if_icmp .ge 90, 3) := by decide +kernel
theorem dX9_fits_12 : decode cX9_fits 12 = .ok (.aload_n 0, 1) := by decide +kernel
theorem dX9_fits_13 : decode cX9_fits 13 = .ok (.getfield 11, 3) := by decide +kernel
theorem dX9_fits_16 : decode cX9_fits 16 = .ok (.iload 5, 2) := by decide +kernel
theorem dX9_fits_18 : decode cX9_fits 18 = .ok (.iconst 3, 1) := by decide +kernel
theorem dX9_fits_19 : decode cX9_fits 19 = .ok (.imul, 1) := by decide +kernel
theorem dX9_fits_20 : decode cX9_fits 20 = .ok (.iaload, 1) := by decide +kernel
theorem dX9_fits_21 : decode cX9_fits 21 = .ok (.iload_n 1, 1) := by decide +kernel
theorem dX9_fits_22 : decode cX9_fits 22 = .ok (.imul, 1) := by decide +kernel
theorem dX9_fits_23 : decode cX9_fits 23 = .ok (.aload_n 0, 1) := by decide +kernel
theorem dX9_fits_24 : decode cX9_fits 24 = .ok (.getfield 11, 3) := by decide +kernel
theorem dX9_fits_27 : decode cX9_fits 27 = .ok (.iload 5, 2) := by decide +kernel
theorem dX9_fits_29 : decode cX9_fits 29 = .ok (.iconst 3, 1) := by decide +kernel
theorem dX9_fits_30 : decode cX9_fits 30 = .ok (.imul, 1) := by decide +kernel
theorem dX9_fits_31 : decode cX9_fits 31 = .ok (.iconst 1, 1) := by decide +kernel
theorem dX9_fits_32 : decode cX9_fits 32 = .ok (.iadd, 1) := by decide +kernel
theorem dX9_fits_33 : decode cX9_fits 33 = .ok (.iaload, 1) := by decide +kernel
theorem dX9_fits_34 : decode cX9_fits 34 = .ok (.iload_n 2, 1) := by decide +kernel
theorem dX9_fits_35 : decode cX9_fits 35 = .ok (.imul, 1) := by decide +kernel
theorem dX9_fits_36 : decode cX9_fits 36 = .ok (.iadd, 1) := by decide +kernel
theorem dX9_fits_37 : decode cX9_fits 37 = .ok (.aload_n 0, 1) := by decide +kernel
theorem dX9_fits_38 : decode cX9_fits 38 = .ok (.getfield 11, 3) := by decide +kernel
theorem dX9_fits_41 : decode cX9_fits 41 = .ok (.iload 5, 2) := by decide +kernel
theorem dX9_fits_43 : decode cX9_fits 43 = .ok (.iconst 3, 1) := by decide +kernel
theorem dX9_fits_44 : decode cX9_fits 44 = .ok (.imul, 1) := by decide +kernel
theorem dX9_fits_45 : decode cX9_fits 45 = .ok (.iconst 2, 1) := by decide +kernel
theorem dX9_fits_46 : decode cX9_fits 46 = .ok (.iadd, 1) := by decide +kernel
theorem dX9_fits_47 : decode cX9_fits 47 = .ok (.iaload, 1) := by decide +kernel
theorem dX9_fits_48 : decode cX9_fits 48 = .ok (.iload_n 3, 1) := by decide +kernel
theorem dX9_fits_49 : decode cX9_fits 49 = .ok (.imul, 1) := by decide +kernel
theorem dX9_fits_50 : decode cX9_fits 50 = .ok (.iadd, 1) := by decide +kernel
theorem dX9_fits_51 : decode cX9_fits 51 = .ok (.istore 6, 2) := by decide +kernel
theorem dX9_fits_53 : decode cX9_fits 53 = .ok (.aload_n 0, 1) := by decide +kernel
theorem dX9_fits_54 : decode cX9_fits 54 = .ok (.iload 5, 2) := by decide +kernel
theorem dX9_fits_56 : decode cX9_fits 56 = .ok (.iload 4, 2) := by decide +kernel
theorem dX9_fits_58 : decode cX9_fits 58 = .ok (.invokevirtual 48, 3) := by decide +kernel
theorem dX9_fits_61 : decode cX9_fits 61 = .ok (.ifCond .eq 32, 3) := by decide +kernel
theorem dX9_fits_64 : decode cX9_fits 64 = .ok (.iload 6, 2) := by decide +kernel
theorem dX9_fits_66 : decode cX9_fits 66 = .ok (.aload_n 0, 1) := by decide +kernel
theorem dX9_fits_67 : decode cX9_fits 67 = .ok (.getfield 15, 3) := by decide +kernel
theorem dX9_fits_70 : decode cX9_fits 70 = .ok (.iload 5, 2) := by decide +kernel
theorem dX9_fits_72 : decode cX9_fits 72 = .ok (.iaload, 1) := by decide +kernel
theorem dX9_fits_73 : decode cX9_fits 73 = .ok (.if_icmp .lt 7, 3) := by decide +kernel
theorem dX9_fits_76 : decode cX9_fits 76 = .ok (.iconst 1, 1) := by decide +kernel
theorem dX9_fits_77 : decode cX9_fits 77 = .ok (.goto 4, 3) := by decide +kernel
theorem dX9_fits_80 : decode cX9_fits 80 = .ok (.iconst 0, 1) := by decide +kernel
theorem dX9_fits_81 : decode cX9_fits 81 = .ok (.aload_n 0, 1) := by decide +kernel
theorem dX9_fits_82 : decode cX9_fits 82 = .ok (.getfield 18, 3) := by decide +kernel
theorem dX9_fits_85 : decode cX9_fits 85 = .ok (.iload 5, 2) := by decide +kernel
theorem dX9_fits_87 : decode cX9_fits 87 = .ok (.baload, 1) := by decide +kernel
theorem dX9_fits_88 : decode cX9_fits 88 = .ok (.if_icmp .eq 5, 3) := by decide +kernel
theorem dX9_fits_91 : decode cX9_fits 91 = .ok (.iconst 0, 1) := by decide +kernel
theorem dX9_fits_92 : decode cX9_fits 92 = .ok (.ireturn, 1) := by decide +kernel
theorem dX9_fits_93 : decode cX9_fits 93 = .ok (.iinc 5 1, 3) := by decide +kernel
theorem dX9_fits_96 : decode cX9_fits 96 = .ok (.goto (-93), 3) := by decide +kernel
theorem dX9_fits_99 : decode cX9_fits 99 = .ok (.iconst 1, 1) := by decide +kernel
theorem dX9_fits_100 : decode cX9_fits 100 = .ok (.ireturn, 1) := by decide +kernel
set_option maxRecDepth 100000 in
theorem m_X6_placeLine (l : Launch) (D : va_G) (cT : Nat → ClassId) (T : Nat → Option Nat) (q : Nat → Int) (hT : tok T) (hqr : qokr q) (hp0 : q 5 ≤ 7) (a0 : Nat) (t0 : T a0 = some 2) : th_MetX l D cT T q yX6_placeLine cX6_placeLine 4 (some .boolean) (rmk 4 89) [.ref a0] (th_R T (some (.inl (0, 1)))) [2, 29, 46, 49, 51, 52, 53] := by
  refine th_startX (by decide) (Nat.le_of_ble_eq_true rfl) ?_
  have hq := hqr.1
  intro p e s m below meth c ls S hK hH hr hlocks hnm hl
  have hx := S.1
  have hb := S.2.1
  have hl : lv_has ls 4 [(0, .ref a0)] := hl
  have J89 : ∀ (H : Heap) (locs : List Loc) (ls : Array Slot), th_H D cT T (kd q) H → va_S (th_A T [2, 29, 46, 49, 51, 52, 53]) s.heap H locs → lv_has ls 4 [] → W p l e (rmk 4 89) s m [.ref a0].toArray below meth c H locs 0 0 (MQ below (th_QX D cT T q (th_R T (some (.inl (0, 1)))) [2, 29, 46, 49, 51, 52, 53]) [.ref a0].toArray s 0 0 (th_A T [2, 29, 46, 49, 51, 52, 53])) (F0 m 89 ls []) := by
    intro H locs ls hH hS hl
    refine lv_iconst (v := 0) hx hb dX6_placeLine_89 (by decide) ?_
    exact th_zretX S hK hH hS hr hlocks hqr rfl (iv_w (iv_c (by decide) : IV 0 0 0) (by decide)) (th_R.i (iv_w (iv_c (by decide) : IV 0 0 0) (by decide))) dX6_placeLine_90
  have J57 : ∀ (H : Heap) (locs : List Loc) (ls : Array Slot), th_H D cT T (kd q) H → va_S (th_A T [2, 29, 46, 49, 51, 52, 53]) s.heap H locs → lv_has ls 4 [] → W p l e (rmk 4 89) s m [.ref a0].toArray below meth c H locs 0 0 (MQ below (th_QX D cT T q (th_R T (some (.inl (0, 1)))) [2, 29, 46, 49, 51, 52, 53]) [.ref a0].toArray s 0 0 (th_A T [2, 29, 46, 49, 51, 52, 53])) (F0 m 57 ls []) := by
    intro H locs ls hH hS hl
    refine lv_iconst (v := 0) hx hb dX6_placeLine_57 (by decide) ?_
    exact th_zretX S hK hH hS hr hlocks hqr rfl (iv_w (iv_c (by decide) : IV 0 0 0) (by decide)) (th_R.i (iv_w (iv_c (by decide) : IV 0 0 0) (by decide))) dX6_placeLine_58
  have J33 : ∀ (H : Heap) (locs : List Loc) (ls : Array Slot), th_H D cT T (kd q) H → va_S (th_A T [2, 29, 46, 49, 51, 52, 53]) s.heap H locs → lv_has ls 4 [] → W p l e (rmk 4 89) s m [.ref a0].toArray below meth c H locs 0 0 (MQ below (th_QX D cT T q (th_R T (some (.inl (0, 1)))) [2, 29, 46, 49, 51, 52, 53]) [.ref a0].toArray s 0 0 (th_A T [2, 29, 46, 49, 51, 52, 53])) (F0 m 33 ls []) := by
    intro H locs ls hH hS hl
    refine lv_iconst (v := 0) hx hb dX6_placeLine_33 (by decide) ?_
    exact th_zretX S hK hH hS hr hlocks hqr rfl (iv_w (iv_c (by decide) : IV 0 0 0) (by decide)) (th_R.i (iv_w (iv_c (by decide) : IV 0 0 0) (by decide))) dX6_placeLine_34
  have J0 : ∀ (H : Heap) (locs : List Loc) (ls : Array Slot), th_H D cT T (kd q) H → va_S (th_A T [2, 29, 46, 49, 51, 52, 53]) s.heap H locs → lv_has ls 4 [(0, .ref a0)] → W p l e (rmk 4 89) s m [.ref a0].toArray below meth c H locs 0 0 (MQ below (th_QX D cT T q (th_R T (some (.inl (0, 1)))) [2, 29, 46, 49, 51, 52, 53]) [.ref a0].toArray s 0 0 (th_A T [2, 29, 46, 49, 51, 52, 53])) (F0 m 0 ls []) := by
    intro H locs ls hH hS hl
    refine lv_aload_n hx hb dX6_placeLine_0 rfl (lv_at hl 0 rfl) ?_
    refine th_get S hK hH inG6 t0 kd_2 rfl 1 (by decide) gm_340 rfl rfl dX6_placeLine_1 (fun v1 hv1 fv1 => ?_)
    obtain ⟨rf2, rfl, trf2⟩ := th_V.ref hv1
    refine th_get S hK hH inG4 trf2 kd_46 rfl 13 (by decide) gm_285 rfl rfl dX6_placeLine_4 (fun v3 hv3 fv3 => ?_)
    obtain ⟨x4, rfl, ix4⟩ := th_V.int hv3
    have kx4 : IV x4 (q 5) (q 5) := ix4
    have kx4a := kx4.1
    have kx4b := kx4.2
    have ix4 : IV x4 0 7 := iv_w ix4 ⟨(qok_5 hq).1, hp0⟩
    refine lv_istore_n (lv' := [(1, .int x4), (0, .ref a0)]) hx hb dX6_placeLine_7 rfl hl (by decide) rfl (fun ls hl => ?_)
    refine lv_aload_n hx hb dX6_placeLine_8 rfl (lv_at hl 1 rfl) ?_
    refine lv_aload_n hx hb dX6_placeLine_9 rfl (lv_at hl 1 rfl) ?_
    refine th_getK S hK fv1 inG6 rfl (by decide) gm_340 rfl dX6_placeLine_10 ?_
    refine th_get S hK hH inG4 trf2 kd_46 rfl 2 (by decide) gm_240 rfl rfl dX6_placeLine_13 (fun v6 hv6 fv6 => ?_)
    obtain ⟨rf7, rfl, trf7⟩ := th_V.ref hv6
    refine lv_iload_n hx hb dX6_placeLine_16 rfl (lv_at hl 0 rfl) ?_
    refine th_callVi (n := 2) (As := [.ref rf7, .int x4]) S hK hH hS (th_A.sub (by decide)) (m_X6_newName_v2 l D cT T q hq a0 t0 rf7 trf7 (x4) (iv_w ix4 (by decide))) gm_730 gm_727 gm_729 gm_8 gm_115 (by decide +kernel) ⟨rfl, rfl, Nat.le_of_ble_eq_true rfl, Nat.le_of_ble_eq_true rfl⟩ t0 kd_2 rfl rfl hl.1 rfl (Nat.le_of_ble_eq_true rfl) dX6_placeLine_17 ⟨Nat.zero_le _, Nat.zero_le _⟩ (fun x8 H locs ix8 hH hS hF1 => ?_)
    have f9 := fv3.kept (hF1 _ fv3.lt (th_off trf2 (by decide)))
    refine lv_if_eq (tgt := 33) hx hb dX6_placeLine_20 (by decide) (fun c10 => ?_) (fun c10 => ?_)
    · skip
      have ir11 : IV x8 0 0 := iv_eL c10 (iv_c (by decide) : IV 0 0 0)
      have ir11a := ir11.1
      have ir11b := ir11.2
      exact J33 H locs ls  hH hS (lv_sub hl [] rfl)
    · skip
      have ir12 : IV x8 1 1 := iv_cutL ix8 (iv_c (by decide) : IV 0 0 0) c10 (by decide)
      have ir12a := ir12.1
      have ir12b := ir12.2
      refine lv_aload_n hx hb dX6_placeLine_23 rfl (lv_at hl 1 rfl) ?_
      refine lv_sipush (v := 140) hx hb dX6_placeLine_24 (by decide) ?_
      refine th_callVi (n := 1) (As := [.int 140]) S hK hH hS (th_A.sub (by decide)) (m_X6_take l D cT T q hq a0 t0 (140) (iv_top _)) gm_750 gm_747 gm_749 gm_13 gm_115 (by decide +kernel) ⟨rfl, rfl, Nat.le_of_ble_eq_true rfl, Nat.le_of_ble_eq_true rfl⟩ t0 kd_2 rfl rfl hl.1 rfl (Nat.le_of_ble_eq_true rfl) dX6_placeLine_27 ⟨Nat.zero_le _, Nat.zero_le _⟩ (fun x13 H locs ix13 hH hS hF1 => ?_)
      have f14 := f9.kept (hF1 _ f9.lt (th_off trf2 (by decide)))
      refine lv_if_ne (tgt := 35) hx hb dX6_placeLine_30 (by decide) (fun c15 => ?_) (fun c15 => ?_)
      · skip
        have ir16 : IV x13 1 1 := iv_cutL ix13 (iv_c (by decide) : IV 0 0 0) c15 (by decide)
        have ir16a := ir16.1
        have ir16b := ir16.2
        refine lv_aload_n hx hb dX6_placeLine_35 rfl (lv_at hl 1 rfl) ?_
        refine lv_iconst (v := 1) hx hb dX6_placeLine_36 (by decide) ?_
        refine lv_bipush (v := 60) hx hb dX6_placeLine_37 (by decide) ?_
        refine th_callVi (n := 2) (As := [.int 1, .int 60]) S hK hH hS (th_A.sub (by decide)) (m_X6_number l D cT T q hq a0 t0 (1) (iv_top _) (60) (iv_top _)) gm_742 gm_739 gm_741 gm_11 gm_115 (by decide +kernel) ⟨rfl, rfl, Nat.le_of_ble_eq_true rfl, Nat.le_of_ble_eq_true rfl⟩ t0 kd_2 rfl rfl hl.1 rfl (Nat.le_of_ble_eq_true rfl) dX6_placeLine_39 ⟨Nat.zero_le _, Nat.zero_le _⟩ (fun x17 H locs ix17 hH hS hF1 => ?_)
        have f18 := f14.kept (hF1 _ f14.lt (th_off trf2 (by decide)))
        refine lv_istore_n (lv' := [(2, .int x17), (1, .int x4), (0, .ref a0)]) hx hb dX6_placeLine_42 rfl hl (by decide) rfl (fun ls hl => ?_)
        refine lv_iload_n hx hb dX6_placeLine_43 rfl (lv_at hl 0 rfl) ?_
        refine lv_if_lt (tgt := 57) hx hb dX6_placeLine_44 (by decide) (fun c19 => ?_) (fun c19 => ?_)
        · skip
          have ir20 : IV x17 (-2147483648) (-1) := iv_uL ix17 (iv_c (by decide) : IV 0 0 0) (iv_lt c19) (by decide)
          have ir20a := ir20.1
          have ir20b := ir20.2
          exact J57 H locs ls  hH hS (lv_sub hl [] rfl)
        · skip
          have ir21 : IV x17 0 2147483647 := iv_vR (iv_c (by decide) : IV 0 0 0) ix17 (iv_nlt c19) (by decide)
          have ir21a := ir21.1
          have ir21b := ir21.2
          refine lv_aload_n hx hb dX6_placeLine_47 rfl (lv_at hl 2 rfl) ?_
          refine lv_sipush (v := 141) hx hb dX6_placeLine_48 (by decide) ?_
          refine th_callVi (n := 1) (As := [.int 141]) S hK hH hS (th_A.sub (by decide)) (m_X6_take l D cT T q hq a0 t0 (141) (iv_top _)) gm_750 gm_747 gm_749 gm_13 gm_115 (by decide +kernel) ⟨rfl, rfl, Nat.le_of_ble_eq_true rfl, Nat.le_of_ble_eq_true rfl⟩ t0 kd_2 rfl rfl hl.1 rfl (Nat.le_of_ble_eq_true rfl) dX6_placeLine_51 ⟨Nat.zero_le _, Nat.zero_le _⟩ (fun x22 H locs ix22 hH hS hF1 => ?_)
          have f23 := f18.kept (hF1 _ f18.lt (th_off trf2 (by decide)))
          refine lv_if_ne (tgt := 59) hx hb dX6_placeLine_54 (by decide) (fun c24 => ?_) (fun c24 => ?_)
          · skip
            have ir25 : IV x22 1 1 := iv_cutL ix22 (iv_c (by decide) : IV 0 0 0) c24 (by decide)
            have ir25a := ir25.1
            have ir25b := ir25.2
            refine lv_aload_n hx hb dX6_placeLine_59 rfl (lv_at hl 2 rfl) ?_
            refine lv_iconst (v := 0) hx hb dX6_placeLine_60 (by decide) ?_
            refine lv_bipush (v := 9) hx hb dX6_placeLine_61 (by decide) ?_
            refine th_callVi (n := 2) (As := [.int 0, .int 9]) S hK hH hS (th_A.sub (by decide)) (m_X6_number l D cT T q hq a0 t0 (0) (iv_top _) (9) (iv_top _)) gm_742 gm_739 gm_741 gm_11 gm_115 (by decide +kernel) ⟨rfl, rfl, Nat.le_of_ble_eq_true rfl, Nat.le_of_ble_eq_true rfl⟩ t0 kd_2 rfl rfl hl.1 rfl (Nat.le_of_ble_eq_true rfl) dX6_placeLine_63 ⟨Nat.zero_le _, Nat.zero_le _⟩ (fun x26 H locs ix26 hH hS hF1 => ?_)
            have f27 := f23.kept (hF1 _ f23.lt (th_off trf2 (by decide)))
            refine lv_istore_n (lv' := [(3, .int x26), (2, .int x17), (1, .int x4), (0, .ref a0)]) hx hb dX6_placeLine_66 rfl hl (by decide) rfl (fun ls hl => ?_)
            refine lv_iload_n hx hb dX6_placeLine_67 rfl (lv_at hl 0 rfl) ?_
            refine lv_if_lt (tgt := 89) hx hb dX6_placeLine_68 (by decide) (fun c28 => ?_) (fun c28 => ?_)
            · skip
              have ir29 : IV x26 (-2147483648) (-1) := iv_uL ix26 (iv_c (by decide) : IV 0 0 0) (iv_lt c28) (by decide)
              have ir29a := ir29.1
              have ir29b := ir29.2
              exact J89 H locs ls  hH hS (lv_sub hl [] rfl)
            · skip
              have ir30 : IV x26 0 2147483647 := iv_vR (iv_c (by decide) : IV 0 0 0) ix26 (iv_nlt c28) (by decide)
              have ir30a := ir30.1
              have ir30b := ir30.2
              refine lv_aload_n hx hb dX6_placeLine_71 rfl (lv_at hl 3 rfl) ?_
              refine lv_sipush (v := 146) hx hb dX6_placeLine_72 (by decide) ?_
              refine th_callVi (n := 1) (As := [.int 146]) S hK hH hS (th_A.sub (by decide)) (m_X6_take l D cT T q hq a0 t0 (146) (iv_top _)) gm_750 gm_747 gm_749 gm_13 gm_115 (by decide +kernel) ⟨rfl, rfl, Nat.le_of_ble_eq_true rfl, Nat.le_of_ble_eq_true rfl⟩ t0 kd_2 rfl rfl hl.1 rfl (Nat.le_of_ble_eq_true rfl) dX6_placeLine_75 ⟨Nat.zero_le _, Nat.zero_le _⟩ (fun x31 H locs ix31 hH hS hF1 => ?_)
              have f32 := f27.kept (hF1 _ f27.lt (th_off trf2 (by decide)))
              refine lv_if_eq (tgt := 89) hx hb dX6_placeLine_78 (by decide) (fun c33 => ?_) (fun c33 => ?_)
              · skip
                have ir34 : IV x31 0 0 := iv_eL c33 (iv_c (by decide) : IV 0 0 0)
                have ir34a := ir34.1
                have ir34b := ir34.2
                exact J89 H locs ls  hH hS (lv_sub hl [] rfl)
              · skip
                have ir35 : IV x31 1 1 := iv_cutL ix31 (iv_c (by decide) : IV 0 0 0) c33 (by decide)
                have ir35a := ir35.1
                have ir35b := ir35.2
                refine lv_aload_n hx hb dX6_placeLine_81 rfl (lv_at hl 3 rfl) ?_
                refine lv_iload_n hx hb dX6_placeLine_82 rfl (lv_at hl 2 rfl) ?_
                refine th_callVi (n := 1) (As := [.int x4]) S hK hH hS (th_A.sub (by decide)) (m_X6_mapsOfPlace l D cT T q hq a0 t0 (x4) ix4) gm_785 gm_782 gm_784 gm_18 gm_115 (by decide +kernel) ⟨rfl, rfl, Nat.le_of_ble_eq_true rfl, Nat.le_of_ble_eq_true rfl⟩ t0 kd_2 rfl rfl hl.1 rfl (Nat.le_of_ble_eq_true rfl) dX6_placeLine_83 ⟨Nat.zero_le _, Nat.zero_le _⟩ (fun x36 H locs ix36 hH hS hF1 => ?_)
                have f37 := f32.kept (hF1 _ f32.lt (th_off trf2 (by decide)))
                refine lv_if_ne (tgt := 91) hx hb dX6_placeLine_86 (by decide) (fun c38 => ?_) (fun c38 => ?_)
                · skip
                  have ir39 : IV x36 1 1 := iv_cutL ix36 (iv_c (by decide) : IV 0 0 0) c38 (by decide)
                  have ir39a := ir39.1
                  have ir39b := ir39.2
                  refine lv_aload_n hx hb dX6_placeLine_91 rfl (lv_at hl 3 rfl) ?_
                  refine th_get S hK hH inG6 t0 kd_2 rfl 1 (by decide) gm_340 rfl rfl dX6_placeLine_92 (fun v40 hv40 fv40 => ?_)
                  obtain ⟨rf41, rfl, trf41⟩ := th_V.ref hv40
                  refine th_get S hK hH inG4 trf41 kd_46 rfl 10 (by decide) gm_272 rfl rfl dX6_placeLine_95 (fun v42 hv42 fv42 => ?_)
                  obtain ⟨rf43, rfl, trf43⟩ := th_V.ref hv42
                  refine th_get S hK hH inG7 trf43 kd_10 rfl 0 (by decide) gm_229 rfl rfl dX6_placeLine_98 (fun v44 hv44 fv44 => ?_)
                  obtain ⟨rf45, rfl, trf45⟩ := th_V.ref hv44
                  refine lv_bipush (v := 15) hx hb dX6_placeLine_101 (by decide) ?_
                  refine lv_iload_n hx hb dX6_placeLine_103 rfl (lv_at hl 2 rfl) ?_
                  refine lv_iadd hx hb dX6_placeLine_104 ?_
                  refine lv_topi (fun x46 ex46 => ?_)
                  have ix46 : IV x46 15 22 := by rw [ex46]; exact iv_add (iv_c (by decide) : IV 15 15 15) ix4 (by decide)
                  refine lv_iload_n hx hb dX6_placeLine_105 rfl (lv_at hl 1 rfl) ?_
                  refine th_iast S hK hH hS ⟨29, by decide, trf45⟩ trf45 kd_29 (th_in (hi := 22) (iv_w ix46 (by decide)) (by decide)) (th_iv (iv_top _)) dX6_placeLine_106 (fun H locs hH hS hq1 => ?_)
                  have f47 := f37.kept (hq1 _ (th_ne trf2 trf45 (by decide)))
                  have f48 := fv40.kept (hq1 _ (th_ne t0 trf45 (by decide)))
                  refine lv_aload_n hx hb dX6_placeLine_107 rfl (lv_at hl 3 rfl) ?_
                  refine th_getK S hK f48 inG6 rfl (by decide) gm_340 rfl dX6_placeLine_108 ?_
                  refine th_get S hK hH inG4 trf41 kd_46 rfl 4 (by decide) gm_247 rfl rfl dX6_placeLine_111 (fun v50 hv50 fv50 => ?_)
                  obtain ⟨rf51, rfl, trf51⟩ := th_V.ref hv50
                  refine lv_iload_n hx hb dX6_placeLine_114 rfl (lv_at hl 2 rfl) ?_
                  refine lv_iload_n hx hb dX6_placeLine_115 rfl (lv_at hl 0 rfl) ?_
                  refine th_iast S hK hH hS ⟨51, by decide, trf51⟩ trf51 kd_51 (th_in (hi := 7) ix4 (by decide)) (th_iv (iv_top _)) dX6_placeLine_116 (fun H locs hH hS hq1 => ?_)
                  have f52 := f47.kept (hq1 _ (th_ne trf2 trf51 (by decide)))
                  have f53 := f48.kept (hq1 _ (th_ne t0 trf51 (by decide)))
                  refine lv_aload_n hx hb dX6_placeLine_117 rfl (lv_at hl 3 rfl) ?_
                  refine th_getK S hK f53 inG6 rfl (by decide) gm_340 rfl dX6_placeLine_118 ?_
                  refine lv_dup hx hb dX6_placeLine_121 rfl ?_
                  refine th_get S hK hH inG4 trf41 kd_46 rfl 13 (by decide) gm_285 rfl rfl dX6_placeLine_122 (fun v55 hv55 fv55 => ?_)
                  obtain ⟨x56, rfl, ix56⟩ := th_V.int hv55
                  have kx56 : IV x56 (q 5) (q 5) := ix56
                  have kx56a := kx56.1
                  have kx56b := kx56.2
                  have ix56 : IV x56 0 7 := iv_w ix56 ⟨(qok_5 hq).1, hp0⟩
                  refine lv_iconst (v := 1) hx hb dX6_placeLine_125 (by decide) ?_
                  refine lv_iadd hx hb dX6_placeLine_126 ?_
                  refine lv_topi (fun x57 ex57 => ?_)
                  have ix57 : IV x57 1 8 := by rw [ex57]; exact iv_add ix56 (iv_c (by decide) : IV 1 1 1) (by decide)
                  have ux57 : x57.toInt = x56.toInt + 1 := by rw [ex57]; have z1 := (ix56).1; have z2 := (ix56).2; have z3 : (1 : Int32).toInt = 1 := rfl; have z4 := iv_addE (x := x56) (y := 1) (by omega); omega
                  obtain ⟨n58, en58⟩ : ∃ z : Int, z = Int32.toInt x57 := ⟨_, rfl⟩
                  have hzq59 : qok (qup q 5 n58) := qup_ok5 hq (iv_z en58 (iv_w ix57 (by decide)))
                  refine th_putX (Ks2 := kd (qup q 5 n58)) S hK hH hS ⟨46, by decide, trf41⟩ inG4 tyX4 tyX4_ok nmX4 trf41 (fun b hb => hT 46 (by decide) _ _ hb trf41) kd_46 kd_46 (kd_up5 _ _) rfl 13 (by decide) gm_285 rfl rfl rfl rfl (fun i hi => match i, hi with | 0, _ => rfl | 1, _ => rfl | 2, _ => rfl | 3, _ => rfl | 4, _ => rfl | 5, _ => rfl | 6, _ => rfl | 7, _ => rfl | 8, _ => rfl | 9, _ => rfl | 10, _ => rfl | 11, _ => rfl | 12, _ => rfl | 13, h => absurd rfl h | 14, _ => rfl | 15, _ => rfl | 16, _ => rfl | 17, _ => rfl | 18, _ => rfl | _ + 19, _ => rfl) (Nat.le_of_ble_eq_true rfl) (th_selfE en58) (ty := .int) (by decide +kernel) rfl rfl dX6_placeLine_127 (fun H locs hH hS hq1 => ?_)
                  have f60 := f53.kept (hq1 _ (th_ne t0 trf41 (by decide)))
                  refine lv_iconst (v := 1) hx hb dX6_placeLine_130 (by decide) ?_
                  exact th_zretX S hK hH hS hr hlocks ⟨hzq59, by have w1 := qok_1 hzq59; have w2 := qok_2 hzq59; have w3 := qok_1 hq; have w4 := qok_2 hq; have w5 := hqr.2; simp [qup] at w1 w2 ⊢; omega⟩ rfl (iv_w (iv_c (by decide) : IV 1 1 1) (by decide)) (th_R.i (iv_w (iv_c (by decide) : IV 1 1 1) (by decide))) dX6_placeLine_131
                · skip
                  have ir61 : IV x36 0 0 := iv_eL c38 (iv_c (by decide) : IV 0 0 0)
                  have ir61a := ir61.1
                  have ir61b := ir61.2
                  exact J89 H locs ls  hH hS (lv_sub hl [] rfl)
          · skip
            have ir62 : IV x22 0 0 := iv_eL c24 (iv_c (by decide) : IV 0 0 0)
            have ir62a := ir62.1
            have ir62b := ir62.2
            exact J57 H locs ls  hH hS (lv_sub hl [] rfl)
      · skip
        have ir63 : IV x13 0 0 := iv_eL c15 (iv_c (by decide) : IV 0 0 0)
        have ir63a := ir63.1
        have ir63b := ir63.2
        exact J33 H locs ls  hH hS (lv_sub hl [] rfl)
  exact J0 s.heap [] ls hH va_S.rf hl

set_option maxRecDepth 100000 in
theorem m_X6_likesLine (l : Launch) (D : va_G) (cT : Nat → ClassId) (T : Nat → Option Nat) (q : Nat → Int) (hq : qok q) (a0 : Nat) (t0 : T a0 = some 2) : th_Met l D cT T (kd q) yX6_likesLine cX6_likesLine 5 (some .boolean) (rmk 3 66) [.ref a0] (th_R T (some (.inl (0, 1)))) [2, 46, 55] := by
  refine th_start (by decide) (Nat.le_of_ble_eq_true rfl) ?_
  intro p e s m below meth c ls S hK hH hr hlocks hnm hl
  have hx := S.1
  have hb := S.2.1
  have hl : lv_has ls 5 [(0, .ref a0)] := hl
  have J0 : ∀ (H : Heap) (locs : List Loc) (ls : Array Slot), th_H D cT T (kd q) H → va_S (th_A T [2, 46, 55]) s.heap H locs → lv_has ls 5 [(0, .ref a0)] → W p l e (rmk 3 66) s m [.ref a0].toArray below meth c H locs 0 0 (MQ below (th_Q D cT T (kd q) (th_R T (some (.inl (0, 1)))) [2, 46, 55]) [.ref a0].toArray s 0 0 (th_A T [2, 46, 55])) (F0 m 0 ls []) := by
    intro H locs ls hH hS hl
    refine lv_aload_n hx hb dX6_likesLine_0 rfl (lv_at hl 0 rfl) ?_
    refine lv_aload_n hx hb dX6_likesLine_1 rfl (lv_at hl 0 rfl) ?_
    refine th_get S hK hH inG6 t0 kd_2 rfl 1 (by decide) gm_340 rfl rfl dX6_likesLine_2 (fun v1 hv1 fv1 => ?_)
    obtain ⟨rf2, rfl, trf2⟩ := th_V.ref hv1
    refine th_get S hK hH inG4 trf2 kd_46 rfl 1 (by decide) gm_238 rfl rfl dX6_likesLine_5 (fun v3 hv3 fv3 => ?_)
    obtain ⟨rf4, rfl, trf4⟩ := th_V.ref hv3
    refine lv_aload_n hx hb dX6_likesLine_8 rfl (lv_at hl 0 rfl) ?_
    refine th_getK S hK fv1 inG6 rfl (by decide) gm_340 rfl dX6_likesLine_9 ?_
    refine th_get S hK hH inG4 trf2 kd_46 rfl 12 (by decide) gm_280 rfl rfl dX6_likesLine_12 (fun v6 hv6 fv6 => ?_)
    obtain ⟨x7, rfl, ix7⟩ := th_V.int hv6
    have ix7 : IV x7 0 4 := iv_w ix7 (qok_4 hq)
    refine th_callVi (n := 2) (As := [.ref rf4, .int x7]) S hK hH hS (th_A.sub (by decide)) (m_X6_knownName_v1 l D cT T q hq a0 t0 rf4 trf4 (x7) (iv_top _)) gm_789 gm_786 gm_788 gm_19 gm_115 (by decide +kernel) ⟨rfl, rfl, Nat.le_of_ble_eq_true rfl, Nat.le_of_ble_eq_true rfl⟩ t0 kd_2 rfl rfl hl.1 rfl (Nat.le_of_ble_eq_true rfl) dX6_likesLine_15 ⟨Nat.zero_le _, Nat.zero_le _⟩ (fun x8 H locs ix8 hH hS hF1 => ?_)
    refine lv_istore_n (lv' := [(1, .int x8), (0, .ref a0)]) hx hb dX6_likesLine_18 rfl hl (by decide) rfl (fun ls hl => ?_)
    refine lv_iload_n hx hb dX6_likesLine_19 rfl (lv_at hl 0 rfl) ?_
    refine lv_if_ge (tgt := 25) hx hb dX6_likesLine_20 (by decide) (fun c9 => ?_) (fun c9 => ?_)
    · skip
      have ir10 : IV x8 0 3 := iv_vR (iv_c (by decide) : IV 0 0 0) ix8 (iv_le c9) (by decide)
      refine lv_aload_n hx hb dX6_likesLine_25 rfl (lv_at hl 1 rfl) ?_
      refine lv_dup hx hb dX6_likesLine_26 rfl ?_
      refine th_get S hK hH inG6 t0 kd_2 rfl 2 (by decide) gm_342 rfl rfl dX6_likesLine_27 (fun v11 hv11 fv11 => ?_)
      obtain ⟨x12, rfl, ix12⟩ := th_V.int hv11
      refine lv_iconst (v := 1) hx hb dX6_likesLine_30 (by decide) ?_
      refine lv_iadd hx hb dX6_likesLine_31 ?_
      refine lv_topi (fun x13 ex13 => ?_)
      have ix13 := iv_top x13
      refine th_put S hK hH hS ⟨2, by decide, t0⟩ inG6 tyX6 tyX6_ok nmX6 t0 kd_2 rfl 2 (by decide) gm_342 rfl rfl rfl rfl (th_iv ix13) (fun _ _ => trivial) (ty := .int) (by decide +kernel) rfl rfl dX6_likesLine_32 (fun H locs hH hS hq1 hp1 => ?_)
      have f14 := hp1.1
      refine lv_aload_n hx hb dX6_likesLine_35 rfl (lv_at hl 1 rfl) ?_
      refine lv_aload_n hx hb dX6_likesLine_36 rfl (lv_at hl 1 rfl) ?_
      refine th_get S hK hH inG6 t0 kd_2 rfl 1 (by decide) gm_340 rfl rfl dX6_likesLine_37 (fun v15 hv15 fv15 => ?_)
      obtain ⟨rf16, rfl, trf16⟩ := th_V.ref hv15
      refine th_get S hK hH inG4 trf16 kd_46 rfl 0 (by decide) gm_236 rfl rfl dX6_likesLine_40 (fun v17 hv17 fv17 => ?_)
      obtain ⟨rf18, rfl, trf18⟩ := th_V.ref hv17
      refine lv_aload_n hx hb dX6_likesLine_43 rfl (lv_at hl 1 rfl) ?_
      refine th_getK S hK fv15 inG6 rfl (by decide) gm_340 rfl dX6_likesLine_44 ?_
      refine th_get S hK hH inG4 trf16 kd_46 rfl 11 (by decide) gm_275 rfl rfl dX6_likesLine_47 (fun v20 hv20 fv20 => ?_)
      obtain ⟨x21, rfl, ix21⟩ := th_V.int hv20
      have ix21 : IV x21 0 3 := iv_w ix21 (qok_3 hq)
      refine th_callVi (n := 2) (As := [.ref rf18, .int x21]) S hK hH hS (th_A.sub (by decide)) (m_X6_knownName_v0 l D cT T q hq a0 t0 rf18 trf18 (x21) (iv_top _)) gm_789 gm_786 gm_788 gm_19 gm_115 (by decide +kernel) ⟨rfl, rfl, Nat.le_of_ble_eq_true rfl, Nat.le_of_ble_eq_true rfl⟩ t0 kd_2 rfl rfl hl.1 rfl (Nat.le_of_ble_eq_true rfl) dX6_likesLine_50 ⟨Nat.zero_le _, Nat.zero_le _⟩ (fun x22 H locs ix22 hH hS hF1 => ?_)
      refine lv_istore_n (lv' := [(2, .int x22), (1, .int x8), (0, .ref a0)]) hx hb dX6_likesLine_53 rfl hl (by decide) rfl (fun ls hl => ?_)
      refine lv_iload_n hx hb dX6_likesLine_54 rfl (lv_at hl 0 rfl) ?_
      refine lv_if_ge (tgt := 60) hx hb dX6_likesLine_55 (by decide) (fun c23 => ?_) (fun c23 => ?_)
      · skip
        have ir24 : IV x22 0 2 := iv_vR (iv_c (by decide) : IV 0 0 0) ix22 (iv_le c23) (by decide)
        refine lv_iload_n hx hb dX6_likesLine_60 rfl (lv_at hl 1 rfl) ?_
        refine lv_iconst (v := 3) hx hb dX6_likesLine_61 (by decide) ?_
        refine lv_imul hx hb dX6_likesLine_62 ?_
        refine lv_topi (fun x25 ex25 => ?_)
        have ix25 : IV x25 0 9 := by rw [ex25]; exact iv_mul ir10 (iv_c (by decide) : IV 3 3 3) (by decide) (by decide)
        refine lv_iload_n hx hb dX6_likesLine_63 rfl (lv_at hl 0 rfl) ?_
        refine lv_iadd hx hb dX6_likesLine_64 ?_
        refine lv_topi (fun x26 ex26 => ?_)
        have ix26 : IV x26 0 11 := by rw [ex26]; exact iv_add ix25 ir24 (by decide)
        refine lv_istore_n (lv' := [(3, .int x26), (2, .int x22), (1, .int x8), (0, .ref a0)]) hx hb dX6_likesLine_65 rfl hl (by decide) rfl (fun ls hl => ?_)
        refine lv_aload_n hx hb dX6_likesLine_66 rfl (lv_at hl 3 rfl) ?_
        refine th_get S hK hH inG6 t0 kd_2 rfl 1 (by decide) gm_340 rfl rfl dX6_likesLine_67 (fun v27 hv27 fv27 => ?_)
        obtain ⟨rf28, rfl, trf28⟩ := th_V.ref hv27
        refine th_get S hK hH inG4 trf28 kd_46 rfl 15 (by decide) gm_292 rfl rfl dX6_likesLine_70 (fun v29 hv29 fv29 => ?_)
        obtain ⟨x30, rfl, ix30⟩ := th_V.int hv29
        refine lv_iload_n hx hb dX6_likesLine_73 rfl (lv_at hl 0 rfl) ?_
        refine lv_ishr hx hb dX6_likesLine_74 ?_
        refine lv_topi (fun x31 ex31 => ?_)
        have ix31 := iv_top x31
        refine lv_iconst (v := 1) hx hb dX6_likesLine_75 (by decide) ?_
        refine lv_iand hx hb dX6_likesLine_76 ?_
        refine lv_topi (fun x32 ex32 => ?_)
        have ix32 : IV x32 0 1 := by rw [ex32]; exact iv_and (h2 := 1) (iv_w (iv_c (by decide) : IV 1 1 1) (by decide)) (by decide)
        refine lv_if_eq (tgt := 86) hx hb dX6_likesLine_77 (by decide) (fun c33 => ?_) (fun c33 => ?_)
        · skip
          have ir34 : IV x32 0 0 := iv_eL c33 (iv_c (by decide) : IV 0 0 0)
          refine lv_aload_n hx hb dX6_likesLine_86 rfl (lv_at hl 3 rfl) ?_
          refine lv_dup hx hb dX6_likesLine_87 rfl ?_
          refine th_get S hK hH inG6 t0 kd_2 rfl 2 (by decide) gm_342 rfl rfl dX6_likesLine_88 (fun v35 hv35 fv35 => ?_)
          obtain ⟨x36, rfl, ix36⟩ := th_V.int hv35
          refine lv_iconst (v := 1) hx hb dX6_likesLine_91 (by decide) ?_
          refine lv_iadd hx hb dX6_likesLine_92 ?_
          refine lv_topi (fun x37 ex37 => ?_)
          have ix37 := iv_top x37
          refine th_put S hK hH hS ⟨2, by decide, t0⟩ inG6 tyX6 tyX6_ok nmX6 t0 kd_2 rfl 2 (by decide) gm_342 rfl rfl rfl rfl (th_iv ix37) (fun _ _ => trivial) (ty := .int) (by decide +kernel) rfl rfl dX6_likesLine_93 (fun H locs hH hS hq1 hp1 => ?_)
          have f38 := hp1.2 1 _ (by decide) (by decide) fv27
          have f39 := fv29.kept (hq1 _ (th_ne trf28 t0 (by decide)))
          have f40 := hp1.1
          refine lv_aload_n hx hb dX6_likesLine_96 rfl (lv_at hl 3 rfl) ?_
          refine lv_iconst (v := 0) hx hb dX6_likesLine_97 (by decide) ?_
          refine lv_bipush (v := 9) hx hb dX6_likesLine_98 (by decide) ?_
          refine th_callVi (n := 2) (As := [.int 0, .int 9]) S hK hH hS (th_A.sub (by decide)) (m_X6_number l D cT T q hq a0 t0 (0) (iv_top _) (9) (iv_top _)) gm_742 gm_739 gm_741 gm_11 gm_115 (by decide +kernel) ⟨rfl, rfl, Nat.le_of_ble_eq_true rfl, Nat.le_of_ble_eq_true rfl⟩ t0 kd_2 rfl rfl hl.1 rfl (Nat.le_of_ble_eq_true rfl) dX6_likesLine_100 ⟨Nat.zero_le _, Nat.zero_le _⟩ (fun x41 H locs ix41 hH hS hF1 => ?_)
          have f42 := f39.kept (hF1 _ f39.lt (th_off trf28 (by decide)))
          refine lv_istore (lv' := [(4, .int x41), (3, .int x26), (2, .int x22), (1, .int x8), (0, .ref a0)]) hx hb dX6_likesLine_103 hl (by decide) rfl (fun ls hl => ?_)
          refine lv_iload hx hb dX6_likesLine_105 (lv_at hl 0 rfl) ?_
          refine lv_if_ge (tgt := 112) hx hb dX6_likesLine_107 (by decide) (fun c43 => ?_) (fun c43 => ?_)
          · skip
            have ir44 : IV x41 0 2147483647 := iv_vR (iv_c (by decide) : IV 0 0 0) ix41 (iv_le c43) (by decide)
            refine lv_aload_n hx hb dX6_likesLine_112 rfl (lv_at hl 4 rfl) ?_
            refine th_get S hK hH inG6 t0 kd_2 rfl 1 (by decide) gm_340 rfl rfl dX6_likesLine_113 (fun v45 hv45 fv45 => ?_)
            obtain ⟨rf46, rfl, trf46⟩ := th_V.ref hv45
            refine lv_dup hx hb dX6_likesLine_116 rfl ?_
            refine th_get S hK hH inG4 trf46 kd_46 rfl 15 (by decide) gm_292 rfl rfl dX6_likesLine_117 (fun v47 hv47 fv47 => ?_)
            obtain ⟨x48, rfl, ix48⟩ := th_V.int hv47
            refine lv_iconst (v := 1) hx hb dX6_likesLine_120 (by decide) ?_
            refine lv_iload_n hx hb dX6_likesLine_121 rfl (lv_at hl 1 rfl) ?_
            refine lv_ishl hx hb dX6_likesLine_122 ?_
            refine lv_topi (fun x49 ex49 => ?_)
            have ix49 := iv_top x49
            refine lv_ior hx hb dX6_likesLine_123 ?_
            refine lv_topi (fun x50 ex50 => ?_)
            have ix50 := iv_top x50
            refine th_put S hK hH hS ⟨46, by decide, trf46⟩ inG4 tyX4 tyX4_ok nmX4 trf46 kd_46 rfl 15 (by decide) gm_292 rfl rfl rfl rfl (th_iv ix50) (fun _ _ => trivial) (ty := .int) (by decide +kernel) rfl rfl dX6_likesLine_124 (fun H locs hH hS hq1 hp1 => ?_)
            have f51 := fv45.kept (hq1 _ (th_ne t0 trf46 (by decide)))
            have f52 := hp1.1
            refine lv_aload_n hx hb dX6_likesLine_127 rfl (lv_at hl 4 rfl) ?_
            refine th_getK S hK f51 inG6 rfl (by decide) gm_340 rfl dX6_likesLine_128 ?_
            refine th_get S hK hH inG4 trf46 kd_46 rfl 8 (by decide) gm_265 rfl rfl dX6_likesLine_131 (fun v54 hv54 fv54 => ?_)
            obtain ⟨rf55, rfl, trf55⟩ := th_V.ref hv54
            refine lv_iload_n hx hb dX6_likesLine_134 rfl (lv_at hl 1 rfl) ?_
            refine lv_iload hx hb dX6_likesLine_135 (lv_at hl 0 rfl) ?_
            refine th_iast S hK hH hS ⟨55, by decide, trf55⟩ trf55 kd_55 (th_in (hi := 11) ix26 (by decide)) (th_iv (iv_top _)) dX6_likesLine_137 (fun H locs hH hS hq1 => ?_)
            have f56 := f51.kept (hq1 _ (th_ne t0 trf55 (by decide)))
            have f57 := f52.kept (hq1 _ (th_ne trf46 trf55 (by decide)))
            refine lv_iconst (v := 1) hx hb dX6_likesLine_138 (by decide) ?_
            exact th_zret S hK hH hS hr hlocks (iv_w (iv_c (by decide) : IV 1 1 1) (by decide)) (th_R.i (iv_w (iv_c (by decide) : IV 1 1 1) (by decide))) dX6_likesLine_139
          · skip
            have ir58 : IV x41 (-2147483648) (-1) := iv_uL ix41 (iv_c (by decide) : IV 0 0 0) (iv_nle c43) (by decide)
            refine lv_iconst (v := 0) hx hb dX6_likesLine_110 (by decide) ?_
            exact th_zret S hK hH hS hr hlocks (iv_w (iv_c (by decide) : IV 0 0 0) (by decide)) (th_R.i (iv_w (iv_c (by decide) : IV 0 0 0) (by decide))) dX6_likesLine_111
        · skip
          have ir59 : IV x32 1 1 := iv_cutL ix32 (iv_c (by decide) : IV 0 0 0) c33 (by decide)
          refine lv_aload_n hx hb dX6_likesLine_80 rfl (lv_at hl 3 rfl) ?_
          refine lv_iconst (v := 3) hx hb dX6_likesLine_81 (by decide) ?_
          refine th_callVi (n := 1) (As := [.int 3]) S hK hH hS (th_A.sub (by decide)) (m_X6_blame l D cT T q hq a0 t0 (3) (iv_top _)) gm_722 gm_719 gm_721 gm_6 gm_115 (by decide +kernel) ⟨rfl, rfl, Nat.le_of_ble_eq_true rfl, Nat.le_of_ble_eq_true rfl⟩ t0 kd_2 rfl rfl hl.1 rfl (Nat.le_of_ble_eq_true rfl) dX6_likesLine_82 ⟨Nat.zero_le _, Nat.zero_le _⟩ (fun x60 H locs ix60 hH hS hF1 => ?_)
          have f61 := fv29.kept (hF1 _ fv29.lt (th_off trf28 (by decide)))
          exact th_zret S hK hH hS hr hlocks (iv_w ix60 (by decide)) (th_R.i (iv_w ix60 (by decide))) dX6_likesLine_85
      · skip
        have ir62 : IV x22 (-1) (-1) := iv_uL ix22 (iv_c (by decide) : IV 0 0 0) (iv_nle c23) (by decide)
        refine lv_iconst (v := 0) hx hb dX6_likesLine_58 (by decide) ?_
        exact th_zret S hK hH hS hr hlocks (iv_w (iv_c (by decide) : IV 0 0 0) (by decide)) (th_R.i (iv_w (iv_c (by decide) : IV 0 0 0) (by decide))) dX6_likesLine_59
    · skip
      have ir63 : IV x8 (-1) (-1) := iv_uL ix8 (iv_c (by decide) : IV 0 0 0) (iv_nle c9) (by decide)
      refine lv_iconst (v := 0) hx hb dX6_likesLine_23 (by decide) ?_
      exact th_zret S hK hH hS hr hlocks (iv_w (iv_c (by decide) : IV 0 0 0) (by decide)) (th_R.i (iv_w (iv_c (by decide) : IV 0 0 0) (by decide))) dX6_likesLine_24
  exact J0 s.heap [] ls hH va_S.rf hl

set_option maxRecDepth 100000 in
theorem m_X6_borderLine (l : Launch) (D : va_G) (cT : Nat → ClassId) (T : Nat → Option Nat) (q : Nat → Int) (hq : qok q) (a0 : Nat) (t0 : T a0 = some 2) : th_Met l D cT T (kd q) yX6_borderLine cX6_borderLine 3 (some .boolean) (rmk 3 66) [.ref a0] (th_R T (some (.inl (0, 1)))) [2, 46, 54] := by
  refine th_start (by decide) (Nat.le_of_ble_eq_true rfl) ?_
  intro p e s m below meth c ls S hK hH hr hlocks hnm hl
  have hx := S.1
  have hb := S.2.1
  have hl : lv_has ls 3 [(0, .ref a0)] := hl
  have J81 : ∀ (H : Heap) (locs : List Loc) (ls : Array Slot), th_H D cT T (kd q) H → va_S (th_A T [2, 46, 54]) s.heap H locs → lv_has ls 3 [(0, .ref a0)] → W p l e (rmk 3 66) s m [.ref a0].toArray below meth c H locs 0 0 (MQ below (th_Q D cT T (kd q) (th_R T (some (.inl (0, 1)))) [2, 46, 54]) [.ref a0].toArray s 0 0 (th_A T [2, 46, 54])) (F0 m 81 ls []) := by
    intro H locs ls hH hS hl
    refine lv_aload_n hx hb dX6_borderLine_81 rfl (lv_at hl 0 rfl) ?_
    refine lv_iconst (v := 3) hx hb dX6_borderLine_82 (by decide) ?_
    refine th_callVi (n := 1) (As := [.int 3]) S hK hH hS (th_A.sub (by decide)) (m_X6_blame l D cT T q hq a0 t0 (3) (iv_top _)) gm_722 gm_719 gm_721 gm_6 gm_115 (by decide +kernel) ⟨rfl, rfl, Nat.le_of_ble_eq_true rfl, Nat.le_of_ble_eq_true rfl⟩ t0 kd_2 rfl rfl hl.1 rfl (Nat.le_of_ble_eq_true rfl) dX6_borderLine_83 ⟨Nat.zero_le _, Nat.zero_le _⟩ (fun x1 H locs ix1 hH hS hF1 => ?_)
    exact th_zret S hK hH hS hr hlocks (iv_w ix1 (by decide)) (th_R.i (iv_w ix1 (by decide))) dX6_borderLine_86
  have J0 : ∀ (H : Heap) (locs : List Loc) (ls : Array Slot), th_H D cT T (kd q) H → va_S (th_A T [2, 46, 54]) s.heap H locs → lv_has ls 3 [(0, .ref a0)] → W p l e (rmk 3 66) s m [.ref a0].toArray below meth c H locs 0 0 (MQ below (th_Q D cT T (kd q) (th_R T (some (.inl (0, 1)))) [2, 46, 54]) [.ref a0].toArray s 0 0 (th_A T [2, 46, 54])) (F0 m 0 ls []) := by
    intro H locs ls hH hS hl
    refine lv_aload_n hx hb dX6_borderLine_0 rfl (lv_at hl 0 rfl) ?_
    refine lv_aload_n hx hb dX6_borderLine_1 rfl (lv_at hl 0 rfl) ?_
    refine th_get S hK hH inG6 t0 kd_2 rfl 1 (by decide) gm_340 rfl rfl dX6_borderLine_2 (fun v2 hv2 fv2 => ?_)
    obtain ⟨rf3, rfl, trf3⟩ := th_V.ref hv2
    refine th_get S hK hH inG4 trf3 kd_46 rfl 1 (by decide) gm_238 rfl rfl dX6_borderLine_5 (fun v4 hv4 fv4 => ?_)
    obtain ⟨rf5, rfl, trf5⟩ := th_V.ref hv4
    refine lv_aload_n hx hb dX6_borderLine_8 rfl (lv_at hl 0 rfl) ?_
    refine th_getK S hK fv2 inG6 rfl (by decide) gm_340 rfl dX6_borderLine_9 ?_
    refine th_get S hK hH inG4 trf3 kd_46 rfl 12 (by decide) gm_280 rfl rfl dX6_borderLine_12 (fun v7 hv7 fv7 => ?_)
    obtain ⟨x8, rfl, ix8⟩ := th_V.int hv7
    have ix8 : IV x8 0 4 := iv_w ix8 (qok_4 hq)
    refine th_callVi (n := 2) (As := [.ref rf5, .int x8]) S hK hH hS (th_A.sub (by decide)) (m_X6_knownName_v1 l D cT T q hq a0 t0 rf5 trf5 (x8) (iv_top _)) gm_789 gm_786 gm_788 gm_19 gm_115 (by decide +kernel) ⟨rfl, rfl, Nat.le_of_ble_eq_true rfl, Nat.le_of_ble_eq_true rfl⟩ t0 kd_2 rfl rfl hl.1 rfl (Nat.le_of_ble_eq_true rfl) dX6_borderLine_15 ⟨Nat.zero_le _, Nat.zero_le _⟩ (fun x9 H locs ix9 hH hS hF1 => ?_)
    have f10 := fv4.kept (hF1 _ fv4.lt (th_off trf3 (by decide)))
    have f11 := fv7.kept (hF1 _ fv7.lt (th_off trf3 (by decide)))
    refine lv_istore_n (lv' := [(1, .int x9), (0, .ref a0)]) hx hb dX6_borderLine_18 rfl hl (by decide) rfl (fun ls hl => ?_)
    refine lv_iload_n hx hb dX6_borderLine_19 rfl (lv_at hl 0 rfl) ?_
    refine lv_if_ge (tgt := 25) hx hb dX6_borderLine_20 (by decide) (fun c12 => ?_) (fun c12 => ?_)
    · skip
      have ir13 : IV x9 0 3 := iv_vR (iv_c (by decide) : IV 0 0 0) ix9 (iv_le c12) (by decide)
      refine lv_aload_n hx hb dX6_borderLine_25 rfl (lv_at hl 1 rfl) ?_
      refine lv_dup hx hb dX6_borderLine_26 rfl ?_
      refine th_get S hK hH inG6 t0 kd_2 rfl 2 (by decide) gm_342 rfl rfl dX6_borderLine_27 (fun v14 hv14 fv14 => ?_)
      obtain ⟨x15, rfl, ix15⟩ := th_V.int hv14
      refine lv_iconst (v := 1) hx hb dX6_borderLine_30 (by decide) ?_
      refine lv_iadd hx hb dX6_borderLine_31 ?_
      refine lv_topi (fun x16 ex16 => ?_)
      have ix16 := iv_top x16
      refine th_put S hK hH hS ⟨2, by decide, t0⟩ inG6 tyX6 tyX6_ok nmX6 t0 kd_2 rfl 2 (by decide) gm_342 rfl rfl rfl rfl (th_iv ix16) (fun _ _ => trivial) (ty := .int) (by decide +kernel) rfl rfl dX6_borderLine_32 (fun H locs hH hS hq1 hp1 => ?_)
      have f17 := f10.kept (hq1 _ (th_ne trf3 t0 (by decide)))
      have f18 := f11.kept (hq1 _ (th_ne trf3 t0 (by decide)))
      have f19 := hp1.1
      refine lv_aload_n hx hb dX6_borderLine_35 rfl (lv_at hl 1 rfl) ?_
      refine lv_aload_n hx hb dX6_borderLine_36 rfl (lv_at hl 1 rfl) ?_
      refine th_get S hK hH inG6 t0 kd_2 rfl 1 (by decide) gm_340 rfl rfl dX6_borderLine_37 (fun v20 hv20 fv20 => ?_)
      obtain ⟨rf21, rfl, trf21⟩ := th_V.ref hv20
      refine th_get S hK hH inG4 trf21 kd_46 rfl 1 (by decide) gm_238 rfl rfl dX6_borderLine_40 (fun v22 hv22 fv22 => ?_)
      obtain ⟨rf23, rfl, trf23⟩ := th_V.ref hv22
      refine lv_aload_n hx hb dX6_borderLine_43 rfl (lv_at hl 1 rfl) ?_
      refine th_getK S hK fv20 inG6 rfl (by decide) gm_340 rfl dX6_borderLine_44 ?_
      refine th_get S hK hH inG4 trf21 kd_46 rfl 12 (by decide) gm_280 rfl rfl dX6_borderLine_47 (fun v25 hv25 fv25 => ?_)
      obtain ⟨x26, rfl, ix26⟩ := th_V.int hv25
      have ix26 : IV x26 0 4 := iv_w ix26 (qok_4 hq)
      refine th_callVi (n := 2) (As := [.ref rf23, .int x26]) S hK hH hS (th_A.sub (by decide)) (m_X6_knownName_v1 l D cT T q hq a0 t0 rf23 trf23 (x26) (iv_top _)) gm_789 gm_786 gm_788 gm_19 gm_115 (by decide +kernel) ⟨rfl, rfl, Nat.le_of_ble_eq_true rfl, Nat.le_of_ble_eq_true rfl⟩ t0 kd_2 rfl rfl hl.1 rfl (Nat.le_of_ble_eq_true rfl) dX6_borderLine_50 ⟨Nat.zero_le _, Nat.zero_le _⟩ (fun x27 H locs ix27 hH hS hF1 => ?_)
      have f28 := f17.kept (hF1 _ f17.lt (th_off trf3 (by decide)))
      have f29 := f18.kept (hF1 _ f18.lt (th_off trf3 (by decide)))
      have f30 := fv22.kept (hF1 _ fv22.lt (th_off trf21 (by decide)))
      have f31 := fv25.kept (hF1 _ fv25.lt (th_off trf21 (by decide)))
      refine lv_istore_n (lv' := [(2, .int x27), (1, .int x9), (0, .ref a0)]) hx hb dX6_borderLine_53 rfl hl (by decide) rfl (fun ls hl => ?_)
      refine lv_iload_n hx hb dX6_borderLine_54 rfl (lv_at hl 0 rfl) ?_
      refine lv_if_ge (tgt := 60) hx hb dX6_borderLine_55 (by decide) (fun c32 => ?_) (fun c32 => ?_)
      · skip
        have ir33 : IV x27 0 3 := iv_vR (iv_c (by decide) : IV 0 0 0) ix27 (iv_le c32) (by decide)
        refine lv_iload_n hx hb dX6_borderLine_60 rfl (lv_at hl 1 rfl) ?_
        refine lv_iload_n hx hb dX6_borderLine_61 rfl (lv_at hl 0 rfl) ?_
        refine lv_icmp_eq (tgt := 81) hx hb dX6_borderLine_62 (by decide) (fun c34 => ?_) (fun c34 => ?_)
        · skip
          exact J81 H locs ls  hH hS (lv_sub hl [2] rfl)
        · skip
          refine lv_aload_n hx hb dX6_borderLine_65 rfl (lv_at hl 2 rfl) ?_
          refine th_get S hK hH inG6 t0 kd_2 rfl 1 (by decide) gm_340 rfl rfl dX6_borderLine_66 (fun v35 hv35 fv35 => ?_)
          obtain ⟨rf36, rfl, trf36⟩ := th_V.ref hv35
          refine th_get S hK hH inG4 trf36 kd_46 rfl 7 (by decide) gm_260 rfl rfl dX6_borderLine_69 (fun v37 hv37 fv37 => ?_)
          obtain ⟨rf38, rfl, trf38⟩ := th_V.ref hv37
          refine lv_iload_n hx hb dX6_borderLine_72 rfl (lv_at hl 1 rfl) ?_
          refine th_iald S hK hH trf38 kd_54 (th_in (hi := 3) ir13 (by decide)) dX6_borderLine_73 (fun v39 hv39 => ?_)
          obtain ⟨x40, rfl, ix40⟩ := th_V.int hv39
          refine lv_iload_n hx hb dX6_borderLine_74 rfl (lv_at hl 0 rfl) ?_
          refine lv_ishr hx hb dX6_borderLine_75 ?_
          refine lv_topi (fun x41 ex41 => ?_)
          have ix41 := iv_top x41
          refine lv_iconst (v := 1) hx hb dX6_borderLine_76 (by decide) ?_
          refine lv_iand hx hb dX6_borderLine_77 ?_
          refine lv_topi (fun x42 ex42 => ?_)
          have ix42 : IV x42 0 1 := by rw [ex42]; exact iv_and (h2 := 1) (iv_w (iv_c (by decide) : IV 1 1 1) (by decide)) (by decide)
          refine lv_if_eq (tgt := 87) hx hb dX6_borderLine_78 (by decide) (fun c43 => ?_) (fun c43 => ?_)
          · skip
            have ir44 : IV x42 0 0 := iv_eL c43 (iv_c (by decide) : IV 0 0 0)
            refine lv_aload_n hx hb dX6_borderLine_87 rfl (lv_at hl 2 rfl) ?_
            refine lv_dup hx hb dX6_borderLine_88 rfl ?_
            refine th_get S hK hH inG6 t0 kd_2 rfl 2 (by decide) gm_342 rfl rfl dX6_borderLine_89 (fun v45 hv45 fv45 => ?_)
            obtain ⟨x46, rfl, ix46⟩ := th_V.int hv45
            refine lv_iconst (v := 1) hx hb dX6_borderLine_92 (by decide) ?_
            refine lv_iadd hx hb dX6_borderLine_93 ?_
            refine lv_topi (fun x47 ex47 => ?_)
            have ix47 := iv_top x47
            refine th_put S hK hH hS ⟨2, by decide, t0⟩ inG6 tyX6 tyX6_ok nmX6 t0 kd_2 rfl 2 (by decide) gm_342 rfl rfl rfl rfl (th_iv ix47) (fun _ _ => trivial) (ty := .int) (by decide +kernel) rfl rfl dX6_borderLine_94 (fun H locs hH hS hq1 hp1 => ?_)
            have f48 := f28.kept (hq1 _ (th_ne trf3 t0 (by decide)))
            have f49 := f29.kept (hq1 _ (th_ne trf3 t0 (by decide)))
            have f50 := f30.kept (hq1 _ (th_ne trf21 t0 (by decide)))
            have f51 := f31.kept (hq1 _ (th_ne trf21 t0 (by decide)))
            have f52 := hp1.2 1 _ (by decide) (by decide) fv35
            have f53 := fv37.kept (hq1 _ (th_ne trf36 t0 (by decide)))
            have f54 := hp1.1
            refine lv_aload_n hx hb dX6_borderLine_97 rfl (lv_at hl 2 rfl) ?_
            refine th_getK S hK f52 inG6 rfl (by decide) gm_340 rfl dX6_borderLine_98 ?_
            refine th_getK S hK f53 inG4 rfl (by decide) gm_260 rfl dX6_borderLine_101 ?_
            refine lv_iload_n hx hb dX6_borderLine_104 rfl (lv_at hl 1 rfl) ?_
            refine lv_dup2_11 hx hb dX6_borderLine_105 rfl rfl ?_
            refine th_iald S hK hH trf38 kd_54 (th_in (hi := 3) ir13 (by decide)) dX6_borderLine_106 (fun v57 hv57 => ?_)
            obtain ⟨x58, rfl, ix58⟩ := th_V.int hv57
            refine lv_iconst (v := 1) hx hb dX6_borderLine_107 (by decide) ?_
            refine lv_iload_n hx hb dX6_borderLine_108 rfl (lv_at hl 0 rfl) ?_
            refine lv_ishl hx hb dX6_borderLine_109 ?_
            refine lv_topi (fun x59 ex59 => ?_)
            have ix59 := iv_top x59
            refine lv_ior hx hb dX6_borderLine_110 ?_
            refine lv_topi (fun x60 ex60 => ?_)
            have ix60 := iv_top x60
            refine th_iast S hK hH hS ⟨54, by decide, trf38⟩ trf38 kd_54 (th_in (hi := 3) ir13 (by decide)) (th_iv ix60) dX6_borderLine_111 (fun H locs hH hS hq1 => ?_)
            have f61 := f48.kept (hq1 _ (th_ne trf3 trf38 (by decide)))
            have f62 := f49.kept (hq1 _ (th_ne trf3 trf38 (by decide)))
            have f63 := f50.kept (hq1 _ (th_ne trf21 trf38 (by decide)))
            have f64 := f51.kept (hq1 _ (th_ne trf21 trf38 (by decide)))
            have f65 := f52.kept (hq1 _ (th_ne t0 trf38 (by decide)))
            have f66 := f53.kept (hq1 _ (th_ne trf36 trf38 (by decide)))
            have f67 := f54.kept (hq1 _ (th_ne t0 trf38 (by decide)))
            refine lv_aload_n hx hb dX6_borderLine_112 rfl (lv_at hl 2 rfl) ?_
            refine th_getK S hK f65 inG6 rfl (by decide) gm_340 rfl dX6_borderLine_113 ?_
            refine th_getK S hK f66 inG4 rfl (by decide) gm_260 rfl dX6_borderLine_116 ?_
            refine lv_iload_n hx hb dX6_borderLine_119 rfl (lv_at hl 0 rfl) ?_
            refine lv_dup2_11 hx hb dX6_borderLine_120 rfl rfl ?_
            refine th_iald S hK hH trf38 kd_54 (th_in (hi := 3) ir33 (by decide)) dX6_borderLine_121 (fun v70 hv70 => ?_)
            obtain ⟨x71, rfl, ix71⟩ := th_V.int hv70
            refine lv_iconst (v := 1) hx hb dX6_borderLine_122 (by decide) ?_
            refine lv_iload_n hx hb dX6_borderLine_123 rfl (lv_at hl 1 rfl) ?_
            refine lv_ishl hx hb dX6_borderLine_124 ?_
            refine lv_topi (fun x72 ex72 => ?_)
            have ix72 := iv_top x72
            refine lv_ior hx hb dX6_borderLine_125 ?_
            refine lv_topi (fun x73 ex73 => ?_)
            have ix73 := iv_top x73
            refine th_iast S hK hH hS ⟨54, by decide, trf38⟩ trf38 kd_54 (th_in (hi := 3) ir33 (by decide)) (th_iv ix73) dX6_borderLine_126 (fun H locs hH hS hq1 => ?_)
            have f74 := f61.kept (hq1 _ (th_ne trf3 trf38 (by decide)))
            have f75 := f62.kept (hq1 _ (th_ne trf3 trf38 (by decide)))
            have f76 := f63.kept (hq1 _ (th_ne trf21 trf38 (by decide)))
            have f77 := f64.kept (hq1 _ (th_ne trf21 trf38 (by decide)))
            have f78 := f65.kept (hq1 _ (th_ne t0 trf38 (by decide)))
            have f79 := f66.kept (hq1 _ (th_ne trf36 trf38 (by decide)))
            have f80 := f67.kept (hq1 _ (th_ne t0 trf38 (by decide)))
            refine lv_aload_n hx hb dX6_borderLine_127 rfl (lv_at hl 2 rfl) ?_
            refine th_getK S hK f78 inG6 rfl (by decide) gm_340 rfl dX6_borderLine_128 ?_
            refine lv_dup hx hb dX6_borderLine_131 rfl ?_
            refine th_get S hK hH inG4 trf36 kd_46 rfl 14 (by decide) gm_289 rfl rfl dX6_borderLine_132 (fun v82 hv82 fv82 => ?_)
            obtain ⟨x83, rfl, ix83⟩ := th_V.int hv82
            refine lv_iconst (v := 1) hx hb dX6_borderLine_135 (by decide) ?_
            refine lv_iadd hx hb dX6_borderLine_136 ?_
            refine lv_topi (fun x84 ex84 => ?_)
            have ix84 := iv_top x84
            refine th_put S hK hH hS ⟨46, by decide, trf36⟩ inG4 tyX4 tyX4_ok nmX4 trf36 kd_46 rfl 14 (by decide) gm_289 rfl rfl rfl rfl (th_iv ix84) (fun _ _ => trivial) (ty := .int) (by decide +kernel) rfl rfl dX6_borderLine_137 (fun H locs hH hS hq1 hp1 => ?_)
            have f85 := f78.kept (hq1 _ (th_ne t0 trf36 (by decide)))
            have f86 := hp1.2 7 _ (by decide) (by decide) f79
            have f87 := f80.kept (hq1 _ (th_ne t0 trf36 (by decide)))
            have f88 := hp1.1
            refine lv_iconst (v := 1) hx hb dX6_borderLine_140 (by decide) ?_
            exact th_zret S hK hH hS hr hlocks (iv_w (iv_c (by decide) : IV 1 1 1) (by decide)) (th_R.i (iv_w (iv_c (by decide) : IV 1 1 1) (by decide))) dX6_borderLine_141
          · skip
            have ir89 : IV x42 1 1 := iv_cutL ix42 (iv_c (by decide) : IV 0 0 0) c43 (by decide)
            exact J81 H locs ls  hH hS (lv_sub hl [2] rfl)
      · skip
        have ir90 : IV x27 (-1) (-1) := iv_uL ix27 (iv_c (by decide) : IV 0 0 0) (iv_nle c32) (by decide)
        refine lv_iconst (v := 0) hx hb dX6_borderLine_58 (by decide) ?_
        exact th_zret S hK hH hS hr hlocks (iv_w (iv_c (by decide) : IV 0 0 0) (by decide)) (th_R.i (iv_w (iv_c (by decide) : IV 0 0 0) (by decide))) dX6_borderLine_59
    · skip
      have ir91 : IV x9 (-1) (-1) := iv_uL ix9 (iv_c (by decide) : IV 0 0 0) (iv_nle c12) (by decide)
      refine lv_iconst (v := 0) hx hb dX6_borderLine_23 (by decide) ?_
      exact th_zret S hK hH hS hr hlocks (iv_w (iv_c (by decide) : IV 0 0 0) (by decide)) (th_R.i (iv_w (iv_c (by decide) : IV 0 0 0) (by decide))) dX6_borderLine_24
  exact J0 s.heap [] ls hH va_S.rf hl

set_option maxRecDepth 100000 in
theorem m_X6_drawLine (l : Launch) (D : va_G) (cT : Nat → ClassId) (T : Nat → Option Nat) (q : Nat → Int) (hq : qok q) (a0 : Nat) (t0 : T a0 = some 2) : th_Met l D cT T (kd q) yX6_drawLine cX6_drawLine 2 (some .boolean) (rmk 2 45) [.ref a0] (th_R T (some (.inl (0, 1)))) [2, 29, 46] := by
  refine th_start (by decide) (Nat.le_of_ble_eq_true rfl) ?_
  intro p e s m below meth c ls S hK hH hr hlocks hnm hl
  have hx := S.1
  have hb := S.2.1
  have hl : lv_has ls 2 [(0, .ref a0)] := hl
  have J0 : ∀ (H : Heap) (locs : List Loc) (ls : Array Slot), th_H D cT T (kd q) H → va_S (th_A T [2, 29, 46]) s.heap H locs → lv_has ls 2 [(0, .ref a0)] → W p l e (rmk 2 45) s m [.ref a0].toArray below meth c H locs 0 0 (MQ below (th_Q D cT T (kd q) (th_R T (some (.inl (0, 1)))) [2, 29, 46]) [.ref a0].toArray s 0 0 (th_A T [2, 29, 46])) (F0 m 0 ls []) := by
    intro H locs ls hH hS hl
    refine lv_aload_n hx hb dX6_drawLine_0 rfl (lv_at hl 0 rfl) ?_
    refine lv_iconst (v := 0) hx hb dX6_drawLine_1 (by decide) ?_
    refine lv_sipush (v := 999) hx hb dX6_drawLine_2 (by decide) ?_
    refine th_callVi (n := 2) (As := [.int 0, .int 999]) S hK hH hS (th_A.sub (by decide)) (m_X6_number l D cT T q hq a0 t0 (0) (iv_top _) (999) (iv_top _)) gm_742 gm_739 gm_741 gm_11 gm_115 (by decide +kernel) ⟨rfl, rfl, Nat.le_of_ble_eq_true rfl, Nat.le_of_ble_eq_true rfl⟩ t0 kd_2 rfl rfl hl.1 rfl (Nat.le_of_ble_eq_true rfl) dX6_drawLine_5 ⟨Nat.zero_le _, Nat.zero_le _⟩ (fun x1 H locs ix1 hH hS hF1 => ?_)
    refine lv_istore_n (lv' := [(1, .int x1), (0, .ref a0)]) hx hb dX6_drawLine_8 rfl hl (by decide) rfl (fun ls hl => ?_)
    refine lv_iload_n hx hb dX6_drawLine_9 rfl (lv_at hl 0 rfl) ?_
    refine lv_if_ge (tgt := 15) hx hb dX6_drawLine_10 (by decide) (fun c2 => ?_) (fun c2 => ?_)
    · skip
      have ir3 : IV x1 0 2147483647 := iv_vR (iv_c (by decide) : IV 0 0 0) ix1 (iv_le c2) (by decide)
      refine lv_aload_n hx hb dX6_drawLine_15 rfl (lv_at hl 1 rfl) ?_
      refine th_get S hK hH inG6 t0 kd_2 rfl 1 (by decide) gm_340 rfl rfl dX6_drawLine_16 (fun v4 hv4 fv4 => ?_)
      obtain ⟨rf5, rfl, trf5⟩ := th_V.ref hv4
      refine lv_iconst (v := 1) hx hb dX6_drawLine_19 (by decide) ?_
      refine th_put S hK hH hS ⟨46, by decide, trf5⟩ inG4 tyX4 tyX4_ok nmX4 trf5 kd_46 rfl 18 (by decide) gm_299 rfl rfl rfl rfl (th_iv (iv_w (iv_c (by decide) : IV 1 1 1) (by decide))) (fun _ _ => trivial) (ty := .boolean) (by decide +kernel) (th_nbool (iv_w (iv_c (by decide) : IV 1 1 1) (by decide))) rfl dX6_drawLine_20 (fun H locs hH hS hq1 hp1 => ?_)
      have f6 := fv4.kept (hq1 _ (th_ne t0 trf5 (by decide)))
      refine lv_aload_n hx hb dX6_drawLine_23 rfl (lv_at hl 1 rfl) ?_
      refine th_getK S hK f6 inG6 rfl (by decide) gm_340 rfl dX6_drawLine_24 ?_
      refine th_get S hK hH inG4 trf5 kd_46 rfl 10 (by decide) gm_272 rfl rfl dX6_drawLine_27 (fun v8 hv8 fv8 => ?_)
      obtain ⟨rf9, rfl, trf9⟩ := th_V.ref hv8
      refine th_get S hK hH inG7 trf9 kd_10 rfl 0 (by decide) gm_229 rfl rfl dX6_drawLine_30 (fun v10 hv10 fv10 => ?_)
      obtain ⟨rf11, rfl, trf11⟩ := th_V.ref hv10
      refine lv_bipush (v := 42) hx hb dX6_drawLine_33 (by decide) ?_
      refine lv_iload_n hx hb dX6_drawLine_35 rfl (lv_at hl 0 rfl) ?_
      refine th_iast S hK hH hS ⟨29, by decide, trf11⟩ trf11 kd_29 (th_in (hi := 42) (iv_w (iv_c (by decide) : IV 42 42 42) (by decide)) (by decide)) (th_iv (iv_top _)) dX6_drawLine_36 (fun H locs hH hS hq1 => ?_)
      have f12 := f6.kept (hq1 _ (th_ne t0 trf11 (by decide)))
      refine lv_iconst (v := 1) hx hb dX6_drawLine_37 (by decide) ?_
      exact th_zret S hK hH hS hr hlocks (iv_w (iv_c (by decide) : IV 1 1 1) (by decide)) (th_R.i (iv_w (iv_c (by decide) : IV 1 1 1) (by decide))) dX6_drawLine_38
    · skip
      have ir13 : IV x1 (-2147483648) (-1) := iv_uL ix1 (iv_c (by decide) : IV 0 0 0) (iv_nle c2) (by decide)
      refine lv_iconst (v := 0) hx hb dX6_drawLine_13 (by decide) ?_
      exact th_zret S hK hH hS hr hlocks (iv_w (iv_c (by decide) : IV 0 0 0) (by decide)) (th_R.i (iv_w (iv_c (by decide) : IV 0 0 0) (by decide))) dX6_drawLine_14
  exact J0 s.heap [] ls hH va_S.rf hl

set_option maxRecDepth 100000 in
theorem m_X6_readAll (l : Launch) (D : va_G) (cT : Nat → ClassId) (T : Nat → Option Nat) (q : Nat → Int) (hT : tok T) (hqr : qokr q) (a0 : Nat) (t0 : T a0 = some 2) : th_MetX l D cT T q yX6_readAll cX6_readAll 4 (some .boolean) (rmk 59 1498) [.ref a0] (th_R T (some (.inl (0, 1)))) [2, 29, 46, 47, 48, 49, 50, 51, 52, 53, 54, 55, 56, 57, 58, 59] := by
  refine th_startX (by decide) (Nat.le_of_ble_eq_true rfl) ?_
  have hq := hqr.1
  intro p e s m below meth c ls S hK hH hr hlocks hnm hl
  have hx := S.1
  have hb := S.2.1
  have hl : lv_has ls 4 [(0, .ref a0)] := hl
  have J236 : ∀ (q236 : Nat → Int) (H : Heap) (locs : List Loc) (ls : Array Slot) (v236_1 : Int32), qokr q236 → q236 0 = q 0 → IV v236_1 0 1 → th_H D cT T (kd q236) H → va_S (th_A T [2, 29, 46, 47, 48, 49, 50, 51, 52, 53, 54, 55, 56, 57, 58, 59]) s.heap H locs → lv_has ls 4 [(1, .int v236_1)] → W p l e (rmk 59 1498) s m [.ref a0].toArray below meth c H locs 0 0 (MQ below (th_QX D cT T q (th_R T (some (.inl (0, 1)))) [2, 29, 46, 47, 48, 49, 50, 51, 52, 53, 54, 55, 56, 57, 58, 59]) [.ref a0].toArray s 0 0 (th_A T [2, 29, 46, 47, 48, 49, 50, 51, 52, 53, 54, 55, 56, 57, 58, 59])) (F0 m 236 ls []) := by
    intro q236 H locs ls v236_1 hr236 h0236 iv236_1 hH hS hl
    refine lv_iload_n hx hb dX6_readAll_236 rfl (lv_at hl 0 rfl) ?_
    exact th_zretX S hK hH hS hr hlocks hr236 h0236 iv236_1 (th_R.i iv236_1) dX6_readAll_237
  have J26 : ∀ (n : Nat) (q26 : Nat → Int) (H : Heap) (locs : List Loc) (ls : Array Slot) (v26_1 : Int32) (v26_2 : Int32), qokr q26 → q26 0 = q 0 → IV v26_1 0 1 → IV v26_2 0 1601 → th_H D cT T (kd q26) H → va_S (th_A T [2, 29, 46, 47, 48, 49, 50, 51, 52, 53, 54, 55, 56, 57, 58, 59]) s.heap H locs → lv_has ls 4 [(0, .ref a0), (1, .int v26_1), (2, .int v26_2)] → (1601 + 1 - v26_2.toInt).toNat < n → W p l e (rmk 59 1498) s m [.ref a0].toArray below meth c H locs 0 0 (MQ below (th_QX D cT T q (th_R T (some (.inl (0, 1)))) [2, 29, 46, 47, 48, 49, 50, 51, 52, 53, 54, 55, 56, 57, 58, 59]) [.ref a0].toArray s 0 0 (th_A T [2, 29, 46, 47, 48, 49, 50, 51, 52, 53, 54, 55, 56, 57, 58, 59])) (F0 m 26 ls []) := by
    intro n
    induction n with
    | zero => intro q26 H locs ls v26_1 v26_2 hr26 h026 iv26_1 iv26_2 hH hS hl hn; exact absurd hn (Nat.not_lt_zero _)
    | succ n ih26 =>
      intro q26 H locs ls v26_1 v26_2 hr26 h026 iv26_1 iv26_2 hH hS hl hn26
      have J229_s0_0 : ∀ (q229 : Nat → Int) (H : Heap) (locs : List Loc) (ls : Array Slot), qokr q229 → q229 0 = q 0 → IV v26_2 0 1600 → th_H D cT T (kd q229) H → va_S (th_A T [2, 29, 46, 47, 48, 49, 50, 51, 52, 53, 54, 55, 56, 57, 58, 59]) s.heap H locs → lv_has ls 4 [(0, .ref a0), (2, .int v26_2)] → W p l e (rmk 59 1498) s m [.ref a0].toArray below meth c H locs 0 0 (MQ below (th_QX D cT T q (th_R T (some (.inl (0, 1)))) [2, 29, 46, 47, 48, 49, 50, 51, 52, 53, 54, 55, 56, 57, 58, 59]) [.ref a0].toArray s 0 0 (th_A T [2, 29, 46, 47, 48, 49, 50, 51, 52, 53, 54, 55, 56, 57, 58, 59])) (F0 m 229 ls [.int 0]) := by
        intro q229 H locs ls hr229 h0229 f229_v26_2 hH hS hl
        refine lv_istore_n (lv' := [(1, .int 0), (0, .ref a0), (2, .int v26_2)]) hx hb dX6_readAll_229 rfl hl (by decide) rfl (fun ls hl => ?_)
        refine th_iinc S dX6_readAll_230 hl (k := 2) rfl (by decide) f229_v26_2 (by decide) (fun x1 ls ex1 ix1 hl => ?_)
        have hl : lv_has ls 4 [(2, .int x1), (1, .int 0), (0, .ref a0)] := hl
        have ix1 : IV x1 1 1601 := ix1
        refine lv_goto (tgt := 26) hx hb dX6_readAll_233 (by decide) ?_
        exact ih26 q229 H locs ls 0 x1 hr229 h0229 (iv_w (iv_c (by decide) : IV 0 0 0) (by decide)) (iv_w ix1 (by decide)) hH hS (lv_sub hl [2, 1, 0] rfl) (th_up iv26_2 ex1 (by decide) hn26)
      have J229_s0_1 : ∀ (q229 : Nat → Int) (H : Heap) (locs : List Loc) (ls : Array Slot), qokr q229 → q229 0 = q 0 → IV v26_2 0 1600 → th_H D cT T (kd q229) H → va_S (th_A T [2, 29, 46, 47, 48, 49, 50, 51, 52, 53, 54, 55, 56, 57, 58, 59]) s.heap H locs → lv_has ls 4 [(0, .ref a0), (2, .int v26_2)] → W p l e (rmk 59 1498) s m [.ref a0].toArray below meth c H locs 0 0 (MQ below (th_QX D cT T q (th_R T (some (.inl (0, 1)))) [2, 29, 46, 47, 48, 49, 50, 51, 52, 53, 54, 55, 56, 57, 58, 59]) [.ref a0].toArray s 0 0 (th_A T [2, 29, 46, 47, 48, 49, 50, 51, 52, 53, 54, 55, 56, 57, 58, 59])) (F0 m 229 ls [.int 1]) := by
        intro q229 H locs ls hr229 h0229 f229_v26_2 hH hS hl
        refine lv_istore_n (lv' := [(1, .int 1), (0, .ref a0), (2, .int v26_2)]) hx hb dX6_readAll_229 rfl hl (by decide) rfl (fun ls hl => ?_)
        refine th_iinc S dX6_readAll_230 hl (k := 2) rfl (by decide) f229_v26_2 (by decide) (fun x2 ls ex2 ix2 hl => ?_)
        have hl : lv_has ls 4 [(2, .int x2), (1, .int 1), (0, .ref a0)] := hl
        have ix2 : IV x2 1 1601 := ix2
        refine lv_goto (tgt := 26) hx hb dX6_readAll_233 (by decide) ?_
        exact ih26 q229 H locs ls 1 x2 hr229 h0229 (iv_w (iv_c (by decide) : IV 1 1 1) (by decide)) (iv_w ix2 (by decide)) hH hS (lv_sub hl [2, 1, 0] rfl) (th_up iv26_2 ex2 (by decide) hn26)
      have J228 : ∀ (q228 : Nat → Int) (H : Heap) (locs : List Loc) (ls : Array Slot), qokr q228 → q228 0 = q 0 → IV v26_2 0 1600 → th_H D cT T (kd q228) H → va_S (th_A T [2, 29, 46, 47, 48, 49, 50, 51, 52, 53, 54, 55, 56, 57, 58, 59]) s.heap H locs → lv_has ls 4 [(0, .ref a0), (2, .int v26_2)] → W p l e (rmk 59 1498) s m [.ref a0].toArray below meth c H locs 0 0 (MQ below (th_QX D cT T q (th_R T (some (.inl (0, 1)))) [2, 29, 46, 47, 48, 49, 50, 51, 52, 53, 54, 55, 56, 57, 58, 59]) [.ref a0].toArray s 0 0 (th_A T [2, 29, 46, 47, 48, 49, 50, 51, 52, 53, 54, 55, 56, 57, 58, 59])) (F0 m 228 ls []) := by
        intro q228 H locs ls hr228 h0228 f228_v26_2 hH hS hl
        refine lv_iconst (v := 0) hx hb dX6_readAll_228 (by decide) ?_
        exact J229_s0_0 q228 H locs ls hr228 h0228 f228_v26_2 hH hS (lv_sub hl [0, 1] rfl)
      have J211 : ∀ (q211 : Nat → Int) (H : Heap) (locs : List Loc) (ls : Array Slot) (v211_1 : Int32), qokr q211 → q211 0 = q 0 → IV v211_1 0 1 → IV v26_2 0 1600 → th_H D cT T (kd q211) H → va_S (th_A T [2, 29, 46, 47, 48, 49, 50, 51, 52, 53, 54, 55, 56, 57, 58, 59]) s.heap H locs → lv_has ls 4 [(0, .ref a0), (1, .int v211_1), (2, .int v26_2)] → W p l e (rmk 59 1498) s m [.ref a0].toArray below meth c H locs 0 0 (MQ below (th_QX D cT T q (th_R T (some (.inl (0, 1)))) [2, 29, 46, 47, 48, 49, 50, 51, 52, 53, 54, 55, 56, 57, 58, 59]) [.ref a0].toArray s 0 0 (th_A T [2, 29, 46, 47, 48, 49, 50, 51, 52, 53, 54, 55, 56, 57, 58, 59])) (F0 m 211 ls []) := by
        intro q211 H locs ls v211_1 hr211 h0211 iv211_1 f211_v26_2 hH hS hl
        refine lv_iload_n hx hb dX6_readAll_211 rfl (lv_at hl 1 rfl) ?_
        refine lv_if_eq (tgt := 228) hx hb dX6_readAll_212 (by decide) (fun c3 => ?_) (fun c3 => ?_)
        · skip
          have ir4 : IV v211_1 0 0 := iv_eL c3 (iv_c (by decide) : IV 0 0 0)
          have ir4a := ir4.1
          have ir4b := ir4.2
          exact J228 q211 H locs ls hr211 h0211 f211_v26_2 hH hS (lv_sub hl [0, 2] rfl)
        · skip
          have ir5 : IV v211_1 1 1 := iv_cutL iv211_1 (iv_c (by decide) : IV 0 0 0) c3 (by decide)
          have ir5a := ir5.1
          have ir5b := ir5.2
          refine lv_aload_n hx hb dX6_readAll_215 rfl (lv_at hl 0 rfl) ?_
          refine lv_bipush (v := 59) hx hb dX6_readAll_216 (by decide) ?_
          refine th_callVi (n := 1) (As := [.int 59]) S hK hH hS (th_A.sub (by decide)) (m_X6_take l D cT T q211 hr211.1 a0 t0 (59) (iv_top _)) gm_750 gm_747 gm_749 gm_13 gm_115 (by decide +kernel) ⟨rfl, rfl, Nat.le_of_ble_eq_true rfl, Nat.le_of_ble_eq_true rfl⟩ t0 kd_2 rfl rfl hl.1 rfl (Nat.le_of_ble_eq_true rfl) dX6_readAll_218 ⟨Nat.zero_le _, Nat.zero_le _⟩ (fun x6 H locs ix6 hH hS hF1 => ?_)
          refine lv_if_eq (tgt := 228) hx hb dX6_readAll_221 (by decide) (fun c7 => ?_) (fun c7 => ?_)
          · skip
            have ir8 : IV x6 0 0 := iv_eL c7 (iv_c (by decide) : IV 0 0 0)
            have ir8a := ir8.1
            have ir8b := ir8.2
            exact J228 q211 H locs ls hr211 h0211 f211_v26_2 hH hS (lv_sub hl [0, 2] rfl)
          · skip
            have ir9 : IV x6 1 1 := iv_cutL ix6 (iv_c (by decide) : IV 0 0 0) c7 (by decide)
            have ir9a := ir9.1
            have ir9b := ir9.2
            refine lv_iconst (v := 1) hx hb dX6_readAll_224 (by decide) ?_
            refine lv_goto (tgt := 229) hx hb dX6_readAll_225 (by decide) ?_
            exact J229_s0_1 q211 H locs ls hr211 h0211 f211_v26_2 hH hS (lv_sub hl [0, 2] rfl)
      refine lv_iload_n hx hb dX6_readAll_26 rfl (lv_at hl 1 rfl) ?_
      refine lv_if_eq (tgt := 236) hx hb dX6_readAll_27 (by decide) (fun c10 => ?_) (fun c10 => ?_)
      · skip
        have ir11 : IV v26_1 0 0 := iv_eL c10 (iv_c (by decide) : IV 0 0 0)
        have ir11a := ir11.1
        have ir11b := ir11.2
        exact J236 q26 H locs ls v26_1 hr26 h026 (iv_w ir11 (by decide)) hH hS (lv_sub hl [1] rfl)
      · skip
        have ir12 : IV v26_1 1 1 := iv_cutL iv26_1 (iv_c (by decide) : IV 0 0 0) c10 (by decide)
        have ir12a := ir12.1
        have ir12b := ir12.2
        refine lv_iload_n hx hb dX6_readAll_30 rfl (lv_at hl 2 rfl) ?_
        refine lv_aload_n hx hb dX6_readAll_31 rfl (lv_at hl 0 rfl) ?_
        refine th_get S hK hH inG6 t0 kd_2 rfl 0 (by decide) gm_339 rfl rfl dX6_readAll_32 (fun v13 hv13 fv13 => ?_)
        obtain ⟨rf14, rfl, trf14⟩ := th_V.ref hv13
        refine th_get S hK hH inG8 trf14 kd_1 rfl 5 (by decide) gm_159 rfl rfl dX6_readAll_35 (fun v15 hv15 fv15 => ?_)
        obtain ⟨x16, rfl, ix16⟩ := th_V.int hv15
        refine lv_icmp_ge (tgt := 236) hx hb dX6_readAll_38 (by decide) (fun c17 => ?_) (fun c17 => ?_)
        · skip
          exact J236 q26 H locs ls v26_1 hr26 h026 (iv_w ir12 (by decide)) hH hS (lv_sub hl [1] rfl)
        · skip
          have ir18 : IV v26_2 0 1600 := iv_uL iv26_2 ix16 (iv_nle c17) (by decide)
          have ir18a := ir18.1
          have ir18b := ir18.2
          have ir19 : IV x16 1 1601 := iv_uR iv26_2 ix16 (iv_nle c17) (by decide)
          have ir19a := ir19.1
          have ir19b := ir19.2
          refine lv_aload_n hx hb dX6_readAll_41 rfl (lv_at hl 0 rfl) ?_
          refine th_callVi (n := 0) (As := []) S hK hH hS (th_A.sub (by decide)) (m_X6_kind l D cT T q26 hr26.1 a0 t0) gm_708 gm_705 gm_707 gm_5 gm_115 (by decide +kernel) ⟨rfl, rfl, Nat.le_of_ble_eq_true rfl, Nat.le_of_ble_eq_true rfl⟩ t0 kd_2 rfl rfl hl.1 rfl (Nat.le_of_ble_eq_true rfl) dX6_readAll_42 ⟨Nat.zero_le _, Nat.zero_le _⟩ (fun x20 H locs ix20 hH hS hF1 => ?_)
          refine lv_if_eq (tgt := 236) hx hb dX6_readAll_45 (by decide) (fun c21 => ?_) (fun c21 => ?_)
          · skip
            have ir22 : IV x20 0 0 := iv_eL c21 (iv_c (by decide) : IV 0 0 0)
            have ir22a := ir22.1
            have ir22b := ir22.2
            exact J236 q26 H locs ls v26_1 hr26 h026 (iv_w ir12 (by decide)) hH hS (lv_sub hl [1] rfl)
          · skip
            refine lv_aload_n hx hb dX6_readAll_48 rfl (lv_at hl 0 rfl) ?_
            refine th_callVi (n := 0) (As := []) S hK hH hS (th_A.sub (by decide)) (m_X6_kind l D cT T q26 hr26.1 a0 t0) gm_708 gm_705 gm_707 gm_5 gm_115 (by decide +kernel) ⟨rfl, rfl, Nat.le_of_ble_eq_true rfl, Nat.le_of_ble_eq_true rfl⟩ t0 kd_2 rfl rfl hl.1 rfl (Nat.le_of_ble_eq_true rfl) dX6_readAll_49 ⟨Nat.zero_le _, Nat.zero_le _⟩ (fun x23 H locs ix23 hH hS hF1 => ?_)
            refine lv_istore_n (lv' := [(3, .int x23), (0, .ref a0), (1, .int v26_1), (2, .int v26_2)]) hx hb dX6_readAll_52 rfl hl (by decide) rfl (fun ls hl => ?_)
            refine lv_aload_n hx hb dX6_readAll_53 rfl (lv_at hl 1 rfl) ?_
            refine th_get S hK hH inG6 t0 kd_2 rfl 1 (by decide) gm_340 rfl rfl dX6_readAll_54 (fun v24 hv24 fv24 => ?_)
            obtain ⟨rf25, rfl, trf25⟩ := th_V.ref hv24
            refine lv_iload_n hx hb dX6_readAll_57 rfl (lv_at hl 0 rfl) ?_
            refine th_callVh (n := 1) (As := [.int x23]) S hK hH hS (th_A.sub (by decide)) (m_X4_hasRoomFor l D cT T q26 hr26.1 rf25 trf25 (x23) ix23) gm_712 gm_709 gm_710 gm_711 gm_116 (by decide +kernel) ⟨rfl, rfl, Nat.le_of_ble_eq_true rfl, Nat.le_of_ble_eq_true rfl⟩ trf25 kd_46 rfl rfl hl.1 rfl (Nat.le_of_ble_eq_true rfl) dX6_readAll_58 ⟨Nat.zero_le _, Nat.zero_le _⟩ (fun x26 H locs ix26 ox26 hH hS hF1 => ?_)
            have f27 := fv24.kept (hF1 _ fv24.lt (th_off t0 (by decide)))
            refine lv_if_ne (tgt := 70) hx hb dX6_readAll_61 (by decide) (fun c28 => ?_) (fun c28 => ?_)
            · skip
              have ir29 : IV x26 1 1 := iv_cutL ix26 (iv_c (by decide) : IV 0 0 0) c28 (by decide)
              have ir29a := ir29.1
              have ir29b := ir29.2
              have o30 := ox26 c28
              refine lv_aload_n hx hb dX6_readAll_70 rfl (lv_at hl 1 rfl) ?_
              refine lv_dup hx hb dX6_readAll_71 rfl ?_
              refine th_get S hK hH inG6 t0 kd_2 rfl 2 (by decide) gm_342 rfl rfl dX6_readAll_72 (fun v31 hv31 fv31 => ?_)
              obtain ⟨x32, rfl, ix32⟩ := th_V.int hv31
              refine lv_iconst (v := 1) hx hb dX6_readAll_75 (by decide) ?_
              refine lv_iadd hx hb dX6_readAll_76 ?_
              refine lv_topi (fun x33 ex33 => ?_)
              have ix33 := iv_top x33
              refine th_put S hK hH hS ⟨2, by decide, t0⟩ inG6 tyX6 tyX6_ok nmX6 t0 kd_2 rfl 2 (by decide) gm_342 rfl rfl rfl rfl (th_iv ix33) (fun _ _ => trivial) (ty := .int) (by decide +kernel) rfl rfl dX6_readAll_77 (fun H locs hH hS hq1 hp1 => ?_)
              have f34 := hp1.2 1 _ (by decide) (by decide) f27
              have f35 := hp1.1
              refine lv_iload_n hx hb dX6_readAll_80 rfl (lv_at hl 0 rfl) ?_
              by_cases c36 : x23.toInt < 128 ∨ 134 < x23.toInt
              · refine lv_tableOut (tgt := 206) hx hb dX6_readAll_81 c36 (by decide) ?_
                refine lv_aload_n hx hb dX6_readAll_206 rfl (lv_at hl 1 rfl) ?_
                refine th_callVi (n := 0) (As := []) S hK hH hS (th_A.sub (by decide)) (m_X6_drawLine l D cT T q26 hr26.1 a0 t0) gm_801 gm_798 gm_800 gm_22 gm_115 (by decide +kernel) ⟨rfl, rfl, Nat.le_of_ble_eq_true rfl, Nat.le_of_ble_eq_true rfl⟩ t0 kd_2 rfl rfl hl.1 rfl (Nat.le_of_ble_eq_true rfl) dX6_readAll_207 ⟨Nat.zero_le _, Nat.zero_le _⟩ (fun x37 H locs ix37 hH hS hF1 => ?_)
                refine lv_istore_n (lv' := [(1, .int x37), (3, .int x23), (0, .ref a0), (2, .int v26_2)]) hx hb dX6_readAll_210 rfl hl (by decide) rfl (fun ls hl => ?_)
                exact J211 q26 H locs ls x37 hr26 h026 ix37 ir18 hH hS (lv_sub hl [2, 0, 3] rfl)
              · rcases (show x23.toInt = 128 ∨ x23.toInt = 129 ∨ x23.toInt = 130 ∨ x23.toInt = 131 ∨ x23.toInt = 132 ∨ x23.toInt = 133 ∨ x23.toInt = 134 by omega) with c36b | c36b | c36b | c36b | c36b | c36b | c36b
                · refine lv_tableIn (tgt := 124) (off := 43) hx hb dX6_readAll_81 (by omega) (by omega) (by rw [c36b]; rfl) (by decide) ?_
                  refine lv_aload_n hx hb dX6_readAll_124 rfl (lv_at hl 1 rfl) ?_
                  refine th_callVX (n := 0) (As := []) S hK hH hS (th_A.sub (by decide)) (m_X6_foodLine l D cT T q26 hT hr26 (o30.1 c36b) a0 t0) gm_726 gm_723 gm_725 gm_7 gm_115 (by decide +kernel) ⟨rfl, rfl, Nat.le_of_ble_eq_true rfl, Nat.le_of_ble_eq_true rfl⟩ t0 kd_2 rfl rfl hl.1 rfl (Nat.le_of_ble_eq_true rfl) dX6_readAll_125 ⟨Nat.zero_le _, Nat.zero_le _⟩ (fun wq39 q39 H locs hvq39 hrq39 h0q39 hH hS hF1 => ?_)
                  obtain ⟨_, rfl, x38, rfl, ix38⟩ := hvq39
                  have hqq39 := hrq39.1
                  show W p l e (rmk 59 1498) s m [.ref a0].toArray below meth c H locs 0 0 (MQ below (th_QX D cT T q (th_R T (some (.inl (0, 1)))) [2, 29, 46, 47, 48, 49, 50, 51, 52, 53, 54, 55, 56, 57, 58, 59]) [.ref a0].toArray s 0 0 (th_A T [2, 29, 46, 47, 48, 49, 50, 51, 52, 53, 54, 55, 56, 57, 58, 59])) (F0 m 128 ls [.int x38])
                  refine lv_istore_n (lv' := [(1, .int x38), (3, .int x23), (0, .ref a0), (2, .int v26_2)]) hx hb dX6_readAll_128 rfl hl (by decide) rfl (fun ls hl => ?_)
                  refine lv_goto (tgt := 211) hx hb dX6_readAll_129 (by decide) ?_
                  exact J211 q39 H locs ls x38 hrq39 (h0q39.trans h026) ix38 ir18 hH hS (lv_sub hl [2, 0, 3] rfl)
                · refine lv_tableIn (tgt := 132) (off := 51) hx hb dX6_readAll_81 (by omega) (by omega) (by rw [c36b]; rfl) (by decide) ?_
                  refine lv_aload_n hx hb dX6_readAll_132 rfl (lv_at hl 1 rfl) ?_
                  refine th_callVX (n := 0) (As := []) S hK hH hS (th_A.sub (by decide)) (m_X6_mapLine l D cT T q26 hT hr26 (o30.2.1 c36b) a0 t0) gm_746 gm_743 gm_745 gm_12 gm_115 (by decide +kernel) ⟨rfl, rfl, Nat.le_of_ble_eq_true rfl, Nat.le_of_ble_eq_true rfl⟩ t0 kd_2 rfl rfl hl.1 rfl (Nat.le_of_ble_eq_true rfl) dX6_readAll_133 ⟨Nat.zero_le _, Nat.zero_le _⟩ (fun wq41 q41 H locs hvq41 hrq41 h0q41 hH hS hF1 => ?_)
                  obtain ⟨_, rfl, x40, rfl, ix40⟩ := hvq41
                  have hqq41 := hrq41.1
                  show W p l e (rmk 59 1498) s m [.ref a0].toArray below meth c H locs 0 0 (MQ below (th_QX D cT T q (th_R T (some (.inl (0, 1)))) [2, 29, 46, 47, 48, 49, 50, 51, 52, 53, 54, 55, 56, 57, 58, 59]) [.ref a0].toArray s 0 0 (th_A T [2, 29, 46, 47, 48, 49, 50, 51, 52, 53, 54, 55, 56, 57, 58, 59])) (F0 m 136 ls [.int x40])
                  refine lv_istore_n (lv' := [(1, .int x40), (3, .int x23), (0, .ref a0), (2, .int v26_2)]) hx hb dX6_readAll_136 rfl hl (by decide) rfl (fun ls hl => ?_)
                  refine lv_goto (tgt := 211) hx hb dX6_readAll_137 (by decide) ?_
                  exact J211 q41 H locs ls x40 hrq41 (h0q41.trans h026) ix40 ir18 hH hS (lv_sub hl [2, 0, 3] rfl)
                · refine lv_tableIn (tgt := 140) (off := 59) hx hb dX6_readAll_81 (by omega) (by omega) (by rw [c36b]; rfl) (by decide) ?_
                  refine lv_aload_n hx hb dX6_readAll_140 rfl (lv_at hl 1 rfl) ?_
                  refine th_callVX (n := 0) (As := []) S hK hH hS (th_A.sub (by decide)) (m_X6_placeLine l D cT T q26 hT hr26 (o30.2.2 c36b) a0 t0) gm_781 gm_778 gm_780 gm_17 gm_115 (by decide +kernel) ⟨rfl, rfl, Nat.le_of_ble_eq_true rfl, Nat.le_of_ble_eq_true rfl⟩ t0 kd_2 rfl rfl hl.1 rfl (Nat.le_of_ble_eq_true rfl) dX6_readAll_141 ⟨Nat.zero_le _, Nat.zero_le _⟩ (fun wq43 q43 H locs hvq43 hrq43 h0q43 hH hS hF1 => ?_)
                  obtain ⟨_, rfl, x42, rfl, ix42⟩ := hvq43
                  have hqq43 := hrq43.1
                  show W p l e (rmk 59 1498) s m [.ref a0].toArray below meth c H locs 0 0 (MQ below (th_QX D cT T q (th_R T (some (.inl (0, 1)))) [2, 29, 46, 47, 48, 49, 50, 51, 52, 53, 54, 55, 56, 57, 58, 59]) [.ref a0].toArray s 0 0 (th_A T [2, 29, 46, 47, 48, 49, 50, 51, 52, 53, 54, 55, 56, 57, 58, 59])) (F0 m 144 ls [.int x42])
                  refine lv_istore_n (lv' := [(1, .int x42), (3, .int x23), (0, .ref a0), (2, .int v26_2)]) hx hb dX6_readAll_144 rfl hl (by decide) rfl (fun ls hl => ?_)
                  refine lv_goto (tgt := 211) hx hb dX6_readAll_145 (by decide) ?_
                  exact J211 q43 H locs ls x42 hrq43 (h0q43.trans h026) ix42 ir18 hH hS (lv_sub hl [2, 0, 3] rfl)
                · refine lv_tableIn (tgt := 148) (off := 67) hx hb dX6_readAll_81 (by omega) (by omega) (by rw [c36b]; rfl) (by decide) ?_
                  refine lv_aload_n hx hb dX6_readAll_148 rfl (lv_at hl 1 rfl) ?_
                  refine th_callVi (n := 0) (As := []) S hK hH hS (th_A.sub (by decide)) (m_X6_likesLine l D cT T q26 hr26.1 a0 t0) gm_793 gm_790 gm_792 gm_20 gm_115 (by decide +kernel) ⟨rfl, rfl, Nat.le_of_ble_eq_true rfl, Nat.le_of_ble_eq_true rfl⟩ t0 kd_2 rfl rfl hl.1 rfl (Nat.le_of_ble_eq_true rfl) dX6_readAll_149 ⟨Nat.zero_le _, Nat.zero_le _⟩ (fun x44 H locs ix44 hH hS hF1 => ?_)
                  refine lv_istore_n (lv' := [(1, .int x44), (3, .int x23), (0, .ref a0), (2, .int v26_2)]) hx hb dX6_readAll_152 rfl hl (by decide) rfl (fun ls hl => ?_)
                  refine lv_goto (tgt := 211) hx hb dX6_readAll_153 (by decide) ?_
                  exact J211 q26 H locs ls x44 hr26 h026 ix44 ir18 hH hS (lv_sub hl [2, 0, 3] rfl)
                · refine lv_tableIn (tgt := 156) (off := 75) hx hb dX6_readAll_81 (by omega) (by omega) (by rw [c36b]; rfl) (by decide) ?_
                  refine lv_aload_n hx hb dX6_readAll_156 rfl (lv_at hl 1 rfl) ?_
                  refine th_callVi (n := 0) (As := []) S hK hH hS (th_A.sub (by decide)) (m_X6_borderLine l D cT T q26 hr26.1 a0 t0) gm_797 gm_794 gm_796 gm_21 gm_115 (by decide +kernel) ⟨rfl, rfl, Nat.le_of_ble_eq_true rfl, Nat.le_of_ble_eq_true rfl⟩ t0 kd_2 rfl rfl hl.1 rfl (Nat.le_of_ble_eq_true rfl) dX6_readAll_157 ⟨Nat.zero_le _, Nat.zero_le _⟩ (fun x45 H locs ix45 hH hS hF1 => ?_)
                  refine lv_istore_n (lv' := [(1, .int x45), (3, .int x23), (0, .ref a0), (2, .int v26_2)]) hx hb dX6_readAll_160 rfl hl (by decide) rfl (fun ls hl => ?_)
                  refine lv_goto (tgt := 211) hx hb dX6_readAll_161 (by decide) ?_
                  exact J211 q26 H locs ls x45 hr26 h026 ix45 ir18 hH hS (lv_sub hl [2, 0, 3] rfl)
                · refine lv_tableIn (tgt := 164) (off := 83) hx hb dX6_readAll_81 (by omega) (by omega) (by rw [c36b]; rfl) (by decide) ?_
                  refine lv_aload_n hx hb dX6_readAll_164 rfl (lv_at hl 1 rfl) ?_
                  refine th_getK S hK f34 inG6 rfl (by decide) gm_340 rfl dX6_readAll_165 ?_
                  refine lv_iconst (v := 1) hx hb dX6_readAll_168 (by decide) ?_
                  refine th_put S hK hH hS ⟨46, by decide, trf25⟩ inG4 tyX4 tyX4_ok nmX4 trf25 kd_46 rfl 16 (by decide) gm_294 rfl rfl rfl rfl (th_iv (iv_w (iv_c (by decide) : IV 1 1 1) (by decide))) (fun _ _ => trivial) (ty := .boolean) (by decide +kernel) (th_nbool (iv_w (iv_c (by decide) : IV 1 1 1) (by decide))) rfl dX6_readAll_169 (fun H locs hH hS hq1 hp1 => ?_)
                  have f47 := f34.kept (hq1 _ (th_ne t0 trf25 (by decide)))
                  have f48 := f35.kept (hq1 _ (th_ne t0 trf25 (by decide)))
                  refine lv_aload_n hx hb dX6_readAll_172 rfl (lv_at hl 1 rfl) ?_
                  refine lv_iconst (v := 4) hx hb dX6_readAll_173 (by decide) ?_
                  refine th_callVi (n := 1) (As := [.int 4]) S hK hH hS (th_A.sub (by decide)) (m_X6_formula l D cT T q26 hr26.1 a0 t0 (4) (iv_w (iv_c (by decide) : IV 4 4 4) (by decide))) gm_754 gm_751 gm_753 gm_14 gm_115 (by decide +kernel) ⟨rfl, rfl, Nat.le_of_ble_eq_true rfl, Nat.le_of_ble_eq_true rfl⟩ t0 kd_2 rfl rfl hl.1 rfl (Nat.le_of_ble_eq_true rfl) dX6_readAll_174 ⟨Nat.zero_le _, Nat.zero_le _⟩ (fun x49 H locs ix49 hH hS hF1 => ?_)
                  refine lv_istore_n (lv' := [(1, .int x49), (3, .int x23), (0, .ref a0), (2, .int v26_2)]) hx hb dX6_readAll_177 rfl hl (by decide) rfl (fun ls hl => ?_)
                  refine lv_goto (tgt := 211) hx hb dX6_readAll_178 (by decide) ?_
                  exact J211 q26 H locs ls x49 hr26 h026 ix49 ir18 hH hS (lv_sub hl [2, 0, 3] rfl)
                · refine lv_tableIn (tgt := 181) (off := 100) hx hb dX6_readAll_81 (by omega) (by omega) (by rw [c36b]; rfl) (by decide) ?_
                  refine lv_aload_n hx hb dX6_readAll_181 rfl (lv_at hl 1 rfl) ?_
                  refine th_getK S hK f34 inG6 rfl (by decide) gm_340 rfl dX6_readAll_182 ?_
                  refine lv_iconst (v := 1) hx hb dX6_readAll_185 (by decide) ?_
                  refine th_put S hK hH hS ⟨46, by decide, trf25⟩ inG4 tyX4 tyX4_ok nmX4 trf25 kd_46 rfl 17 (by decide) gm_297 rfl rfl rfl rfl (th_iv (iv_w (iv_c (by decide) : IV 1 1 1) (by decide))) (fun _ _ => trivial) (ty := .boolean) (by decide +kernel) (th_nbool (iv_w (iv_c (by decide) : IV 1 1 1) (by decide))) rfl dX6_readAll_186 (fun H locs hH hS hq1 hp1 => ?_)
                  have f51 := f34.kept (hq1 _ (th_ne t0 trf25 (by decide)))
                  have f52 := f35.kept (hq1 _ (th_ne t0 trf25 (by decide)))
                  refine lv_aload_n hx hb dX6_readAll_189 rfl (lv_at hl 1 rfl) ?_
                  refine th_getK S hK f51 inG6 rfl (by decide) gm_340 rfl dX6_readAll_190 ?_
                  refine th_get S hK hH inG4 trf25 kd_46 rfl 10 (by decide) gm_272 rfl rfl dX6_readAll_193 (fun v54 hv54 fv54 => ?_)
                  obtain ⟨rf55, rfl, trf55⟩ := th_V.ref hv54
                  refine th_get S hK hH inG7 trf55 kd_10 rfl 0 (by decide) gm_229 rfl rfl dX6_readAll_196 (fun v56 hv56 fv56 => ?_)
                  obtain ⟨rf57, rfl, trf57⟩ := th_V.ref hv56
                  refine lv_bipush (v := 41) hx hb dX6_readAll_199 (by decide) ?_
                  refine lv_iconst (v := 1) hx hb dX6_readAll_201 (by decide) ?_
                  refine th_iast S hK hH hS ⟨29, by decide, trf57⟩ trf57 kd_29 (th_in (hi := 41) (iv_w (iv_c (by decide) : IV 41 41 41) (by decide)) (by decide)) (th_iv (iv_top _)) dX6_readAll_202 (fun H locs hH hS hq1 => ?_)
                  have f58 := f51.kept (hq1 _ (th_ne t0 trf57 (by decide)))
                  have f59 := f52.kept (hq1 _ (th_ne t0 trf57 (by decide)))
                  refine lv_goto (tgt := 211) hx hb dX6_readAll_203 (by decide) ?_
                  exact J211 q26 H locs ls v26_1 hr26 h026 (iv_w ir12 (by decide)) ir18 hH hS (lv_sub hl [1, 2, 3] rfl)
            · skip
              have ir60 : IV x26 0 0 := iv_eL c28 (iv_c (by decide) : IV 0 0 0)
              have ir60a := ir60.1
              have ir60b := ir60.2
              refine lv_aload_n hx hb dX6_readAll_64 rfl (lv_at hl 1 rfl) ?_
              refine lv_iconst (v := 2) hx hb dX6_readAll_65 (by decide) ?_
              refine th_callVi (n := 1) (As := [.int 2]) S hK hH hS (th_A.sub (by decide)) (m_X6_blame l D cT T q26 hr26.1 a0 t0 (2) (iv_top _)) gm_722 gm_719 gm_721 gm_6 gm_115 (by decide +kernel) ⟨rfl, rfl, Nat.le_of_ble_eq_true rfl, Nat.le_of_ble_eq_true rfl⟩ t0 kd_2 rfl rfl hl.1 rfl (Nat.le_of_ble_eq_true rfl) dX6_readAll_66 ⟨Nat.zero_le _, Nat.zero_le _⟩ (fun x61 H locs ix61 hH hS hF1 => ?_)
              exact th_zretX S hK hH hS hr hlocks hr26 h026 (iv_w ix61 (by decide)) (th_R.i (iv_w ix61 (by decide))) dX6_readAll_69
  have J0 : ∀ (H : Heap) (locs : List Loc) (ls : Array Slot), th_H D cT T (kd q) H → va_S (th_A T [2, 29, 46, 47, 48, 49, 50, 51, 52, 53, 54, 55, 56, 57, 58, 59]) s.heap H locs → lv_has ls 4 [(0, .ref a0)] → W p l e (rmk 59 1498) s m [.ref a0].toArray below meth c H locs 0 0 (MQ below (th_QX D cT T q (th_R T (some (.inl (0, 1)))) [2, 29, 46, 47, 48, 49, 50, 51, 52, 53, 54, 55, 56, 57, 58, 59]) [.ref a0].toArray s 0 0 (th_A T [2, 29, 46, 47, 48, 49, 50, 51, 52, 53, 54, 55, 56, 57, 58, 59])) (F0 m 0 ls []) := by
    intro H locs ls hH hS hl
    refine lv_aload_n hx hb dX6_readAll_0 rfl (lv_at hl 0 rfl) ?_
    refine th_get S hK hH inG6 t0 kd_2 rfl 1 (by decide) gm_340 rfl rfl dX6_readAll_1 (fun v62 hv62 fv62 => ?_)
    obtain ⟨rf63, rfl, trf63⟩ := th_V.ref hv62
    refine th_callVX (n := 0) (As := []) S hK hH hS (th_A.sub (by decide)) (m_X4_clear l D cT T q hT hqr rf63 trf63) gm_696 gm_693 gm_694 gm_695 gm_116 (by decide +kernel) ⟨rfl, rfl, Nat.le_of_ble_eq_true rfl, Nat.le_of_ble_eq_true rfl⟩ trf63 kd_46 rfl rfl hl.1 rfl (Nat.le_of_ble_eq_true rfl) dX6_readAll_4 ⟨Nat.zero_le _, Nat.zero_le _⟩ (fun wq64 q64 H locs hvq64 hrq64 h0q64 hH hS hF1 => ?_)
    have hvq64 : wq64 = none := hvq64
    subst hvq64
    have hqq64 := hrq64.1
    show W p l e (rmk 59 1498) s m [.ref a0].toArray below meth c H locs 0 0 (MQ below (th_QX D cT T q (th_R T (some (.inl (0, 1)))) [2, 29, 46, 47, 48, 49, 50, 51, 52, 53, 54, 55, 56, 57, 58, 59]) [.ref a0].toArray s 0 0 (th_A T [2, 29, 46, 47, 48, 49, 50, 51, 52, 53, 54, 55, 56, 57, 58, 59])) (F0 m 7 ls [])
    have f65 := fv62.kept (hF1 _ fv62.lt (th_off t0 (by decide)))
    refine lv_aload_n hx hb dX6_readAll_7 rfl (lv_at hl 0 rfl) ?_
    refine lv_iconst (v := 0) hx hb dX6_readAll_8 (by decide) ?_
    refine th_put S hK hH hS ⟨2, by decide, t0⟩ inG6 tyX6 tyX6_ok nmX6 t0 kd_2 rfl 2 (by decide) gm_342 rfl rfl rfl rfl (th_iv (iv_top _)) (fun _ _ => trivial) (ty := .int) (by decide +kernel) rfl rfl dX6_readAll_9 (fun H locs hH hS hq1 hp1 => ?_)
    have f66 := hp1.2 1 _ (by decide) (by decide) f65
    have f67 := hp1.1
    refine lv_aload_n hx hb dX6_readAll_12 rfl (lv_at hl 0 rfl) ?_
    refine lv_iconst (v := 0) hx hb dX6_readAll_13 (by decide) ?_
    refine th_put S hK hH hS ⟨2, by decide, t0⟩ inG6 tyX6 tyX6_ok nmX6 t0 kd_2 rfl 4 (by decide) gm_344 rfl rfl rfl rfl (th_iv (iv_top _)) (fun _ _ => trivial) (ty := .int) (by decide +kernel) rfl rfl dX6_readAll_14 (fun H locs hH hS hq1 hp1 => ?_)
    have f68 := hp1.2 1 _ (by decide) (by decide) f66
    have f69 := hp1.2 2 _ (by decide) (by decide) f67
    refine lv_aload_n hx hb dX6_readAll_17 rfl (lv_at hl 0 rfl) ?_
    refine lv_iconst (v := (-1)) hx hb dX6_readAll_18 (by decide) ?_
    refine th_put S hK hH hS ⟨2, by decide, t0⟩ inG6 tyX6 tyX6_ok nmX6 t0 kd_2 rfl 5 (by decide) gm_346 rfl rfl rfl rfl (th_iv (iv_top _)) (fun _ _ => trivial) (ty := .int) (by decide +kernel) rfl rfl dX6_readAll_19 (fun H locs hH hS hq1 hp1 => ?_)
    have f70 := hp1.2 1 _ (by decide) (by decide) f68
    have f71 := hp1.2 2 _ (by decide) (by decide) f69
    refine lv_iconst (v := 1) hx hb dX6_readAll_22 (by decide) ?_
    refine lv_istore_n (lv' := [(1, .int 1), (0, .ref a0)]) hx hb dX6_readAll_23 rfl hl (by decide) rfl (fun ls hl => ?_)
    refine lv_iconst (v := 0) hx hb dX6_readAll_24 (by decide) ?_
    refine lv_istore_n (lv' := [(2, .int 0), (1, .int 1), (0, .ref a0)]) hx hb dX6_readAll_25 rfl hl (by decide) rfl (fun ls hl => ?_)
    exact J26 ((1601 + 1 - Int32.toInt 0).toNat + 1) q64 H locs ls 1 0 hrq64 h0q64 (iv_w (iv_c (by decide) : IV 1 1 1) (by decide)) (iv_w (iv_c (by decide) : IV 0 0 0) (by decide)) hH hS (lv_sub hl [2, 1, 0] rfl) (Nat.lt_succ_self _)
  exact J0 s.heap [] ls hH va_S.rf hl

set_option maxRecDepth 100000 in
theorem m_X8_append (l : Launch) (D : va_G) (cT : Nat → ClassId) (T : Nat → Option Nat) (q : Nat → Int) (hq : qok q) (a0 : Nat) (t0 : T a0 = some 1) (y1 : Int32) (j1 : IV y1 (-2147483648) 2147483647) : th_Met l D cT T (kd q) yX8_append cX8_append 3 none (rmk 0 0) [.ref a0, .int y1] (th_R T none) [1, 11] := by
  refine th_start (by decide) (Nat.le_of_ble_eq_true rfl) ?_
  intro p e s m below meth c ls S hK hH hr hlocks hnm hl
  have hx := S.1
  have hb := S.2.1
  have hl : lv_has ls 3 [(0, .ref a0), (1, .int y1)] := hl
  have J46 : ∀ (H : Heap) (locs : List Loc) (ls : Array Slot), th_H D cT T (kd q) H → va_S (th_A T [1, 11]) s.heap H locs → lv_has ls 3 [] → W p l e (rmk 0 0) s m [.ref a0, .int y1].toArray below meth c H locs 0 0 (MQ below (th_Q D cT T (kd q) (th_R T none) [1, 11]) [.ref a0, .int y1].toArray s 0 0 (th_A T [1, 11])) (F0 m 46 ls []) := by
    intro H locs ls hH hS hl
    exact th_vret S hK hH hS hr hlocks rfl dX8_append_46
  have J3 : ∀ (n : Nat) (H : Heap) (locs : List Loc) (ls : Array Slot) (v3_2 : Int32), IV v3_2 (-128) 24 → th_H D cT T (kd q) H → va_S (th_A T [1, 11]) s.heap H locs → lv_has ls 3 [(0, .ref a0), (1, .int y1), (2, .int v3_2)] → (v3_2.toInt + 1 - (-128)).toNat < n → W p l e (rmk 0 0) s m [.ref a0, .int y1].toArray below meth c H locs 0 0 (MQ below (th_Q D cT T (kd q) (th_R T none) [1, 11]) [.ref a0, .int y1].toArray s 0 0 (th_A T [1, 11])) (F0 m 3 ls []) := by
    intro n
    induction n with
    | zero => intro H locs ls v3_2 iv3_2 hH hS hl hn; exact absurd hn (Nat.not_lt_zero _)
    | succ n ih3 =>
      intro H locs ls v3_2 iv3_2 hH hS hl hn3
      refine lv_iload_n hx hb dX8_append_3 rfl (lv_at hl 2 rfl) ?_
      refine lv_if_lt (tgt := 46) hx hb dX8_append_4 (by decide) (fun c1 => ?_) (fun c1 => ?_)
      · skip
        have ir2 : IV v3_2 (-128) (-1) := iv_uL iv3_2 (iv_c (by decide) : IV 0 0 0) (iv_lt c1) (by decide)
        exact J46 H locs ls  hH hS (lv_sub hl [] rfl)
      · skip
        have ir3 : IV v3_2 0 24 := iv_vR (iv_c (by decide) : IV 0 0 0) iv3_2 (iv_nlt c1) (by decide)
        refine lv_aload_n hx hb dX8_append_7 rfl (lv_at hl 0 rfl) ?_
        refine th_get S hK hH inG8 t0 kd_1 rfl 4 (by decide) gm_155 rfl rfl dX8_append_8 (fun v4 hv4 fv4 => ?_)
        obtain ⟨x5, rfl, ix5⟩ := th_V.int hv4
        refine lv_sipush (v := 1600) hx hb dX8_append_11 (by decide) ?_
        refine lv_icmp_ge (tgt := 46) hx hb dX8_append_14 (by decide) (fun c6 => ?_) (fun c6 => ?_)
        · skip
          have ir7 : IV x5 1600 1600 := iv_vR (iv_c (by decide) : IV 1600 1600 1600) ix5 (iv_le c6) (by decide)
          exact J46 H locs ls  hH hS (lv_sub hl [] rfl)
        · skip
          have ir8 : IV x5 0 1599 := iv_uL ix5 (iv_c (by decide) : IV 1600 1600 1600) (iv_nle c6) (by decide)
          refine lv_aload_n hx hb dX8_append_17 rfl (lv_at hl 0 rfl) ?_
          refine th_get S hK hH inG8 t0 kd_1 rfl 0 (by decide) gm_148 rfl rfl dX8_append_18 (fun v9 hv9 fv9 => ?_)
          obtain ⟨rf10, rfl, trf10⟩ := th_V.ref hv9
          refine lv_aload_n hx hb dX8_append_21 rfl (lv_at hl 0 rfl) ?_
          refine th_getK S hK fv4 inG8 rfl (by decide) gm_155 rfl dX8_append_22 ?_
          refine lv_iload_n hx hb dX8_append_25 rfl (lv_at hl 1 rfl) ?_
          refine lv_iload_n hx hb dX8_append_26 rfl (lv_at hl 2 rfl) ?_
          refine lv_ishr hx hb dX8_append_27 ?_
          refine lv_topi (fun x12 ex12 => ?_)
          have ix12 := iv_top x12
          refine lv_i2b (v := _) hx hb dX8_append_28 rfl ?_
          refine lv_topi (fun x13 ex13 => ?_)
          have ix13 : IV x13 (-128) 127 := by rw [ex13]; exact iv_byte _
          refine th_bast S hK hH hS ⟨11, by decide, trf10⟩ trf10 kd_11 (th_in (hi := 1599) ir8 (by decide)) (fun z => th_iv (iv_nbyte z)) dX8_append_29 (fun H locs hH hS hq1 => ?_)
          have f14 := fv4.kept (hq1 _ (th_ne t0 trf10 (by decide)))
          refine lv_aload_n hx hb dX8_append_30 rfl (lv_at hl 0 rfl) ?_
          refine lv_dup hx hb dX8_append_31 rfl ?_
          refine th_getK S hK f14 inG8 rfl (by decide) gm_155 rfl dX8_append_32 ?_
          refine lv_iconst (v := 1) hx hb dX8_append_35 (by decide) ?_
          refine lv_iadd hx hb dX8_append_36 ?_
          refine lv_topi (fun x16 ex16 => ?_)
          have ix16 : IV x16 1 1600 := by rw [ex16]; exact iv_add ir8 (iv_c (by decide) : IV 1 1 1) (by decide)
          refine th_put S hK hH hS ⟨1, by decide, t0⟩ inG8 tyX8 tyX8_ok nmX8 t0 kd_1 rfl 4 (by decide) gm_155 rfl rfl rfl rfl (th_iv (iv_w ix16 (by decide))) (fun _ _ => trivial) (ty := .int) (by decide +kernel) rfl rfl dX8_append_37 (fun H locs hH hS hq1 hp1 => ?_)
          have f17 := hp1.1
          refine th_iinc S dX8_append_40 hl (k := 2) rfl (by decide) ir3 (by decide) (fun x18 ls ex18 ix18 hl => ?_)
          have hl : lv_has ls 3 [(2, .int x18), (0, .ref a0), (1, .int y1)] := hl
          have ix18 : IV x18 (-8) 16 := ix18
          refine lv_goto (tgt := 3) hx hb dX8_append_43 (by decide) ?_
          exact ih3 H locs ls x18 (iv_w ix18 (by decide)) hH hS (lv_sub hl [1, 2, 0] rfl) (th_down iv3_2 ex18 (by decide) hn3)
  have J0 : ∀ (H : Heap) (locs : List Loc) (ls : Array Slot), th_H D cT T (kd q) H → va_S (th_A T [1, 11]) s.heap H locs → lv_has ls 3 [(0, .ref a0), (1, .int y1)] → W p l e (rmk 0 0) s m [.ref a0, .int y1].toArray below meth c H locs 0 0 (MQ below (th_Q D cT T (kd q) (th_R T none) [1, 11]) [.ref a0, .int y1].toArray s 0 0 (th_A T [1, 11])) (F0 m 0 ls []) := by
    intro H locs ls hH hS hl
    refine lv_bipush (v := 24) hx hb dX8_append_0 (by decide) ?_
    refine lv_istore_n (lv' := [(2, .int 24), (0, .ref a0), (1, .int y1)]) hx hb dX8_append_2 rfl hl (by decide) rfl (fun ls hl => ?_)
    exact J3 ((Int32.toInt 24 + 1 - (-128)).toNat + 1) H locs ls 24 (iv_w (iv_c (by decide) : IV 24 24 24) (by decide)) hH hS (lv_sub hl [1, 2, 0] rfl) (Nat.lt_succ_self _)
  exact J0 s.heap [] ls hH va_S.rf hl

set_option maxRecDepth 100000 in
theorem m_X8_isLetter (l : Launch) (D : va_G) (cT : Nat → ClassId) (T : Nat → Option Nat) (q : Nat → Int) (hq : qok q) (a0 : Nat) (t0 : T a0 = some 1) (y1 : Int32) (j1 : IV y1 (-2147483648) 2147483647) : th_Met l D cT T (kd q) yX8_isLetter cX8_isLetter 2 (some .boolean) (rmk 0 0) [.ref a0, .int y1] (th_RG y1 0 1599) [] := by
  refine th_start (by decide) (Nat.le_of_ble_eq_true rfl) ?_
  intro p e s m below meth c ls S hK hH hr hlocks hnm hl
  have hx := S.1
  have hb := S.2.1
  have hl : lv_has ls 2 [(0, .ref a0), (1, .int y1)] := hl
  have J39_s0_0 : ∀ (H : Heap) (locs : List Loc) (ls : Array Slot), th_H D cT T (kd q) H → va_S (th_A T []) s.heap H locs → lv_has ls 2 [] → W p l e (rmk 0 0) s m [.ref a0, .int y1].toArray below meth c H locs 0 0 (MQ below (th_Q D cT T (kd q) (th_RG y1 0 1599) []) [.ref a0, .int y1].toArray s 0 0 (th_A T [])) (F0 m 39 ls [.int 0]) := by
    intro H locs ls hH hS hl
    exact th_zret S hK hH hS hr hlocks (iv_w (iv_c (by decide) : IV 0 0 0) (by decide)) (th_RG.i (iv_w (iv_c (by decide) : IV 0 0 0) (by decide)) (fun z => absurd rfl z)) dX8_isLetter_39
  have J39_s0_1 : ∀ (H : Heap) (locs : List Loc) (ls : Array Slot), IV y1 0 1599 → th_H D cT T (kd q) H → va_S (th_A T []) s.heap H locs → lv_has ls 2 [] → W p l e (rmk 0 0) s m [.ref a0, .int y1].toArray below meth c H locs 0 0 (MQ below (th_Q D cT T (kd q) (th_RG y1 0 1599) []) [.ref a0, .int y1].toArray s 0 0 (th_A T [])) (F0 m 39 ls [.int 1]) := by
    intro H locs ls f39_y1 hH hS hl
    exact th_zret S hK hH hS hr hlocks (iv_w (iv_c (by decide) : IV 1 1 1) (by decide)) (th_RG.i (iv_w (iv_c (by decide) : IV 1 1 1) (by decide)) (fun _ => f39_y1)) dX8_isLetter_39
  have J38 : ∀ (H : Heap) (locs : List Loc) (ls : Array Slot), th_H D cT T (kd q) H → va_S (th_A T []) s.heap H locs → lv_has ls 2 [] → W p l e (rmk 0 0) s m [.ref a0, .int y1].toArray below meth c H locs 0 0 (MQ below (th_Q D cT T (kd q) (th_RG y1 0 1599) []) [.ref a0, .int y1].toArray s 0 0 (th_A T [])) (F0 m 38 ls []) := by
    intro H locs ls hH hS hl
    refine lv_iconst (v := 0) hx hb dX8_isLetter_38 (by decide) ?_
    exact J39_s0_0 H locs ls  hH hS (lv_sub hl [] rfl)
  have J0 : ∀ (H : Heap) (locs : List Loc) (ls : Array Slot), th_H D cT T (kd q) H → va_S (th_A T []) s.heap H locs → lv_has ls 2 [(0, .ref a0), (1, .int y1)] → W p l e (rmk 0 0) s m [.ref a0, .int y1].toArray below meth c H locs 0 0 (MQ below (th_Q D cT T (kd q) (th_RG y1 0 1599) []) [.ref a0, .int y1].toArray s 0 0 (th_A T [])) (F0 m 0 ls []) := by
    intro H locs ls hH hS hl
    refine lv_iload_n hx hb dX8_isLetter_0 rfl (lv_at hl 1 rfl) ?_
    refine lv_if_lt (tgt := 38) hx hb dX8_isLetter_1 (by decide) (fun c1 => ?_) (fun c1 => ?_)
    · skip
      have ir2 : IV y1 (-2147483648) (-1) := iv_uL j1 (iv_c (by decide) : IV 0 0 0) (iv_lt c1) (by decide)
      exact J38 H locs ls  hH hS (lv_sub hl [] rfl)
    · skip
      have ir3 : IV y1 0 2147483647 := iv_vR (iv_c (by decide) : IV 0 0 0) j1 (iv_nlt c1) (by decide)
      refine lv_iload_n hx hb dX8_isLetter_4 rfl (lv_at hl 1 rfl) ?_
      refine lv_aload_n hx hb dX8_isLetter_5 rfl (lv_at hl 0 rfl) ?_
      refine th_get S hK hH inG8 t0 kd_1 rfl 4 (by decide) gm_155 rfl rfl dX8_isLetter_6 (fun v4 hv4 fv4 => ?_)
      obtain ⟨x5, rfl, ix5⟩ := th_V.int hv4
      refine lv_icmp_ge (tgt := 38) hx hb dX8_isLetter_9 (by decide) (fun c6 => ?_) (fun c6 => ?_)
      · skip
        exact J38 H locs ls  hH hS (lv_sub hl [] rfl)
      · skip
        have ir7 : IV y1 0 1599 := iv_uL ir3 ix5 (iv_nle c6) (by decide)
        have ir8 : IV x5 1 1600 := iv_uR ir3 ix5 (iv_nle c6) (by decide)
        refine lv_aload_n hx hb dX8_isLetter_12 rfl (lv_at hl 0 rfl) ?_
        refine th_get S hK hH inG8 t0 kd_1 rfl 0 (by decide) gm_148 rfl rfl dX8_isLetter_13 (fun v9 hv9 fv9 => ?_)
        obtain ⟨rf10, rfl, trf10⟩ := th_V.ref hv9
        refine lv_iload_n hx hb dX8_isLetter_16 rfl (lv_at hl 1 rfl) ?_
        refine th_bald S hK hH trf10 kd_11 (th_in (hi := 1599) ir7 (by decide)) dX8_isLetter_17 (fun v11 hv11 => ?_)
        obtain ⟨x12, rfl, ix12⟩ := th_V.int hv11
        refine lv_bipush (v := 97) hx hb dX8_isLetter_18 (by decide) ?_
        refine lv_icmp_lt (tgt := 38) hx hb dX8_isLetter_20 (by decide) (fun c13 => ?_) (fun c13 => ?_)
        · skip
          have ir14 : IV x12 (-128) 96 := iv_uL ix12 (iv_c (by decide) : IV 97 97 97) (iv_lt c13) (by decide)
          exact J38 H locs ls  hH hS (lv_sub hl [] rfl)
        · skip
          have ir15 : IV x12 97 127 := iv_vR (iv_c (by decide) : IV 97 97 97) ix12 (iv_nlt c13) (by decide)
          refine lv_aload_n hx hb dX8_isLetter_23 rfl (lv_at hl 0 rfl) ?_
          refine th_getK S hK fv9 inG8 rfl (by decide) gm_148 rfl dX8_isLetter_24 ?_
          refine lv_iload_n hx hb dX8_isLetter_27 rfl (lv_at hl 1 rfl) ?_
          refine th_bald S hK hH trf10 kd_11 (th_in (hi := 1599) ir7 (by decide)) dX8_isLetter_28 (fun v17 hv17 => ?_)
          obtain ⟨x18, rfl, ix18⟩ := th_V.int hv17
          refine lv_bipush (v := 122) hx hb dX8_isLetter_29 (by decide) ?_
          refine lv_icmp_gt (tgt := 38) hx hb dX8_isLetter_31 (by decide) (fun c19 => ?_) (fun c19 => ?_)
          · skip
            have ir20 : IV x18 123 127 := iv_uR (iv_c (by decide) : IV 122 122 122) ix18 (iv_lt c19) (by decide)
            exact J38 H locs ls  hH hS (lv_sub hl [] rfl)
          · skip
            have ir21 : IV x18 (-128) 122 := iv_vL ix18 (iv_c (by decide) : IV 122 122 122) (iv_nlt c19) (by decide)
            refine lv_iconst (v := 1) hx hb dX8_isLetter_34 (by decide) ?_
            refine lv_goto (tgt := 39) hx hb dX8_isLetter_35 (by decide) ?_
            exact J39_s0_1 H locs ls ir7 hH hS (lv_sub hl [] rfl)
  exact J0 s.heap [] ls hH va_S.rf hl

set_option maxRecDepth 100000 in
theorem m_X8_isDigit (l : Launch) (D : va_G) (cT : Nat → ClassId) (T : Nat → Option Nat) (q : Nat → Int) (hq : qok q) (a0 : Nat) (t0 : T a0 = some 1) (y1 : Int32) (j1 : IV y1 (-2147483648) 2147483647) : th_Met l D cT T (kd q) yX8_isDigit cX8_isDigit 2 (some .boolean) (rmk 0 0) [.ref a0, .int y1] (th_RG y1 0 1599) [] := by
  refine th_start (by decide) (Nat.le_of_ble_eq_true rfl) ?_
  intro p e s m below meth c ls S hK hH hr hlocks hnm hl
  have hx := S.1
  have hb := S.2.1
  have hl : lv_has ls 2 [(0, .ref a0), (1, .int y1)] := hl
  have J39_s0_0 : ∀ (H : Heap) (locs : List Loc) (ls : Array Slot), th_H D cT T (kd q) H → va_S (th_A T []) s.heap H locs → lv_has ls 2 [] → W p l e (rmk 0 0) s m [.ref a0, .int y1].toArray below meth c H locs 0 0 (MQ below (th_Q D cT T (kd q) (th_RG y1 0 1599) []) [.ref a0, .int y1].toArray s 0 0 (th_A T [])) (F0 m 39 ls [.int 0]) := by
    intro H locs ls hH hS hl
    exact th_zret S hK hH hS hr hlocks (iv_w (iv_c (by decide) : IV 0 0 0) (by decide)) (th_RG.i (iv_w (iv_c (by decide) : IV 0 0 0) (by decide)) (fun z => absurd rfl z)) dX8_isDigit_39
  have J39_s0_1 : ∀ (H : Heap) (locs : List Loc) (ls : Array Slot), IV y1 0 1599 → th_H D cT T (kd q) H → va_S (th_A T []) s.heap H locs → lv_has ls 2 [] → W p l e (rmk 0 0) s m [.ref a0, .int y1].toArray below meth c H locs 0 0 (MQ below (th_Q D cT T (kd q) (th_RG y1 0 1599) []) [.ref a0, .int y1].toArray s 0 0 (th_A T [])) (F0 m 39 ls [.int 1]) := by
    intro H locs ls f39_y1 hH hS hl
    exact th_zret S hK hH hS hr hlocks (iv_w (iv_c (by decide) : IV 1 1 1) (by decide)) (th_RG.i (iv_w (iv_c (by decide) : IV 1 1 1) (by decide)) (fun _ => f39_y1)) dX8_isDigit_39
  have J38 : ∀ (H : Heap) (locs : List Loc) (ls : Array Slot), th_H D cT T (kd q) H → va_S (th_A T []) s.heap H locs → lv_has ls 2 [] → W p l e (rmk 0 0) s m [.ref a0, .int y1].toArray below meth c H locs 0 0 (MQ below (th_Q D cT T (kd q) (th_RG y1 0 1599) []) [.ref a0, .int y1].toArray s 0 0 (th_A T [])) (F0 m 38 ls []) := by
    intro H locs ls hH hS hl
    refine lv_iconst (v := 0) hx hb dX8_isDigit_38 (by decide) ?_
    exact J39_s0_0 H locs ls  hH hS (lv_sub hl [] rfl)
  have J0 : ∀ (H : Heap) (locs : List Loc) (ls : Array Slot), th_H D cT T (kd q) H → va_S (th_A T []) s.heap H locs → lv_has ls 2 [(0, .ref a0), (1, .int y1)] → W p l e (rmk 0 0) s m [.ref a0, .int y1].toArray below meth c H locs 0 0 (MQ below (th_Q D cT T (kd q) (th_RG y1 0 1599) []) [.ref a0, .int y1].toArray s 0 0 (th_A T [])) (F0 m 0 ls []) := by
    intro H locs ls hH hS hl
    refine lv_iload_n hx hb dX8_isDigit_0 rfl (lv_at hl 1 rfl) ?_
    refine lv_if_lt (tgt := 38) hx hb dX8_isDigit_1 (by decide) (fun c1 => ?_) (fun c1 => ?_)
    · skip
      have ir2 : IV y1 (-2147483648) (-1) := iv_uL j1 (iv_c (by decide) : IV 0 0 0) (iv_lt c1) (by decide)
      exact J38 H locs ls  hH hS (lv_sub hl [] rfl)
    · skip
      have ir3 : IV y1 0 2147483647 := iv_vR (iv_c (by decide) : IV 0 0 0) j1 (iv_nlt c1) (by decide)
      refine lv_iload_n hx hb dX8_isDigit_4 rfl (lv_at hl 1 rfl) ?_
      refine lv_aload_n hx hb dX8_isDigit_5 rfl (lv_at hl 0 rfl) ?_
      refine th_get S hK hH inG8 t0 kd_1 rfl 4 (by decide) gm_155 rfl rfl dX8_isDigit_6 (fun v4 hv4 fv4 => ?_)
      obtain ⟨x5, rfl, ix5⟩ := th_V.int hv4
      refine lv_icmp_ge (tgt := 38) hx hb dX8_isDigit_9 (by decide) (fun c6 => ?_) (fun c6 => ?_)
      · skip
        exact J38 H locs ls  hH hS (lv_sub hl [] rfl)
      · skip
        have ir7 : IV y1 0 1599 := iv_uL ir3 ix5 (iv_nle c6) (by decide)
        have ir8 : IV x5 1 1600 := iv_uR ir3 ix5 (iv_nle c6) (by decide)
        refine lv_aload_n hx hb dX8_isDigit_12 rfl (lv_at hl 0 rfl) ?_
        refine th_get S hK hH inG8 t0 kd_1 rfl 0 (by decide) gm_148 rfl rfl dX8_isDigit_13 (fun v9 hv9 fv9 => ?_)
        obtain ⟨rf10, rfl, trf10⟩ := th_V.ref hv9
        refine lv_iload_n hx hb dX8_isDigit_16 rfl (lv_at hl 1 rfl) ?_
        refine th_bald S hK hH trf10 kd_11 (th_in (hi := 1599) ir7 (by decide)) dX8_isDigit_17 (fun v11 hv11 => ?_)
        obtain ⟨x12, rfl, ix12⟩ := th_V.int hv11
        refine lv_bipush (v := 48) hx hb dX8_isDigit_18 (by decide) ?_
        refine lv_icmp_lt (tgt := 38) hx hb dX8_isDigit_20 (by decide) (fun c13 => ?_) (fun c13 => ?_)
        · skip
          have ir14 : IV x12 (-128) 47 := iv_uL ix12 (iv_c (by decide) : IV 48 48 48) (iv_lt c13) (by decide)
          exact J38 H locs ls  hH hS (lv_sub hl [] rfl)
        · skip
          have ir15 : IV x12 48 127 := iv_vR (iv_c (by decide) : IV 48 48 48) ix12 (iv_nlt c13) (by decide)
          refine lv_aload_n hx hb dX8_isDigit_23 rfl (lv_at hl 0 rfl) ?_
          refine th_getK S hK fv9 inG8 rfl (by decide) gm_148 rfl dX8_isDigit_24 ?_
          refine lv_iload_n hx hb dX8_isDigit_27 rfl (lv_at hl 1 rfl) ?_
          refine th_bald S hK hH trf10 kd_11 (th_in (hi := 1599) ir7 (by decide)) dX8_isDigit_28 (fun v17 hv17 => ?_)
          obtain ⟨x18, rfl, ix18⟩ := th_V.int hv17
          refine lv_bipush (v := 57) hx hb dX8_isDigit_29 (by decide) ?_
          refine lv_icmp_gt (tgt := 38) hx hb dX8_isDigit_31 (by decide) (fun c19 => ?_) (fun c19 => ?_)
          · skip
            have ir20 : IV x18 58 127 := iv_uR (iv_c (by decide) : IV 57 57 57) ix18 (iv_lt c19) (by decide)
            exact J38 H locs ls  hH hS (lv_sub hl [] rfl)
          · skip
            have ir21 : IV x18 (-128) 57 := iv_vL ix18 (iv_c (by decide) : IV 57 57 57) (iv_nlt c19) (by decide)
            refine lv_iconst (v := 1) hx hb dX8_isDigit_34 (by decide) ?_
            refine lv_goto (tgt := 39) hx hb dX8_isDigit_35 (by decide) ?_
            exact J39_s0_1 H locs ls ir7 hH hS (lv_sub hl [] rfl)
  exact J0 s.heap [] ls hH va_S.rf hl

set_option maxRecDepth 100000 in
theorem m_X8_addToken (l : Launch) (D : va_G) (cT : Nat → ClassId) (T : Nat → Option Nat) (q : Nat → Int) (hq : qok q) (a0 : Nat) (t0 : T a0 = some 1) (y1 : Int32) (j1 : IV y1 (-2147483648) 2147483647) (y2 : Int32) (j2 : IV y2 (-2147483648) 2147483647) (y3 : Int64) : th_Met l D cT T (kd q) yX8_addToken cX8_addToken 5 none (rmk 0 0) [.ref a0, .int y1, .int y2, .long y3] (th_R T none) [1, 12, 13, 14] := by
  refine th_start (by decide) (Nat.le_of_ble_eq_true rfl) ?_
  intro p e s m below meth c ls S hK hH hr hlocks hnm hl
  have hx := S.1
  have hb := S.2.1
  have hl : lv_has ls 5 [(0, .ref a0), (1, .int y1), (2, .int y2), (3, .long y3)] := hl
  have J52 : ∀ (H : Heap) (locs : List Loc) (ls : Array Slot) (u52_a0_5 : Int32), IV u52_a0_5 1 1601 → th_fa D H a0 8 5 (.int u52_a0_5) → th_H D cT T (kd q) H → va_S (th_A T [1, 12, 13, 14]) s.heap H locs → lv_has ls 5 [] → W p l e (rmk 0 0) s m [.ref a0, .int y1, .int y2, .long y3].toArray below meth c H locs 0 0 (MQ below (th_Q D cT T (kd q) (th_R T none) [1, 12, 13, 14]) [.ref a0, .int y1, .int y2, .long y3].toArray s 0 0 (th_A T [1, 12, 13, 14])) (F0 m 52 ls []) := by
    intro H locs ls u52_a0_5 iu52_a0_5 gu52_a0_5 hH hS hl
    exact th_vret S hK hH hS hr hlocks rfl dX8_addToken_52
  have J0 : ∀ (H : Heap) (locs : List Loc) (ls : Array Slot), th_H D cT T (kd q) H → va_S (th_A T [1, 12, 13, 14]) s.heap H locs → lv_has ls 5 [(0, .ref a0), (1, .int y1), (2, .int y2), (3, .long y3)] → W p l e (rmk 0 0) s m [.ref a0, .int y1, .int y2, .long y3].toArray below meth c H locs 0 0 (MQ below (th_Q D cT T (kd q) (th_R T none) [1, 12, 13, 14]) [.ref a0, .int y1, .int y2, .long y3].toArray s 0 0 (th_A T [1, 12, 13, 14])) (F0 m 0 ls []) := by
    intro H locs ls hH hS hl
    refine lv_aload_n hx hb dX8_addToken_0 rfl (lv_at hl 0 rfl) ?_
    refine th_get S hK hH inG8 t0 kd_1 rfl 5 (by decide) gm_158 rfl rfl dX8_addToken_1 (fun v1 hv1 fv1 => ?_)
    obtain ⟨x2, rfl, ix2⟩ := th_V.int hv1
    refine lv_aload_n hx hb dX8_addToken_4 rfl (lv_at hl 0 rfl) ?_
    refine th_get S hK hH inG8 t0 kd_1 rfl 1 (by decide) gm_149 rfl rfl dX8_addToken_5 (fun v3 hv3 fv3 => ?_)
    obtain ⟨rf4, rfl, trf4⟩ := th_V.ref hv3
    refine th_alen S hK hH trf4 kd_12 rfl (v := 1601) (by decide) dX8_addToken_8 ?_
    refine lv_icmp_ge (tgt := 52) hx hb dX8_addToken_9 (by decide) (fun c5 => ?_) (fun c5 => ?_)
    · skip
      have ir6 : IV x2 1601 1601 := iv_vR (iv_c (by decide) : IV 1601 1601 1601) ix2 (iv_le c5) (by decide)
      exact J52 H locs ls x2 (iv_w ir6 (by decide)) fv1 hH hS (lv_sub hl [] rfl)
    · skip
      have ir7 : IV x2 0 1600 := iv_uL ix2 (iv_c (by decide) : IV 1601 1601 1601) (iv_nle c5) (by decide)
      refine lv_aload_n hx hb dX8_addToken_12 rfl (lv_at hl 0 rfl) ?_
      refine th_getK S hK fv3 inG8 rfl (by decide) gm_149 rfl dX8_addToken_13 ?_
      refine lv_aload_n hx hb dX8_addToken_16 rfl (lv_at hl 0 rfl) ?_
      refine th_getK S hK fv1 inG8 rfl (by decide) gm_158 rfl dX8_addToken_17 ?_
      refine lv_iload_n hx hb dX8_addToken_20 rfl (lv_at hl 1 rfl) ?_
      refine th_iast S hK hH hS ⟨12, by decide, trf4⟩ trf4 kd_12 (th_in (hi := 1600) ir7 (by decide)) (th_iv j1) dX8_addToken_21 (fun H locs hH hS hq1 => ?_)
      have f10 := fv1.kept (hq1 _ (th_ne t0 trf4 (by decide)))
      have f11 := fv3.kept (hq1 _ (th_ne t0 trf4 (by decide)))
      refine lv_aload_n hx hb dX8_addToken_22 rfl (lv_at hl 0 rfl) ?_
      refine th_get S hK hH inG8 t0 kd_1 rfl 2 (by decide) gm_151 rfl rfl dX8_addToken_23 (fun v12 hv12 fv12 => ?_)
      obtain ⟨rf13, rfl, trf13⟩ := th_V.ref hv12
      refine lv_aload_n hx hb dX8_addToken_26 rfl (lv_at hl 0 rfl) ?_
      refine th_getK S hK f10 inG8 rfl (by decide) gm_158 rfl dX8_addToken_27 ?_
      refine lv_iload_n hx hb dX8_addToken_30 rfl (lv_at hl 2 rfl) ?_
      refine th_iast S hK hH hS ⟨13, by decide, trf13⟩ trf13 kd_13 (th_in (hi := 1600) ir7 (by decide)) (th_iv j2) dX8_addToken_31 (fun H locs hH hS hq1 => ?_)
      have f15 := f10.kept (hq1 _ (th_ne t0 trf13 (by decide)))
      have f16 := f11.kept (hq1 _ (th_ne t0 trf13 (by decide)))
      refine lv_aload_n hx hb dX8_addToken_32 rfl (lv_at hl 0 rfl) ?_
      refine th_get S hK hH inG8 t0 kd_1 rfl 3 (by decide) gm_153 rfl rfl dX8_addToken_33 (fun v17 hv17 fv17 => ?_)
      obtain ⟨rf18, rfl, trf18⟩ := th_V.ref hv17
      refine lv_aload_n hx hb dX8_addToken_36 rfl (lv_at hl 0 rfl) ?_
      refine th_getK S hK f15 inG8 rfl (by decide) gm_158 rfl dX8_addToken_37 ?_
      refine lv_lload_n hx hb dX8_addToken_40 rfl (lv_at hl 3 rfl) ?_
      refine th_last S hK hH hS ⟨14, by decide, trf18⟩ trf18 kd_14 (th_in (hi := 1600) ir7 (by decide)) (th_lg _) dX8_addToken_41 (fun H locs hH hS hq1 => ?_)
      have f20 := f15.kept (hq1 _ (th_ne t0 trf18 (by decide)))
      have f21 := f16.kept (hq1 _ (th_ne t0 trf18 (by decide)))
      refine lv_aload_n hx hb dX8_addToken_42 rfl (lv_at hl 0 rfl) ?_
      refine lv_dup hx hb dX8_addToken_43 rfl ?_
      refine th_getK S hK f20 inG8 rfl (by decide) gm_158 rfl dX8_addToken_44 ?_
      refine lv_iconst (v := 1) hx hb dX8_addToken_47 (by decide) ?_
      refine lv_iadd hx hb dX8_addToken_48 ?_
      refine lv_topi (fun x23 ex23 => ?_)
      have ix23 : IV x23 1 1601 := by rw [ex23]; exact iv_add ir7 (iv_c (by decide) : IV 1 1 1) (by decide)
      refine th_put S hK hH hS ⟨1, by decide, t0⟩ inG8 tyX8 tyX8_ok nmX8 t0 kd_1 rfl 5 (by decide) gm_158 rfl rfl rfl rfl (th_iv (iv_w ix23 (by decide))) (fun _ _ => trivial) (ty := .int) (by decide +kernel) rfl rfl dX8_addToken_49 (fun H locs hH hS hq1 hp1 => ?_)
      have f24 := hp1.2 1 _ (by decide) (by decide) f21
      have f25 := hp1.1
      exact J52 H locs ls x23 ix23 f25 hH hS (lv_sub hl [] rfl)
  exact J0 s.heap [] ls hH va_S.rf hl

set_option maxRecDepth 100000 in
theorem m_X8_scanNumber (l : Launch) (D : va_G) (cT : Nat → ClassId) (T : Nat → Option Nat) (q : Nat → Int) (hq : qok q) (a0 : Nat) (t0 : T a0 = some 1) (y1 : Int32) (j1 : IV y1 0 1599) : th_Met l D cT T (kd q) yX8_scanNumber cX8_scanNumber 4 (some .int) (rmk 1 24) [.ref a0, .int y1] (th_R T (some (.inl (1, 4)))) [1, 12, 13, 14] := by
  refine th_start (by decide) (Nat.le_of_ble_eq_true rfl) ?_
  intro p e s m below meth c ls S hK hH hr hlocks hnm hl
  have hx := S.1
  have hb := S.2.1
  have hl : lv_has ls 4 [(0, .ref a0), (1, .int y1)] := hl
  have J42 : ∀ (H : Heap) (locs : List Loc) (ls : Array Slot) (v42_2 : Int32) (v42_3 : Int32), IV v42_2 (-2147483648) 2147483647 → IV v42_3 0 4 → th_H D cT T (kd q) H → va_S (th_A T [1, 12, 13, 14]) s.heap H locs → lv_has ls 4 [(0, .ref a0), (1, .int y1), (2, .int v42_2), (3, .int v42_3)] → W p l e (rmk 1 24) s m [.ref a0, .int y1].toArray below meth c H locs 0 0 (MQ below (th_Q D cT T (kd q) (th_R T (some (.inl (1, 4)))) [1, 12, 13, 14]) [.ref a0, .int y1].toArray s 0 0 (th_A T [1, 12, 13, 14])) (F0 m 42 ls []) := by
    intro H locs ls v42_2 v42_3 iv42_2 iv42_3 hH hS hl
    refine lv_aload_n hx hb dX8_scanNumber_42 rfl (lv_at hl 0 rfl) ?_
    refine lv_iconst (v := 3) hx hb dX8_scanNumber_43 (by decide) ?_
    refine lv_iload_n hx hb dX8_scanNumber_44 rfl (lv_at hl 1 rfl) ?_
    refine lv_iload_n hx hb dX8_scanNumber_45 rfl (lv_at hl 2 rfl) ?_
    refine lv_i2l (v := _) hx hb dX8_scanNumber_46 rfl ?_
    refine lv_topl (fun lg1 elg1 => ?_)
    refine th_callVv (n := 3) (As := [.int 3, .int y1, .long lg1]) S hK hH hS (th_A.sub (by decide)) (m_X8_addToken l D cT T q hq a0 t0 (3) (iv_top _) (y1) (iv_top _) (lg1)) gm_623 gm_620 gm_622 gm_3 gm_114 (by decide +kernel) ⟨rfl, rfl, Nat.le_of_ble_eq_true rfl, Nat.le_of_ble_eq_true rfl⟩ t0 kd_1 rfl rfl hl.1 rfl (Nat.le_of_ble_eq_true rfl) dX8_scanNumber_47 ⟨Nat.zero_le _, Nat.zero_le _⟩ (fun H locs hH hS hF1 => ?_)
    refine lv_iconst (v := 1) hx hb dX8_scanNumber_50 (by decide) ?_
    refine lv_iload_n hx hb dX8_scanNumber_51 rfl (lv_at hl 3 rfl) ?_
    refine va_mmax hx hb (S.2.2.1.trans hl.1.symm) S.2.2.2.1 (S.2.2.2.2 _ gm_624) (S.2.2.2.2 _ gm_625) (S.2.2.2.2 _ gm_129) (S.2.2.2.2 _ gm_626) (Nat.le_of_ble_eq_true rfl) (Nat.le_of_ble_eq_true rfl) (Nat.zero_le _) (Nat.zero_le _) dX8_scanNumber_52 ?_
    refine lv_topi (fun x2 ex2 => ?_)
    have ix2 : IV x2 1 4 := by rw [ex2]; exact iv_max (iv_c (by decide) : IV 1 1 1) iv42_3 (by decide)
    exact th_iret S hK hH hS hr hlocks (th_R.i ix2) dX8_scanNumber_55
  have J4 : ∀ (n : Nat) (H : Heap) (locs : List Loc) (ls : Array Slot) (v4_2 : Int32) (v4_3 : Int32), IV v4_2 (-2147483648) 2147483647 → IV v4_3 0 4 → th_H D cT T (kd q) H → va_S (th_A T [1, 12, 13, 14]) s.heap H locs → lv_has ls 4 [(0, .ref a0), (1, .int y1), (2, .int v4_2), (3, .int v4_3)] → (4 + 1 - v4_3.toInt).toNat < n → W p l e (rmk 1 24) s m [.ref a0, .int y1].toArray below meth c H locs 0 0 (MQ below (th_Q D cT T (kd q) (th_R T (some (.inl (1, 4)))) [1, 12, 13, 14]) [.ref a0, .int y1].toArray s 0 0 (th_A T [1, 12, 13, 14])) (F0 m 4 ls []) := by
    intro n
    induction n with
    | zero => intro H locs ls v4_2 v4_3 iv4_2 iv4_3 hH hS hl hn; exact absurd hn (Nat.not_lt_zero _)
    | succ n ih4 =>
      intro H locs ls v4_2 v4_3 iv4_2 iv4_3 hH hS hl hn4
      refine lv_iload_n hx hb dX8_scanNumber_4 rfl (lv_at hl 3 rfl) ?_
      refine lv_iconst (v := 4) hx hb dX8_scanNumber_5 (by decide) ?_
      refine lv_icmp_ge (tgt := 42) hx hb dX8_scanNumber_6 (by decide) (fun c3 => ?_) (fun c3 => ?_)
      · skip
        have ir4 : IV v4_3 4 4 := iv_vR (iv_c (by decide) : IV 4 4 4) iv4_3 (iv_le c3) (by decide)
        exact J42 H locs ls v4_2 v4_3 iv4_2 (iv_w ir4 (by decide)) hH hS (lv_sub hl [0, 1, 2, 3] rfl)
      · skip
        have ir5 : IV v4_3 0 3 := iv_uL iv4_3 (iv_c (by decide) : IV 4 4 4) (iv_nle c3) (by decide)
        refine lv_aload_n hx hb dX8_scanNumber_9 rfl (lv_at hl 0 rfl) ?_
        refine lv_iload_n hx hb dX8_scanNumber_10 rfl (lv_at hl 1 rfl) ?_
        refine lv_iload_n hx hb dX8_scanNumber_11 rfl (lv_at hl 3 rfl) ?_
        refine lv_iadd hx hb dX8_scanNumber_12 ?_
        refine lv_topi (fun x6 ex6 => ?_)
        have ix6 : IV x6 0 1602 := by rw [ex6]; exact iv_add j1 ir5 (by decide)
        refine th_callVg (n := 1) (As := [.int x6]) S hK hH hS (th_A.sub (by decide)) (m_X8_isDigit l D cT T q hq a0 t0 (x6) (iv_top _)) gm_563 gm_560 gm_562 gm_1 gm_114 (by decide +kernel) ⟨rfl, rfl, Nat.le_of_ble_eq_true rfl, Nat.le_of_ble_eq_true rfl⟩ t0 kd_1 rfl rfl hl.1 rfl (Nat.le_of_ble_eq_true rfl) dX8_scanNumber_13 ⟨Nat.zero_le _, Nat.zero_le _⟩ (fun x7 H locs ix7 ox7 hH hS hF1 => ?_)
        refine lv_if_eq (tgt := 42) hx hb dX8_scanNumber_16 (by decide) (fun c8 => ?_) (fun c8 => ?_)
        · skip
          have ir9 : IV x7 0 0 := iv_eL c8 (iv_c (by decide) : IV 0 0 0)
          exact J42 H locs ls v4_2 v4_3 iv4_2 (iv_w ir5 (by decide)) hH hS (lv_sub hl [0, 1, 2, 3] rfl)
        · skip
          have ir10 : IV x7 1 1 := iv_cutL ix7 (iv_c (by decide) : IV 0 0 0) c8 (by decide)
          have ir11 : IV x6 0 1599 := ox7 c8
          refine lv_iload_n hx hb dX8_scanNumber_19 rfl (lv_at hl 2 rfl) ?_
          refine lv_bipush (v := 10) hx hb dX8_scanNumber_20 (by decide) ?_
          refine lv_imul hx hb dX8_scanNumber_22 ?_
          refine lv_topi (fun x12 ex12 => ?_)
          have ix12 := iv_top x12
          refine lv_aload_n hx hb dX8_scanNumber_23 rfl (lv_at hl 0 rfl) ?_
          refine th_get S hK hH inG8 t0 kd_1 rfl 0 (by decide) gm_148 rfl rfl dX8_scanNumber_24 (fun v13 hv13 fv13 => ?_)
          obtain ⟨rf14, rfl, trf14⟩ := th_V.ref hv13
          refine lv_iload_n hx hb dX8_scanNumber_27 rfl (lv_at hl 1 rfl) ?_
          refine lv_iload_n hx hb dX8_scanNumber_28 rfl (lv_at hl 3 rfl) ?_
          refine lv_iadd hx hb dX8_scanNumber_29 ?_
          refine lv_topi (fun x15 ex15 => ?_)
          have zx15 : x6 = x15 := ex6.trans ex15.symm
          subst zx15
          refine th_bald S hK hH trf14 kd_11 (th_in (hi := 1599) ir11 (by decide)) dX8_scanNumber_30 (fun v16 hv16 => ?_)
          obtain ⟨x17, rfl, ix17⟩ := th_V.int hv16
          refine lv_iadd hx hb dX8_scanNumber_31 ?_
          refine lv_topi (fun x18 ex18 => ?_)
          have ix18 := iv_top x18
          refine lv_bipush (v := 48) hx hb dX8_scanNumber_32 (by decide) ?_
          refine lv_isub hx hb dX8_scanNumber_34 ?_
          refine lv_topi (fun x19 ex19 => ?_)
          have ix19 := iv_top x19
          refine lv_istore_n (lv' := [(2, .int x19), (0, .ref a0), (1, .int y1), (3, .int v4_3)]) hx hb dX8_scanNumber_35 rfl hl (by decide) rfl (fun ls hl => ?_)
          refine th_iinc S dX8_scanNumber_36 hl (k := 3) rfl (by decide) ir5 (by decide) (fun x20 ls ex20 ix20 hl => ?_)
          have hl : lv_has ls 4 [(3, .int x20), (2, .int x19), (0, .ref a0), (1, .int y1)] := hl
          have ix20 : IV x20 1 4 := ix20
          refine lv_goto (tgt := 4) hx hb dX8_scanNumber_39 (by decide) ?_
          exact ih4 H locs ls x19 x20 ix19 (iv_w ix20 (by decide)) hH hS (lv_sub hl [2, 3, 1, 0] rfl) (th_up iv4_3 ex20 (by decide) hn4)
  have J0 : ∀ (H : Heap) (locs : List Loc) (ls : Array Slot), th_H D cT T (kd q) H → va_S (th_A T [1, 12, 13, 14]) s.heap H locs → lv_has ls 4 [(0, .ref a0), (1, .int y1)] → W p l e (rmk 1 24) s m [.ref a0, .int y1].toArray below meth c H locs 0 0 (MQ below (th_Q D cT T (kd q) (th_R T (some (.inl (1, 4)))) [1, 12, 13, 14]) [.ref a0, .int y1].toArray s 0 0 (th_A T [1, 12, 13, 14])) (F0 m 0 ls []) := by
    intro H locs ls hH hS hl
    refine lv_iconst (v := 0) hx hb dX8_scanNumber_0 (by decide) ?_
    refine lv_istore_n (lv' := [(2, .int 0), (0, .ref a0), (1, .int y1)]) hx hb dX8_scanNumber_1 rfl hl (by decide) rfl (fun ls hl => ?_)
    refine lv_iconst (v := 0) hx hb dX8_scanNumber_2 (by decide) ?_
    refine lv_istore_n (lv' := [(3, .int 0), (2, .int 0), (0, .ref a0), (1, .int y1)]) hx hb dX8_scanNumber_3 rfl hl (by decide) rfl (fun ls hl => ?_)
    exact J4 ((4 + 1 - Int32.toInt 0).toNat + 1) H locs ls 0 0 (iv_top _) (iv_w (iv_c (by decide) : IV 0 0 0) (by decide)) hH hS (lv_sub hl [2, 3, 1, 0] rfl) (Nat.lt_succ_self _)
  exact J0 s.heap [] ls hH va_S.rf hl

set_option maxRecDepth 100000 in
theorem m_X9_tell (l : Launch) (D : va_G) (cT : Nat → ClassId) (T : Nat → Option Nat) (q : Nat → Int) (hq : qok q) (a0 : Nat) (t0 : T a0 = some 8) (y1 : Int32) (j1 : IV y1 (-2147483648) 2147483647) (y2 : Int32) (j2 : IV y2 (-2147483648) 2147483647) (y3 : Int32) (j3 : IV y3 (-2147483648) 2147483647) (y4 : Int32) (j4 : IV y4 (-2147483648) 2147483647) (y5 : Int32) (j5 : IV y5 0 1) : th_Met l D cT T (kd q) yX9_tell cX9_tell 6 (some .int) (rmk 0 0) [.ref a0, .int y1, .int y2, .int y3, .int y4, .int y5] (th_R T (some (.inl (-1, 29)))) [8, 40, 41, 42, 43, 44] := by
  refine th_start (by decide) (Nat.le_of_ble_eq_true rfl) ?_
  intro p e s m below meth c ls S hK hH hr hlocks hnm hl
  have hx := S.1
  have hb := S.2.1
  have hl : lv_has ls 6 [(0, .ref a0), (1, .int y1), (2, .int y2), (3, .int y3), (4, .int y4), (5, .int y5)] := hl
  have J0 : ∀ (H : Heap) (locs : List Loc) (ls : Array Slot), th_H D cT T (kd q) H → va_S (th_A T [8, 40, 41, 42, 43, 44]) s.heap H locs → lv_has ls 6 [(0, .ref a0), (1, .int y1), (2, .int y2), (3, .int y3), (4, .int y4), (5, .int y5)] → W p l e (rmk 0 0) s m [.ref a0, .int y1, .int y2, .int y3, .int y4, .int y5].toArray below meth c H locs 0 0 (MQ below (th_Q D cT T (kd q) (th_R T (some (.inl (-1, 29)))) [8, 40, 41, 42, 43, 44]) [.ref a0, .int y1, .int y2, .int y3, .int y4, .int y5].toArray s 0 0 (th_A T [8, 40, 41, 42, 43, 44])) (F0 m 0 ls []) := by
    intro H locs ls hH hS hl
    refine lv_aload_n hx hb dX9_tell_0 rfl (lv_at hl 0 rfl) ?_
    refine th_get S hK hH inG9 t0 kd_8 rfl 6 (by decide) gm_481 rfl rfl dX9_tell_1 (fun v1 hv1 fv1 => ?_)
    obtain ⟨x2, rfl, ix2⟩ := th_V.int hv1
    refine lv_bipush (v := 30) hx hb dX9_tell_4 (by decide) ?_
    refine lv_icmp_lt (tgt := 11) hx hb dX9_tell_6 (by decide) (fun c3 => ?_) (fun c3 => ?_)
    · skip
      have ir4 : IV x2 0 29 := iv_uL ix2 (iv_c (by decide) : IV 30 30 30) (iv_lt c3) (by decide)
      refine lv_aload_n hx hb dX9_tell_11 rfl (lv_at hl 0 rfl) ?_
      refine th_get S hK hH inG9 t0 kd_8 rfl 0 (by decide) gm_475 rfl rfl dX9_tell_12 (fun v5 hv5 fv5 => ?_)
      obtain ⟨rf6, rfl, trf6⟩ := th_V.ref hv5
      refine lv_aload_n hx hb dX9_tell_15 rfl (lv_at hl 0 rfl) ?_
      refine th_getK S hK fv1 inG9 rfl (by decide) gm_481 rfl dX9_tell_16 ?_
      refine lv_iconst (v := 3) hx hb dX9_tell_19 (by decide) ?_
      refine lv_imul hx hb dX9_tell_20 ?_
      refine lv_topi (fun x8 ex8 => ?_)
      have ix8 : IV x8 0 87 := by rw [ex8]; exact iv_mul ir4 (iv_c (by decide) : IV 3 3 3) (by decide) (by decide)
      refine lv_iload_n hx hb dX9_tell_21 rfl (lv_at hl 1 rfl) ?_
      refine th_iast S hK hH hS ⟨40, by decide, trf6⟩ trf6 kd_40 (th_in (hi := 87) ix8 (by decide)) (th_iv j1) dX9_tell_22 (fun H locs hH hS hq1 => ?_)
      have f9 := fv1.kept (hq1 _ (th_ne t0 trf6 (by decide)))
      have f10 := fv5.kept (hq1 _ (th_ne t0 trf6 (by decide)))
      refine lv_aload_n hx hb dX9_tell_23 rfl (lv_at hl 0 rfl) ?_
      refine th_getK S hK f10 inG9 rfl (by decide) gm_475 rfl dX9_tell_24 ?_
      refine lv_aload_n hx hb dX9_tell_27 rfl (lv_at hl 0 rfl) ?_
      refine th_getK S hK f9 inG9 rfl (by decide) gm_481 rfl dX9_tell_28 ?_
      refine lv_iconst (v := 3) hx hb dX9_tell_31 (by decide) ?_
      refine lv_imul hx hb dX9_tell_32 ?_
      refine lv_topi (fun x13 ex13 => ?_)
      have zx13 : x8 = x13 := ex8.trans ex13.symm
      subst zx13
      refine lv_iconst (v := 1) hx hb dX9_tell_33 (by decide) ?_
      refine lv_iadd hx hb dX9_tell_34 ?_
      refine lv_topi (fun x14 ex14 => ?_)
      have ix14 : IV x14 1 88 := by rw [ex14]; exact iv_add ix8 (iv_c (by decide) : IV 1 1 1) (by decide)
      refine lv_iload_n hx hb dX9_tell_35 rfl (lv_at hl 2 rfl) ?_
      refine th_iast S hK hH hS ⟨40, by decide, trf6⟩ trf6 kd_40 (th_in (hi := 88) (iv_w ix14 (by decide)) (by decide)) (th_iv j2) dX9_tell_36 (fun H locs hH hS hq1 => ?_)
      have f15 := f9.kept (hq1 _ (th_ne t0 trf6 (by decide)))
      have f16 := f10.kept (hq1 _ (th_ne t0 trf6 (by decide)))
      refine lv_aload_n hx hb dX9_tell_37 rfl (lv_at hl 0 rfl) ?_
      refine th_getK S hK f16 inG9 rfl (by decide) gm_475 rfl dX9_tell_38 ?_
      refine lv_aload_n hx hb dX9_tell_41 rfl (lv_at hl 0 rfl) ?_
      refine th_getK S hK f15 inG9 rfl (by decide) gm_481 rfl dX9_tell_42 ?_
      refine lv_iconst (v := 3) hx hb dX9_tell_45 (by decide) ?_
      refine lv_imul hx hb dX9_tell_46 ?_
      refine lv_topi (fun x19 ex19 => ?_)
      have zx19 : x8 = x19 := ex8.trans ex19.symm
      subst zx19
      refine lv_iconst (v := 2) hx hb dX9_tell_47 (by decide) ?_
      refine lv_iadd hx hb dX9_tell_48 ?_
      refine lv_topi (fun x20 ex20 => ?_)
      have ix20 : IV x20 2 89 := by rw [ex20]; exact iv_add ix8 (iv_c (by decide) : IV 2 2 2) (by decide)
      refine lv_iload_n hx hb dX9_tell_49 rfl (lv_at hl 3 rfl) ?_
      refine th_iast S hK hH hS ⟨40, by decide, trf6⟩ trf6 kd_40 (th_in (hi := 89) (iv_w ix20 (by decide)) (by decide)) (th_iv j3) dX9_tell_50 (fun H locs hH hS hq1 => ?_)
      have f21 := f15.kept (hq1 _ (th_ne t0 trf6 (by decide)))
      have f22 := f16.kept (hq1 _ (th_ne t0 trf6 (by decide)))
      refine lv_aload_n hx hb dX9_tell_51 rfl (lv_at hl 0 rfl) ?_
      refine th_get S hK hH inG9 t0 kd_8 rfl 1 (by decide) gm_476 rfl rfl dX9_tell_52 (fun v23 hv23 fv23 => ?_)
      obtain ⟨rf24, rfl, trf24⟩ := th_V.ref hv23
      refine lv_aload_n hx hb dX9_tell_55 rfl (lv_at hl 0 rfl) ?_
      refine th_getK S hK f21 inG9 rfl (by decide) gm_481 rfl dX9_tell_56 ?_
      refine lv_iload hx hb dX9_tell_59 (lv_at hl 4 rfl) ?_
      refine th_iast S hK hH hS ⟨41, by decide, trf24⟩ trf24 kd_41 (th_in (hi := 29) ir4 (by decide)) (th_iv j4) dX9_tell_61 (fun H locs hH hS hq1 => ?_)
      have f26 := f21.kept (hq1 _ (th_ne t0 trf24 (by decide)))
      have f27 := f22.kept (hq1 _ (th_ne t0 trf24 (by decide)))
      refine lv_aload_n hx hb dX9_tell_62 rfl (lv_at hl 0 rfl) ?_
      refine th_get S hK hH inG9 t0 kd_8 rfl 2 (by decide) gm_477 rfl rfl dX9_tell_63 (fun v28 hv28 fv28 => ?_)
      obtain ⟨rf29, rfl, trf29⟩ := th_V.ref hv28
      refine lv_aload_n hx hb dX9_tell_66 rfl (lv_at hl 0 rfl) ?_
      refine th_getK S hK f26 inG9 rfl (by decide) gm_481 rfl dX9_tell_67 ?_
      refine lv_iload hx hb dX9_tell_70 (lv_at hl 5 rfl) ?_
      refine th_zast S hK hH hS ⟨42, by decide, trf29⟩ trf29 kd_42 (th_in (hi := 29) ir4 (by decide)) (fun z => th_iv (iv_nbool z)) dX9_tell_72 (fun H locs hH hS hq1 => ?_)
      have f31 := f26.kept (hq1 _ (th_ne t0 trf29 (by decide)))
      have f32 := f27.kept (hq1 _ (th_ne t0 trf29 (by decide)))
      refine lv_aload_n hx hb dX9_tell_73 rfl (lv_at hl 0 rfl) ?_
      refine th_get S hK hH inG9 t0 kd_8 rfl 3 (by decide) gm_478 rfl rfl dX9_tell_74 (fun v33 hv33 fv33 => ?_)
      obtain ⟨rf34, rfl, trf34⟩ := th_V.ref hv33
      refine lv_aload_n hx hb dX9_tell_77 rfl (lv_at hl 0 rfl) ?_
      refine th_getK S hK f31 inG9 rfl (by decide) gm_481 rfl dX9_tell_78 ?_
      refine lv_aload_n hx hb dX9_tell_81 rfl (lv_at hl 0 rfl) ?_
      refine th_get S hK hH inG9 t0 kd_8 rfl 7 (by decide) gm_483 rfl rfl dX9_tell_82 (fun v36 hv36 fv36 => ?_)
      obtain ⟨x37, rfl, ix37⟩ := th_V.int hv36
      have ix37 : IV x37 0 100000 := iv_w ix37 (qok_0 hq)
      refine th_iast S hK hH hS ⟨43, by decide, trf34⟩ trf34 kd_43 (th_in (hi := 29) ir4 (by decide)) (th_iv (iv_top _)) dX9_tell_85 (fun H locs hH hS hq1 => ?_)
      have f38 := f31.kept (hq1 _ (th_ne t0 trf34 (by decide)))
      have f39 := f32.kept (hq1 _ (th_ne t0 trf34 (by decide)))
      refine lv_aload_n hx hb dX9_tell_86 rfl (lv_at hl 0 rfl) ?_
      refine th_get S hK hH inG9 t0 kd_8 rfl 4 (by decide) gm_479 rfl rfl dX9_tell_87 (fun v40 hv40 fv40 => ?_)
      obtain ⟨rf41, rfl, trf41⟩ := th_V.ref hv40
      refine lv_aload_n hx hb dX9_tell_90 rfl (lv_at hl 0 rfl) ?_
      refine th_getK S hK f38 inG9 rfl (by decide) gm_481 rfl dX9_tell_91 ?_
      refine lv_iconst (v := (-1)) hx hb dX9_tell_94 (by decide) ?_
      refine th_iast S hK hH hS ⟨44, by decide, trf41⟩ trf41 kd_44 (th_in (hi := 29) ir4 (by decide)) (th_iv (iv_top _)) dX9_tell_95 (fun H locs hH hS hq1 => ?_)
      have f43 := f38.kept (hq1 _ (th_ne t0 trf41 (by decide)))
      have f44 := f39.kept (hq1 _ (th_ne t0 trf41 (by decide)))
      refine lv_aload_n hx hb dX9_tell_96 rfl (lv_at hl 0 rfl) ?_
      refine lv_dup hx hb dX9_tell_97 rfl ?_
      refine th_getK S hK f43 inG9 rfl (by decide) gm_481 rfl dX9_tell_98 ?_
      refine lv_iconst (v := 1) hx hb dX9_tell_101 (by decide) ?_
      refine lv_iadd hx hb dX9_tell_102 ?_
      refine lv_topi (fun x46 ex46 => ?_)
      have ix46 : IV x46 1 30 := by rw [ex46]; exact iv_add ir4 (iv_c (by decide) : IV 1 1 1) (by decide)
      refine th_put S hK hH hS ⟨8, by decide, t0⟩ inG9 tyX9 tyX9_ok nmX9 t0 kd_8 rfl 6 (by decide) gm_481 rfl rfl rfl rfl (th_iv (iv_w ix46 (by decide))) (fun _ _ => trivial) (ty := .int) (by decide +kernel) rfl rfl dX9_tell_103 (fun H locs hH hS hq1 hp1 => ?_)
      have f47 := hp1.2 0 _ (by decide) (by decide) f44
      have f48 := hp1.1
      refine lv_aload_n hx hb dX9_tell_106 rfl (lv_at hl 0 rfl) ?_
      refine th_getK S hK f48 inG9 rfl (by decide) gm_481 rfl dX9_tell_107 ?_
      refine lv_iconst (v := 1) hx hb dX9_tell_110 (by decide) ?_
      refine lv_isub hx hb dX9_tell_111 ?_
      refine lv_topi (fun x50 ex50 => ?_)
      have ix50 : IV x50 0 29 := by rw [ex50]; exact iv_sub ix46 (iv_c (by decide) : IV 1 1 1) (by decide)
      exact th_iret S hK hH hS hr hlocks (th_R.i (iv_w ix50 (by decide))) dX9_tell_112
    · skip
      have ir51 : IV x2 30 30 := iv_vR (iv_c (by decide) : IV 30 30 30) ix2 (iv_nlt c3) (by decide)
      refine lv_iconst (v := (-1)) hx hb dX9_tell_9 (by decide) ?_
      exact th_iret S hK hH hS hr hlocks (th_R.i (iv_w (iv_c (by decide) : IV (-1) (-1) (-1)) (by decide))) dX9_tell_10
  exact J0 s.heap [] ls hH va_S.rf hl

set_option maxRecDepth 100000 in
theorem m_X9_takeBack (l : Launch) (D : va_G) (cT : Nat → ClassId) (T : Nat → Option Nat) (q : Nat → Int) (hq : qok q) (a0 : Nat) (t0 : T a0 = some 8) (y1 : Int32) (j1 : IV y1 (-2147483648) 2147483647) : th_Met l D cT T (kd q) yX9_takeBack cX9_takeBack 2 (some .boolean) (rmk 0 0) [.ref a0, .int y1] (th_R T (some (.inl (0, 1)))) [44] := by
  refine th_start (by decide) (Nat.le_of_ble_eq_true rfl) ?_
  intro p e s m below meth c ls S hK hH hr hlocks hnm hl
  have hx := S.1
  have hb := S.2.1
  have hl : lv_has ls 2 [(0, .ref a0), (1, .int y1)] := hl
  have J22 : ∀ (H : Heap) (locs : List Loc) (ls : Array Slot), th_H D cT T (kd q) H → va_S (th_A T [44]) s.heap H locs → lv_has ls 2 [] → W p l e (rmk 0 0) s m [.ref a0, .int y1].toArray below meth c H locs 0 0 (MQ below (th_Q D cT T (kd q) (th_R T (some (.inl (0, 1)))) [44]) [.ref a0, .int y1].toArray s 0 0 (th_A T [44])) (F0 m 22 ls []) := by
    intro H locs ls hH hS hl
    refine lv_iconst (v := 0) hx hb dX9_takeBack_22 (by decide) ?_
    exact th_zret S hK hH hS hr hlocks (iv_w (iv_c (by decide) : IV 0 0 0) (by decide)) (th_R.i (iv_w (iv_c (by decide) : IV 0 0 0) (by decide))) dX9_takeBack_23
  have J0 : ∀ (H : Heap) (locs : List Loc) (ls : Array Slot), th_H D cT T (kd q) H → va_S (th_A T [44]) s.heap H locs → lv_has ls 2 [(0, .ref a0), (1, .int y1)] → W p l e (rmk 0 0) s m [.ref a0, .int y1].toArray below meth c H locs 0 0 (MQ below (th_Q D cT T (kd q) (th_R T (some (.inl (0, 1)))) [44]) [.ref a0, .int y1].toArray s 0 0 (th_A T [44])) (F0 m 0 ls []) := by
    intro H locs ls hH hS hl
    refine lv_iload_n hx hb dX9_takeBack_0 rfl (lv_at hl 1 rfl) ?_
    refine lv_if_lt (tgt := 22) hx hb dX9_takeBack_1 (by decide) (fun c1 => ?_) (fun c1 => ?_)
    · skip
      have ir2 : IV y1 (-2147483648) (-1) := iv_uL j1 (iv_c (by decide) : IV 0 0 0) (iv_lt c1) (by decide)
      exact J22 H locs ls  hH hS (lv_sub hl [] rfl)
    · skip
      have ir3 : IV y1 0 2147483647 := iv_vR (iv_c (by decide) : IV 0 0 0) j1 (iv_nlt c1) (by decide)
      refine lv_iload_n hx hb dX9_takeBack_4 rfl (lv_at hl 1 rfl) ?_
      refine lv_aload_n hx hb dX9_takeBack_5 rfl (lv_at hl 0 rfl) ?_
      refine th_get S hK hH inG9 t0 kd_8 rfl 6 (by decide) gm_481 rfl rfl dX9_takeBack_6 (fun v4 hv4 fv4 => ?_)
      obtain ⟨x5, rfl, ix5⟩ := th_V.int hv4
      refine lv_icmp_ge (tgt := 22) hx hb dX9_takeBack_9 (by decide) (fun c6 => ?_) (fun c6 => ?_)
      · skip
        exact J22 H locs ls  hH hS (lv_sub hl [] rfl)
      · skip
        have ir7 : IV y1 0 29 := iv_uL ir3 ix5 (iv_nle c6) (by decide)
        have ir8 : IV x5 1 30 := iv_uR ir3 ix5 (iv_nle c6) (by decide)
        refine lv_aload_n hx hb dX9_takeBack_12 rfl (lv_at hl 0 rfl) ?_
        refine th_get S hK hH inG9 t0 kd_8 rfl 4 (by decide) gm_479 rfl rfl dX9_takeBack_13 (fun v9 hv9 fv9 => ?_)
        obtain ⟨rf10, rfl, trf10⟩ := th_V.ref hv9
        refine lv_iload_n hx hb dX9_takeBack_16 rfl (lv_at hl 1 rfl) ?_
        refine th_iald S hK hH trf10 kd_44 (th_in (hi := 29) ir7 (by decide)) dX9_takeBack_17 (fun v11 hv11 => ?_)
        obtain ⟨x12, rfl, ix12⟩ := th_V.int hv11
        refine lv_iconst (v := (-1)) hx hb dX9_takeBack_18 (by decide) ?_
        refine lv_icmp_eq (tgt := 24) hx hb dX9_takeBack_19 (by decide) (fun c13 => ?_) (fun c13 => ?_)
        · skip
          have ir14 : IV x12 (-1) (-1) := iv_eL c13 (iv_c (by decide) : IV (-1) (-1) (-1))
          refine lv_aload_n hx hb dX9_takeBack_24 rfl (lv_at hl 0 rfl) ?_
          refine th_getK S hK fv9 inG9 rfl (by decide) gm_479 rfl dX9_takeBack_25 ?_
          refine lv_iload_n hx hb dX9_takeBack_28 rfl (lv_at hl 1 rfl) ?_
          refine lv_aload_n hx hb dX9_takeBack_29 rfl (lv_at hl 0 rfl) ?_
          refine th_get S hK hH inG9 t0 kd_8 rfl 7 (by decide) gm_483 rfl rfl dX9_takeBack_30 (fun v16 hv16 fv16 => ?_)
          obtain ⟨x17, rfl, ix17⟩ := th_V.int hv16
          have ix17 : IV x17 0 100000 := iv_w ix17 (qok_0 hq)
          refine th_iast S hK hH hS ⟨44, by decide, trf10⟩ trf10 kd_44 (th_in (hi := 29) ir7 (by decide)) (th_iv (iv_top _)) dX9_takeBack_33 (fun H locs hH hS hq1 => ?_)
          have f18 := fv9.kept (hq1 _ (th_ne t0 trf10 (by decide)))
          refine lv_iconst (v := 1) hx hb dX9_takeBack_34 (by decide) ?_
          exact th_zret S hK hH hS hr hlocks (iv_w (iv_c (by decide) : IV 1 1 1) (by decide)) (th_R.i (iv_w (iv_c (by decide) : IV 1 1 1) (by decide))) dX9_takeBack_35
        · skip
          exact J22 H locs ls  hH hS (lv_sub hl [] rfl)
  exact J0 s.heap [] ls hH va_S.rf hl

set_option maxRecDepth 100000 in
theorem m_X9_counts (l : Launch) (D : va_G) (cT : Nat → ClassId) (T : Nat → Option Nat) (q : Nat → Int) (hq : qok q) (a0 : Nat) (t0 : T a0 = some 8) (y1 : Int32) (j1 : IV y1 0 29) (y2 : Int32) (j2 : IV y2 (-2147483648) 2147483647) : th_Met l D cT T (kd q) yX9_counts cX9_counts 4 (some .boolean) (rmk 0 0) [.ref a0, .int y1, .int y2] (th_R T (some (.inl (0, 1)))) [] := by
  refine th_start (by decide) (Nat.le_of_ble_eq_true rfl) ?_
  intro p e s m below meth c ls S hK hH hr hlocks hnm hl
  have hx := S.1
  have hb := S.2.1
  have hl : lv_has ls 4 [(0, .ref a0), (1, .int y1), (2, .int y2)] := hl
  have J45_s0_0 : ∀ (H : Heap) (locs : List Loc) (ls : Array Slot), th_H D cT T (kd q) H → va_S (th_A T []) s.heap H locs → lv_has ls 4 [] → W p l e (rmk 0 0) s m [.ref a0, .int y1, .int y2].toArray below meth c H locs 0 0 (MQ below (th_Q D cT T (kd q) (th_R T (some (.inl (0, 1)))) []) [.ref a0, .int y1, .int y2].toArray s 0 0 (th_A T [])) (F0 m 45 ls [.int 0]) := by
    intro H locs ls hH hS hl
    exact th_zret S hK hH hS hr hlocks (iv_w (iv_c (by decide) : IV 0 0 0) (by decide)) (th_R.i (iv_w (iv_c (by decide) : IV 0 0 0) (by decide))) dX9_counts_45
  have J45_s0_1 : ∀ (H : Heap) (locs : List Loc) (ls : Array Slot), th_H D cT T (kd q) H → va_S (th_A T []) s.heap H locs → lv_has ls 4 [] → W p l e (rmk 0 0) s m [.ref a0, .int y1, .int y2].toArray below meth c H locs 0 0 (MQ below (th_Q D cT T (kd q) (th_R T (some (.inl (0, 1)))) []) [.ref a0, .int y1, .int y2].toArray s 0 0 (th_A T [])) (F0 m 45 ls [.int 1]) := by
    intro H locs ls hH hS hl
    exact th_zret S hK hH hS hr hlocks (iv_w (iv_c (by decide) : IV 1 1 1) (by decide)) (th_R.i (iv_w (iv_c (by decide) : IV 1 1 1) (by decide))) dX9_counts_45
  have J44 : ∀ (H : Heap) (locs : List Loc) (ls : Array Slot), th_H D cT T (kd q) H → va_S (th_A T []) s.heap H locs → lv_has ls 4 [] → W p l e (rmk 0 0) s m [.ref a0, .int y1, .int y2].toArray below meth c H locs 0 0 (MQ below (th_Q D cT T (kd q) (th_R T (some (.inl (0, 1)))) []) [.ref a0, .int y1, .int y2].toArray s 0 0 (th_A T [])) (F0 m 44 ls []) := by
    intro H locs ls hH hS hl
    refine lv_iconst (v := 0) hx hb dX9_counts_44 (by decide) ?_
    exact J45_s0_0 H locs ls  hH hS (lv_sub hl [] rfl)
  have J25_s0_0 : ∀ (H : Heap) (locs : List Loc) (ls : Array Slot), th_H D cT T (kd q) H → va_S (th_A T []) s.heap H locs → lv_has ls 4 [(0, .ref a0), (1, .int y1), (2, .int y2)] → W p l e (rmk 0 0) s m [.ref a0, .int y1, .int y2].toArray below meth c H locs 0 0 (MQ below (th_Q D cT T (kd q) (th_R T (some (.inl (0, 1)))) []) [.ref a0, .int y1, .int y2].toArray s 0 0 (th_A T [])) (F0 m 25 ls [.int 0]) := by
    intro H locs ls hH hS hl
    refine lv_istore_n (lv' := [(3, .int 0), (0, .ref a0), (1, .int y1), (2, .int y2)]) hx hb dX9_counts_25 rfl hl (by decide) rfl (fun ls hl => ?_)
    refine lv_aload_n hx hb dX9_counts_26 rfl (lv_at hl 1 rfl) ?_
    refine th_get S hK hH inG9 t0 kd_8 rfl 3 (by decide) gm_478 rfl rfl dX9_counts_27 (fun v1 hv1 fv1 => ?_)
    obtain ⟨rf2, rfl, trf2⟩ := th_V.ref hv1
    refine lv_iload_n hx hb dX9_counts_30 rfl (lv_at hl 2 rfl) ?_
    refine th_iald S hK hH trf2 kd_43 (th_in (hi := 29) j1 (by decide)) dX9_counts_31 (fun v3 hv3 => ?_)
    obtain ⟨x4, rfl, ix4⟩ := th_V.int hv3
    refine lv_iload_n hx hb dX9_counts_32 rfl (lv_at hl 3 rfl) ?_
    refine lv_icmp_gt (tgt := 44) hx hb dX9_counts_33 (by decide) (fun c5 => ?_) (fun c5 => ?_)
    · skip
      have ir6 : IV y2 (-2147483648) 2147483646 := iv_uL j2 ix4 (iv_lt c5) (by decide)
      have ir7 : IV x4 (-2147483647) 2147483647 := iv_uR j2 ix4 (iv_lt c5) (by decide)
      exact J44 H locs ls  hH hS (lv_sub hl [] rfl)
    · skip
      refine lv_iload_n hx hb dX9_counts_36 rfl (lv_at hl 0 rfl) ?_
      refine lv_if_ne (tgt := 44) hx hb dX9_counts_37 (by decide) (fun c8 => ?_) (fun c8 => ?_)
      · skip
        exact absurd (iv_eqc (iv_c (by decide) : IV 0 0 0) (iv_c (by decide) : IV 0 0 0)) c8
      · skip
        refine lv_iconst (v := 1) hx hb dX9_counts_40 (by decide) ?_
        refine lv_goto (tgt := 45) hx hb dX9_counts_41 (by decide) ?_
        exact J45_s0_1 H locs ls  hH hS (lv_sub hl [] rfl)
  have J25_s0_1 : ∀ (H : Heap) (locs : List Loc) (ls : Array Slot), th_H D cT T (kd q) H → va_S (th_A T []) s.heap H locs → lv_has ls 4 [(0, .ref a0), (1, .int y1), (2, .int y2)] → W p l e (rmk 0 0) s m [.ref a0, .int y1, .int y2].toArray below meth c H locs 0 0 (MQ below (th_Q D cT T (kd q) (th_R T (some (.inl (0, 1)))) []) [.ref a0, .int y1, .int y2].toArray s 0 0 (th_A T [])) (F0 m 25 ls [.int 1]) := by
    intro H locs ls hH hS hl
    refine lv_istore_n (lv' := [(3, .int 1), (0, .ref a0), (1, .int y1), (2, .int y2)]) hx hb dX9_counts_25 rfl hl (by decide) rfl (fun ls hl => ?_)
    refine lv_aload_n hx hb dX9_counts_26 rfl (lv_at hl 1 rfl) ?_
    refine th_get S hK hH inG9 t0 kd_8 rfl 3 (by decide) gm_478 rfl rfl dX9_counts_27 (fun v9 hv9 fv9 => ?_)
    obtain ⟨rf10, rfl, trf10⟩ := th_V.ref hv9
    refine lv_iload_n hx hb dX9_counts_30 rfl (lv_at hl 2 rfl) ?_
    refine th_iald S hK hH trf10 kd_43 (th_in (hi := 29) j1 (by decide)) dX9_counts_31 (fun v11 hv11 => ?_)
    obtain ⟨x12, rfl, ix12⟩ := th_V.int hv11
    refine lv_iload_n hx hb dX9_counts_32 rfl (lv_at hl 3 rfl) ?_
    refine lv_icmp_gt (tgt := 44) hx hb dX9_counts_33 (by decide) (fun c13 => ?_) (fun c13 => ?_)
    · skip
      have ir14 : IV y2 (-2147483648) 2147483646 := iv_uL j2 ix12 (iv_lt c13) (by decide)
      have ir15 : IV x12 (-2147483647) 2147483647 := iv_uR j2 ix12 (iv_lt c13) (by decide)
      exact J44 H locs ls  hH hS (lv_sub hl [] rfl)
    · skip
      refine lv_iload_n hx hb dX9_counts_36 rfl (lv_at hl 0 rfl) ?_
      refine lv_if_ne (tgt := 44) hx hb dX9_counts_37 (by decide) (fun c16 => ?_) (fun c16 => ?_)
      · skip
        exact J44 H locs ls  hH hS (lv_sub hl [] rfl)
      · skip
        exfalso
        have z1 := congrArg Int32.toInt c16
        have z2 := ((iv_c (by decide) : IV 1 1 1)).1
        have z3 := ((iv_c (by decide) : IV 1 1 1)).2
        have z4 := ((iv_c (by decide) : IV 0 0 0)).1
        have z5 := ((iv_c (by decide) : IV 0 0 0)).2
        omega
  have J24 : ∀ (H : Heap) (locs : List Loc) (ls : Array Slot), th_H D cT T (kd q) H → va_S (th_A T []) s.heap H locs → lv_has ls 4 [(0, .ref a0), (1, .int y1), (2, .int y2)] → W p l e (rmk 0 0) s m [.ref a0, .int y1, .int y2].toArray below meth c H locs 0 0 (MQ below (th_Q D cT T (kd q) (th_R T (some (.inl (0, 1)))) []) [.ref a0, .int y1, .int y2].toArray s 0 0 (th_A T [])) (F0 m 24 ls []) := by
    intro H locs ls hH hS hl
    refine lv_iconst (v := 0) hx hb dX9_counts_24 (by decide) ?_
    exact J25_s0_0 H locs ls  hH hS (lv_sub hl [0, 1, 2] rfl)
  have J0 : ∀ (H : Heap) (locs : List Loc) (ls : Array Slot), th_H D cT T (kd q) H → va_S (th_A T []) s.heap H locs → lv_has ls 4 [(0, .ref a0), (1, .int y1), (2, .int y2)] → W p l e (rmk 0 0) s m [.ref a0, .int y1, .int y2].toArray below meth c H locs 0 0 (MQ below (th_Q D cT T (kd q) (th_R T (some (.inl (0, 1)))) []) [.ref a0, .int y1, .int y2].toArray s 0 0 (th_A T [])) (F0 m 0 ls []) := by
    intro H locs ls hH hS hl
    refine lv_aload_n hx hb dX9_counts_0 rfl (lv_at hl 0 rfl) ?_
    refine th_get S hK hH inG9 t0 kd_8 rfl 4 (by decide) gm_479 rfl rfl dX9_counts_1 (fun v17 hv17 fv17 => ?_)
    obtain ⟨rf18, rfl, trf18⟩ := th_V.ref hv17
    refine lv_iload_n hx hb dX9_counts_4 rfl (lv_at hl 1 rfl) ?_
    refine th_iald S hK hH trf18 kd_44 (th_in (hi := 29) j1 (by decide)) dX9_counts_5 (fun v19 hv19 => ?_)
    obtain ⟨x20, rfl, ix20⟩ := th_V.int hv19
    refine lv_iconst (v := (-1)) hx hb dX9_counts_6 (by decide) ?_
    refine lv_icmp_eq (tgt := 24) hx hb dX9_counts_7 (by decide) (fun c21 => ?_) (fun c21 => ?_)
    · skip
      have ir22 : IV x20 (-1) (-1) := iv_eL c21 (iv_c (by decide) : IV (-1) (-1) (-1))
      exact J24 H locs ls  hH hS (lv_sub hl [0, 1, 2] rfl)
    · skip
      refine lv_aload_n hx hb dX9_counts_10 rfl (lv_at hl 0 rfl) ?_
      refine th_getK S hK fv17 inG9 rfl (by decide) gm_479 rfl dX9_counts_11 ?_
      refine lv_iload_n hx hb dX9_counts_14 rfl (lv_at hl 1 rfl) ?_
      refine th_iald S hK hH trf18 kd_44 (th_in (hi := 29) j1 (by decide)) dX9_counts_15 (fun v24 hv24 => ?_)
      obtain ⟨x25, rfl, ix25⟩ := th_V.int hv24
      refine lv_iload_n hx hb dX9_counts_16 rfl (lv_at hl 2 rfl) ?_
      refine lv_icmp_gt (tgt := 24) hx hb dX9_counts_17 (by decide) (fun c26 => ?_) (fun c26 => ?_)
      · skip
        have ir27 : IV y2 (-2147483648) 2147483646 := iv_uL j2 ix25 (iv_lt c26) (by decide)
        have ir28 : IV x25 (-2147483647) 2147483647 := iv_uR j2 ix25 (iv_lt c26) (by decide)
        exact J24 H locs ls  hH hS (lv_sub hl [0, 1, 2] rfl)
      · skip
        refine lv_iconst (v := 1) hx hb dX9_counts_20 (by decide) ?_
        refine lv_goto (tgt := 25) hx hb dX9_counts_21 (by decide) ?_
        exact J25_s0_1 H locs ls  hH hS (lv_sub hl [0, 1, 2] rfl)
  exact J0 s.heap [] ls hH va_S.rf hl

set_option maxRecDepth 100000 in
theorem m_X9_fits (l : Launch) (D : va_G) (cT : Nat → ClassId) (T : Nat → Option Nat) (q : Nat → Int) (hq : qok q) (a0 : Nat) (t0 : T a0 = some 8) (y1 : Int32) (j1 : IV y1 (-2147483648) 2147483647) (y2 : Int32) (j2 : IV y2 (-2147483648) 2147483647) (y3 : Int32) (j3 : IV y3 (-2147483648) 2147483647) (y4 : Int32) (j4 : IV y4 (-2147483648) 2147483647) : th_Met l D cT T (kd q) yX9_fits cX9_fits 7 (some .boolean) (rmk 1 23) [.ref a0, .int y1, .int y2, .int y3, .int y4] (th_R T (some (.inl (0, 1)))) [] := by
  refine th_start (by decide) (Nat.le_of_ble_eq_true rfl) ?_
  intro p e s m below meth c ls S hK hH hr hlocks hnm hl
  have hx := S.1
  have hb := S.2.1
  have hl : lv_has ls 7 [(0, .ref a0), (1, .int y1), (2, .int y2), (3, .int y3), (4, .int y4)] := hl
  have J3 : ∀ (n : Nat) (H : Heap) (locs : List Loc) (ls : Array Slot) (v3_5 : Int32), IV v3_5 0 30 → th_H D cT T (kd q) H → va_S (th_A T []) s.heap H locs → lv_has ls 7 [(0, .ref a0), (1, .int y1), (2, .int y2), (3, .int y3), (4, .int y4), (5, .int v3_5)] → (30 + 1 - v3_5.toInt).toNat < n → W p l e (rmk 1 23) s m [.ref a0, .int y1, .int y2, .int y3, .int y4].toArray below meth c H locs 0 0 (MQ below (th_Q D cT T (kd q) (th_R T (some (.inl (0, 1)))) []) [.ref a0, .int y1, .int y2, .int y3, .int y4].toArray s 0 0 (th_A T [])) (F0 m 3 ls []) := by
    intro n
    induction n with
    | zero => intro H locs ls v3_5 iv3_5 hH hS hl hn; exact absurd hn (Nat.not_lt_zero _)
    | succ n ih3 =>
      intro H locs ls v3_5 iv3_5 hH hS hl hn3
      have J93 : ∀ (H : Heap) (locs : List Loc) (ls : Array Slot), IV v3_5 0 29 → th_H D cT T (kd q) H → va_S (th_A T []) s.heap H locs → lv_has ls 7 [(0, .ref a0), (1, .int y1), (2, .int y2), (3, .int y3), (4, .int y4), (5, .int v3_5)] → W p l e (rmk 1 23) s m [.ref a0, .int y1, .int y2, .int y3, .int y4].toArray below meth c H locs 0 0 (MQ below (th_Q D cT T (kd q) (th_R T (some (.inl (0, 1)))) []) [.ref a0, .int y1, .int y2, .int y3, .int y4].toArray s 0 0 (th_A T [])) (F0 m 93 ls []) := by
        intro H locs ls f93_v3_5 hH hS hl
        refine th_iinc S dX9_fits_93 hl (k := 5) rfl (by decide) f93_v3_5 (by decide) (fun x1 ls ex1 ix1 hl => ?_)
        have hl : lv_has ls 7 [(5, .int x1), (0, .ref a0), (1, .int y1), (2, .int y2), (3, .int y3), (4, .int y4)] := hl
        have ix1 : IV x1 1 30 := ix1
        refine lv_goto (tgt := 3) hx hb dX9_fits_96 (by decide) ?_
        exact ih3 H locs ls x1 (iv_w ix1 (by decide)) hH hS (lv_sub hl [1, 2, 3, 4, 5, 0] rfl) (th_up iv3_5 ex1 (by decide) hn3)
      have J81_s0_0 : ∀ (H : Heap) (locs : List Loc) (ls : Array Slot), IV v3_5 0 29 → th_H D cT T (kd q) H → va_S (th_A T []) s.heap H locs → lv_has ls 7 [(0, .ref a0), (1, .int y1), (2, .int y2), (3, .int y3), (4, .int y4), (5, .int v3_5)] → W p l e (rmk 1 23) s m [.ref a0, .int y1, .int y2, .int y3, .int y4].toArray below meth c H locs 0 0 (MQ below (th_Q D cT T (kd q) (th_R T (some (.inl (0, 1)))) []) [.ref a0, .int y1, .int y2, .int y3, .int y4].toArray s 0 0 (th_A T [])) (F0 m 81 ls [.int 0]) := by
        intro H locs ls f81_v3_5 hH hS hl
        refine lv_aload_n hx hb dX9_fits_81 rfl (lv_at hl 0 rfl) ?_
        refine th_get S hK hH inG9 t0 kd_8 rfl 2 (by decide) gm_477 rfl rfl dX9_fits_82 (fun v2 hv2 fv2 => ?_)
        obtain ⟨rf3, rfl, trf3⟩ := th_V.ref hv2
        refine lv_iload hx hb dX9_fits_85 (lv_at hl 5 rfl) ?_
        refine th_zald S hK hH trf3 kd_42 (th_in (hi := 29) f81_v3_5 (by decide)) dX9_fits_87 (fun v4 hv4 => ?_)
        obtain ⟨x5, rfl, ix5⟩ := th_V.int hv4
        refine lv_icmp_eq (tgt := 93) hx hb dX9_fits_88 (by decide) (fun c6 => ?_) (fun c6 => ?_)
        · skip
          have ir7 : IV x5 0 0 := iv_eR c6 (iv_c (by decide) : IV 0 0 0)
          exact J93 H locs ls f81_v3_5 hH hS (lv_sub hl [0, 1, 2, 3, 4, 5] rfl)
        · skip
          refine lv_iconst (v := 0) hx hb dX9_fits_91 (by decide) ?_
          exact th_zret S hK hH hS hr hlocks (iv_w (iv_c (by decide) : IV 0 0 0) (by decide)) (th_R.i (iv_w (iv_c (by decide) : IV 0 0 0) (by decide))) dX9_fits_92
      have J81_s0_1 : ∀ (H : Heap) (locs : List Loc) (ls : Array Slot), IV v3_5 0 29 → th_H D cT T (kd q) H → va_S (th_A T []) s.heap H locs → lv_has ls 7 [(0, .ref a0), (1, .int y1), (2, .int y2), (3, .int y3), (4, .int y4), (5, .int v3_5)] → W p l e (rmk 1 23) s m [.ref a0, .int y1, .int y2, .int y3, .int y4].toArray below meth c H locs 0 0 (MQ below (th_Q D cT T (kd q) (th_R T (some (.inl (0, 1)))) []) [.ref a0, .int y1, .int y2, .int y3, .int y4].toArray s 0 0 (th_A T [])) (F0 m 81 ls [.int 1]) := by
        intro H locs ls f81_v3_5 hH hS hl
        refine lv_aload_n hx hb dX9_fits_81 rfl (lv_at hl 0 rfl) ?_
        refine th_get S hK hH inG9 t0 kd_8 rfl 2 (by decide) gm_477 rfl rfl dX9_fits_82 (fun v8 hv8 fv8 => ?_)
        obtain ⟨rf9, rfl, trf9⟩ := th_V.ref hv8
        refine lv_iload hx hb dX9_fits_85 (lv_at hl 5 rfl) ?_
        refine th_zald S hK hH trf9 kd_42 (th_in (hi := 29) f81_v3_5 (by decide)) dX9_fits_87 (fun v10 hv10 => ?_)
        obtain ⟨x11, rfl, ix11⟩ := th_V.int hv10
        refine lv_icmp_eq (tgt := 93) hx hb dX9_fits_88 (by decide) (fun c12 => ?_) (fun c12 => ?_)
        · skip
          have ir13 : IV x11 1 1 := iv_eR c12 (iv_c (by decide) : IV 1 1 1)
          exact J93 H locs ls f81_v3_5 hH hS (lv_sub hl [0, 1, 2, 3, 4, 5] rfl)
        · skip
          refine lv_iconst (v := 0) hx hb dX9_fits_91 (by decide) ?_
          exact th_zret S hK hH hS hr hlocks (iv_w (iv_c (by decide) : IV 0 0 0) (by decide)) (th_R.i (iv_w (iv_c (by decide) : IV 0 0 0) (by decide))) dX9_fits_92
      refine lv_iload hx hb dX9_fits_3 (lv_at hl 5 rfl) ?_
      refine lv_aload_n hx hb dX9_fits_5 rfl (lv_at hl 0 rfl) ?_
      refine th_get S hK hH inG9 t0 kd_8 rfl 6 (by decide) gm_481 rfl rfl dX9_fits_6 (fun v14 hv14 fv14 => ?_)
      obtain ⟨x15, rfl, ix15⟩ := th_V.int hv14
      refine lv_icmp_ge (tgt := 99) hx hb dX9_fits_9 (by decide) (fun c16 => ?_) (fun c16 => ?_)
      · skip
        refine lv_iconst (v := 1) hx hb dX9_fits_99 (by decide) ?_
        exact th_zret S hK hH hS hr hlocks (iv_w (iv_c (by decide) : IV 1 1 1) (by decide)) (th_R.i (iv_w (iv_c (by decide) : IV 1 1 1) (by decide))) dX9_fits_100
      · skip
        have ir17 : IV v3_5 0 29 := iv_uL iv3_5 ix15 (iv_nle c16) (by decide)
        have ir18 : IV x15 1 30 := iv_uR iv3_5 ix15 (iv_nle c16) (by decide)
        refine lv_aload_n hx hb dX9_fits_12 rfl (lv_at hl 0 rfl) ?_
        refine th_get S hK hH inG9 t0 kd_8 rfl 0 (by decide) gm_475 rfl rfl dX9_fits_13 (fun v19 hv19 fv19 => ?_)
        obtain ⟨rf20, rfl, trf20⟩ := th_V.ref hv19
        refine lv_iload hx hb dX9_fits_16 (lv_at hl 5 rfl) ?_
        refine lv_iconst (v := 3) hx hb dX9_fits_18 (by decide) ?_
        refine lv_imul hx hb dX9_fits_19 ?_
        refine lv_topi (fun x21 ex21 => ?_)
        have ix21 : IV x21 0 87 := by rw [ex21]; exact iv_mul ir17 (iv_c (by decide) : IV 3 3 3) (by decide) (by decide)
        refine th_iald S hK hH trf20 kd_40 (th_in (hi := 87) ix21 (by decide)) dX9_fits_20 (fun v22 hv22 => ?_)
        obtain ⟨x23, rfl, ix23⟩ := th_V.int hv22
        refine lv_iload_n hx hb dX9_fits_21 rfl (lv_at hl 1 rfl) ?_
        refine lv_imul hx hb dX9_fits_22 ?_
        refine lv_topi (fun x24 ex24 => ?_)
        have ix24 := iv_top x24
        refine lv_aload_n hx hb dX9_fits_23 rfl (lv_at hl 0 rfl) ?_
        refine th_getK S hK fv19 inG9 rfl (by decide) gm_475 rfl dX9_fits_24 ?_
        refine lv_iload hx hb dX9_fits_27 (lv_at hl 5 rfl) ?_
        refine lv_iconst (v := 3) hx hb dX9_fits_29 (by decide) ?_
        refine lv_imul hx hb dX9_fits_30 ?_
        refine lv_topi (fun x26 ex26 => ?_)
        have zx26 : x21 = x26 := ex21.trans ex26.symm
        subst zx26
        refine lv_iconst (v := 1) hx hb dX9_fits_31 (by decide) ?_
        refine lv_iadd hx hb dX9_fits_32 ?_
        refine lv_topi (fun x27 ex27 => ?_)
        have ix27 : IV x27 1 88 := by rw [ex27]; exact iv_add ix21 (iv_c (by decide) : IV 1 1 1) (by decide)
        refine th_iald S hK hH trf20 kd_40 (th_in (hi := 88) (iv_w ix27 (by decide)) (by decide)) dX9_fits_33 (fun v28 hv28 => ?_)
        obtain ⟨x29, rfl, ix29⟩ := th_V.int hv28
        refine lv_iload_n hx hb dX9_fits_34 rfl (lv_at hl 2 rfl) ?_
        refine lv_imul hx hb dX9_fits_35 ?_
        refine lv_topi (fun x30 ex30 => ?_)
        have ix30 := iv_top x30
        refine lv_iadd hx hb dX9_fits_36 ?_
        refine lv_topi (fun x31 ex31 => ?_)
        have ix31 := iv_top x31
        refine lv_aload_n hx hb dX9_fits_37 rfl (lv_at hl 0 rfl) ?_
        refine th_getK S hK fv19 inG9 rfl (by decide) gm_475 rfl dX9_fits_38 ?_
        refine lv_iload hx hb dX9_fits_41 (lv_at hl 5 rfl) ?_
        refine lv_iconst (v := 3) hx hb dX9_fits_43 (by decide) ?_
        refine lv_imul hx hb dX9_fits_44 ?_
        refine lv_topi (fun x33 ex33 => ?_)
        have zx33 : x21 = x33 := ex21.trans ex33.symm
        subst zx33
        refine lv_iconst (v := 2) hx hb dX9_fits_45 (by decide) ?_
        refine lv_iadd hx hb dX9_fits_46 ?_
        refine lv_topi (fun x34 ex34 => ?_)
        have ix34 : IV x34 2 89 := by rw [ex34]; exact iv_add ix21 (iv_c (by decide) : IV 2 2 2) (by decide)
        refine th_iald S hK hH trf20 kd_40 (th_in (hi := 89) (iv_w ix34 (by decide)) (by decide)) dX9_fits_47 (fun v35 hv35 => ?_)
        obtain ⟨x36, rfl, ix36⟩ := th_V.int hv35
        refine lv_iload_n hx hb dX9_fits_48 rfl (lv_at hl 3 rfl) ?_
        refine lv_imul hx hb dX9_fits_49 ?_
        refine lv_topi (fun x37 ex37 => ?_)
        have ix37 := iv_top x37
        refine lv_iadd hx hb dX9_fits_50 ?_
        refine lv_topi (fun x38 ex38 => ?_)
        have ix38 := iv_top x38
        refine lv_istore (lv' := [(6, .int x38), (0, .ref a0), (1, .int y1), (2, .int y2), (3, .int y3), (4, .int y4), (5, .int v3_5)]) hx hb dX9_fits_51 hl (by decide) rfl (fun ls hl => ?_)
        refine lv_aload_n hx hb dX9_fits_53 rfl (lv_at hl 1 rfl) ?_
        refine lv_iload hx hb dX9_fits_54 (lv_at hl 6 rfl) ?_
        refine lv_iload hx hb dX9_fits_56 (lv_at hl 5 rfl) ?_
        refine th_callVi (n := 2) (As := [.int v3_5, .int y4]) S hK hH hS (th_A.sub (by decide)) (m_X9_counts l D cT T q hq a0 t0 (v3_5) ir17 (y4) j4) gm_1176 gm_1173 gm_1175 gm_42 gm_123 (by decide +kernel) ⟨rfl, rfl, Nat.le_of_ble_eq_true rfl, Nat.le_of_ble_eq_true rfl⟩ t0 kd_8 rfl rfl hl.1 rfl (Nat.le_of_ble_eq_true rfl) dX9_fits_58 ⟨Nat.zero_le _, Nat.zero_le _⟩ (fun x39 H locs ix39 hH hS hF1 => ?_)
        have f40 := fv19.kept (hF1 _ fv19.lt (th_off t0 (by decide)))
        refine lv_if_eq (tgt := 93) hx hb dX9_fits_61 (by decide) (fun c41 => ?_) (fun c41 => ?_)
        · skip
          have ir42 : IV x39 0 0 := iv_eL c41 (iv_c (by decide) : IV 0 0 0)
          exact J93 H locs ls ir17 hH hS (lv_sub hl [1, 2, 3, 4, 5, 6] rfl)
        · skip
          have ir43 : IV x39 1 1 := iv_cutL ix39 (iv_c (by decide) : IV 0 0 0) c41 (by decide)
          refine lv_iload hx hb dX9_fits_64 (lv_at hl 0 rfl) ?_
          refine lv_aload_n hx hb dX9_fits_66 rfl (lv_at hl 1 rfl) ?_
          refine th_get S hK hH inG9 t0 kd_8 rfl 1 (by decide) gm_476 rfl rfl dX9_fits_67 (fun v44 hv44 fv44 => ?_)
          obtain ⟨rf45, rfl, trf45⟩ := th_V.ref hv44
          refine lv_iload hx hb dX9_fits_70 (lv_at hl 6 rfl) ?_
          refine th_iald S hK hH trf45 kd_41 (th_in (hi := 29) ir17 (by decide)) dX9_fits_72 (fun v46 hv46 => ?_)
          obtain ⟨x47, rfl, ix47⟩ := th_V.int hv46
          refine lv_icmp_lt (tgt := 80) hx hb dX9_fits_73 (by decide) (fun c48 => ?_) (fun c48 => ?_)
          · skip
            have ir49 : IV x38 (-2147483648) 2147483646 := iv_uL ix38 ix47 (iv_lt c48) (by decide)
            have ir50 : IV x47 (-2147483647) 2147483647 := iv_uR ix38 ix47 (iv_lt c48) (by decide)
            refine lv_iconst (v := 0) hx hb dX9_fits_80 (by decide) ?_
            exact J81_s0_0 H locs ls ir17 hH hS (lv_sub hl [1, 2, 3, 4, 5, 6] rfl)
          · skip
            refine lv_iconst (v := 1) hx hb dX9_fits_76 (by decide) ?_
            refine lv_goto (tgt := 81) hx hb dX9_fits_77 (by decide) ?_
            exact J81_s0_1 H locs ls ir17 hH hS (lv_sub hl [1, 2, 3, 4, 5, 6] rfl)
  have J0 : ∀ (H : Heap) (locs : List Loc) (ls : Array Slot), th_H D cT T (kd q) H → va_S (th_A T []) s.heap H locs → lv_has ls 7 [(0, .ref a0), (1, .int y1), (2, .int y2), (3, .int y3), (4, .int y4)] → W p l e (rmk 1 23) s m [.ref a0, .int y1, .int y2, .int y3, .int y4].toArray below meth c H locs 0 0 (MQ below (th_Q D cT T (kd q) (th_R T (some (.inl (0, 1)))) []) [.ref a0, .int y1, .int y2, .int y3, .int y4].toArray s 0 0 (th_A T [])) (F0 m 0 ls []) := by
    intro H locs ls hH hS hl
    refine lv_iconst (v := 0) hx hb dX9_fits_0 (by decide) ?_
    refine lv_istore (lv' := [(5, .int 0), (0, .ref a0), (1, .int y1), (2, .int y2), (3, .int y3), (4, .int y4)]) hx hb dX9_fits_1 hl (by decide) rfl (fun ls hl => ?_)
    exact J3 ((30 + 1 - Int32.toInt 0).toNat + 1) H locs ls 0 (iv_w (iv_c (by decide) : IV 0 0 0) (by decide)) hH hS (lv_sub hl [1, 2, 3, 4, 5, 0] rfl) (Nat.lt_succ_self _)
  exact J0 s.heap [] ls hH va_S.rf hl
